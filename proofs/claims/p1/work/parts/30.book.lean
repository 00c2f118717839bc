theorem d_Book_sumOf_0 : decode prog_1_method_29_code 0 = .ok (.iconst (-1), 1) := by decide +kernel
theorem d_Book_sumOf_1 : decode prog_1_method_29_code 1 = .ok (.istore_n 3, 1) := by decide +kernel
theorem d_Book_sumOf_2 : decode prog_1_method_29_code 2 = .ok (.iload_n 1, 1) := by decide +kernel
theorem d_Book_sumOf_3 : decode prog_1_method_29_code 3 = .ok (.istore 4, 2) := by decide +kernel
theorem d_Book_sumOf_5 : decode prog_1_method_29_code 5 = .ok (.iload 4, 2) := by decide +kernel
theorem d_Book_sumOf_7 : decode prog_1_method_29_code 7 = .ok (.iload_n 1, 1) := by decide +kernel
theorem d_Book_sumOf_8 : decode prog_1_method_29_code 8 = .ok (.iload_n 2, 1) := by decide +kernel
theorem d_Book_sumOf_9 : decode prog_1_method_29_code 9 = .ok (.iadd, 1) := by decide +kernel
theorem d_Book_sumOf_10 : decode prog_1_method_29_code 10 = .ok (.if_icmp .ge 59, 3) := by decide +kernel
theorem d_Book_sumOf_69 : decode prog_1_method_29_code 69 = .ok (.iload_n 3, 1) := by decide +kernel
theorem d_Book_sumOf_70 : decode prog_1_method_29_code 70 = .ok (.iconst (-1), 1) := by decide +kernel
theorem d_Book_sumOf_71 : decode prog_1_method_29_code 71 = .ok (.ixor, 1) := by decide +kernel
theorem d_Book_sumOf_72 : decode prog_1_method_29_code 72 = .ok (.ireturn, 1) := by decide +kernel
abbrev y_Book_sumOf : MethodName := ⟨"PackageBook", "sumOf", "([BII)I"⟩
abbrev i_Book_sumOf : pb_I := (y_Book_sumOf, prog_1_method_29_code, 7, (some Jvm.ClassFile.FieldType.int), [], { frames := 0, cells := 0, slots := 0, locals := 0 })
set_option maxRecDepth 100000 in
set_option maxHeartbeats 4000000 in
theorem c_Book_sumOf0 {l : Launch} (hl : l.stackTraces = false) (G : pb_G) (b : Nat) : Cn l G i_Book_sumOf [.ref b, .int 0, .int 0] [] (S := Unit) (fun v u => v = some (.int 0)) (fun u => []) := by
  refine Cn.of hl (by decide +kernel) rfl (Nat.le_of_ble_eq_true rfl) (fun M hQ => ?_)
  refine pb_eq (pc' := 0) (lo' := [(0, .ref b), (1, .int 0), (2, .int 0)]) (rest' := []) (ws' := []) ?_
  refine pb_iconst (pc := 0) (v := (-1)) d_Book_sumOf_0 (by decide) ?_
  refine pb_istore_n (pc := 1) (lo' := [(3, .int (-1)), (0, .ref b), (1, .int 0), (2, .int 0)]) d_Book_sumOf_1 rfl (by decide) rfl ?_
  refine pb_iload_n (pc := 2) d_Book_sumOf_2 2 rfl rfl ?_
  refine pb_istore (pc := 3) (lo' := [(4, .int 0), (3, .int (-1)), (0, .ref b), (1, .int 0), (2, .int 0)]) d_Book_sumOf_3 (by decide) rfl ?_
  refine pb_iload (pc := 5) d_Book_sumOf_5 0 rfl ?_
  refine pb_iload_n (pc := 7) d_Book_sumOf_7 3 rfl rfl ?_
  refine pb_iload_n (pc := 8) d_Book_sumOf_8 4 rfl rfl ?_
  refine pb_iadd (pc := 9) d_Book_sumOf_9 ?_
  refine pb_asi (y := 0) (by decide) ?_
  refine pb_icmp_ge (pc := 10) (tgt := 69) d_Book_sumOf_10 (by decide) (fun _ => ?_) (fun h9 => absurd h9 (by decide))
  refine pb_iload_n (pc := 69) d_Book_sumOf_69 1 rfl rfl ?_
  refine pb_iconst (pc := 70) (v := (-1)) d_Book_sumOf_70 (by decide) ?_
  refine pb_ixor (pc := 71) d_Book_sumOf_71 ?_
  refine pb_asi (y := 0) (by decide) ?_
  exact pb_iret (pc := 72) hQ d_Book_sumOf_72 rfl rfl () rfl [] (by decide) rfl rfl (by decide) (by decide)

theorem d_Book_remove_0 : decode prog_1_method_5_code 0 = .ok (.aload_n 0, 1) := by decide +kernel
theorem d_Book_remove_1 : decode prog_1_method_5_code 1 = .ok (.invokevirtual 106, 3) := by decide +kernel
theorem k_455 : (Jvm.Cond.methodLink "PackageBook" (106 : Nat) ({ cls := "PackageBook", name := "takeTape", desc := "()I" } : Jvm.MethodName)) ∈ uW := uW_of 455 (by decide +kernel) (by decide +kernel)
theorem k_118 : (Jvm.Cond.initialized "PackageBook") ∈ uW := uW_of 118 (by decide +kernel) (by decide +kernel)
theorem k_458 : (Jvm.Cond.code ({ cls := "PackageBook", name := "takeTape", desc := "()I" } : Jvm.MethodName) prog_1_method_20_code (2 : Nat) (Option.some Jvm.ClassFile.FieldType.int)) ∈ uW := uW_of 458 (by decide +kernel) (by decide +kernel)
theorem k_457 : (Jvm.Cond.instanceMethod ({ cls := "PackageBook", name := "takeTape", desc := "()I" } : Jvm.MethodName)) ∈ uW := uW_of 457 (by decide +kernel) (by decide +kernel)
theorem k_0 : Cond.selects "PackageBook" ⟨"PackageBook", "takeTape", "()I"⟩ ⟨"PackageBook", "takeTape", "()I"⟩ ∈ uW := uW_of 0 (by decide +kernel) (by decide +kernel)
theorem d_Book_remove_4 : decode prog_1_method_5_code 4 = .ok (.istore_n 1, 1) := by decide +kernel
theorem d_Book_remove_5 : decode prog_1_method_5_code 5 = .ok (.aload_n 0, 1) := by decide +kernel
theorem d_Book_remove_6 : decode prog_1_method_5_code 6 = .ok (.getfield 70, 3) := by decide +kernel
theorem d_Book_remove_9 : decode prog_1_method_5_code 9 = .ok (.aload_n 0, 1) := by decide +kernel
theorem d_Book_remove_10 : decode prog_1_method_5_code 10 = .ok (.getfield 14, 3) := by decide +kernel
theorem d_Book_remove_13 : decode prog_1_method_5_code 13 = .ok (.getfield 98, 3) := by decide +kernel
theorem k_157 : (Jvm.Cond.fieldLinkNest "PackageBook" (98 : Nat) "PackageBook$Row" "bytes" "[B" "PackageBook") ∈ uN := uN_of 157 (by decide +kernel) (by decide +kernel)
theorem d_Book_remove_16 : decode prog_1_method_5_code 16 = .ok (.iconst 0, 1) := by decide +kernel
theorem d_Book_remove_17 : decode prog_1_method_5_code 17 = .ok (.iload_n 1, 1) := by decide +kernel
theorem d_Book_remove_18 : decode prog_1_method_5_code 18 = .ok (.invokevirtual 116, 3) := by decide +kernel
theorem k_459 : (Jvm.Cond.methodLink "PackageBook" (116 : Nat) ({ cls := "PackageBook$Shelf", name := "find", desc := "([BII)I" } : Jvm.MethodName)) ∈ uW := uW_of 459 (by decide +kernel) (by decide +kernel)
theorem k_462 : (Jvm.Cond.code ({ cls := "PackageBook$Shelf", name := "find", desc := "([BII)I" } : Jvm.MethodName) prog_10_method_6_code (5 : Nat) (Option.some Jvm.ClassFile.FieldType.int)) ∈ uW := uW_of 462 (by decide +kernel) (by decide +kernel)
theorem k_460 : (Jvm.Cond.instanceMethod ({ cls := "PackageBook$Shelf", name := "find", desc := "([BII)I" } : Jvm.MethodName)) ∈ uW := uW_of 460 (by decide +kernel) (by decide +kernel)
theorem k_461 : (Jvm.Cond.selects "PackageBook$Shelf" ({ cls := "PackageBook$Shelf", name := "find", desc := "([BII)I" } : Jvm.MethodName) ({ cls := "PackageBook$Shelf", name := "find", desc := "([BII)I" } : Jvm.MethodName)) ∈ uW := uW_of 461 (by decide +kernel) (by decide +kernel)
theorem d_Book_remove_21 : decode prog_1_method_5_code 21 = .ok (.istore_n 2, 1) := by decide +kernel
theorem d_Book_remove_22 : decode prog_1_method_5_code 22 = .ok (.aload_n 0, 1) := by decide +kernel
theorem d_Book_remove_23 : decode prog_1_method_5_code 23 = .ok (.getfield 70, 3) := by decide +kernel
theorem d_Book_remove_26 : decode prog_1_method_5_code 26 = .ok (.iload_n 2, 1) := by decide +kernel
theorem d_Book_remove_27 : decode prog_1_method_5_code 27 = .ok (.invokevirtual 126, 3) := by decide +kernel
theorem k_466 : (Jvm.Cond.methodLink "PackageBook" (126 : Nat) ({ cls := "PackageBook$Shelf", name := "takeOut", desc := "(I)V" } : Jvm.MethodName)) ∈ uW := uW_of 466 (by decide +kernel) (by decide +kernel)
theorem k_469 : (Jvm.Cond.code ({ cls := "PackageBook$Shelf", name := "takeOut", desc := "(I)V" } : Jvm.MethodName) prog_10_method_8_code (5 : Nat) (Option.none : Option Jvm.ClassFile.FieldType)) ∈ uW := uW_of 469 (by decide +kernel) (by decide +kernel)
theorem k_467 : (Jvm.Cond.instanceMethod ({ cls := "PackageBook$Shelf", name := "takeOut", desc := "(I)V" } : Jvm.MethodName)) ∈ uW := uW_of 467 (by decide +kernel) (by decide +kernel)
theorem k_468 : (Jvm.Cond.selects "PackageBook$Shelf" ({ cls := "PackageBook$Shelf", name := "takeOut", desc := "(I)V" } : Jvm.MethodName) ({ cls := "PackageBook$Shelf", name := "takeOut", desc := "(I)V" } : Jvm.MethodName)) ∈ uW := uW_of 468 (by decide +kernel) (by decide +kernel)
theorem d_Book_remove_30 : decode prog_1_method_5_code 30 = .ok (.iload_n 2, 1) := by decide +kernel
theorem d_Book_remove_31 : decode prog_1_method_5_code 31 = .ok (.ifCond .lt 7, 3) := by decide +kernel
theorem d_Book_remove_38 : decode prog_1_method_5_code 38 = .ok (.iconst 0, 1) := by decide +kernel
theorem d_Book_remove_39 : decode prog_1_method_5_code 39 = .ok (.ireturn, 1) := by decide +kernel
abbrev y_Book_remove : MethodName := ⟨"PackageBook", "remove", "()Z"⟩
abbrev i_Book_remove : pb_I := (y_Book_remove, prog_1_method_5_code, 3, (some Jvm.ClassFile.FieldType.boolean), [], { frames := 2, cells := 0, slots := 0, locals := 45 })
set_option maxRecDepth 100000 in
set_option maxHeartbeats 4000000 in
theorem c_Book_remove {l : Launch} (hl : l.stackTraces = false) (G : pb_G) (h : Nat) (ta : Nat) (ca : Nat) (ps : Nat) (ex_ : Nat) (mk : Nat) (rd : Nat) (mu : Nat) (fi : Nat) (go : Nat) (sp : Nat) (ss : Nat) (tb : Nat) (spn : Nat) (spz : Nat) (spb : Nat) (spg : Nat) : Cn l G i_Book_remove [.ref h] [(h, .inr (9, [.ref ta, .ref ca, .ref ps, .ref ex_, .ref mk, .ref rd, .ref mu, .ref fi, .ref go, .ref sp, .ref ss])), (ta, .inr (0, [.ref tb, .int 0])), (sp, .inr (3, [.ref spn, .ref spz, .ref spb, .ref spg, .int 0]))] (S := Unit) (fun v u => v = some (.int 0)) (fun u => []) := by
  refine Cn.of hl (by decide +kernel) rfl (Nat.le_of_ble_eq_true rfl) (fun M hQ => ?_)
  refine pb_eq (pc' := 0) (lo' := [(0, .ref h)]) (rest' := []) (ws' := [(h, .inr (9, [.ref ta, .ref ca, .ref ps, .ref ex_, .ref mk, .ref rd, .ref mu, .ref fi, .ref go, .ref sp, .ref ss])), (ta, .inr (0, [.ref tb, .int 0])), (sp, .inr (3, [.ref spn, .ref spz, .ref spb, .ref spg, .int 0]))]) ?_
  refine pb_aload_n (pc := 0) d_Book_remove_0 0 rfl rfl ?_
  refine pb_callV (pc := 1) (qb := 0) (ci := 9) (nA := 0) (rest := []) (wr := [(sp, .inr (3, [.ref spn, .ref spz, .ref spb, .ref spg, .int 0]))]) d_Book_remove_1 (c_Book_takeTape hl G h ta ca ps ex_ mk rd mu fi go sp ss tb 0) rfl rfl [0, 1] [2] (by decide) rfl rfl rfl (by decide) (by decide) k_458 rfl k_118 k_455 k_457 k_0 (by decide +kernel) (by decide) rfl rfl (Nat.le_of_ble_eq_true rfl) (by decide) (fun v9 u2 h1 => ?_)
  have eh1 := h1
  have eh1 : v9 = some (.int 0) := eh1
  subst eh1
  refine pb_eq (pc' := 4) (lo' := [(0, .ref h)]) (rest' := [.int 0]) (ws' := [(sp, .inr (3, [.ref spn, .ref spz, .ref spb, .ref spg, .int 0])), (h, .inr (9, [.ref ta, .ref ca, .ref ps, .ref ex_, .ref mk, .ref rd, .ref mu, .ref fi, .ref go, .ref sp, .ref ss])), (ta, .inr (0, [.ref tb, .int 0]))]) ?_
  refine pb_istore_n (pc := 4) (lo' := [(1, .int 0), (0, .ref h)]) d_Book_remove_4 rfl (by decide) rfl ?_
  refine pb_aload_n (pc := 5) d_Book_remove_5 1 rfl rfl ?_
  refine pb_get (pc := 6) d_Book_remove_6 1 9 rfl rfl (by decide) in_Book k_426 rfl ?_
  refine pb_aload_n (pc := 9) d_Book_remove_9 1 rfl rfl ?_
  refine pb_get (pc := 10) d_Book_remove_10 1 0 rfl rfl (by decide) in_Book k_417 rfl ?_
  refine pb_getN (pc := 13) d_Book_remove_13 2 0 rfl rfl (by decide) in_Row k_157 rfl ?_
  refine pb_iconst (pc := 16) (v := 0) d_Book_remove_16 (by decide) ?_
  refine pb_iload_n (pc := 17) d_Book_remove_17 0 rfl rfl ?_
  refine pb_callV (pc := 18) (qb := 0) (ci := 3) (nA := 3) (rest := []) (wr := [(h, .inr (9, [.ref ta, .ref ca, .ref ps, .ref ex_, .ref mk, .ref rd, .ref mu, .ref fi, .ref go, .ref sp, .ref ss])), (ta, .inr (0, [.ref tb, .int 0]))]) d_Book_remove_18 (c_Shelf_find hl G sp spn spz spb spg tb 0 0) rfl rfl [0] [1, 2] (by decide) rfl rfl rfl (by decide) (by decide) k_462 rfl k_127 k_459 k_460 k_461 (by decide +kernel) (by decide) rfl rfl (Nat.le_of_ble_eq_true rfl) (by decide) (fun v9 u4 h3 => ?_)
  have eh3 := h3
  have eh3 : v9 = some (.int (-1)) := eh3
  subst eh3
  refine pb_eq (pc' := 21) (lo' := [(1, .int 0), (0, .ref h)]) (rest' := [.int (-1)]) (ws' := [(h, .inr (9, [.ref ta, .ref ca, .ref ps, .ref ex_, .ref mk, .ref rd, .ref mu, .ref fi, .ref go, .ref sp, .ref ss])), (ta, .inr (0, [.ref tb, .int 0])), (sp, .inr (3, [.ref spn, .ref spz, .ref spb, .ref spg, .int 0]))]) ?_
  refine pb_istore_n (pc := 21) (lo' := [(2, .int (-1)), (1, .int 0), (0, .ref h)]) d_Book_remove_21 rfl (by decide) rfl ?_
  refine pb_aload_n (pc := 22) d_Book_remove_22 2 rfl rfl ?_
  refine pb_get (pc := 23) d_Book_remove_23 0 9 rfl rfl (by decide) in_Book k_426 rfl ?_
  refine pb_iload_n (pc := 26) d_Book_remove_26 0 rfl rfl ?_
  refine pb_callV (pc := 27) (qb := 2) (ci := 3) (nA := 1) (rest := []) (wr := [(h, .inr (9, [.ref ta, .ref ca, .ref ps, .ref ex_, .ref mk, .ref rd, .ref mu, .ref fi, .ref go, .ref sp, .ref ss])), (ta, .inr (0, [.ref tb, .int 0]))]) d_Book_remove_27 (c_Shelf_takeOut hl G sp spn spz spb spg (-1)) rfl rfl [2] [0, 1] (by decide) rfl rfl rfl (by decide) (by decide) k_469 rfl k_127 k_466 k_467 k_468 (by decide +kernel) (by decide) rfl rfl (Nat.le_of_ble_eq_true rfl) (by decide) (fun v9 u6 h5 => ?_)
  have eh5 := h5
  have eh5 : v9 = none := eh5
  subst eh5
  refine pb_eq (pc' := 30) (lo' := [(2, .int (-1)), (1, .int 0), (0, .ref h)]) (rest' := []) (ws' := [(h, .inr (9, [.ref ta, .ref ca, .ref ps, .ref ex_, .ref mk, .ref rd, .ref mu, .ref fi, .ref go, .ref sp, .ref ss])), (ta, .inr (0, [.ref tb, .int 0])), (sp, .inr (3, [.ref spn, .ref spz, .ref spb, .ref spg, .int 0]))]) ?_
  refine pb_iload_n (pc := 30) d_Book_remove_30 0 rfl rfl ?_
  refine pb_if_lt (pc := 31) (tgt := 38) d_Book_remove_31 (by decide) (fun _ => ?_) (fun h9 => absurd h9 (by decide))
  refine pb_iconst (pc := 38) (v := 0) d_Book_remove_38 (by decide) ?_
  exact pb_iret (pc := 39) hQ d_Book_remove_39 rfl rfl () rfl [] (by decide) rfl rfl (by decide) (by decide)

theorem d_Book_sum_0 : decode prog_1_method_14_code 0 = .ok (.aload_n 0, 1) := by decide +kernel
theorem d_Book_sum_1 : decode prog_1_method_14_code 1 = .ok (.getfield 14, 3) := by decide +kernel
theorem d_Book_sum_4 : decode prog_1_method_14_code 4 = .ok (.getfield 98, 3) := by decide +kernel
theorem d_Book_sum_7 : decode prog_1_method_14_code 7 = .ok (.iconst 0, 1) := by decide +kernel
theorem d_Book_sum_8 : decode prog_1_method_14_code 8 = .ok (.aload_n 0, 1) := by decide +kernel
theorem d_Book_sum_9 : decode prog_1_method_14_code 9 = .ok (.invokevirtual 106, 3) := by decide +kernel
theorem d_Book_sum_12 : decode prog_1_method_14_code 12 = .ok (.invokestatic 202, 3) := by decide +kernel
theorem k_727 : (Jvm.Cond.methodLink "PackageBook" (202 : Nat) ({ cls := "PackageBook", name := "sumOf", desc := "([BII)I" } : Jvm.MethodName)) ∈ uW := uW_of 727 (by decide +kernel) (by decide +kernel)
theorem k_559 : (Jvm.Cond.code ({ cls := "PackageBook", name := "sumOf", desc := "([BII)I" } : Jvm.MethodName) prog_1_method_29_code (7 : Nat) (Option.some Jvm.ClassFile.FieldType.int)) ∈ uW := uW_of 559 (by decide +kernel) (by decide +kernel)
theorem k_558 : (Jvm.Cond.static ({ cls := "PackageBook", name := "sumOf", desc := "([BII)I" } : Jvm.MethodName)) ∈ uW := uW_of 558 (by decide +kernel) (by decide +kernel)
theorem d_Book_sum_15 : decode prog_1_method_14_code 15 = .ok (.ireturn, 1) := by decide +kernel
abbrev y_Book_sum : MethodName := ⟨"PackageBook", "sum", "()I"⟩
abbrev i_Book_sum : pb_I := (y_Book_sum, prog_1_method_14_code, 1, (some Jvm.ClassFile.FieldType.int), [], { frames := 1, cells := 0, slots := 0, locals := 26 })
set_option maxRecDepth 100000 in
set_option maxHeartbeats 4000000 in
theorem c_Book_sum {l : Launch} (hl : l.stackTraces = false) (G : pb_G) (h : Nat) (ta : Nat) (ca : Nat) (ps : Nat) (ex_ : Nat) (mk : Nat) (rd : Nat) (mu : Nat) (fi : Nat) (go : Nat) (sp : Nat) (ss : Nat) (tb : Nat) : Cn l G i_Book_sum [.ref h] [(h, .inr (9, [.ref ta, .ref ca, .ref ps, .ref ex_, .ref mk, .ref rd, .ref mu, .ref fi, .ref go, .ref sp, .ref ss])), (ta, .inr (0, [.ref tb, .int 0]))] (S := Unit) (fun v u => v = some (.int 0)) (fun u => []) := by
  refine Cn.of hl (by decide +kernel) rfl (Nat.le_of_ble_eq_true rfl) (fun M hQ => ?_)
  refine pb_eq (pc' := 0) (lo' := [(0, .ref h)]) (rest' := []) (ws' := [(h, .inr (9, [.ref ta, .ref ca, .ref ps, .ref ex_, .ref mk, .ref rd, .ref mu, .ref fi, .ref go, .ref sp, .ref ss])), (ta, .inr (0, [.ref tb, .int 0]))]) ?_
  refine pb_aload_n (pc := 0) d_Book_sum_0 0 rfl rfl ?_
  refine pb_get (pc := 1) d_Book_sum_1 0 0 rfl rfl (by decide) in_Book k_417 rfl ?_
  refine pb_getN (pc := 4) d_Book_sum_4 1 0 rfl rfl (by decide) in_Row k_157 rfl ?_
  refine pb_iconst (pc := 7) (v := 0) d_Book_sum_7 (by decide) ?_
  refine pb_aload_n (pc := 8) d_Book_sum_8 0 rfl rfl ?_
  refine pb_callV (pc := 9) (qb := 0) (ci := 9) (nA := 0) (rest := [.int 0, .ref tb]) (wr := []) d_Book_sum_9 (c_Book_takeTape hl G h ta ca ps ex_ mk rd mu fi go sp ss tb 0) rfl rfl [0, 1] [] (by decide) rfl rfl rfl (by decide) (by decide) k_458 rfl k_118 k_455 k_457 k_0 (by decide +kernel) (by decide) rfl rfl (Nat.le_of_ble_eq_true rfl) (by decide) (fun v9 u2 h1 => ?_)
  have eh1 := h1
  have eh1 : v9 = some (.int 0) := eh1
  subst eh1
  refine pb_eq (pc' := 12) (lo' := [(0, .ref h)]) (rest' := [.int 0, .int 0, .ref tb]) (ws' := [(h, .inr (9, [.ref ta, .ref ca, .ref ps, .ref ex_, .ref mk, .ref rd, .ref mu, .ref fi, .ref go, .ref sp, .ref ss])), (ta, .inr (0, [.ref tb, .int 0]))]) ?_
  refine pb_callS (pc := 12) (nA := 3) (rest := []) (wr := [(h, .inr (9, [.ref ta, .ref ca, .ref ps, .ref ex_, .ref mk, .ref rd, .ref mu, .ref fi, .ref go, .ref sp, .ref ss])), (ta, .inr (0, [.ref tb, .int 0]))]) d_Book_sum_12 (c_Book_sumOf0 hl G tb) [] [0, 1] (by decide) rfl rfl rfl (by decide) (by decide) k_559 rfl k_118 k_727 k_558 (by decide +kernel) (by decide) rfl rfl (Nat.le_of_ble_eq_true rfl) (by decide) (fun v9 u4 h3 => ?_)
  have eh3 := h3
  have eh3 : v9 = some (.int 0) := eh3
  subst eh3
  refine pb_eq (pc' := 15) (lo' := [(0, .ref h)]) (rest' := [.int 0]) (ws' := [(h, .inr (9, [.ref ta, .ref ca, .ref ps, .ref ex_, .ref mk, .ref rd, .ref mu, .ref fi, .ref go, .ref sp, .ref ss])), (ta, .inr (0, [.ref tb, .int 0]))]) ?_
  exact pb_iret (pc := 15) hQ d_Book_sum_15 rfl rfl () rfl [] (by decide) rfl rfl (by decide) (by decide)

theorem d_Book_write_0 : decode prog_1_method_8_code 0 = .ok (.aload_n 0, 1) := by decide +kernel
theorem d_Book_write_1 : decode prog_1_method_8_code 1 = .ok (.getfield 38, 3) := by decide +kernel
theorem d_Book_write_4 : decode prog_1_method_8_code 4 = .ok (.aload_n 0, 1) := by decide +kernel
theorem d_Book_write_5 : decode prog_1_method_8_code 5 = .ok (.getfield 70, 3) := by decide +kernel
theorem d_Book_write_8 : decode prog_1_method_8_code 8 = .ok (.aload_n 0, 1) := by decide +kernel
theorem d_Book_write_9 : decode prog_1_method_8_code 9 = .ok (.getfield 24, 3) := by decide +kernel
theorem d_Book_write_12 : decode prog_1_method_8_code 12 = .ok (.invokevirtual 164, 3) := by decide +kernel
theorem k_489 : (Jvm.Cond.methodLink "PackageBook" (164 : Nat) ({ cls := "PackageBook$FileMaker", name := "make", desc := "(LPackageBook$Shelf;LPackageBook$Presser;)V" } : Jvm.MethodName)) ∈ uW := uW_of 489 (by decide +kernel) (by decide +kernel)
theorem k_492 : (Jvm.Cond.code ({ cls := "PackageBook$FileMaker", name := "make", desc := "(LPackageBook$Shelf;LPackageBook$Presser;)V" } : Jvm.MethodName) prog_4_method_2_code (5 : Nat) (Option.none : Option Jvm.ClassFile.FieldType)) ∈ uW := uW_of 492 (by decide +kernel) (by decide +kernel)
theorem k_490 : (Jvm.Cond.instanceMethod ({ cls := "PackageBook$FileMaker", name := "make", desc := "(LPackageBook$Shelf;LPackageBook$Presser;)V" } : Jvm.MethodName)) ∈ uW := uW_of 490 (by decide +kernel) (by decide +kernel)
theorem k_491 : (Jvm.Cond.selects "PackageBook$FileMaker" ({ cls := "PackageBook$FileMaker", name := "make", desc := "(LPackageBook$Shelf;LPackageBook$Presser;)V" } : Jvm.MethodName) ({ cls := "PackageBook$FileMaker", name := "make", desc := "(LPackageBook$Shelf;LPackageBook$Presser;)V" } : Jvm.MethodName)) ∈ uW := uW_of 491 (by decide +kernel) (by decide +kernel)
theorem d_Book_write_15 : decode prog_1_method_8_code 15 = .ok (.aload_n 0, 1) := by decide +kernel
theorem d_Book_write_16 : decode prog_1_method_8_code 16 = .ok (.getfield 38, 3) := by decide +kernel
theorem d_Book_write_19 : decode prog_1_method_8_code 19 = .ok (.getfield 168, 3) := by decide +kernel
theorem k_293 : (Jvm.Cond.fieldLinkNest "PackageBook" (168 : Nat) "PackageBook$FileMaker" "made" "LPackageBook$Row;" "PackageBook") ∈ uN := uN_of 293 (by decide +kernel) (by decide +kernel)
theorem d_Book_write_22 : decode prog_1_method_8_code 22 = .ok (.getfield 84, 3) := by decide +kernel
theorem d_Book_write_25 : decode prog_1_method_8_code 25 = .ok (.ireturn, 1) := by decide +kernel
abbrev y_Book_write : MethodName := ⟨"PackageBook", "write", "()I"⟩
abbrev i_Book_write : pb_I := (y_Book_write, prog_1_method_8_code, 1, (some Jvm.ClassFile.FieldType.int), [], { frames := 5, cells := 0, slots := 0, locals := 110 })
set_option maxRecDepth 100000 in
set_option maxHeartbeats 4000000 in
theorem c_Book_write {l : Launch} (hl : l.stackTraces = false) (G : pb_G) (h : Nat) (ta : Nat) (ca : Nat) (ps : Nat) (ex_ : Nat) (mk : Nat) (rd : Nat) (mu : Nat) (fi : Nat) (go : Nat) (sp : Nat) (ss : Nat) (spn : Nat) (spz : Nat) (spb : Nat) (spg : Nat) (mm : Nat) (mr : Nat) (mb : Nat) (f : Nat → Int32) : Cn l G i_Book_write [.ref h] [(h, .inr (9, [.ref ta, .ref ca, .ref ps, .ref ex_, .ref mk, .ref rd, .ref mu, .ref fi, .ref go, .ref sp, .ref ss])), (mk, .inr (6, [.ref mm, .ref mr])), (mm, .inr (0, [.ref mb, .int 0])), (mb, .inl (G.2.1, 14006, .inl f)), (sp, .inr (3, [.ref spn, .ref spz, .ref spb, .ref spg, .int 0]))] (S := Int32) (fun v u => v = some (.int u) ∧ (u.toInt = 22)) (fun u => []) := by
  refine Cn.of hl (by decide +kernel) rfl (Nat.le_of_ble_eq_true rfl) (fun M hQ => ?_)
  refine pb_eq (pc' := 0) (lo' := [(0, .ref h)]) (rest' := []) (ws' := [(h, .inr (9, [.ref ta, .ref ca, .ref ps, .ref ex_, .ref mk, .ref rd, .ref mu, .ref fi, .ref go, .ref sp, .ref ss])), (mk, .inr (6, [.ref mm, .ref mr])), (mm, .inr (0, [.ref mb, .int 0])), (mb, .inl (G.2.1, 14006, .inl f)), (sp, .inr (3, [.ref spn, .ref spz, .ref spb, .ref spg, .int 0]))]) ?_
  refine pb_aload_n (pc := 0) d_Book_write_0 0 rfl rfl ?_
  refine pb_get (pc := 1) d_Book_write_1 0 4 rfl rfl (by decide) in_Book k_421 rfl ?_
  refine pb_aload_n (pc := 4) d_Book_write_4 0 rfl rfl ?_
  refine pb_get (pc := 5) d_Book_write_5 0 9 rfl rfl (by decide) in_Book k_426 rfl ?_
  refine pb_aload_n (pc := 8) d_Book_write_8 0 rfl rfl ?_
  refine pb_get (pc := 9) d_Book_write_9 0 2 rfl rfl (by decide) in_Book k_419 rfl ?_
  refine pb_callV (pc := 12) (qb := 1) (ci := 6) (nA := 2) (rest := []) (wr := [(h, .inr (9, [.ref ta, .ref ca, .ref ps, .ref ex_, .ref mk, .ref rd, .ref mu, .ref fi, .ref go, .ref sp, .ref ss]))]) d_Book_write_12 (c_Maker_make hl G mk mm mr mb f sp spn spz spb spg ps) rfl rfl [1, 2, 3, 4] [0] (by decide) rfl rfl rfl (by decide) (by decide) k_492 rfl k_123 k_489 k_490 k_491 (by decide +kernel) (by decide) rfl rfl (Nat.le_of_ble_eq_true rfl) (by decide) (fun v9 u2 h1 => ?_)
  obtain ⟨s_3, f_4⟩ := u2
  obtain ⟨eh1, h1⟩ := h1
  have eh1 : v9 = none := eh1
  subst eh1
  have h5 : s_3.toInt = 22 := h1
  refine pb_eq (pc' := 15) (lo' := [(0, .ref h)]) (rest' := []) (ws' := [(h, .inr (9, [.ref ta, .ref ca, .ref ps, .ref ex_, .ref mk, .ref rd, .ref mu, .ref fi, .ref go, .ref sp, .ref ss])), (mk, .inr (6, [.ref mm, .ref mr])), (mm, .inr (0, [.ref mb, .int s_3])), (mb, .inl (G.2.1, 14006, .inl f_4))]) ?_
  refine pb_aload_n (pc := 15) d_Book_write_15 0 rfl rfl ?_
  refine pb_get (pc := 16) d_Book_write_16 0 4 rfl rfl (by decide) in_Book k_421 rfl ?_
  refine pb_getN (pc := 19) d_Book_write_19 1 0 rfl rfl (by decide) in_FileMaker k_293 rfl ?_
  refine pb_getN (pc := 22) d_Book_write_22 2 1 rfl rfl (by decide) in_Row k_165 rfl ?_
  exact pb_iret (pc := 25) hQ d_Book_write_25 rfl rfl (s_3) ⟨rfl, (by omega)⟩ [] (by decide) rfl rfl (by decide) (by decide)

theorem d_Shelf_clear_0 : decode prog_10_method_2_code 0 = .ok (.aload_n 0, 1) := by decide +kernel
theorem d_Shelf_clear_1 : decode prog_10_method_2_code 1 = .ok (.iconst 0, 1) := by decide +kernel
theorem d_Shelf_clear_2 : decode prog_10_method_2_code 2 = .ok (.putfield 25, 3) := by decide +kernel
theorem d_Shelf_clear_5 : decode prog_10_method_2_code 5 = .ok (.aload_n 0, 1) := by decide +kernel
theorem d_Shelf_clear_6 : decode prog_10_method_2_code 6 = .ok (.getfield 22, 3) := by decide +kernel
theorem d_Shelf_clear_9 : decode prog_10_method_2_code 9 = .ok (.iconst 0, 1) := by decide +kernel
theorem d_Shelf_clear_10 : decode prog_10_method_2_code 10 = .ok (.iconst 0, 1) := by decide +kernel
theorem d_Shelf_clear_11 : decode prog_10_method_2_code 11 = .ok (.iastore, 1) := by decide +kernel
theorem d_Shelf_clear_12 : decode prog_10_method_2_code 12 = .ok (.return_, 1) := by decide +kernel
abbrev y_Shelf_clear : MethodName := ⟨"PackageBook$Shelf", "clear", "()V"⟩
abbrev i_Shelf_clear : pb_I := (y_Shelf_clear, prog_10_method_2_code, 1, (Option.none : Option Jvm.ClassFile.FieldType), [], { frames := 0, cells := 0, slots := 0, locals := 0 })
set_option maxRecDepth 100000 in
set_option maxHeartbeats 4000000 in
theorem c_Shelf_clear {l : Launch} (hl : l.stackTraces = false) (G : pb_G) (h : Nat) (sn : Nat) (sz : Nat) (sb : Nat) (sg : Nat) (f : Nat → Int32) : Cn l G i_Shelf_clear [.ref h] [(h, .inr (3, [.ref sn, .ref sz, .ref sb, .ref sg, .int 0])), (sg, .inl (G.2.2.1, 17, .inl f))] (S := Unit) (fun v u => v = none) (fun u => [(h, .inr (3, [.ref sn, .ref sz, .ref sb, .ref sg, .int 0]))]) := by
  refine Cn.of hl (by decide +kernel) rfl (Nat.le_of_ble_eq_true rfl) (fun M hQ => ?_)
  refine pb_eq (pc' := 0) (lo' := [(0, .ref h)]) (rest' := []) (ws' := [(h, .inr (3, [.ref sn, .ref sz, .ref sb, .ref sg, .int 0])), (sg, .inl (G.2.2.1, 17, .inl f))]) ?_
  refine pb_aload_n (pc := 0) d_Shelf_clear_0 0 rfl rfl ?_
  refine pb_iconst (pc := 1) (v := 0) d_Shelf_clear_1 (by decide) ?_
  refine pb_put (pc := 2) (ty := .int) (ws' := [(h, .inr (3, [.ref sn, .ref sz, .ref sb, .ref sg, .int 0])), (sg, .inl (G.2.2.1, 17, .inl f))]) d_Shelf_clear_2 0 4 t_Shelf t_Shelf_ok n_Shelf rfl rfl (by decide) in_Shelf k_403 rfl (by decide +kernel) rfl rfl (Nat.le_of_ble_eq_true rfl) rfl ?_
  refine pb_aload_n (pc := 5) d_Shelf_clear_5 0 rfl rfl ?_
  refine pb_get (pc := 6) d_Shelf_clear_6 0 3 rfl rfl (by decide) in_Shelf k_399 rfl ?_
  refine pb_iconst (pc := 9) (v := 0) d_Shelf_clear_9 (by decide) ?_
  refine pb_iconst (pc := 10) (v := 0) d_Shelf_clear_10 (by decide) ?_
  refine pb_iast (pc := 11) (ws' := [(h, .inr (3, [.ref sn, .ref sz, .ref sb, .ref sg, .int 0])), (sg, .inl (G.2.2.1, 17, .inl (upd f ((0 : Int32).toNatClampNeg) 0)))]) d_Shelf_clear_11 1 rfl (by unfold vp_in; decide) rfl ?_
  exact pb_vret (pc := 12) hQ d_Shelf_clear_12 rfl () rfl [0] (by decide) rfl rfl (by decide) (by decide)

theorem d_FileReader_run_0 : decode prog_5_method_2_code 0 = .ok (.aload_n 0, 1) := by decide +kernel
theorem d_FileReader_run_1 : decode prog_5_method_2_code 1 = .ok (.aload_n 1, 1) := by decide +kernel
theorem d_FileReader_run_2 : decode prog_5_method_2_code 2 = .ok (.putfield 9, 3) := by decide +kernel
theorem d_FileReader_run_5 : decode prog_5_method_2_code 5 = .ok (.aload_n 3, 1) := by decide +kernel
theorem d_FileReader_run_6 : decode prog_5_method_2_code 6 = .ok (.invokevirtual 15, 3) := by decide +kernel
theorem k_584 : (Jvm.Cond.methodLink "PackageBook$FileReader" (15 : Nat) ({ cls := "PackageBook$Shelf", name := "clear", desc := "()V" } : Jvm.MethodName)) ∈ uW := uW_of 584 (by decide +kernel) (by decide +kernel)
theorem k_587 : (Jvm.Cond.code ({ cls := "PackageBook$Shelf", name := "clear", desc := "()V" } : Jvm.MethodName) prog_10_method_2_code (1 : Nat) (Option.none : Option Jvm.ClassFile.FieldType)) ∈ uW := uW_of 587 (by decide +kernel) (by decide +kernel)
theorem k_585 : (Jvm.Cond.instanceMethod ({ cls := "PackageBook$Shelf", name := "clear", desc := "()V" } : Jvm.MethodName)) ∈ uW := uW_of 585 (by decide +kernel) (by decide +kernel)
theorem k_586 : (Jvm.Cond.selects "PackageBook$Shelf" ({ cls := "PackageBook$Shelf", name := "clear", desc := "()V" } : Jvm.MethodName) ({ cls := "PackageBook$Shelf", name := "clear", desc := "()V" } : Jvm.MethodName)) ∈ uW := uW_of 586 (by decide +kernel) (by decide +kernel)
theorem d_FileReader_run_9 : decode prog_5_method_2_code 9 = .ok (.iload_n 2, 1) := by decide +kernel
theorem d_FileReader_run_10 : decode prog_5_method_2_code 10 = .ok (.bipush 22, 2) := by decide +kernel
theorem d_FileReader_run_12 : decode prog_5_method_2_code 12 = .ok (.isub, 1) := by decide +kernel
theorem d_FileReader_run_13 : decode prog_5_method_2_code 13 = .ok (.istore 5, 2) := by decide +kernel
theorem d_FileReader_run_15 : decode prog_5_method_2_code 15 = .ok (.iload 5, 2) := by decide +kernel
theorem d_FileReader_run_17 : decode prog_5_method_2_code 17 = .ok (.ifCond .lt 12, 3) := by decide +kernel
theorem d_FileReader_run_29 : decode prog_5_method_2_code 29 = .ok (.iconst 1, 1) := by decide +kernel
theorem d_FileReader_run_30 : decode prog_5_method_2_code 30 = .ok (.ireturn, 1) := by decide +kernel
abbrev y_FileReader_run : MethodName := ⟨"PackageBook$FileReader", "run", "([BILPackageBook$Shelf;LPackageBook$Expander;)I"⟩
abbrev i_FileReader_run : pb_I := (y_FileReader_run, prog_5_method_2_code, 12, (some Jvm.ClassFile.FieldType.int), [], { frames := 1, cells := 0, slots := 0, locals := 20 })
set_option maxRecDepth 100000 in
set_option maxHeartbeats 4000000 in
theorem c_Reader_run0 {l : Launch} (hl : l.stackTraces = false) (G : pb_G) (h : Nat) (rr : Nat) (b : Nat) (ex : Nat) (ss : Nat) (ssn : Nat) (ssz : Nat) (ssb : Nat) (ssg : Nat) (f : Nat → Int32) : Cn l G i_FileReader_run [.ref h, .ref b, .int 0, .ref ss, .ref ex] [(h, .inr (7, [.ref rr])), (ss, .inr (3, [.ref ssn, .ref ssz, .ref ssb, .ref ssg, .int 0])), (ssg, .inl (G.2.2.1, 17, .inl f))] (S := Unit) (fun v u => v = some (.int 1)) (fun u => []) := by
  refine Cn.of hl (by decide +kernel) rfl (Nat.le_of_ble_eq_true rfl) (fun M hQ => ?_)
  refine pb_eq (pc' := 0) (lo' := [(0, .ref h), (1, .ref b), (2, .int 0), (3, .ref ss), (4, .ref ex)]) (rest' := []) (ws' := [(h, .inr (7, [.ref rr])), (ss, .inr (3, [.ref ssn, .ref ssz, .ref ssb, .ref ssg, .int 0])), (ssg, .inl (G.2.2.1, 17, .inl f))]) ?_
  refine pb_aload_n (pc := 0) d_FileReader_run_0 0 rfl rfl ?_
  refine pb_aload_n (pc := 1) d_FileReader_run_1 1 rfl rfl ?_
  refine pb_put (pc := 2) (ty := (.array .byte)) (ws' := [(h, .inr (7, [.ref b])), (ss, .inr (3, [.ref ssn, .ref ssz, .ref ssb, .ref ssg, .int 0])), (ssg, .inl (G.2.2.1, 17, .inl f))]) d_FileReader_run_2 0 0 t_FileReader t_FileReader_ok n_FileReader rfl rfl (by decide) in_FileReader k_306 rfl (by decide +kernel) rfl rfl (Nat.le_of_ble_eq_true rfl) rfl ?_
  refine pb_aload_n (pc := 5) d_FileReader_run_5 3 rfl rfl ?_
  refine pb_callV (pc := 6) (qb := 1) (ci := 3) (nA := 0) (rest := []) (wr := [(h, .inr (7, [.ref b]))]) d_FileReader_run_6 (c_Shelf_clear hl G ss ssn ssz ssb ssg f) rfl rfl [1, 2] [0] (by decide) rfl rfl rfl (by decide) (by decide) k_587 rfl k_127 k_584 k_585 k_586 (by decide +kernel) (by decide) rfl rfl (Nat.le_of_ble_eq_true rfl) (by decide) (fun v9 u2 h1 => ?_)
  have eh1 := h1
  have eh1 : v9 = none := eh1
  subst eh1
  refine pb_eq (pc' := 9) (lo' := [(0, .ref h), (1, .ref b), (2, .int 0), (3, .ref ss), (4, .ref ex)]) (rest' := []) (ws' := [(h, .inr (7, [.ref b])), (ss, .inr (3, [.ref ssn, .ref ssz, .ref ssb, .ref ssg, .int 0]))]) ?_
  refine pb_iload_n (pc := 9) d_FileReader_run_9 2 rfl rfl ?_
  refine pb_bipush (pc := 10) (v := 22) d_FileReader_run_10 (by decide) ?_
  refine pb_isub (pc := 12) d_FileReader_run_12 ?_
  refine pb_asi (y := (-22)) (by decide) ?_
  refine pb_istore (pc := 13) (lo' := [(5, .int (-22)), (0, .ref h), (1, .ref b), (2, .int 0), (3, .ref ss), (4, .ref ex)]) d_FileReader_run_13 (by decide) rfl ?_
  refine pb_iload (pc := 15) d_FileReader_run_15 0 rfl ?_
  refine pb_if_lt (pc := 17) (tgt := 29) d_FileReader_run_17 (by decide) (fun _ => ?_) (fun h9 => absurd h9 (by decide))
  refine pb_iconst (pc := 29) (v := 1) d_FileReader_run_29 (by decide) ?_
  exact pb_iret (pc := 30) hQ d_FileReader_run_30 rfl rfl () rfl [] (by decide) rfl rfl (by decide) (by decide)

theorem d_Book_settle_0 : decode prog_1_method_21_code 0 = .ok (.iload_n 1, 1) := by decide +kernel
theorem d_Book_settle_1 : decode prog_1_method_21_code 1 = .ok (.ifCond .ne 21, 3) := by decide +kernel
theorem d_Book_settle_22 : decode prog_1_method_21_code 22 = .ok (.iload_n 1, 1) := by decide +kernel
theorem d_Book_settle_23 : decode prog_1_method_21_code 23 = .ok (.ireturn, 1) := by decide +kernel
abbrev y_Book_settle : MethodName := ⟨"PackageBook", "settle", "(I)I"⟩
abbrev i_Book_settle : pb_I := (y_Book_settle, prog_1_method_21_code, 3, (some Jvm.ClassFile.FieldType.int), [], { frames := 0, cells := 0, slots := 0, locals := 0 })
set_option maxRecDepth 100000 in
set_option maxHeartbeats 4000000 in
theorem c_Book_settle1 {l : Launch} (hl : l.stackTraces = false) (G : pb_G) (h : Nat) : Cn l G i_Book_settle [.ref h, .int 1] [] (S := Unit) (fun v u => v = some (.int 1)) (fun u => []) := by
  refine Cn.of hl (by decide +kernel) rfl (Nat.le_of_ble_eq_true rfl) (fun M hQ => ?_)
  refine pb_eq (pc' := 0) (lo' := [(0, .ref h), (1, .int 1)]) (rest' := []) (ws' := []) ?_
  refine pb_iload_n (pc := 0) d_Book_settle_0 1 rfl rfl ?_
  refine pb_if_ne (pc := 1) (tgt := 22) d_Book_settle_1 (by decide) (fun _ => ?_) (fun h9 => absurd h9 (by decide))
  refine pb_iload_n (pc := 22) d_Book_settle_22 1 rfl rfl ?_
  exact pb_iret (pc := 23) hQ d_Book_settle_23 rfl rfl () rfl [] (by decide) rfl rfl (by decide) (by decide)

theorem d_Book_read_0 : decode prog_1_method_10_code 0 = .ok (.aload_n 0, 1) := by decide +kernel
theorem d_Book_read_1 : decode prog_1_method_10_code 1 = .ok (.aload_n 0, 1) := by decide +kernel
theorem d_Book_read_2 : decode prog_1_method_10_code 2 = .ok (.getfield 45, 3) := by decide +kernel
theorem d_Book_read_5 : decode prog_1_method_10_code 5 = .ok (.aload_n 0, 1) := by decide +kernel
theorem d_Book_read_6 : decode prog_1_method_10_code 6 = .ok (.getfield 14, 3) := by decide +kernel
theorem d_Book_read_9 : decode prog_1_method_10_code 9 = .ok (.getfield 98, 3) := by decide +kernel
theorem d_Book_read_12 : decode prog_1_method_10_code 12 = .ok (.aload_n 0, 1) := by decide +kernel
theorem d_Book_read_13 : decode prog_1_method_10_code 13 = .ok (.invokevirtual 106, 3) := by decide +kernel
theorem d_Book_read_16 : decode prog_1_method_10_code 16 = .ok (.aload_n 0, 1) := by decide +kernel
theorem d_Book_read_17 : decode prog_1_method_10_code 17 = .ok (.getfield 74, 3) := by decide +kernel
theorem d_Book_read_20 : decode prog_1_method_10_code 20 = .ok (.aload_n 0, 1) := by decide +kernel
theorem d_Book_read_21 : decode prog_1_method_10_code 21 = .ok (.getfield 31, 3) := by decide +kernel
theorem d_Book_read_24 : decode prog_1_method_10_code 24 = .ok (.invokevirtual 175, 3) := by decide +kernel
theorem k_580 : (Jvm.Cond.methodLink "PackageBook" (175 : Nat) ({ cls := "PackageBook$FileReader", name := "run", desc := "([BILPackageBook$Shelf;LPackageBook$Expander;)I" } : Jvm.MethodName)) ∈ uW := uW_of 580 (by decide +kernel) (by decide +kernel)
theorem k_583 : (Jvm.Cond.code ({ cls := "PackageBook$FileReader", name := "run", desc := "([BILPackageBook$Shelf;LPackageBook$Expander;)I" } : Jvm.MethodName) prog_5_method_2_code (12 : Nat) (Option.some Jvm.ClassFile.FieldType.int)) ∈ uW := uW_of 583 (by decide +kernel) (by decide +kernel)
theorem k_581 : (Jvm.Cond.instanceMethod ({ cls := "PackageBook$FileReader", name := "run", desc := "([BILPackageBook$Shelf;LPackageBook$Expander;)I" } : Jvm.MethodName)) ∈ uW := uW_of 581 (by decide +kernel) (by decide +kernel)
theorem k_582 : (Jvm.Cond.selects "PackageBook$FileReader" ({ cls := "PackageBook$FileReader", name := "run", desc := "([BILPackageBook$Shelf;LPackageBook$Expander;)I" } : Jvm.MethodName) ({ cls := "PackageBook$FileReader", name := "run", desc := "([BILPackageBook$Shelf;LPackageBook$Expander;)I" } : Jvm.MethodName)) ∈ uW := uW_of 582 (by decide +kernel) (by decide +kernel)
theorem d_Book_read_27 : decode prog_1_method_10_code 27 = .ok (.invokevirtual 179, 3) := by decide +kernel
theorem k_709 : (Jvm.Cond.methodLink "PackageBook" (179 : Nat) ({ cls := "PackageBook", name := "settle", desc := "(I)I" } : Jvm.MethodName)) ∈ uW := uW_of 709 (by decide +kernel) (by decide +kernel)
theorem k_712 : (Jvm.Cond.code ({ cls := "PackageBook", name := "settle", desc := "(I)I" } : Jvm.MethodName) prog_1_method_21_code (3 : Nat) (Option.some Jvm.ClassFile.FieldType.int)) ∈ uW := uW_of 712 (by decide +kernel) (by decide +kernel)
theorem k_711 : (Jvm.Cond.instanceMethod ({ cls := "PackageBook", name := "settle", desc := "(I)I" } : Jvm.MethodName)) ∈ uW := uW_of 711 (by decide +kernel) (by decide +kernel)
theorem k_28 : Cond.selects "PackageBook" ⟨"PackageBook", "settle", "(I)I"⟩ ⟨"PackageBook", "settle", "(I)I"⟩ ∈ uW := uW_of 28 (by decide +kernel) (by decide +kernel)
theorem d_Book_read_30 : decode prog_1_method_10_code 30 = .ok (.ireturn, 1) := by decide +kernel
abbrev y_Book_read : MethodName := ⟨"PackageBook", "read", "()I"⟩
abbrev i_Book_read : pb_I := (y_Book_read, prog_1_method_10_code, 1, (some Jvm.ClassFile.FieldType.int), [], { frames := 2, cells := 0, slots := 0, locals := 51 })
set_option maxRecDepth 100000 in
set_option maxHeartbeats 4000000 in
theorem c_Book_read {l : Launch} (hl : l.stackTraces = false) (G : pb_G) (h : Nat) (ta : Nat) (ca : Nat) (ps : Nat) (ex_ : Nat) (mk : Nat) (rd : Nat) (mu : Nat) (fi : Nat) (go : Nat) (sp : Nat) (ss : Nat) (tb : Nat) (ssn : Nat) (ssz : Nat) (ssb : Nat) (ssg : Nat) (rr : Nat) (f : Nat → Int32) : Cn l G i_Book_read [.ref h] [(h, .inr (9, [.ref ta, .ref ca, .ref ps, .ref ex_, .ref mk, .ref rd, .ref mu, .ref fi, .ref go, .ref sp, .ref ss])), (ta, .inr (0, [.ref tb, .int 0])), (rd, .inr (7, [.ref rr])), (ss, .inr (3, [.ref ssn, .ref ssz, .ref ssb, .ref ssg, .int 0])), (ssg, .inl (G.2.2.1, 17, .inl f))] (S := Unit) (fun v u => v = some (.int 1)) (fun u => []) := by
  refine Cn.of hl (by decide +kernel) rfl (Nat.le_of_ble_eq_true rfl) (fun M hQ => ?_)
  refine pb_eq (pc' := 0) (lo' := [(0, .ref h)]) (rest' := []) (ws' := [(h, .inr (9, [.ref ta, .ref ca, .ref ps, .ref ex_, .ref mk, .ref rd, .ref mu, .ref fi, .ref go, .ref sp, .ref ss])), (ta, .inr (0, [.ref tb, .int 0])), (rd, .inr (7, [.ref rr])), (ss, .inr (3, [.ref ssn, .ref ssz, .ref ssb, .ref ssg, .int 0])), (ssg, .inl (G.2.2.1, 17, .inl f))]) ?_
  refine pb_aload_n (pc := 0) d_Book_read_0 0 rfl rfl ?_
  refine pb_aload_n (pc := 1) d_Book_read_1 0 rfl rfl ?_
  refine pb_get (pc := 2) d_Book_read_2 0 5 rfl rfl (by decide) in_Book k_422 rfl ?_
  refine pb_aload_n (pc := 5) d_Book_read_5 0 rfl rfl ?_
  refine pb_get (pc := 6) d_Book_read_6 0 0 rfl rfl (by decide) in_Book k_417 rfl ?_
  refine pb_getN (pc := 9) d_Book_read_9 1 0 rfl rfl (by decide) in_Row k_157 rfl ?_
  refine pb_aload_n (pc := 12) d_Book_read_12 0 rfl rfl ?_
  refine pb_callV (pc := 13) (qb := 0) (ci := 9) (nA := 0) (rest := [.ref tb, .ref rd, .ref h]) (wr := [(rd, .inr (7, [.ref rr])), (ss, .inr (3, [.ref ssn, .ref ssz, .ref ssb, .ref ssg, .int 0])), (ssg, .inl (G.2.2.1, 17, .inl f))]) d_Book_read_13 (c_Book_takeTape hl G h ta ca ps ex_ mk rd mu fi go sp ss tb 0) rfl rfl [0, 1] [2, 3, 4] (by decide) rfl rfl rfl (by decide) (by decide) k_458 rfl k_118 k_455 k_457 k_0 (by decide +kernel) (by decide) rfl rfl (Nat.le_of_ble_eq_true rfl) (by decide) (fun v9 u2 h1 => ?_)
  have eh1 := h1
  have eh1 : v9 = some (.int 0) := eh1
  subst eh1
  refine pb_eq (pc' := 16) (lo' := [(0, .ref h)]) (rest' := [.int 0, .ref tb, .ref rd, .ref h]) (ws' := [(rd, .inr (7, [.ref rr])), (ss, .inr (3, [.ref ssn, .ref ssz, .ref ssb, .ref ssg, .int 0])), (ssg, .inl (G.2.2.1, 17, .inl f)), (h, .inr (9, [.ref ta, .ref ca, .ref ps, .ref ex_, .ref mk, .ref rd, .ref mu, .ref fi, .ref go, .ref sp, .ref ss])), (ta, .inr (0, [.ref tb, .int 0]))]) ?_
  refine pb_aload_n (pc := 16) d_Book_read_16 0 rfl rfl ?_
  refine pb_get (pc := 17) d_Book_read_17 3 10 rfl rfl (by decide) in_Book k_427 rfl ?_
  refine pb_aload_n (pc := 20) d_Book_read_20 0 rfl rfl ?_
  refine pb_get (pc := 21) d_Book_read_21 3 3 rfl rfl (by decide) in_Book k_420 rfl ?_
  refine pb_callV (pc := 24) (qb := 0) (ci := 7) (nA := 4) (rest := [.ref h]) (wr := [(h, .inr (9, [.ref ta, .ref ca, .ref ps, .ref ex_, .ref mk, .ref rd, .ref mu, .ref fi, .ref go, .ref sp, .ref ss])), (ta, .inr (0, [.ref tb, .int 0]))]) d_Book_read_24 (c_Reader_run0 hl G rd rr tb ex_ ss ssn ssz ssb ssg f) rfl rfl [0, 1, 2] [3, 4] (by decide) rfl rfl rfl (by decide) (by decide) k_583 rfl k_124 k_580 k_581 k_582 (by decide +kernel) (by decide) rfl rfl (Nat.le_of_ble_eq_true rfl) (by decide) (fun v9 u4 h3 => ?_)
  have eh3 := h3
  have eh3 : v9 = some (.int 1) := eh3
  subst eh3
  refine pb_eq (pc' := 27) (lo' := [(0, .ref h)]) (rest' := [.int 1, .ref h]) (ws' := [(h, .inr (9, [.ref ta, .ref ca, .ref ps, .ref ex_, .ref mk, .ref rd, .ref mu, .ref fi, .ref go, .ref sp, .ref ss])), (ta, .inr (0, [.ref tb, .int 0]))]) ?_
  refine pb_callV (pc := 27) (qb := 0) (ci := 9) (nA := 1) (rest := []) (wr := [(h, .inr (9, [.ref ta, .ref ca, .ref ps, .ref ex_, .ref mk, .ref rd, .ref mu, .ref fi, .ref go, .ref sp, .ref ss])), (ta, .inr (0, [.ref tb, .int 0]))]) d_Book_read_27 (c_Book_settle1 hl G h) rfl rfl [] [0, 1] (by decide) rfl rfl rfl (by decide) (by decide) k_712 rfl k_118 k_709 k_711 k_28 (by decide +kernel) (by decide) rfl rfl (Nat.le_of_ble_eq_true rfl) (by decide) (fun v9 u6 h5 => ?_)
  have eh5 := h5
  have eh5 : v9 = some (.int 1) := eh5
  subst eh5
  refine pb_eq (pc' := 30) (lo' := [(0, .ref h)]) (rest' := [.int 1]) (ws' := [(h, .inr (9, [.ref ta, .ref ca, .ref ps, .ref ex_, .ref mk, .ref rd, .ref mu, .ref fi, .ref go, .ref sp, .ref ss])), (ta, .inr (0, [.ref tb, .int 0]))]) ?_
  exact pb_iret (pc := 30) hQ d_Book_read_30 rfl rfl () rfl [] (by decide) rfl rfl (by decide) (by decide)

theorem d_Book_expand_0 : decode prog_1_method_13_code 0 = .ok (.aload_n 0, 1) := by decide +kernel
theorem d_Book_expand_1 : decode prog_1_method_13_code 1 = .ok (.getfield 31, 3) := by decide +kernel
theorem d_Book_expand_4 : decode prog_1_method_13_code 4 = .ok (.aload_n 0, 1) := by decide +kernel
theorem d_Book_expand_5 : decode prog_1_method_13_code 5 = .ok (.getfield 14, 3) := by decide +kernel
theorem d_Book_expand_8 : decode prog_1_method_13_code 8 = .ok (.getfield 98, 3) := by decide +kernel
theorem d_Book_expand_11 : decode prog_1_method_13_code 11 = .ok (.iconst 0, 1) := by decide +kernel
theorem d_Book_expand_12 : decode prog_1_method_13_code 12 = .ok (.aload_n 0, 1) := by decide +kernel
theorem d_Book_expand_13 : decode prog_1_method_13_code 13 = .ok (.invokevirtual 106, 3) := by decide +kernel
theorem d_Book_expand_16 : decode prog_1_method_13_code 16 = .ok (.invokevirtual 197, 3) := by decide +kernel
theorem k_717 : (Jvm.Cond.methodLink "PackageBook" (197 : Nat) ({ cls := "PackageBook$Expander", name := "run", desc := "([BII)I" } : Jvm.MethodName)) ∈ uW := uW_of 717 (by decide +kernel) (by decide +kernel)
theorem k_630 : (Jvm.Cond.code ({ cls := "PackageBook$Expander", name := "run", desc := "([BII)I" } : Jvm.MethodName) prog_3_method_3_code (7 : Nat) (Option.some Jvm.ClassFile.FieldType.int)) ∈ uW := uW_of 630 (by decide +kernel) (by decide +kernel)
theorem k_628 : (Jvm.Cond.instanceMethod ({ cls := "PackageBook$Expander", name := "run", desc := "([BII)I" } : Jvm.MethodName)) ∈ uW := uW_of 628 (by decide +kernel) (by decide +kernel)
theorem k_629 : (Jvm.Cond.selects "PackageBook$Expander" ({ cls := "PackageBook$Expander", name := "run", desc := "([BII)I" } : Jvm.MethodName) ({ cls := "PackageBook$Expander", name := "run", desc := "([BII)I" } : Jvm.MethodName)) ∈ uW := uW_of 629 (by decide +kernel) (by decide +kernel)
theorem d_Book_expand_19 : decode prog_1_method_13_code 19 = .ok (.istore_n 1, 1) := by decide +kernel
theorem d_Book_expand_20 : decode prog_1_method_13_code 20 = .ok (.iload_n 1, 1) := by decide +kernel
theorem d_Book_expand_21 : decode prog_1_method_13_code 21 = .ok (.ifCond .lt 17, 3) := by decide +kernel
theorem d_Book_expand_38 : decode prog_1_method_13_code 38 = .ok (.iload_n 1, 1) := by decide +kernel
theorem d_Book_expand_39 : decode prog_1_method_13_code 39 = .ok (.ireturn, 1) := by decide +kernel
abbrev y_Book_expand : MethodName := ⟨"PackageBook", "expand", "()I"⟩
abbrev i_Book_expand : pb_I := (y_Book_expand, prog_1_method_13_code, 2, (some Jvm.ClassFile.FieldType.int), [], { frames := 3, cells := 0, slots := 0, locals := 71 })
set_option maxRecDepth 100000 in
set_option maxHeartbeats 4000000 in
theorem c_Book_expand {l : Launch} (hl : l.stackTraces = false) (G : pb_G) (h : Nat) (ta : Nat) (ca : Nat) (ps : Nat) (ex_ : Nat) (mk : Nat) (rd : Nat) (mu : Nat) (fi : Nat) (go : Nat) (sp : Nat) (ss : Nat) (tb : Nat) (ex : Nat) (et : Nat) (ea : Nat) (eb : Nat) (ec : Nat) (ed : Nat) (ef : Nat) (er : Nat) (ey : Nat) (xs : Int32) : Cn l G i_Book_expand [.ref h] [(h, .inr (9, [.ref ta, .ref ca, .ref ps, .ref ex_, .ref mk, .ref rd, .ref mu, .ref fi, .ref go, .ref sp, .ref ss])), (ta, .inr (0, [.ref tb, .int 0])), (ex_, .inr (5, [.ref ex, .ref et, .ref ea, .ref eb, .ref ec, .ref ed, .ref ef, .ref er, .int 0, .int 0, .int 0])), (ex, .inr (0, [.ref ey, .int xs]))] (S := Unit) (fun v u => v = some (.int (-1))) (fun u => []) := by
  refine Cn.of hl (by decide +kernel) rfl (Nat.le_of_ble_eq_true rfl) (fun M hQ => ?_)
  refine pb_eq (pc' := 0) (lo' := [(0, .ref h)]) (rest' := []) (ws' := [(h, .inr (9, [.ref ta, .ref ca, .ref ps, .ref ex_, .ref mk, .ref rd, .ref mu, .ref fi, .ref go, .ref sp, .ref ss])), (ta, .inr (0, [.ref tb, .int 0])), (ex_, .inr (5, [.ref ex, .ref et, .ref ea, .ref eb, .ref ec, .ref ed, .ref ef, .ref er, .int 0, .int 0, .int 0])), (ex, .inr (0, [.ref ey, .int xs]))]) ?_
  refine pb_aload_n (pc := 0) d_Book_expand_0 0 rfl rfl ?_
  refine pb_get (pc := 1) d_Book_expand_1 0 3 rfl rfl (by decide) in_Book k_420 rfl ?_
  refine pb_aload_n (pc := 4) d_Book_expand_4 0 rfl rfl ?_
  refine pb_get (pc := 5) d_Book_expand_5 0 0 rfl rfl (by decide) in_Book k_417 rfl ?_
  refine pb_getN (pc := 8) d_Book_expand_8 1 0 rfl rfl (by decide) in_Row k_157 rfl ?_
  refine pb_iconst (pc := 11) (v := 0) d_Book_expand_11 (by decide) ?_
  refine pb_aload_n (pc := 12) d_Book_expand_12 0 rfl rfl ?_
  refine pb_callV (pc := 13) (qb := 0) (ci := 9) (nA := 0) (rest := [.int 0, .ref tb, .ref ex_]) (wr := [(ex_, .inr (5, [.ref ex, .ref et, .ref ea, .ref eb, .ref ec, .ref ed, .ref ef, .ref er, .int 0, .int 0, .int 0])), (ex, .inr (0, [.ref ey, .int xs]))]) d_Book_expand_13 (c_Book_takeTape hl G h ta ca ps ex_ mk rd mu fi go sp ss tb 0) rfl rfl [0, 1] [2, 3] (by decide) rfl rfl rfl (by decide) (by decide) k_458 rfl k_118 k_455 k_457 k_0 (by decide +kernel) (by decide) rfl rfl (Nat.le_of_ble_eq_true rfl) (by decide) (fun v9 u2 h1 => ?_)
  have eh1 := h1
  have eh1 : v9 = some (.int 0) := eh1
  subst eh1
  refine pb_eq (pc' := 16) (lo' := [(0, .ref h)]) (rest' := [.int 0, .int 0, .ref tb, .ref ex_]) (ws' := [(ex_, .inr (5, [.ref ex, .ref et, .ref ea, .ref eb, .ref ec, .ref ed, .ref ef, .ref er, .int 0, .int 0, .int 0])), (ex, .inr (0, [.ref ey, .int xs])), (h, .inr (9, [.ref ta, .ref ca, .ref ps, .ref ex_, .ref mk, .ref rd, .ref mu, .ref fi, .ref go, .ref sp, .ref ss])), (ta, .inr (0, [.ref tb, .int 0]))]) ?_
  refine pb_callV (pc := 16) (qb := 0) (ci := 5) (nA := 3) (rest := []) (wr := [(h, .inr (9, [.ref ta, .ref ca, .ref ps, .ref ex_, .ref mk, .ref rd, .ref mu, .ref fi, .ref go, .ref sp, .ref ss])), (ta, .inr (0, [.ref tb, .int 0]))]) d_Book_expand_16 (c_Exp_run0 hl G ex_ ex et ea eb ec ed ef er ey tb xs) rfl rfl [0, 1] [2, 3] (by decide) rfl rfl rfl (by decide) (by decide) k_630 rfl k_121 k_717 k_628 k_629 (by decide +kernel) (by decide) rfl rfl (Nat.le_of_ble_eq_true rfl) (by decide) (fun v9 u4 h3 => ?_)
  have eh3 := h3
  have eh3 : v9 = some (.int (-1)) := eh3
  subst eh3
  refine pb_eq (pc' := 19) (lo' := [(0, .ref h)]) (rest' := [.int (-1)]) (ws' := [(h, .inr (9, [.ref ta, .ref ca, .ref ps, .ref ex_, .ref mk, .ref rd, .ref mu, .ref fi, .ref go, .ref sp, .ref ss])), (ta, .inr (0, [.ref tb, .int 0])), (ex_, .inr (5, [.ref ex, .ref et, .ref ea, .ref eb, .ref ec, .ref ed, .ref ef, .ref tb, .int 0, .int 0, .int 1])), (ex, .inr (0, [.ref ey, .int 0]))]) ?_
  refine pb_istore_n (pc := 19) (lo' := [(1, .int (-1)), (0, .ref h)]) d_Book_expand_19 rfl (by decide) rfl ?_
  refine pb_iload_n (pc := 20) d_Book_expand_20 0 rfl rfl ?_
  refine pb_if_lt (pc := 21) (tgt := 38) d_Book_expand_21 (by decide) (fun _ => ?_) (fun h9 => absurd h9 (by decide))
  refine pb_iload_n (pc := 38) d_Book_expand_38 0 rfl rfl ?_
  exact pb_iret (pc := 39) hQ d_Book_expand_39 rfl rfl () rfl [] (by decide) rfl rfl (by decide) (by decide)

theorem d_Book_press_0 : decode prog_1_method_12_code 0 = .ok (.aload_n 0, 1) := by decide +kernel
theorem d_Book_press_1 : decode prog_1_method_12_code 1 = .ok (.invokevirtual 106, 3) := by decide +kernel
theorem d_Book_press_4 : decode prog_1_method_12_code 4 = .ok (.istore_n 1, 1) := by decide +kernel
theorem d_Book_press_5 : decode prog_1_method_12_code 5 = .ok (.iload_n 1, 1) := by decide +kernel
theorem d_Book_press_6 : decode prog_1_method_12_code 6 = .ok (.sipush 4000, 3) := by decide +kernel
theorem d_Book_press_9 : decode prog_1_method_12_code 9 = .ok (.if_icmp .le 13, 3) := by decide +kernel
theorem d_Book_press_22 : decode prog_1_method_12_code 22 = .ok (.aload_n 0, 1) := by decide +kernel
theorem d_Book_press_23 : decode prog_1_method_12_code 23 = .ok (.getfield 24, 3) := by decide +kernel
theorem d_Book_press_26 : decode prog_1_method_12_code 26 = .ok (.aload_n 0, 1) := by decide +kernel
theorem d_Book_press_27 : decode prog_1_method_12_code 27 = .ok (.getfield 14, 3) := by decide +kernel
theorem d_Book_press_30 : decode prog_1_method_12_code 30 = .ok (.getfield 98, 3) := by decide +kernel
theorem d_Book_press_33 : decode prog_1_method_12_code 33 = .ok (.iconst 0, 1) := by decide +kernel
theorem d_Book_press_34 : decode prog_1_method_12_code 34 = .ok (.iload_n 1, 1) := by decide +kernel
theorem d_Book_press_35 : decode prog_1_method_12_code 35 = .ok (.invokevirtual 188, 3) := by decide +kernel
theorem k_1107 : (Jvm.Cond.methodLink "PackageBook" (188 : Nat) ({ cls := "PackageBook$Presser", name := "run", desc := "([BII)V" } : Jvm.MethodName)) ∈ uW := uW_of 1107 (by decide +kernel) (by decide +kernel)
theorem k_501 : (Jvm.Cond.code ({ cls := "PackageBook$Presser", name := "run", desc := "([BII)V" } : Jvm.MethodName) prog_8_method_2_code (6 : Nat) (Option.none : Option Jvm.ClassFile.FieldType)) ∈ uW := uW_of 501 (by decide +kernel) (by decide +kernel)
theorem k_499 : (Jvm.Cond.instanceMethod ({ cls := "PackageBook$Presser", name := "run", desc := "([BII)V" } : Jvm.MethodName)) ∈ uW := uW_of 499 (by decide +kernel) (by decide +kernel)
theorem k_500 : (Jvm.Cond.selects "PackageBook$Presser" ({ cls := "PackageBook$Presser", name := "run", desc := "([BII)V" } : Jvm.MethodName) ({ cls := "PackageBook$Presser", name := "run", desc := "([BII)V" } : Jvm.MethodName)) ∈ uW := uW_of 500 (by decide +kernel) (by decide +kernel)
theorem d_Book_press_38 : decode prog_1_method_12_code 38 = .ok (.aload_n 0, 1) := by decide +kernel
theorem d_Book_press_39 : decode prog_1_method_12_code 39 = .ok (.getfield 18, 3) := by decide +kernel
theorem d_Book_press_42 : decode prog_1_method_12_code 42 = .ok (.aload_n 0, 1) := by decide +kernel
theorem d_Book_press_43 : decode prog_1_method_12_code 43 = .ok (.getfield 24, 3) := by decide +kernel
theorem d_Book_press_46 : decode prog_1_method_12_code 46 = .ok (.getfield 190, 3) := by decide +kernel
theorem k_183 : (Jvm.Cond.fieldLinkNest "PackageBook" (190 : Nat) "PackageBook$Presser" "pressed" "LPackageBook$Row;" "PackageBook") ∈ uN := uN_of 183 (by decide +kernel) (by decide +kernel)
theorem d_Book_press_49 : decode prog_1_method_12_code 49 = .ok (.invokevirtual 193, 3) := by decide +kernel
theorem k_718 : (Jvm.Cond.methodLink "PackageBook" (193 : Nat) ({ cls := "PackageBook$Row", name := "become", desc := "(LPackageBook$Row;)V" } : Jvm.MethodName)) ∈ uW := uW_of 718 (by decide +kernel) (by decide +kernel)
theorem k_721 : (Jvm.Cond.code ({ cls := "PackageBook$Row", name := "become", desc := "(LPackageBook$Row;)V" } : Jvm.MethodName) prog_9_method_6_code (2 : Nat) (Option.none : Option Jvm.ClassFile.FieldType)) ∈ uW := uW_of 721 (by decide +kernel) (by decide +kernel)
theorem k_719 : (Jvm.Cond.instanceMethod ({ cls := "PackageBook$Row", name := "become", desc := "(LPackageBook$Row;)V" } : Jvm.MethodName)) ∈ uW := uW_of 719 (by decide +kernel) (by decide +kernel)
theorem k_720 : (Jvm.Cond.selects "PackageBook$Row" ({ cls := "PackageBook$Row", name := "become", desc := "(LPackageBook$Row;)V" } : Jvm.MethodName) ({ cls := "PackageBook$Row", name := "become", desc := "(LPackageBook$Row;)V" } : Jvm.MethodName)) ∈ uW := uW_of 720 (by decide +kernel) (by decide +kernel)
theorem d_Book_press_52 : decode prog_1_method_12_code 52 = .ok (.aload_n 0, 1) := by decide +kernel
theorem d_Book_press_53 : decode prog_1_method_12_code 53 = .ok (.getfield 18, 3) := by decide +kernel
theorem d_Book_press_56 : decode prog_1_method_12_code 56 = .ok (.getfield 84, 3) := by decide +kernel
theorem d_Book_press_59 : decode prog_1_method_12_code 59 = .ok (.ireturn, 1) := by decide +kernel
abbrev y_Book_press : MethodName := ⟨"PackageBook", "press", "()I"⟩
abbrev i_Book_press : pb_I := (y_Book_press, prog_1_method_12_code, 2, (some Jvm.ClassFile.FieldType.int), [], { frames := 3, cells := 0, slots := 0, locals := 104 })
set_option maxRecDepth 100000 in
set_option maxHeartbeats 4000000 in
theorem c_Book_press {l : Launch} (hl : l.stackTraces = false) (G : pb_G) (h : Nat) (ta : Nat) (ca : Nat) (ps : Nat) (ex_ : Nat) (mk : Nat) (rd : Nat) (mu : Nat) (fi : Nat) (go : Nat) (sp : Nat) (ss : Nat) (tb : Nat) (pp : Nat) (pl : Nat) (pe : Nat) (pr : Nat) (pb : Nat) (cb : Nat) (f : Nat → Int32) (fl : Nat → Int32) (fc : Nat → Int32) (pz : Int32) (cz : Int32) (h9 : sb_Fit f) : Cn l G i_Book_press [.ref h] [(h, .inr (9, [.ref ta, .ref ca, .ref ps, .ref ex_, .ref mk, .ref rd, .ref mu, .ref fi, .ref go, .ref sp, .ref ss])), (ta, .inr (0, [.ref tb, .int 0])), (ps, .inr (4, [.ref pp, .ref pl, .ref pe, .ref pr, .int 0, .int 0, .int 0, .int 0, .int 0])), (pp, .inr (0, [.ref pb, .int pz])), (pb, .inl (G.2.1, 4502, .inl f)), (pl, .inl (G.2.2.1, 1024, .inl fl)), (ca, .inr (0, [.ref cb, .int cz])), (cb, .inl (G.2.1, 4502, .inl fc))] (S := Unit) (fun v u => v = some (.int 2)) (fun u => []) := by
  refine Cn.of hl (by decide +kernel) rfl (Nat.le_of_ble_eq_true rfl) (fun M hQ => ?_)
  refine pb_eq (pc' := 0) (lo' := [(0, .ref h)]) (rest' := []) (ws' := [(h, .inr (9, [.ref ta, .ref ca, .ref ps, .ref ex_, .ref mk, .ref rd, .ref mu, .ref fi, .ref go, .ref sp, .ref ss])), (ta, .inr (0, [.ref tb, .int 0])), (ps, .inr (4, [.ref pp, .ref pl, .ref pe, .ref pr, .int 0, .int 0, .int 0, .int 0, .int 0])), (pp, .inr (0, [.ref pb, .int pz])), (pb, .inl (G.2.1, 4502, .inl f)), (pl, .inl (G.2.2.1, 1024, .inl fl)), (ca, .inr (0, [.ref cb, .int cz])), (cb, .inl (G.2.1, 4502, .inl fc))]) ?_
  refine pb_aload_n (pc := 0) d_Book_press_0 0 rfl rfl ?_
  refine pb_callV (pc := 1) (qb := 0) (ci := 9) (nA := 0) (rest := []) (wr := [(ps, .inr (4, [.ref pp, .ref pl, .ref pe, .ref pr, .int 0, .int 0, .int 0, .int 0, .int 0])), (pp, .inr (0, [.ref pb, .int pz])), (pb, .inl (G.2.1, 4502, .inl f)), (pl, .inl (G.2.2.1, 1024, .inl fl)), (ca, .inr (0, [.ref cb, .int cz])), (cb, .inl (G.2.1, 4502, .inl fc))]) d_Book_press_1 (c_Book_takeTape hl G h ta ca ps ex_ mk rd mu fi go sp ss tb 0) rfl rfl [0, 1] [2, 3, 4, 5, 6, 7] (by decide) rfl rfl rfl (by decide) (by decide) k_458 rfl k_118 k_455 k_457 k_0 (by decide +kernel) (by decide) rfl rfl (Nat.le_of_ble_eq_true rfl) (by decide) (fun v9 u2 h1 => ?_)
  have eh1 := h1
  have eh1 : v9 = some (.int 0) := eh1
  subst eh1
  refine pb_eq (pc' := 4) (lo' := [(0, .ref h)]) (rest' := [.int 0]) (ws' := [(ps, .inr (4, [.ref pp, .ref pl, .ref pe, .ref pr, .int 0, .int 0, .int 0, .int 0, .int 0])), (pp, .inr (0, [.ref pb, .int pz])), (pb, .inl (G.2.1, 4502, .inl f)), (pl, .inl (G.2.2.1, 1024, .inl fl)), (ca, .inr (0, [.ref cb, .int cz])), (cb, .inl (G.2.1, 4502, .inl fc)), (h, .inr (9, [.ref ta, .ref ca, .ref ps, .ref ex_, .ref mk, .ref rd, .ref mu, .ref fi, .ref go, .ref sp, .ref ss])), (ta, .inr (0, [.ref tb, .int 0]))]) ?_
  refine pb_istore_n (pc := 4) (lo' := [(1, .int 0), (0, .ref h)]) d_Book_press_4 rfl (by decide) rfl ?_
  refine pb_iload_n (pc := 5) d_Book_press_5 0 rfl rfl ?_
  refine pb_sipush (pc := 6) (v := 4000) d_Book_press_6 (by decide) ?_
  refine pb_icmp_le (pc := 9) (tgt := 22) d_Book_press_9 (by decide) (fun _ => ?_) (fun h9 => absurd h9 (by decide))
  refine pb_aload_n (pc := 22) d_Book_press_22 1 rfl rfl ?_
  refine pb_get (pc := 23) d_Book_press_23 6 2 rfl rfl (by decide) in_Book k_419 rfl ?_
  refine pb_aload_n (pc := 26) d_Book_press_26 1 rfl rfl ?_
  refine pb_get (pc := 27) d_Book_press_27 6 0 rfl rfl (by decide) in_Book k_417 rfl ?_
  refine pb_getN (pc := 30) d_Book_press_30 7 0 rfl rfl (by decide) in_Row k_157 rfl ?_
  refine pb_iconst (pc := 33) (v := 0) d_Book_press_33 (by decide) ?_
  refine pb_iload_n (pc := 34) d_Book_press_34 0 rfl rfl ?_
  refine pb_callV (pc := 35) (qb := 0) (ci := 4) (nA := 3) (rest := []) (wr := [(ca, .inr (0, [.ref cb, .int cz])), (cb, .inl (G.2.1, 4502, .inl fc)), (h, .inr (9, [.ref ta, .ref ca, .ref ps, .ref ex_, .ref mk, .ref rd, .ref mu, .ref fi, .ref go, .ref sp, .ref ss])), (ta, .inr (0, [.ref tb, .int 0]))]) d_Book_press_35 (c_Pr_run0 hl G ps pp pl pe pr pb f tb fl pz (by assumption)) rfl rfl [0, 1, 2, 3] [4, 5, 6, 7] (by decide) rfl rfl rfl (by decide) (by decide) k_501 rfl k_120 k_1107 k_499 k_500 (by decide +kernel) (by decide) rfl rfl (Nat.le_of_ble_eq_true rfl) (by decide) (fun v9 u5 h4 => ?_)
  obtain ⟨f_6, rfl⟩ : ∃ z9, z9 = u5 := ⟨_, rfl⟩
  obtain ⟨eh4, h4⟩ := h4
  have eh4 : v9 = none := eh4
  subst eh4
  have h7 : sb_Fit f_6 := h4
  refine pb_eq (pc' := 38) (lo' := [(1, .int 0), (0, .ref h)]) (rest' := []) (ws' := [(ca, .inr (0, [.ref cb, .int cz])), (cb, .inl (G.2.1, 4502, .inl fc)), (h, .inr (9, [.ref ta, .ref ca, .ref ps, .ref ex_, .ref mk, .ref rd, .ref mu, .ref fi, .ref go, .ref sp, .ref ss])), (ta, .inr (0, [.ref tb, .int 0])), (ps, .inr (4, [.ref pp, .ref pl, .ref pe, .ref tb, .int 0, .int 0, .int 10, .int 0, .int 0])), (pp, .inr (0, [.ref pb, .int 2])), (pb, .inl (G.2.1, 4502, .inl f_6))]) ?_
  refine pb_aload_n (pc := 38) d_Book_press_38 1 rfl rfl ?_
  refine pb_get (pc := 39) d_Book_press_39 2 1 rfl rfl (by decide) in_Book k_418 rfl ?_
  refine pb_aload_n (pc := 42) d_Book_press_42 1 rfl rfl ?_
  refine pb_get (pc := 43) d_Book_press_43 2 2 rfl rfl (by decide) in_Book k_419 rfl ?_
  refine pb_getN (pc := 46) d_Book_press_46 4 0 rfl rfl (by decide) in_Presser k_183 rfl ?_
  refine pb_callV (pc := 49) (qb := 0) (ci := 0) (nA := 1) (rest := []) (wr := [(h, .inr (9, [.ref ta, .ref ca, .ref ps, .ref ex_, .ref mk, .ref rd, .ref mu, .ref fi, .ref go, .ref sp, .ref ss])), (ta, .inr (0, [.ref tb, .int 0])), (ps, .inr (4, [.ref pp, .ref pl, .ref pe, .ref tb, .int 0, .int 0, .int 10, .int 0, .int 0]))]) d_Book_press_49 (c_Row_become2 hl G ca cb fc cz pp pb f_6 (by assumption)) rfl rfl [0, 1, 5, 6] [2, 3, 4] (by decide) rfl rfl rfl (by decide) (by decide) k_721 rfl k_119 k_718 k_719 k_720 (by decide +kernel) (by decide) rfl rfl (Nat.le_of_ble_eq_true rfl) (by decide) (fun v9 u9 h8 => ?_)
  obtain ⟨f_10, rfl⟩ : ∃ z9, z9 = u9 := ⟨_, rfl⟩
  have eh8 := h8
  have eh8 : v9 = none := eh8
  subst eh8
  refine pb_eq (pc' := 52) (lo' := [(1, .int 0), (0, .ref h)]) (rest' := []) (ws' := [(h, .inr (9, [.ref ta, .ref ca, .ref ps, .ref ex_, .ref mk, .ref rd, .ref mu, .ref fi, .ref go, .ref sp, .ref ss])), (ta, .inr (0, [.ref tb, .int 0])), (ps, .inr (4, [.ref pp, .ref pl, .ref pe, .ref tb, .int 0, .int 0, .int 10, .int 0, .int 0])), (ca, .inr (0, [.ref cb, .int 2])), (cb, .inl (G.2.1, 4502, .inl f_10))]) ?_
  refine pb_aload_n (pc := 52) d_Book_press_52 1 rfl rfl ?_
  refine pb_get (pc := 53) d_Book_press_53 0 1 rfl rfl (by decide) in_Book k_418 rfl ?_
  refine pb_getN (pc := 56) d_Book_press_56 3 1 rfl rfl (by decide) in_Row k_165 rfl ?_
  exact pb_iret (pc := 59) hQ d_Book_press_59 rfl rfl () rfl [] (by decide) rfl rfl (by decide) (by decide)

theorem d_Book_reachedFromRoot_0 : decode prog_1_method_24_code 0 = .ok (.iconst 0, 1) := by decide +kernel
theorem d_Book_reachedFromRoot_1 : decode prog_1_method_24_code 1 = .ok (.istore_n 1, 1) := by decide +kernel
theorem d_Book_reachedFromRoot_2 : decode prog_1_method_24_code 2 = .ok (.iconst 0, 1) := by decide +kernel
theorem d_Book_reachedFromRoot_3 : decode prog_1_method_24_code 3 = .ok (.istore_n 2, 1) := by decide +kernel
theorem d_Book_reachedFromRoot_4 : decode prog_1_method_24_code 4 = .ok (.iload_n 2, 1) := by decide +kernel
theorem d_Book_reachedFromRoot_5 : decode prog_1_method_24_code 5 = .ok (.aload_n 0, 1) := by decide +kernel
theorem d_Book_reachedFromRoot_6 : decode prog_1_method_24_code 6 = .ok (.getfield 70, 3) := by decide +kernel
theorem d_Book_reachedFromRoot_9 : decode prog_1_method_24_code 9 = .ok (.getfield 133, 3) := by decide +kernel
theorem k_405 : (Jvm.Cond.fieldLinkNest "PackageBook" (133 : Nat) "PackageBook$Shelf" "count" "I" "PackageBook") ∈ uN := uN_of 405 (by decide +kernel) (by decide +kernel)
theorem d_Book_reachedFromRoot_12 : decode prog_1_method_24_code 12 = .ok (.if_icmp .ge 27, 3) := by decide +kernel
theorem d_Book_reachedFromRoot_39 : decode prog_1_method_24_code 39 = .ok (.iconst 0, 1) := by decide +kernel
theorem d_Book_reachedFromRoot_40 : decode prog_1_method_24_code 40 = .ok (.istore_n 2, 1) := by decide +kernel
theorem d_Book_reachedFromRoot_41 : decode prog_1_method_24_code 41 = .ok (.iload_n 2, 1) := by decide +kernel
theorem d_Book_reachedFromRoot_42 : decode prog_1_method_24_code 42 = .ok (.aload_n 0, 1) := by decide +kernel
theorem d_Book_reachedFromRoot_43 : decode prog_1_method_24_code 43 = .ok (.getfield 70, 3) := by decide +kernel
theorem d_Book_reachedFromRoot_46 : decode prog_1_method_24_code 46 = .ok (.getfield 133, 3) := by decide +kernel
theorem d_Book_reachedFromRoot_49 : decode prog_1_method_24_code 49 = .ok (.if_icmp .ge 46, 3) := by decide +kernel
theorem d_Book_reachedFromRoot_95 : decode prog_1_method_24_code 95 = .ok (.iload_n 1, 1) := by decide +kernel
theorem d_Book_reachedFromRoot_96 : decode prog_1_method_24_code 96 = .ok (.ireturn, 1) := by decide +kernel
abbrev y_Book_reachedFromRoot : MethodName := ⟨"PackageBook", "reachedFromRoot", "()I"⟩
abbrev i_Book_reachedFromRoot : pb_I := (y_Book_reachedFromRoot, prog_1_method_24_code, 4, (some Jvm.ClassFile.FieldType.int), [], { frames := 0, cells := 0, slots := 0, locals := 0 })
set_option maxRecDepth 100000 in
set_option maxHeartbeats 4000000 in
theorem c_Book_reached0 {l : Launch} (hl : l.stackTraces = false) (G : pb_G) (h : Nat) (ta : Nat) (ca : Nat) (ps : Nat) (ex_ : Nat) (mk : Nat) (rd : Nat) (mu : Nat) (fi : Nat) (go : Nat) (sp : Nat) (ss : Nat) (spn : Nat) (spz : Nat) (spb : Nat) (spg : Nat) : Cn l G i_Book_reachedFromRoot [.ref h] [(h, .inr (9, [.ref ta, .ref ca, .ref ps, .ref ex_, .ref mk, .ref rd, .ref mu, .ref fi, .ref go, .ref sp, .ref ss])), (sp, .inr (3, [.ref spn, .ref spz, .ref spb, .ref spg, .int 0]))] (S := Unit) (fun v u => v = some (.int 0)) (fun u => [(h, .inr (9, [.ref ta, .ref ca, .ref ps, .ref ex_, .ref mk, .ref rd, .ref mu, .ref fi, .ref go, .ref sp, .ref ss])), (sp, .inr (3, [.ref spn, .ref spz, .ref spb, .ref spg, .int 0]))]) := by
  refine Cn.of hl (by decide +kernel) rfl (Nat.le_of_ble_eq_true rfl) (fun M hQ => ?_)
  refine pb_eq (pc' := 0) (lo' := [(0, .ref h)]) (rest' := []) (ws' := [(h, .inr (9, [.ref ta, .ref ca, .ref ps, .ref ex_, .ref mk, .ref rd, .ref mu, .ref fi, .ref go, .ref sp, .ref ss])), (sp, .inr (3, [.ref spn, .ref spz, .ref spb, .ref spg, .int 0]))]) ?_
  refine pb_iconst (pc := 0) (v := 0) d_Book_reachedFromRoot_0 (by decide) ?_
  refine pb_istore_n (pc := 1) (lo' := [(1, .int 0), (0, .ref h)]) d_Book_reachedFromRoot_1 rfl (by decide) rfl ?_
  refine pb_iconst (pc := 2) (v := 0) d_Book_reachedFromRoot_2 (by decide) ?_
  refine pb_istore_n (pc := 3) (lo' := [(2, .int 0), (1, .int 0), (0, .ref h)]) d_Book_reachedFromRoot_3 rfl (by decide) rfl ?_
  refine pb_iload_n (pc := 4) d_Book_reachedFromRoot_4 0 rfl rfl ?_
  refine pb_aload_n (pc := 5) d_Book_reachedFromRoot_5 2 rfl rfl ?_
  refine pb_get (pc := 6) d_Book_reachedFromRoot_6 0 9 rfl rfl (by decide) in_Book k_426 rfl ?_
  refine pb_getN (pc := 9) d_Book_reachedFromRoot_9 1 4 rfl rfl (by decide) in_Shelf k_405 rfl ?_
  refine pb_icmp_ge (pc := 12) (tgt := 39) d_Book_reachedFromRoot_12 (by decide) (fun _ => ?_) (fun h9 => absurd h9 (by decide))
  refine pb_iconst (pc := 39) (v := 0) d_Book_reachedFromRoot_39 (by decide) ?_
  refine pb_istore_n (pc := 40) (lo' := [(2, .int 0), (1, .int 0), (0, .ref h)]) d_Book_reachedFromRoot_40 rfl (by decide) rfl ?_
  refine pb_iload_n (pc := 41) d_Book_reachedFromRoot_41 0 rfl rfl ?_
  refine pb_aload_n (pc := 42) d_Book_reachedFromRoot_42 2 rfl rfl ?_
  refine pb_get (pc := 43) d_Book_reachedFromRoot_43 0 9 rfl rfl (by decide) in_Book k_426 rfl ?_
  refine pb_getN (pc := 46) d_Book_reachedFromRoot_46 1 4 rfl rfl (by decide) in_Shelf k_405 rfl ?_
  refine pb_icmp_ge (pc := 49) (tgt := 95) d_Book_reachedFromRoot_49 (by decide) (fun _ => ?_) (fun h9 => absurd h9 (by decide))
  refine pb_iload_n (pc := 95) d_Book_reachedFromRoot_95 1 rfl rfl ?_
  exact pb_iret (pc := 96) hQ d_Book_reachedFromRoot_96 rfl rfl () rfl [0, 1] (by decide) rfl rfl (by decide) (by decide)

theorem d_Book_noteUnreached_0 : decode prog_1_method_23_code 0 = .ok (.aload_n 0, 1) := by decide +kernel
theorem d_Book_noteUnreached_1 : decode prog_1_method_23_code 1 = .ok (.invokevirtual 253, 3) := by decide +kernel
theorem k_922 : (Jvm.Cond.methodLink "PackageBook" (253 : Nat) ({ cls := "PackageBook", name := "reachedFromRoot", desc := "()I" } : Jvm.MethodName)) ∈ uW := uW_of 922 (by decide +kernel) (by decide +kernel)
theorem k_925 : (Jvm.Cond.code ({ cls := "PackageBook", name := "reachedFromRoot", desc := "()I" } : Jvm.MethodName) prog_1_method_24_code (4 : Nat) (Option.some Jvm.ClassFile.FieldType.int)) ∈ uW := uW_of 925 (by decide +kernel) (by decide +kernel)
theorem k_924 : (Jvm.Cond.instanceMethod ({ cls := "PackageBook", name := "reachedFromRoot", desc := "()I" } : Jvm.MethodName)) ∈ uW := uW_of 924 (by decide +kernel) (by decide +kernel)
theorem k_51 : Cond.selects "PackageBook" ⟨"PackageBook", "reachedFromRoot", "()I"⟩ ⟨"PackageBook", "reachedFromRoot", "()I"⟩ ∈ uW := uW_of 51 (by decide +kernel) (by decide +kernel)
theorem d_Book_noteUnreached_4 : decode prog_1_method_23_code 4 = .ok (.istore_n 1, 1) := by decide +kernel
theorem d_Book_noteUnreached_5 : decode prog_1_method_23_code 5 = .ok (.iconst 0, 1) := by decide +kernel
theorem d_Book_noteUnreached_6 : decode prog_1_method_23_code 6 = .ok (.istore_n 2, 1) := by decide +kernel
theorem d_Book_noteUnreached_7 : decode prog_1_method_23_code 7 = .ok (.iload_n 2, 1) := by decide +kernel
theorem d_Book_noteUnreached_8 : decode prog_1_method_23_code 8 = .ok (.aload_n 0, 1) := by decide +kernel
theorem d_Book_noteUnreached_9 : decode prog_1_method_23_code 9 = .ok (.getfield 70, 3) := by decide +kernel
theorem d_Book_noteUnreached_12 : decode prog_1_method_23_code 12 = .ok (.getfield 133, 3) := by decide +kernel
theorem d_Book_noteUnreached_15 : decode prog_1_method_23_code 15 = .ok (.if_icmp .ge 38, 3) := by decide +kernel
theorem d_Book_noteUnreached_53 : decode prog_1_method_23_code 53 = .ok (.return_, 1) := by decide +kernel
abbrev y_Book_noteUnreached : MethodName := ⟨"PackageBook", "noteUnreached", "()V"⟩
abbrev i_Book_noteUnreached : pb_I := (y_Book_noteUnreached, prog_1_method_23_code, 3, (Option.none : Option Jvm.ClassFile.FieldType), [], { frames := 1, cells := 0, slots := 0, locals := 23 })
set_option maxRecDepth 100000 in
set_option maxHeartbeats 4000000 in
theorem c_Book_unreached0 {l : Launch} (hl : l.stackTraces = false) (G : pb_G) (h : Nat) (ta : Nat) (ca : Nat) (ps : Nat) (ex_ : Nat) (mk : Nat) (rd : Nat) (mu : Nat) (fi : Nat) (go : Nat) (sp : Nat) (ss : Nat) (spn : Nat) (spz : Nat) (spb : Nat) (spg : Nat) : Cn l G i_Book_noteUnreached [.ref h] [(h, .inr (9, [.ref ta, .ref ca, .ref ps, .ref ex_, .ref mk, .ref rd, .ref mu, .ref fi, .ref go, .ref sp, .ref ss])), (sp, .inr (3, [.ref spn, .ref spz, .ref spb, .ref spg, .int 0]))] (S := Unit) (fun v u => v = none) (fun u => [(h, .inr (9, [.ref ta, .ref ca, .ref ps, .ref ex_, .ref mk, .ref rd, .ref mu, .ref fi, .ref go, .ref sp, .ref ss])), (sp, .inr (3, [.ref spn, .ref spz, .ref spb, .ref spg, .int 0]))]) := by
  refine Cn.of hl (by decide +kernel) rfl (Nat.le_of_ble_eq_true rfl) (fun M hQ => ?_)
  refine pb_eq (pc' := 0) (lo' := [(0, .ref h)]) (rest' := []) (ws' := [(h, .inr (9, [.ref ta, .ref ca, .ref ps, .ref ex_, .ref mk, .ref rd, .ref mu, .ref fi, .ref go, .ref sp, .ref ss])), (sp, .inr (3, [.ref spn, .ref spz, .ref spb, .ref spg, .int 0]))]) ?_
  refine pb_aload_n (pc := 0) d_Book_noteUnreached_0 0 rfl rfl ?_
  refine pb_callV (pc := 1) (qb := 0) (ci := 9) (nA := 0) (rest := []) (wr := []) d_Book_noteUnreached_1 (c_Book_reached0 hl G h ta ca ps ex_ mk rd mu fi go sp ss spn spz spb spg) rfl rfl [0, 1] [] (by decide) rfl rfl rfl (by decide) (by decide) k_925 rfl k_118 k_922 k_924 k_51 (by decide +kernel) (by decide) rfl rfl (Nat.le_of_ble_eq_true rfl) (by decide) (fun v9 u2 h1 => ?_)
  have eh1 := h1
  have eh1 : v9 = some (.int 0) := eh1
  subst eh1
  refine pb_eq (pc' := 4) (lo' := [(0, .ref h)]) (rest' := [.int 0]) (ws' := [(h, .inr (9, [.ref ta, .ref ca, .ref ps, .ref ex_, .ref mk, .ref rd, .ref mu, .ref fi, .ref go, .ref sp, .ref ss])), (sp, .inr (3, [.ref spn, .ref spz, .ref spb, .ref spg, .int 0]))]) ?_
  refine pb_istore_n (pc := 4) (lo' := [(1, .int 0), (0, .ref h)]) d_Book_noteUnreached_4 rfl (by decide) rfl ?_
  refine pb_iconst (pc := 5) (v := 0) d_Book_noteUnreached_5 (by decide) ?_
  refine pb_istore_n (pc := 6) (lo' := [(2, .int 0), (1, .int 0), (0, .ref h)]) d_Book_noteUnreached_6 rfl (by decide) rfl ?_
  refine pb_iload_n (pc := 7) d_Book_noteUnreached_7 0 rfl rfl ?_
  refine pb_aload_n (pc := 8) d_Book_noteUnreached_8 2 rfl rfl ?_
  refine pb_get (pc := 9) d_Book_noteUnreached_9 0 9 rfl rfl (by decide) in_Book k_426 rfl ?_
  refine pb_getN (pc := 12) d_Book_noteUnreached_12 1 4 rfl rfl (by decide) in_Shelf k_405 rfl ?_
  refine pb_icmp_ge (pc := 15) (tgt := 53) d_Book_noteUnreached_15 (by decide) (fun _ => ?_) (fun h9 => absurd h9 (by decide))
  exact pb_vret (pc := 53) hQ d_Book_noteUnreached_53 rfl () rfl [0, 1] (by decide) rfl rfl (by decide) (by decide)

theorem d_Book_check_0 : decode prog_1_method_16_code 0 = .ok (.aload_n 0, 1) := by decide +kernel
theorem d_Book_check_1 : decode prog_1_method_16_code 1 = .ok (.getfield 59, 3) := by decide +kernel
theorem d_Book_check_4 : decode prog_1_method_16_code 4 = .ok (.iconst 0, 1) := by decide +kernel
theorem d_Book_check_5 : decode prog_1_method_16_code 5 = .ok (.putfield 205, 3) := by decide +kernel
theorem k_373 : (Jvm.Cond.fieldLinkNest "PackageBook" (205 : Nat) "PackageBook$Findings" "count" "I" "PackageBook") ∈ uN := uN_of 373 (by decide +kernel) (by decide +kernel)
theorem d_Book_check_8 : decode prog_1_method_16_code 8 = .ok (.iconst 0, 1) := by decide +kernel
theorem d_Book_check_9 : decode prog_1_method_16_code 9 = .ok (.istore_n 1, 1) := by decide +kernel
theorem d_Book_check_10 : decode prog_1_method_16_code 10 = .ok (.iload_n 1, 1) := by decide +kernel
theorem d_Book_check_11 : decode prog_1_method_16_code 11 = .ok (.aload_n 0, 1) := by decide +kernel
theorem d_Book_check_12 : decode prog_1_method_16_code 12 = .ok (.getfield 70, 3) := by decide +kernel
theorem d_Book_check_15 : decode prog_1_method_16_code 15 = .ok (.getfield 133, 3) := by decide +kernel
theorem d_Book_check_18 : decode prog_1_method_16_code 18 = .ok (.if_icmp .ge 57, 3) := by decide +kernel
theorem d_Book_check_75 : decode prog_1_method_16_code 75 = .ok (.aload_n 0, 1) := by decide +kernel
theorem d_Book_check_76 : decode prog_1_method_16_code 76 = .ok (.invokevirtual 219, 3) := by decide +kernel
theorem k_918 : (Jvm.Cond.methodLink "PackageBook" (219 : Nat) ({ cls := "PackageBook", name := "noteUnreached", desc := "()V" } : Jvm.MethodName)) ∈ uW := uW_of 918 (by decide +kernel) (by decide +kernel)
theorem k_921 : (Jvm.Cond.code ({ cls := "PackageBook", name := "noteUnreached", desc := "()V" } : Jvm.MethodName) prog_1_method_23_code (3 : Nat) (Option.none : Option Jvm.ClassFile.FieldType)) ∈ uW := uW_of 921 (by decide +kernel) (by decide +kernel)
theorem k_920 : (Jvm.Cond.instanceMethod ({ cls := "PackageBook", name := "noteUnreached", desc := "()V" } : Jvm.MethodName)) ∈ uW := uW_of 920 (by decide +kernel) (by decide +kernel)
theorem k_50 : Cond.selects "PackageBook" ⟨"PackageBook", "noteUnreached", "()V"⟩ ⟨"PackageBook", "noteUnreached", "()V"⟩ ∈ uW := uW_of 50 (by decide +kernel) (by decide +kernel)
theorem d_Book_check_79 : decode prog_1_method_16_code 79 = .ok (.aload_n 0, 1) := by decide +kernel
theorem d_Book_check_80 : decode prog_1_method_16_code 80 = .ok (.getfield 59, 3) := by decide +kernel
theorem d_Book_check_83 : decode prog_1_method_16_code 83 = .ok (.getfield 205, 3) := by decide +kernel
theorem d_Book_check_86 : decode prog_1_method_16_code 86 = .ok (.ireturn, 1) := by decide +kernel
abbrev y_Book_check : MethodName := ⟨"PackageBook", "check", "()I"⟩
abbrev i_Book_check : pb_I := (y_Book_check, prog_1_method_16_code, 2, (some Jvm.ClassFile.FieldType.int), [], { frames := 2, cells := 0, slots := 0, locals := 45 })
set_option maxRecDepth 100000 in
set_option maxHeartbeats 4000000 in
theorem c_Book_check {l : Launch} (hl : l.stackTraces = false) (G : pb_G) (h : Nat) (ta : Nat) (ca : Nat) (ps : Nat) (ex_ : Nat) (mk : Nat) (rd : Nat) (mu : Nat) (fi : Nat) (go : Nat) (sp : Nat) (ss : Nat) (spn : Nat) (spz : Nat) (spb : Nat) (spg : Nat) (fk : Nat) (fo : Nat) (fp : Nat) (fn : Int32) : Cn l G i_Book_check [.ref h] [(h, .inr (9, [.ref ta, .ref ca, .ref ps, .ref ex_, .ref mk, .ref rd, .ref mu, .ref fi, .ref go, .ref sp, .ref ss])), (fi, .inr (2, [.ref fk, .ref fo, .ref fp, .int fn])), (sp, .inr (3, [.ref spn, .ref spz, .ref spb, .ref spg, .int 0]))] (S := Unit) (fun v u => v = some (.int 0)) (fun u => []) := by
  refine Cn.of hl (by decide +kernel) rfl (Nat.le_of_ble_eq_true rfl) (fun M hQ => ?_)
  refine pb_eq (pc' := 0) (lo' := [(0, .ref h)]) (rest' := []) (ws' := [(h, .inr (9, [.ref ta, .ref ca, .ref ps, .ref ex_, .ref mk, .ref rd, .ref mu, .ref fi, .ref go, .ref sp, .ref ss])), (fi, .inr (2, [.ref fk, .ref fo, .ref fp, .int fn])), (sp, .inr (3, [.ref spn, .ref spz, .ref spb, .ref spg, .int 0]))]) ?_
  refine pb_aload_n (pc := 0) d_Book_check_0 0 rfl rfl ?_
  refine pb_get (pc := 1) d_Book_check_1 0 7 rfl rfl (by decide) in_Book k_424 rfl ?_
  refine pb_iconst (pc := 4) (v := 0) d_Book_check_4 (by decide) ?_
  refine pb_putN (pc := 5) (ty := .int) (ws' := [(h, .inr (9, [.ref ta, .ref ca, .ref ps, .ref ex_, .ref mk, .ref rd, .ref mu, .ref fi, .ref go, .ref sp, .ref ss])), (fi, .inr (2, [.ref fk, .ref fo, .ref fp, .int 0])), (sp, .inr (3, [.ref spn, .ref spz, .ref spb, .ref spg, .int 0]))]) d_Book_check_5 1 3 t_Findings t_Findings_ok n_Findings rfl rfl (by decide) in_Findings k_373 rfl (by decide +kernel) rfl rfl (Nat.le_of_ble_eq_true rfl) rfl ?_
  refine pb_iconst (pc := 8) (v := 0) d_Book_check_8 (by decide) ?_
  refine pb_istore_n (pc := 9) (lo' := [(1, .int 0), (0, .ref h)]) d_Book_check_9 rfl (by decide) rfl ?_
  refine pb_iload_n (pc := 10) d_Book_check_10 0 rfl rfl ?_
  refine pb_aload_n (pc := 11) d_Book_check_11 1 rfl rfl ?_
  refine pb_get (pc := 12) d_Book_check_12 0 9 rfl rfl (by decide) in_Book k_426 rfl ?_
  refine pb_getN (pc := 15) d_Book_check_15 2 4 rfl rfl (by decide) in_Shelf k_405 rfl ?_
  refine pb_icmp_ge (pc := 18) (tgt := 75) d_Book_check_18 (by decide) (fun _ => ?_) (fun h9 => absurd h9 (by decide))
  refine pb_aload_n (pc := 75) d_Book_check_75 1 rfl rfl ?_
  refine pb_callV (pc := 76) (qb := 0) (ci := 9) (nA := 0) (rest := []) (wr := [(fi, .inr (2, [.ref fk, .ref fo, .ref fp, .int 0]))]) d_Book_check_76 (c_Book_unreached0 hl G h ta ca ps ex_ mk rd mu fi go sp ss spn spz spb spg) rfl rfl [0, 2] [1] (by decide) rfl rfl rfl (by decide) (by decide) k_921 rfl k_118 k_918 k_920 k_50 (by decide +kernel) (by decide) rfl rfl (Nat.le_of_ble_eq_true rfl) (by decide) (fun v9 u3 h2 => ?_)
  have eh2 := h2
  have eh2 : v9 = none := eh2
  subst eh2
  refine pb_eq (pc' := 79) (lo' := [(1, .int 0), (0, .ref h)]) (rest' := []) (ws' := [(fi, .inr (2, [.ref fk, .ref fo, .ref fp, .int 0])), (h, .inr (9, [.ref ta, .ref ca, .ref ps, .ref ex_, .ref mk, .ref rd, .ref mu, .ref fi, .ref go, .ref sp, .ref ss])), (sp, .inr (3, [.ref spn, .ref spz, .ref spb, .ref spg, .int 0]))]) ?_
  refine pb_aload_n (pc := 79) d_Book_check_79 1 rfl rfl ?_
  refine pb_get (pc := 80) d_Book_check_80 1 7 rfl rfl (by decide) in_Book k_424 rfl ?_
  refine pb_getN (pc := 83) d_Book_check_83 0 3 rfl rfl (by decide) in_Findings k_373 rfl ?_
  exact pb_iret (pc := 86) hQ d_Book_check_86 rfl rfl () rfl [] (by decide) rfl rfl (by decide) (by decide)
