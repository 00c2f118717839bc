theorem d_Book_takeTape_0 : decode prog_1_method_20_code 0 = .ok (.aload_n 0, 1) := by decide +kernel
theorem d_Book_takeTape_1 : decode prog_1_method_20_code 1 = .ok (.getfield 14, 3) := by decide +kernel
theorem d_Book_takeTape_4 : decode prog_1_method_20_code 4 = .ok (.getfield 84, 3) := by decide +kernel
theorem k_165 : (Jvm.Cond.fieldLinkNest "PackageBook" (84 : Nat) "PackageBook$Row" "size" "I" "PackageBook") ∈ uN := uN_of 165 (by decide +kernel) (by decide +kernel)
theorem d_Book_takeTape_7 : decode prog_1_method_20_code 7 = .ok (.istore_n 1, 1) := by decide +kernel
theorem d_Book_takeTape_8 : decode prog_1_method_20_code 8 = .ok (.aload_n 0, 1) := by decide +kernel
theorem d_Book_takeTape_9 : decode prog_1_method_20_code 9 = .ok (.getfield 14, 3) := by decide +kernel
theorem d_Book_takeTape_12 : decode prog_1_method_20_code 12 = .ok (.iconst 0, 1) := by decide +kernel
theorem d_Book_takeTape_13 : decode prog_1_method_20_code 13 = .ok (.putfield 84, 3) := by decide +kernel
theorem d_Book_takeTape_16 : decode prog_1_method_20_code 16 = .ok (.iload_n 1, 1) := by decide +kernel
theorem d_Book_takeTape_17 : decode prog_1_method_20_code 17 = .ok (.ireturn, 1) := by decide +kernel
abbrev y_Book_takeTape : MethodName := ⟨"PackageBook", "takeTape", "()I"⟩
abbrev i_Book_takeTape : pb_I := (y_Book_takeTape, prog_1_method_20_code, 2, (some Jvm.ClassFile.FieldType.int), [], { frames := 0, cells := 0, slots := 0, locals := 0 })
set_option maxRecDepth 100000 in
set_option maxHeartbeats 4000000 in
theorem c_Book_takeTape {l : Launch} (hl : l.stackTraces = false) (G : pb_G) (h : Nat) (ta : Nat) (ca : Nat) (ps : Nat) (ex_ : Nat) (mk : Nat) (rd : Nat) (mu : Nat) (fi : Nat) (go : Nat) (sp : Nat) (ss : Nat) (tb : Nat) (ts : Int32) : Cn l G i_Book_takeTape [.ref h] [(h, .inr (9, [.ref ta, .ref ca, .ref ps, .ref ex_, .ref mk, .ref rd, .ref mu, .ref fi, .ref go, .ref sp, .ref ss])), (ta, .inr (0, [.ref tb, .int ts]))] (S := Unit) (fun v u => v = some (.int ts)) (fun u => [(h, .inr (9, [.ref ta, .ref ca, .ref ps, .ref ex_, .ref mk, .ref rd, .ref mu, .ref fi, .ref go, .ref sp, .ref ss])), (ta, .inr (0, [.ref tb, .int 0]))]) := by
  refine Cn.of hl (by decide +kernel) rfl (Nat.le_of_ble_eq_true rfl) (fun M hQ => ?_)
  refine pb_eq (pc' := 0) (lo' := [(0, .ref h)]) (rest' := []) (ws' := [(h, .inr (9, [.ref ta, .ref ca, .ref ps, .ref ex_, .ref mk, .ref rd, .ref mu, .ref fi, .ref go, .ref sp, .ref ss])), (ta, .inr (0, [.ref tb, .int ts]))]) ?_
  refine pb_aload_n (pc := 0) d_Book_takeTape_0 0 rfl rfl ?_
  refine pb_get (pc := 1) d_Book_takeTape_1 0 0 rfl rfl (by decide) in_Book k_417 rfl ?_
  refine pb_getN (pc := 4) d_Book_takeTape_4 1 1 rfl rfl (by decide) in_Row k_165 rfl ?_
  refine pb_istore_n (pc := 7) (lo' := [(1, .int ts), (0, .ref h)]) d_Book_takeTape_7 rfl (by decide) rfl ?_
  refine pb_aload_n (pc := 8) d_Book_takeTape_8 1 rfl rfl ?_
  refine pb_get (pc := 9) d_Book_takeTape_9 0 0 rfl rfl (by decide) in_Book k_417 rfl ?_
  refine pb_iconst (pc := 12) (v := 0) d_Book_takeTape_12 (by decide) ?_
  refine pb_putN (pc := 13) (ty := .int) (ws' := [(h, .inr (9, [.ref ta, .ref ca, .ref ps, .ref ex_, .ref mk, .ref rd, .ref mu, .ref fi, .ref go, .ref sp, .ref ss])), (ta, .inr (0, [.ref tb, .int 0]))]) d_Book_takeTape_13 1 1 t_Row t_Row_ok n_Row rfl rfl (by decide) in_Row k_165 rfl (by decide +kernel) rfl rfl (Nat.le_of_ble_eq_true rfl) rfl ?_
  refine pb_iload_n (pc := 16) d_Book_takeTape_16 0 rfl rfl ?_
  exact pb_iret (pc := 17) hQ d_Book_takeTape_17 rfl rfl () rfl [0, 1] (by decide) rfl rfl (by decide) (by decide)

theorem d_Shelf_has_0 : decode prog_10_method_3_code 0 = .ok (.iload_n 1, 1) := by decide +kernel
theorem d_Shelf_has_1 : decode prog_10_method_3_code 1 = .ok (.ifCond .lt 15, 3) := by decide +kernel
theorem d_Shelf_has_16 : decode prog_10_method_3_code 16 = .ok (.iconst 0, 1) := by decide +kernel
theorem d_Shelf_has_17 : decode prog_10_method_3_code 17 = .ok (.ireturn, 1) := by decide +kernel
theorem d_Shelf_has_4 : decode prog_10_method_3_code 4 = .ok (.iload_n 1, 1) := by decide +kernel
theorem d_Shelf_has_5 : decode prog_10_method_3_code 5 = .ok (.aload_n 0, 1) := by decide +kernel
theorem d_Shelf_has_6 : decode prog_10_method_3_code 6 = .ok (.getfield 25, 3) := by decide +kernel
theorem k_403 : (Jvm.Cond.fieldLink "PackageBook$Shelf" (25 : Nat) "PackageBook$Shelf" "count" "I") ∈ uW := uW_of 403 (by decide +kernel) (by decide +kernel)
theorem d_Shelf_has_9 : decode prog_10_method_3_code 9 = .ok (.if_icmp .ge 7, 3) := by decide +kernel
abbrev y_Shelf_has : MethodName := ⟨"PackageBook$Shelf", "has", "(I)Z"⟩
abbrev i_Shelf_has : pb_I := (y_Shelf_has, prog_10_method_3_code, 2, (some Jvm.ClassFile.FieldType.boolean), [], { frames := 0, cells := 0, slots := 0, locals := 0 })
set_option maxRecDepth 100000 in
set_option maxHeartbeats 4000000 in
theorem c_Shelf_has {l : Launch} (hl : l.stackTraces = false) (G : pb_G) (h : Nat) (sn : Nat) (sz : Nat) (sb : Nat) (sg : Nat) (i : Int32) : Cn l G i_Shelf_has [.ref h, .int i] [(h, .inr (3, [.ref sn, .ref sz, .ref sb, .ref sg, .int 0]))] (S := Unit) (fun v u => v = some (.int 0)) (fun u => [(h, .inr (3, [.ref sn, .ref sz, .ref sb, .ref sg, .int 0]))]) := by
  refine Cn.of hl (by decide +kernel) rfl (Nat.le_of_ble_eq_true rfl) (fun M hQ => ?_)
  refine pb_eq (pc' := 0) (lo' := [(0, .ref h), (1, .int i)]) (rest' := []) (ws' := [(h, .inr (3, [.ref sn, .ref sz, .ref sb, .ref sg, .int 0]))]) ?_
  refine pb_iload_n (pc := 0) d_Shelf_has_0 1 rfl rfl ?_
  refine pb_if_lt (pc := 1) (tgt := 16) d_Shelf_has_1 (by decide) (fun w1 => ?_) (fun w1 => ?_)
  · have tw1 : i.toInt < 0 := (ti_lt rfl (by decide)).mp w1
    refine pb_iconst (pc := 16) (v := 0) d_Shelf_has_16 (by decide) ?_
    exact pb_iret (pc := 17) hQ d_Shelf_has_17 rfl rfl () rfl [0] (by decide) rfl rfl (by decide) (by decide)
  · have tw1 : ¬ i.toInt < 0 := fun z9 => w1 ((ti_lt rfl (by decide)).mpr z9)
    refine pb_iload_n (pc := 4) d_Shelf_has_4 1 rfl rfl ?_
    refine pb_aload_n (pc := 5) d_Shelf_has_5 0 rfl rfl ?_
    refine pb_get (pc := 6) d_Shelf_has_6 0 4 rfl rfl (by decide) in_Shelf k_403 rfl ?_
    refine pb_icmp_ge (pc := 9) (tgt := 16) d_Shelf_has_9 (by decide) (fun w2 => ?_) (fun h9 => False.elim (by have t9 : ¬ 0 ≤ i.toInt := fun z9 => h9 ((ti_le (by decide) rfl).mpr z9); omega))
    have tw2 : 0 ≤ i.toInt := (ti_le (by decide) rfl).mp w2
    refine pb_iconst (pc := 16) (v := 0) d_Shelf_has_16 (by decide) ?_
    exact pb_iret (pc := 17) hQ d_Shelf_has_17 rfl rfl () rfl [0] (by decide) rfl rfl (by decide) (by decide)

theorem d_Shelf_find_0 : decode prog_10_method_6_code 0 = .ok (.iconst 0, 1) := by decide +kernel
theorem d_Shelf_find_1 : decode prog_10_method_6_code 1 = .ok (.istore 4, 2) := by decide +kernel
theorem d_Shelf_find_3 : decode prog_10_method_6_code 3 = .ok (.iload 4, 2) := by decide +kernel
theorem d_Shelf_find_5 : decode prog_10_method_6_code 5 = .ok (.aload_n 0, 1) := by decide +kernel
theorem d_Shelf_find_6 : decode prog_10_method_6_code 6 = .ok (.getfield 25, 3) := by decide +kernel
theorem d_Shelf_find_9 : decode prog_10_method_6_code 9 = .ok (.if_icmp .ge 41, 3) := by decide +kernel
theorem d_Shelf_find_50 : decode prog_10_method_6_code 50 = .ok (.iconst (-1), 1) := by decide +kernel
theorem d_Shelf_find_51 : decode prog_10_method_6_code 51 = .ok (.ireturn, 1) := by decide +kernel
abbrev y_Shelf_find : MethodName := ⟨"PackageBook$Shelf", "find", "([BII)I"⟩
abbrev i_Shelf_find : pb_I := (y_Shelf_find, prog_10_method_6_code, 5, (some Jvm.ClassFile.FieldType.int), [], { frames := 0, cells := 0, slots := 0, locals := 0 })
set_option maxRecDepth 100000 in
set_option maxHeartbeats 4000000 in
theorem c_Shelf_find {l : Launch} (hl : l.stackTraces = false) (G : pb_G) (h : Nat) (sn : Nat) (sz : Nat) (sb : Nat) (sg : Nat) (b : Nat) (x : Int32) (n : Int32) : Cn l G i_Shelf_find [.ref h, .ref b, .int x, .int n] [(h, .inr (3, [.ref sn, .ref sz, .ref sb, .ref sg, .int 0]))] (S := Unit) (fun v u => v = some (.int (-1))) (fun u => [(h, .inr (3, [.ref sn, .ref sz, .ref sb, .ref sg, .int 0]))]) := by
  refine Cn.of hl (by decide +kernel) rfl (Nat.le_of_ble_eq_true rfl) (fun M hQ => ?_)
  refine pb_eq (pc' := 0) (lo' := [(0, .ref h), (1, .ref b), (2, .int x), (3, .int n)]) (rest' := []) (ws' := [(h, .inr (3, [.ref sn, .ref sz, .ref sb, .ref sg, .int 0]))]) ?_
  refine pb_iconst (pc := 0) (v := 0) d_Shelf_find_0 (by decide) ?_
  refine pb_istore (pc := 1) (lo' := [(4, .int 0), (0, .ref h), (1, .ref b), (2, .int x), (3, .int n)]) d_Shelf_find_1 (by decide) rfl ?_
  refine pb_iload (pc := 3) d_Shelf_find_3 0 rfl ?_
  refine pb_aload_n (pc := 5) d_Shelf_find_5 1 rfl rfl ?_
  refine pb_get (pc := 6) d_Shelf_find_6 0 4 rfl rfl (by decide) in_Shelf k_403 rfl ?_
  refine pb_icmp_ge (pc := 9) (tgt := 50) d_Shelf_find_9 (by decide) (fun _ => ?_) (fun h9 => absurd h9 (by decide))
  refine pb_iconst (pc := 50) (v := (-1)) d_Shelf_find_50 (by decide) ?_
  exact pb_iret (pc := 51) hQ d_Shelf_find_51 rfl rfl () rfl [0] (by decide) rfl rfl (by decide) (by decide)

theorem d_Shelf_takeOut_0 : decode prog_10_method_8_code 0 = .ok (.aload_n 0, 1) := by decide +kernel
theorem d_Shelf_takeOut_1 : decode prog_10_method_8_code 1 = .ok (.iload_n 1, 1) := by decide +kernel
theorem d_Shelf_takeOut_2 : decode prog_10_method_8_code 2 = .ok (.invokevirtual 33, 3) := by decide +kernel
theorem k_470 : (Jvm.Cond.methodLink "PackageBook$Shelf" (33 : Nat) ({ cls := "PackageBook$Shelf", name := "has", desc := "(I)Z" } : Jvm.MethodName)) ∈ uW := uW_of 470 (by decide +kernel) (by decide +kernel)
theorem k_473 : (Jvm.Cond.code ({ cls := "PackageBook$Shelf", name := "has", desc := "(I)Z" } : Jvm.MethodName) prog_10_method_3_code (2 : Nat) (Option.some Jvm.ClassFile.FieldType.boolean)) ∈ uW := uW_of 473 (by decide +kernel) (by decide +kernel)
theorem k_471 : (Jvm.Cond.instanceMethod ({ cls := "PackageBook$Shelf", name := "has", desc := "(I)Z" } : Jvm.MethodName)) ∈ uW := uW_of 471 (by decide +kernel) (by decide +kernel)
theorem k_472 : (Jvm.Cond.selects "PackageBook$Shelf" ({ cls := "PackageBook$Shelf", name := "has", desc := "(I)Z" } : Jvm.MethodName) ({ cls := "PackageBook$Shelf", name := "has", desc := "(I)Z" } : Jvm.MethodName)) ∈ uW := uW_of 472 (by decide +kernel) (by decide +kernel)
theorem d_Shelf_takeOut_5 : decode prog_10_method_8_code 5 = .ok (.ifCond .ne 4, 3) := by decide +kernel
theorem d_Shelf_takeOut_8 : decode prog_10_method_8_code 8 = .ok (.return_, 1) := by decide +kernel
abbrev y_Shelf_takeOut : MethodName := ⟨"PackageBook$Shelf", "takeOut", "(I)V"⟩
abbrev i_Shelf_takeOut : pb_I := (y_Shelf_takeOut, prog_10_method_8_code, 5, (Option.none : Option Jvm.ClassFile.FieldType), [], { frames := 1, cells := 0, slots := 0, locals := 21 })
set_option maxRecDepth 100000 in
set_option maxHeartbeats 4000000 in
theorem c_Shelf_takeOut {l : Launch} (hl : l.stackTraces = false) (G : pb_G) (h : Nat) (sn : Nat) (sz : Nat) (sb : Nat) (sg : Nat) (i : Int32) : Cn l G i_Shelf_takeOut [.ref h, .int i] [(h, .inr (3, [.ref sn, .ref sz, .ref sb, .ref sg, .int 0]))] (S := Unit) (fun v u => v = none) (fun u => [(h, .inr (3, [.ref sn, .ref sz, .ref sb, .ref sg, .int 0]))]) := by
  refine Cn.of hl (by decide +kernel) rfl (Nat.le_of_ble_eq_true rfl) (fun M hQ => ?_)
  refine pb_eq (pc' := 0) (lo' := [(0, .ref h), (1, .int i)]) (rest' := []) (ws' := [(h, .inr (3, [.ref sn, .ref sz, .ref sb, .ref sg, .int 0]))]) ?_
  refine pb_aload_n (pc := 0) d_Shelf_takeOut_0 0 rfl rfl ?_
  refine pb_iload_n (pc := 1) d_Shelf_takeOut_1 1 rfl rfl ?_
  refine pb_callV (pc := 2) (qb := 0) (ci := 3) (nA := 1) (rest := []) (wr := []) d_Shelf_takeOut_2 (c_Shelf_has hl G h sn sz sb sg i) rfl rfl [0] [] (by decide) rfl rfl rfl (by decide) (by decide) k_473 rfl k_127 k_470 k_471 k_472 (by decide +kernel) (by decide) rfl rfl (Nat.le_of_ble_eq_true rfl) (by decide) (fun v9 u2 h1 => ?_)
  have eh1 := h1
  have eh1 : v9 = some (.int 0) := eh1
  subst eh1
  refine pb_eq (pc' := 5) (lo' := [(0, .ref h), (1, .int i)]) (rest' := [.int 0]) (ws' := [(h, .inr (3, [.ref sn, .ref sz, .ref sb, .ref sg, .int 0]))]) ?_
  refine pb_if_ne (pc := 5) (tgt := 9) d_Shelf_takeOut_5 (by decide) (fun h9 => absurd h9 (by decide)) (fun _ => ?_)
  exact pb_vret (pc := 8) hQ d_Shelf_takeOut_8 rfl () rfl [0] (by decide) rfl rfl (by decide) (by decide)
