/-! ROWS OF NUMBERS -/
theorem omg_e217db9ad7 {x0 : Int} {x1 : Int} {x2 : Int} (a0 : (x0 ≤ (16 : Int))) (a1 : ((x1 = (0 : Int)) ∨ (x1 = (1 : Int)))) (a2 : ((x1 = (1 : Int)) ↔ (((0 : Int) ≤ x2) ∧ (x2 < x0)))) (a3 : (¬ (x1 = (0 : Int)))) : (((0 : Int) ≤ x2) ∧ (x2 < (((16 : Nat) : Nat) : Int))) := by omega
theorem omg_128d5bfc24 {x0 : Int} {x1 : Int} {x2 : Int} {x3 : Int} {x4 : Int} {x5 : Int} {x6 : Int} {x7 : Int} {x8 : Int} {x9 : Int} {x10 : Int} (a0 : (((0 : Int) ≤ x0) ∧ ((x0 ≤ x1) ∧ (x1 ≤ (12000 : Int))))) (a1 : (((0 : Int) ≤ x2) ∧ ((x2 ≤ x1) ∧ (x1 ≤ (12000 : Int))))) (a2 : (x3 = x4)) (a3 : (x5 = (x2 - x0))) (a4 : (x6 = (x3 + x5))) (a5 : (x7 < x6)) (a6 : (x8 = x4)) (a7 : (x9 = (x7 - x8))) (a8 : ((0 : Int) ≤ x9)) (a9 : (x10 = x0)) : (((-(2147483648 : Int)) ≤ (x10 + x9)) ∧ ((x10 + x9) < (2147483648 : Int))) := by omega
theorem omg_a203672fb0 {x0 : Int} {x1 : Int} {x2 : Int} {x3 : Int} {x4 : Int} {x5 : Int} {x6 : Int} {x7 : Int} {x8 : Int} {x9 : Prop} {x10 : Prop} (a0 : (x0 = x1)) (a1 : (x2 = (x3 - x4))) (a2 : (x5 = (x0 + x2))) (a3 : (x6 < x5)) (a4 : ((x1 = x7) ∧ (((x3 - x4) = x8) ∧ (x9 ∧ x10)))) : (x6 < (x7 + x8)) := by omega
theorem omg_64a641856f {x0 : Int} {x1 : Int} {x2 : Int} {x3 : Int} {x4 : Int} {x5 : Int} {x6 : Int} {x7 : Int} {x8 : Int} {x9 : Int} (a0 : (x0 ≤ (16 : Int))) (a1 : ((x1 = (0 : Int)) ∨ (x1 = (1 : Int)))) (a2 : ((x1 = (1 : Int)) ↔ (((0 : Int) ≤ x2) ∧ (x2 < x0)))) (a3 : (¬ (x1 = (0 : Int)))) (a4 : ((x3 ≤ x4) ∧ ((x4 ≤ (x3 + (4000 : Int))) ∧ (((1 : Int) ≤ x5) ∧ (x5 ≤ (24 : Int)))))) (a5 : (¬ (x6 < (0 : Int)))) (a6 : (x7 = x5)) (a7 : (x8 = (x6 - x7))) (a8 : (¬ ((0 : Int) ≤ x8))) (a9 : (x9 = ((24 : Int) * x2))) : (((-(2147483648 : Int)) ≤ (x9 + x6)) ∧ ((x9 + x6) < (2147483648 : Int))) := by omega
theorem omg_8cbe2da1b1 {x0 : Int} {x1 : Int} {x2 : Int} {x3 : Int} {x4 : Int} {x5 : Int} {x6 : Int} {x7 : Int} {x8 : Int} {x9 : Int} {x10 : Int} (a0 : (x0 ≤ (16 : Int))) (a1 : ((x1 = (0 : Int)) ∨ (x1 = (1 : Int)))) (a2 : ((x1 = (1 : Int)) ↔ (((0 : Int) ≤ x2) ∧ (x2 < x0)))) (a3 : (¬ (x1 = (0 : Int)))) (a4 : ((x3 ≤ x4) ∧ ((x4 ≤ (x3 + (4000 : Int))) ∧ (((1 : Int) ≤ x5) ∧ (x5 ≤ (24 : Int)))))) (a5 : (¬ (x6 < (0 : Int)))) (a6 : (x7 = x5)) (a7 : (x8 = (x6 - x7))) (a8 : (¬ ((0 : Int) ≤ x8))) (a9 : (x9 = ((24 : Int) * x2))) (a10 : (x10 = (x9 + x6))) : (((0 : Int) ≤ x10) ∧ (x10 < (((384 : Nat) : Nat) : Int))) := by omega
theorem d_Book_byteOf_0 : decode prog_1_method_7_code 0 = .ok (.aload_n 0, 1) := by decide +kernel
theorem d_Book_byteOf_1 : decode prog_1_method_7_code 1 = .ok (.getfield 70, 3) := by decide +kernel
theorem d_Book_byteOf_4 : decode prog_1_method_7_code 4 = .ok (.iload_n 1, 1) := by decide +kernel
theorem d_Book_byteOf_5 : decode prog_1_method_7_code 5 = .ok (.invokevirtual 139, 3) := by decide +kernel
theorem d_Book_byteOf_8 : decode prog_1_method_7_code 8 = .ok (.ifCond .eq 29, 3) := by decide +kernel
theorem d_Book_byteOf_37 : decode prog_1_method_7_code 37 = .ok (.new 143, 3) := by decide +kernel
theorem d_Book_byteOf_40 : decode prog_1_method_7_code 40 = .ok (.dup, 1) := by decide +kernel
theorem d_Book_byteOf_41 : decode prog_1_method_7_code 41 = .ok (.ldc 155, 2) := by decide +kernel
theorem d_Book_byteOf_43 : decode prog_1_method_7_code 43 = .ok (.invokespecial 147, 3) := by decide +kernel
theorem d_Book_byteOf_46 : decode prog_1_method_7_code 46 = .ok (.athrow, 1) := by decide +kernel
theorem d_Book_byteOf_11 : decode prog_1_method_7_code 11 = .ok (.iload_n 2, 1) := by decide +kernel
theorem d_Book_byteOf_12 : decode prog_1_method_7_code 12 = .ok (.ifCond .lt 25, 3) := by decide +kernel
theorem d_Book_byteOf_15 : decode prog_1_method_7_code 15 = .ok (.iload_n 2, 1) := by decide +kernel
theorem d_Book_byteOf_16 : decode prog_1_method_7_code 16 = .ok (.aload_n 0, 1) := by decide +kernel
theorem d_Book_byteOf_17 : decode prog_1_method_7_code 17 = .ok (.getfield 70, 3) := by decide +kernel
theorem d_Book_byteOf_20 : decode prog_1_method_7_code 20 = .ok (.getfield 148, 3) := by decide +kernel
theorem d_Book_byteOf_23 : decode prog_1_method_7_code 23 = .ok (.iload_n 1, 1) := by decide +kernel
theorem d_Book_byteOf_24 : decode prog_1_method_7_code 24 = .ok (.iaload, 1) := by decide +kernel
theorem d_Book_byteOf_25 : decode prog_1_method_7_code 25 = .ok (.aload_n 0, 1) := by decide +kernel
theorem d_Book_byteOf_26 : decode prog_1_method_7_code 26 = .ok (.getfield 70, 3) := by decide +kernel
theorem d_Book_byteOf_29 : decode prog_1_method_7_code 29 = .ok (.iload_n 1, 1) := by decide +kernel
theorem d_Book_byteOf_30 : decode prog_1_method_7_code 30 = .ok (.invokevirtual 151, 3) := by decide +kernel
theorem d_Book_byteOf_33 : decode prog_1_method_7_code 33 = .ok (.iadd, 1) := by decide +kernel
theorem d_Book_byteOf_34 : decode prog_1_method_7_code 34 = .ok (.if_icmp .lt 13, 3) := by decide +kernel
theorem d_Book_byteOf_47 : decode prog_1_method_7_code 47 = .ok (.iload_n 2, 1) := by decide +kernel
theorem d_Book_byteOf_48 : decode prog_1_method_7_code 48 = .ok (.aload_n 0, 1) := by decide +kernel
theorem d_Book_byteOf_49 : decode prog_1_method_7_code 49 = .ok (.getfield 70, 3) := by decide +kernel
theorem d_Book_byteOf_52 : decode prog_1_method_7_code 52 = .ok (.getfield 148, 3) := by decide +kernel
theorem d_Book_byteOf_55 : decode prog_1_method_7_code 55 = .ok (.iload_n 1, 1) := by decide +kernel
theorem d_Book_byteOf_56 : decode prog_1_method_7_code 56 = .ok (.iaload, 1) := by decide +kernel
theorem d_Book_byteOf_57 : decode prog_1_method_7_code 57 = .ok (.isub, 1) := by decide +kernel
theorem d_Book_byteOf_58 : decode prog_1_method_7_code 58 = .ok (.istore_n 3, 1) := by decide +kernel
theorem d_Book_byteOf_59 : decode prog_1_method_7_code 59 = .ok (.iload_n 3, 1) := by decide +kernel
theorem d_Book_byteOf_60 : decode prog_1_method_7_code 60 = .ok (.ifCond .ge 20, 3) := by decide +kernel
theorem d_Book_byteOf_80 : decode prog_1_method_7_code 80 = .ok (.aload_n 0, 1) := by decide +kernel
theorem d_Book_byteOf_81 : decode prog_1_method_7_code 81 = .ok (.getfield 70, 3) := by decide +kernel
theorem d_Book_byteOf_84 : decode prog_1_method_7_code 84 = .ok (.getfield 160, 3) := by decide +kernel
theorem k_398 : (Jvm.Cond.fieldLinkNest "PackageBook" (160 : Nat) "PackageBook$Shelf" "bytes" "[B" "PackageBook") ∈ uN := uN_of 398 (by decide +kernel) (by decide +kernel)
theorem d_Book_byteOf_87 : decode prog_1_method_7_code 87 = .ok (.aload_n 0, 1) := by decide +kernel
theorem d_Book_byteOf_88 : decode prog_1_method_7_code 88 = .ok (.getfield 70, 3) := by decide +kernel
theorem d_Book_byteOf_91 : decode prog_1_method_7_code 91 = .ok (.getfield 161, 3) := by decide +kernel
theorem k_402 : (Jvm.Cond.fieldLinkNest "PackageBook" (161 : Nat) "PackageBook$Shelf" "begins" "[I" "PackageBook") ∈ uN := uN_of 402 (by decide +kernel) (by decide +kernel)
theorem d_Book_byteOf_94 : decode prog_1_method_7_code 94 = .ok (.iload_n 1, 1) := by decide +kernel
theorem d_Book_byteOf_95 : decode prog_1_method_7_code 95 = .ok (.iaload, 1) := by decide +kernel
theorem d_Book_byteOf_96 : decode prog_1_method_7_code 96 = .ok (.iload_n 3, 1) := by decide +kernel
theorem d_Book_byteOf_97 : decode prog_1_method_7_code 97 = .ok (.iadd, 1) := by decide +kernel
theorem d_Book_byteOf_98 : decode prog_1_method_7_code 98 = .ok (.baload, 1) := by decide +kernel
theorem d_Book_byteOf_99 : decode prog_1_method_7_code 99 = .ok (.sipush 255, 3) := by decide +kernel
theorem d_Book_byteOf_102 : decode prog_1_method_7_code 102 = .ok (.iand, 1) := by decide +kernel
theorem d_Book_byteOf_103 : decode prog_1_method_7_code 103 = .ok (.ireturn, 1) := by decide +kernel
theorem d_Book_byteOf_63 : decode prog_1_method_7_code 63 = .ok (.aload_n 0, 1) := by decide +kernel
theorem d_Book_byteOf_64 : decode prog_1_method_7_code 64 = .ok (.getfield 70, 3) := by decide +kernel
theorem d_Book_byteOf_67 : decode prog_1_method_7_code 67 = .ok (.getfield 157, 3) := by decide +kernel
theorem k_391 : (Jvm.Cond.fieldLinkNest "PackageBook" (157 : Nat) "PackageBook$Shelf" "names" "[B" "PackageBook") ∈ uN := uN_of 391 (by decide +kernel) (by decide +kernel)
theorem d_Book_byteOf_70 : decode prog_1_method_7_code 70 = .ok (.bipush 24, 2) := by decide +kernel
theorem d_Book_byteOf_72 : decode prog_1_method_7_code 72 = .ok (.iload_n 1, 1) := by decide +kernel
theorem d_Book_byteOf_73 : decode prog_1_method_7_code 73 = .ok (.imul, 1) := by decide +kernel
theorem d_Book_byteOf_74 : decode prog_1_method_7_code 74 = .ok (.iload_n 2, 1) := by decide +kernel
theorem d_Book_byteOf_75 : decode prog_1_method_7_code 75 = .ok (.iadd, 1) := by decide +kernel
theorem d_Book_byteOf_76 : decode prog_1_method_7_code 76 = .ok (.baload, 1) := by decide +kernel
theorem d_Book_byteOf_77 : decode prog_1_method_7_code 77 = .ok (.goto 22, 3) := by decide +kernel
abbrev y_Book_byteOf : MethodName := ⟨"PackageBook", "byteOf", "(II)I"⟩
abbrev i_Book_byteOf : pb_I := (y_Book_byteOf, prog_1_method_7_code, 4, (some Jvm.ClassFile.FieldType.int), [], { frames := 6, cells := 1, slots := 6, locals := 90 })
set_option maxRecDepth 100000 in
set_option maxHeartbeats 4000000 in
theorem g_Book_byteOf {l : Launch} (hl : l.stackTraces = false) (G : pb_G) (h : Nat) (ta : Nat) (ca : Nat) (ps : Nat) (xe : Nat) (mk : Nat) (rd : Nat) (mu : Nat) (fi : Nat) (go : Nat) (sp : Nat) (ss : Nat) (tn : Nat) (tz : Nat) (tb : Nat) (tg : Nat) (c : Int32) (tfn : Nat → Int32) (tfz : Nat → Int32) (tfb : Nat → Int32) (tfg : Nat → Int32) (i : Int32) (k : Int32) (V : VW_) (I : sh_I c.toInt tfz tfg) (R : rC_ c.toInt tfn tfz tfb tfg V) (F_tfn : sb_Fit tfn) (F_tfb : sb_Fit tfb) : Cx l G i_Book_byteOf [.ref h, .int i, .int k] [(h, .inr (9, [.ref ta, .ref ca, .ref ps, .ref xe, .ref mk, .ref rd, .ref mu, .ref fi, .ref go, .ref sp, .ref ss])), (sp, .inr (3, [.ref tn, .ref tz, .ref tb, .ref tg, .int c])), (tn, .inl (G.2.1, 384, .inl tfn)), (tz, .inl (G.2.2.1, 16, .inl tfz)), (tb, .inl (G.2.1, 12000, .inl tfb)), (tg, .inl (G.2.2.1, 17, .inl tfg))] (S := Int32) (SX := Unit) (fun rv_ u => rv_ = some (.int u) ∧ (0 ≤ i.toInt ∧ i.toInt < vC V ∧ 0 ≤ k.toInt ∧ k.toInt < vZ V i.toInt + vS V i.toInt) ∧ (u.toInt = bo_ V i.toInt k.toInt)) (fun u => [(h, .inr (9, [.ref ta, .ref ca, .ref ps, .ref xe, .ref mk, .ref rd, .ref mu, .ref fi, .ref go, .ref sp, .ref ss])), (sp, .inr (3, [.ref tn, .ref tz, .ref tb, .ref tg, .int c])), (tn, .inl (G.2.1, 384, .inl tfn)), (tz, .inl (G.2.2.1, 16, .inl tfz)), (tb, .inl (G.2.1, 12000, .inl tfb)), (tg, .inl (G.2.2.1, 17, .inl tfg))]) (fun E u => (E = "java/lang/IndexOutOfBoundsException" ∧ (¬ (0 ≤ i.toInt ∧ i.toInt < vC V ∧ 0 ≤ k.toInt ∧ k.toInt < vZ V i.toInt + vS V i.toInt)))) (fun u => [(h, .inr (9, [.ref ta, .ref ca, .ref ps, .ref xe, .ref mk, .ref rd, .ref mu, .ref fi, .ref go, .ref sp, .ref ss])), (sp, .inr (3, [.ref tn, .ref tz, .ref tb, .ref tg, .int c])), (tn, .inl (G.2.1, 384, .inl tfn)), (tz, .inl (G.2.2.1, 16, .inl tfz)), (tb, .inl (G.2.1, 12000, .inl tfb)), (tg, .inl (G.2.2.1, 17, .inl tfg))]) := by
  refine Cx.of hl (by decide +kernel) rfl (Nat.le_of_ble_eq_true rfl) (fun M hQ => ?_)
  refine pb_eq (pc' := 0) (lo' := [(0, .ref h), (1, .int i), (2, .int k)]) (rest' := []) (ws' := [(h, .inr (9, [.ref ta, .ref ca, .ref ps, .ref xe, .ref mk, .ref rd, .ref mu, .ref fi, .ref go, .ref sp, .ref ss])), (sp, .inr (3, [.ref tn, .ref tz, .ref tb, .ref tg, .int c])), (tn, .inl (G.2.1, 384, .inl tfn)), (tz, .inl (G.2.2.1, 16, .inl tfz)), (tb, .inl (G.2.1, 12000, .inl tfb)), (tg, .inl (G.2.2.1, 17, .inl tfg))]) ?_
  have zl0 : (0 : Int32).toInt = 0 := by decide
  have zl1 : (1 : Int32).toInt = 1 := by decide
  have zl24 : (24 : Int32).toInt = 24 := by decide
  have q2 := I.2.1
  have RC := R.1
  refine pb_aload_n (pc := 0) d_Book_byteOf_0 0 rfl rfl ?_
  refine pb_get (pc := 1) d_Book_byteOf_1 0 9 rfl rfl (by decide) in_Book k_426 rfl ?_
  refine pb_iload_n (pc := 4) d_Book_byteOf_4 1 rfl rfl ?_
  refine pb_callV (pc := 5) (I := i_Book_byteOf) (qb := 1) (ci := 3) (nA := 1) (rest := []) (wr := [(h, .inr (9, [.ref ta, .ref ca, .ref ps, .ref xe, .ref mk, .ref rd, .ref mu, .ref fi, .ref go, .ref sp, .ref ss])), (tn, .inl (G.2.1, 384, .inl tfn)), (tz, .inl (G.2.2.1, 16, .inl tfz)), (tb, .inl (G.2.1, 12000, .inl tfb)), (tg, .inl (G.2.2.1, 17, .inl tfg))]) d_Book_byteOf_5 (g_Shelf_has hl G sp tn tz tb tg c i) rfl rfl [1] [0, 2, 3, 4, 5] (by decide) rfl rfl rfl (by decide) (by decide) k_473 rfl k_127 k_1054 k_471 k_472 ⟨rfl, hy_Shelf_has⟩ (by decide) rfl rfl (Nat.le_of_ble_eq_true rfl) (by decide) (fun v9 ux2 ch1 => ?_)
  obtain ⟨r_3, rfl⟩ : ∃ z9, z9 = ux2 := ⟨_, rfl⟩
  obtain ⟨ech1, ch1⟩ := ch1
  have ech1 : v9 = some (.int r_3) := ech1
  subst ech1
  obtain ⟨fh4, fh5⟩ : (r_3.toInt = 0 ∨ r_3.toInt = 1) ∧ (r_3.toInt = 1 ↔ 0 ≤ i.toInt ∧ i.toInt < c.toInt) := ch1
  refine pb_eq (pc' := 8) (lo' := [(0, .ref h), (1, .int i), (2, .int k)]) (rest' := [.int r_3]) (ws' := [(h, .inr (9, [.ref ta, .ref ca, .ref ps, .ref xe, .ref mk, .ref rd, .ref mu, .ref fi, .ref go, .ref sp, .ref ss])), (tn, .inl (G.2.1, 384, .inl tfn)), (tz, .inl (G.2.2.1, 16, .inl tfz)), (tb, .inl (G.2.1, 12000, .inl tfb)), (tg, .inl (G.2.2.1, 17, .inl tfg)), (sp, .inr (3, [.ref tn, .ref tz, .ref tb, .ref tg, .int c]))]) ?_
  refine pb_if_eq (pc := 8) (tgt := 37) d_Book_byteOf_8 (by decide) (fun wx6 => ?_) (fun wx6 => ?_)
  · have twx6 : r_3.toInt = 0 := (ti_eq rfl (by decide)).mp wx6
    exact pb_throwS (pc := 37) (cls := "java/lang/IndexOutOfBoundsException") (text := "no such part or byte") (names := ["java/lang/RuntimeException", "java/lang/Exception"]) hQ d_Book_byteOf_37 d_Book_byteOf_40 d_Book_byteOf_41 d_Book_byteOf_43 d_Book_byteOf_46 (by decide +kernel) (by decide +kernel) tx_Book_143_147 (by decide +kernel) (by decide) (Nat.le_of_ble_eq_true rfl) (by decide) (by decide) () ⟨rfl, (show ¬ (0 ≤ i.toInt ∧ i.toInt < vC V ∧ 0 ≤ k.toInt ∧ k.toInt < vZ V i.toInt + vS V i.toInt) from (fun q9 => by have q5 := R.1; have q4 := R.2 i.toInt q9.1 (by omega); have q3 := q4.1; have q8 := q4.2.1; omega))⟩ [0, 5, 1, 2, 3, 4] (by decide) rfl rfl
  · have twx6 : ¬ r_3.toInt = 0 := fun z9 => wx6 ((ti_eq rfl (by decide)).mpr z9)
    have q5 := I.2.2.2.2 i.toInt (by omega) (by omega)
    have q6 := sh_rng I (k := i.toInt) (by omega) (by omega)
    have q7 := sh_rng I (k := i.toInt + 1) (by omega) (by omega)
    refine pb_iload_n (pc := 11) d_Book_byteOf_11 2 rfl rfl ?_
    refine pb_if_lt (pc := 12) (tgt := 37) d_Book_byteOf_12 (by decide) (fun wx7 => ?_) (fun wx7 => ?_)
    · have twx7 : k.toInt < 0 := (ti_lt rfl (by decide)).mp wx7
      exact pb_throwS (pc := 37) (cls := "java/lang/IndexOutOfBoundsException") (text := "no such part or byte") (names := ["java/lang/RuntimeException", "java/lang/Exception"]) hQ d_Book_byteOf_37 d_Book_byteOf_40 d_Book_byteOf_41 d_Book_byteOf_43 d_Book_byteOf_46 (by decide +kernel) (by decide +kernel) tx_Book_143_147 (by decide +kernel) (by decide) (Nat.le_of_ble_eq_true rfl) (by decide) (by decide) () ⟨rfl, (show ¬ (0 ≤ i.toInt ∧ i.toInt < vC V ∧ 0 ≤ k.toInt ∧ k.toInt < vZ V i.toInt + vS V i.toInt) from (fun q9 => by have q5 := R.1; have q4 := R.2 i.toInt q9.1 (by omega); have q3 := q4.1; have q8 := q4.2.1; omega))⟩ [0, 5, 1, 2, 3, 4] (by decide) rfl rfl
    · have twx7 : ¬ k.toInt < 0 := fun z9 => wx7 ((ti_lt rfl (by decide)).mpr z9)
      refine pb_iload_n (pc := 15) d_Book_byteOf_15 2 rfl rfl ?_
      refine pb_aload_n (pc := 16) d_Book_byteOf_16 0 rfl rfl ?_
      refine pb_get (pc := 17) d_Book_byteOf_17 0 9 rfl rfl (by decide) in_Book k_426 rfl ?_
      refine pb_getN (pc := 20) d_Book_byteOf_20 5 1 rfl rfl (by decide) in_Shelf k_394 rfl ?_
      refine pb_iload_n (pc := 23) d_Book_byteOf_23 1 rfl rfl ?_
      refine pb_iald (pc := 24) d_Book_byteOf_24 2 rfl (vp_in_iff.mpr (by (exact omg_e217db9ad7 q2 fh4 fh5 twx6))) ?_
      refine pb_topi (fun ix8 eix8 => ?_)
      have tix8 : ix8.toInt = gx tfz (i.toInt) := gx_ld eix8 rfl
      refine pb_aload_n (pc := 25) d_Book_byteOf_25 0 rfl rfl ?_
      refine pb_get (pc := 26) d_Book_byteOf_26 0 9 rfl rfl (by decide) in_Book k_426 rfl ?_
      refine pb_iload_n (pc := 29) d_Book_byteOf_29 1 rfl rfl ?_
      refine pb_callV (pc := 30) (I := i_Book_byteOf) (qb := 5) (ci := 3) (nA := 1) (rest := [.int ix8, .int k]) (wr := [(h, .inr (9, [.ref ta, .ref ca, .ref ps, .ref xe, .ref mk, .ref rd, .ref mu, .ref fi, .ref go, .ref sp, .ref ss])), (tn, .inl (G.2.1, 384, .inl tfn)), (tz, .inl (G.2.2.1, 16, .inl tfz)), (tb, .inl (G.2.1, 12000, .inl tfb))]) d_Book_byteOf_30 (g_Shelf_sizeOf hl G sp tn tz tb tg c tfz tfg i (by first | assumption | decide | omega) (by first | (with_reducible assumption) | omega (splitDisjunctions := false) | assumption | omega | decide) (by first | (with_reducible assumption) | omega (splitDisjunctions := false) | assumption | (exact omg_58e5b0c77c fh4 fh5 twx6) | decide)) rfl rfl [5, 4] [0, 1, 2, 3] (by decide) rfl rfl rfl (by decide) (by decide) k_477 rfl k_127 k_1071 k_475 k_476 ⟨rfl, hy_Shelf_sizeOf⟩ (by decide) rfl rfl (Nat.le_of_ble_eq_true rfl) (by decide) (fun v9 ux10 ch9 => ?_)
      obtain ⟨r_11, rfl⟩ : ∃ z9, z9 = ux10 := ⟨_, rfl⟩
      obtain ⟨ech9, ch9⟩ := ch9
      have ech9 : v9 = some (.int r_11) := ech9
      subst ech9
      obtain ⟨fh12, fh13, fh14⟩ : (r_11.toInt = gx tfg (i.toInt + 1) - gx tfg i.toInt) ∧ (0 ≤ r_11.toInt) ∧ (r_11.toInt ≤ 4000) := ch9
      refine pb_eq (pc' := 33) (lo' := [(0, .ref h), (1, .int i), (2, .int k)]) (rest' := [.int r_11, .int ix8, .int k]) (ws' := [(h, .inr (9, [.ref ta, .ref ca, .ref ps, .ref xe, .ref mk, .ref rd, .ref mu, .ref fi, .ref go, .ref sp, .ref ss])), (tn, .inl (G.2.1, 384, .inl tfn)), (tz, .inl (G.2.2.1, 16, .inl tfz)), (tb, .inl (G.2.1, 12000, .inl tfb)), (sp, .inr (3, [.ref tn, .ref tz, .ref tb, .ref tg, .int c])), (tg, .inl (G.2.2.1, 17, .inl tfg))]) ?_
      refine pb_iadd (pc := 33) d_Book_byteOf_33 ?_
      refine pb_topi (fun ix15 eix15 => ?_)
      try have tix15 : ix15.toInt = ix8.toInt + r_11.toInt := t2_add eix15 rfl rfl (by omega)
      refine pb_icmp_lt (pc := 34) (tgt := 47) d_Book_byteOf_34 (by decide) (fun wx16 => ?_) (fun wx16 => ?_)
      · have twx16 : k.toInt < ix15.toInt := (ti_lt rfl rfl).mp wx16
        have R4 := R.2 i.toInt (by omega) (by omega)
        have Rz := R4.1
        have Rs := R4.2.1
        refine pb_iload_n (pc := 47) d_Book_byteOf_47 2 rfl rfl ?_
        refine pb_aload_n (pc := 48) d_Book_byteOf_48 0 rfl rfl ?_
        refine pb_get (pc := 49) d_Book_byteOf_49 0 9 rfl rfl (by decide) in_Book k_426 rfl ?_
        refine pb_getN (pc := 52) d_Book_byteOf_52 4 1 rfl rfl (by decide) in_Shelf k_394 rfl ?_
        refine pb_iload_n (pc := 55) d_Book_byteOf_55 1 rfl rfl ?_
        refine pb_iald (pc := 56) d_Book_byteOf_56 2 rfl (vp_in_iff.mpr (by omega)) ?_
        refine pb_topi (fun ix17 eix17 => ?_)
        have tix17 : ix17.toInt = gx tfz (i.toInt) := gx_ld eix17 rfl
        refine pb_isub (pc := 57) d_Book_byteOf_57 ?_
        refine pb_topi (fun ix18 eix18 => ?_)
        try have tix18 : ix18.toInt = k.toInt - ix17.toInt := t2_sub eix18 rfl rfl (by omega)
        refine pb_istore_n (pc := 58) (lo' := [(3, .int ix18), (0, .ref h), (1, .int i), (2, .int k)]) d_Book_byteOf_58 rfl (by decide) rfl ?_
        refine pb_iload_n (pc := 59) d_Book_byteOf_59 0 rfl rfl ?_
        refine pb_if_ge (pc := 60) (tgt := 80) d_Book_byteOf_60 (by decide) (fun wx19 => ?_) (fun wx19 => ?_)
        · have twx19 : 0 ≤ ix18.toInt := (ti_le (by decide) rfl).mp wx19
          refine pb_aload_n (pc := 80) d_Book_byteOf_80 1 rfl rfl ?_
          refine pb_get (pc := 81) d_Book_byteOf_81 0 9 rfl rfl (by decide) in_Book k_426 rfl ?_
          refine pb_getN (pc := 84) d_Book_byteOf_84 4 2 rfl rfl (by decide) in_Shelf k_398 rfl ?_
          refine pb_aload_n (pc := 87) d_Book_byteOf_87 1 rfl rfl ?_
          refine pb_get (pc := 88) d_Book_byteOf_88 0 9 rfl rfl (by decide) in_Book k_426 rfl ?_
          refine pb_getN (pc := 91) d_Book_byteOf_91 4 3 rfl rfl (by decide) in_Shelf k_402 rfl ?_
          refine pb_iload_n (pc := 94) d_Book_byteOf_94 2 rfl rfl ?_
          refine pb_iald (pc := 95) d_Book_byteOf_95 5 rfl (vp_in_iff.mpr (by omega)) ?_
          refine pb_topi (fun ix20 eix20 => ?_)
          have tix20 : ix20.toInt = gx tfg (i.toInt) := gx_ld eix20 rfl
          refine pb_iload_n (pc := 96) d_Book_byteOf_96 0 rfl rfl ?_
          refine pb_iadd (pc := 97) d_Book_byteOf_97 ?_
          refine pb_topi (fun ix21 eix21 => ?_)
          try have tix21 : ix21.toInt = ix20.toInt + ix18.toInt := t2_add eix21 rfl rfl (by (exact omg_128d5bfc24 q6 q7 tix8 fh12 tix15 twx16 tix17 tix18 twx19 tix20))
          refine pb_bald (pc := 98) d_Book_byteOf_98 3 rfl (vp_in_iff.mpr (by omega)) ?_
          refine pb_topi (fun ix22 eix22 => ?_)
          have xix22 : ix22 = gr tfb (gx tfg i.toInt + (k.toInt - gx tfz i.toInt)) := gr_ld eix22 (by omega)
          have yix22 : ix22.toInt = gx tfb (gx tfg i.toInt + (k.toInt - gx tfz i.toInt)) := congrArg Int32.toInt xix22
          have tix22 : -128 ≤ ix22.toInt ∧ ix22.toInt ≤ 127 := ti_fit (F_tfb _) eix22
          have xv9 := xix22
          refine pb_sipush (pc := 99) (v := 255) d_Book_byteOf_99 (by decide) ?_
          refine pb_iand (pc := 102) d_Book_byteOf_102 ?_
          refine pb_topi (fun ix23 eix23 => ?_)
          have tix23 : 0 ≤ ix23.toInt ∧ ix23.toInt ≤ 255 := ti_and 8 eix23 (by decide) (by decide)
          have ev9 := eix23
          exact pb_iretx (pc := 103) hQ d_Book_byteOf_103 rfl rfl (ix23) ⟨rfl, (show 0 ≤ i.toInt ∧ i.toInt < vC V ∧ 0 ≤ k.toInt ∧ k.toInt < vZ V i.toInt + vS V i.toInt from (⟨by omega, by omega, by omega, by (exact omg_a203672fb0 tix8 fh12 tix15 twx16 R4)⟩)), (show ix23.toInt = bo_ V i.toInt k.toInt from (by first | exact bo_n (by omega) (by have q3 := R4.2.2.1 k.toInt (by omega) (by omega); omega) (ti_255 ev9) | exact bo_d (by omega) xv9 (by have q3 := R4.2.2.2 (k.toInt - gx tfz i.toInt) (by omega) (by omega); rw [← Rz, ← q3]) (ti_255 ev9)))⟩ [0, 4, 1, 2, 3, 5] (by decide) rfl rfl (by decide) (by decide)
        · have twx19 : ¬ 0 ≤ ix18.toInt := fun z9 => wx19 ((ti_le (by decide) rfl).mpr z9)
          refine pb_aload_n (pc := 63) d_Book_byteOf_63 1 rfl rfl ?_
          refine pb_get (pc := 64) d_Book_byteOf_64 0 9 rfl rfl (by decide) in_Book k_426 rfl ?_
          refine pb_getN (pc := 67) d_Book_byteOf_67 4 0 rfl rfl (by decide) in_Shelf k_391 rfl ?_
          refine pb_bipush (pc := 70) (v := 24) d_Book_byteOf_70 (by decide) ?_
          refine pb_iload_n (pc := 72) d_Book_byteOf_72 2 rfl rfl ?_
          refine pb_imul (pc := 73) d_Book_byteOf_73 ?_
          refine pb_topi (fun ix24 eix24 => ?_)
          try have tix24 : ix24.toInt = 24 * i.toInt := ti_mul eix24 (by decide) rfl (by omega) (by omega)
          refine pb_iload_n (pc := 74) d_Book_byteOf_74 3 rfl rfl ?_
          refine pb_iadd (pc := 75) d_Book_byteOf_75 ?_
          refine pb_topi (fun ix25 eix25 => ?_)
          try have tix25 : ix25.toInt = ix24.toInt + k.toInt := t2_add eix25 rfl rfl (by (exact omg_64a641856f q2 fh4 fh5 twx6 q5 twx7 tix17 tix18 twx19 tix24))
          refine pb_bald (pc := 76) d_Book_byteOf_76 1 rfl (vp_in_iff.mpr (by (exact omg_8cbe2da1b1 q2 fh4 fh5 twx6 q5 twx7 tix17 tix18 twx19 tix24 tix25))) ?_
          refine pb_topi (fun ix26 eix26 => ?_)
          have xix26 : ix26 = gr tfn (24 * i.toInt + k.toInt) := gr_ld eix26 (by (exact omg_c2f0ba10d7 tix24 tix25))
          have yix26 : ix26.toInt = gx tfn (24 * i.toInt + k.toInt) := congrArg Int32.toInt xix26
          have tix26 : -128 ≤ ix26.toInt ∧ ix26.toInt ≤ 127 := ti_fit (F_tfn _) eix26
          refine pb_goto (pc := 77) (tgt := 99) d_Book_byteOf_77 (by decide) ?_
          have xv9 := xix26
          refine pb_sipush (pc := 99) (v := 255) d_Book_byteOf_99 (by decide) ?_
          refine pb_iand (pc := 102) d_Book_byteOf_102 ?_
          refine pb_topi (fun ix27 eix27 => ?_)
          have tix27 : 0 ≤ ix27.toInt ∧ ix27.toInt ≤ 255 := ti_and 8 eix27 (by decide) (by decide)
          have ev9 := eix27
          exact pb_iretx (pc := 103) hQ d_Book_byteOf_103 rfl rfl (ix27) ⟨rfl, (show 0 ≤ i.toInt ∧ i.toInt < vC V ∧ 0 ≤ k.toInt ∧ k.toInt < vZ V i.toInt + vS V i.toInt from (⟨by omega, by omega, by (exact omg_db7907a2b4 twx7), by (exact omg_a203672fb0 tix8 fh12 tix15 twx16 R4)⟩)), (show ix27.toInt = bo_ V i.toInt k.toInt from (by first | exact bo_n (by omega) (by have q3 := R4.2.2.1 k.toInt (by omega) (by omega); omega) (ti_255 ev9) | exact bo_d (by omega) xv9 (by have q3 := R4.2.2.2 (k.toInt - gx tfz i.toInt) (by omega) (by omega); rw [← Rz, ← q3]) (ti_255 ev9)))⟩ [0, 4, 1, 2, 3, 5] (by decide) rfl rfl (by decide) (by decide)
      · have twx16 : ¬ k.toInt < ix15.toInt := fun z9 => wx16 ((ti_lt rfl rfl).mpr z9)
        exact pb_throwS (pc := 37) (cls := "java/lang/IndexOutOfBoundsException") (text := "no such part or byte") (names := ["java/lang/RuntimeException", "java/lang/Exception"]) hQ d_Book_byteOf_37 d_Book_byteOf_40 d_Book_byteOf_41 d_Book_byteOf_43 d_Book_byteOf_46 (by decide +kernel) (by decide +kernel) tx_Book_143_147 (by decide +kernel) (by decide) (Nat.le_of_ble_eq_true rfl) (by decide) (by decide) () ⟨rfl, (show ¬ (0 ≤ i.toInt ∧ i.toInt < vC V ∧ 0 ≤ k.toInt ∧ k.toInt < vZ V i.toInt + vS V i.toInt) from (fun q9 => by have q5 := R.1; have q4 := R.2 i.toInt q9.1 (by omega); have q3 := q4.1; have q8 := q4.2.1; omega))⟩ [0, 4, 1, 2, 3, 5] (by decide) rfl rfl

theorem d_Book_write_0 : decode prog_1_method_8_code 0 = .ok (.aload_n 0, 1) := by decide +kernel
theorem d_Book_write_1 : decode prog_1_method_8_code 1 = .ok (.getfield 38, 3) := by decide +kernel
theorem d_Book_write_4 : decode prog_1_method_8_code 4 = .ok (.aload_n 0, 1) := by decide +kernel
theorem d_Book_write_5 : decode prog_1_method_8_code 5 = .ok (.getfield 70, 3) := by decide +kernel
theorem d_Book_write_8 : decode prog_1_method_8_code 8 = .ok (.aload_n 0, 1) := by decide +kernel
theorem d_Book_write_9 : decode prog_1_method_8_code 9 = .ok (.getfield 24, 3) := by decide +kernel
theorem d_Book_write_12 : decode prog_1_method_8_code 12 = .ok (.invokevirtual 164, 3) := by decide +kernel
theorem k_489 : (Jvm.Cond.methodLink "PackageBook" (164 : Nat) ({ cls := "PackageBook$FileMaker", name := "make", desc := "(LPackageBook$Shelf;LPackageBook$Presser;)V" } : Jvm.MethodName)) ∈ uW := uW_of 489 (by decide +kernel) (by decide +kernel)
theorem k_492 : (Jvm.Cond.code ({ cls := "PackageBook$FileMaker", name := "make", desc := "(LPackageBook$Shelf;LPackageBook$Presser;)V" } : Jvm.MethodName) prog_4_method_2_code (5 : Nat) (Option.none : Option Jvm.ClassFile.FieldType)) ∈ uW := uW_of 492 (by decide +kernel) (by decide +kernel)
theorem k_490 : (Jvm.Cond.instanceMethod ({ cls := "PackageBook$FileMaker", name := "make", desc := "(LPackageBook$Shelf;LPackageBook$Presser;)V" } : Jvm.MethodName)) ∈ uW := uW_of 490 (by decide +kernel) (by decide +kernel)
theorem k_491 : (Jvm.Cond.selects "PackageBook$FileMaker" ({ cls := "PackageBook$FileMaker", name := "make", desc := "(LPackageBook$Shelf;LPackageBook$Presser;)V" } : Jvm.MethodName) ({ cls := "PackageBook$FileMaker", name := "make", desc := "(LPackageBook$Shelf;LPackageBook$Presser;)V" } : Jvm.MethodName)) ∈ uW := uW_of 491 (by decide +kernel) (by decide +kernel)
theorem hy_FileMaker_make : (y_FileMaker_make).cls ≠ "java/lang/invoke/MethodHandle" ∧ (y_FileMaker_make).cls ≠ "java/lang/invoke/VarHandle" ∧ (parseMethodDescriptor (y_FileMaker_make).desc).map (fun d => d.parameters.length) = some 2 := by decide +kernel
theorem d_Book_write_15 : decode prog_1_method_8_code 15 = .ok (.aload_n 0, 1) := by decide +kernel
theorem d_Book_write_16 : decode prog_1_method_8_code 16 = .ok (.getfield 38, 3) := by decide +kernel
theorem d_Book_write_19 : decode prog_1_method_8_code 19 = .ok (.getfield 168, 3) := by decide +kernel
theorem k_293 : (Jvm.Cond.fieldLinkNest "PackageBook" (168 : Nat) "PackageBook$FileMaker" "made" "LPackageBook$Row;" "PackageBook") ∈ uN := uN_of 293 (by decide +kernel) (by decide +kernel)
theorem d_Book_write_22 : decode prog_1_method_8_code 22 = .ok (.getfield 84, 3) := by decide +kernel
theorem d_Book_write_25 : decode prog_1_method_8_code 25 = .ok (.ireturn, 1) := by decide +kernel
abbrev y_Book_write : MethodName := ⟨"PackageBook", "write", "()I"⟩
abbrev i_Book_write : pb_I := (y_Book_write, prog_1_method_8_code, 1, (some Jvm.ClassFile.FieldType.int), [], { frames := 6, cells := 0, slots := 0, locals := 141 })
set_option maxRecDepth 100000 in
set_option maxHeartbeats 4000000 in
theorem g_Book_write {l : Launch} (hl : l.stackTraces = false) (G : pb_G) (h : Nat) (ta : Nat) (ca : Nat) (ps : Nat) (xe : Nat) (mk : Nat) (rd : Nat) (mu : Nat) (fi : Nat) (go : Nat) (sp : Nat) (ss : Nat) (mm : Nat) (mr : Nat) (mb : Nat) (mf : Nat → Int32) (mrf : Nat → Int32) (ms : Int32) (tn : Nat) (tz : Nat) (tb : Nat) (tg : Nat) (c : Int32) (tfn : Nat → Int32) (tfz : Nat → Int32) (tfb : Nat → Int32) (tfg : Nat → Int32) (pp : Nat) (pl : Nat) (pe : Nat) (pr : Nat) (pb : Nat) (bg : Int32) (sz : Int32) (bt : Int32) (ln : Int32) (ds : Int32) (pz : Int32) (pf : Nat → Int32) (fl_ : Nat → Int32) (fe_ : Nat → Int32) (V : VW_) (I : sh_I c.toInt tfz tfg) (R : rC_ c.toInt tfn tfz tfb tfg V) (F_mf : sb_Fit mf) (F_tfn : sb_Fit tfn) (F_tfb : sb_Fit tfb) (F_pf : sb_Fit pf) : Cn l G i_Book_write [.ref h] [(h, .inr (9, [.ref ta, .ref ca, .ref ps, .ref xe, .ref mk, .ref rd, .ref mu, .ref fi, .ref go, .ref sp, .ref ss])), (mk, .inr (6, [.ref mm, .ref mr])), (mm, .inr (0, [.ref mb, .int ms])), (mb, .inl (G.2.1, 14006, .inl mf)), (mr, .inl (G.2.2.1, 16, .inl mrf)), (sp, .inr (3, [.ref tn, .ref tz, .ref tb, .ref tg, .int c])), (tn, .inl (G.2.1, 384, .inl tfn)), (tz, .inl (G.2.2.1, 16, .inl tfz)), (tb, .inl (G.2.1, 12000, .inl tfb)), (tg, .inl (G.2.2.1, 17, .inl tfg)), (ps, .inr (4, [.ref pp, .ref pl, .ref pe, .ref pr, .int bg, .int sz, .int bt, .int ln, .int ds])), (pp, .inr (0, [.ref pb, .int pz])), (pb, .inl (G.2.1, 4502, .inl pf)), (pl, .inl (G.2.2.1, 1024, .inl fl_)), (pe, .inl (G.2.2.1, 4000, .inl fe_))] (S := Int32 × Int32 × (Nat → Int32) × (Nat → Int32) × Nat × Int32 × Int32 × Int32 × Int32 × Int32 × Int32 × (Nat → Int32) × (Nat → Int32) × (Nat → Int32)) (fun rv_ u => rv_ = some (.int u.1) ∧ (0 ≤ u.2.1.toInt) ∧ (u.2.1.toInt ≤ 14006) ∧ (u.1.toInt = u.2.1.toInt) ∧ (hid_ (∃ K : List Int32, FI_ V K ∧ fw_ u.2.2.1 u.2.1.toInt K)) ∧ (sb_Fit u.2.2.1) ∧ (sb_Fit u.2.2.2.2.2.2.2.2.2.2.2.1)) (fun u => [(h, .inr (9, [.ref ta, .ref ca, .ref ps, .ref xe, .ref mk, .ref rd, .ref mu, .ref fi, .ref go, .ref sp, .ref ss])), (mk, .inr (6, [.ref mm, .ref mr])), (mm, .inr (0, [.ref mb, .int u.2.1])), (mb, .inl (G.2.1, 14006, .inl u.2.2.1)), (mr, .inl (G.2.2.1, 16, .inl u.2.2.2.1)), (sp, .inr (3, [.ref tn, .ref tz, .ref tb, .ref tg, .int c])), (tn, .inl (G.2.1, 384, .inl tfn)), (tz, .inl (G.2.2.1, 16, .inl tfz)), (tb, .inl (G.2.1, 12000, .inl tfb)), (tg, .inl (G.2.2.1, 17, .inl tfg)), (ps, .inr (4, [.ref pp, .ref pl, .ref pe, .ref u.2.2.2.2.1, .int u.2.2.2.2.2.1, .int u.2.2.2.2.2.2.1, .int u.2.2.2.2.2.2.2.1, .int u.2.2.2.2.2.2.2.2.1, .int u.2.2.2.2.2.2.2.2.2.1])), (pp, .inr (0, [.ref pb, .int u.2.2.2.2.2.2.2.2.2.2.1])), (pb, .inl (G.2.1, 4502, .inl u.2.2.2.2.2.2.2.2.2.2.2.1)), (pl, .inl (G.2.2.1, 1024, .inl u.2.2.2.2.2.2.2.2.2.2.2.2.1)), (pe, .inl (G.2.2.1, 4000, .inl u.2.2.2.2.2.2.2.2.2.2.2.2.2))]) := by
  refine Cn.of hl (by decide +kernel) rfl (Nat.le_of_ble_eq_true rfl) (fun M hQ => ?_)
  refine pb_eq (pc' := 0) (lo' := [(0, .ref h)]) (rest' := []) (ws' := [(h, .inr (9, [.ref ta, .ref ca, .ref ps, .ref xe, .ref mk, .ref rd, .ref mu, .ref fi, .ref go, .ref sp, .ref ss])), (mk, .inr (6, [.ref mm, .ref mr])), (mm, .inr (0, [.ref mb, .int ms])), (mb, .inl (G.2.1, 14006, .inl mf)), (mr, .inl (G.2.2.1, 16, .inl mrf)), (sp, .inr (3, [.ref tn, .ref tz, .ref tb, .ref tg, .int c])), (tn, .inl (G.2.1, 384, .inl tfn)), (tz, .inl (G.2.2.1, 16, .inl tfz)), (tb, .inl (G.2.1, 12000, .inl tfb)), (tg, .inl (G.2.2.1, 17, .inl tfg)), (ps, .inr (4, [.ref pp, .ref pl, .ref pe, .ref pr, .int bg, .int sz, .int bt, .int ln, .int ds])), (pp, .inr (0, [.ref pb, .int pz])), (pb, .inl (G.2.1, 4502, .inl pf)), (pl, .inl (G.2.2.1, 1024, .inl fl_)), (pe, .inl (G.2.2.1, 4000, .inl fe_))]) ?_
  have zl0 : (0 : Int32).toInt = 0 := by decide
  have zl1 : (1 : Int32).toInt = 1 := by decide
  refine pb_aload_n (pc := 0) d_Book_write_0 0 rfl rfl ?_
  refine pb_get (pc := 1) d_Book_write_1 0 4 rfl rfl (by decide) in_Book k_421 rfl ?_
  refine pb_aload_n (pc := 4) d_Book_write_4 0 rfl rfl ?_
  refine pb_get (pc := 5) d_Book_write_5 0 9 rfl rfl (by decide) in_Book k_426 rfl ?_
  refine pb_aload_n (pc := 8) d_Book_write_8 0 rfl rfl ?_
  refine pb_get (pc := 9) d_Book_write_9 0 2 rfl rfl (by decide) in_Book k_419 rfl ?_
  refine pb_callV (pc := 12) (I := i_Book_write) (qb := 1) (ci := 6) (nA := 2) (rest := []) (wr := [(h, .inr (9, [.ref ta, .ref ca, .ref ps, .ref xe, .ref mk, .ref rd, .ref mu, .ref fi, .ref go, .ref sp, .ref ss]))]) d_Book_write_12 (g_Mk_make hl G mk mm mr mb mf ms mrf sp tn tz tb tg c tfn tfz tfb tfg ps pp pl pe pr pb bg sz bt ln ds pz pf fl_ fe_ V (by first | assumption | decide | omega) (by first | (with_reducible assumption) | omega (splitDisjunctions := false) | assumption | omega | decide) F_mf F_tfn F_tfb F_pf) rfl rfl [1, 2, 3, 4, 5, 6, 7, 8, 9, 10, 11, 12, 13, 14] [0] (by decide) rfl rfl rfl (by decide) (by decide) k_492 rfl k_123 k_489 k_490 k_491 ⟨rfl, hy_FileMaker_make⟩ (by decide) rfl rfl (Nat.le_of_ble_eq_true rfl) (by decide) (fun v9 ux2 ch1 => ?_)
  obtain ⟨s_3, f_4, fr_5, pr_6, bg_7, sz_8, bt_9, ln_10, ds_11, ps_12, pf_13, fl_14, fe_15⟩ := ux2
  obtain ⟨ech1, ch1⟩ := ch1
  have ech1 : v9 = none := ech1
  subst ech1
  obtain ⟨fh16, fh17, fh18, fh19, fh20⟩ : (0 ≤ s_3.toInt) ∧ (s_3.toInt ≤ 14006) ∧ (hid_ (∃ K : List Int32, FI_ V K ∧ fw_ f_4 s_3.toInt K)) ∧ (sb_Fit f_4) ∧ (sb_Fit pf_13) := ch1
  have mkF := fh18
  refine pb_eq (pc' := 15) (lo' := [(0, .ref h)]) (rest' := []) (ws' := [(h, .inr (9, [.ref ta, .ref ca, .ref ps, .ref xe, .ref mk, .ref rd, .ref mu, .ref fi, .ref go, .ref sp, .ref ss])), (mk, .inr (6, [.ref mm, .ref mr])), (mm, .inr (0, [.ref mb, .int s_3])), (mb, .inl (G.2.1, 14006, .inl f_4)), (mr, .inl (G.2.2.1, 16, .inl fr_5)), (sp, .inr (3, [.ref tn, .ref tz, .ref tb, .ref tg, .int c])), (tn, .inl (G.2.1, 384, .inl tfn)), (tz, .inl (G.2.2.1, 16, .inl tfz)), (tb, .inl (G.2.1, 12000, .inl tfb)), (tg, .inl (G.2.2.1, 17, .inl tfg)), (ps, .inr (4, [.ref pp, .ref pl, .ref pe, .ref pr_6, .int bg_7, .int sz_8, .int bt_9, .int ln_10, .int ds_11])), (pp, .inr (0, [.ref pb, .int ps_12])), (pb, .inl (G.2.1, 4502, .inl pf_13)), (pl, .inl (G.2.2.1, 1024, .inl fl_14)), (pe, .inl (G.2.2.1, 4000, .inl fe_15))]) ?_
  refine pb_aload_n (pc := 15) d_Book_write_15 0 rfl rfl ?_
  refine pb_get (pc := 16) d_Book_write_16 0 4 rfl rfl (by decide) in_Book k_421 rfl ?_
  refine pb_getN (pc := 19) d_Book_write_19 1 0 rfl rfl (by decide) in_FileMaker k_293 rfl ?_
  refine pb_getN (pc := 22) d_Book_write_22 2 1 rfl rfl (by decide) in_Row k_165 rfl ?_
  exact pb_iret (pc := 25) hQ d_Book_write_25 rfl rfl (s_3, s_3, f_4, fr_5, pr_6, bg_7, sz_8, bt_9, ln_10, ds_11, ps_12, pf_13, fl_14, fe_15) ⟨rfl, (by (try dsimp only); first | done | (with_reducible assumption) | omega (splitDisjunctions := false) | assumption | omega | decide), (by (try dsimp only); first | done | (with_reducible assumption) | omega (splitDisjunctions := false) | assumption | omega | decide), rfl, mkF, fh19, fh20⟩ [0, 1, 2, 3, 4, 5, 6, 7, 8, 9, 10, 11, 12, 13, 14] (by decide) rfl rfl (by decide) (by decide)

theorem d_Book_byteIn_0 : decode prog_1_method_25_code 0 = .ok (.iload_n 1, 1) := by decide +kernel
theorem d_Book_byteIn_1 : decode prog_1_method_25_code 1 = .ok (.ifCond .lt 11, 3) := by decide +kernel
theorem d_Book_byteIn_12 : decode prog_1_method_25_code 12 = .ok (.new 143, 3) := by decide +kernel
theorem d_Book_byteIn_15 : decode prog_1_method_25_code 15 = .ok (.dup, 1) := by decide +kernel
theorem d_Book_byteIn_16 : decode prog_1_method_25_code 16 = .ok (.ldc 182, 2) := by decide +kernel
theorem d_Book_byteIn_18 : decode prog_1_method_25_code 18 = .ok (.invokespecial 147, 3) := by decide +kernel
theorem d_Book_byteIn_21 : decode prog_1_method_25_code 21 = .ok (.athrow, 1) := by decide +kernel
theorem d_Book_byteIn_4 : decode prog_1_method_25_code 4 = .ok (.iload_n 1, 1) := by decide +kernel
theorem d_Book_byteIn_5 : decode prog_1_method_25_code 5 = .ok (.aload_n 0, 1) := by decide +kernel
theorem d_Book_byteIn_6 : decode prog_1_method_25_code 6 = .ok (.getfield 84, 3) := by decide +kernel
theorem d_Book_byteIn_9 : decode prog_1_method_25_code 9 = .ok (.if_icmp .lt 13, 3) := by decide +kernel
theorem d_Book_byteIn_22 : decode prog_1_method_25_code 22 = .ok (.aload_n 0, 1) := by decide +kernel
theorem d_Book_byteIn_23 : decode prog_1_method_25_code 23 = .ok (.getfield 98, 3) := by decide +kernel
theorem d_Book_byteIn_26 : decode prog_1_method_25_code 26 = .ok (.iload_n 1, 1) := by decide +kernel
theorem d_Book_byteIn_27 : decode prog_1_method_25_code 27 = .ok (.baload, 1) := by decide +kernel
theorem d_Book_byteIn_28 : decode prog_1_method_25_code 28 = .ok (.sipush 255, 3) := by decide +kernel
theorem d_Book_byteIn_31 : decode prog_1_method_25_code 31 = .ok (.iand, 1) := by decide +kernel
theorem d_Book_byteIn_32 : decode prog_1_method_25_code 32 = .ok (.ireturn, 1) := by decide +kernel
abbrev y_Book_byteIn : MethodName := ⟨"PackageBook", "byteIn", "(LPackageBook$Row;I)I"⟩
abbrev i_Book_byteIn : pb_I := (y_Book_byteIn, prog_1_method_25_code, 2, (some Jvm.ClassFile.FieldType.int), [], { frames := 6, cells := 1, slots := 6, locals := 90 })
set_option maxRecDepth 100000 in
set_option maxHeartbeats 4000000 in
theorem g_Book_byteIn {l : Launch} (hl : l.stackTraces = false) (G : pb_G) (q : Nat) (b : Nat) (N : Nat) (f : Nat → Int32) (s : Int32) (i : Int32) (h0 : s.toInt ≤ N) (F_f : sb_Fit f) : Cx l G i_Book_byteIn [.ref q, .int i] [(q, .inr (0, [.ref b, .int s])), (b, .inl (G.2.1, N, .inl f))] (S := Int32) (SX := Unit) (fun rv_ u => rv_ = some (.int u) ∧ (0 ≤ i.toInt ∧ i.toInt < s.toInt) ∧ (u = gr f i.toInt &&& 255)) (fun u => [(q, .inr (0, [.ref b, .int s])), (b, .inl (G.2.1, N, .inl f))]) (fun E u => (E = "java/lang/IndexOutOfBoundsException" ∧ (¬ (0 ≤ i.toInt ∧ i.toInt < s.toInt)))) (fun u => [(q, .inr (0, [.ref b, .int s])), (b, .inl (G.2.1, N, .inl f))]) := by
  refine Cx.of hl (by decide +kernel) rfl (Nat.le_of_ble_eq_true rfl) (fun M hQ => ?_)
  refine pb_eq (pc' := 0) (lo' := [(0, .ref q), (1, .int i)]) (rest' := []) (ws' := [(q, .inr (0, [.ref b, .int s])), (b, .inl (G.2.1, N, .inl f))]) ?_
  have zl0 : (0 : Int32).toInt = 0 := by decide
  have zl1 : (1 : Int32).toInt = 1 := by decide
  refine pb_iload_n (pc := 0) d_Book_byteIn_0 1 rfl rfl ?_
  refine pb_if_lt (pc := 1) (tgt := 12) d_Book_byteIn_1 (by decide) (fun wx1 => ?_) (fun wx1 => ?_)
  · have twx1 : i.toInt < 0 := (ti_lt rfl (by decide)).mp wx1
    exact pb_throwS (pc := 12) (cls := "java/lang/IndexOutOfBoundsException") (text := "no such byte") (names := ["java/lang/RuntimeException", "java/lang/Exception"]) hQ d_Book_byteIn_12 d_Book_byteIn_15 d_Book_byteIn_16 d_Book_byteIn_18 d_Book_byteIn_21 (by decide +kernel) (by decide +kernel) tx_Book_143_147 (by decide +kernel) (by decide) (Nat.le_of_ble_eq_true rfl) (by decide) (by decide) () ⟨rfl, (by (try dsimp only); first | done | (with_reducible assumption) | omega (splitDisjunctions := false) | assumption | omega | decide)⟩ [0, 1] (by decide) rfl rfl
  · have twx1 : ¬ i.toInt < 0 := fun z9 => wx1 ((ti_lt rfl (by decide)).mpr z9)
    refine pb_iload_n (pc := 4) d_Book_byteIn_4 1 rfl rfl ?_
    refine pb_aload_n (pc := 5) d_Book_byteIn_5 0 rfl rfl ?_
    refine pb_getN (pc := 6) d_Book_byteIn_6 0 1 rfl rfl (by decide) in_Row k_165 rfl ?_
    refine pb_icmp_lt (pc := 9) (tgt := 22) d_Book_byteIn_9 (by decide) (fun wx2 => ?_) (fun wx2 => ?_)
    · have twx2 : i.toInt < s.toInt := (ti_lt rfl rfl).mp wx2
      refine pb_aload_n (pc := 22) d_Book_byteIn_22 0 rfl rfl ?_
      refine pb_getN (pc := 23) d_Book_byteIn_23 0 0 rfl rfl (by decide) in_Row k_157 rfl ?_
      refine pb_iload_n (pc := 26) d_Book_byteIn_26 1 rfl rfl ?_
      refine pb_bald (pc := 27) d_Book_byteIn_27 1 rfl (vp_in_iff.mpr (by omega)) ?_
      refine pb_topi (fun ix3 eix3 => ?_)
      have xix3 : ix3 = gr f (i.toInt) := gr_ld eix3 (by omega)
      have yix3 : ix3.toInt = gx f (i.toInt) := congrArg Int32.toInt xix3
      have tix3 : -128 ≤ ix3.toInt ∧ ix3.toInt ≤ 127 := ti_fit (F_f _) eix3
      refine pb_sipush (pc := 28) (v := 255) d_Book_byteIn_28 (by decide) ?_
      refine pb_iand (pc := 31) d_Book_byteIn_31 ?_
      refine pb_topi (fun ix4 eix4 => ?_)
      have tix4 : 0 ≤ ix4.toInt ∧ ix4.toInt ≤ 255 := ti_and 8 eix4 (by decide) (by decide)
      exact pb_iretx (pc := 32) hQ d_Book_byteIn_32 rfl rfl (ix4) ⟨rfl, (by (try dsimp only); first | done | (with_reducible assumption) | omega (splitDisjunctions := false) | assumption | omega | decide), (show ix4 = gr f i.toInt &&& 255 from (by simp only [xix3, eix4]))⟩ [0, 1] (by decide) rfl rfl (by decide) (by decide)
    · have twx2 : ¬ i.toInt < s.toInt := fun z9 => wx2 ((ti_lt rfl rfl).mpr z9)
      exact pb_throwS (pc := 12) (cls := "java/lang/IndexOutOfBoundsException") (text := "no such byte") (names := ["java/lang/RuntimeException", "java/lang/Exception"]) hQ d_Book_byteIn_12 d_Book_byteIn_15 d_Book_byteIn_16 d_Book_byteIn_18 d_Book_byteIn_21 (by decide +kernel) (by decide +kernel) tx_Book_143_147 (by decide +kernel) (by decide) (Nat.le_of_ble_eq_true rfl) (by decide) (by decide) () ⟨rfl, (by (try dsimp only); first | done | (with_reducible assumption) | omega (splitDisjunctions := false) | assumption | omega | decide)⟩ [0, 1] (by decide) rfl rfl

theorem d_Book_file_0 : decode prog_1_method_9_code 0 = .ok (.aload_n 0, 1) := by decide +kernel
theorem d_Book_file_1 : decode prog_1_method_9_code 1 = .ok (.getfield 38, 3) := by decide +kernel
theorem d_Book_file_4 : decode prog_1_method_9_code 4 = .ok (.getfield 168, 3) := by decide +kernel
theorem d_Book_file_7 : decode prog_1_method_9_code 7 = .ok (.iload_n 1, 1) := by decide +kernel
theorem d_Book_file_8 : decode prog_1_method_9_code 8 = .ok (.invokestatic 171, 3) := by decide +kernel
theorem k_1087 : (Jvm.Cond.methodLink "PackageBook" (171 : Nat) ({ cls := "PackageBook", name := "byteIn", desc := "(LPackageBook$Row;I)I" } : Jvm.MethodName)) ∈ uW := uW_of 1087 (by decide +kernel) (by decide +kernel)
theorem k_1089 : (Jvm.Cond.code ({ cls := "PackageBook", name := "byteIn", desc := "(LPackageBook$Row;I)I" } : Jvm.MethodName) prog_1_method_25_code (2 : Nat) (Option.some Jvm.ClassFile.FieldType.int)) ∈ uW := uW_of 1089 (by decide +kernel) (by decide +kernel)
theorem k_1088 : (Jvm.Cond.static ({ cls := "PackageBook", name := "byteIn", desc := "(LPackageBook$Row;I)I" } : Jvm.MethodName)) ∈ uW := uW_of 1088 (by decide +kernel) (by decide +kernel)
theorem hy_Book_byteIn : (y_Book_byteIn).cls ≠ "java/lang/invoke/MethodHandle" ∧ (y_Book_byteIn).cls ≠ "java/lang/invoke/VarHandle" ∧ (parseMethodDescriptor (y_Book_byteIn).desc).map (fun d => d.parameters.length) = some 2 := by decide +kernel
theorem d_Book_file_11 : decode prog_1_method_9_code 11 = .ok (.ireturn, 1) := by decide +kernel
abbrev y_Book_file : MethodName := ⟨"PackageBook", "file", "(I)I"⟩
abbrev i_Book_file : pb_I := (y_Book_file, prog_1_method_9_code, 2, (some Jvm.ClassFile.FieldType.int), [], { frames := 7, cells := 1, slots := 6, locals := 111 })
set_option maxRecDepth 100000 in
set_option maxHeartbeats 4000000 in
theorem g_Book_file {l : Launch} (hl : l.stackTraces = false) (G : pb_G) (h : Nat) (ta : Nat) (ca : Nat) (ps : Nat) (xe : Nat) (mk : Nat) (rd : Nat) (mu : Nat) (fi : Nat) (go : Nat) (sp : Nat) (ss : Nat) (mm : Nat) (mr : Nat) (mb : Nat) (mf : Nat → Int32) (ms : Int32) (i : Int32) (m1 : ms.toInt ≤ 14006) (F_mf : sb_Fit mf) : Cx l G i_Book_file [.ref h, .int i] [(h, .inr (9, [.ref ta, .ref ca, .ref ps, .ref xe, .ref mk, .ref rd, .ref mu, .ref fi, .ref go, .ref sp, .ref ss])), (mk, .inr (6, [.ref mm, .ref mr])), (mm, .inr (0, [.ref mb, .int ms])), (mb, .inl (G.2.1, 14006, .inl mf))] (S := Int32) (SX := Unit) (fun rv_ u => rv_ = some (.int u) ∧ (0 ≤ i.toInt ∧ i.toInt < ms.toInt) ∧ (u = gr mf i.toInt &&& 255)) (fun u => [(h, .inr (9, [.ref ta, .ref ca, .ref ps, .ref xe, .ref mk, .ref rd, .ref mu, .ref fi, .ref go, .ref sp, .ref ss])), (mk, .inr (6, [.ref mm, .ref mr])), (mm, .inr (0, [.ref mb, .int ms])), (mb, .inl (G.2.1, 14006, .inl mf))]) (fun E u => (E = "java/lang/IndexOutOfBoundsException" ∧ (¬ (0 ≤ i.toInt ∧ i.toInt < ms.toInt)))) (fun u => [(h, .inr (9, [.ref ta, .ref ca, .ref ps, .ref xe, .ref mk, .ref rd, .ref mu, .ref fi, .ref go, .ref sp, .ref ss])), (mk, .inr (6, [.ref mm, .ref mr])), (mm, .inr (0, [.ref mb, .int ms])), (mb, .inl (G.2.1, 14006, .inl mf))]) := by
  refine Cx.of hl (by decide +kernel) rfl (Nat.le_of_ble_eq_true rfl) (fun M hQ => ?_)
  refine pb_eq (pc' := 0) (lo' := [(0, .ref h), (1, .int i)]) (rest' := []) (ws' := [(h, .inr (9, [.ref ta, .ref ca, .ref ps, .ref xe, .ref mk, .ref rd, .ref mu, .ref fi, .ref go, .ref sp, .ref ss])), (mk, .inr (6, [.ref mm, .ref mr])), (mm, .inr (0, [.ref mb, .int ms])), (mb, .inl (G.2.1, 14006, .inl mf))]) ?_
  have zl0 : (0 : Int32).toInt = 0 := by decide
  have zl1 : (1 : Int32).toInt = 1 := by decide
  refine pb_aload_n (pc := 0) d_Book_file_0 0 rfl rfl ?_
  refine pb_get (pc := 1) d_Book_file_1 0 4 rfl rfl (by decide) in_Book k_421 rfl ?_
  refine pb_getN (pc := 4) d_Book_file_4 1 0 rfl rfl (by decide) in_FileMaker k_293 rfl ?_
  refine pb_iload_n (pc := 7) d_Book_file_7 1 rfl rfl ?_
  refine pb_callSX (pc := 8) (I := i_Book_file) (nA := 2) (rest := []) (wr := [(h, .inr (9, [.ref ta, .ref ca, .ref ps, .ref xe, .ref mk, .ref rd, .ref mu, .ref fi, .ref go, .ref sp, .ref ss])), (mk, .inr (6, [.ref mm, .ref mr]))]) d_Book_file_8 (g_Book_byteIn hl G mm mb 14006 mf ms i (by first | (with_reducible assumption) | omega (splitDisjunctions := false) | assumption | omega | decide) F_mf) [2, 3] [0, 1] (by decide) rfl rfl rfl (by decide) (by decide) k_1089 rfl k_118 k_1087 k_1088 hy_Book_byteIn (by decide) rfl rfl (Nat.le_of_ble_eq_true rfl) (by decide) (fun E0 u9 hx9 => ?_) (fun v9 ux2 ch1 => ?_)
  · rcases hx9 with ⟨rfl, xf0⟩
    have fx3 : ¬ (0 ≤ i.toInt ∧ i.toInt < ms.toInt) := xf0
    exact pb_out hQ () ⟨rfl, (by (try dsimp only); first | done | (with_reducible assumption) | omega (splitDisjunctions := false) | assumption | omega | decide)⟩ [0, 1, 2, 3] (by decide) rfl rfl (by decide) (by decide)
  · obtain ⟨r_4, rfl⟩ : ∃ z9, z9 = ux2 := ⟨_, rfl⟩
    obtain ⟨ech1, ch1⟩ := ch1
    have ech1 : v9 = some (.int r_4) := ech1
    subst ech1
    obtain ⟨fh5, fh6⟩ : (0 ≤ i.toInt ∧ i.toInt < ms.toInt) ∧ (r_4 = gr mf i.toInt &&& 255) := ch1
    refine pb_eq (pc' := 11) (lo' := [(0, .ref h), (1, .int i)]) (rest' := [.int r_4]) (ws' := [(h, .inr (9, [.ref ta, .ref ca, .ref ps, .ref xe, .ref mk, .ref rd, .ref mu, .ref fi, .ref go, .ref sp, .ref ss])), (mk, .inr (6, [.ref mm, .ref mr])), (mm, .inr (0, [.ref mb, .int ms])), (mb, .inl (G.2.1, 14006, .inl mf))]) ?_
    exact pb_iretx (pc := 11) hQ d_Book_file_11 rfl rfl (r_4) ⟨rfl, (by (try dsimp only); first | done | (with_reducible assumption) | omega (splitDisjunctions := false) | assumption | omega | decide), (by (try dsimp only); first | done | (with_reducible assumption) | omega (splitDisjunctions := false) | assumption | omega | decide)⟩ [0, 1, 2, 3] (by decide) rfl rfl (by decide) (by decide)

theorem d_Book_out_0 : decode prog_1_method_15_code 0 = .ok (.aload_n 0, 1) := by decide +kernel
theorem d_Book_out_1 : decode prog_1_method_15_code 1 = .ok (.getfield 18, 3) := by decide +kernel
theorem d_Book_out_4 : decode prog_1_method_15_code 4 = .ok (.iload_n 1, 1) := by decide +kernel
theorem d_Book_out_5 : decode prog_1_method_15_code 5 = .ok (.invokestatic 171, 3) := by decide +kernel
theorem d_Book_out_8 : decode prog_1_method_15_code 8 = .ok (.ireturn, 1) := by decide +kernel
abbrev y_Book_out : MethodName := ⟨"PackageBook", "out", "(I)I"⟩
abbrev i_Book_out : pb_I := (y_Book_out, prog_1_method_15_code, 2, (some Jvm.ClassFile.FieldType.int), [], { frames := 7, cells := 1, slots := 6, locals := 111 })
set_option maxRecDepth 100000 in
set_option maxHeartbeats 4000000 in
theorem g_Book_out {l : Launch} (hl : l.stackTraces = false) (G : pb_G) (h : Nat) (ta : Nat) (ca : Nat) (ps : Nat) (xe : Nat) (mk : Nat) (rd : Nat) (mu : Nat) (fi : Nat) (go : Nat) (sp : Nat) (ss : Nat) (cab : Nat) (caf : Nat → Int32) (cas : Int32) (i : Int32) (m1 : cas.toInt ≤ 4502) (F_caf : sb_Fit caf) : Cx l G i_Book_out [.ref h, .int i] [(h, .inr (9, [.ref ta, .ref ca, .ref ps, .ref xe, .ref mk, .ref rd, .ref mu, .ref fi, .ref go, .ref sp, .ref ss])), (ca, .inr (0, [.ref cab, .int cas])), (cab, .inl (G.2.1, 4502, .inl caf))] (S := Int32) (SX := Unit) (fun rv_ u => rv_ = some (.int u) ∧ (0 ≤ i.toInt ∧ i.toInt < cas.toInt) ∧ (u = gr caf i.toInt &&& 255)) (fun u => [(h, .inr (9, [.ref ta, .ref ca, .ref ps, .ref xe, .ref mk, .ref rd, .ref mu, .ref fi, .ref go, .ref sp, .ref ss])), (ca, .inr (0, [.ref cab, .int cas])), (cab, .inl (G.2.1, 4502, .inl caf))]) (fun E u => (E = "java/lang/IndexOutOfBoundsException" ∧ (¬ (0 ≤ i.toInt ∧ i.toInt < cas.toInt)))) (fun u => [(h, .inr (9, [.ref ta, .ref ca, .ref ps, .ref xe, .ref mk, .ref rd, .ref mu, .ref fi, .ref go, .ref sp, .ref ss])), (ca, .inr (0, [.ref cab, .int cas])), (cab, .inl (G.2.1, 4502, .inl caf))]) := by
  refine Cx.of hl (by decide +kernel) rfl (Nat.le_of_ble_eq_true rfl) (fun M hQ => ?_)
  refine pb_eq (pc' := 0) (lo' := [(0, .ref h), (1, .int i)]) (rest' := []) (ws' := [(h, .inr (9, [.ref ta, .ref ca, .ref ps, .ref xe, .ref mk, .ref rd, .ref mu, .ref fi, .ref go, .ref sp, .ref ss])), (ca, .inr (0, [.ref cab, .int cas])), (cab, .inl (G.2.1, 4502, .inl caf))]) ?_
  have zl0 : (0 : Int32).toInt = 0 := by decide
  have zl1 : (1 : Int32).toInt = 1 := by decide
  refine pb_aload_n (pc := 0) d_Book_out_0 0 rfl rfl ?_
  refine pb_get (pc := 1) d_Book_out_1 0 1 rfl rfl (by decide) in_Book k_418 rfl ?_
  refine pb_iload_n (pc := 4) d_Book_out_4 1 rfl rfl ?_
  refine pb_callSX (pc := 5) (I := i_Book_out) (nA := 2) (rest := []) (wr := [(h, .inr (9, [.ref ta, .ref ca, .ref ps, .ref xe, .ref mk, .ref rd, .ref mu, .ref fi, .ref go, .ref sp, .ref ss]))]) d_Book_out_5 (g_Book_byteIn hl G ca cab 4502 caf cas i (by first | (with_reducible assumption) | omega (splitDisjunctions := false) | assumption | omega | decide) F_caf) [1, 2] [0] (by decide) rfl rfl rfl (by decide) (by decide) k_1089 rfl k_118 k_1087 k_1088 hy_Book_byteIn (by decide) rfl rfl (Nat.le_of_ble_eq_true rfl) (by decide) (fun E0 u9 hx9 => ?_) (fun v9 ux2 ch1 => ?_)
  · rcases hx9 with ⟨rfl, xf0⟩
    have fx3 : ¬ (0 ≤ i.toInt ∧ i.toInt < cas.toInt) := xf0
    exact pb_out hQ () ⟨rfl, (by (try dsimp only); first | done | (with_reducible assumption) | omega (splitDisjunctions := false) | assumption | omega | decide)⟩ [0, 1, 2] (by decide) rfl rfl (by decide) (by decide)
  · obtain ⟨r_4, rfl⟩ : ∃ z9, z9 = ux2 := ⟨_, rfl⟩
    obtain ⟨ech1, ch1⟩ := ch1
    have ech1 : v9 = some (.int r_4) := ech1
    subst ech1
    obtain ⟨fh5, fh6⟩ : (0 ≤ i.toInt ∧ i.toInt < cas.toInt) ∧ (r_4 = gr caf i.toInt &&& 255) := ch1
    refine pb_eq (pc' := 8) (lo' := [(0, .ref h), (1, .int i)]) (rest' := [.int r_4]) (ws' := [(h, .inr (9, [.ref ta, .ref ca, .ref ps, .ref xe, .ref mk, .ref rd, .ref mu, .ref fi, .ref go, .ref sp, .ref ss])), (ca, .inr (0, [.ref cab, .int cas])), (cab, .inl (G.2.1, 4502, .inl caf))]) ?_
    exact pb_iretx (pc := 8) hQ d_Book_out_8 rfl rfl (r_4) ⟨rfl, (by (try dsimp only); first | done | (with_reducible assumption) | omega (splitDisjunctions := false) | assumption | omega | decide), (by (try dsimp only); first | done | (with_reducible assumption) | omega (splitDisjunctions := false) | assumption | omega | decide)⟩ [0, 1, 2] (by decide) rfl rfl (by decide) (by decide)

theorem d_Book_settle_0 : decode prog_1_method_21_code 0 = .ok (.iload_n 1, 1) := by decide +kernel
theorem d_Book_settle_1 : decode prog_1_method_21_code 1 = .ok (.ifCond .ne 21, 3) := by decide +kernel
theorem d_Book_settle_22 : decode prog_1_method_21_code 22 = .ok (.iload_n 1, 1) := by decide +kernel
theorem d_Book_settle_23 : decode prog_1_method_21_code 23 = .ok (.ireturn, 1) := by decide +kernel
theorem d_Book_settle_4 : decode prog_1_method_21_code 4 = .ok (.aload_n 0, 1) := by decide +kernel
theorem d_Book_settle_5 : decode prog_1_method_21_code 5 = .ok (.getfield 70, 3) := by decide +kernel
theorem d_Book_settle_8 : decode prog_1_method_21_code 8 = .ok (.astore_n 2, 1) := by decide +kernel
theorem d_Book_settle_9 : decode prog_1_method_21_code 9 = .ok (.aload_n 0, 1) := by decide +kernel
theorem d_Book_settle_10 : decode prog_1_method_21_code 10 = .ok (.aload_n 0, 1) := by decide +kernel
theorem d_Book_settle_11 : decode prog_1_method_21_code 11 = .ok (.getfield 74, 3) := by decide +kernel
theorem d_Book_settle_14 : decode prog_1_method_21_code 14 = .ok (.putfield 70, 3) := by decide +kernel
theorem d_Book_settle_17 : decode prog_1_method_21_code 17 = .ok (.aload_n 0, 1) := by decide +kernel
theorem d_Book_settle_18 : decode prog_1_method_21_code 18 = .ok (.aload_n 2, 1) := by decide +kernel
theorem d_Book_settle_19 : decode prog_1_method_21_code 19 = .ok (.putfield 74, 3) := by decide +kernel
abbrev y_Book_settle : MethodName := ⟨"PackageBook", "settle", "(I)I"⟩
abbrev i_Book_settle : pb_I := (y_Book_settle, prog_1_method_21_code, 3, (some Jvm.ClassFile.FieldType.int), [], { frames := 0, cells := 0, slots := 0, locals := 0 })
set_option maxRecDepth 100000 in
set_option maxHeartbeats 4000000 in
theorem g_Book_settle {l : Launch} (hl : l.stackTraces = false) (G : pb_G) (h : Nat) (ta : Nat) (ca : Nat) (ps : Nat) (xe : Nat) (mk : Nat) (rd : Nat) (mu : Nat) (fi : Nat) (go : Nat) (sp : Nat) (ss : Nat) (a : Int32) : Cn l G i_Book_settle [.ref h, .int a] [(h, .inr (9, [.ref ta, .ref ca, .ref ps, .ref xe, .ref mk, .ref rd, .ref mu, .ref fi, .ref go, .ref sp, .ref ss]))] (S := Nat × Nat) (fun rv_ u => rv_ = some (.int a) ∧ ((sp = u.1 ∧ ss = u.2) ∨ (ss = u.1 ∧ sp = u.2)) ∧ ((a.toInt = 0 ∧ ss = u.1 ∧ sp = u.2) ∨ (¬ a.toInt = 0 ∧ sp = u.1 ∧ ss = u.2))) (fun u => [(h, .inr (9, [.ref ta, .ref ca, .ref ps, .ref xe, .ref mk, .ref rd, .ref mu, .ref fi, .ref go, .ref u.1, .ref u.2]))]) := by
  refine Cn.of hl (by decide +kernel) rfl (Nat.le_of_ble_eq_true rfl) (fun M hQ => ?_)
  refine pb_eq (pc' := 0) (lo' := [(0, .ref h), (1, .int a)]) (rest' := []) (ws' := [(h, .inr (9, [.ref ta, .ref ca, .ref ps, .ref xe, .ref mk, .ref rd, .ref mu, .ref fi, .ref go, .ref sp, .ref ss]))]) ?_
  have zl0 : (0 : Int32).toInt = 0 := by decide
  have zl1 : (1 : Int32).toInt = 1 := by decide
  refine pb_iload_n (pc := 0) d_Book_settle_0 1 rfl rfl ?_
  refine pb_if_ne (pc := 1) (tgt := 22) d_Book_settle_1 (by decide) (fun wx1 => ?_) (fun wx1 => ?_)
  · have twx1 : ¬ a.toInt = 0 := fun z9 => wx1 ((ti_eq rfl (by decide)).mpr z9)
    refine pb_iload_n (pc := 22) d_Book_settle_22 1 rfl rfl ?_
    exact pb_iret (pc := 23) hQ d_Book_settle_23 rfl rfl (sp, ss) ⟨rfl, (show (sp = sp ∧ ss = ss) ∨ (ss = sp ∧ sp = ss) from (by first | exact Or.inl ⟨rfl, rfl⟩ | exact Or.inr ⟨rfl, rfl⟩)), (show (a.toInt = 0 ∧ ss = sp ∧ sp = ss) ∨ (¬ a.toInt = 0 ∧ sp = sp ∧ ss = ss) from (by first | exact Or.inl ⟨by omega, rfl, rfl⟩ | exact Or.inr ⟨by omega, rfl, rfl⟩))⟩ [0] (by decide) rfl rfl (by decide) (by decide)
  · have twx1 : a.toInt = 0 := (ti_eq rfl (by decide)).mp wx1
    refine pb_aload_n (pc := 4) d_Book_settle_4 0 rfl rfl ?_
    refine pb_get (pc := 5) d_Book_settle_5 0 9 rfl rfl (by decide) in_Book k_426 rfl ?_
    refine pb_astore_n (pc := 8) (lo' := [(2, .ref sp), (0, .ref h), (1, .int a)]) d_Book_settle_8 rfl (by decide) rfl ?_
    refine pb_aload_n (pc := 9) d_Book_settle_9 1 rfl rfl ?_
    refine pb_aload_n (pc := 10) d_Book_settle_10 1 rfl rfl ?_
    refine pb_get (pc := 11) d_Book_settle_11 0 10 rfl rfl (by decide) in_Book k_427 rfl ?_
    refine pb_put (pc := 14) (ty := (.object "PackageBook$Shelf")) (ws' := [(h, .inr (9, [.ref ta, .ref ca, .ref ps, .ref xe, .ref mk, .ref rd, .ref mu, .ref fi, .ref go, .ref ss, .ref ss]))]) d_Book_settle_14 0 9 t_Book t_Book_ok n_Book rfl rfl (by decide) in_Book k_426 rfl (by decide +kernel) rfl rfl (Nat.le_of_ble_eq_true rfl) rfl ?_
    refine pb_aload_n (pc := 17) d_Book_settle_17 1 rfl rfl ?_
    refine pb_aload_n (pc := 18) d_Book_settle_18 0 rfl rfl ?_
    refine pb_put (pc := 19) (ty := (.object "PackageBook$Shelf")) (ws' := [(h, .inr (9, [.ref ta, .ref ca, .ref ps, .ref xe, .ref mk, .ref rd, .ref mu, .ref fi, .ref go, .ref ss, .ref sp]))]) d_Book_settle_19 0 10 t_Book t_Book_ok n_Book rfl rfl (by decide) in_Book k_427 rfl (by decide +kernel) rfl rfl (Nat.le_of_ble_eq_true rfl) rfl ?_
    refine pb_iload_n (pc := 22) d_Book_settle_22 2 rfl rfl ?_
    exact pb_iret (pc := 23) hQ d_Book_settle_23 rfl rfl (ss, sp) ⟨rfl, (show (sp = ss ∧ ss = sp) ∨ (ss = ss ∧ sp = sp) from (by first | exact Or.inl ⟨rfl, rfl⟩ | exact Or.inr ⟨rfl, rfl⟩)), (show (a.toInt = 0 ∧ ss = ss ∧ sp = sp) ∨ (¬ a.toInt = 0 ∧ sp = ss ∧ ss = sp) from (by first | exact Or.inl ⟨by omega, rfl, rfl⟩ | exact Or.inr ⟨by omega, rfl, rfl⟩))⟩ [0] (by decide) rfl rfl (by decide) (by decide)

theorem d_Book_read_0 : decode prog_1_method_10_code 0 = .ok (.aload_n 0, 1) := by decide +kernel
theorem d_Book_read_1 : decode prog_1_method_10_code 1 = .ok (.aload_n 0, 1) := by decide +kernel
theorem d_Book_read_2 : decode prog_1_method_10_code 2 = .ok (.getfield 45, 3) := by decide +kernel
theorem d_Book_read_5 : decode prog_1_method_10_code 5 = .ok (.aload_n 0, 1) := by decide +kernel
theorem d_Book_read_6 : decode prog_1_method_10_code 6 = .ok (.getfield 14, 3) := by decide +kernel
theorem d_Book_read_9 : decode prog_1_method_10_code 9 = .ok (.getfield 98, 3) := by decide +kernel
theorem d_Book_read_12 : decode prog_1_method_10_code 12 = .ok (.aload_n 0, 1) := by decide +kernel
theorem d_Book_read_13 : decode prog_1_method_10_code 13 = .ok (.invokevirtual 106, 3) := by decide +kernel
theorem d_Book_read_16 : decode prog_1_method_10_code 16 = .ok (.aload_n 0, 1) := by decide +kernel
theorem d_Book_read_17 : decode prog_1_method_10_code 17 = .ok (.getfield 74, 3) := by decide +kernel
theorem d_Book_read_20 : decode prog_1_method_10_code 20 = .ok (.aload_n 0, 1) := by decide +kernel
theorem d_Book_read_21 : decode prog_1_method_10_code 21 = .ok (.getfield 31, 3) := by decide +kernel
theorem d_Book_read_24 : decode prog_1_method_10_code 24 = .ok (.invokevirtual 175, 3) := by decide +kernel
theorem k_580 : (Jvm.Cond.methodLink "PackageBook" (175 : Nat) ({ cls := "PackageBook$FileReader", name := "run", desc := "([BILPackageBook$Shelf;LPackageBook$Expander;)I" } : Jvm.MethodName)) ∈ uW := uW_of 580 (by decide +kernel) (by decide +kernel)
theorem k_583 : (Jvm.Cond.code ({ cls := "PackageBook$FileReader", name := "run", desc := "([BILPackageBook$Shelf;LPackageBook$Expander;)I" } : Jvm.MethodName) prog_5_method_2_code (12 : Nat) (Option.some Jvm.ClassFile.FieldType.int)) ∈ uW := uW_of 583 (by decide +kernel) (by decide +kernel)
theorem k_581 : (Jvm.Cond.instanceMethod ({ cls := "PackageBook$FileReader", name := "run", desc := "([BILPackageBook$Shelf;LPackageBook$Expander;)I" } : Jvm.MethodName)) ∈ uW := uW_of 581 (by decide +kernel) (by decide +kernel)
theorem k_582 : (Jvm.Cond.selects "PackageBook$FileReader" ({ cls := "PackageBook$FileReader", name := "run", desc := "([BILPackageBook$Shelf;LPackageBook$Expander;)I" } : Jvm.MethodName) ({ cls := "PackageBook$FileReader", name := "run", desc := "([BILPackageBook$Shelf;LPackageBook$Expander;)I" } : Jvm.MethodName)) ∈ uW := uW_of 582 (by decide +kernel) (by decide +kernel)
theorem hy_FileReader_run : (y_FileReader_run).cls ≠ "java/lang/invoke/MethodHandle" ∧ (y_FileReader_run).cls ≠ "java/lang/invoke/VarHandle" ∧ (parseMethodDescriptor (y_FileReader_run).desc).map (fun d => d.parameters.length) = some 4 := by decide +kernel
theorem d_Book_read_27 : decode prog_1_method_10_code 27 = .ok (.invokevirtual 179, 3) := by decide +kernel
theorem k_709 : (Jvm.Cond.methodLink "PackageBook" (179 : Nat) ({ cls := "PackageBook", name := "settle", desc := "(I)I" } : Jvm.MethodName)) ∈ uW := uW_of 709 (by decide +kernel) (by decide +kernel)
theorem k_712 : (Jvm.Cond.code ({ cls := "PackageBook", name := "settle", desc := "(I)I" } : Jvm.MethodName) prog_1_method_21_code (3 : Nat) (Option.some Jvm.ClassFile.FieldType.int)) ∈ uW := uW_of 712 (by decide +kernel) (by decide +kernel)
theorem k_711 : (Jvm.Cond.instanceMethod ({ cls := "PackageBook", name := "settle", desc := "(I)I" } : Jvm.MethodName)) ∈ uW := uW_of 711 (by decide +kernel) (by decide +kernel)
theorem k_28 : Cond.selects "PackageBook" ⟨"PackageBook", "settle", "(I)I"⟩ ⟨"PackageBook", "settle", "(I)I"⟩ ∈ uW := uW_of 28 (by decide +kernel) (by decide +kernel)
theorem hy_Book_settle : (y_Book_settle).cls ≠ "java/lang/invoke/MethodHandle" ∧ (y_Book_settle).cls ≠ "java/lang/invoke/VarHandle" ∧ (parseMethodDescriptor (y_Book_settle).desc).map (fun d => d.parameters.length) = some 1 := by decide +kernel
theorem d_Book_read_30 : decode prog_1_method_10_code 30 = .ok (.ireturn, 1) := by decide +kernel
abbrev y_Book_read : MethodName := ⟨"PackageBook", "read", "()I"⟩
abbrev i_Book_read : pb_I := (y_Book_read, prog_1_method_10_code, 1, (some Jvm.ClassFile.FieldType.int), [], { frames := 6, cells := 0, slots := 0, locals := 171 })
set_option maxRecDepth 100000 in
set_option maxHeartbeats 4000000 in
theorem g_Book_read {l : Launch} (hl : l.stackTraces = false) (G : pb_G) (h : Nat) (ta : Nat) (ca : Nat) (ps : Nat) (xe : Nat) (mk : Nat) (rd : Nat) (mu : Nat) (fi : Nat) (go : Nat) (sp : Nat) (ss : Nat) (tab : Nat) (taf : Nat → Int32) (tas : Int32) (rr : Nat) (wn : Nat) (wz : Nat) (wb : Nat) (wg : Nat) (wc : Int32) (wfn : Nat → Int32) (wfz : Nat → Int32) (wfb : Nat → Int32) (wfg : Nat → Int32) (ex : Nat) (et : Nat) (ea : Nat) (eb : Nat) (ec : Nat) (ed : Nat) (ef : Nat) (er : Nat) (at_ : Int32) (en : Int32) (fl : Int32) (ey : Nat) (xf : Nat → Int32) (xs : Int32) (tf : Nat → Int32) (ea1 : Nat) (ea2 : Nat) (eas : Int32) (eac : Nat → Int32) (eay : Nat → Int32) (eb1 : Nat) (eb2 : Nat) (ebs : Int32) (ebc : Nat → Int32) (eby : Nat → Int32) (ef1 : Nat) (ef2 : Nat) (efs : Int32) (efc : Nat → Int32) (efy : Nat → Int32) (ec1 : Nat) (ec2 : Nat) (ecs : Int32) (ecc : Nat → Int32) (ecy : Nat → Int32) (ed1 : Nat) (ed2 : Nat) (eds : Int32) (edc : Nat → Int32) (edy : Nat → Int32) (t0 : 0 ≤ tas.toInt) (t1 : tas.toInt ≤ 8000) (Ia : co_I eas.toInt eac eay 288) (Ma : eas.toInt ≤ 288) (Ib : co_I ebs.toInt ebc eby 32) (Mb : ebs.toInt ≤ 32) (Fa : cs_R eas.toInt eac eay fx_1 288) (Fb : cs_R ebs.toInt ebc eby fx_2 32) (If : co_I efs.toInt efc efy 19) (Mf : efs.toInt ≤ 19) (Ic : co_I ecs.toInt ecc ecy 288) (Mc : ecs.toInt ≤ 286) (Id : co_I eds.toInt edc edy 32) (Md : eds.toInt ≤ 30) (a0_ : 0 ≤ xs.toInt) (a1_ : xs.toInt ≤ 4000) (F_taf : sb_Fit taf) (F_wfn : sb_Fit wfn) (F_wfb : sb_Fit wfb) (F_xf : sb_Fit xf) : Cn l G i_Book_read [.ref h] [(h, .inr (9, [.ref ta, .ref ca, .ref ps, .ref xe, .ref mk, .ref rd, .ref mu, .ref fi, .ref go, .ref sp, .ref ss])), (ta, .inr (0, [.ref tab, .int tas])), (tab, .inl (G.2.1, 8000, .inl taf)), (rd, .inr (7, [.ref rr])), (ss, .inr (3, [.ref wn, .ref wz, .ref wb, .ref wg, .int wc])), (wn, .inl (G.2.1, 384, .inl wfn)), (wz, .inl (G.2.2.1, 16, .inl wfz)), (wb, .inl (G.2.1, 12000, .inl wfb)), (wg, .inl (G.2.2.1, 17, .inl wfg)), (xe, .inr (5, [.ref ex, .ref et, .ref ea, .ref eb, .ref ec, .ref ed, .ref ef, .ref er, .int at_, .int en, .int fl])), (ex, .inr (0, [.ref ey, .int xs])), (ey, .inl (G.2.1, 4000, .inl xf)), (et, .inl (G.2.2.1, 316, .inl tf)), (ea, .inr (1, [.ref ea1, .ref ea2, .int eas])), (ea1, .inl (G.2.2.1, 16, .inl eac)), (ea2, .inl (G.2.2.1, 288, .inl eay)), (eb, .inr (1, [.ref eb1, .ref eb2, .int ebs])), (eb1, .inl (G.2.2.1, 16, .inl ebc)), (eb2, .inl (G.2.2.1, 32, .inl eby)), (ef, .inr (1, [.ref ef1, .ref ef2, .int efs])), (ef1, .inl (G.2.2.1, 16, .inl efc)), (ef2, .inl (G.2.2.1, 19, .inl efy)), (ec, .inr (1, [.ref ec1, .ref ec2, .int ecs])), (ec1, .inl (G.2.2.1, 16, .inl ecc)), (ec2, .inl (G.2.2.1, 286, .inl ecy)), (ed, .inr (1, [.ref ed1, .ref ed2, .int eds])), (ed1, .inl (G.2.2.1, 16, .inl edc)), (ed2, .inl (G.2.2.1, 30, .inl edy))] (S := Int32 × Nat × Nat × Nat × Int32 × (Nat → Int32) × (Nat → Int32) × (Nat → Int32) × (Nat → Int32) × Nat × Int32 × Int32 × Int32 × Int32 × (Nat → Int32) × (Nat → Int32) × Int32 × (Nat → Int32) × (Nat → Int32) × Int32 × (Nat → Int32) × (Nat → Int32) × Int32 × (Nat → Int32) × (Nat → Int32)) (fun rv_ u => rv_ = some (.int u.1) ∧ ((sp = u.2.1 ∧ ss = u.2.2.1) ∨ (ss = u.2.1 ∧ sp = u.2.2.1)) ∧ (sh_I u.2.2.2.2.1.toInt u.2.2.2.2.2.2.1 u.2.2.2.2.2.2.2.2.1) ∧ (0 ≤ u.2.2.2.2.2.2.2.2.2.2.2.2.2.1.toInt) ∧ (u.2.2.2.2.2.2.2.2.2.2.2.2.2.1.toInt ≤ 4000) ∧ (co_I u.2.2.2.2.2.2.2.2.2.2.2.2.2.2.2.2.1.toInt u.2.2.2.2.2.2.2.2.2.2.2.2.2.2.2.2.2.1 u.2.2.2.2.2.2.2.2.2.2.2.2.2.2.2.2.2.2.1 19) ∧ (u.2.2.2.2.2.2.2.2.2.2.2.2.2.2.2.2.1.toInt ≤ 19) ∧ (co_I u.2.2.2.2.2.2.2.2.2.2.2.2.2.2.2.2.2.2.2.1.toInt u.2.2.2.2.2.2.2.2.2.2.2.2.2.2.2.2.2.2.2.2.1 u.2.2.2.2.2.2.2.2.2.2.2.2.2.2.2.2.2.2.2.2.2.1 288) ∧ (u.2.2.2.2.2.2.2.2.2.2.2.2.2.2.2.2.2.2.2.1.toInt ≤ 286) ∧ (co_I u.2.2.2.2.2.2.2.2.2.2.2.2.2.2.2.2.2.2.2.2.2.2.1.toInt u.2.2.2.2.2.2.2.2.2.2.2.2.2.2.2.2.2.2.2.2.2.2.2.1 u.2.2.2.2.2.2.2.2.2.2.2.2.2.2.2.2.2.2.2.2.2.2.2.2 32) ∧ (u.2.2.2.2.2.2.2.2.2.2.2.2.2.2.2.2.2.2.2.2.2.2.1.toInt ≤ 30) ∧ ((u.1.toInt = 0 ∧ ss = u.2.1 ∧ sp = u.2.2.1) ∨ (¬ u.1.toInt = 0 ∧ sp = u.2.1 ∧ ss = u.2.2.1)) ∧ (hid_ (∃ W : VW_, rd_ (gr taf) tas.toInt u.1.toInt W ∧ (u.1.toInt = 0 → rC_ u.2.2.2.2.1.toInt u.2.2.2.2.2.1 u.2.2.2.2.2.2.1 u.2.2.2.2.2.2.2.1 u.2.2.2.2.2.2.2.2.1 W))) ∧ (sb_Fit u.2.2.2.2.2.1) ∧ (sb_Fit u.2.2.2.2.2.2.2.1) ∧ (sb_Fit u.2.2.2.2.2.2.2.2.2.2.2.2.2.2.1)) (fun u => [(h, .inr (9, [.ref ta, .ref ca, .ref ps, .ref xe, .ref mk, .ref rd, .ref mu, .ref fi, .ref go, .ref u.2.1, .ref u.2.2.1])), (ta, .inr (0, [.ref tab, .int 0])), (tab, .inl (G.2.1, 8000, .inl taf)), (rd, .inr (7, [.ref u.2.2.2.1])), (ss, .inr (3, [.ref wn, .ref wz, .ref wb, .ref wg, .int u.2.2.2.2.1])), (wn, .inl (G.2.1, 384, .inl u.2.2.2.2.2.1)), (wz, .inl (G.2.2.1, 16, .inl u.2.2.2.2.2.2.1)), (wb, .inl (G.2.1, 12000, .inl u.2.2.2.2.2.2.2.1)), (wg, .inl (G.2.2.1, 17, .inl u.2.2.2.2.2.2.2.2.1)), (xe, .inr (5, [.ref ex, .ref et, .ref ea, .ref eb, .ref ec, .ref ed, .ref ef, .ref u.2.2.2.2.2.2.2.2.2.1, .int u.2.2.2.2.2.2.2.2.2.2.1, .int u.2.2.2.2.2.2.2.2.2.2.2.1, .int u.2.2.2.2.2.2.2.2.2.2.2.2.1])), (ex, .inr (0, [.ref ey, .int u.2.2.2.2.2.2.2.2.2.2.2.2.2.1])), (ey, .inl (G.2.1, 4000, .inl u.2.2.2.2.2.2.2.2.2.2.2.2.2.2.1)), (et, .inl (G.2.2.1, 316, .inl u.2.2.2.2.2.2.2.2.2.2.2.2.2.2.2.1)), (ea, .inr (1, [.ref ea1, .ref ea2, .int eas])), (ea1, .inl (G.2.2.1, 16, .inl eac)), (ea2, .inl (G.2.2.1, 288, .inl eay)), (eb, .inr (1, [.ref eb1, .ref eb2, .int ebs])), (eb1, .inl (G.2.2.1, 16, .inl ebc)), (eb2, .inl (G.2.2.1, 32, .inl eby)), (ef, .inr (1, [.ref ef1, .ref ef2, .int u.2.2.2.2.2.2.2.2.2.2.2.2.2.2.2.2.1])), (ef1, .inl (G.2.2.1, 16, .inl u.2.2.2.2.2.2.2.2.2.2.2.2.2.2.2.2.2.1)), (ef2, .inl (G.2.2.1, 19, .inl u.2.2.2.2.2.2.2.2.2.2.2.2.2.2.2.2.2.2.1)), (ec, .inr (1, [.ref ec1, .ref ec2, .int u.2.2.2.2.2.2.2.2.2.2.2.2.2.2.2.2.2.2.2.1])), (ec1, .inl (G.2.2.1, 16, .inl u.2.2.2.2.2.2.2.2.2.2.2.2.2.2.2.2.2.2.2.2.1)), (ec2, .inl (G.2.2.1, 286, .inl u.2.2.2.2.2.2.2.2.2.2.2.2.2.2.2.2.2.2.2.2.2.1)), (ed, .inr (1, [.ref ed1, .ref ed2, .int u.2.2.2.2.2.2.2.2.2.2.2.2.2.2.2.2.2.2.2.2.2.2.1])), (ed1, .inl (G.2.2.1, 16, .inl u.2.2.2.2.2.2.2.2.2.2.2.2.2.2.2.2.2.2.2.2.2.2.2.1)), (ed2, .inl (G.2.2.1, 30, .inl u.2.2.2.2.2.2.2.2.2.2.2.2.2.2.2.2.2.2.2.2.2.2.2.2))]) := by
  refine Cn.of hl (by decide +kernel) rfl (Nat.le_of_ble_eq_true rfl) (fun M hQ => ?_)
  refine pb_eq (pc' := 0) (lo' := [(0, .ref h)]) (rest' := []) (ws' := [(h, .inr (9, [.ref ta, .ref ca, .ref ps, .ref xe, .ref mk, .ref rd, .ref mu, .ref fi, .ref go, .ref sp, .ref ss])), (ta, .inr (0, [.ref tab, .int tas])), (tab, .inl (G.2.1, 8000, .inl taf)), (rd, .inr (7, [.ref rr])), (ss, .inr (3, [.ref wn, .ref wz, .ref wb, .ref wg, .int wc])), (wn, .inl (G.2.1, 384, .inl wfn)), (wz, .inl (G.2.2.1, 16, .inl wfz)), (wb, .inl (G.2.1, 12000, .inl wfb)), (wg, .inl (G.2.2.1, 17, .inl wfg)), (xe, .inr (5, [.ref ex, .ref et, .ref ea, .ref eb, .ref ec, .ref ed, .ref ef, .ref er, .int at_, .int en, .int fl])), (ex, .inr (0, [.ref ey, .int xs])), (ey, .inl (G.2.1, 4000, .inl xf)), (et, .inl (G.2.2.1, 316, .inl tf)), (ea, .inr (1, [.ref ea1, .ref ea2, .int eas])), (ea1, .inl (G.2.2.1, 16, .inl eac)), (ea2, .inl (G.2.2.1, 288, .inl eay)), (eb, .inr (1, [.ref eb1, .ref eb2, .int ebs])), (eb1, .inl (G.2.2.1, 16, .inl ebc)), (eb2, .inl (G.2.2.1, 32, .inl eby)), (ef, .inr (1, [.ref ef1, .ref ef2, .int efs])), (ef1, .inl (G.2.2.1, 16, .inl efc)), (ef2, .inl (G.2.2.1, 19, .inl efy)), (ec, .inr (1, [.ref ec1, .ref ec2, .int ecs])), (ec1, .inl (G.2.2.1, 16, .inl ecc)), (ec2, .inl (G.2.2.1, 286, .inl ecy)), (ed, .inr (1, [.ref ed1, .ref ed2, .int eds])), (ed1, .inl (G.2.2.1, 16, .inl edc)), (ed2, .inl (G.2.2.1, 30, .inl edy))]) ?_
  have zl0 : (0 : Int32).toInt = 0 := by decide
  have zl1 : (1 : Int32).toInt = 1 := by decide
  refine pb_aload_n (pc := 0) d_Book_read_0 0 rfl rfl ?_
  refine pb_aload_n (pc := 1) d_Book_read_1 0 rfl rfl ?_
  refine pb_get (pc := 2) d_Book_read_2 0 5 rfl rfl (by decide) in_Book k_422 rfl ?_
  refine pb_aload_n (pc := 5) d_Book_read_5 0 rfl rfl ?_
  refine pb_get (pc := 6) d_Book_read_6 0 0 rfl rfl (by decide) in_Book k_417 rfl ?_
  refine pb_getN (pc := 9) d_Book_read_9 1 0 rfl rfl (by decide) in_Row k_157 rfl ?_
  refine pb_aload_n (pc := 12) d_Book_read_12 0 rfl rfl ?_
  refine pb_callV (pc := 13) (I := i_Book_read) (qb := 0) (ci := 9) (nA := 0) (rest := [.ref tab, .ref rd, .ref h]) (wr := [(tab, .inl (G.2.1, 8000, .inl taf)), (rd, .inr (7, [.ref rr])), (ss, .inr (3, [.ref wn, .ref wz, .ref wb, .ref wg, .int wc])), (wn, .inl (G.2.1, 384, .inl wfn)), (wz, .inl (G.2.2.1, 16, .inl wfz)), (wb, .inl (G.2.1, 12000, .inl wfb)), (wg, .inl (G.2.2.1, 17, .inl wfg)), (xe, .inr (5, [.ref ex, .ref et, .ref ea, .ref eb, .ref ec, .ref ed, .ref ef, .ref er, .int at_, .int en, .int fl])), (ex, .inr (0, [.ref ey, .int xs])), (ey, .inl (G.2.1, 4000, .inl xf)), (et, .inl (G.2.2.1, 316, .inl tf)), (ea, .inr (1, [.ref ea1, .ref ea2, .int eas])), (ea1, .inl (G.2.2.1, 16, .inl eac)), (ea2, .inl (G.2.2.1, 288, .inl eay)), (eb, .inr (1, [.ref eb1, .ref eb2, .int ebs])), (eb1, .inl (G.2.2.1, 16, .inl ebc)), (eb2, .inl (G.2.2.1, 32, .inl eby)), (ef, .inr (1, [.ref ef1, .ref ef2, .int efs])), (ef1, .inl (G.2.2.1, 16, .inl efc)), (ef2, .inl (G.2.2.1, 19, .inl efy)), (ec, .inr (1, [.ref ec1, .ref ec2, .int ecs])), (ec1, .inl (G.2.2.1, 16, .inl ecc)), (ec2, .inl (G.2.2.1, 286, .inl ecy)), (ed, .inr (1, [.ref ed1, .ref ed2, .int eds])), (ed1, .inl (G.2.2.1, 16, .inl edc)), (ed2, .inl (G.2.2.1, 30, .inl edy))]) d_Book_read_13 (g_Book_takeTape hl G h ta ca ps xe mk rd mu fi go sp ss tab tas) rfl rfl [0, 1] [2, 3, 4, 5, 6, 7, 8, 9, 10, 11, 12, 13, 14, 15, 16, 17, 18, 19, 20, 21, 22, 23, 24, 25, 26, 27] (by decide) rfl rfl rfl (by decide) (by decide) k_458 rfl k_118 k_455 k_457 k_0 ⟨rfl, hy_Book_takeTape⟩ (by decide) rfl rfl (Nat.le_of_ble_eq_true rfl) (by decide) (fun v9 ux2 ch1 => ?_)
  have ech1 := ch1
  have ech1 : v9 = some (.int tas) := ech1
  subst ech1
  refine pb_eq (pc' := 16) (lo' := [(0, .ref h)]) (rest' := [.int tas, .ref tab, .ref rd, .ref h]) (ws' := [(tab, .inl (G.2.1, 8000, .inl taf)), (rd, .inr (7, [.ref rr])), (ss, .inr (3, [.ref wn, .ref wz, .ref wb, .ref wg, .int wc])), (wn, .inl (G.2.1, 384, .inl wfn)), (wz, .inl (G.2.2.1, 16, .inl wfz)), (wb, .inl (G.2.1, 12000, .inl wfb)), (wg, .inl (G.2.2.1, 17, .inl wfg)), (xe, .inr (5, [.ref ex, .ref et, .ref ea, .ref eb, .ref ec, .ref ed, .ref ef, .ref er, .int at_, .int en, .int fl])), (ex, .inr (0, [.ref ey, .int xs])), (ey, .inl (G.2.1, 4000, .inl xf)), (et, .inl (G.2.2.1, 316, .inl tf)), (ea, .inr (1, [.ref ea1, .ref ea2, .int eas])), (ea1, .inl (G.2.2.1, 16, .inl eac)), (ea2, .inl (G.2.2.1, 288, .inl eay)), (eb, .inr (1, [.ref eb1, .ref eb2, .int ebs])), (eb1, .inl (G.2.2.1, 16, .inl ebc)), (eb2, .inl (G.2.2.1, 32, .inl eby)), (ef, .inr (1, [.ref ef1, .ref ef2, .int efs])), (ef1, .inl (G.2.2.1, 16, .inl efc)), (ef2, .inl (G.2.2.1, 19, .inl efy)), (ec, .inr (1, [.ref ec1, .ref ec2, .int ecs])), (ec1, .inl (G.2.2.1, 16, .inl ecc)), (ec2, .inl (G.2.2.1, 286, .inl ecy)), (ed, .inr (1, [.ref ed1, .ref ed2, .int eds])), (ed1, .inl (G.2.2.1, 16, .inl edc)), (ed2, .inl (G.2.2.1, 30, .inl edy)), (h, .inr (9, [.ref ta, .ref ca, .ref ps, .ref xe, .ref mk, .ref rd, .ref mu, .ref fi, .ref go, .ref sp, .ref ss])), (ta, .inr (0, [.ref tab, .int 0]))]) ?_
  refine pb_aload_n (pc := 16) d_Book_read_16 0 rfl rfl ?_
  refine pb_get (pc := 17) d_Book_read_17 26 10 rfl rfl (by decide) in_Book k_427 rfl ?_
  refine pb_aload_n (pc := 20) d_Book_read_20 0 rfl rfl ?_
  refine pb_get (pc := 21) d_Book_read_21 26 3 rfl rfl (by decide) in_Book k_420 rfl ?_
  refine pb_callV (pc := 24) (I := i_Book_read) (qb := 1) (ci := 7) (nA := 4) (rest := [.ref h]) (wr := [(h, .inr (9, [.ref ta, .ref ca, .ref ps, .ref xe, .ref mk, .ref rd, .ref mu, .ref fi, .ref go, .ref sp, .ref ss])), (ta, .inr (0, [.ref tab, .int 0]))]) d_Book_read_24 (g_Rd_run hl G rd tab 8000 rr taf ss wn wz wb wg wc wfn wfz wfb wfg xe ex et ea eb ec ed ef er at_ en fl ey xf xs tf ea1 ea2 eas eac eay eb1 eb2 ebs ebc eby ef1 ef2 efs efc efy ec1 ec2 ecs ecc ecy ed1 ed2 eds edc edy tas (gr taf) tas.toInt (by first | assumption | decide | omega) (by first | (with_reducible assumption) | omega (splitDisjunctions := false) | assumption | omega | decide) (by first | assumption | decide | omega) (by first | (with_reducible assumption) | omega (splitDisjunctions := false) | assumption | omega | decide) (by first | (with_reducible assumption) | omega (splitDisjunctions := false) | assumption | omega | decide) (by first | (with_reducible assumption) | omega (splitDisjunctions := false) | assumption | omega | decide) (by first | assumption | decide | omega) (by first | (with_reducible assumption) | omega (splitDisjunctions := false) | assumption | omega | decide) (by first | assumption | decide | omega) (by first | (with_reducible assumption) | omega (splitDisjunctions := false) | assumption | omega | decide) (by first | assumption | decide | omega) (by first | (with_reducible assumption) | omega (splitDisjunctions := false) | assumption | omega | decide) (by first | (with_reducible assumption) | omega (splitDisjunctions := false) | assumption | omega | decide) (by first | (with_reducible assumption) | omega (splitDisjunctions := false) | assumption | omega | decide) (by first | (with_reducible assumption) | omega (splitDisjunctions := false) | assumption | omega | decide) (by first | (with_reducible assumption) | omega (splitDisjunctions := false) | assumption | omega | decide) (by first | (with_reducible assumption) | omega (splitDisjunctions := false) | assumption | omega | decide) (fun j _ _ => rfl) (by first | (with_reducible assumption) | omega (splitDisjunctions := false) | assumption | omega | decide) F_taf F_wfn F_wfb F_xf) rfl rfl [1, 0, 2, 3, 4, 5, 6, 7, 8, 9, 10, 11, 12, 13, 14, 15, 16, 17, 18, 19, 20, 21, 22, 23, 24, 25] [26, 27] (by decide) rfl rfl rfl (by decide) (by decide) k_583 rfl k_124 k_580 k_581 k_582 ⟨rfl, hy_FileReader_run⟩ (by decide) rfl rfl (Nat.le_of_ble_eq_true rfl) (by decide) (fun v9 ux4 ch3 => ?_)
  obtain ⟨r_5, c_6, fn_7, fz_8, fb_9, fg_10, er_11, at_12, en_13, fl_14, s2__15, xf_16, tf_17, efs_18, efc_19, efy_20, ecs_21, ecc_22, ecy_23, eds_24, edc_25, edy_26⟩ := ux4
  obtain ⟨ech3, ch3⟩ := ch3
  have ech3 : v9 = some (.int r_5) := ech3
  subst ech3
  obtain ⟨fh27, fh28, fh29, fh30, fh31, fh32, fh33, fh34, fh35, fh36, fh37, fh38, fh39⟩ : (sh_I c_6.toInt fz_8 fg_10) ∧ (0 ≤ s2__15.toInt) ∧ (s2__15.toInt ≤ 4000) ∧ (co_I efs_18.toInt efc_19 efy_20 19) ∧ (efs_18.toInt ≤ 19) ∧ (co_I ecs_21.toInt ecc_22 ecy_23 288) ∧ (ecs_21.toInt ≤ 286) ∧ (co_I eds_24.toInt edc_25 edy_26 32) ∧ (eds_24.toInt ≤ 30) ∧ (hid_ (∃ W : VW_, rd_ (gr taf) tas.toInt r_5.toInt W ∧ (r_5.toInt = 0 → rC_ c_6.toInt fn_7 fz_8 fb_9 fg_10 W))) ∧ (sb_Fit fn_7) ∧ (sb_Fit fb_9) ∧ (sb_Fit xf_16) := ch3
  have ruF := fh36
  refine pb_eq (pc' := 27) (lo' := [(0, .ref h)]) (rest' := [.int r_5, .ref h]) (ws' := [(h, .inr (9, [.ref ta, .ref ca, .ref ps, .ref xe, .ref mk, .ref rd, .ref mu, .ref fi, .ref go, .ref sp, .ref ss])), (ta, .inr (0, [.ref tab, .int 0])), (rd, .inr (7, [.ref tab])), (tab, .inl (G.2.1, 8000, .inl taf)), (ss, .inr (3, [.ref wn, .ref wz, .ref wb, .ref wg, .int c_6])), (wn, .inl (G.2.1, 384, .inl fn_7)), (wz, .inl (G.2.2.1, 16, .inl fz_8)), (wb, .inl (G.2.1, 12000, .inl fb_9)), (wg, .inl (G.2.2.1, 17, .inl fg_10)), (xe, .inr (5, [.ref ex, .ref et, .ref ea, .ref eb, .ref ec, .ref ed, .ref ef, .ref er_11, .int at_12, .int en_13, .int fl_14])), (ex, .inr (0, [.ref ey, .int s2__15])), (ey, .inl (G.2.1, 4000, .inl xf_16)), (et, .inl (G.2.2.1, 316, .inl tf_17)), (ea, .inr (1, [.ref ea1, .ref ea2, .int eas])), (ea1, .inl (G.2.2.1, 16, .inl eac)), (ea2, .inl (G.2.2.1, 288, .inl eay)), (eb, .inr (1, [.ref eb1, .ref eb2, .int ebs])), (eb1, .inl (G.2.2.1, 16, .inl ebc)), (eb2, .inl (G.2.2.1, 32, .inl eby)), (ef, .inr (1, [.ref ef1, .ref ef2, .int efs_18])), (ef1, .inl (G.2.2.1, 16, .inl efc_19)), (ef2, .inl (G.2.2.1, 19, .inl efy_20)), (ec, .inr (1, [.ref ec1, .ref ec2, .int ecs_21])), (ec1, .inl (G.2.2.1, 16, .inl ecc_22)), (ec2, .inl (G.2.2.1, 286, .inl ecy_23)), (ed, .inr (1, [.ref ed1, .ref ed2, .int eds_24])), (ed1, .inl (G.2.2.1, 16, .inl edc_25)), (ed2, .inl (G.2.2.1, 30, .inl edy_26))]) ?_
  refine pb_callV (pc := 27) (I := i_Book_read) (qb := 0) (ci := 9) (nA := 1) (rest := []) (wr := [(ta, .inr (0, [.ref tab, .int 0])), (rd, .inr (7, [.ref tab])), (tab, .inl (G.2.1, 8000, .inl taf)), (ss, .inr (3, [.ref wn, .ref wz, .ref wb, .ref wg, .int c_6])), (wn, .inl (G.2.1, 384, .inl fn_7)), (wz, .inl (G.2.2.1, 16, .inl fz_8)), (wb, .inl (G.2.1, 12000, .inl fb_9)), (wg, .inl (G.2.2.1, 17, .inl fg_10)), (xe, .inr (5, [.ref ex, .ref et, .ref ea, .ref eb, .ref ec, .ref ed, .ref ef, .ref er_11, .int at_12, .int en_13, .int fl_14])), (ex, .inr (0, [.ref ey, .int s2__15])), (ey, .inl (G.2.1, 4000, .inl xf_16)), (et, .inl (G.2.2.1, 316, .inl tf_17)), (ea, .inr (1, [.ref ea1, .ref ea2, .int eas])), (ea1, .inl (G.2.2.1, 16, .inl eac)), (ea2, .inl (G.2.2.1, 288, .inl eay)), (eb, .inr (1, [.ref eb1, .ref eb2, .int ebs])), (eb1, .inl (G.2.2.1, 16, .inl ebc)), (eb2, .inl (G.2.2.1, 32, .inl eby)), (ef, .inr (1, [.ref ef1, .ref ef2, .int efs_18])), (ef1, .inl (G.2.2.1, 16, .inl efc_19)), (ef2, .inl (G.2.2.1, 19, .inl efy_20)), (ec, .inr (1, [.ref ec1, .ref ec2, .int ecs_21])), (ec1, .inl (G.2.2.1, 16, .inl ecc_22)), (ec2, .inl (G.2.2.1, 286, .inl ecy_23)), (ed, .inr (1, [.ref ed1, .ref ed2, .int eds_24])), (ed1, .inl (G.2.2.1, 16, .inl edc_25)), (ed2, .inl (G.2.2.1, 30, .inl edy_26))]) d_Book_read_27 (g_Book_settle hl G h ta ca ps xe mk rd mu fi go sp ss r_5) rfl rfl [0] [1, 2, 3, 4, 5, 6, 7, 8, 9, 10, 11, 12, 13, 14, 15, 16, 17, 18, 19, 20, 21, 22, 23, 24, 25, 26, 27] (by decide) rfl rfl rfl (by decide) (by decide) k_712 rfl k_118 k_709 k_711 k_28 ⟨rfl, hy_Book_settle⟩ (by decide) rfl rfl (Nat.le_of_ble_eq_true rfl) (by decide) (fun v9 ux41 ch40 => ?_)
  obtain ⟨p__42, s__43⟩ := ux41
  obtain ⟨ech40, ch40⟩ := ch40
  have ech40 : v9 = some (.int r_5) := ech40
  subst ech40
  obtain ⟨fh44, fh45⟩ : ((sp = p__42 ∧ ss = s__43) ∨ (ss = p__42 ∧ sp = s__43)) ∧ ((r_5.toInt = 0 ∧ ss = p__42 ∧ sp = s__43) ∨ (¬ r_5.toInt = 0 ∧ sp = p__42 ∧ ss = s__43)) := ch40
  have swF := fh45
  refine pb_eq (pc' := 30) (lo' := [(0, .ref h)]) (rest' := [.int r_5]) (ws' := [(ta, .inr (0, [.ref tab, .int 0])), (rd, .inr (7, [.ref tab])), (tab, .inl (G.2.1, 8000, .inl taf)), (ss, .inr (3, [.ref wn, .ref wz, .ref wb, .ref wg, .int c_6])), (wn, .inl (G.2.1, 384, .inl fn_7)), (wz, .inl (G.2.2.1, 16, .inl fz_8)), (wb, .inl (G.2.1, 12000, .inl fb_9)), (wg, .inl (G.2.2.1, 17, .inl fg_10)), (xe, .inr (5, [.ref ex, .ref et, .ref ea, .ref eb, .ref ec, .ref ed, .ref ef, .ref er_11, .int at_12, .int en_13, .int fl_14])), (ex, .inr (0, [.ref ey, .int s2__15])), (ey, .inl (G.2.1, 4000, .inl xf_16)), (et, .inl (G.2.2.1, 316, .inl tf_17)), (ea, .inr (1, [.ref ea1, .ref ea2, .int eas])), (ea1, .inl (G.2.2.1, 16, .inl eac)), (ea2, .inl (G.2.2.1, 288, .inl eay)), (eb, .inr (1, [.ref eb1, .ref eb2, .int ebs])), (eb1, .inl (G.2.2.1, 16, .inl ebc)), (eb2, .inl (G.2.2.1, 32, .inl eby)), (ef, .inr (1, [.ref ef1, .ref ef2, .int efs_18])), (ef1, .inl (G.2.2.1, 16, .inl efc_19)), (ef2, .inl (G.2.2.1, 19, .inl efy_20)), (ec, .inr (1, [.ref ec1, .ref ec2, .int ecs_21])), (ec1, .inl (G.2.2.1, 16, .inl ecc_22)), (ec2, .inl (G.2.2.1, 286, .inl ecy_23)), (ed, .inr (1, [.ref ed1, .ref ed2, .int eds_24])), (ed1, .inl (G.2.2.1, 16, .inl edc_25)), (ed2, .inl (G.2.2.1, 30, .inl edy_26)), (h, .inr (9, [.ref ta, .ref ca, .ref ps, .ref xe, .ref mk, .ref rd, .ref mu, .ref fi, .ref go, .ref p__42, .ref s__43]))]) ?_
  exact pb_iret (pc := 30) hQ d_Book_read_30 rfl rfl (r_5, p__42, s__43, tab, c_6, fn_7, fz_8, fb_9, fg_10, er_11, at_12, en_13, fl_14, s2__15, xf_16, tf_17, efs_18, efc_19, efy_20, ecs_21, ecc_22, ecy_23, eds_24, edc_25, edy_26) ⟨rfl, (by (try dsimp only); first | done | (with_reducible assumption) | omega (splitDisjunctions := false) | assumption | omega | decide), (by (try dsimp only); first | done | assumption | decide | omega), (by (try dsimp only); first | done | (with_reducible assumption) | omega (splitDisjunctions := false) | assumption | omega | decide), (by (try dsimp only); first | done | (with_reducible assumption) | omega (splitDisjunctions := false) | assumption | omega | decide), (by (try dsimp only); first | done | assumption | decide | omega), (by (try dsimp only); first | done | (with_reducible assumption) | omega (splitDisjunctions := false) | assumption | omega | decide), (by (try dsimp only); first | done | assumption | decide | omega), (by (try dsimp only); first | done | (with_reducible assumption) | omega (splitDisjunctions := false) | assumption | omega | decide), (by (try dsimp only); first | done | assumption | decide | omega), (by (try dsimp only); first | done | (with_reducible assumption) | omega (splitDisjunctions := false) | assumption | omega | decide), swF, ruF, fh37, fh38, fh39⟩ [27, 0, 2, 1, 3, 4, 5, 6, 7, 8, 9, 10, 11, 12, 13, 14, 15, 16, 17, 18, 19, 20, 21, 22, 23, 24, 25, 26] (by decide) rfl rfl (by decide) (by decide)

theorem d_Book_reread_0 : decode prog_1_method_11_code 0 = .ok (.aload_n 0, 1) := by decide +kernel
theorem d_Book_reread_1 : decode prog_1_method_11_code 1 = .ok (.getfield 38, 3) := by decide +kernel
theorem d_Book_reread_4 : decode prog_1_method_11_code 4 = .ok (.getfield 168, 3) := by decide +kernel
theorem d_Book_reread_7 : decode prog_1_method_11_code 7 = .ok (.astore_n 3, 1) := by decide +kernel
theorem d_Book_reread_8 : decode prog_1_method_11_code 8 = .ok (.iload_n 1, 1) := by decide +kernel
theorem d_Book_reread_9 : decode prog_1_method_11_code 9 = .ok (.ifCond .lt 11, 3) := by decide +kernel
theorem d_Book_reread_20 : decode prog_1_method_11_code 20 = .ok (.new 143, 3) := by decide +kernel
theorem d_Book_reread_23 : decode prog_1_method_11_code 23 = .ok (.dup, 1) := by decide +kernel
theorem d_Book_reread_24 : decode prog_1_method_11_code 24 = .ok (.ldc 182, 2) := by decide +kernel
theorem d_Book_reread_26 : decode prog_1_method_11_code 26 = .ok (.invokespecial 147, 3) := by decide +kernel
theorem d_Book_reread_29 : decode prog_1_method_11_code 29 = .ok (.athrow, 1) := by decide +kernel
theorem d_Book_reread_12 : decode prog_1_method_11_code 12 = .ok (.iload_n 1, 1) := by decide +kernel
theorem d_Book_reread_13 : decode prog_1_method_11_code 13 = .ok (.aload_n 3, 1) := by decide +kernel
theorem d_Book_reread_14 : decode prog_1_method_11_code 14 = .ok (.getfield 84, 3) := by decide +kernel
theorem d_Book_reread_17 : decode prog_1_method_11_code 17 = .ok (.if_icmp .lt 13, 3) := by decide +kernel
theorem d_Book_reread_30 : decode prog_1_method_11_code 30 = .ok (.iload_n 2, 1) := by decide +kernel
theorem d_Book_reread_31 : decode prog_1_method_11_code 31 = .ok (.ifCond .lt 10, 3) := by decide +kernel
theorem d_Book_reread_41 : decode prog_1_method_11_code 41 = .ok (.new 77, 3) := by decide +kernel
theorem d_Book_reread_44 : decode prog_1_method_11_code 44 = .ok (.dup, 1) := by decide +kernel
theorem d_Book_reread_45 : decode prog_1_method_11_code 45 = .ok (.ldc 184, 2) := by decide +kernel
theorem d_Book_reread_47 : decode prog_1_method_11_code 47 = .ok (.invokespecial 81, 3) := by decide +kernel
theorem d_Book_reread_50 : decode prog_1_method_11_code 50 = .ok (.athrow, 1) := by decide +kernel
theorem d_Book_reread_34 : decode prog_1_method_11_code 34 = .ok (.iload_n 2, 1) := by decide +kernel
theorem d_Book_reread_35 : decode prog_1_method_11_code 35 = .ok (.sipush 255, 3) := by decide +kernel
theorem d_Book_reread_38 : decode prog_1_method_11_code 38 = .ok (.if_icmp .le 13, 3) := by decide +kernel
theorem d_Book_reread_51 : decode prog_1_method_11_code 51 = .ok (.aload_n 3, 1) := by decide +kernel
theorem d_Book_reread_52 : decode prog_1_method_11_code 52 = .ok (.getfield 98, 3) := by decide +kernel
theorem d_Book_reread_55 : decode prog_1_method_11_code 55 = .ok (.iload_n 1, 1) := by decide +kernel
theorem d_Book_reread_56 : decode prog_1_method_11_code 56 = .ok (.dup2, 1) := by decide +kernel
theorem d_Book_reread_57 : decode prog_1_method_11_code 57 = .ok (.baload, 1) := by decide +kernel
theorem d_Book_reread_58 : decode prog_1_method_11_code 58 = .ok (.iload_n 2, 1) := by decide +kernel
theorem d_Book_reread_59 : decode prog_1_method_11_code 59 = .ok (.i2b, 1) := by decide +kernel
theorem d_Book_reread_60 : decode prog_1_method_11_code 60 = .ok (.ixor, 1) := by decide +kernel
theorem d_Book_reread_61 : decode prog_1_method_11_code 61 = .ok (.i2b, 1) := by decide +kernel
theorem d_Book_reread_62 : decode prog_1_method_11_code 62 = .ok (.bastore, 1) := by decide +kernel
theorem d_Book_reread_63 : decode prog_1_method_11_code 63 = .ok (.aload_n 0, 1) := by decide +kernel
theorem d_Book_reread_64 : decode prog_1_method_11_code 64 = .ok (.getfield 45, 3) := by decide +kernel
theorem d_Book_reread_67 : decode prog_1_method_11_code 67 = .ok (.aload_n 3, 1) := by decide +kernel
theorem d_Book_reread_68 : decode prog_1_method_11_code 68 = .ok (.getfield 98, 3) := by decide +kernel
theorem d_Book_reread_71 : decode prog_1_method_11_code 71 = .ok (.aload_n 3, 1) := by decide +kernel
theorem d_Book_reread_72 : decode prog_1_method_11_code 72 = .ok (.getfield 84, 3) := by decide +kernel
theorem d_Book_reread_75 : decode prog_1_method_11_code 75 = .ok (.aload_n 0, 1) := by decide +kernel
theorem d_Book_reread_76 : decode prog_1_method_11_code 76 = .ok (.getfield 74, 3) := by decide +kernel
theorem d_Book_reread_79 : decode prog_1_method_11_code 79 = .ok (.aload_n 0, 1) := by decide +kernel
theorem d_Book_reread_80 : decode prog_1_method_11_code 80 = .ok (.getfield 31, 3) := by decide +kernel
theorem d_Book_reread_83 : decode prog_1_method_11_code 83 = .ok (.invokevirtual 175, 3) := by decide +kernel
theorem d_Book_reread_86 : decode prog_1_method_11_code 86 = .ok (.istore 4, 2) := by decide +kernel
theorem d_Book_reread_88 : decode prog_1_method_11_code 88 = .ok (.aload_n 3, 1) := by decide +kernel
theorem d_Book_reread_89 : decode prog_1_method_11_code 89 = .ok (.getfield 98, 3) := by decide +kernel
theorem d_Book_reread_92 : decode prog_1_method_11_code 92 = .ok (.iload_n 1, 1) := by decide +kernel
theorem d_Book_reread_93 : decode prog_1_method_11_code 93 = .ok (.dup2, 1) := by decide +kernel
theorem d_Book_reread_94 : decode prog_1_method_11_code 94 = .ok (.baload, 1) := by decide +kernel
theorem d_Book_reread_95 : decode prog_1_method_11_code 95 = .ok (.iload_n 2, 1) := by decide +kernel
theorem d_Book_reread_96 : decode prog_1_method_11_code 96 = .ok (.i2b, 1) := by decide +kernel
theorem d_Book_reread_97 : decode prog_1_method_11_code 97 = .ok (.ixor, 1) := by decide +kernel
theorem d_Book_reread_98 : decode prog_1_method_11_code 98 = .ok (.i2b, 1) := by decide +kernel
theorem d_Book_reread_99 : decode prog_1_method_11_code 99 = .ok (.bastore, 1) := by decide +kernel
theorem d_Book_reread_100 : decode prog_1_method_11_code 100 = .ok (.aload_n 0, 1) := by decide +kernel
theorem d_Book_reread_101 : decode prog_1_method_11_code 101 = .ok (.iload 4, 2) := by decide +kernel
theorem d_Book_reread_103 : decode prog_1_method_11_code 103 = .ok (.invokevirtual 179, 3) := by decide +kernel
theorem d_Book_reread_106 : decode prog_1_method_11_code 106 = .ok (.ireturn, 1) := by decide +kernel
abbrev y_Book_reread : MethodName := ⟨"PackageBook", "reread", "(II)I"⟩
abbrev i_Book_reread : pb_I := (y_Book_reread, prog_1_method_11_code, 5, (some Jvm.ClassFile.FieldType.int), [], { frames := 6, cells := 1, slots := 6, locals := 171 })
set_option maxRecDepth 100000 in
set_option maxHeartbeats 4000000 in
theorem g_Book_reread {l : Launch} (hl : l.stackTraces = false) (G : pb_G) (h : Nat) (ta : Nat) (ca : Nat) (ps : Nat) (xe : Nat) (mk : Nat) (rd : Nat) (mu : Nat) (fi : Nat) (go : Nat) (sp : Nat) (ss : Nat) (mm : Nat) (mr : Nat) (mb : Nat) (mf : Nat → Int32) (ms : Int32) (rr : Nat) (wn : Nat) (wz : Nat) (wb : Nat) (wg : Nat) (wc : Int32) (wfn : Nat → Int32) (wfz : Nat → Int32) (wfb : Nat → Int32) (wfg : Nat → Int32) (ex : Nat) (et : Nat) (ea : Nat) (eb : Nat) (ec : Nat) (ed : Nat) (ef : Nat) (er : Nat) (at_ : Int32) (en : Int32) (fl : Int32) (ey : Nat) (xf : Nat → Int32) (xs : Int32) (tf : Nat → Int32) (ea1 : Nat) (ea2 : Nat) (eas : Int32) (eac : Nat → Int32) (eay : Nat → Int32) (eb1 : Nat) (eb2 : Nat) (ebs : Int32) (ebc : Nat → Int32) (eby : Nat → Int32) (ef1 : Nat) (ef2 : Nat) (efs : Int32) (efc : Nat → Int32) (efy : Nat → Int32) (ec1 : Nat) (ec2 : Nat) (ecs : Int32) (ecc : Nat → Int32) (ecy : Nat → Int32) (ed1 : Nat) (ed2 : Nat) (eds : Int32) (edc : Nat → Int32) (edy : Nat → Int32) (i : Int32) (x : Int32) (m0 : 0 ≤ ms.toInt) (m1 : ms.toInt ≤ 14006) (Ia : co_I eas.toInt eac eay 288) (Ma : eas.toInt ≤ 288) (Ib : co_I ebs.toInt ebc eby 32) (Mb : ebs.toInt ≤ 32) (Fa : cs_R eas.toInt eac eay fx_1 288) (Fb : cs_R ebs.toInt ebc eby fx_2 32) (If : co_I efs.toInt efc efy 19) (Mf : efs.toInt ≤ 19) (Ic : co_I ecs.toInt ecc ecy 288) (Mc : ecs.toInt ≤ 286) (Id : co_I eds.toInt edc edy 32) (Md : eds.toInt ≤ 30) (a0_ : 0 ≤ xs.toInt) (a1_ : xs.toInt ≤ 4000) (F_mf : sb_Fit mf) (F_wfn : sb_Fit wfn) (F_wfb : sb_Fit wfb) (F_xf : sb_Fit xf) : Cx l G i_Book_reread [.ref h, .int i, .int x] [(h, .inr (9, [.ref ta, .ref ca, .ref ps, .ref xe, .ref mk, .ref rd, .ref mu, .ref fi, .ref go, .ref sp, .ref ss])), (mk, .inr (6, [.ref mm, .ref mr])), (mm, .inr (0, [.ref mb, .int ms])), (mb, .inl (G.2.1, 14006, .inl mf)), (rd, .inr (7, [.ref rr])), (ss, .inr (3, [.ref wn, .ref wz, .ref wb, .ref wg, .int wc])), (wn, .inl (G.2.1, 384, .inl wfn)), (wz, .inl (G.2.2.1, 16, .inl wfz)), (wb, .inl (G.2.1, 12000, .inl wfb)), (wg, .inl (G.2.2.1, 17, .inl wfg)), (xe, .inr (5, [.ref ex, .ref et, .ref ea, .ref eb, .ref ec, .ref ed, .ref ef, .ref er, .int at_, .int en, .int fl])), (ex, .inr (0, [.ref ey, .int xs])), (ey, .inl (G.2.1, 4000, .inl xf)), (et, .inl (G.2.2.1, 316, .inl tf)), (ea, .inr (1, [.ref ea1, .ref ea2, .int eas])), (ea1, .inl (G.2.2.1, 16, .inl eac)), (ea2, .inl (G.2.2.1, 288, .inl eay)), (eb, .inr (1, [.ref eb1, .ref eb2, .int ebs])), (eb1, .inl (G.2.2.1, 16, .inl ebc)), (eb2, .inl (G.2.2.1, 32, .inl eby)), (ef, .inr (1, [.ref ef1, .ref ef2, .int efs])), (ef1, .inl (G.2.2.1, 16, .inl efc)), (ef2, .inl (G.2.2.1, 19, .inl efy)), (ec, .inr (1, [.ref ec1, .ref ec2, .int ecs])), (ec1, .inl (G.2.2.1, 16, .inl ecc)), (ec2, .inl (G.2.2.1, 286, .inl ecy)), (ed, .inr (1, [.ref ed1, .ref ed2, .int eds])), (ed1, .inl (G.2.2.1, 16, .inl edc)), (ed2, .inl (G.2.2.1, 30, .inl edy))] (S := Int32 × Nat × Nat × Nat × (Nat → Int32) × Int32 × (Nat → Int32) × (Nat → Int32) × (Nat → Int32) × (Nat → Int32) × Nat × Int32 × Int32 × Int32 × Int32 × (Nat → Int32) × (Nat → Int32) × Int32 × (Nat → Int32) × (Nat → Int32) × Int32 × (Nat → Int32) × (Nat → Int32) × Int32 × (Nat → Int32) × (Nat → Int32)) (SX := Unit) (fun rv_ u => rv_ = some (.int u.1) ∧ ((sp = u.2.1 ∧ ss = u.2.2.1) ∨ (ss = u.2.1 ∧ sp = u.2.2.1)) ∧ (sh_I u.2.2.2.2.2.1.toInt u.2.2.2.2.2.2.2.1 u.2.2.2.2.2.2.2.2.2.1) ∧ (0 ≤ u.2.2.2.2.2.2.2.2.2.2.2.2.2.2.1.toInt) ∧ (u.2.2.2.2.2.2.2.2.2.2.2.2.2.2.1.toInt ≤ 4000) ∧ (co_I u.2.2.2.2.2.2.2.2.2.2.2.2.2.2.2.2.2.1.toInt u.2.2.2.2.2.2.2.2.2.2.2.2.2.2.2.2.2.2.1 u.2.2.2.2.2.2.2.2.2.2.2.2.2.2.2.2.2.2.2.1 19) ∧ (u.2.2.2.2.2.2.2.2.2.2.2.2.2.2.2.2.2.1.toInt ≤ 19) ∧ (co_I u.2.2.2.2.2.2.2.2.2.2.2.2.2.2.2.2.2.2.2.2.1.toInt u.2.2.2.2.2.2.2.2.2.2.2.2.2.2.2.2.2.2.2.2.2.1 u.2.2.2.2.2.2.2.2.2.2.2.2.2.2.2.2.2.2.2.2.2.2.1 288) ∧ (u.2.2.2.2.2.2.2.2.2.2.2.2.2.2.2.2.2.2.2.2.1.toInt ≤ 286) ∧ (co_I u.2.2.2.2.2.2.2.2.2.2.2.2.2.2.2.2.2.2.2.2.2.2.2.1.toInt u.2.2.2.2.2.2.2.2.2.2.2.2.2.2.2.2.2.2.2.2.2.2.2.2.1 u.2.2.2.2.2.2.2.2.2.2.2.2.2.2.2.2.2.2.2.2.2.2.2.2.2 32) ∧ (u.2.2.2.2.2.2.2.2.2.2.2.2.2.2.2.2.2.2.2.2.2.2.2.1.toInt ≤ 30) ∧ ((u.1.toInt = 0 ∧ ss = u.2.1 ∧ sp = u.2.2.1) ∨ (¬ u.1.toInt = 0 ∧ sp = u.2.1 ∧ ss = u.2.2.1)) ∧ (0 ≤ i.toInt ∧ i.toInt < ms.toInt) ∧ (0 ≤ x.toInt ∧ x.toInt ≤ 255) ∧ (∀ j : Int, 0 ≤ j → gr u.2.2.2.2.1 j = gr mf j) ∧ (hid_ (∃ W : VW_, rd_ (xr_ (gr mf) i.toInt x) ms.toInt u.1.toInt W ∧ (u.1.toInt = 0 → rC_ u.2.2.2.2.2.1.toInt u.2.2.2.2.2.2.1 u.2.2.2.2.2.2.2.1 u.2.2.2.2.2.2.2.2.1 u.2.2.2.2.2.2.2.2.2.1 W))) ∧ (sb_Fit u.2.2.2.2.1) ∧ (sb_Fit u.2.2.2.2.2.2.1) ∧ (sb_Fit u.2.2.2.2.2.2.2.2.1) ∧ (sb_Fit u.2.2.2.2.2.2.2.2.2.2.2.2.2.2.2.1)) (fun u => [(h, .inr (9, [.ref ta, .ref ca, .ref ps, .ref xe, .ref mk, .ref rd, .ref mu, .ref fi, .ref go, .ref u.2.1, .ref u.2.2.1])), (mk, .inr (6, [.ref mm, .ref mr])), (mm, .inr (0, [.ref mb, .int ms])), (mb, .inl (G.2.1, 14006, .inl u.2.2.2.2.1)), (rd, .inr (7, [.ref u.2.2.2.1])), (ss, .inr (3, [.ref wn, .ref wz, .ref wb, .ref wg, .int u.2.2.2.2.2.1])), (wn, .inl (G.2.1, 384, .inl u.2.2.2.2.2.2.1)), (wz, .inl (G.2.2.1, 16, .inl u.2.2.2.2.2.2.2.1)), (wb, .inl (G.2.1, 12000, .inl u.2.2.2.2.2.2.2.2.1)), (wg, .inl (G.2.2.1, 17, .inl u.2.2.2.2.2.2.2.2.2.1)), (xe, .inr (5, [.ref ex, .ref et, .ref ea, .ref eb, .ref ec, .ref ed, .ref ef, .ref u.2.2.2.2.2.2.2.2.2.2.1, .int u.2.2.2.2.2.2.2.2.2.2.2.1, .int u.2.2.2.2.2.2.2.2.2.2.2.2.1, .int u.2.2.2.2.2.2.2.2.2.2.2.2.2.1])), (ex, .inr (0, [.ref ey, .int u.2.2.2.2.2.2.2.2.2.2.2.2.2.2.1])), (ey, .inl (G.2.1, 4000, .inl u.2.2.2.2.2.2.2.2.2.2.2.2.2.2.2.1)), (et, .inl (G.2.2.1, 316, .inl u.2.2.2.2.2.2.2.2.2.2.2.2.2.2.2.2.1)), (ea, .inr (1, [.ref ea1, .ref ea2, .int eas])), (ea1, .inl (G.2.2.1, 16, .inl eac)), (ea2, .inl (G.2.2.1, 288, .inl eay)), (eb, .inr (1, [.ref eb1, .ref eb2, .int ebs])), (eb1, .inl (G.2.2.1, 16, .inl ebc)), (eb2, .inl (G.2.2.1, 32, .inl eby)), (ef, .inr (1, [.ref ef1, .ref ef2, .int u.2.2.2.2.2.2.2.2.2.2.2.2.2.2.2.2.2.1])), (ef1, .inl (G.2.2.1, 16, .inl u.2.2.2.2.2.2.2.2.2.2.2.2.2.2.2.2.2.2.1)), (ef2, .inl (G.2.2.1, 19, .inl u.2.2.2.2.2.2.2.2.2.2.2.2.2.2.2.2.2.2.2.1)), (ec, .inr (1, [.ref ec1, .ref ec2, .int u.2.2.2.2.2.2.2.2.2.2.2.2.2.2.2.2.2.2.2.2.1])), (ec1, .inl (G.2.2.1, 16, .inl u.2.2.2.2.2.2.2.2.2.2.2.2.2.2.2.2.2.2.2.2.2.1)), (ec2, .inl (G.2.2.1, 286, .inl u.2.2.2.2.2.2.2.2.2.2.2.2.2.2.2.2.2.2.2.2.2.2.1)), (ed, .inr (1, [.ref ed1, .ref ed2, .int u.2.2.2.2.2.2.2.2.2.2.2.2.2.2.2.2.2.2.2.2.2.2.2.1])), (ed1, .inl (G.2.2.1, 16, .inl u.2.2.2.2.2.2.2.2.2.2.2.2.2.2.2.2.2.2.2.2.2.2.2.2.1)), (ed2, .inl (G.2.2.1, 30, .inl u.2.2.2.2.2.2.2.2.2.2.2.2.2.2.2.2.2.2.2.2.2.2.2.2.2))]) (fun E u => (E = "java/lang/IndexOutOfBoundsException" ∧ (¬ (0 ≤ i.toInt ∧ i.toInt < ms.toInt))) ∨ (E = "java/lang/IllegalArgumentException" ∧ (0 ≤ i.toInt ∧ i.toInt < ms.toInt) ∧ (¬ (0 ≤ x.toInt ∧ x.toInt ≤ 255)))) (fun u => [(h, .inr (9, [.ref ta, .ref ca, .ref ps, .ref xe, .ref mk, .ref rd, .ref mu, .ref fi, .ref go, .ref sp, .ref ss])), (mk, .inr (6, [.ref mm, .ref mr])), (mm, .inr (0, [.ref mb, .int ms])), (mb, .inl (G.2.1, 14006, .inl mf)), (rd, .inr (7, [.ref rr])), (ss, .inr (3, [.ref wn, .ref wz, .ref wb, .ref wg, .int wc])), (wn, .inl (G.2.1, 384, .inl wfn)), (wz, .inl (G.2.2.1, 16, .inl wfz)), (wb, .inl (G.2.1, 12000, .inl wfb)), (wg, .inl (G.2.2.1, 17, .inl wfg)), (xe, .inr (5, [.ref ex, .ref et, .ref ea, .ref eb, .ref ec, .ref ed, .ref ef, .ref er, .int at_, .int en, .int fl])), (ex, .inr (0, [.ref ey, .int xs])), (ey, .inl (G.2.1, 4000, .inl xf)), (et, .inl (G.2.2.1, 316, .inl tf)), (ea, .inr (1, [.ref ea1, .ref ea2, .int eas])), (ea1, .inl (G.2.2.1, 16, .inl eac)), (ea2, .inl (G.2.2.1, 288, .inl eay)), (eb, .inr (1, [.ref eb1, .ref eb2, .int ebs])), (eb1, .inl (G.2.2.1, 16, .inl ebc)), (eb2, .inl (G.2.2.1, 32, .inl eby)), (ef, .inr (1, [.ref ef1, .ref ef2, .int efs])), (ef1, .inl (G.2.2.1, 16, .inl efc)), (ef2, .inl (G.2.2.1, 19, .inl efy)), (ec, .inr (1, [.ref ec1, .ref ec2, .int ecs])), (ec1, .inl (G.2.2.1, 16, .inl ecc)), (ec2, .inl (G.2.2.1, 286, .inl ecy)), (ed, .inr (1, [.ref ed1, .ref ed2, .int eds])), (ed1, .inl (G.2.2.1, 16, .inl edc)), (ed2, .inl (G.2.2.1, 30, .inl edy))]) := by
  refine Cx.of hl (by decide +kernel) rfl (Nat.le_of_ble_eq_true rfl) (fun M hQ => ?_)
  refine pb_eq (pc' := 0) (lo' := [(0, .ref h), (1, .int i), (2, .int x)]) (rest' := []) (ws' := [(h, .inr (9, [.ref ta, .ref ca, .ref ps, .ref xe, .ref mk, .ref rd, .ref mu, .ref fi, .ref go, .ref sp, .ref ss])), (mk, .inr (6, [.ref mm, .ref mr])), (mm, .inr (0, [.ref mb, .int ms])), (mb, .inl (G.2.1, 14006, .inl mf)), (rd, .inr (7, [.ref rr])), (ss, .inr (3, [.ref wn, .ref wz, .ref wb, .ref wg, .int wc])), (wn, .inl (G.2.1, 384, .inl wfn)), (wz, .inl (G.2.2.1, 16, .inl wfz)), (wb, .inl (G.2.1, 12000, .inl wfb)), (wg, .inl (G.2.2.1, 17, .inl wfg)), (xe, .inr (5, [.ref ex, .ref et, .ref ea, .ref eb, .ref ec, .ref ed, .ref ef, .ref er, .int at_, .int en, .int fl])), (ex, .inr (0, [.ref ey, .int xs])), (ey, .inl (G.2.1, 4000, .inl xf)), (et, .inl (G.2.2.1, 316, .inl tf)), (ea, .inr (1, [.ref ea1, .ref ea2, .int eas])), (ea1, .inl (G.2.2.1, 16, .inl eac)), (ea2, .inl (G.2.2.1, 288, .inl eay)), (eb, .inr (1, [.ref eb1, .ref eb2, .int ebs])), (eb1, .inl (G.2.2.1, 16, .inl ebc)), (eb2, .inl (G.2.2.1, 32, .inl eby)), (ef, .inr (1, [.ref ef1, .ref ef2, .int efs])), (ef1, .inl (G.2.2.1, 16, .inl efc)), (ef2, .inl (G.2.2.1, 19, .inl efy)), (ec, .inr (1, [.ref ec1, .ref ec2, .int ecs])), (ec1, .inl (G.2.2.1, 16, .inl ecc)), (ec2, .inl (G.2.2.1, 286, .inl ecy)), (ed, .inr (1, [.ref ed1, .ref ed2, .int eds])), (ed1, .inl (G.2.2.1, 16, .inl edc)), (ed2, .inl (G.2.2.1, 30, .inl edy))]) ?_
  have zl0 : (0 : Int32).toInt = 0 := by decide
  have zl1 : (1 : Int32).toInt = 1 := by decide
  refine pb_aload_n (pc := 0) d_Book_reread_0 0 rfl rfl ?_
  refine pb_get (pc := 1) d_Book_reread_1 0 4 rfl rfl (by decide) in_Book k_421 rfl ?_
  refine pb_getN (pc := 4) d_Book_reread_4 1 0 rfl rfl (by decide) in_FileMaker k_293 rfl ?_
  refine pb_astore_n (pc := 7) (lo' := [(3, .ref mm), (0, .ref h), (1, .int i), (2, .int x)]) d_Book_reread_7 rfl (by decide) rfl ?_
  refine pb_iload_n (pc := 8) d_Book_reread_8 2 rfl rfl ?_
  refine pb_if_lt (pc := 9) (tgt := 20) d_Book_reread_9 (by decide) (fun wx1 => ?_) (fun wx1 => ?_)
  · have twx1 : i.toInt < 0 := (ti_lt rfl (by decide)).mp wx1
    exact pb_throwS (pc := 20) (cls := "java/lang/IndexOutOfBoundsException") (text := "no such byte") (names := ["java/lang/RuntimeException", "java/lang/Exception"]) hQ d_Book_reread_20 d_Book_reread_23 d_Book_reread_24 d_Book_reread_26 d_Book_reread_29 (by decide +kernel) (by decide +kernel) tx_Book_143_147 (by decide +kernel) (by decide) (Nat.le_of_ble_eq_true rfl) (by decide) (by decide) () (Or.inl ⟨rfl, (by (try dsimp only); first | done | (with_reducible assumption) | omega (splitDisjunctions := false) | assumption | omega | decide)⟩) [0, 1, 2, 3, 4, 5, 6, 7, 8, 9, 10, 11, 12, 13, 14, 15, 16, 17, 18, 19, 20, 21, 22, 23, 24, 25, 26, 27, 28] (by decide) rfl rfl
  · have twx1 : ¬ i.toInt < 0 := fun z9 => wx1 ((ti_lt rfl (by decide)).mpr z9)
    refine pb_iload_n (pc := 12) d_Book_reread_12 2 rfl rfl ?_
    refine pb_aload_n (pc := 13) d_Book_reread_13 0 rfl rfl ?_
    refine pb_getN (pc := 14) d_Book_reread_14 2 1 rfl rfl (by decide) in_Row k_165 rfl ?_
    refine pb_icmp_lt (pc := 17) (tgt := 30) d_Book_reread_17 (by decide) (fun wx2 => ?_) (fun wx2 => ?_)
    · have twx2 : i.toInt < ms.toInt := (ti_lt rfl rfl).mp wx2
      refine pb_iload_n (pc := 30) d_Book_reread_30 3 rfl rfl ?_
      refine pb_if_lt (pc := 31) (tgt := 41) d_Book_reread_31 (by decide) (fun wx3 => ?_) (fun wx3 => ?_)
      · have twx3 : x.toInt < 0 := (ti_lt rfl (by decide)).mp wx3
        exact pb_throwS (pc := 41) (cls := "java/lang/IllegalArgumentException") (text := "a byte is changed by 0 to 255") (names := ["java/lang/RuntimeException", "java/lang/Exception"]) hQ d_Book_reread_41 d_Book_reread_44 d_Book_reread_45 d_Book_reread_47 d_Book_reread_50 (by decide +kernel) (by decide +kernel) tx_Book_77_81 (by decide +kernel) (by decide) (Nat.le_of_ble_eq_true rfl) (by decide) (by decide) () (Or.inr (⟨rfl, (by (try dsimp only); first | done | (with_reducible assumption) | omega (splitDisjunctions := false) | assumption | omega | decide), (by (try dsimp only); first | done | (with_reducible assumption) | omega (splitDisjunctions := false) | assumption | omega | decide)⟩)) [0, 1, 2, 3, 4, 5, 6, 7, 8, 9, 10, 11, 12, 13, 14, 15, 16, 17, 18, 19, 20, 21, 22, 23, 24, 25, 26, 27, 28] (by decide) rfl rfl
      · have twx3 : ¬ x.toInt < 0 := fun z9 => wx3 ((ti_lt rfl (by decide)).mpr z9)
        refine pb_iload_n (pc := 34) d_Book_reread_34 3 rfl rfl ?_
        refine pb_sipush (pc := 35) (v := 255) d_Book_reread_35 (by decide) ?_
        refine pb_icmp_le (pc := 38) (tgt := 51) d_Book_reread_38 (by decide) (fun wx4 => ?_) (fun wx4 => ?_)
        · have twx4 : x.toInt ≤ 255 := (ti_le rfl (by decide)).mp wx4
          refine pb_aload_n (pc := 51) d_Book_reread_51 0 rfl rfl ?_
          refine pb_getN (pc := 52) d_Book_reread_52 2 0 rfl rfl (by decide) in_Row k_157 rfl ?_
          refine pb_iload_n (pc := 55) d_Book_reread_55 2 rfl rfl ?_
          refine pb_dup2_11 (pc := 56) d_Book_reread_56 rfl rfl ?_
          refine pb_bald (pc := 57) d_Book_reread_57 3 rfl (vp_in_iff.mpr (by omega)) ?_
          refine pb_topi (fun ix5 eix5 => ?_)
          have xix5 : ix5 = gr mf (i.toInt) := gr_ld eix5 (by omega)
          have yix5 : ix5.toInt = gx mf (i.toInt) := congrArg Int32.toInt xix5
          have tix5 : -128 ≤ ix5.toInt ∧ ix5.toInt ≤ 127 := ti_fit (F_mf _) eix5
          have xj := xix5
          refine pb_iload_n (pc := 58) d_Book_reread_58 3 rfl rfl ?_
          refine pb_i2b (pc := 59) d_Book_reread_59 rfl ?_
          refine pb_topi (fun ix6 eix6 => ?_)
          have tix6 : -128 ≤ ix6.toInt ∧ ix6.toInt ≤ 127 := ti_i2b eix6
          have xy := eix6
          refine pb_ixor (pc := 60) d_Book_reread_60 ?_
          refine pb_topi (fun ix7 eix7 => ?_)
          have xu := eix7
          refine pb_i2b (pc := 61) d_Book_reread_61 rfl ?_
          refine pb_topi (fun ix8 eix8 => ?_)
          have tix8 : -128 ≤ ix8.toInt ∧ ix8.toInt ≤ 127 := ti_i2b eix8
          have xv := eix8
          refine pb_bast (pc := 62) (ws' := [(h, .inr (9, [.ref ta, .ref ca, .ref ps, .ref xe, .ref mk, .ref rd, .ref mu, .ref fi, .ref go, .ref sp, .ref ss])), (mk, .inr (6, [.ref mm, .ref mr])), (mm, .inr (0, [.ref mb, .int ms])), (mb, .inl (G.2.1, 14006, .inl (upd mf ((i : Int32).toNatClampNeg) (vp_nar .byte ix8)))), (rd, .inr (7, [.ref rr])), (ss, .inr (3, [.ref wn, .ref wz, .ref wb, .ref wg, .int wc])), (wn, .inl (G.2.1, 384, .inl wfn)), (wz, .inl (G.2.2.1, 16, .inl wfz)), (wb, .inl (G.2.1, 12000, .inl wfb)), (wg, .inl (G.2.2.1, 17, .inl wfg)), (xe, .inr (5, [.ref ex, .ref et, .ref ea, .ref eb, .ref ec, .ref ed, .ref ef, .ref er, .int at_, .int en, .int fl])), (ex, .inr (0, [.ref ey, .int xs])), (ey, .inl (G.2.1, 4000, .inl xf)), (et, .inl (G.2.2.1, 316, .inl tf)), (ea, .inr (1, [.ref ea1, .ref ea2, .int eas])), (ea1, .inl (G.2.2.1, 16, .inl eac)), (ea2, .inl (G.2.2.1, 288, .inl eay)), (eb, .inr (1, [.ref eb1, .ref eb2, .int ebs])), (eb1, .inl (G.2.2.1, 16, .inl ebc)), (eb2, .inl (G.2.2.1, 32, .inl eby)), (ef, .inr (1, [.ref ef1, .ref ef2, .int efs])), (ef1, .inl (G.2.2.1, 16, .inl efc)), (ef2, .inl (G.2.2.1, 19, .inl efy)), (ec, .inr (1, [.ref ec1, .ref ec2, .int ecs])), (ec1, .inl (G.2.2.1, 16, .inl ecc)), (ec2, .inl (G.2.2.1, 286, .inl ecy)), (ed, .inr (1, [.ref ed1, .ref ed2, .int eds])), (ed1, .inl (G.2.2.1, 16, .inl edc)), (ed2, .inl (G.2.2.1, 30, .inl edy))]) d_Book_reread_62 3 rfl (vp_in_iff.mpr (by omega)) rfl ?_
          refine pb_aload_n (pc := 63) d_Book_reread_63 1 rfl rfl ?_
          refine pb_get (pc := 64) d_Book_reread_64 0 5 rfl rfl (by decide) in_Book k_422 rfl ?_
          refine pb_aload_n (pc := 67) d_Book_reread_67 0 rfl rfl ?_
          refine pb_getN (pc := 68) d_Book_reread_68 2 0 rfl rfl (by decide) in_Row k_157 rfl ?_
          refine pb_aload_n (pc := 71) d_Book_reread_71 0 rfl rfl ?_
          refine pb_getN (pc := 72) d_Book_reread_72 2 1 rfl rfl (by decide) in_Row k_165 rfl ?_
          refine pb_aload_n (pc := 75) d_Book_reread_75 1 rfl rfl ?_
          refine pb_get (pc := 76) d_Book_reread_76 0 10 rfl rfl (by decide) in_Book k_427 rfl ?_
          refine pb_aload_n (pc := 79) d_Book_reread_79 1 rfl rfl ?_
          refine pb_get (pc := 80) d_Book_reread_80 0 3 rfl rfl (by decide) in_Book k_420 rfl ?_
          refine pb_callV (pc := 83) (I := i_Book_reread) (qb := 4) (ci := 7) (nA := 4) (rest := []) (wr := [(h, .inr (9, [.ref ta, .ref ca, .ref ps, .ref xe, .ref mk, .ref rd, .ref mu, .ref fi, .ref go, .ref sp, .ref ss])), (mk, .inr (6, [.ref mm, .ref mr])), (mm, .inr (0, [.ref mb, .int ms]))]) d_Book_reread_83 (g_Rd_run hl G rd mb 14006 rr (upd mf ((i : Int32).toNatClampNeg) (vp_nar .byte ix8)) ss wn wz wb wg wc wfn wfz wfb wfg xe ex et ea eb ec ed ef er at_ en fl ey xf xs tf ea1 ea2 eas eac eay eb1 eb2 ebs ebc eby ef1 ef2 efs efc efy ec1 ec2 ecs ecc ecy ed1 ed2 eds edc edy ms (xr_ (gr mf) i.toInt x) ms.toInt (by first | assumption | decide | omega) (by first | (with_reducible assumption) | omega (splitDisjunctions := false) | assumption | omega | decide) (by first | assumption | decide | omega) (by first | (with_reducible assumption) | omega (splitDisjunctions := false) | assumption | omega | decide) (by first | (with_reducible assumption) | omega (splitDisjunctions := false) | assumption | omega | decide) (by first | (with_reducible assumption) | omega (splitDisjunctions := false) | assumption | omega | decide) (by first | assumption | decide | omega) (by first | (with_reducible assumption) | omega (splitDisjunctions := false) | assumption | omega | decide) (by first | assumption | decide | omega) (by first | (with_reducible assumption) | omega (splitDisjunctions := false) | assumption | omega | decide) (by first | assumption | decide | omega) (by first | (with_reducible assumption) | omega (splitDisjunctions := false) | assumption | omega | decide) (by first | (with_reducible assumption) | omega (splitDisjunctions := false) | assumption | omega | decide) (by first | (with_reducible assumption) | omega (splitDisjunctions := false) | assumption | omega | decide) (by first | (with_reducible assumption) | omega (splitDisjunctions := false) | assumption | omega | decide) (by first | (with_reducible assumption) | omega (splitDisjunctions := false) | assumption | omega | decide) (by first | (with_reducible assumption) | omega (splitDisjunctions := false) | assumption | omega | decide) (fun j h0 _ => (xr_C h0 rfl (by omega) xj xy xu xv).symm) (by first | (with_reducible assumption) | omega (splitDisjunctions := false) | assumption | omega | decide) (sb_fitU F_mf (fit_nar _)) F_wfn F_wfb F_xf) rfl rfl [4, 3, 5, 6, 7, 8, 9, 10, 11, 12, 13, 14, 15, 16, 17, 18, 19, 20, 21, 22, 23, 24, 25, 26, 27, 28] [0, 1, 2] (by decide) rfl rfl rfl (by decide) (by decide) k_583 rfl k_124 k_580 k_581 k_582 ⟨rfl, hy_FileReader_run⟩ (by decide) rfl rfl (Nat.le_of_ble_eq_true rfl) (by decide) (fun v9 ux10 ch9 => ?_)
          obtain ⟨r_11, c_12, fn_13, fz_14, fb_15, fg_16, er_17, at_18, en_19, fl_20, s2__21, xf_22, tf_23, efs_24, efc_25, efy_26, ecs_27, ecc_28, ecy_29, eds_30, edc_31, edy_32⟩ := ux10
          obtain ⟨ech9, ch9⟩ := ch9
          have ech9 : v9 = some (.int r_11) := ech9
          subst ech9
          obtain ⟨fh33, fh34, fh35, fh36, fh37, fh38, fh39, fh40, fh41, fh42, fh43, fh44, fh45⟩ : (sh_I c_12.toInt fz_14 fg_16) ∧ (0 ≤ s2__21.toInt) ∧ (s2__21.toInt ≤ 4000) ∧ (co_I efs_24.toInt efc_25 efy_26 19) ∧ (efs_24.toInt ≤ 19) ∧ (co_I ecs_27.toInt ecc_28 ecy_29 288) ∧ (ecs_27.toInt ≤ 286) ∧ (co_I eds_30.toInt edc_31 edy_32 32) ∧ (eds_30.toInt ≤ 30) ∧ (hid_ (∃ W : VW_, rd_ (xr_ (gr mf) i.toInt x) ms.toInt r_11.toInt W ∧ (r_11.toInt = 0 → rC_ c_12.toInt fn_13 fz_14 fb_15 fg_16 W))) ∧ (sb_Fit fn_13) ∧ (sb_Fit fb_15) ∧ (sb_Fit xf_22) := ch9
          have ruF := fh42
          refine pb_eq (pc' := 86) (lo' := [(3, .ref mm), (0, .ref h), (1, .int i), (2, .int x)]) (rest' := [.int r_11]) (ws' := [(h, .inr (9, [.ref ta, .ref ca, .ref ps, .ref xe, .ref mk, .ref rd, .ref mu, .ref fi, .ref go, .ref sp, .ref ss])), (mk, .inr (6, [.ref mm, .ref mr])), (mm, .inr (0, [.ref mb, .int ms])), (rd, .inr (7, [.ref mb])), (mb, .inl (G.2.1, 14006, .inl (upd mf ((i : Int32).toNatClampNeg) (vp_nar .byte ix8)))), (ss, .inr (3, [.ref wn, .ref wz, .ref wb, .ref wg, .int c_12])), (wn, .inl (G.2.1, 384, .inl fn_13)), (wz, .inl (G.2.2.1, 16, .inl fz_14)), (wb, .inl (G.2.1, 12000, .inl fb_15)), (wg, .inl (G.2.2.1, 17, .inl fg_16)), (xe, .inr (5, [.ref ex, .ref et, .ref ea, .ref eb, .ref ec, .ref ed, .ref ef, .ref er_17, .int at_18, .int en_19, .int fl_20])), (ex, .inr (0, [.ref ey, .int s2__21])), (ey, .inl (G.2.1, 4000, .inl xf_22)), (et, .inl (G.2.2.1, 316, .inl tf_23)), (ea, .inr (1, [.ref ea1, .ref ea2, .int eas])), (ea1, .inl (G.2.2.1, 16, .inl eac)), (ea2, .inl (G.2.2.1, 288, .inl eay)), (eb, .inr (1, [.ref eb1, .ref eb2, .int ebs])), (eb1, .inl (G.2.2.1, 16, .inl ebc)), (eb2, .inl (G.2.2.1, 32, .inl eby)), (ef, .inr (1, [.ref ef1, .ref ef2, .int efs_24])), (ef1, .inl (G.2.2.1, 16, .inl efc_25)), (ef2, .inl (G.2.2.1, 19, .inl efy_26)), (ec, .inr (1, [.ref ec1, .ref ec2, .int ecs_27])), (ec1, .inl (G.2.2.1, 16, .inl ecc_28)), (ec2, .inl (G.2.2.1, 286, .inl ecy_29)), (ed, .inr (1, [.ref ed1, .ref ed2, .int eds_30])), (ed1, .inl (G.2.2.1, 16, .inl edc_31)), (ed2, .inl (G.2.2.1, 30, .inl edy_32))]) ?_
          refine pb_istore (pc := 86) (lo' := [(4, .int r_11), (3, .ref mm), (0, .ref h), (1, .int i), (2, .int x)]) d_Book_reread_86 (by decide) rfl ?_
          refine pb_aload_n (pc := 88) d_Book_reread_88 1 rfl rfl ?_
          refine pb_getN (pc := 89) d_Book_reread_89 2 0 rfl rfl (by decide) in_Row k_157 rfl ?_
          refine pb_iload_n (pc := 92) d_Book_reread_92 3 rfl rfl ?_
          refine pb_dup2_11 (pc := 93) d_Book_reread_93 rfl rfl ?_
          refine pb_bald (pc := 94) d_Book_reread_94 4 rfl (vp_in_iff.mpr (by omega)) ?_
          refine pb_topi (fun ix46 eix46 => ?_)
          have xix46 : ix46 = gr (upd mf ((i : Int32).toNatClampNeg) (vp_nar .byte ix8)) (i.toInt) := gr_ld eix46 (by omega)
          have yix46 : ix46.toInt = gx (upd mf ((i : Int32).toNatClampNeg) (vp_nar .byte ix8)) (i.toInt) := congrArg Int32.toInt xix46
          have tix46 : -128 ≤ ix46.toInt ∧ ix46.toInt ≤ 127 := ti_fit ((sb_fitU F_mf (fit_nar _)) _) eix46
          have yj := xix46
          refine pb_iload_n (pc := 95) d_Book_reread_95 4 rfl rfl ?_
          refine pb_i2b (pc := 96) d_Book_reread_96 rfl ?_
          refine pb_topi (fun ix47 eix47 => ?_)
          have tix47 : -128 ≤ ix47.toInt ∧ ix47.toInt ≤ 127 := ti_i2b eix47
          have yy := eix47
          refine pb_ixor (pc := 97) d_Book_reread_97 ?_
          refine pb_topi (fun ix48 eix48 => ?_)
          have yu := eix48
          refine pb_i2b (pc := 98) d_Book_reread_98 rfl ?_
          refine pb_topi (fun ix49 eix49 => ?_)
          have tix49 : -128 ≤ ix49.toInt ∧ ix49.toInt ≤ 127 := ti_i2b eix49
          have yv := eix49
          refine pb_bast (pc := 99) (ws' := [(h, .inr (9, [.ref ta, .ref ca, .ref ps, .ref xe, .ref mk, .ref rd, .ref mu, .ref fi, .ref go, .ref sp, .ref ss])), (mk, .inr (6, [.ref mm, .ref mr])), (mm, .inr (0, [.ref mb, .int ms])), (rd, .inr (7, [.ref mb])), (mb, .inl (G.2.1, 14006, .inl (upd (upd mf ((i : Int32).toNatClampNeg) (vp_nar .byte ix8)) ((i : Int32).toNatClampNeg) (vp_nar .byte ix49)))), (ss, .inr (3, [.ref wn, .ref wz, .ref wb, .ref wg, .int c_12])), (wn, .inl (G.2.1, 384, .inl fn_13)), (wz, .inl (G.2.2.1, 16, .inl fz_14)), (wb, .inl (G.2.1, 12000, .inl fb_15)), (wg, .inl (G.2.2.1, 17, .inl fg_16)), (xe, .inr (5, [.ref ex, .ref et, .ref ea, .ref eb, .ref ec, .ref ed, .ref ef, .ref er_17, .int at_18, .int en_19, .int fl_20])), (ex, .inr (0, [.ref ey, .int s2__21])), (ey, .inl (G.2.1, 4000, .inl xf_22)), (et, .inl (G.2.2.1, 316, .inl tf_23)), (ea, .inr (1, [.ref ea1, .ref ea2, .int eas])), (ea1, .inl (G.2.2.1, 16, .inl eac)), (ea2, .inl (G.2.2.1, 288, .inl eay)), (eb, .inr (1, [.ref eb1, .ref eb2, .int ebs])), (eb1, .inl (G.2.2.1, 16, .inl ebc)), (eb2, .inl (G.2.2.1, 32, .inl eby)), (ef, .inr (1, [.ref ef1, .ref ef2, .int efs_24])), (ef1, .inl (G.2.2.1, 16, .inl efc_25)), (ef2, .inl (G.2.2.1, 19, .inl efy_26)), (ec, .inr (1, [.ref ec1, .ref ec2, .int ecs_27])), (ec1, .inl (G.2.2.1, 16, .inl ecc_28)), (ec2, .inl (G.2.2.1, 286, .inl ecy_29)), (ed, .inr (1, [.ref ed1, .ref ed2, .int eds_30])), (ed1, .inl (G.2.2.1, 16, .inl edc_31)), (ed2, .inl (G.2.2.1, 30, .inl edy_32))]) d_Book_reread_99 4 rfl (vp_in_iff.mpr (by omega)) rfl ?_
          refine pb_aload_n (pc := 100) d_Book_reread_100 2 rfl rfl ?_
          refine pb_iload (pc := 101) d_Book_reread_101 0 rfl ?_
          refine pb_callV (pc := 103) (I := i_Book_reread) (qb := 0) (ci := 9) (nA := 1) (rest := []) (wr := [(mk, .inr (6, [.ref mm, .ref mr])), (mm, .inr (0, [.ref mb, .int ms])), (rd, .inr (7, [.ref mb])), (mb, .inl (G.2.1, 14006, .inl (upd (upd mf ((i : Int32).toNatClampNeg) (vp_nar .byte ix8)) ((i : Int32).toNatClampNeg) (vp_nar .byte ix49)))), (ss, .inr (3, [.ref wn, .ref wz, .ref wb, .ref wg, .int c_12])), (wn, .inl (G.2.1, 384, .inl fn_13)), (wz, .inl (G.2.2.1, 16, .inl fz_14)), (wb, .inl (G.2.1, 12000, .inl fb_15)), (wg, .inl (G.2.2.1, 17, .inl fg_16)), (xe, .inr (5, [.ref ex, .ref et, .ref ea, .ref eb, .ref ec, .ref ed, .ref ef, .ref er_17, .int at_18, .int en_19, .int fl_20])), (ex, .inr (0, [.ref ey, .int s2__21])), (ey, .inl (G.2.1, 4000, .inl xf_22)), (et, .inl (G.2.2.1, 316, .inl tf_23)), (ea, .inr (1, [.ref ea1, .ref ea2, .int eas])), (ea1, .inl (G.2.2.1, 16, .inl eac)), (ea2, .inl (G.2.2.1, 288, .inl eay)), (eb, .inr (1, [.ref eb1, .ref eb2, .int ebs])), (eb1, .inl (G.2.2.1, 16, .inl ebc)), (eb2, .inl (G.2.2.1, 32, .inl eby)), (ef, .inr (1, [.ref ef1, .ref ef2, .int efs_24])), (ef1, .inl (G.2.2.1, 16, .inl efc_25)), (ef2, .inl (G.2.2.1, 19, .inl efy_26)), (ec, .inr (1, [.ref ec1, .ref ec2, .int ecs_27])), (ec1, .inl (G.2.2.1, 16, .inl ecc_28)), (ec2, .inl (G.2.2.1, 286, .inl ecy_29)), (ed, .inr (1, [.ref ed1, .ref ed2, .int eds_30])), (ed1, .inl (G.2.2.1, 16, .inl edc_31)), (ed2, .inl (G.2.2.1, 30, .inl edy_32))]) d_Book_reread_103 (g_Book_settle hl G h ta ca ps xe mk rd mu fi go sp ss r_11) rfl rfl [0] [1, 2, 3, 4, 5, 6, 7, 8, 9, 10, 11, 12, 13, 14, 15, 16, 17, 18, 19, 20, 21, 22, 23, 24, 25, 26, 27, 28] (by decide) rfl rfl rfl (by decide) (by decide) k_712 rfl k_118 k_709 k_711 k_28 ⟨rfl, hy_Book_settle⟩ (by decide) rfl rfl (Nat.le_of_ble_eq_true rfl) (by decide) (fun v9 ux51 ch50 => ?_)
          obtain ⟨p__52, s__53⟩ := ux51
          obtain ⟨ech50, ch50⟩ := ch50
          have ech50 : v9 = some (.int r_11) := ech50
          subst ech50
          obtain ⟨fh54, fh55⟩ : ((sp = p__52 ∧ ss = s__53) ∨ (ss = p__52 ∧ sp = s__53)) ∧ ((r_11.toInt = 0 ∧ ss = p__52 ∧ sp = s__53) ∨ (¬ r_11.toInt = 0 ∧ sp = p__52 ∧ ss = s__53)) := ch50
          have swF := fh55
          refine pb_eq (pc' := 106) (lo' := [(4, .int r_11), (3, .ref mm), (0, .ref h), (1, .int i), (2, .int x)]) (rest' := [.int r_11]) (ws' := [(mk, .inr (6, [.ref mm, .ref mr])), (mm, .inr (0, [.ref mb, .int ms])), (rd, .inr (7, [.ref mb])), (mb, .inl (G.2.1, 14006, .inl (upd (upd mf ((i : Int32).toNatClampNeg) (vp_nar .byte ix8)) ((i : Int32).toNatClampNeg) (vp_nar .byte ix49)))), (ss, .inr (3, [.ref wn, .ref wz, .ref wb, .ref wg, .int c_12])), (wn, .inl (G.2.1, 384, .inl fn_13)), (wz, .inl (G.2.2.1, 16, .inl fz_14)), (wb, .inl (G.2.1, 12000, .inl fb_15)), (wg, .inl (G.2.2.1, 17, .inl fg_16)), (xe, .inr (5, [.ref ex, .ref et, .ref ea, .ref eb, .ref ec, .ref ed, .ref ef, .ref er_17, .int at_18, .int en_19, .int fl_20])), (ex, .inr (0, [.ref ey, .int s2__21])), (ey, .inl (G.2.1, 4000, .inl xf_22)), (et, .inl (G.2.2.1, 316, .inl tf_23)), (ea, .inr (1, [.ref ea1, .ref ea2, .int eas])), (ea1, .inl (G.2.2.1, 16, .inl eac)), (ea2, .inl (G.2.2.1, 288, .inl eay)), (eb, .inr (1, [.ref eb1, .ref eb2, .int ebs])), (eb1, .inl (G.2.2.1, 16, .inl ebc)), (eb2, .inl (G.2.2.1, 32, .inl eby)), (ef, .inr (1, [.ref ef1, .ref ef2, .int efs_24])), (ef1, .inl (G.2.2.1, 16, .inl efc_25)), (ef2, .inl (G.2.2.1, 19, .inl efy_26)), (ec, .inr (1, [.ref ec1, .ref ec2, .int ecs_27])), (ec1, .inl (G.2.2.1, 16, .inl ecc_28)), (ec2, .inl (G.2.2.1, 286, .inl ecy_29)), (ed, .inr (1, [.ref ed1, .ref ed2, .int eds_30])), (ed1, .inl (G.2.2.1, 16, .inl edc_31)), (ed2, .inl (G.2.2.1, 30, .inl edy_32)), (h, .inr (9, [.ref ta, .ref ca, .ref ps, .ref xe, .ref mk, .ref rd, .ref mu, .ref fi, .ref go, .ref p__52, .ref s__53]))]) ?_
          exact pb_iretx (pc := 106) hQ d_Book_reread_106 rfl rfl (r_11, p__52, s__53, mb, (upd (upd mf ((i : Int32).toNatClampNeg) (vp_nar .byte ix8)) ((i : Int32).toNatClampNeg) (vp_nar .byte ix49)), c_12, fn_13, fz_14, fb_15, fg_16, er_17, at_18, en_19, fl_20, s2__21, xf_22, tf_23, efs_24, efc_25, efy_26, ecs_27, ecc_28, ecy_29, eds_30, edc_31, edy_32) ⟨rfl, (by (try dsimp only); first | done | (with_reducible assumption) | omega (splitDisjunctions := false) | assumption | omega | decide), (by (try dsimp only); first | done | assumption | decide | omega), (by (try dsimp only); first | done | (with_reducible assumption) | omega (splitDisjunctions := false) | assumption | omega | decide), (by (try dsimp only); first | done | (with_reducible assumption) | omega (splitDisjunctions := false) | assumption | omega | decide), (by (try dsimp only); first | done | assumption | decide | omega), (by (try dsimp only); first | done | (with_reducible assumption) | omega (splitDisjunctions := false) | assumption | omega | decide), (by (try dsimp only); first | done | assumption | decide | omega), (by (try dsimp only); first | done | (with_reducible assumption) | omega (splitDisjunctions := false) | assumption | omega | decide), (by (try dsimp only); first | done | assumption | decide | omega), (by (try dsimp only); first | done | (with_reducible assumption) | omega (splitDisjunctions := false) | assumption | omega | decide), swF, (by (try dsimp only); first | done | (with_reducible assumption) | omega (splitDisjunctions := false) | assumption | omega | decide), (by (try dsimp only); first | done | (with_reducible assumption) | omega (splitDisjunctions := false) | assumption | omega | decide), (show ∀ j : Int, 0 ≤ j → gr (upd (upd mf ((i : Int32).toNatClampNeg) (vp_nar .byte ix8)) ((i : Int32).toNatClampNeg) (vp_nar .byte ix49)) j = gr mf j from (xr_R (fun j => ti_fit (F_mf _) rfl) rfl (by omega) xj xy xu xv yj yy yu yv)), ruF, (sb_fitU (sb_fitU F_mf (fit_nar _)) (fit_nar _)), fh43, fh44, fh45⟩ [28, 0, 1, 3, 2, 4, 5, 6, 7, 8, 9, 10, 11, 12, 13, 14, 15, 16, 17, 18, 19, 20, 21, 22, 23, 24, 25, 26, 27] (by decide) rfl rfl (by decide) (by decide)
        · have twx4 : ¬ x.toInt ≤ 255 := fun z9 => wx4 ((ti_le rfl (by decide)).mpr z9)
          exact pb_throwS (pc := 41) (cls := "java/lang/IllegalArgumentException") (text := "a byte is changed by 0 to 255") (names := ["java/lang/RuntimeException", "java/lang/Exception"]) hQ d_Book_reread_41 d_Book_reread_44 d_Book_reread_45 d_Book_reread_47 d_Book_reread_50 (by decide +kernel) (by decide +kernel) tx_Book_77_81 (by decide +kernel) (by decide) (Nat.le_of_ble_eq_true rfl) (by decide) (by decide) () (Or.inr (⟨rfl, (by (try dsimp only); first | done | (with_reducible assumption) | omega (splitDisjunctions := false) | assumption | omega | decide), (by (try dsimp only); first | done | (with_reducible assumption) | omega (splitDisjunctions := false) | assumption | omega | decide)⟩)) [0, 1, 2, 3, 4, 5, 6, 7, 8, 9, 10, 11, 12, 13, 14, 15, 16, 17, 18, 19, 20, 21, 22, 23, 24, 25, 26, 27, 28] (by decide) rfl rfl
    · have twx2 : ¬ i.toInt < ms.toInt := fun z9 => wx2 ((ti_lt rfl rfl).mpr z9)
      exact pb_throwS (pc := 20) (cls := "java/lang/IndexOutOfBoundsException") (text := "no such byte") (names := ["java/lang/RuntimeException", "java/lang/Exception"]) hQ d_Book_reread_20 d_Book_reread_23 d_Book_reread_24 d_Book_reread_26 d_Book_reread_29 (by decide +kernel) (by decide +kernel) tx_Book_143_147 (by decide +kernel) (by decide) (Nat.le_of_ble_eq_true rfl) (by decide) (by decide) () (Or.inl ⟨rfl, (by (try dsimp only); first | done | (with_reducible assumption) | omega (splitDisjunctions := false) | assumption | omega | decide)⟩) [0, 1, 2, 3, 4, 5, 6, 7, 8, 9, 10, 11, 12, 13, 14, 15, 16, 17, 18, 19, 20, 21, 22, 23, 24, 25, 26, 27, 28] (by decide) rfl rfl
