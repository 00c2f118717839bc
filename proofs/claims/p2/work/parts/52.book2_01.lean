theorem d_Book_noteUnreached_0 : decode prog_1_method_23_code 0 = .ok (.aload_n 0, 1) := by decide +kernel
theorem d_Book_noteUnreached_1 : decode prog_1_method_23_code 1 = .ok (.invokevirtual 253, 3) := by decide +kernel
theorem k_922 : (Jvm.Cond.methodLink "PackageBook" (253 : Nat) ({ cls := "PackageBook", name := "reachedFromRoot", desc := "()I" } : Jvm.MethodName)) ∈ uW := uW_of 922 (by decide +kernel) (by decide +kernel)
theorem k_925 : (Jvm.Cond.code ({ cls := "PackageBook", name := "reachedFromRoot", desc := "()I" } : Jvm.MethodName) prog_1_method_24_code (4 : Nat) (Option.some Jvm.ClassFile.FieldType.int)) ∈ uW := uW_of 925 (by decide +kernel) (by decide +kernel)
theorem k_924 : (Jvm.Cond.instanceMethod ({ cls := "PackageBook", name := "reachedFromRoot", desc := "()I" } : Jvm.MethodName)) ∈ uW := uW_of 924 (by decide +kernel) (by decide +kernel)
theorem k_51 : Cond.selects "PackageBook" ⟨"PackageBook", "reachedFromRoot", "()I"⟩ ⟨"PackageBook", "reachedFromRoot", "()I"⟩ ∈ uW := uW_of 51 (by decide +kernel) (by decide +kernel)
theorem d_Book_noteUnreached_4 : decode prog_1_method_23_code 4 = .ok (.istore_n 1, 1) := by decide +kernel
theorem d_Book_noteUnreached_5 : decode prog_1_method_23_code 5 = .ok (.iconst 0, 1) := by decide +kernel
theorem d_Book_noteUnreached_6 : decode prog_1_method_23_code 6 = .ok (.istore_n 2, 1) := by decide +kernel
theorem d_Book_noteUnreached_7 : decode prog_1_method_23_code 7 = .ok (.iload_n 2, 1) := by decide +kernel
theorem d_Book_noteUnreached_8 : decode prog_1_method_23_code 8 = .ok (.aload_n 0, 1) := by decide +kernel
theorem d_Book_noteUnreached_9 : decode prog_1_method_23_code 9 = .ok (.getfield 70, 3) := by decide +kernel
theorem d_Book_noteUnreached_12 : decode prog_1_method_23_code 12 = .ok (.getfield 133, 3) := by decide +kernel
theorem d_Book_noteUnreached_15 : decode prog_1_method_23_code 15 = .ok (.if_icmp .ge 38, 3) := by decide +kernel
theorem d_Book_noteUnreached_53 : decode prog_1_method_23_code 53 = .ok (.return_, 1) := by decide +kernel
theorem d_Book_noteUnreached_18 : decode prog_1_method_23_code 18 = .ok (.iload_n 1, 1) := by decide +kernel
theorem d_Book_noteUnreached_19 : decode prog_1_method_23_code 19 = .ok (.iload_n 2, 1) := by decide +kernel
theorem d_Book_noteUnreached_20 : decode prog_1_method_23_code 20 = .ok (.ishr, 1) := by decide +kernel
theorem d_Book_noteUnreached_21 : decode prog_1_method_23_code 21 = .ok (.iconst 1, 1) := by decide +kernel
theorem d_Book_noteUnreached_22 : decode prog_1_method_23_code 22 = .ok (.iand, 1) := by decide +kernel
theorem d_Book_noteUnreached_23 : decode prog_1_method_23_code 23 = .ok (.ifCond .ne 24, 3) := by decide +kernel
theorem d_Book_noteUnreached_47 : decode prog_1_method_23_code 47 = .ok (.iinc 2 1, 3) := by decide +kernel
theorem d_Book_noteUnreached_50 : decode prog_1_method_23_code 50 = .ok (.goto (-43), 3) := by decide +kernel
theorem d_Book_noteUnreached_26 : decode prog_1_method_23_code 26 = .ok (.aload_n 0, 1) := by decide +kernel
theorem d_Book_noteUnreached_27 : decode prog_1_method_23_code 27 = .ok (.getfield 70, 3) := by decide +kernel
theorem d_Book_noteUnreached_30 : decode prog_1_method_23_code 30 = .ok (.iload_n 2, 1) := by decide +kernel
theorem d_Book_noteUnreached_31 : decode prog_1_method_23_code 31 = .ok (.invokevirtual 206, 3) := by decide +kernel
theorem k_732 : (Jvm.Cond.methodLink "PackageBook" (206 : Nat) ({ cls := "PackageBook$Shelf", name := "isTeller", desc := "(I)Z" } : Jvm.MethodName)) ∈ uW := uW_of 732 (by decide +kernel) (by decide +kernel)
theorem k_735 : (Jvm.Cond.code ({ cls := "PackageBook$Shelf", name := "isTeller", desc := "(I)Z" } : Jvm.MethodName) prog_10_method_14_code (2 : Nat) (Option.some Jvm.ClassFile.FieldType.boolean)) ∈ uW := uW_of 735 (by decide +kernel) (by decide +kernel)
theorem k_733 : (Jvm.Cond.instanceMethod ({ cls := "PackageBook$Shelf", name := "isTeller", desc := "(I)Z" } : Jvm.MethodName)) ∈ uW := uW_of 733 (by decide +kernel) (by decide +kernel)
theorem k_734 : (Jvm.Cond.selects "PackageBook$Shelf" ({ cls := "PackageBook$Shelf", name := "isTeller", desc := "(I)Z" } : Jvm.MethodName) ({ cls := "PackageBook$Shelf", name := "isTeller", desc := "(I)Z" } : Jvm.MethodName)) ∈ uW := uW_of 734 (by decide +kernel) (by decide +kernel)
theorem d_Book_noteUnreached_34 : decode prog_1_method_23_code 34 = .ok (.ifCond .ne 13, 3) := by decide +kernel
theorem d_Book_noteUnreached_37 : decode prog_1_method_23_code 37 = .ok (.aload_n 0, 1) := by decide +kernel
theorem d_Book_noteUnreached_38 : decode prog_1_method_23_code 38 = .ok (.getfield 59, 3) := by decide +kernel
theorem d_Book_noteUnreached_41 : decode prog_1_method_23_code 41 = .ok (.iconst 4, 1) := by decide +kernel
theorem d_Book_noteUnreached_42 : decode prog_1_method_23_code 42 = .ok (.iload_n 2, 1) := by decide +kernel
theorem d_Book_noteUnreached_43 : decode prog_1_method_23_code 43 = .ok (.iconst 0, 1) := by decide +kernel
theorem d_Book_noteUnreached_44 : decode prog_1_method_23_code 44 = .ok (.invokevirtual 246, 3) := by decide +kernel
abbrev y_Book_noteUnreached : MethodName := ⟨"PackageBook", "noteUnreached", "()V"⟩
abbrev i_Book_noteUnreached : pb_I := (y_Book_noteUnreached, prog_1_method_23_code, 3, (Option.none : Option Jvm.ClassFile.FieldType), [], { frames := 7, cells := 0, slots := 0, locals := 154 })
set_option maxRecDepth 100000 in
set_option maxHeartbeats 4000000 in
theorem g_Book_noteUnreached {l : Launch} (hl : l.stackTraces = false) (G : pb_G) (h : Nat) (ta : Nat) (ca : Nat) (ps : Nat) (xe : Nat) (mk : Nat) (rd : Nat) (mu : Nat) (fi : Nat) (go : Nat) (sp : Nat) (ss : Nat) (tn : Nat) (tz : Nat) (tb : Nat) (tg : Nat) (c : Int32) (tfn : Nat → Int32) (tfz : Nat → Int32) (tfb : Nat → Int32) (tfg : Nat → Int32) (gof : Nat → Int32) (fk : Nat) (fo : Nat) (fp : Nat) (fn : Int32) (ff1 : Nat → Int32) (ff2 : Nat → Int32) (ff3 : Nat → Int32) (I : sh_I c.toInt tfz tfg) (n0 : 0 ≤ fn.toInt) (n1 : fn.toInt ≤ 1232) (F_tfn : sb_Fit tfn) : Cn l G i_Book_noteUnreached [.ref h] [(h, .inr (9, [.ref ta, .ref ca, .ref ps, .ref xe, .ref mk, .ref rd, .ref mu, .ref fi, .ref go, .ref sp, .ref ss])), (sp, .inr (3, [.ref tn, .ref tz, .ref tb, .ref tg, .int c])), (tn, .inl (G.2.1, 384, .inl tfn)), (tz, .inl (G.2.2.1, 16, .inl tfz)), (go, .inl (G.2.2.1, 16, .inl gof)), (fi, .inr (2, [.ref fk, .ref fo, .ref fp, .int fn])), (fk, .inl (G.2.2.1, 1232, .inl ff1)), (fo, .inl (G.2.2.1, 1232, .inl ff2)), (fp, .inl (G.2.2.1, 1232, .inl ff3))] (S := Int32 × (Nat → Int32) × (Nat → Int32) × (Nat → Int32)) (fun v u => v = none ∧ (0 ≤ u.1.toInt) ∧ (u.1.toInt ≤ 1232)) (fun u => [(h, .inr (9, [.ref ta, .ref ca, .ref ps, .ref xe, .ref mk, .ref rd, .ref mu, .ref fi, .ref go, .ref sp, .ref ss])), (sp, .inr (3, [.ref tn, .ref tz, .ref tb, .ref tg, .int c])), (tn, .inl (G.2.1, 384, .inl tfn)), (tz, .inl (G.2.2.1, 16, .inl tfz)), (go, .inl (G.2.2.1, 16, .inl gof)), (fi, .inr (2, [.ref fk, .ref fo, .ref fp, .int u.1])), (fk, .inl (G.2.2.1, 1232, .inl u.2.1)), (fo, .inl (G.2.2.1, 1232, .inl u.2.2.1)), (fp, .inl (G.2.2.1, 1232, .inl u.2.2.2))]) := by
  refine Cn.of hl (by decide +kernel) rfl (Nat.le_of_ble_eq_true rfl) (fun M hQ => ?_)
  refine pb_eq (pc' := 0) (lo' := [(0, .ref h)]) (rest' := []) (ws' := [(h, .inr (9, [.ref ta, .ref ca, .ref ps, .ref xe, .ref mk, .ref rd, .ref mu, .ref fi, .ref go, .ref sp, .ref ss])), (sp, .inr (3, [.ref tn, .ref tz, .ref tb, .ref tg, .int c])), (tn, .inl (G.2.1, 384, .inl tfn)), (tz, .inl (G.2.2.1, 16, .inl tfz)), (go, .inl (G.2.2.1, 16, .inl gof)), (fi, .inr (2, [.ref fk, .ref fo, .ref fp, .int fn])), (fk, .inl (G.2.2.1, 1232, .inl ff1)), (fo, .inl (G.2.2.1, 1232, .inl ff2)), (fp, .inl (G.2.2.1, 1232, .inl ff3))]) ?_
  have zl0 : (0 : Int32).toInt = 0 := by decide
  have zl1 : (1 : Int32).toInt = 1 := by decide
  have zl4 : (4 : Int32).toInt = 4 := by decide
  have q1 := I.1
  have q2 := I.2.1
  refine pb_aload_n (pc := 0) d_Book_noteUnreached_0 0 rfl rfl ?_
  refine pb_callV (pc := 1) (qb := 0) (ci := 9) (nA := 0) (rest := []) (wr := [(fi, .inr (2, [.ref fk, .ref fo, .ref fp, .int fn])), (fk, .inl (G.2.2.1, 1232, .inl ff1)), (fo, .inl (G.2.2.1, 1232, .inl ff2)), (fp, .inl (G.2.2.1, 1232, .inl ff3))]) d_Book_noteUnreached_1 (g_Book_reachedFromRoot hl G h ta ca ps xe mk rd mu fi go sp ss tn tz tb tg c tfn tfz tfb tfg gof (by first | assumption | decide | omega) F_tfn) rfl rfl [0, 1, 2, 3, 4] [5, 6, 7, 8] (by decide) rfl rfl rfl (by decide) (by decide) k_925 rfl k_118 k_922 k_924 k_51 (by decide +kernel) (by decide) rfl rfl (Nat.le_of_ble_eq_true rfl) (by decide) (fun v9 ux2 ch1 => ?_)
  obtain ⟨r_3, rfl⟩ : ∃ z9, z9 = ux2 := ⟨_, rfl⟩
  have ech1 := ch1
  have ech1 : v9 = some (.int r_3) := ech1
  subst ech1
  refine pb_eq (pc' := 4) (lo' := [(0, .ref h)]) (rest' := [.int r_3]) (ws' := [(fi, .inr (2, [.ref fk, .ref fo, .ref fp, .int fn])), (fk, .inl (G.2.2.1, 1232, .inl ff1)), (fo, .inl (G.2.2.1, 1232, .inl ff2)), (fp, .inl (G.2.2.1, 1232, .inl ff3)), (h, .inr (9, [.ref ta, .ref ca, .ref ps, .ref xe, .ref mk, .ref rd, .ref mu, .ref fi, .ref go, .ref sp, .ref ss])), (sp, .inr (3, [.ref tn, .ref tz, .ref tb, .ref tg, .int c])), (tn, .inl (G.2.1, 384, .inl tfn)), (tz, .inl (G.2.2.1, 16, .inl tfz)), (go, .inl (G.2.2.1, 16, .inl gof))]) ?_
  refine pb_istore_n (pc := 4) (lo' := [(1, .int r_3), (0, .ref h)]) d_Book_noteUnreached_4 rfl (by decide) rfl ?_
  refine pb_iconst (pc := 5) (v := 0) d_Book_noteUnreached_5 (by decide) ?_
  refine pb_istore_n (pc := 6) (lo' := [(2, .int 0), (1, .int r_3), (0, .ref h)]) d_Book_noteUnreached_6 rfl (by decide) rfl ?_
  have hL7_4 : ∀ (N9 : Nat) (rc : Int32) (i : Int32) (n4 : Int32) (a4 : Nat → Int32) (b4 : Nat → Int32) (c4 : Nat → Int32), (0 ≤ i.toInt) → (0 ≤ n4.toInt) → (n4.toInt ≤ 1232) → ((c.toInt - i.toInt).toNat) < N9 → pb_P l G M i_Book_noteUnreached 7 [(1, .int rc), (2, .int i), (0, .ref h)] [] [(h, .inr (9, [.ref ta, .ref ca, .ref ps, .ref xe, .ref mk, .ref rd, .ref mu, .ref fi, .ref go, .ref sp, .ref ss])), (sp, .inr (3, [.ref tn, .ref tz, .ref tb, .ref tg, .int c])), (tn, .inl (G.2.1, 384, .inl tfn)), (tz, .inl (G.2.2.1, 16, .inl tfz)), (go, .inl (G.2.2.1, 16, .inl gof)), (fi, .inr (2, [.ref fk, .ref fo, .ref fp, .int n4])), (fk, .inl (G.2.2.1, 1232, .inl a4)), (fo, .inl (G.2.2.1, 1232, .inl b4)), (fp, .inl (G.2.2.1, 1232, .inl c4))] 0 0 := by
    intro N9
    induction N9 with
    | zero => intro rc i n4 a4 b4 c4 i0 m0 m1 hm9; exact absurd hm9 (Nat.not_lt_zero _)
    | succ N9 ih7 =>
      intro rc i n4 a4 b4 c4 i0 m0 m1 hm9
      refine pb_iload_n (pc := 7) d_Book_noteUnreached_7 1 rfl rfl ?_
      refine pb_aload_n (pc := 8) d_Book_noteUnreached_8 2 rfl rfl ?_
      refine pb_get (pc := 9) d_Book_noteUnreached_9 0 9 rfl rfl (by decide) in_Book k_426 rfl ?_
      refine pb_getN (pc := 12) d_Book_noteUnreached_12 1 4 rfl rfl (by decide) in_Shelf k_405 rfl ?_
      refine pb_icmp_ge (pc := 15) (tgt := 53) d_Book_noteUnreached_15 (by decide) (fun wx5 => ?_) (fun wx5 => ?_)
      · have twx5 : c.toInt ≤ i.toInt := (ti_le rfl rfl).mp wx5
        exact pb_vret (pc := 53) hQ d_Book_noteUnreached_53 rfl (n4, a4, b4, c4) ⟨rfl, (by (try dsimp only); first | omega | assumption | decide), (by (try dsimp only); first | omega | assumption | decide)⟩ [0, 1, 2, 3, 4, 5, 6, 7, 8] (by decide) rfl rfl (by decide) (by decide)
      · have twx5 : ¬ c.toInt ≤ i.toInt := fun z9 => wx5 ((ti_le rfl rfl).mpr z9)
        refine pb_iload_n (pc := 18) d_Book_noteUnreached_18 0 rfl rfl ?_
        refine pb_iload_n (pc := 19) d_Book_noteUnreached_19 1 rfl rfl ?_
        refine pb_ishr (pc := 20) d_Book_noteUnreached_20 ?_
        refine pb_topi (fun ix6 eix6 => ?_)
        refine pb_iconst (pc := 21) (v := 1) d_Book_noteUnreached_21 (by decide) ?_
        refine pb_iand (pc := 22) d_Book_noteUnreached_22 ?_
        refine pb_topi (fun ix7 eix7 => ?_)
        have tix7 : 0 ≤ ix7.toInt ∧ ix7.toInt ≤ 1 := ti_and 1 eix7 (by decide) (by decide)
        refine pb_if_ne (pc := 23) (tgt := 47) d_Book_noteUnreached_23 (by decide) (fun wx8 => ?_) (fun wx8 => ?_)
        · have twx8 : ¬ ix7.toInt = 0 := fun z9 => wx8 ((ti_eq rfl (by decide)).mpr z9)
          refine pb_iincN (pc := 47) (c := 1) d_Book_noteUnreached_47 1 rfl (by decide) (by decide) (fun ix9 eix9 => ?_)
          have tix9 : ix9.toInt = i.toInt + 1 := t2_add eix9 rfl (by decide) (by omega)
          refine pb_eq (pc' := 50) (lo' := [(2, .int ix9), (1, .int rc), (0, .ref h)]) (rest' := []) (ws' := [(h, .inr (9, [.ref ta, .ref ca, .ref ps, .ref xe, .ref mk, .ref rd, .ref mu, .ref fi, .ref go, .ref sp, .ref ss])), (sp, .inr (3, [.ref tn, .ref tz, .ref tb, .ref tg, .int c])), (tn, .inl (G.2.1, 384, .inl tfn)), (tz, .inl (G.2.2.1, 16, .inl tfz)), (go, .inl (G.2.2.1, 16, .inl gof)), (fi, .inr (2, [.ref fk, .ref fo, .ref fp, .int n4])), (fk, .inl (G.2.2.1, 1232, .inl a4)), (fo, .inl (G.2.2.1, 1232, .inl b4)), (fp, .inl (G.2.2.1, 1232, .inl c4))]) ?_
          refine pb_goto (pc := 50) (tgt := 7) d_Book_noteUnreached_50 (by decide) ?_
          refine pb_re (ws' := [(h, .inr (9, [.ref ta, .ref ca, .ref ps, .ref xe, .ref mk, .ref rd, .ref mu, .ref fi, .ref go, .ref sp, .ref ss])), (sp, .inr (3, [.ref tn, .ref tz, .ref tb, .ref tg, .int c])), (tn, .inl (G.2.1, 384, .inl tfn)), (tz, .inl (G.2.2.1, 16, .inl tfz)), (go, .inl (G.2.2.1, 16, .inl gof)), (fi, .inr (2, [.ref fk, .ref fo, .ref fp, .int n4])), (fk, .inl (G.2.2.1, 1232, .inl a4)), (fo, .inl (G.2.2.1, 1232, .inl b4)), (fp, .inl (G.2.2.1, 1232, .inl c4))]) (lo' := [(1, .int rc), (2, .int ix9), (0, .ref h)]) [0, 1, 2, 3, 4, 5, 6, 7, 8] [1, 0, 2] (by decide) rfl rfl rfl ?_
          exact ih7 rc ix9 n4 a4 b4 c4 (by first | omega | assumption | decide) (by first | omega | assumption | decide) (by first | omega | assumption | decide) (by omega)
        · have twx8 : ix7.toInt = 0 := (ti_eq rfl (by decide)).mp wx8
          refine pb_aload_n (pc := 26) d_Book_noteUnreached_26 2 rfl rfl ?_
          refine pb_get (pc := 27) d_Book_noteUnreached_27 0 9 rfl rfl (by decide) in_Book k_426 rfl ?_
          refine pb_iload_n (pc := 30) d_Book_noteUnreached_30 1 rfl rfl ?_
          refine pb_callV (pc := 31) (qb := 1) (ci := 3) (nA := 1) (rest := []) (wr := [(h, .inr (9, [.ref ta, .ref ca, .ref ps, .ref xe, .ref mk, .ref rd, .ref mu, .ref fi, .ref go, .ref sp, .ref ss])), (go, .inl (G.2.2.1, 16, .inl gof)), (fi, .inr (2, [.ref fk, .ref fo, .ref fp, .int n4])), (fk, .inl (G.2.2.1, 1232, .inl a4)), (fo, .inl (G.2.2.1, 1232, .inl b4)), (fp, .inl (G.2.2.1, 1232, .inl c4))]) d_Book_noteUnreached_31 (g_Shelf_isTeller hl G sp tn tz tb tg c tfn tfz tfg i (by first | assumption | decide | omega) (by first | omega | assumption | decide) (by first | omega | assumption | decide) F_tfn) rfl rfl [1, 2, 3] [0, 4, 5, 6, 7, 8] (by decide) rfl rfl rfl (by decide) (by decide) k_735 rfl k_127 k_732 k_733 k_734 (by decide +kernel) (by decide) rfl rfl (Nat.le_of_ble_eq_true rfl) (by decide) (fun v9 ux11 ch10 => ?_)
          obtain ⟨r_12, rfl⟩ : ∃ z9, z9 = ux11 := ⟨_, rfl⟩
          obtain ⟨ech10, ch10⟩ := ch10
          have ech10 : v9 = some (.int r_12) := ech10
          subst ech10
          have fh13 : r_12.toInt = 0 ∨ r_12.toInt = 1 := ch10
          refine pb_eq (pc' := 34) (lo' := [(1, .int rc), (2, .int i), (0, .ref h)]) (rest' := [.int r_12]) (ws' := [(h, .inr (9, [.ref ta, .ref ca, .ref ps, .ref xe, .ref mk, .ref rd, .ref mu, .ref fi, .ref go, .ref sp, .ref ss])), (go, .inl (G.2.2.1, 16, .inl gof)), (fi, .inr (2, [.ref fk, .ref fo, .ref fp, .int n4])), (fk, .inl (G.2.2.1, 1232, .inl a4)), (fo, .inl (G.2.2.1, 1232, .inl b4)), (fp, .inl (G.2.2.1, 1232, .inl c4)), (sp, .inr (3, [.ref tn, .ref tz, .ref tb, .ref tg, .int c])), (tn, .inl (G.2.1, 384, .inl tfn)), (tz, .inl (G.2.2.1, 16, .inl tfz))]) ?_
          refine pb_if_ne (pc := 34) (tgt := 47) d_Book_noteUnreached_34 (by decide) (fun wx14 => ?_) (fun wx14 => ?_)
          · have twx14 : ¬ r_12.toInt = 0 := fun z9 => wx14 ((ti_eq rfl (by decide)).mpr z9)
            refine pb_iincN (pc := 47) (c := 1) d_Book_noteUnreached_47 1 rfl (by decide) (by decide) (fun ix15 eix15 => ?_)
            have tix15 : ix15.toInt = i.toInt + 1 := t2_add eix15 rfl (by decide) (by omega)
            refine pb_eq (pc' := 50) (lo' := [(2, .int ix15), (1, .int rc), (0, .ref h)]) (rest' := []) (ws' := [(h, .inr (9, [.ref ta, .ref ca, .ref ps, .ref xe, .ref mk, .ref rd, .ref mu, .ref fi, .ref go, .ref sp, .ref ss])), (go, .inl (G.2.2.1, 16, .inl gof)), (fi, .inr (2, [.ref fk, .ref fo, .ref fp, .int n4])), (fk, .inl (G.2.2.1, 1232, .inl a4)), (fo, .inl (G.2.2.1, 1232, .inl b4)), (fp, .inl (G.2.2.1, 1232, .inl c4)), (sp, .inr (3, [.ref tn, .ref tz, .ref tb, .ref tg, .int c])), (tn, .inl (G.2.1, 384, .inl tfn)), (tz, .inl (G.2.2.1, 16, .inl tfz))]) ?_
            refine pb_goto (pc := 50) (tgt := 7) d_Book_noteUnreached_50 (by decide) ?_
            refine pb_re (ws' := [(h, .inr (9, [.ref ta, .ref ca, .ref ps, .ref xe, .ref mk, .ref rd, .ref mu, .ref fi, .ref go, .ref sp, .ref ss])), (sp, .inr (3, [.ref tn, .ref tz, .ref tb, .ref tg, .int c])), (tn, .inl (G.2.1, 384, .inl tfn)), (tz, .inl (G.2.2.1, 16, .inl tfz)), (go, .inl (G.2.2.1, 16, .inl gof)), (fi, .inr (2, [.ref fk, .ref fo, .ref fp, .int n4])), (fk, .inl (G.2.2.1, 1232, .inl a4)), (fo, .inl (G.2.2.1, 1232, .inl b4)), (fp, .inl (G.2.2.1, 1232, .inl c4))]) (lo' := [(1, .int rc), (2, .int ix15), (0, .ref h)]) [0, 6, 7, 8, 1, 2, 3, 4, 5] [1, 0, 2] (by decide) rfl rfl rfl ?_
            exact ih7 rc ix15 n4 a4 b4 c4 (by first | omega | assumption | decide) (by first | omega | assumption | decide) (by first | omega | assumption | decide) (by omega)
          · have twx14 : r_12.toInt = 0 := (ti_eq rfl (by decide)).mp wx14
            refine pb_aload_n (pc := 37) d_Book_noteUnreached_37 2 rfl rfl ?_
            refine pb_get (pc := 38) d_Book_noteUnreached_38 0 7 rfl rfl (by decide) in_Book k_424 rfl ?_
            refine pb_iconst (pc := 41) (v := 4) d_Book_noteUnreached_41 (by decide) ?_
            refine pb_iload_n (pc := 42) d_Book_noteUnreached_42 1 rfl rfl ?_
            refine pb_iconst (pc := 43) (v := 0) d_Book_noteUnreached_43 (by decide) ?_
            refine pb_callV (pc := 44) (qb := 2) (ci := 2) (nA := 3) (rest := []) (wr := [(h, .inr (9, [.ref ta, .ref ca, .ref ps, .ref xe, .ref mk, .ref rd, .ref mu, .ref fi, .ref go, .ref sp, .ref ss])), (go, .inl (G.2.2.1, 16, .inl gof)), (sp, .inr (3, [.ref tn, .ref tz, .ref tb, .ref tg, .int c])), (tn, .inl (G.2.1, 384, .inl tfn)), (tz, .inl (G.2.2.1, 16, .inl tfz))]) d_Book_noteUnreached_44 (g_Fi_note hl G fi fk fo fp n4 a4 b4 c4 4 i 0 (by first | omega | assumption | decide) (by first | omega | assumption | decide)) rfl rfl [2, 3, 4, 5] [0, 1, 6, 7, 8] (by decide) rfl rfl rfl (by decide) (by decide) k_913 rfl k_126 k_910 k_911 k_912 (by decide +kernel) (by decide) rfl rfl (Nat.le_of_ble_eq_true rfl) (by decide) (fun v9 ux17 ch16 => ?_)
            obtain ⟨n_18, g_19, g_20, g_21⟩ := ux17
            obtain ⟨ech16, ch16⟩ := ch16
            have ech16 : v9 = none := ech16
            subst ech16
            obtain ⟨fh22, fh23⟩ : (0 ≤ n_18.toInt) ∧ (n_18.toInt ≤ 1232) := ch16
            refine pb_eq (pc' := 47) (lo' := [(1, .int rc), (2, .int i), (0, .ref h)]) (rest' := []) (ws' := [(h, .inr (9, [.ref ta, .ref ca, .ref ps, .ref xe, .ref mk, .ref rd, .ref mu, .ref fi, .ref go, .ref sp, .ref ss])), (go, .inl (G.2.2.1, 16, .inl gof)), (sp, .inr (3, [.ref tn, .ref tz, .ref tb, .ref tg, .int c])), (tn, .inl (G.2.1, 384, .inl tfn)), (tz, .inl (G.2.2.1, 16, .inl tfz)), (fi, .inr (2, [.ref fk, .ref fo, .ref fp, .int n_18])), (fk, .inl (G.2.2.1, 1232, .inl g_19)), (fo, .inl (G.2.2.1, 1232, .inl g_20)), (fp, .inl (G.2.2.1, 1232, .inl g_21))]) ?_
            refine pb_iincN (pc := 47) (c := 1) d_Book_noteUnreached_47 1 rfl (by decide) (by decide) (fun ix24 eix24 => ?_)
            have tix24 : ix24.toInt = i.toInt + 1 := t2_add eix24 rfl (by decide) (by omega)
            refine pb_eq (pc' := 50) (lo' := [(2, .int ix24), (1, .int rc), (0, .ref h)]) (rest' := []) (ws' := [(h, .inr (9, [.ref ta, .ref ca, .ref ps, .ref xe, .ref mk, .ref rd, .ref mu, .ref fi, .ref go, .ref sp, .ref ss])), (go, .inl (G.2.2.1, 16, .inl gof)), (sp, .inr (3, [.ref tn, .ref tz, .ref tb, .ref tg, .int c])), (tn, .inl (G.2.1, 384, .inl tfn)), (tz, .inl (G.2.2.1, 16, .inl tfz)), (fi, .inr (2, [.ref fk, .ref fo, .ref fp, .int n_18])), (fk, .inl (G.2.2.1, 1232, .inl g_19)), (fo, .inl (G.2.2.1, 1232, .inl g_20)), (fp, .inl (G.2.2.1, 1232, .inl g_21))]) ?_
            refine pb_goto (pc := 50) (tgt := 7) d_Book_noteUnreached_50 (by decide) ?_
            refine pb_re (ws' := [(h, .inr (9, [.ref ta, .ref ca, .ref ps, .ref xe, .ref mk, .ref rd, .ref mu, .ref fi, .ref go, .ref sp, .ref ss])), (sp, .inr (3, [.ref tn, .ref tz, .ref tb, .ref tg, .int c])), (tn, .inl (G.2.1, 384, .inl tfn)), (tz, .inl (G.2.2.1, 16, .inl tfz)), (go, .inl (G.2.2.1, 16, .inl gof)), (fi, .inr (2, [.ref fk, .ref fo, .ref fp, .int n_18])), (fk, .inl (G.2.2.1, 1232, .inl g_19)), (fo, .inl (G.2.2.1, 1232, .inl g_20)), (fp, .inl (G.2.2.1, 1232, .inl g_21))]) (lo' := [(1, .int rc), (2, .int ix24), (0, .ref h)]) [0, 2, 3, 4, 1, 5, 6, 7, 8] [1, 0, 2] (by decide) rfl rfl rfl ?_
            exact ih7 rc ix24 n_18 g_19 g_20 g_21 (by first | omega | assumption | decide) (by first | omega | assumption | decide) (by first | omega | assumption | decide) (by omega)
  refine pb_re (ws' := [(h, .inr (9, [.ref ta, .ref ca, .ref ps, .ref xe, .ref mk, .ref rd, .ref mu, .ref fi, .ref go, .ref sp, .ref ss])), (sp, .inr (3, [.ref tn, .ref tz, .ref tb, .ref tg, .int c])), (tn, .inl (G.2.1, 384, .inl tfn)), (tz, .inl (G.2.2.1, 16, .inl tfz)), (go, .inl (G.2.2.1, 16, .inl gof)), (fi, .inr (2, [.ref fk, .ref fo, .ref fp, .int fn])), (fk, .inl (G.2.2.1, 1232, .inl ff1)), (fo, .inl (G.2.2.1, 1232, .inl ff2)), (fp, .inl (G.2.2.1, 1232, .inl ff3))]) (lo' := [(1, .int r_3), (2, .int 0), (0, .ref h)]) [4, 5, 6, 7, 8, 0, 1, 2, 3] [1, 0, 2] (by decide) rfl rfl rfl ?_
  exact hL7_4 _ r_3 0 fn ff1 ff2 ff3 (by first | omega | assumption | decide) (by first | omega | assumption | decide) (by first | omega | assumption | decide) (Nat.lt_succ_self _)

theorem d_Book_check_0 : decode prog_1_method_16_code 0 = .ok (.aload_n 0, 1) := by decide +kernel
theorem d_Book_check_1 : decode prog_1_method_16_code 1 = .ok (.getfield 59, 3) := by decide +kernel
theorem d_Book_check_4 : decode prog_1_method_16_code 4 = .ok (.iconst 0, 1) := by decide +kernel
theorem d_Book_check_5 : decode prog_1_method_16_code 5 = .ok (.putfield 205, 3) := by decide +kernel
theorem d_Book_check_8 : decode prog_1_method_16_code 8 = .ok (.iconst 0, 1) := by decide +kernel
theorem d_Book_check_9 : decode prog_1_method_16_code 9 = .ok (.istore_n 1, 1) := by decide +kernel
theorem d_Book_check_10 : decode prog_1_method_16_code 10 = .ok (.iload_n 1, 1) := by decide +kernel
theorem d_Book_check_11 : decode prog_1_method_16_code 11 = .ok (.aload_n 0, 1) := by decide +kernel
theorem d_Book_check_12 : decode prog_1_method_16_code 12 = .ok (.getfield 70, 3) := by decide +kernel
theorem d_Book_check_15 : decode prog_1_method_16_code 15 = .ok (.getfield 133, 3) := by decide +kernel
theorem d_Book_check_18 : decode prog_1_method_16_code 18 = .ok (.if_icmp .ge 57, 3) := by decide +kernel
theorem d_Book_check_75 : decode prog_1_method_16_code 75 = .ok (.aload_n 0, 1) := by decide +kernel
theorem d_Book_check_76 : decode prog_1_method_16_code 76 = .ok (.invokevirtual 219, 3) := by decide +kernel
theorem k_918 : (Jvm.Cond.methodLink "PackageBook" (219 : Nat) ({ cls := "PackageBook", name := "noteUnreached", desc := "()V" } : Jvm.MethodName)) ∈ uW := uW_of 918 (by decide +kernel) (by decide +kernel)
theorem k_921 : (Jvm.Cond.code ({ cls := "PackageBook", name := "noteUnreached", desc := "()V" } : Jvm.MethodName) prog_1_method_23_code (3 : Nat) (Option.none : Option Jvm.ClassFile.FieldType)) ∈ uW := uW_of 921 (by decide +kernel) (by decide +kernel)
theorem k_920 : (Jvm.Cond.instanceMethod ({ cls := "PackageBook", name := "noteUnreached", desc := "()V" } : Jvm.MethodName)) ∈ uW := uW_of 920 (by decide +kernel) (by decide +kernel)
theorem k_50 : Cond.selects "PackageBook" ⟨"PackageBook", "noteUnreached", "()V"⟩ ⟨"PackageBook", "noteUnreached", "()V"⟩ ∈ uW := uW_of 50 (by decide +kernel) (by decide +kernel)
theorem d_Book_check_79 : decode prog_1_method_16_code 79 = .ok (.aload_n 0, 1) := by decide +kernel
theorem d_Book_check_80 : decode prog_1_method_16_code 80 = .ok (.getfield 59, 3) := by decide +kernel
theorem d_Book_check_83 : decode prog_1_method_16_code 83 = .ok (.getfield 205, 3) := by decide +kernel
theorem d_Book_check_86 : decode prog_1_method_16_code 86 = .ok (.ireturn, 1) := by decide +kernel
theorem d_Book_check_21 : decode prog_1_method_16_code 21 = .ok (.aload_n 0, 1) := by decide +kernel
theorem d_Book_check_22 : decode prog_1_method_16_code 22 = .ok (.getfield 63, 3) := by decide +kernel
theorem d_Book_check_25 : decode prog_1_method_16_code 25 = .ok (.iload_n 1, 1) := by decide +kernel
theorem d_Book_check_26 : decode prog_1_method_16_code 26 = .ok (.iconst 0, 1) := by decide +kernel
theorem d_Book_check_27 : decode prog_1_method_16_code 27 = .ok (.iastore, 1) := by decide +kernel
theorem d_Book_check_28 : decode prog_1_method_16_code 28 = .ok (.aload_n 0, 1) := by decide +kernel
theorem d_Book_check_29 : decode prog_1_method_16_code 29 = .ok (.getfield 70, 3) := by decide +kernel
theorem d_Book_check_32 : decode prog_1_method_16_code 32 = .ok (.iload_n 1, 1) := by decide +kernel
theorem d_Book_check_33 : decode prog_1_method_16_code 33 = .ok (.invokevirtual 206, 3) := by decide +kernel
theorem d_Book_check_36 : decode prog_1_method_16_code 36 = .ok (.ifCond .ne 33, 3) := by decide +kernel
theorem d_Book_check_69 : decode prog_1_method_16_code 69 = .ok (.iinc 1 1, 3) := by decide +kernel
theorem d_Book_check_72 : decode prog_1_method_16_code 72 = .ok (.goto (-62), 3) := by decide +kernel
theorem d_Book_check_39 : decode prog_1_method_16_code 39 = .ok (.aload_n 0, 1) := by decide +kernel
theorem d_Book_check_40 : decode prog_1_method_16_code 40 = .ok (.getfield 52, 3) := by decide +kernel
theorem d_Book_check_43 : decode prog_1_method_16_code 43 = .ok (.aload_n 0, 1) := by decide +kernel
theorem d_Book_check_44 : decode prog_1_method_16_code 44 = .ok (.getfield 70, 3) := by decide +kernel
theorem d_Book_check_47 : decode prog_1_method_16_code 47 = .ok (.iload_n 1, 1) := by decide +kernel
theorem d_Book_check_48 : decode prog_1_method_16_code 48 = .ok (.invokevirtual 209, 3) := by decide +kernel
theorem d_Book_check_51 : decode prog_1_method_16_code 51 = .ok (.aload_n 0, 1) := by decide +kernel
theorem d_Book_check_52 : decode prog_1_method_16_code 52 = .ok (.getfield 63, 3) := by decide +kernel
theorem d_Book_check_55 : decode prog_1_method_16_code 55 = .ok (.iload_n 1, 1) := by decide +kernel
theorem d_Book_check_56 : decode prog_1_method_16_code 56 = .ok (.aload_n 0, 1) := by decide +kernel
theorem d_Book_check_57 : decode prog_1_method_16_code 57 = .ok (.getfield 52, 3) := by decide +kernel
theorem d_Book_check_60 : decode prog_1_method_16_code 60 = .ok (.invokevirtual 213, 3) := by decide +kernel
theorem k_898 : (Jvm.Cond.methodLink "PackageBook" (213 : Nat) ({ cls := "PackageBook$Markup", name := "allGoals", desc := "()I" } : Jvm.MethodName)) ∈ uW := uW_of 898 (by decide +kernel) (by decide +kernel)
theorem k_901 : (Jvm.Cond.code ({ cls := "PackageBook$Markup", name := "allGoals", desc := "()I" } : Jvm.MethodName) prog_7_method_5_code (3 : Nat) (Option.some Jvm.ClassFile.FieldType.int)) ∈ uW := uW_of 901 (by decide +kernel) (by decide +kernel)
theorem k_899 : (Jvm.Cond.instanceMethod ({ cls := "PackageBook$Markup", name := "allGoals", desc := "()I" } : Jvm.MethodName)) ∈ uW := uW_of 899 (by decide +kernel) (by decide +kernel)
theorem k_900 : (Jvm.Cond.selects "PackageBook$Markup" ({ cls := "PackageBook$Markup", name := "allGoals", desc := "()I" } : Jvm.MethodName) ({ cls := "PackageBook$Markup", name := "allGoals", desc := "()I" } : Jvm.MethodName)) ∈ uW := uW_of 900 (by decide +kernel) (by decide +kernel)
theorem d_Book_check_63 : decode prog_1_method_16_code 63 = .ok (.iastore, 1) := by decide +kernel
theorem d_Book_check_64 : decode prog_1_method_16_code 64 = .ok (.aload_n 0, 1) := by decide +kernel
theorem d_Book_check_65 : decode prog_1_method_16_code 65 = .ok (.iload_n 1, 1) := by decide +kernel
theorem d_Book_check_66 : decode prog_1_method_16_code 66 = .ok (.invokevirtual 216, 3) := by decide +kernel
theorem k_902 : (Jvm.Cond.methodLink "PackageBook" (216 : Nat) ({ cls := "PackageBook", name := "noteRelations", desc := "(I)V" } : Jvm.MethodName)) ∈ uW := uW_of 902 (by decide +kernel) (by decide +kernel)
theorem k_905 : (Jvm.Cond.code ({ cls := "PackageBook", name := "noteRelations", desc := "(I)V" } : Jvm.MethodName) prog_1_method_22_code (3 : Nat) (Option.none : Option Jvm.ClassFile.FieldType)) ∈ uW := uW_of 905 (by decide +kernel) (by decide +kernel)
theorem k_904 : (Jvm.Cond.instanceMethod ({ cls := "PackageBook", name := "noteRelations", desc := "(I)V" } : Jvm.MethodName)) ∈ uW := uW_of 904 (by decide +kernel) (by decide +kernel)
theorem k_49 : Cond.selects "PackageBook" ⟨"PackageBook", "noteRelations", "(I)V"⟩ ⟨"PackageBook", "noteRelations", "(I)V"⟩ ∈ uW := uW_of 49 (by decide +kernel) (by decide +kernel)
abbrev y_Book_check : MethodName := ⟨"PackageBook", "check", "()I"⟩
abbrev i_Book_check : pb_I := (y_Book_check, prog_1_method_16_code, 2, (some Jvm.ClassFile.FieldType.int), [], { frames := 10, cells := 0, slots := 0, locals := 225 })
set_option maxRecDepth 100000 in
set_option maxHeartbeats 4000000 in
theorem g_Book_check {l : Launch} (hl : l.stackTraces = false) (G : pb_G) (h : Nat) (ta : Nat) (ca : Nat) (ps : Nat) (xe : Nat) (mk : Nat) (rd : Nat) (mu : Nat) (fi : Nat) (go : Nat) (sp : Nat) (ss : Nat) (tn : Nat) (tz : Nat) (tb : Nat) (tg : Nat) (c : Int32) (tfn : Nat → Int32) (tfz : Nat → Int32) (tfb : Nat → Int32) (tfg : Nat → Int32) (gof : Nat → Int32) (fk : Nat) (fo : Nat) (fp : Nat) (fn : Int32) (ff1 : Nat → Int32) (ff2 : Nat → Int32) (ff3 : Nat → Int32) (ui : Nat) (ug : Nat) (uv : Nat) (ur : Nat) (ct : Int32) (fa : Int32) (bg : Int32) (at_ : Int32) (en : Int32) (vs : Int32) (io : Int32) (hi : Int32) (ht : Int32) (vf : Nat → Int32) (gf : Nat → Int32) (df : Nat → Int64) (I : sh_I c.toInt tfz tfg) (k0 : 0 ≤ ct.toInt) (k1 : ct.toInt ≤ 200) (F_tfn : sb_Fit tfn) (F_tfb : sb_Fit tfb) (F_vf : sb_Fit vf) : Cn l G i_Book_check [.ref h] [(h, .inr (9, [.ref ta, .ref ca, .ref ps, .ref xe, .ref mk, .ref rd, .ref mu, .ref fi, .ref go, .ref sp, .ref ss])), (sp, .inr (3, [.ref tn, .ref tz, .ref tb, .ref tg, .int c])), (tn, .inl (G.2.1, 384, .inl tfn)), (tz, .inl (G.2.2.1, 16, .inl tfz)), (tb, .inl (G.2.1, 12000, .inl tfb)), (tg, .inl (G.2.2.1, 17, .inl tfg)), (go, .inl (G.2.2.1, 16, .inl gof)), (fi, .inr (2, [.ref fk, .ref fo, .ref fp, .int fn])), (fk, .inl (G.2.2.1, 1232, .inl ff1)), (fo, .inl (G.2.2.1, 1232, .inl ff2)), (fp, .inl (G.2.2.1, 1232, .inl ff3)), (mu, .inr (8, [.ref ui, .ref ug, .ref uv, .ref ur, .int ct, .int fa, .int bg, .int at_, .int en, .int vs, .int io, .int hi, .int ht])), (uv, .inl (G.2.1, 24, .inl vf)), (ug, .inl (G.2.2.1, 200, .inl gf)), (ui, .inl (G.2.2.2.1, 200, .inr (.inl df)))] (S := Int32 × (Nat → Int32) × Int32 × (Nat → Int32) × (Nat → Int32) × (Nat → Int32) × Nat × Int32 × Int32 × Int32 × Int32 × Int32 × Int32 × Int32 × Int32 × Int32 × (Nat → Int32) × (Nat → Int64) × (Nat → Int32)) (fun v u => v = some (.int u.1) ∧ (0 ≤ u.2.2.1.toInt) ∧ (u.2.2.1.toInt ≤ 1232) ∧ (0 ≤ u.2.2.2.2.2.2.2.1.toInt) ∧ (u.2.2.2.2.2.2.2.1.toInt ≤ 200) ∧ (sb_Fit u.2.2.2.2.2.2.2.2.2.2.2.2.2.2.2.2.1)) (fun u => [(h, .inr (9, [.ref ta, .ref ca, .ref ps, .ref xe, .ref mk, .ref rd, .ref mu, .ref fi, .ref go, .ref sp, .ref ss])), (sp, .inr (3, [.ref tn, .ref tz, .ref tb, .ref tg, .int c])), (tn, .inl (G.2.1, 384, .inl tfn)), (tz, .inl (G.2.2.1, 16, .inl tfz)), (tb, .inl (G.2.1, 12000, .inl tfb)), (tg, .inl (G.2.2.1, 17, .inl tfg)), (go, .inl (G.2.2.1, 16, .inl u.2.1)), (fi, .inr (2, [.ref fk, .ref fo, .ref fp, .int u.2.2.1])), (fk, .inl (G.2.2.1, 1232, .inl u.2.2.2.1)), (fo, .inl (G.2.2.1, 1232, .inl u.2.2.2.2.1)), (fp, .inl (G.2.2.1, 1232, .inl u.2.2.2.2.2.1)), (mu, .inr (8, [.ref ui, .ref ug, .ref uv, .ref u.2.2.2.2.2.2.1, .int u.2.2.2.2.2.2.2.1, .int u.2.2.2.2.2.2.2.2.1, .int u.2.2.2.2.2.2.2.2.2.1, .int u.2.2.2.2.2.2.2.2.2.2.1, .int u.2.2.2.2.2.2.2.2.2.2.2.1, .int u.2.2.2.2.2.2.2.2.2.2.2.2.1, .int u.2.2.2.2.2.2.2.2.2.2.2.2.2.1, .int u.2.2.2.2.2.2.2.2.2.2.2.2.2.2.1, .int u.2.2.2.2.2.2.2.2.2.2.2.2.2.2.2.1])), (uv, .inl (G.2.1, 24, .inl u.2.2.2.2.2.2.2.2.2.2.2.2.2.2.2.2.1)), (ug, .inl (G.2.2.1, 200, .inl u.2.2.2.2.2.2.2.2.2.2.2.2.2.2.2.2.2.2)), (ui, .inl (G.2.2.2.1, 200, .inr (.inl u.2.2.2.2.2.2.2.2.2.2.2.2.2.2.2.2.2.1)))]) := by
  refine Cn.of hl (by decide +kernel) rfl (Nat.le_of_ble_eq_true rfl) (fun M hQ => ?_)
  refine pb_eq (pc' := 0) (lo' := [(0, .ref h)]) (rest' := []) (ws' := [(h, .inr (9, [.ref ta, .ref ca, .ref ps, .ref xe, .ref mk, .ref rd, .ref mu, .ref fi, .ref go, .ref sp, .ref ss])), (sp, .inr (3, [.ref tn, .ref tz, .ref tb, .ref tg, .int c])), (tn, .inl (G.2.1, 384, .inl tfn)), (tz, .inl (G.2.2.1, 16, .inl tfz)), (tb, .inl (G.2.1, 12000, .inl tfb)), (tg, .inl (G.2.2.1, 17, .inl tfg)), (go, .inl (G.2.2.1, 16, .inl gof)), (fi, .inr (2, [.ref fk, .ref fo, .ref fp, .int fn])), (fk, .inl (G.2.2.1, 1232, .inl ff1)), (fo, .inl (G.2.2.1, 1232, .inl ff2)), (fp, .inl (G.2.2.1, 1232, .inl ff3)), (mu, .inr (8, [.ref ui, .ref ug, .ref uv, .ref ur, .int ct, .int fa, .int bg, .int at_, .int en, .int vs, .int io, .int hi, .int ht])), (uv, .inl (G.2.1, 24, .inl vf)), (ug, .inl (G.2.2.1, 200, .inl gf)), (ui, .inl (G.2.2.2.1, 200, .inr (.inl df)))]) ?_
  have zl0 : (0 : Int32).toInt = 0 := by decide
  have zl1 : (1 : Int32).toInt = 1 := by decide
  have q1 := I.1
  have q2 := I.2.1
  refine pb_aload_n (pc := 0) d_Book_check_0 0 rfl rfl ?_
  refine pb_get (pc := 1) d_Book_check_1 0 7 rfl rfl (by decide) in_Book k_424 rfl ?_
  refine pb_iconst (pc := 4) (v := 0) d_Book_check_4 (by decide) ?_
  refine pb_putN (pc := 5) (ty := .int) (ws' := [(h, .inr (9, [.ref ta, .ref ca, .ref ps, .ref xe, .ref mk, .ref rd, .ref mu, .ref fi, .ref go, .ref sp, .ref ss])), (sp, .inr (3, [.ref tn, .ref tz, .ref tb, .ref tg, .int c])), (tn, .inl (G.2.1, 384, .inl tfn)), (tz, .inl (G.2.2.1, 16, .inl tfz)), (tb, .inl (G.2.1, 12000, .inl tfb)), (tg, .inl (G.2.2.1, 17, .inl tfg)), (go, .inl (G.2.2.1, 16, .inl gof)), (fi, .inr (2, [.ref fk, .ref fo, .ref fp, .int 0])), (fk, .inl (G.2.2.1, 1232, .inl ff1)), (fo, .inl (G.2.2.1, 1232, .inl ff2)), (fp, .inl (G.2.2.1, 1232, .inl ff3)), (mu, .inr (8, [.ref ui, .ref ug, .ref uv, .ref ur, .int ct, .int fa, .int bg, .int at_, .int en, .int vs, .int io, .int hi, .int ht])), (uv, .inl (G.2.1, 24, .inl vf)), (ug, .inl (G.2.2.1, 200, .inl gf)), (ui, .inl (G.2.2.2.1, 200, .inr (.inl df)))]) d_Book_check_5 7 3 t_Findings t_Findings_ok n_Findings rfl rfl (by decide) in_Findings k_373 rfl (by decide +kernel) rfl rfl (Nat.le_of_ble_eq_true rfl) rfl ?_
  refine pb_iconst (pc := 8) (v := 0) d_Book_check_8 (by decide) ?_
  refine pb_istore_n (pc := 9) (lo' := [(1, .int 0), (0, .ref h)]) d_Book_check_9 rfl (by decide) rfl ?_
  have hL10_1 : ∀ (N9 : Nat) (i : Int32) (n4 : Int32) (a4 : Nat → Int32) (b4 : Nat → Int32) (c4 : Nat → Int32) (go4 : Nat → Int32) (ur3 : Nat) (ct3 : Int32) (fa3 : Int32) (bg3 : Int32) (at3 : Int32) (en3 : Int32) (vs3 : Int32) (io3 : Int32) (hi3 : Int32) (ht3 : Int32) (vf3 : Nat → Int32) (gf3 : Nat → Int32) (df3 : Nat → Int64), (sb_Fit vf3) → (0 ≤ i.toInt) → (0 ≤ n4.toInt) → (n4.toInt ≤ 1232) → (0 ≤ ct3.toInt) → (ct3.toInt ≤ 200) → ((c.toInt - i.toInt).toNat) < N9 → pb_P l G M i_Book_check 10 [(1, .int i), (0, .ref h)] [] [(h, .inr (9, [.ref ta, .ref ca, .ref ps, .ref xe, .ref mk, .ref rd, .ref mu, .ref fi, .ref go, .ref sp, .ref ss])), (sp, .inr (3, [.ref tn, .ref tz, .ref tb, .ref tg, .int c])), (tn, .inl (G.2.1, 384, .inl tfn)), (tz, .inl (G.2.2.1, 16, .inl tfz)), (tb, .inl (G.2.1, 12000, .inl tfb)), (tg, .inl (G.2.2.1, 17, .inl tfg)), (go, .inl (G.2.2.1, 16, .inl go4)), (fi, .inr (2, [.ref fk, .ref fo, .ref fp, .int n4])), (fk, .inl (G.2.2.1, 1232, .inl a4)), (fo, .inl (G.2.2.1, 1232, .inl b4)), (fp, .inl (G.2.2.1, 1232, .inl c4)), (mu, .inr (8, [.ref ui, .ref ug, .ref uv, .ref ur3, .int ct3, .int fa3, .int bg3, .int at3, .int en3, .int vs3, .int io3, .int hi3, .int ht3])), (uv, .inl (G.2.1, 24, .inl vf3)), (ug, .inl (G.2.2.1, 200, .inl gf3)), (ui, .inl (G.2.2.2.1, 200, .inr (.inl df3)))] 0 0 := by
    intro N9
    induction N9 with
    | zero => intro i n4 a4 b4 c4 go4 ur3 ct3 fa3 bg3 at3 en3 vs3 io3 hi3 ht3 vf3 gf3 df3 F_vf3 i0 m0 m1 m2 m3 hm9; exact absurd hm9 (Nat.not_lt_zero _)
    | succ N9 ih10 =>
      intro i n4 a4 b4 c4 go4 ur3 ct3 fa3 bg3 at3 en3 vs3 io3 hi3 ht3 vf3 gf3 df3 F_vf3 i0 m0 m1 m2 m3 hm9
      refine pb_iload_n (pc := 10) d_Book_check_10 0 rfl rfl ?_
      refine pb_aload_n (pc := 11) d_Book_check_11 1 rfl rfl ?_
      refine pb_get (pc := 12) d_Book_check_12 0 9 rfl rfl (by decide) in_Book k_426 rfl ?_
      refine pb_getN (pc := 15) d_Book_check_15 1 4 rfl rfl (by decide) in_Shelf k_405 rfl ?_
      refine pb_icmp_ge (pc := 18) (tgt := 75) d_Book_check_18 (by decide) (fun wx2 => ?_) (fun wx2 => ?_)
      · have twx2 : c.toInt ≤ i.toInt := (ti_le rfl rfl).mp wx2
        refine pb_aload_n (pc := 75) d_Book_check_75 1 rfl rfl ?_
        refine pb_callV (pc := 76) (qb := 0) (ci := 9) (nA := 0) (rest := []) (wr := [(tb, .inl (G.2.1, 12000, .inl tfb)), (tg, .inl (G.2.2.1, 17, .inl tfg)), (mu, .inr (8, [.ref ui, .ref ug, .ref uv, .ref ur3, .int ct3, .int fa3, .int bg3, .int at3, .int en3, .int vs3, .int io3, .int hi3, .int ht3])), (uv, .inl (G.2.1, 24, .inl vf3)), (ug, .inl (G.2.2.1, 200, .inl gf3)), (ui, .inl (G.2.2.2.1, 200, .inr (.inl df3)))]) d_Book_check_76 (g_Book_noteUnreached hl G h ta ca ps xe mk rd mu fi go sp ss tn tz tb tg c tfn tfz tfb tfg go4 fk fo fp n4 a4 b4 c4 (by first | assumption | decide | omega) (by first | omega | assumption | decide) (by first | omega | assumption | decide) F_tfn) rfl rfl [0, 1, 2, 3, 6, 7, 8, 9, 10] [4, 5, 11, 12, 13, 14] (by decide) rfl rfl rfl (by decide) (by decide) k_921 rfl k_118 k_918 k_920 k_50 (by decide +kernel) (by decide) rfl rfl (Nat.le_of_ble_eq_true rfl) (by decide) (fun v9 ux4 ch3 => ?_)
        obtain ⟨fn_5, gf_6, gf_7, gf_8⟩ := ux4
        obtain ⟨ech3, ch3⟩ := ch3
        have ech3 : v9 = none := ech3
        subst ech3
        obtain ⟨fh9, fh10⟩ : (0 ≤ fn_5.toInt) ∧ (fn_5.toInt ≤ 1232) := ch3
        refine pb_eq (pc' := 79) (lo' := [(1, .int i), (0, .ref h)]) (rest' := []) (ws' := [(tb, .inl (G.2.1, 12000, .inl tfb)), (tg, .inl (G.2.2.1, 17, .inl tfg)), (mu, .inr (8, [.ref ui, .ref ug, .ref uv, .ref ur3, .int ct3, .int fa3, .int bg3, .int at3, .int en3, .int vs3, .int io3, .int hi3, .int ht3])), (uv, .inl (G.2.1, 24, .inl vf3)), (ug, .inl (G.2.2.1, 200, .inl gf3)), (ui, .inl (G.2.2.2.1, 200, .inr (.inl df3))), (h, .inr (9, [.ref ta, .ref ca, .ref ps, .ref xe, .ref mk, .ref rd, .ref mu, .ref fi, .ref go, .ref sp, .ref ss])), (sp, .inr (3, [.ref tn, .ref tz, .ref tb, .ref tg, .int c])), (tn, .inl (G.2.1, 384, .inl tfn)), (tz, .inl (G.2.2.1, 16, .inl tfz)), (go, .inl (G.2.2.1, 16, .inl go4)), (fi, .inr (2, [.ref fk, .ref fo, .ref fp, .int fn_5])), (fk, .inl (G.2.2.1, 1232, .inl gf_6)), (fo, .inl (G.2.2.1, 1232, .inl gf_7)), (fp, .inl (G.2.2.1, 1232, .inl gf_8))]) ?_
        refine pb_aload_n (pc := 79) d_Book_check_79 1 rfl rfl ?_
        refine pb_get (pc := 80) d_Book_check_80 6 7 rfl rfl (by decide) in_Book k_424 rfl ?_
        refine pb_getN (pc := 83) d_Book_check_83 11 3 rfl rfl (by decide) in_Findings k_373 rfl ?_
        exact pb_iret (pc := 86) hQ d_Book_check_86 rfl rfl (fn_5, go4, fn_5, gf_6, gf_7, gf_8, ur3, ct3, fa3, bg3, at3, en3, vs3, io3, hi3, ht3, vf3, df3, gf3) ⟨rfl, (by (try dsimp only); first | omega | assumption | decide), (by (try dsimp only); first | omega | assumption | decide), (by (try dsimp only); first | omega | assumption | decide), (by (try dsimp only); first | omega | assumption | decide), F_vf3⟩ [6, 7, 8, 9, 0, 1, 10, 11, 12, 13, 14, 2, 3, 4, 5] (by decide) rfl rfl (by decide) (by decide)
      · have twx2 : ¬ c.toInt ≤ i.toInt := fun z9 => wx2 ((ti_le rfl rfl).mpr z9)
        refine pb_aload_n (pc := 21) d_Book_check_21 1 rfl rfl ?_
        refine pb_get (pc := 22) d_Book_check_22 0 8 rfl rfl (by decide) in_Book k_425 rfl ?_
        refine pb_iload_n (pc := 25) d_Book_check_25 0 rfl rfl ?_
        refine pb_iconst (pc := 26) (v := 0) d_Book_check_26 (by decide) ?_
        refine pb_iast (pc := 27) (ws' := [(h, .inr (9, [.ref ta, .ref ca, .ref ps, .ref xe, .ref mk, .ref rd, .ref mu, .ref fi, .ref go, .ref sp, .ref ss])), (sp, .inr (3, [.ref tn, .ref tz, .ref tb, .ref tg, .int c])), (tn, .inl (G.2.1, 384, .inl tfn)), (tz, .inl (G.2.2.1, 16, .inl tfz)), (tb, .inl (G.2.1, 12000, .inl tfb)), (tg, .inl (G.2.2.1, 17, .inl tfg)), (go, .inl (G.2.2.1, 16, .inl (upd go4 ((i : Int32).toNatClampNeg) 0))), (fi, .inr (2, [.ref fk, .ref fo, .ref fp, .int n4])), (fk, .inl (G.2.2.1, 1232, .inl a4)), (fo, .inl (G.2.2.1, 1232, .inl b4)), (fp, .inl (G.2.2.1, 1232, .inl c4)), (mu, .inr (8, [.ref ui, .ref ug, .ref uv, .ref ur3, .int ct3, .int fa3, .int bg3, .int at3, .int en3, .int vs3, .int io3, .int hi3, .int ht3])), (uv, .inl (G.2.1, 24, .inl vf3)), (ug, .inl (G.2.2.1, 200, .inl gf3)), (ui, .inl (G.2.2.2.1, 200, .inr (.inl df3)))]) d_Book_check_27 6 rfl (vp_in_iff.mpr (by omega)) rfl ?_
        refine pb_aload_n (pc := 28) d_Book_check_28 1 rfl rfl ?_
        refine pb_get (pc := 29) d_Book_check_29 0 9 rfl rfl (by decide) in_Book k_426 rfl ?_
        refine pb_iload_n (pc := 32) d_Book_check_32 0 rfl rfl ?_
        refine pb_callV (pc := 33) (qb := 1) (ci := 3) (nA := 1) (rest := []) (wr := [(h, .inr (9, [.ref ta, .ref ca, .ref ps, .ref xe, .ref mk, .ref rd, .ref mu, .ref fi, .ref go, .ref sp, .ref ss])), (tb, .inl (G.2.1, 12000, .inl tfb)), (tg, .inl (G.2.2.1, 17, .inl tfg)), (go, .inl (G.2.2.1, 16, .inl (upd go4 ((i : Int32).toNatClampNeg) 0))), (fi, .inr (2, [.ref fk, .ref fo, .ref fp, .int n4])), (fk, .inl (G.2.2.1, 1232, .inl a4)), (fo, .inl (G.2.2.1, 1232, .inl b4)), (fp, .inl (G.2.2.1, 1232, .inl c4)), (mu, .inr (8, [.ref ui, .ref ug, .ref uv, .ref ur3, .int ct3, .int fa3, .int bg3, .int at3, .int en3, .int vs3, .int io3, .int hi3, .int ht3])), (uv, .inl (G.2.1, 24, .inl vf3)), (ug, .inl (G.2.2.1, 200, .inl gf3)), (ui, .inl (G.2.2.2.1, 200, .inr (.inl df3)))]) d_Book_check_33 (g_Shelf_isTeller hl G sp tn tz tb tg c tfn tfz tfg i (by first | assumption | decide | omega) (by first | omega | assumption | decide) (by first | omega | assumption | decide) F_tfn) rfl rfl [1, 2, 3] [0, 4, 5, 6, 7, 8, 9, 10, 11, 12, 13, 14] (by decide) rfl rfl rfl (by decide) (by decide) k_735 rfl k_127 k_732 k_733 k_734 (by decide +kernel) (by decide) rfl rfl (Nat.le_of_ble_eq_true rfl) (by decide) (fun v9 ux12 ch11 => ?_)
        obtain ⟨r_13, rfl⟩ : ∃ z9, z9 = ux12 := ⟨_, rfl⟩
        obtain ⟨ech11, ch11⟩ := ch11
        have ech11 : v9 = some (.int r_13) := ech11
        subst ech11
        have fh14 : r_13.toInt = 0 ∨ r_13.toInt = 1 := ch11
        refine pb_eq (pc' := 36) (lo' := [(1, .int i), (0, .ref h)]) (rest' := [.int r_13]) (ws' := [(h, .inr (9, [.ref ta, .ref ca, .ref ps, .ref xe, .ref mk, .ref rd, .ref mu, .ref fi, .ref go, .ref sp, .ref ss])), (tb, .inl (G.2.1, 12000, .inl tfb)), (tg, .inl (G.2.2.1, 17, .inl tfg)), (go, .inl (G.2.2.1, 16, .inl (upd go4 ((i : Int32).toNatClampNeg) 0))), (fi, .inr (2, [.ref fk, .ref fo, .ref fp, .int n4])), (fk, .inl (G.2.2.1, 1232, .inl a4)), (fo, .inl (G.2.2.1, 1232, .inl b4)), (fp, .inl (G.2.2.1, 1232, .inl c4)), (mu, .inr (8, [.ref ui, .ref ug, .ref uv, .ref ur3, .int ct3, .int fa3, .int bg3, .int at3, .int en3, .int vs3, .int io3, .int hi3, .int ht3])), (uv, .inl (G.2.1, 24, .inl vf3)), (ug, .inl (G.2.2.1, 200, .inl gf3)), (ui, .inl (G.2.2.2.1, 200, .inr (.inl df3))), (sp, .inr (3, [.ref tn, .ref tz, .ref tb, .ref tg, .int c])), (tn, .inl (G.2.1, 384, .inl tfn)), (tz, .inl (G.2.2.1, 16, .inl tfz))]) ?_
        refine pb_if_ne (pc := 36) (tgt := 69) d_Book_check_36 (by decide) (fun wx15 => ?_) (fun wx15 => ?_)
        · have twx15 : ¬ r_13.toInt = 0 := fun z9 => wx15 ((ti_eq rfl (by decide)).mpr z9)
          refine pb_iincN (pc := 69) (c := 1) d_Book_check_69 0 rfl (by decide) (by decide) (fun ix16 eix16 => ?_)
          have tix16 : ix16.toInt = i.toInt + 1 := t2_add eix16 rfl (by decide) (by omega)
          refine pb_eq (pc' := 72) (lo' := [(1, .int ix16), (0, .ref h)]) (rest' := []) (ws' := [(h, .inr (9, [.ref ta, .ref ca, .ref ps, .ref xe, .ref mk, .ref rd, .ref mu, .ref fi, .ref go, .ref sp, .ref ss])), (tb, .inl (G.2.1, 12000, .inl tfb)), (tg, .inl (G.2.2.1, 17, .inl tfg)), (go, .inl (G.2.2.1, 16, .inl (upd go4 ((i : Int32).toNatClampNeg) 0))), (fi, .inr (2, [.ref fk, .ref fo, .ref fp, .int n4])), (fk, .inl (G.2.2.1, 1232, .inl a4)), (fo, .inl (G.2.2.1, 1232, .inl b4)), (fp, .inl (G.2.2.1, 1232, .inl c4)), (mu, .inr (8, [.ref ui, .ref ug, .ref uv, .ref ur3, .int ct3, .int fa3, .int bg3, .int at3, .int en3, .int vs3, .int io3, .int hi3, .int ht3])), (uv, .inl (G.2.1, 24, .inl vf3)), (ug, .inl (G.2.2.1, 200, .inl gf3)), (ui, .inl (G.2.2.2.1, 200, .inr (.inl df3))), (sp, .inr (3, [.ref tn, .ref tz, .ref tb, .ref tg, .int c])), (tn, .inl (G.2.1, 384, .inl tfn)), (tz, .inl (G.2.2.1, 16, .inl tfz))]) ?_
          refine pb_goto (pc := 72) (tgt := 10) d_Book_check_72 (by decide) ?_
          refine pb_re (ws' := [(h, .inr (9, [.ref ta, .ref ca, .ref ps, .ref xe, .ref mk, .ref rd, .ref mu, .ref fi, .ref go, .ref sp, .ref ss])), (sp, .inr (3, [.ref tn, .ref tz, .ref tb, .ref tg, .int c])), (tn, .inl (G.2.1, 384, .inl tfn)), (tz, .inl (G.2.2.1, 16, .inl tfz)), (tb, .inl (G.2.1, 12000, .inl tfb)), (tg, .inl (G.2.2.1, 17, .inl tfg)), (go, .inl (G.2.2.1, 16, .inl (upd go4 ((i : Int32).toNatClampNeg) 0))), (fi, .inr (2, [.ref fk, .ref fo, .ref fp, .int n4])), (fk, .inl (G.2.2.1, 1232, .inl a4)), (fo, .inl (G.2.2.1, 1232, .inl b4)), (fp, .inl (G.2.2.1, 1232, .inl c4)), (mu, .inr (8, [.ref ui, .ref ug, .ref uv, .ref ur3, .int ct3, .int fa3, .int bg3, .int at3, .int en3, .int vs3, .int io3, .int hi3, .int ht3])), (uv, .inl (G.2.1, 24, .inl vf3)), (ug, .inl (G.2.2.1, 200, .inl gf3)), (ui, .inl (G.2.2.2.1, 200, .inr (.inl df3)))]) (lo' := [(1, .int ix16), (0, .ref h)]) [0, 12, 13, 14, 1, 2, 3, 4, 5, 6, 7, 8, 9, 10, 11] [0, 1] (by decide) rfl rfl rfl ?_
          exact ih10 ix16 n4 a4 b4 c4 (upd go4 ((i : Int32).toNatClampNeg) 0) ur3 ct3 fa3 bg3 at3 en3 vs3 io3 hi3 ht3 vf3 gf3 df3 F_vf3 (by first | omega | assumption | decide) (by first | omega | assumption | decide) (by first | omega | assumption | decide) (by first | omega | assumption | decide) (by first | omega | assumption | decide) (by omega)
        · have twx15 : r_13.toInt = 0 := (ti_eq rfl (by decide)).mp wx15
          refine pb_aload_n (pc := 39) d_Book_check_39 1 rfl rfl ?_
          refine pb_get (pc := 40) d_Book_check_40 0 6 rfl rfl (by decide) in_Book k_423 rfl ?_
          refine pb_aload_n (pc := 43) d_Book_check_43 1 rfl rfl ?_
          refine pb_get (pc := 44) d_Book_check_44 0 9 rfl rfl (by decide) in_Book k_426 rfl ?_
          refine pb_iload_n (pc := 47) d_Book_check_47 0 rfl rfl ?_
          refine pb_callV (pc := 48) (qb := 8) (ci := 8) (nA := 2) (rest := []) (wr := [(h, .inr (9, [.ref ta, .ref ca, .ref ps, .ref xe, .ref mk, .ref rd, .ref mu, .ref fi, .ref go, .ref sp, .ref ss])), (go, .inl (G.2.2.1, 16, .inl (upd go4 ((i : Int32).toNatClampNeg) 0))), (fi, .inr (2, [.ref fk, .ref fo, .ref fp, .int n4])), (fk, .inl (G.2.2.1, 1232, .inl a4)), (fo, .inl (G.2.2.1, 1232, .inl b4)), (fp, .inl (G.2.2.1, 1232, .inl c4))]) d_Book_check_48 (g_Mu_load hl G mu ui ug uv ur3 ct3 fa3 bg3 at3 en3 vs3 io3 hi3 ht3 vf3 gf3 df3 sp tn tz tb tg c tfn tfz tfb tfg i (by first | assumption | decide | omega) (by first | omega | assumption | decide) (by first | omega | assumption | decide) F_vf3 F_tfn F_tfb) rfl rfl [8, 9, 10, 11, 12, 13, 14, 1, 2] [0, 3, 4, 5, 6, 7] (by decide) rfl rfl rfl (by decide) (by decide) k_793 rfl k_125 k_790 k_791 k_792 (by decide +kernel) (by decide) rfl rfl (Nat.le_of_ble_eq_true rfl) (by decide) (fun v9 ux18 ch17 => ?_)
          obtain ⟨ct_19, fa_20, bg_21, at_22, en_23, vs_24, io_25, hi_26, ht_27, vf_28, gf_29, df_30⟩ := ux18
          obtain ⟨ech17, ch17⟩ := ch17
          have ech17 : v9 = none := ech17
          subst ech17
          obtain ⟨fh31, fh32, fh33⟩ : (0 ≤ ct_19.toInt) ∧ (ct_19.toInt ≤ 200) ∧ (sb_Fit vf_28) := ch17
          refine pb_eq (pc' := 51) (lo' := [(1, .int i), (0, .ref h)]) (rest' := []) (ws' := [(h, .inr (9, [.ref ta, .ref ca, .ref ps, .ref xe, .ref mk, .ref rd, .ref mu, .ref fi, .ref go, .ref sp, .ref ss])), (go, .inl (G.2.2.1, 16, .inl (upd go4 ((i : Int32).toNatClampNeg) 0))), (fi, .inr (2, [.ref fk, .ref fo, .ref fp, .int n4])), (fk, .inl (G.2.2.1, 1232, .inl a4)), (fo, .inl (G.2.2.1, 1232, .inl b4)), (fp, .inl (G.2.2.1, 1232, .inl c4)), (mu, .inr (8, [.ref ui, .ref ug, .ref uv, .ref tb, .int ct_19, .int fa_20, .int bg_21, .int at_22, .int en_23, .int vs_24, .int io_25, .int hi_26, .int ht_27])), (uv, .inl (G.2.1, 24, .inl vf_28)), (ug, .inl (G.2.2.1, 200, .inl gf_29)), (ui, .inl (G.2.2.2.1, 200, .inr (.inl df_30))), (sp, .inr (3, [.ref tn, .ref tz, .ref tb, .ref tg, .int c])), (tn, .inl (G.2.1, 384, .inl tfn)), (tz, .inl (G.2.2.1, 16, .inl tfz)), (tb, .inl (G.2.1, 12000, .inl tfb)), (tg, .inl (G.2.2.1, 17, .inl tfg))]) ?_
          refine pb_aload_n (pc := 51) d_Book_check_51 1 rfl rfl ?_
          refine pb_get (pc := 52) d_Book_check_52 0 8 rfl rfl (by decide) in_Book k_425 rfl ?_
          refine pb_iload_n (pc := 55) d_Book_check_55 0 rfl rfl ?_
          refine pb_aload_n (pc := 56) d_Book_check_56 1 rfl rfl ?_
          refine pb_get (pc := 57) d_Book_check_57 0 6 rfl rfl (by decide) in_Book k_423 rfl ?_
          refine pb_callV (pc := 60) (qb := 6) (ci := 8) (nA := 0) (rest := [.int i, .ref go]) (wr := [(h, .inr (9, [.ref ta, .ref ca, .ref ps, .ref xe, .ref mk, .ref rd, .ref mu, .ref fi, .ref go, .ref sp, .ref ss])), (go, .inl (G.2.2.1, 16, .inl (upd go4 ((i : Int32).toNatClampNeg) 0))), (fi, .inr (2, [.ref fk, .ref fo, .ref fp, .int n4])), (fk, .inl (G.2.2.1, 1232, .inl a4)), (fo, .inl (G.2.2.1, 1232, .inl b4)), (fp, .inl (G.2.2.1, 1232, .inl c4)), (uv, .inl (G.2.1, 24, .inl vf_28)), (ui, .inl (G.2.2.2.1, 200, .inr (.inl df_30))), (sp, .inr (3, [.ref tn, .ref tz, .ref tb, .ref tg, .int c])), (tn, .inl (G.2.1, 384, .inl tfn)), (tz, .inl (G.2.2.1, 16, .inl tfz)), (tb, .inl (G.2.1, 12000, .inl tfb)), (tg, .inl (G.2.2.1, 17, .inl tfg))]) d_Book_check_60 (g_Mu_allGoals hl G mu ui ug uv tb ct_19 fa_20 bg_21 at_22 en_23 vs_24 io_25 hi_26 ht_27 gf_29 (by first | omega | assumption | decide)) rfl rfl [6, 8] [0, 1, 2, 3, 4, 5, 7, 9, 10, 11, 12, 13, 14] (by decide) rfl rfl rfl (by decide) (by decide) k_901 rfl k_125 k_898 k_899 k_900 (by decide +kernel) (by decide) rfl rfl (Nat.le_of_ble_eq_true rfl) (by decide) (fun v9 ux35 ch34 => ?_)
          obtain ⟨r_36, rfl⟩ : ∃ z9, z9 = ux35 := ⟨_, rfl⟩
          have ech34 := ch34
          have ech34 : v9 = some (.int r_36) := ech34
          subst ech34
          refine pb_eq (pc' := 63) (lo' := [(1, .int i), (0, .ref h)]) (rest' := [.int r_36, .int i, .ref go]) (ws' := [(h, .inr (9, [.ref ta, .ref ca, .ref ps, .ref xe, .ref mk, .ref rd, .ref mu, .ref fi, .ref go, .ref sp, .ref ss])), (go, .inl (G.2.2.1, 16, .inl (upd go4 ((i : Int32).toNatClampNeg) 0))), (fi, .inr (2, [.ref fk, .ref fo, .ref fp, .int n4])), (fk, .inl (G.2.2.1, 1232, .inl a4)), (fo, .inl (G.2.2.1, 1232, .inl b4)), (fp, .inl (G.2.2.1, 1232, .inl c4)), (uv, .inl (G.2.1, 24, .inl vf_28)), (ui, .inl (G.2.2.2.1, 200, .inr (.inl df_30))), (sp, .inr (3, [.ref tn, .ref tz, .ref tb, .ref tg, .int c])), (tn, .inl (G.2.1, 384, .inl tfn)), (tz, .inl (G.2.2.1, 16, .inl tfz)), (tb, .inl (G.2.1, 12000, .inl tfb)), (tg, .inl (G.2.2.1, 17, .inl tfg)), (mu, .inr (8, [.ref ui, .ref ug, .ref uv, .ref tb, .int ct_19, .int fa_20, .int bg_21, .int at_22, .int en_23, .int vs_24, .int io_25, .int hi_26, .int ht_27])), (ug, .inl (G.2.2.1, 200, .inl gf_29))]) ?_
          refine pb_iast (pc := 63) (ws' := [(h, .inr (9, [.ref ta, .ref ca, .ref ps, .ref xe, .ref mk, .ref rd, .ref mu, .ref fi, .ref go, .ref sp, .ref ss])), (go, .inl (G.2.2.1, 16, .inl (upd (upd go4 ((i : Int32).toNatClampNeg) 0) ((i : Int32).toNatClampNeg) r_36))), (fi, .inr (2, [.ref fk, .ref fo, .ref fp, .int n4])), (fk, .inl (G.2.2.1, 1232, .inl a4)), (fo, .inl (G.2.2.1, 1232, .inl b4)), (fp, .inl (G.2.2.1, 1232, .inl c4)), (uv, .inl (G.2.1, 24, .inl vf_28)), (ui, .inl (G.2.2.2.1, 200, .inr (.inl df_30))), (sp, .inr (3, [.ref tn, .ref tz, .ref tb, .ref tg, .int c])), (tn, .inl (G.2.1, 384, .inl tfn)), (tz, .inl (G.2.2.1, 16, .inl tfz)), (tb, .inl (G.2.1, 12000, .inl tfb)), (tg, .inl (G.2.2.1, 17, .inl tfg)), (mu, .inr (8, [.ref ui, .ref ug, .ref uv, .ref tb, .int ct_19, .int fa_20, .int bg_21, .int at_22, .int en_23, .int vs_24, .int io_25, .int hi_26, .int ht_27])), (ug, .inl (G.2.2.1, 200, .inl gf_29))]) d_Book_check_63 1 rfl (vp_in_iff.mpr (by omega)) rfl ?_
          refine pb_aload_n (pc := 64) d_Book_check_64 1 rfl rfl ?_
          refine pb_iload_n (pc := 65) d_Book_check_65 0 rfl rfl ?_
          refine pb_callV (pc := 66) (qb := 0) (ci := 9) (nA := 1) (rest := []) (wr := [(go, .inl (G.2.2.1, 16, .inl (upd (upd go4 ((i : Int32).toNatClampNeg) 0) ((i : Int32).toNatClampNeg) r_36))), (uv, .inl (G.2.1, 24, .inl vf_28)), (sp, .inr (3, [.ref tn, .ref tz, .ref tb, .ref tg, .int c])), (tn, .inl (G.2.1, 384, .inl tfn)), (tz, .inl (G.2.2.1, 16, .inl tfz)), (tb, .inl (G.2.1, 12000, .inl tfb)), (tg, .inl (G.2.2.1, 17, .inl tfg))]) d_Book_check_66 (g_Book_noteRelations hl G h ta ca ps xe mk rd mu fi go sp ss fk fo fp n4 a4 b4 c4 ui ug uv tb ct_19 fa_20 bg_21 at_22 en_23 vs_24 io_25 hi_26 ht_27 gf_29 df_30 i (by first | omega | assumption | decide) (by first | omega | assumption | decide) (by first | omega | assumption | decide) (by first | omega | assumption | decide)) rfl rfl [0, 2, 3, 4, 5, 13, 14, 7] [1, 6, 8, 9, 10, 11, 12] (by decide) rfl rfl rfl (by decide) (by decide) k_905 rfl k_118 k_902 k_904 k_49 (by decide +kernel) (by decide) rfl rfl (Nat.le_of_ble_eq_true rfl) (by decide) (fun v9 ux38 ch37 => ?_)
          obtain ⟨fn_39, gf_40, gf_41, gf_42⟩ := ux38
          obtain ⟨ech37, ch37⟩ := ch37
          have ech37 : v9 = none := ech37
          subst ech37
          obtain ⟨fh43, fh44⟩ : (0 ≤ fn_39.toInt) ∧ (fn_39.toInt ≤ 1232) := ch37
          refine pb_eq (pc' := 69) (lo' := [(1, .int i), (0, .ref h)]) (rest' := []) (ws' := [(go, .inl (G.2.2.1, 16, .inl (upd (upd go4 ((i : Int32).toNatClampNeg) 0) ((i : Int32).toNatClampNeg) r_36))), (uv, .inl (G.2.1, 24, .inl vf_28)), (sp, .inr (3, [.ref tn, .ref tz, .ref tb, .ref tg, .int c])), (tn, .inl (G.2.1, 384, .inl tfn)), (tz, .inl (G.2.2.1, 16, .inl tfz)), (tb, .inl (G.2.1, 12000, .inl tfb)), (tg, .inl (G.2.2.1, 17, .inl tfg)), (h, .inr (9, [.ref ta, .ref ca, .ref ps, .ref xe, .ref mk, .ref rd, .ref mu, .ref fi, .ref go, .ref sp, .ref ss])), (fi, .inr (2, [.ref fk, .ref fo, .ref fp, .int fn_39])), (fk, .inl (G.2.2.1, 1232, .inl gf_40)), (fo, .inl (G.2.2.1, 1232, .inl gf_41)), (fp, .inl (G.2.2.1, 1232, .inl gf_42)), (mu, .inr (8, [.ref ui, .ref ug, .ref uv, .ref tb, .int ct_19, .int fa_20, .int bg_21, .int at_22, .int en_23, .int vs_24, .int io_25, .int hi_26, .int ht_27])), (ug, .inl (G.2.2.1, 200, .inl gf_29)), (ui, .inl (G.2.2.2.1, 200, .inr (.inl df_30)))]) ?_
          refine pb_iincN (pc := 69) (c := 1) d_Book_check_69 0 rfl (by decide) (by decide) (fun ix45 eix45 => ?_)
          have tix45 : ix45.toInt = i.toInt + 1 := t2_add eix45 rfl (by decide) (by omega)
          refine pb_eq (pc' := 72) (lo' := [(1, .int ix45), (0, .ref h)]) (rest' := []) (ws' := [(go, .inl (G.2.2.1, 16, .inl (upd (upd go4 ((i : Int32).toNatClampNeg) 0) ((i : Int32).toNatClampNeg) r_36))), (uv, .inl (G.2.1, 24, .inl vf_28)), (sp, .inr (3, [.ref tn, .ref tz, .ref tb, .ref tg, .int c])), (tn, .inl (G.2.1, 384, .inl tfn)), (tz, .inl (G.2.2.1, 16, .inl tfz)), (tb, .inl (G.2.1, 12000, .inl tfb)), (tg, .inl (G.2.2.1, 17, .inl tfg)), (h, .inr (9, [.ref ta, .ref ca, .ref ps, .ref xe, .ref mk, .ref rd, .ref mu, .ref fi, .ref go, .ref sp, .ref ss])), (fi, .inr (2, [.ref fk, .ref fo, .ref fp, .int fn_39])), (fk, .inl (G.2.2.1, 1232, .inl gf_40)), (fo, .inl (G.2.2.1, 1232, .inl gf_41)), (fp, .inl (G.2.2.1, 1232, .inl gf_42)), (mu, .inr (8, [.ref ui, .ref ug, .ref uv, .ref tb, .int ct_19, .int fa_20, .int bg_21, .int at_22, .int en_23, .int vs_24, .int io_25, .int hi_26, .int ht_27])), (ug, .inl (G.2.2.1, 200, .inl gf_29)), (ui, .inl (G.2.2.2.1, 200, .inr (.inl df_30)))]) ?_
          refine pb_goto (pc := 72) (tgt := 10) d_Book_check_72 (by decide) ?_
          refine pb_re (ws' := [(h, .inr (9, [.ref ta, .ref ca, .ref ps, .ref xe, .ref mk, .ref rd, .ref mu, .ref fi, .ref go, .ref sp, .ref ss])), (sp, .inr (3, [.ref tn, .ref tz, .ref tb, .ref tg, .int c])), (tn, .inl (G.2.1, 384, .inl tfn)), (tz, .inl (G.2.2.1, 16, .inl tfz)), (tb, .inl (G.2.1, 12000, .inl tfb)), (tg, .inl (G.2.2.1, 17, .inl tfg)), (go, .inl (G.2.2.1, 16, .inl (upd (upd go4 ((i : Int32).toNatClampNeg) 0) ((i : Int32).toNatClampNeg) r_36))), (fi, .inr (2, [.ref fk, .ref fo, .ref fp, .int fn_39])), (fk, .inl (G.2.2.1, 1232, .inl gf_40)), (fo, .inl (G.2.2.1, 1232, .inl gf_41)), (fp, .inl (G.2.2.1, 1232, .inl gf_42)), (mu, .inr (8, [.ref ui, .ref ug, .ref uv, .ref tb, .int ct_19, .int fa_20, .int bg_21, .int at_22, .int en_23, .int vs_24, .int io_25, .int hi_26, .int ht_27])), (uv, .inl (G.2.1, 24, .inl vf_28)), (ug, .inl (G.2.2.1, 200, .inl gf_29)), (ui, .inl (G.2.2.2.1, 200, .inr (.inl df_30)))]) (lo' := [(1, .int ix45), (0, .ref h)]) [7, 2, 3, 4, 5, 6, 0, 8, 9, 10, 11, 12, 1, 13, 14] [0, 1] (by decide) rfl rfl rfl ?_
          exact ih10 ix45 fn_39 gf_40 gf_41 gf_42 (upd (upd go4 ((i : Int32).toNatClampNeg) 0) ((i : Int32).toNatClampNeg) r_36) tb ct_19 fa_20 bg_21 at_22 en_23 vs_24 io_25 hi_26 ht_27 vf_28 gf_29 df_30 fh33 (by first | omega | assumption | decide) (by first | omega | assumption | decide) (by first | omega | assumption | decide) (by first | omega | assumption | decide) (by first | omega | assumption | decide) (by omega)
  exact hL10_1 _ 0 0 ff1 ff2 ff3 gof ur ct fa bg at_ en vs io hi ht vf gf df F_vf (by first | omega | assumption | decide) (by first | omega | assumption | decide) (by first | omega | assumption | decide) (by first | omega | assumption | decide) (by first | omega | assumption | decide) (Nat.lt_succ_self _)
