/-! ROWS OF NUMBERS -/
theorem omg_1ec09d3cb1 {x0 : Int} {x1 : Int} {x2 : Int} (a0 : ((x0 = (0 : Int)) ∨ (x0 = (1 : Int)))) (a1 : ((x0 = (1 : Int)) ↔ (((0 : Int) ≤ x1) ∧ (x1 < x2)))) (a2 : (¬ (x0 = (0 : Int)))) : (((0 : Int) ≤ x1) ∧ (x1 < x2)) := by omega
theorem d_Book_relations_0 : decode prog_1_method_18_code 0 = .ok (.aload_n 0, 1) := by decide +kernel
theorem d_Book_relations_1 : decode prog_1_method_18_code 1 = .ok (.getfield 70, 3) := by decide +kernel
theorem d_Book_relations_4 : decode prog_1_method_18_code 4 = .ok (.iload_n 1, 1) := by decide +kernel
theorem d_Book_relations_5 : decode prog_1_method_18_code 5 = .ok (.invokevirtual 139, 3) := by decide +kernel
theorem d_Book_relations_8 : decode prog_1_method_18_code 8 = .ok (.ifCond .ne 13, 3) := by decide +kernel
theorem d_Book_relations_21 : decode prog_1_method_18_code 21 = .ok (.aload_n 0, 1) := by decide +kernel
theorem d_Book_relations_22 : decode prog_1_method_18_code 22 = .ok (.getfield 52, 3) := by decide +kernel
theorem d_Book_relations_25 : decode prog_1_method_18_code 25 = .ok (.aload_n 0, 1) := by decide +kernel
theorem d_Book_relations_26 : decode prog_1_method_18_code 26 = .ok (.getfield 70, 3) := by decide +kernel
theorem d_Book_relations_29 : decode prog_1_method_18_code 29 = .ok (.iload_n 1, 1) := by decide +kernel
theorem d_Book_relations_30 : decode prog_1_method_18_code 30 = .ok (.invokevirtual 209, 3) := by decide +kernel
theorem k_790 : (Jvm.Cond.methodLink "PackageBook" (209 : Nat) ({ cls := "PackageBook$Markup", name := "load", desc := "(LPackageBook$Shelf;I)V" } : Jvm.MethodName)) ∈ uW := uW_of 790 (by decide +kernel) (by decide +kernel)
theorem k_793 : (Jvm.Cond.code ({ cls := "PackageBook$Markup", name := "load", desc := "(LPackageBook$Shelf;I)V" } : Jvm.MethodName) prog_7_method_2_code (6 : Nat) (Option.none : Option Jvm.ClassFile.FieldType)) ∈ uW := uW_of 793 (by decide +kernel) (by decide +kernel)
theorem k_791 : (Jvm.Cond.instanceMethod ({ cls := "PackageBook$Markup", name := "load", desc := "(LPackageBook$Shelf;I)V" } : Jvm.MethodName)) ∈ uW := uW_of 791 (by decide +kernel) (by decide +kernel)
theorem k_792 : (Jvm.Cond.selects "PackageBook$Markup" ({ cls := "PackageBook$Markup", name := "load", desc := "(LPackageBook$Shelf;I)V" } : Jvm.MethodName) ({ cls := "PackageBook$Markup", name := "load", desc := "(LPackageBook$Shelf;I)V" } : Jvm.MethodName)) ∈ uW := uW_of 792 (by decide +kernel) (by decide +kernel)
theorem hy_Markup_load : (y_Markup_load).cls ≠ "java/lang/invoke/MethodHandle" ∧ (y_Markup_load).cls ≠ "java/lang/invoke/VarHandle" ∧ (parseMethodDescriptor (y_Markup_load).desc).map (fun d => d.parameters.length) = some 2 := by decide +kernel
theorem d_Book_relations_33 : decode prog_1_method_18_code 33 = .ok (.aload_n 0, 1) := by decide +kernel
theorem d_Book_relations_34 : decode prog_1_method_18_code 34 = .ok (.getfield 52, 3) := by decide +kernel
theorem d_Book_relations_37 : decode prog_1_method_18_code 37 = .ok (.invokevirtual 235, 3) := by decide +kernel
theorem k_906 : (Jvm.Cond.methodLink "PackageBook" (235 : Nat) ({ cls := "PackageBook$Markup", name := "isFaulty", desc := "()Z" } : Jvm.MethodName)) ∈ uW := uW_of 906 (by decide +kernel) (by decide +kernel)
theorem k_909 : (Jvm.Cond.code ({ cls := "PackageBook$Markup", name := "isFaulty", desc := "()Z" } : Jvm.MethodName) prog_7_method_3_code (1 : Nat) (Option.some Jvm.ClassFile.FieldType.boolean)) ∈ uW := uW_of 909 (by decide +kernel) (by decide +kernel)
theorem k_907 : (Jvm.Cond.instanceMethod ({ cls := "PackageBook$Markup", name := "isFaulty", desc := "()Z" } : Jvm.MethodName)) ∈ uW := uW_of 907 (by decide +kernel) (by decide +kernel)
theorem k_908 : (Jvm.Cond.selects "PackageBook$Markup" ({ cls := "PackageBook$Markup", name := "isFaulty", desc := "()Z" } : Jvm.MethodName) ({ cls := "PackageBook$Markup", name := "isFaulty", desc := "()Z" } : Jvm.MethodName)) ∈ uW := uW_of 908 (by decide +kernel) (by decide +kernel)
theorem hy_Markup_isFaulty : (y_Markup_isFaulty).cls ≠ "java/lang/invoke/MethodHandle" ∧ (y_Markup_isFaulty).cls ≠ "java/lang/invoke/VarHandle" ∧ (parseMethodDescriptor (y_Markup_isFaulty).desc).map (fun d => d.parameters.length) = some 0 := by decide +kernel
theorem d_Book_relations_40 : decode prog_1_method_18_code 40 = .ok (.ifCond .eq 7, 3) := by decide +kernel
theorem d_Book_relations_47 : decode prog_1_method_18_code 47 = .ok (.aload_n 0, 1) := by decide +kernel
theorem d_Book_relations_48 : decode prog_1_method_18_code 48 = .ok (.getfield 52, 3) := by decide +kernel
theorem d_Book_relations_51 : decode prog_1_method_18_code 51 = .ok (.getfield 239, 3) := by decide +kernel
theorem k_322 : (Jvm.Cond.fieldLinkNest "PackageBook" (239 : Nat) "PackageBook$Markup" "count" "I" "PackageBook") ∈ uN := uN_of 322 (by decide +kernel) (by decide +kernel)
theorem d_Book_relations_54 : decode prog_1_method_18_code 54 = .ok (.ireturn, 1) := by decide +kernel
theorem d_Book_relations_43 : decode prog_1_method_18_code 43 = .ok (.iconst (-1), 1) := by decide +kernel
theorem d_Book_relations_44 : decode prog_1_method_18_code 44 = .ok (.goto 10, 3) := by decide +kernel
theorem d_Book_relations_11 : decode prog_1_method_18_code 11 = .ok (.new 143, 3) := by decide +kernel
theorem d_Book_relations_14 : decode prog_1_method_18_code 14 = .ok (.dup, 1) := by decide +kernel
theorem d_Book_relations_15 : decode prog_1_method_18_code 15 = .ok (.ldc 233, 2) := by decide +kernel
theorem d_Book_relations_17 : decode prog_1_method_18_code 17 = .ok (.invokespecial 147, 3) := by decide +kernel
theorem d_Book_relations_20 : decode prog_1_method_18_code 20 = .ok (.athrow, 1) := by decide +kernel
abbrev y_Book_relations : MethodName := ⟨"PackageBook", "relations", "(I)I"⟩
abbrev i_Book_relations : pb_I := (y_Book_relations, prog_1_method_18_code, 2, (some Jvm.ClassFile.FieldType.int), [], { frames := 10, cells := 1, slots := 6, locals := 225 })
set_option maxRecDepth 100000 in
set_option maxHeartbeats 4000000 in
theorem g_Book_relations {l : Launch} (hl : l.stackTraces = false) (G : pb_G) (h : Nat) (ta : Nat) (ca : Nat) (ps : Nat) (xe : Nat) (mk : Nat) (rd : Nat) (mu : Nat) (fi : Nat) (go : Nat) (sp : Nat) (ss : Nat) (tn : Nat) (tz : Nat) (tb : Nat) (tg : Nat) (c : Int32) (tfn : Nat → Int32) (tfz : Nat → Int32) (tfb : Nat → Int32) (tfg : Nat → Int32) (ui : Nat) (ug : Nat) (uv : Nat) (ur : Nat) (ct : Int32) (fa : Int32) (bg : Int32) (at_ : Int32) (en : Int32) (vs : Int32) (io : Int32) (hi : Int32) (ht : Int32) (vf : Nat → Int32) (gf : Nat → Int32) (df : Nat → Int64) (i : Int32) (I : sh_I c.toInt tfz tfg) (k0 : 0 ≤ ct.toInt) (k1 : ct.toInt ≤ 200) (F_tfn : sb_Fit tfn) (F_tfb : sb_Fit tfb) (F_vf : sb_Fit vf) : Cx l G i_Book_relations [.ref h, .int i] [(h, .inr (9, [.ref ta, .ref ca, .ref ps, .ref xe, .ref mk, .ref rd, .ref mu, .ref fi, .ref go, .ref sp, .ref ss])), (sp, .inr (3, [.ref tn, .ref tz, .ref tb, .ref tg, .int c])), (tn, .inl (G.2.1, 384, .inl tfn)), (tz, .inl (G.2.2.1, 16, .inl tfz)), (tb, .inl (G.2.1, 12000, .inl tfb)), (tg, .inl (G.2.2.1, 17, .inl tfg)), (mu, .inr (8, [.ref ui, .ref ug, .ref uv, .ref ur, .int ct, .int fa, .int bg, .int at_, .int en, .int vs, .int io, .int hi, .int ht])), (uv, .inl (G.2.1, 24, .inl vf)), (ug, .inl (G.2.2.1, 200, .inl gf)), (ui, .inl (G.2.2.2.1, 200, .inr (.inl df)))] (S := Int32 × Nat × Int32 × Int32 × Int32 × Int32 × Int32 × Int32 × Int32 × Int32 × Int32 × (Nat → Int32) × (Nat → Int32) × (Nat → Int64)) (SX := Unit) (fun rv_ u => rv_ = some (.int u.1) ∧ (0 ≤ u.2.2.1.toInt) ∧ (u.2.2.1.toInt ≤ 200) ∧ (0 ≤ i.toInt ∧ i.toInt < c.toInt) ∧ (hid_ (∃ t : Int, isF_ (cN_ c.toInt tfn tfz) (gx tfz i.toInt + 5) (tn6_ (cN_ c.toInt tfn tfz) i.toInt) t ∧ u.1.toInt = nl6_ (tT6_ t (mk_ (mB_ tfb (gx tfg t)) (gx tfg (t + 1) - gx tfg t))))) ∧ (sb_Fit u.2.2.2.2.2.2.2.2.2.2.2.1)) (fun u => [(h, .inr (9, [.ref ta, .ref ca, .ref ps, .ref xe, .ref mk, .ref rd, .ref mu, .ref fi, .ref go, .ref sp, .ref ss])), (sp, .inr (3, [.ref tn, .ref tz, .ref tb, .ref tg, .int c])), (tn, .inl (G.2.1, 384, .inl tfn)), (tz, .inl (G.2.2.1, 16, .inl tfz)), (tb, .inl (G.2.1, 12000, .inl tfb)), (tg, .inl (G.2.2.1, 17, .inl tfg)), (mu, .inr (8, [.ref ui, .ref ug, .ref uv, .ref u.2.1, .int u.2.2.1, .int u.2.2.2.1, .int u.2.2.2.2.1, .int u.2.2.2.2.2.1, .int u.2.2.2.2.2.2.1, .int u.2.2.2.2.2.2.2.1, .int u.2.2.2.2.2.2.2.2.1, .int u.2.2.2.2.2.2.2.2.2.1, .int u.2.2.2.2.2.2.2.2.2.2.1])), (uv, .inl (G.2.1, 24, .inl u.2.2.2.2.2.2.2.2.2.2.2.1)), (ug, .inl (G.2.2.1, 200, .inl u.2.2.2.2.2.2.2.2.2.2.2.2.1)), (ui, .inl (G.2.2.2.1, 200, .inr (.inl u.2.2.2.2.2.2.2.2.2.2.2.2.2)))]) (fun E u => (E = "java/lang/IndexOutOfBoundsException" ∧ (¬ (0 ≤ i.toInt ∧ i.toInt < c.toInt)))) (fun u => [(h, .inr (9, [.ref ta, .ref ca, .ref ps, .ref xe, .ref mk, .ref rd, .ref mu, .ref fi, .ref go, .ref sp, .ref ss])), (sp, .inr (3, [.ref tn, .ref tz, .ref tb, .ref tg, .int c])), (tn, .inl (G.2.1, 384, .inl tfn)), (tz, .inl (G.2.2.1, 16, .inl tfz)), (tb, .inl (G.2.1, 12000, .inl tfb)), (tg, .inl (G.2.2.1, 17, .inl tfg)), (mu, .inr (8, [.ref ui, .ref ug, .ref uv, .ref ur, .int ct, .int fa, .int bg, .int at_, .int en, .int vs, .int io, .int hi, .int ht])), (uv, .inl (G.2.1, 24, .inl vf)), (ug, .inl (G.2.2.1, 200, .inl gf)), (ui, .inl (G.2.2.2.1, 200, .inr (.inl df)))]) := by
  refine Cx.of hl (by decide +kernel) rfl (Nat.le_of_ble_eq_true rfl) (fun M hQ => ?_)
  refine pb_eq (pc' := 0) (lo' := [(0, .ref h), (1, .int i)]) (rest' := []) (ws' := [(h, .inr (9, [.ref ta, .ref ca, .ref ps, .ref xe, .ref mk, .ref rd, .ref mu, .ref fi, .ref go, .ref sp, .ref ss])), (sp, .inr (3, [.ref tn, .ref tz, .ref tb, .ref tg, .int c])), (tn, .inl (G.2.1, 384, .inl tfn)), (tz, .inl (G.2.2.1, 16, .inl tfz)), (tb, .inl (G.2.1, 12000, .inl tfb)), (tg, .inl (G.2.2.1, 17, .inl tfg)), (mu, .inr (8, [.ref ui, .ref ug, .ref uv, .ref ur, .int ct, .int fa, .int bg, .int at_, .int en, .int vs, .int io, .int hi, .int ht])), (uv, .inl (G.2.1, 24, .inl vf)), (ug, .inl (G.2.2.1, 200, .inl gf)), (ui, .inl (G.2.2.2.1, 200, .inr (.inl df)))]) ?_
  have zm1 : ((-1) : Int32).toInt = (-1) := by decide
  have zl0 : (0 : Int32).toInt = 0 := by decide
  have zl1 : (1 : Int32).toInt = 1 := by decide
  refine pb_aload_n (pc := 0) d_Book_relations_0 0 rfl rfl ?_
  refine pb_get (pc := 1) d_Book_relations_1 0 9 rfl rfl (by decide) in_Book k_426 rfl ?_
  refine pb_iload_n (pc := 4) d_Book_relations_4 1 rfl rfl ?_
  refine pb_callV (pc := 5) (I := i_Book_relations) (qb := 1) (ci := 3) (nA := 1) (rest := []) (wr := [(h, .inr (9, [.ref ta, .ref ca, .ref ps, .ref xe, .ref mk, .ref rd, .ref mu, .ref fi, .ref go, .ref sp, .ref ss])), (tn, .inl (G.2.1, 384, .inl tfn)), (tz, .inl (G.2.2.1, 16, .inl tfz)), (tb, .inl (G.2.1, 12000, .inl tfb)), (tg, .inl (G.2.2.1, 17, .inl tfg)), (mu, .inr (8, [.ref ui, .ref ug, .ref uv, .ref ur, .int ct, .int fa, .int bg, .int at_, .int en, .int vs, .int io, .int hi, .int ht])), (uv, .inl (G.2.1, 24, .inl vf)), (ug, .inl (G.2.2.1, 200, .inl gf)), (ui, .inl (G.2.2.2.1, 200, .inr (.inl df)))]) d_Book_relations_5 (g_Shelf_has hl G sp tn tz tb tg c i) rfl rfl [1] [0, 2, 3, 4, 5, 6, 7, 8, 9] (by decide) rfl rfl rfl (by decide) (by decide) k_473 rfl k_127 k_1054 k_471 k_472 ⟨rfl, hy_Shelf_has⟩ (by decide) rfl rfl (Nat.le_of_ble_eq_true rfl) (by decide) (fun v9 ux2 ch1 => ?_)
  obtain ⟨r_3, rfl⟩ : ∃ z9, z9 = ux2 := ⟨_, rfl⟩
  obtain ⟨ech1, ch1⟩ := ch1
  have ech1 : v9 = some (.int r_3) := ech1
  subst ech1
  obtain ⟨fh4, fh5⟩ : (r_3.toInt = 0 ∨ r_3.toInt = 1) ∧ (r_3.toInt = 1 ↔ 0 ≤ i.toInt ∧ i.toInt < c.toInt) := ch1
  refine pb_eq (pc' := 8) (lo' := [(0, .ref h), (1, .int i)]) (rest' := [.int r_3]) (ws' := [(h, .inr (9, [.ref ta, .ref ca, .ref ps, .ref xe, .ref mk, .ref rd, .ref mu, .ref fi, .ref go, .ref sp, .ref ss])), (tn, .inl (G.2.1, 384, .inl tfn)), (tz, .inl (G.2.2.1, 16, .inl tfz)), (tb, .inl (G.2.1, 12000, .inl tfb)), (tg, .inl (G.2.2.1, 17, .inl tfg)), (mu, .inr (8, [.ref ui, .ref ug, .ref uv, .ref ur, .int ct, .int fa, .int bg, .int at_, .int en, .int vs, .int io, .int hi, .int ht])), (uv, .inl (G.2.1, 24, .inl vf)), (ug, .inl (G.2.2.1, 200, .inl gf)), (ui, .inl (G.2.2.2.1, 200, .inr (.inl df))), (sp, .inr (3, [.ref tn, .ref tz, .ref tb, .ref tg, .int c]))]) ?_
  refine pb_if_ne (pc := 8) (tgt := 21) d_Book_relations_8 (by decide) (fun wx6 => ?_) (fun wx6 => ?_)
  · have twx6 : ¬ r_3.toInt = 0 := fun z9 => wx6 ((ti_eq rfl (by decide)).mpr z9)
    refine pb_aload_n (pc := 21) d_Book_relations_21 0 rfl rfl ?_
    refine pb_get (pc := 22) d_Book_relations_22 0 6 rfl rfl (by decide) in_Book k_423 rfl ?_
    refine pb_aload_n (pc := 25) d_Book_relations_25 0 rfl rfl ?_
    refine pb_get (pc := 26) d_Book_relations_26 0 9 rfl rfl (by decide) in_Book k_426 rfl ?_
    refine pb_iload_n (pc := 29) d_Book_relations_29 1 rfl rfl ?_
    refine pb_callV (pc := 30) (I := i_Book_relations) (qb := 5) (ci := 8) (nA := 2) (rest := []) (wr := [(h, .inr (9, [.ref ta, .ref ca, .ref ps, .ref xe, .ref mk, .ref rd, .ref mu, .ref fi, .ref go, .ref sp, .ref ss]))]) d_Book_relations_30 (g_Mu_load hl G mu ui ug uv ur ct fa bg at_ en vs io hi ht vf gf df sp tn tz tb tg c tfn tfz tfb tfg i (by first | assumption | decide | omega) (by first | (with_reducible assumption) | omega (splitDisjunctions := false) | assumption | omega | decide) (by first | (with_reducible assumption) | omega (splitDisjunctions := false) | assumption | omega | decide) F_vf F_tfn F_tfb) rfl rfl [5, 6, 7, 8, 9, 1, 2, 3, 4] [0] (by decide) rfl rfl rfl (by decide) (by decide) k_793 rfl k_125 k_790 k_791 k_792 ⟨rfl, hy_Markup_load⟩ (by decide) rfl rfl (Nat.le_of_ble_eq_true rfl) (by decide) (fun v9 ux8 ch7 => ?_)
    obtain ⟨ct_9, fa_10, bg_11, at_12, en_13, vs_14, io_15, hi_16, ht_17, vf_18, gf_19, df_20⟩ := ux8
    obtain ⟨ech7, ch7⟩ := ch7
    have ech7 : v9 = none := ech7
    subst ech7
    obtain ⟨fh21, fh22, fh23, fh24⟩ : (0 ≤ ct_9.toInt) ∧ (ct_9.toInt ≤ 200) ∧ (hid_ (∃ t : Int, isF_ (cN_ c.toInt tfn tfz) (gx tfz i.toInt + 5) (tn6_ (cN_ c.toInt tfn tfz) i.toInt) t ∧ lo6_ (cN_ c.toInt tfn tfz) t tfb tfg ct_9.toInt fa_10.toInt gf_19)) ∧ (sb_Fit vf_18) := ch7
    have ldF := fh23
    refine pb_eq (pc' := 33) (lo' := [(0, .ref h), (1, .int i)]) (rest' := []) (ws' := [(h, .inr (9, [.ref ta, .ref ca, .ref ps, .ref xe, .ref mk, .ref rd, .ref mu, .ref fi, .ref go, .ref sp, .ref ss])), (mu, .inr (8, [.ref ui, .ref ug, .ref uv, .ref tb, .int ct_9, .int fa_10, .int bg_11, .int at_12, .int en_13, .int vs_14, .int io_15, .int hi_16, .int ht_17])), (uv, .inl (G.2.1, 24, .inl vf_18)), (ug, .inl (G.2.2.1, 200, .inl gf_19)), (ui, .inl (G.2.2.2.1, 200, .inr (.inl df_20))), (sp, .inr (3, [.ref tn, .ref tz, .ref tb, .ref tg, .int c])), (tn, .inl (G.2.1, 384, .inl tfn)), (tz, .inl (G.2.2.1, 16, .inl tfz)), (tb, .inl (G.2.1, 12000, .inl tfb)), (tg, .inl (G.2.2.1, 17, .inl tfg))]) ?_
    refine pb_aload_n (pc := 33) d_Book_relations_33 0 rfl rfl ?_
    refine pb_get (pc := 34) d_Book_relations_34 0 6 rfl rfl (by decide) in_Book k_423 rfl ?_
    refine pb_callV (pc := 37) (I := i_Book_relations) (qb := 1) (ci := 8) (nA := 0) (rest := []) (wr := [(h, .inr (9, [.ref ta, .ref ca, .ref ps, .ref xe, .ref mk, .ref rd, .ref mu, .ref fi, .ref go, .ref sp, .ref ss])), (uv, .inl (G.2.1, 24, .inl vf_18)), (ug, .inl (G.2.2.1, 200, .inl gf_19)), (ui, .inl (G.2.2.2.1, 200, .inr (.inl df_20))), (sp, .inr (3, [.ref tn, .ref tz, .ref tb, .ref tg, .int c])), (tn, .inl (G.2.1, 384, .inl tfn)), (tz, .inl (G.2.2.1, 16, .inl tfz)), (tb, .inl (G.2.1, 12000, .inl tfb)), (tg, .inl (G.2.2.1, 17, .inl tfg))]) d_Book_relations_37 (g_Mu_isFaulty hl G mu ui ug uv tb ct_9 fa_10 bg_11 at_12 en_13 vs_14 io_15 hi_16 ht_17) rfl rfl [1] [0, 2, 3, 4, 5, 6, 7, 8, 9] (by decide) rfl rfl rfl (by decide) (by decide) k_909 rfl k_125 k_906 k_907 k_908 ⟨rfl, hy_Markup_isFaulty⟩ (by decide) rfl rfl (Nat.le_of_ble_eq_true rfl) (by decide) (fun v9 ux26 ch25 => ?_)
    obtain ⟨r_27, rfl⟩ : ∃ z9, z9 = ux26 := ⟨_, rfl⟩
    obtain ⟨ech25, ch25⟩ := ch25
    have ech25 : v9 = some (.int r_27) := ech25
    subst ech25
    obtain ⟨fh28, fh29⟩ : (r_27.toInt = 0 ∨ r_27.toInt = 1) ∧ ((r_27.toInt = 1 ∧ 0 ≤ fa_10.toInt) ∨ (r_27.toInt = 0 ∧ fa_10.toInt < 0)) := ch25
    refine pb_eq (pc' := 40) (lo' := [(0, .ref h), (1, .int i)]) (rest' := [.int r_27]) (ws' := [(h, .inr (9, [.ref ta, .ref ca, .ref ps, .ref xe, .ref mk, .ref rd, .ref mu, .ref fi, .ref go, .ref sp, .ref ss])), (uv, .inl (G.2.1, 24, .inl vf_18)), (ug, .inl (G.2.2.1, 200, .inl gf_19)), (ui, .inl (G.2.2.2.1, 200, .inr (.inl df_20))), (sp, .inr (3, [.ref tn, .ref tz, .ref tb, .ref tg, .int c])), (tn, .inl (G.2.1, 384, .inl tfn)), (tz, .inl (G.2.2.1, 16, .inl tfz)), (tb, .inl (G.2.1, 12000, .inl tfb)), (tg, .inl (G.2.2.1, 17, .inl tfg)), (mu, .inr (8, [.ref ui, .ref ug, .ref uv, .ref tb, .int ct_9, .int fa_10, .int bg_11, .int at_12, .int en_13, .int vs_14, .int io_15, .int hi_16, .int ht_17]))]) ?_
    refine pb_if_eq (pc := 40) (tgt := 47) d_Book_relations_40 (by decide) (fun wx30 => ?_) (fun wx30 => ?_)
    · have twx30 : r_27.toInt = 0 := (ti_eq rfl (by decide)).mp wx30
      refine pb_aload_n (pc := 47) d_Book_relations_47 0 rfl rfl ?_
      refine pb_get (pc := 48) d_Book_relations_48 0 6 rfl rfl (by decide) in_Book k_423 rfl ?_
      refine pb_getN (pc := 51) d_Book_relations_51 9 4 rfl rfl (by decide) in_Markup k_322 rfl ?_
      exact pb_iretx (pc := 54) hQ d_Book_relations_54 rfl rfl (ct_9, tb, ct_9, fa_10, bg_11, at_12, en_13, vs_14, io_15, hi_16, ht_17, vf_18, gf_19, df_20) ⟨rfl, (by (try dsimp only); first | done | (with_reducible assumption) | omega (splitDisjunctions := false) | assumption | omega | decide), (by (try dsimp only); first | done | (with_reducible assumption) | omega (splitDisjunctions := false) | assumption | omega | decide), (by (try dsimp only); first | done | (with_reducible assumption) | omega (splitDisjunctions := false) | assumption | (exact omg_1ec09d3cb1 fh4 fh5 twx6) | decide), (show hid_ (∃ t : Int, isF_ (cN_ c.toInt tfn tfz) (gx tfz i.toInt + 5) (tn6_ (cN_ c.toInt tfn tfz) i.toInt) t ∧ ct_9.toInt = nl6_ (tT6_ t (mk_ (mB_ tfb (gx tfg t)) (gx tfg (t + 1) - gx tfg t)))) from (by obtain ⟨t9, y1, y2⟩ := hid_o ldF; exact hid_i ⟨t9, y1, nl_c y2 (by omega)⟩)), fh24⟩ [0, 4, 5, 6, 7, 8, 9, 1, 2, 3] (by decide) rfl rfl (by decide) (by decide)
    · have twx30 : ¬ r_27.toInt = 0 := fun z9 => wx30 ((ti_eq rfl (by decide)).mpr z9)
      refine pb_iconst (pc := 43) (v := (-1)) d_Book_relations_43 (by decide) ?_
      refine pb_goto (pc := 44) (tgt := 54) d_Book_relations_44 (by decide) ?_
      exact pb_iretx (pc := 54) hQ d_Book_relations_54 rfl rfl ((-1), tb, ct_9, fa_10, bg_11, at_12, en_13, vs_14, io_15, hi_16, ht_17, vf_18, gf_19, df_20) ⟨rfl, (by (try dsimp only); first | done | (with_reducible assumption) | omega (splitDisjunctions := false) | assumption | omega | decide), (by (try dsimp only); first | done | (with_reducible assumption) | omega (splitDisjunctions := false) | assumption | omega | decide), (by (try dsimp only); first | done | (with_reducible assumption) | omega (splitDisjunctions := false) | assumption | (exact omg_1ec09d3cb1 fh4 fh5 twx6) | decide), (show hid_ (∃ t : Int, isF_ (cN_ c.toInt tfn tfz) (gx tfz i.toInt + 5) (tn6_ (cN_ c.toInt tfn tfz) i.toInt) t ∧ ((-1) : Int32).toInt = nl6_ (tT6_ t (mk_ (mB_ tfb (gx tfg t)) (gx tfg (t + 1) - gx tfg t)))) from (by obtain ⟨t9, y1, y2⟩ := hid_o ldF; exact hid_i ⟨t9, y1, nl_c y2 (by omega)⟩)), fh24⟩ [0, 4, 5, 6, 7, 8, 9, 1, 2, 3] (by decide) rfl rfl (by decide) (by decide)
  · have twx6 : r_3.toInt = 0 := (ti_eq rfl (by decide)).mp wx6
    exact pb_throwS (pc := 11) (cls := "java/lang/IndexOutOfBoundsException") (text := "no such part") (names := ["java/lang/RuntimeException", "java/lang/Exception"]) hQ d_Book_relations_11 d_Book_relations_14 d_Book_relations_15 d_Book_relations_17 d_Book_relations_20 (by decide +kernel) (by decide +kernel) tx_Book_143_147 (by decide +kernel) (by decide) (Nat.le_of_ble_eq_true rfl) (by decide) (by decide) () ⟨rfl, (by (try dsimp only); first | done | (with_reducible assumption) | omega (splitDisjunctions := false) | assumption | omega | decide)⟩ [0, 9, 1, 2, 3, 4, 5, 6, 7, 8] (by decide) rfl rfl

theorem d_Book_relation_0 : decode prog_1_method_19_code 0 = .ok (.aload_n 0, 1) := by decide +kernel
theorem d_Book_relation_1 : decode prog_1_method_19_code 1 = .ok (.getfield 70, 3) := by decide +kernel
theorem d_Book_relation_4 : decode prog_1_method_19_code 4 = .ok (.iload_n 1, 1) := by decide +kernel
theorem d_Book_relation_5 : decode prog_1_method_19_code 5 = .ok (.invokevirtual 139, 3) := by decide +kernel
theorem d_Book_relation_8 : decode prog_1_method_19_code 8 = .ok (.ifCond .ne 13, 3) := by decide +kernel
theorem d_Book_relation_21 : decode prog_1_method_19_code 21 = .ok (.aload_n 0, 1) := by decide +kernel
theorem d_Book_relation_22 : decode prog_1_method_19_code 22 = .ok (.getfield 52, 3) := by decide +kernel
theorem d_Book_relation_25 : decode prog_1_method_19_code 25 = .ok (.aload_n 0, 1) := by decide +kernel
theorem d_Book_relation_26 : decode prog_1_method_19_code 26 = .ok (.getfield 70, 3) := by decide +kernel
theorem d_Book_relation_29 : decode prog_1_method_19_code 29 = .ok (.iload_n 1, 1) := by decide +kernel
theorem d_Book_relation_30 : decode prog_1_method_19_code 30 = .ok (.invokevirtual 209, 3) := by decide +kernel
theorem d_Book_relation_33 : decode prog_1_method_19_code 33 = .ok (.iload_n 2, 1) := by decide +kernel
theorem d_Book_relation_34 : decode prog_1_method_19_code 34 = .ok (.ifCond .lt 14, 3) := by decide +kernel
theorem d_Book_relation_48 : decode prog_1_method_19_code 48 = .ok (.new 143, 3) := by decide +kernel
theorem d_Book_relation_51 : decode prog_1_method_19_code 51 = .ok (.dup, 1) := by decide +kernel
theorem d_Book_relation_52 : decode prog_1_method_19_code 52 = .ok (.ldc 240, 2) := by decide +kernel
theorem d_Book_relation_54 : decode prog_1_method_19_code 54 = .ok (.invokespecial 147, 3) := by decide +kernel
theorem d_Book_relation_57 : decode prog_1_method_19_code 57 = .ok (.athrow, 1) := by decide +kernel
theorem d_Book_relation_37 : decode prog_1_method_19_code 37 = .ok (.iload_n 2, 1) := by decide +kernel
theorem d_Book_relation_38 : decode prog_1_method_19_code 38 = .ok (.aload_n 0, 1) := by decide +kernel
theorem d_Book_relation_39 : decode prog_1_method_19_code 39 = .ok (.getfield 52, 3) := by decide +kernel
theorem d_Book_relation_42 : decode prog_1_method_19_code 42 = .ok (.getfield 239, 3) := by decide +kernel
theorem d_Book_relation_45 : decode prog_1_method_19_code 45 = .ok (.if_icmp .lt 13, 3) := by decide +kernel
theorem d_Book_relation_58 : decode prog_1_method_19_code 58 = .ok (.aload_n 0, 1) := by decide +kernel
theorem d_Book_relation_59 : decode prog_1_method_19_code 59 = .ok (.getfield 52, 3) := by decide +kernel
theorem d_Book_relation_62 : decode prog_1_method_19_code 62 = .ok (.getfield 242, 3) := by decide +kernel
theorem k_318 : (Jvm.Cond.fieldLinkNest "PackageBook" (242 : Nat) "PackageBook$Markup" "goals" "[I" "PackageBook") ∈ uN := uN_of 318 (by decide +kernel) (by decide +kernel)
theorem d_Book_relation_65 : decode prog_1_method_19_code 65 = .ok (.iload_n 2, 1) := by decide +kernel
theorem d_Book_relation_66 : decode prog_1_method_19_code 66 = .ok (.iaload, 1) := by decide +kernel
theorem d_Book_relation_67 : decode prog_1_method_19_code 67 = .ok (.ireturn, 1) := by decide +kernel
theorem d_Book_relation_11 : decode prog_1_method_19_code 11 = .ok (.new 143, 3) := by decide +kernel
theorem d_Book_relation_14 : decode prog_1_method_19_code 14 = .ok (.dup, 1) := by decide +kernel
theorem d_Book_relation_15 : decode prog_1_method_19_code 15 = .ok (.ldc 233, 2) := by decide +kernel
theorem d_Book_relation_17 : decode prog_1_method_19_code 17 = .ok (.invokespecial 147, 3) := by decide +kernel
theorem d_Book_relation_20 : decode prog_1_method_19_code 20 = .ok (.athrow, 1) := by decide +kernel
abbrev y_Book_relation : MethodName := ⟨"PackageBook", "relation", "(II)I"⟩
abbrev i_Book_relation : pb_I := (y_Book_relation, prog_1_method_19_code, 3, (some Jvm.ClassFile.FieldType.int), [], { frames := 10, cells := 1, slots := 6, locals := 225 })
set_option maxRecDepth 100000 in
set_option maxHeartbeats 4000000 in
theorem g_Book_relation {l : Launch} (hl : l.stackTraces = false) (G : pb_G) (h : Nat) (ta : Nat) (ca : Nat) (ps : Nat) (xe : Nat) (mk : Nat) (rd : Nat) (mu : Nat) (fi : Nat) (go : Nat) (sp : Nat) (ss : Nat) (tn : Nat) (tz : Nat) (tb : Nat) (tg : Nat) (c : Int32) (tfn : Nat → Int32) (tfz : Nat → Int32) (tfb : Nat → Int32) (tfg : Nat → Int32) (ui : Nat) (ug : Nat) (uv : Nat) (ur : Nat) (ct : Int32) (fa : Int32) (bg : Int32) (at_ : Int32) (en : Int32) (vs : Int32) (io : Int32) (hi : Int32) (ht : Int32) (vf : Nat → Int32) (gf : Nat → Int32) (df : Nat → Int64) (i : Int32) (k : Int32) (I : sh_I c.toInt tfz tfg) (k0 : 0 ≤ ct.toInt) (k1 : ct.toInt ≤ 200) (F_tfn : sb_Fit tfn) (F_tfb : sb_Fit tfb) (F_vf : sb_Fit vf) : Cx l G i_Book_relation [.ref h, .int i, .int k] [(h, .inr (9, [.ref ta, .ref ca, .ref ps, .ref xe, .ref mk, .ref rd, .ref mu, .ref fi, .ref go, .ref sp, .ref ss])), (sp, .inr (3, [.ref tn, .ref tz, .ref tb, .ref tg, .int c])), (tn, .inl (G.2.1, 384, .inl tfn)), (tz, .inl (G.2.2.1, 16, .inl tfz)), (tb, .inl (G.2.1, 12000, .inl tfb)), (tg, .inl (G.2.2.1, 17, .inl tfg)), (mu, .inr (8, [.ref ui, .ref ug, .ref uv, .ref ur, .int ct, .int fa, .int bg, .int at_, .int en, .int vs, .int io, .int hi, .int ht])), (uv, .inl (G.2.1, 24, .inl vf)), (ug, .inl (G.2.2.1, 200, .inl gf)), (ui, .inl (G.2.2.2.1, 200, .inr (.inl df)))] (S := Int32 × Nat × Int32 × Int32 × Int32 × Int32 × Int32 × Int32 × Int32 × Int32 × Int32 × (Nat → Int32) × (Nat → Int32) × (Nat → Int64)) (SX := Nat × Int32 × Int32 × Int32 × Int32 × Int32 × Int32 × Int32 × Int32 × Int32 × (Nat → Int32) × (Nat → Int32) × (Nat → Int64)) (fun rv_ u => rv_ = some (.int u.1) ∧ (0 ≤ u.2.2.1.toInt) ∧ (u.2.2.1.toInt ≤ 200) ∧ (0 ≤ i.toInt ∧ i.toInt < c.toInt) ∧ (hid_ (∃ t : Int, isF_ (cN_ c.toInt tfn tfz) (gx tfz i.toInt + 5) (tn6_ (cN_ c.toInt tfn tfz) i.toInt) t ∧ gq6_ (cN_ c.toInt tfn tfz) (tT6_ t (mk_ (mB_ tfb (gx tfg t)) (gx tfg (t + 1) - gx tfg t))) k.toInt u.1.toInt 0)) ∧ (sb_Fit u.2.2.2.2.2.2.2.2.2.2.2.1)) (fun u => [(h, .inr (9, [.ref ta, .ref ca, .ref ps, .ref xe, .ref mk, .ref rd, .ref mu, .ref fi, .ref go, .ref sp, .ref ss])), (sp, .inr (3, [.ref tn, .ref tz, .ref tb, .ref tg, .int c])), (tn, .inl (G.2.1, 384, .inl tfn)), (tz, .inl (G.2.2.1, 16, .inl tfz)), (tb, .inl (G.2.1, 12000, .inl tfb)), (tg, .inl (G.2.2.1, 17, .inl tfg)), (mu, .inr (8, [.ref ui, .ref ug, .ref uv, .ref u.2.1, .int u.2.2.1, .int u.2.2.2.1, .int u.2.2.2.2.1, .int u.2.2.2.2.2.1, .int u.2.2.2.2.2.2.1, .int u.2.2.2.2.2.2.2.1, .int u.2.2.2.2.2.2.2.2.1, .int u.2.2.2.2.2.2.2.2.2.1, .int u.2.2.2.2.2.2.2.2.2.2.1])), (uv, .inl (G.2.1, 24, .inl u.2.2.2.2.2.2.2.2.2.2.2.1)), (ug, .inl (G.2.2.1, 200, .inl u.2.2.2.2.2.2.2.2.2.2.2.2.1)), (ui, .inl (G.2.2.2.1, 200, .inr (.inl u.2.2.2.2.2.2.2.2.2.2.2.2.2)))]) (fun E u => (E = "java/lang/IndexOutOfBoundsException" ∧ (0 ≤ u.2.1.toInt) ∧ (u.2.1.toInt ≤ 200) ∧ (sb_Fit u.2.2.2.2.2.2.2.2.2.2.1) ∧ (hid_ (¬ (0 ≤ i.toInt ∧ i.toInt < c.toInt) ∨ ((0 ≤ i.toInt ∧ i.toInt < c.toInt) ∧ ∃ t : Int, isF_ (cN_ c.toInt tfn tfz) (gx tfz i.toInt + 5) (tn6_ (cN_ c.toInt tfn tfz) i.toInt) t ∧ gq6_ (cN_ c.toInt tfn tfz) (tT6_ t (mk_ (mB_ tfb (gx tfg t)) (gx tfg (t + 1) - gx tfg t))) k.toInt 0 1))))) (fun u => [(h, .inr (9, [.ref ta, .ref ca, .ref ps, .ref xe, .ref mk, .ref rd, .ref mu, .ref fi, .ref go, .ref sp, .ref ss])), (sp, .inr (3, [.ref tn, .ref tz, .ref tb, .ref tg, .int c])), (tn, .inl (G.2.1, 384, .inl tfn)), (tz, .inl (G.2.2.1, 16, .inl tfz)), (tb, .inl (G.2.1, 12000, .inl tfb)), (tg, .inl (G.2.2.1, 17, .inl tfg)), (mu, .inr (8, [.ref ui, .ref ug, .ref uv, .ref u.1, .int u.2.1, .int u.2.2.1, .int u.2.2.2.1, .int u.2.2.2.2.1, .int u.2.2.2.2.2.1, .int u.2.2.2.2.2.2.1, .int u.2.2.2.2.2.2.2.1, .int u.2.2.2.2.2.2.2.2.1, .int u.2.2.2.2.2.2.2.2.2.1])), (uv, .inl (G.2.1, 24, .inl u.2.2.2.2.2.2.2.2.2.2.1)), (ug, .inl (G.2.2.1, 200, .inl u.2.2.2.2.2.2.2.2.2.2.2.1)), (ui, .inl (G.2.2.2.1, 200, .inr (.inl u.2.2.2.2.2.2.2.2.2.2.2.2)))]) := by
  refine Cx.of hl (by decide +kernel) rfl (Nat.le_of_ble_eq_true rfl) (fun M hQ => ?_)
  refine pb_eq (pc' := 0) (lo' := [(0, .ref h), (1, .int i), (2, .int k)]) (rest' := []) (ws' := [(h, .inr (9, [.ref ta, .ref ca, .ref ps, .ref xe, .ref mk, .ref rd, .ref mu, .ref fi, .ref go, .ref sp, .ref ss])), (sp, .inr (3, [.ref tn, .ref tz, .ref tb, .ref tg, .int c])), (tn, .inl (G.2.1, 384, .inl tfn)), (tz, .inl (G.2.2.1, 16, .inl tfz)), (tb, .inl (G.2.1, 12000, .inl tfb)), (tg, .inl (G.2.2.1, 17, .inl tfg)), (mu, .inr (8, [.ref ui, .ref ug, .ref uv, .ref ur, .int ct, .int fa, .int bg, .int at_, .int en, .int vs, .int io, .int hi, .int ht])), (uv, .inl (G.2.1, 24, .inl vf)), (ug, .inl (G.2.2.1, 200, .inl gf)), (ui, .inl (G.2.2.2.1, 200, .inr (.inl df)))]) ?_
  have zl0 : (0 : Int32).toInt = 0 := by decide
  have zl1 : (1 : Int32).toInt = 1 := by decide
  refine pb_aload_n (pc := 0) d_Book_relation_0 0 rfl rfl ?_
  refine pb_get (pc := 1) d_Book_relation_1 0 9 rfl rfl (by decide) in_Book k_426 rfl ?_
  refine pb_iload_n (pc := 4) d_Book_relation_4 1 rfl rfl ?_
  refine pb_callV (pc := 5) (I := i_Book_relation) (qb := 1) (ci := 3) (nA := 1) (rest := []) (wr := [(h, .inr (9, [.ref ta, .ref ca, .ref ps, .ref xe, .ref mk, .ref rd, .ref mu, .ref fi, .ref go, .ref sp, .ref ss])), (tn, .inl (G.2.1, 384, .inl tfn)), (tz, .inl (G.2.2.1, 16, .inl tfz)), (tb, .inl (G.2.1, 12000, .inl tfb)), (tg, .inl (G.2.2.1, 17, .inl tfg)), (mu, .inr (8, [.ref ui, .ref ug, .ref uv, .ref ur, .int ct, .int fa, .int bg, .int at_, .int en, .int vs, .int io, .int hi, .int ht])), (uv, .inl (G.2.1, 24, .inl vf)), (ug, .inl (G.2.2.1, 200, .inl gf)), (ui, .inl (G.2.2.2.1, 200, .inr (.inl df)))]) d_Book_relation_5 (g_Shelf_has hl G sp tn tz tb tg c i) rfl rfl [1] [0, 2, 3, 4, 5, 6, 7, 8, 9] (by decide) rfl rfl rfl (by decide) (by decide) k_473 rfl k_127 k_1054 k_471 k_472 ⟨rfl, hy_Shelf_has⟩ (by decide) rfl rfl (Nat.le_of_ble_eq_true rfl) (by decide) (fun v9 ux2 ch1 => ?_)
  obtain ⟨r_3, rfl⟩ : ∃ z9, z9 = ux2 := ⟨_, rfl⟩
  obtain ⟨ech1, ch1⟩ := ch1
  have ech1 : v9 = some (.int r_3) := ech1
  subst ech1
  obtain ⟨fh4, fh5⟩ : (r_3.toInt = 0 ∨ r_3.toInt = 1) ∧ (r_3.toInt = 1 ↔ 0 ≤ i.toInt ∧ i.toInt < c.toInt) := ch1
  refine pb_eq (pc' := 8) (lo' := [(0, .ref h), (1, .int i), (2, .int k)]) (rest' := [.int r_3]) (ws' := [(h, .inr (9, [.ref ta, .ref ca, .ref ps, .ref xe, .ref mk, .ref rd, .ref mu, .ref fi, .ref go, .ref sp, .ref ss])), (tn, .inl (G.2.1, 384, .inl tfn)), (tz, .inl (G.2.2.1, 16, .inl tfz)), (tb, .inl (G.2.1, 12000, .inl tfb)), (tg, .inl (G.2.2.1, 17, .inl tfg)), (mu, .inr (8, [.ref ui, .ref ug, .ref uv, .ref ur, .int ct, .int fa, .int bg, .int at_, .int en, .int vs, .int io, .int hi, .int ht])), (uv, .inl (G.2.1, 24, .inl vf)), (ug, .inl (G.2.2.1, 200, .inl gf)), (ui, .inl (G.2.2.2.1, 200, .inr (.inl df))), (sp, .inr (3, [.ref tn, .ref tz, .ref tb, .ref tg, .int c]))]) ?_
  refine pb_if_ne (pc := 8) (tgt := 21) d_Book_relation_8 (by decide) (fun wx6 => ?_) (fun wx6 => ?_)
  · have twx6 : ¬ r_3.toInt = 0 := fun z9 => wx6 ((ti_eq rfl (by decide)).mpr z9)
    refine pb_aload_n (pc := 21) d_Book_relation_21 0 rfl rfl ?_
    refine pb_get (pc := 22) d_Book_relation_22 0 6 rfl rfl (by decide) in_Book k_423 rfl ?_
    refine pb_aload_n (pc := 25) d_Book_relation_25 0 rfl rfl ?_
    refine pb_get (pc := 26) d_Book_relation_26 0 9 rfl rfl (by decide) in_Book k_426 rfl ?_
    refine pb_iload_n (pc := 29) d_Book_relation_29 1 rfl rfl ?_
    refine pb_callV (pc := 30) (I := i_Book_relation) (qb := 5) (ci := 8) (nA := 2) (rest := []) (wr := [(h, .inr (9, [.ref ta, .ref ca, .ref ps, .ref xe, .ref mk, .ref rd, .ref mu, .ref fi, .ref go, .ref sp, .ref ss]))]) d_Book_relation_30 (g_Mu_load hl G mu ui ug uv ur ct fa bg at_ en vs io hi ht vf gf df sp tn tz tb tg c tfn tfz tfb tfg i (by first | assumption | decide | omega) (by first | (with_reducible assumption) | omega (splitDisjunctions := false) | assumption | omega | decide) (by first | (with_reducible assumption) | omega (splitDisjunctions := false) | assumption | omega | decide) F_vf F_tfn F_tfb) rfl rfl [5, 6, 7, 8, 9, 1, 2, 3, 4] [0] (by decide) rfl rfl rfl (by decide) (by decide) k_793 rfl k_125 k_790 k_791 k_792 ⟨rfl, hy_Markup_load⟩ (by decide) rfl rfl (Nat.le_of_ble_eq_true rfl) (by decide) (fun v9 ux8 ch7 => ?_)
    obtain ⟨ct_9, fa_10, bg_11, at_12, en_13, vs_14, io_15, hi_16, ht_17, vf_18, gf_19, df_20⟩ := ux8
    obtain ⟨ech7, ch7⟩ := ch7
    have ech7 : v9 = none := ech7
    subst ech7
    obtain ⟨fh21, fh22, fh23, fh24⟩ : (0 ≤ ct_9.toInt) ∧ (ct_9.toInt ≤ 200) ∧ (hid_ (∃ t : Int, isF_ (cN_ c.toInt tfn tfz) (gx tfz i.toInt + 5) (tn6_ (cN_ c.toInt tfn tfz) i.toInt) t ∧ lo6_ (cN_ c.toInt tfn tfz) t tfb tfg ct_9.toInt fa_10.toInt gf_19)) ∧ (sb_Fit vf_18) := ch7
    have ldF := fh23
    refine pb_eq (pc' := 33) (lo' := [(0, .ref h), (1, .int i), (2, .int k)]) (rest' := []) (ws' := [(h, .inr (9, [.ref ta, .ref ca, .ref ps, .ref xe, .ref mk, .ref rd, .ref mu, .ref fi, .ref go, .ref sp, .ref ss])), (mu, .inr (8, [.ref ui, .ref ug, .ref uv, .ref tb, .int ct_9, .int fa_10, .int bg_11, .int at_12, .int en_13, .int vs_14, .int io_15, .int hi_16, .int ht_17])), (uv, .inl (G.2.1, 24, .inl vf_18)), (ug, .inl (G.2.2.1, 200, .inl gf_19)), (ui, .inl (G.2.2.2.1, 200, .inr (.inl df_20))), (sp, .inr (3, [.ref tn, .ref tz, .ref tb, .ref tg, .int c])), (tn, .inl (G.2.1, 384, .inl tfn)), (tz, .inl (G.2.2.1, 16, .inl tfz)), (tb, .inl (G.2.1, 12000, .inl tfb)), (tg, .inl (G.2.2.1, 17, .inl tfg))]) ?_
    refine pb_iload_n (pc := 33) d_Book_relation_33 2 rfl rfl ?_
    refine pb_if_lt (pc := 34) (tgt := 48) d_Book_relation_34 (by decide) (fun wx25 => ?_) (fun wx25 => ?_)
    · have twx25 : k.toInt < 0 := (ti_lt rfl (by decide)).mp wx25
      exact pb_throwS (pc := 48) (cls := "java/lang/IndexOutOfBoundsException") (text := "no such relation") (names := ["java/lang/RuntimeException", "java/lang/Exception"]) hQ d_Book_relation_48 d_Book_relation_51 d_Book_relation_52 d_Book_relation_54 d_Book_relation_57 (by decide +kernel) (by decide +kernel) tx_Book_143_147 (by decide +kernel) (by decide) (Nat.le_of_ble_eq_true rfl) (by decide) (by decide) (tb, ct_9, fa_10, bg_11, at_12, en_13, vs_14, io_15, hi_16, ht_17, vf_18, gf_19, df_20) ⟨rfl, (by (try dsimp only); first | done | (with_reducible assumption) | omega (splitDisjunctions := false) | assumption | omega | decide), (by (try dsimp only); first | done | (with_reducible assumption) | omega (splitDisjunctions := false) | assumption | omega | decide), fh24, (show hid_ (¬ (0 ≤ i.toInt ∧ i.toInt < c.toInt) ∨ ((0 ≤ i.toInt ∧ i.toInt < c.toInt) ∧ ∃ t : Int, isF_ (cN_ c.toInt tfn tfz) (gx tfz i.toInt + 5) (tn6_ (cN_ c.toInt tfn tfz) i.toInt) t ∧ gq6_ (cN_ c.toInt tfn tfz) (tT6_ t (mk_ (mB_ tfb (gx tfg t)) (gx tfg (t + 1) - gx tfg t))) k.toInt 0 1)) from (by first | (obtain ⟨t9, y1, y2⟩ := hid_o ldF; exact hid_i (Or.inr ⟨by omega, t9, y1, gq_c y2 (Or.inr ⟨rfl, by omega⟩)⟩)) | exact hid_i (Or.inl (by omega))))⟩ [0, 5, 6, 7, 8, 9, 1, 2, 3, 4] (by decide) rfl rfl
    · have twx25 : ¬ k.toInt < 0 := fun z9 => wx25 ((ti_lt rfl (by decide)).mpr z9)
      refine pb_iload_n (pc := 37) d_Book_relation_37 2 rfl rfl ?_
      refine pb_aload_n (pc := 38) d_Book_relation_38 0 rfl rfl ?_
      refine pb_get (pc := 39) d_Book_relation_39 0 6 rfl rfl (by decide) in_Book k_423 rfl ?_
      refine pb_getN (pc := 42) d_Book_relation_42 1 4 rfl rfl (by decide) in_Markup k_322 rfl ?_
      refine pb_icmp_lt (pc := 45) (tgt := 58) d_Book_relation_45 (by decide) (fun wx26 => ?_) (fun wx26 => ?_)
      · have twx26 : k.toInt < ct_9.toInt := (ti_lt rfl rfl).mp wx26
        refine pb_aload_n (pc := 58) d_Book_relation_58 0 rfl rfl ?_
        refine pb_get (pc := 59) d_Book_relation_59 0 6 rfl rfl (by decide) in_Book k_423 rfl ?_
        refine pb_getN (pc := 62) d_Book_relation_62 1 1 rfl rfl (by decide) in_Markup k_318 rfl ?_
        refine pb_iload_n (pc := 65) d_Book_relation_65 2 rfl rfl ?_
        refine pb_iald (pc := 66) d_Book_relation_66 3 rfl (vp_in_iff.mpr (by omega)) ?_
        refine pb_topi (fun ix27 eix27 => ?_)
        have tix27 : ix27.toInt = gx gf_19 (k.toInt) := gx_ld eix27 rfl
        exact pb_iretx (pc := 67) hQ d_Book_relation_67 rfl rfl (ix27, tb, ct_9, fa_10, bg_11, at_12, en_13, vs_14, io_15, hi_16, ht_17, vf_18, gf_19, df_20) ⟨rfl, (by (try dsimp only); first | done | (with_reducible assumption) | omega (splitDisjunctions := false) | assumption | omega | decide), (by (try dsimp only); first | done | (with_reducible assumption) | omega (splitDisjunctions := false) | assumption | omega | decide), (by (try dsimp only); first | done | (with_reducible assumption) | omega (splitDisjunctions := false) | assumption | omega | decide), (show hid_ (∃ t : Int, isF_ (cN_ c.toInt tfn tfz) (gx tfz i.toInt + 5) (tn6_ (cN_ c.toInt tfn tfz) i.toInt) t ∧ gq6_ (cN_ c.toInt tfn tfz) (tT6_ t (mk_ (mB_ tfb (gx tfg t)) (gx tfg (t + 1) - gx tfg t))) k.toInt ix27.toInt 0) from (by obtain ⟨t9, y1, y2⟩ := hid_o ldF; exact hid_i ⟨t9, y1, gq_c y2 (Or.inl ⟨rfl, by omega, by omega, by omega⟩)⟩)), fh24⟩ [0, 5, 6, 7, 8, 9, 1, 2, 3, 4] (by decide) rfl rfl (by decide) (by decide)
      · have twx26 : ¬ k.toInt < ct_9.toInt := fun z9 => wx26 ((ti_lt rfl rfl).mpr z9)
        exact pb_throwS (pc := 48) (cls := "java/lang/IndexOutOfBoundsException") (text := "no such relation") (names := ["java/lang/RuntimeException", "java/lang/Exception"]) hQ d_Book_relation_48 d_Book_relation_51 d_Book_relation_52 d_Book_relation_54 d_Book_relation_57 (by decide +kernel) (by decide +kernel) tx_Book_143_147 (by decide +kernel) (by decide) (Nat.le_of_ble_eq_true rfl) (by decide) (by decide) (tb, ct_9, fa_10, bg_11, at_12, en_13, vs_14, io_15, hi_16, ht_17, vf_18, gf_19, df_20) ⟨rfl, (by (try dsimp only); first | done | (with_reducible assumption) | omega (splitDisjunctions := false) | assumption | omega | decide), (by (try dsimp only); first | done | (with_reducible assumption) | omega (splitDisjunctions := false) | assumption | omega | decide), fh24, (show hid_ (¬ (0 ≤ i.toInt ∧ i.toInt < c.toInt) ∨ ((0 ≤ i.toInt ∧ i.toInt < c.toInt) ∧ ∃ t : Int, isF_ (cN_ c.toInt tfn tfz) (gx tfz i.toInt + 5) (tn6_ (cN_ c.toInt tfn tfz) i.toInt) t ∧ gq6_ (cN_ c.toInt tfn tfz) (tT6_ t (mk_ (mB_ tfb (gx tfg t)) (gx tfg (t + 1) - gx tfg t))) k.toInt 0 1)) from (by first | (obtain ⟨t9, y1, y2⟩ := hid_o ldF; exact hid_i (Or.inr ⟨by omega, t9, y1, gq_c y2 (Or.inr ⟨rfl, by omega⟩)⟩)) | exact hid_i (Or.inl (by omega))))⟩ [0, 5, 6, 7, 8, 9, 1, 2, 3, 4] (by decide) rfl rfl
  · have twx6 : r_3.toInt = 0 := (ti_eq rfl (by decide)).mp wx6
    exact pb_throwS (pc := 11) (cls := "java/lang/IndexOutOfBoundsException") (text := "no such part") (names := ["java/lang/RuntimeException", "java/lang/Exception"]) hQ d_Book_relation_11 d_Book_relation_14 d_Book_relation_15 d_Book_relation_17 d_Book_relation_20 (by decide +kernel) (by decide +kernel) tx_Book_143_147 (by decide +kernel) (by decide) (Nat.le_of_ble_eq_true rfl) (by decide) (by decide) (ur, ct, fa, bg, at_, en, vs, io, hi, ht, vf, gf, df) ⟨rfl, (by (try dsimp only); first | done | (with_reducible assumption) | omega (splitDisjunctions := false) | assumption | omega | decide), (by (try dsimp only); first | done | (with_reducible assumption) | omega (splitDisjunctions := false) | assumption | omega | decide), F_vf, (show hid_ (¬ (0 ≤ i.toInt ∧ i.toInt < c.toInt) ∨ ((0 ≤ i.toInt ∧ i.toInt < c.toInt) ∧ ∃ t : Int, isF_ (cN_ c.toInt tfn tfz) (gx tfz i.toInt + 5) (tn6_ (cN_ c.toInt tfn tfz) i.toInt) t ∧ gq6_ (cN_ c.toInt tfn tfz) (tT6_ t (mk_ (mB_ tfb (gx tfg t)) (gx tfg (t + 1) - gx tfg t))) k.toInt 0 1)) from (by first | (obtain ⟨t9, y1, y2⟩ := hid_o ldF; exact hid_i (Or.inr ⟨by omega, t9, y1, gq_c y2 (Or.inr ⟨rfl, by omega⟩)⟩)) | exact hid_i (Or.inl (by omega))))⟩ [0, 9, 1, 2, 3, 4, 5, 6, 7, 8] (by decide) rfl rfl

theorem d_Book_fault_0 : decode prog_1_method_17_code 0 = .ok (.iload_n 1, 1) := by decide +kernel
theorem d_Book_fault_1 : decode prog_1_method_17_code 1 = .ok (.ifCond .lt 23, 3) := by decide +kernel
theorem d_Book_fault_24 : decode prog_1_method_17_code 24 = .ok (.new 143, 3) := by decide +kernel
theorem d_Book_fault_27 : decode prog_1_method_17_code 27 = .ok (.dup, 1) := by decide +kernel
theorem d_Book_fault_28 : decode prog_1_method_17_code 28 = .ok (.ldc 222, 2) := by decide +kernel
theorem d_Book_fault_30 : decode prog_1_method_17_code 30 = .ok (.invokespecial 147, 3) := by decide +kernel
theorem d_Book_fault_33 : decode prog_1_method_17_code 33 = .ok (.athrow, 1) := by decide +kernel
theorem d_Book_fault_4 : decode prog_1_method_17_code 4 = .ok (.iload_n 1, 1) := by decide +kernel
theorem d_Book_fault_5 : decode prog_1_method_17_code 5 = .ok (.aload_n 0, 1) := by decide +kernel
theorem d_Book_fault_6 : decode prog_1_method_17_code 6 = .ok (.getfield 59, 3) := by decide +kernel
theorem d_Book_fault_9 : decode prog_1_method_17_code 9 = .ok (.getfield 205, 3) := by decide +kernel
theorem k_373 : (Jvm.Cond.fieldLinkNest "PackageBook" (205 : Nat) "PackageBook$Findings" "count" "I" "PackageBook") ∈ uN := uN_of 373 (by decide +kernel) (by decide +kernel)
theorem d_Book_fault_12 : decode prog_1_method_17_code 12 = .ok (.if_icmp .ge 12, 3) := by decide +kernel
theorem d_Book_fault_15 : decode prog_1_method_17_code 15 = .ok (.iload_n 2, 1) := by decide +kernel
theorem d_Book_fault_16 : decode prog_1_method_17_code 16 = .ok (.ifCond .lt 8, 3) := by decide +kernel
theorem d_Book_fault_19 : decode prog_1_method_17_code 19 = .ok (.iload_n 2, 1) := by decide +kernel
theorem d_Book_fault_20 : decode prog_1_method_17_code 20 = .ok (.iconst 2, 1) := by decide +kernel
theorem d_Book_fault_21 : decode prog_1_method_17_code 21 = .ok (.if_icmp .le 13, 3) := by decide +kernel
theorem d_Book_fault_34 : decode prog_1_method_17_code 34 = .ok (.iload_n 2, 1) := by decide +kernel
theorem d_Book_fault_35 : decode prog_1_method_17_code 35 = .ok (.ifCond .ne 15, 3) := by decide +kernel
theorem d_Book_fault_50 : decode prog_1_method_17_code 50 = .ok (.iload_n 2, 1) := by decide +kernel
theorem d_Book_fault_51 : decode prog_1_method_17_code 51 = .ok (.iconst 1, 1) := by decide +kernel
theorem d_Book_fault_52 : decode prog_1_method_17_code 52 = .ok (.if_icmp .ne 15, 3) := by decide +kernel
theorem d_Book_fault_67 : decode prog_1_method_17_code 67 = .ok (.aload_n 0, 1) := by decide +kernel
theorem d_Book_fault_68 : decode prog_1_method_17_code 68 = .ok (.getfield 59, 3) := by decide +kernel
theorem d_Book_fault_71 : decode prog_1_method_17_code 71 = .ok (.getfield 230, 3) := by decide +kernel
theorem k_371 : (Jvm.Cond.fieldLinkNest "PackageBook" (230 : Nat) "PackageBook$Findings" "places" "[I" "PackageBook") ∈ uN := uN_of 371 (by decide +kernel) (by decide +kernel)
theorem d_Book_fault_74 : decode prog_1_method_17_code 74 = .ok (.iload_n 1, 1) := by decide +kernel
theorem d_Book_fault_75 : decode prog_1_method_17_code 75 = .ok (.iaload, 1) := by decide +kernel
theorem d_Book_fault_76 : decode prog_1_method_17_code 76 = .ok (.ireturn, 1) := by decide +kernel
theorem d_Book_fault_55 : decode prog_1_method_17_code 55 = .ok (.aload_n 0, 1) := by decide +kernel
theorem d_Book_fault_56 : decode prog_1_method_17_code 56 = .ok (.getfield 59, 3) := by decide +kernel
theorem d_Book_fault_59 : decode prog_1_method_17_code 59 = .ok (.getfield 227, 3) := by decide +kernel
theorem k_369 : (Jvm.Cond.fieldLinkNest "PackageBook" (227 : Nat) "PackageBook$Findings" "owners" "[I" "PackageBook") ∈ uN := uN_of 369 (by decide +kernel) (by decide +kernel)
theorem d_Book_fault_62 : decode prog_1_method_17_code 62 = .ok (.iload_n 1, 1) := by decide +kernel
theorem d_Book_fault_63 : decode prog_1_method_17_code 63 = .ok (.iaload, 1) := by decide +kernel
theorem d_Book_fault_64 : decode prog_1_method_17_code 64 = .ok (.goto 12, 3) := by decide +kernel
theorem d_Book_fault_38 : decode prog_1_method_17_code 38 = .ok (.aload_n 0, 1) := by decide +kernel
theorem d_Book_fault_39 : decode prog_1_method_17_code 39 = .ok (.getfield 59, 3) := by decide +kernel
theorem d_Book_fault_42 : decode prog_1_method_17_code 42 = .ok (.getfield 224, 3) := by decide +kernel
theorem k_367 : (Jvm.Cond.fieldLinkNest "PackageBook" (224 : Nat) "PackageBook$Findings" "kinds" "[I" "PackageBook") ∈ uN := uN_of 367 (by decide +kernel) (by decide +kernel)
theorem d_Book_fault_45 : decode prog_1_method_17_code 45 = .ok (.iload_n 1, 1) := by decide +kernel
theorem d_Book_fault_46 : decode prog_1_method_17_code 46 = .ok (.iaload, 1) := by decide +kernel
theorem d_Book_fault_47 : decode prog_1_method_17_code 47 = .ok (.goto 29, 3) := by decide +kernel
abbrev y_Book_fault : MethodName := ⟨"PackageBook", "fault", "(II)I"⟩
abbrev i_Book_fault : pb_I := (y_Book_fault, prog_1_method_17_code, 3, (some Jvm.ClassFile.FieldType.int), [], { frames := 6, cells := 1, slots := 6, locals := 90 })
set_option maxRecDepth 100000 in
set_option maxHeartbeats 4000000 in
theorem g_Book_fault {l : Launch} (hl : l.stackTraces = false) (G : pb_G) (h : Nat) (ta : Nat) (ca : Nat) (ps : Nat) (xe : Nat) (mk : Nat) (rd : Nat) (mu : Nat) (fi : Nat) (go : Nat) (sp : Nat) (ss : Nat) (fk : Nat) (fo : Nat) (fp : Nat) (fn : Int32) (ff1 : Nat → Int32) (ff2 : Nat → Int32) (ff3 : Nat → Int32) (k : Int32) (w : Int32) (n0 : 0 ≤ fn.toInt) (n1 : fn.toInt ≤ 1232) : Cx l G i_Book_fault [.ref h, .int k, .int w] [(h, .inr (9, [.ref ta, .ref ca, .ref ps, .ref xe, .ref mk, .ref rd, .ref mu, .ref fi, .ref go, .ref sp, .ref ss])), (fi, .inr (2, [.ref fk, .ref fo, .ref fp, .int fn])), (fk, .inl (G.2.2.1, 1232, .inl ff1)), (fo, .inl (G.2.2.1, 1232, .inl ff2)), (fp, .inl (G.2.2.1, 1232, .inl ff3))] (S := Int32) (SX := Unit) (fun rv_ u => rv_ = some (.int u)) (fun u => [(h, .inr (9, [.ref ta, .ref ca, .ref ps, .ref xe, .ref mk, .ref rd, .ref mu, .ref fi, .ref go, .ref sp, .ref ss])), (fi, .inr (2, [.ref fk, .ref fo, .ref fp, .int fn])), (fk, .inl (G.2.2.1, 1232, .inl ff1)), (fo, .inl (G.2.2.1, 1232, .inl ff2)), (fp, .inl (G.2.2.1, 1232, .inl ff3))]) (fun E u => (E = "java/lang/IndexOutOfBoundsException")) (fun u => [(h, .inr (9, [.ref ta, .ref ca, .ref ps, .ref xe, .ref mk, .ref rd, .ref mu, .ref fi, .ref go, .ref sp, .ref ss])), (fi, .inr (2, [.ref fk, .ref fo, .ref fp, .int fn])), (fk, .inl (G.2.2.1, 1232, .inl ff1)), (fo, .inl (G.2.2.1, 1232, .inl ff2)), (fp, .inl (G.2.2.1, 1232, .inl ff3))]) := by
  refine Cx.of hl (by decide +kernel) rfl (Nat.le_of_ble_eq_true rfl) (fun M hQ => ?_)
  refine pb_eq (pc' := 0) (lo' := [(0, .ref h), (1, .int k), (2, .int w)]) (rest' := []) (ws' := [(h, .inr (9, [.ref ta, .ref ca, .ref ps, .ref xe, .ref mk, .ref rd, .ref mu, .ref fi, .ref go, .ref sp, .ref ss])), (fi, .inr (2, [.ref fk, .ref fo, .ref fp, .int fn])), (fk, .inl (G.2.2.1, 1232, .inl ff1)), (fo, .inl (G.2.2.1, 1232, .inl ff2)), (fp, .inl (G.2.2.1, 1232, .inl ff3))]) ?_
  have zl0 : (0 : Int32).toInt = 0 := by decide
  have zl1 : (1 : Int32).toInt = 1 := by decide
  refine pb_iload_n (pc := 0) d_Book_fault_0 1 rfl rfl ?_
  refine pb_if_lt (pc := 1) (tgt := 24) d_Book_fault_1 (by decide) (fun wx1 => ?_) (fun wx1 => ?_)
  · have twx1 : k.toInt < 0 := (ti_lt rfl (by decide)).mp wx1
    exact pb_throwS (pc := 24) (cls := "java/lang/IndexOutOfBoundsException") (text := "no such fault or question") (names := ["java/lang/RuntimeException", "java/lang/Exception"]) hQ d_Book_fault_24 d_Book_fault_27 d_Book_fault_28 d_Book_fault_30 d_Book_fault_33 (by decide +kernel) (by decide +kernel) tx_Book_143_147 (by decide +kernel) (by decide) (Nat.le_of_ble_eq_true rfl) (by decide) (by decide) () rfl [0, 1, 2, 3, 4] (by decide) rfl rfl
  · have twx1 : ¬ k.toInt < 0 := fun z9 => wx1 ((ti_lt rfl (by decide)).mpr z9)
    refine pb_iload_n (pc := 4) d_Book_fault_4 1 rfl rfl ?_
    refine pb_aload_n (pc := 5) d_Book_fault_5 0 rfl rfl ?_
    refine pb_get (pc := 6) d_Book_fault_6 0 7 rfl rfl (by decide) in_Book k_424 rfl ?_
    refine pb_getN (pc := 9) d_Book_fault_9 1 3 rfl rfl (by decide) in_Findings k_373 rfl ?_
    refine pb_icmp_ge (pc := 12) (tgt := 24) d_Book_fault_12 (by decide) (fun wx2 => ?_) (fun wx2 => ?_)
    · have twx2 : fn.toInt ≤ k.toInt := (ti_le rfl rfl).mp wx2
      exact pb_throwS (pc := 24) (cls := "java/lang/IndexOutOfBoundsException") (text := "no such fault or question") (names := ["java/lang/RuntimeException", "java/lang/Exception"]) hQ d_Book_fault_24 d_Book_fault_27 d_Book_fault_28 d_Book_fault_30 d_Book_fault_33 (by decide +kernel) (by decide +kernel) tx_Book_143_147 (by decide +kernel) (by decide) (Nat.le_of_ble_eq_true rfl) (by decide) (by decide) () rfl [0, 1, 2, 3, 4] (by decide) rfl rfl
    · have twx2 : ¬ fn.toInt ≤ k.toInt := fun z9 => wx2 ((ti_le rfl rfl).mpr z9)
      refine pb_iload_n (pc := 15) d_Book_fault_15 2 rfl rfl ?_
      refine pb_if_lt (pc := 16) (tgt := 24) d_Book_fault_16 (by decide) (fun wx3 => ?_) (fun wx3 => ?_)
      · have twx3 : w.toInt < 0 := (ti_lt rfl (by decide)).mp wx3
        exact pb_throwS (pc := 24) (cls := "java/lang/IndexOutOfBoundsException") (text := "no such fault or question") (names := ["java/lang/RuntimeException", "java/lang/Exception"]) hQ d_Book_fault_24 d_Book_fault_27 d_Book_fault_28 d_Book_fault_30 d_Book_fault_33 (by decide +kernel) (by decide +kernel) tx_Book_143_147 (by decide +kernel) (by decide) (Nat.le_of_ble_eq_true rfl) (by decide) (by decide) () rfl [0, 1, 2, 3, 4] (by decide) rfl rfl
      · have twx3 : ¬ w.toInt < 0 := fun z9 => wx3 ((ti_lt rfl (by decide)).mpr z9)
        refine pb_iload_n (pc := 19) d_Book_fault_19 2 rfl rfl ?_
        refine pb_iconst (pc := 20) (v := 2) d_Book_fault_20 (by decide) ?_
        refine pb_icmp_le (pc := 21) (tgt := 34) d_Book_fault_21 (by decide) (fun wx4 => ?_) (fun wx4 => ?_)
        · have twx4 : w.toInt ≤ 2 := (ti_le rfl (by decide)).mp wx4
          refine pb_iload_n (pc := 34) d_Book_fault_34 2 rfl rfl ?_
          refine pb_if_ne (pc := 35) (tgt := 50) d_Book_fault_35 (by decide) (fun wx5 => ?_) (fun wx5 => ?_)
          · have twx5 : ¬ w.toInt = 0 := fun z9 => wx5 ((ti_eq rfl (by decide)).mpr z9)
            refine pb_iload_n (pc := 50) d_Book_fault_50 2 rfl rfl ?_
            refine pb_iconst (pc := 51) (v := 1) d_Book_fault_51 (by decide) ?_
            refine pb_icmp_ne (pc := 52) (tgt := 67) d_Book_fault_52 (by decide) (fun wx6 => ?_) (fun wx6 => ?_)
            · have twx6 : ¬ w.toInt = 1 := fun z9 => wx6 ((ti_eq rfl (by decide)).mpr z9)
              refine pb_aload_n (pc := 67) d_Book_fault_67 0 rfl rfl ?_
              refine pb_get (pc := 68) d_Book_fault_68 0 7 rfl rfl (by decide) in_Book k_424 rfl ?_
              refine pb_getN (pc := 71) d_Book_fault_71 1 2 rfl rfl (by decide) in_Findings k_371 rfl ?_
              refine pb_iload_n (pc := 74) d_Book_fault_74 1 rfl rfl ?_
              refine pb_iald (pc := 75) d_Book_fault_75 4 rfl (vp_in_iff.mpr (by omega)) ?_
              refine pb_topi (fun ix7 eix7 => ?_)
              have tix7 : ix7.toInt = gx ff3 (k.toInt) := gx_ld eix7 rfl
              exact pb_iretx (pc := 76) hQ d_Book_fault_76 rfl rfl (ix7) rfl [0, 1, 2, 3, 4] (by decide) rfl rfl (by decide) (by decide)
            · have twx6 : w.toInt = 1 := (ti_eq rfl (by decide)).mp wx6
              refine pb_aload_n (pc := 55) d_Book_fault_55 0 rfl rfl ?_
              refine pb_get (pc := 56) d_Book_fault_56 0 7 rfl rfl (by decide) in_Book k_424 rfl ?_
              refine pb_getN (pc := 59) d_Book_fault_59 1 1 rfl rfl (by decide) in_Findings k_369 rfl ?_
              refine pb_iload_n (pc := 62) d_Book_fault_62 1 rfl rfl ?_
              refine pb_iald (pc := 63) d_Book_fault_63 3 rfl (vp_in_iff.mpr (by omega)) ?_
              refine pb_topi (fun ix8 eix8 => ?_)
              have tix8 : ix8.toInt = gx ff2 (k.toInt) := gx_ld eix8 rfl
              refine pb_goto (pc := 64) (tgt := 76) d_Book_fault_64 (by decide) ?_
              exact pb_iretx (pc := 76) hQ d_Book_fault_76 rfl rfl (ix8) rfl [0, 1, 2, 3, 4] (by decide) rfl rfl (by decide) (by decide)
          · have twx5 : w.toInt = 0 := (ti_eq rfl (by decide)).mp wx5
            refine pb_aload_n (pc := 38) d_Book_fault_38 0 rfl rfl ?_
            refine pb_get (pc := 39) d_Book_fault_39 0 7 rfl rfl (by decide) in_Book k_424 rfl ?_
            refine pb_getN (pc := 42) d_Book_fault_42 1 0 rfl rfl (by decide) in_Findings k_367 rfl ?_
            refine pb_iload_n (pc := 45) d_Book_fault_45 1 rfl rfl ?_
            refine pb_iald (pc := 46) d_Book_fault_46 2 rfl (vp_in_iff.mpr (by omega)) ?_
            refine pb_topi (fun ix9 eix9 => ?_)
            have tix9 : ix9.toInt = gx ff1 (k.toInt) := gx_ld eix9 rfl
            refine pb_goto (pc := 47) (tgt := 76) d_Book_fault_47 (by decide) ?_
            exact pb_iretx (pc := 76) hQ d_Book_fault_76 rfl rfl (ix9) rfl [0, 1, 2, 3, 4] (by decide) rfl rfl (by decide) (by decide)
        · have twx4 : ¬ w.toInt ≤ 2 := fun z9 => wx4 ((ti_le rfl (by decide)).mpr z9)
          exact pb_throwS (pc := 24) (cls := "java/lang/IndexOutOfBoundsException") (text := "no such fault or question") (names := ["java/lang/RuntimeException", "java/lang/Exception"]) hQ d_Book_fault_24 d_Book_fault_27 d_Book_fault_28 d_Book_fault_30 d_Book_fault_33 (by decide +kernel) (by decide +kernel) tx_Book_143_147 (by decide +kernel) (by decide) (Nat.le_of_ble_eq_true rfl) (by decide) (by decide) () rfl [0, 1, 2, 3, 4] (by decide) rfl rfl

theorem d_Book_noteRelations_26 : decode prog_1_method_22_code 26 = .ok (.iconst 0, 1) := by decide +kernel
theorem d_Book_noteRelations_27 : decode prog_1_method_22_code 27 = .ok (.istore_n 2, 1) := by decide +kernel
theorem d_Book_noteRelations_28 : decode prog_1_method_22_code 28 = .ok (.iload_n 2, 1) := by decide +kernel
theorem d_Book_noteRelations_29 : decode prog_1_method_22_code 29 = .ok (.aload_n 0, 1) := by decide +kernel
theorem d_Book_noteRelations_30 : decode prog_1_method_22_code 30 = .ok (.getfield 52, 3) := by decide +kernel
theorem d_Book_noteRelations_33 : decode prog_1_method_22_code 33 = .ok (.getfield 239, 3) := by decide +kernel
theorem d_Book_noteRelations_36 : decode prog_1_method_22_code 36 = .ok (.if_icmp .ge 52, 3) := by decide +kernel
theorem d_Book_noteRelations_88 : decode prog_1_method_22_code 88 = .ok (.return_, 1) := by decide +kernel
theorem d_Book_noteRelations_60 : decode prog_1_method_22_code 60 = .ok (.aload_n 0, 1) := by decide +kernel
theorem d_Book_noteRelations_61 : decode prog_1_method_22_code 61 = .ok (.getfield 52, 3) := by decide +kernel
theorem d_Book_noteRelations_64 : decode prog_1_method_22_code 64 = .ok (.getfield 242, 3) := by decide +kernel
theorem d_Book_noteRelations_67 : decode prog_1_method_22_code 67 = .ok (.iload_n 2, 1) := by decide +kernel
theorem d_Book_noteRelations_68 : decode prog_1_method_22_code 68 = .ok (.iaload, 1) := by decide +kernel
theorem d_Book_noteRelations_69 : decode prog_1_method_22_code 69 = .ok (.ifCond .ge 13, 3) := by decide +kernel
theorem d_Book_noteRelations_82 : decode prog_1_method_22_code 82 = .ok (.iinc 2 1, 3) := by decide +kernel
theorem d_Book_noteRelations_85 : decode prog_1_method_22_code 85 = .ok (.goto (-57), 3) := by decide +kernel
theorem d_Book_noteRelations_72 : decode prog_1_method_22_code 72 = .ok (.aload_n 0, 1) := by decide +kernel
theorem d_Book_noteRelations_73 : decode prog_1_method_22_code 73 = .ok (.getfield 59, 3) := by decide +kernel
theorem d_Book_noteRelations_76 : decode prog_1_method_22_code 76 = .ok (.iconst 3, 1) := by decide +kernel
theorem d_Book_noteRelations_77 : decode prog_1_method_22_code 77 = .ok (.iload_n 1, 1) := by decide +kernel
theorem d_Book_noteRelations_78 : decode prog_1_method_22_code 78 = .ok (.iload_n 2, 1) := by decide +kernel
theorem d_Book_noteRelations_79 : decode prog_1_method_22_code 79 = .ok (.invokevirtual 246, 3) := by decide +kernel
theorem k_910 : (Jvm.Cond.methodLink "PackageBook" (246 : Nat) ({ cls := "PackageBook$Findings", name := "note", desc := "(III)V" } : Jvm.MethodName)) ∈ uW := uW_of 910 (by decide +kernel) (by decide +kernel)
theorem k_913 : (Jvm.Cond.code ({ cls := "PackageBook$Findings", name := "note", desc := "(III)V" } : Jvm.MethodName) prog_6_method_2_code (4 : Nat) (Option.none : Option Jvm.ClassFile.FieldType)) ∈ uW := uW_of 913 (by decide +kernel) (by decide +kernel)
theorem k_911 : (Jvm.Cond.instanceMethod ({ cls := "PackageBook$Findings", name := "note", desc := "(III)V" } : Jvm.MethodName)) ∈ uW := uW_of 911 (by decide +kernel) (by decide +kernel)
theorem k_912 : (Jvm.Cond.selects "PackageBook$Findings" ({ cls := "PackageBook$Findings", name := "note", desc := "(III)V" } : Jvm.MethodName) ({ cls := "PackageBook$Findings", name := "note", desc := "(III)V" } : Jvm.MethodName)) ∈ uW := uW_of 912 (by decide +kernel) (by decide +kernel)
theorem hy_Findings_note : (y_Findings_note).cls ≠ "java/lang/invoke/MethodHandle" ∧ (y_Findings_note).cls ≠ "java/lang/invoke/VarHandle" ∧ (parseMethodDescriptor (y_Findings_note).desc).map (fun d => d.parameters.length) = some 3 := by decide +kernel
theorem d_Book_noteRelations_39 : decode prog_1_method_22_code 39 = .ok (.aload_n 0, 1) := by decide +kernel
theorem d_Book_noteRelations_40 : decode prog_1_method_22_code 40 = .ok (.getfield 52, 3) := by decide +kernel
theorem d_Book_noteRelations_43 : decode prog_1_method_22_code 43 = .ok (.iload_n 2, 1) := by decide +kernel
theorem d_Book_noteRelations_44 : decode prog_1_method_22_code 44 = .ok (.invokevirtual 250, 3) := by decide +kernel
theorem k_914 : (Jvm.Cond.methodLink "PackageBook" (250 : Nat) ({ cls := "PackageBook$Markup", name := "isRepeated", desc := "(I)Z" } : Jvm.MethodName)) ∈ uW := uW_of 914 (by decide +kernel) (by decide +kernel)
theorem k_917 : (Jvm.Cond.code ({ cls := "PackageBook$Markup", name := "isRepeated", desc := "(I)Z" } : Jvm.MethodName) prog_7_method_4_code (3 : Nat) (Option.some Jvm.ClassFile.FieldType.boolean)) ∈ uW := uW_of 917 (by decide +kernel) (by decide +kernel)
theorem k_915 : (Jvm.Cond.instanceMethod ({ cls := "PackageBook$Markup", name := "isRepeated", desc := "(I)Z" } : Jvm.MethodName)) ∈ uW := uW_of 915 (by decide +kernel) (by decide +kernel)
theorem k_916 : (Jvm.Cond.selects "PackageBook$Markup" ({ cls := "PackageBook$Markup", name := "isRepeated", desc := "(I)Z" } : Jvm.MethodName) ({ cls := "PackageBook$Markup", name := "isRepeated", desc := "(I)Z" } : Jvm.MethodName)) ∈ uW := uW_of 916 (by decide +kernel) (by decide +kernel)
theorem hy_Markup_isRepeated : (y_Markup_isRepeated).cls ≠ "java/lang/invoke/MethodHandle" ∧ (y_Markup_isRepeated).cls ≠ "java/lang/invoke/VarHandle" ∧ (parseMethodDescriptor (y_Markup_isRepeated).desc).map (fun d => d.parameters.length) = some 1 := by decide +kernel
theorem d_Book_noteRelations_47 : decode prog_1_method_22_code 47 = .ok (.ifCond .eq 13, 3) := by decide +kernel
theorem d_Book_noteRelations_50 : decode prog_1_method_22_code 50 = .ok (.aload_n 0, 1) := by decide +kernel
theorem d_Book_noteRelations_51 : decode prog_1_method_22_code 51 = .ok (.getfield 59, 3) := by decide +kernel
theorem d_Book_noteRelations_54 : decode prog_1_method_22_code 54 = .ok (.iconst 2, 1) := by decide +kernel
theorem d_Book_noteRelations_55 : decode prog_1_method_22_code 55 = .ok (.iload_n 1, 1) := by decide +kernel
theorem d_Book_noteRelations_56 : decode prog_1_method_22_code 56 = .ok (.iload_n 2, 1) := by decide +kernel
theorem d_Book_noteRelations_57 : decode prog_1_method_22_code 57 = .ok (.invokevirtual 246, 3) := by decide +kernel
theorem d_Book_noteRelations_0 : decode prog_1_method_22_code 0 = .ok (.aload_n 0, 1) := by decide +kernel
theorem d_Book_noteRelations_1 : decode prog_1_method_22_code 1 = .ok (.getfield 52, 3) := by decide +kernel
theorem d_Book_noteRelations_4 : decode prog_1_method_22_code 4 = .ok (.invokevirtual 235, 3) := by decide +kernel
theorem d_Book_noteRelations_7 : decode prog_1_method_22_code 7 = .ok (.ifCond .eq 19, 3) := by decide +kernel
theorem d_Book_noteRelations_10 : decode prog_1_method_22_code 10 = .ok (.aload_n 0, 1) := by decide +kernel
theorem d_Book_noteRelations_11 : decode prog_1_method_22_code 11 = .ok (.getfield 59, 3) := by decide +kernel
theorem d_Book_noteRelations_14 : decode prog_1_method_22_code 14 = .ok (.iconst 1, 1) := by decide +kernel
theorem d_Book_noteRelations_15 : decode prog_1_method_22_code 15 = .ok (.iload_n 1, 1) := by decide +kernel
theorem d_Book_noteRelations_16 : decode prog_1_method_22_code 16 = .ok (.aload_n 0, 1) := by decide +kernel
theorem d_Book_noteRelations_17 : decode prog_1_method_22_code 17 = .ok (.getfield 52, 3) := by decide +kernel
theorem d_Book_noteRelations_20 : decode prog_1_method_22_code 20 = .ok (.getfield 243, 3) := by decide +kernel
theorem k_324 : (Jvm.Cond.fieldLinkNest "PackageBook" (243 : Nat) "PackageBook$Markup" "fault" "I" "PackageBook") ∈ uN := uN_of 324 (by decide +kernel) (by decide +kernel)
theorem d_Book_noteRelations_23 : decode prog_1_method_22_code 23 = .ok (.invokevirtual 246, 3) := by decide +kernel
abbrev y_Book_noteRelations : MethodName := ⟨"PackageBook", "noteRelations", "(I)V"⟩
abbrev i_Book_noteRelations : pb_I := (y_Book_noteRelations, prog_1_method_22_code, 3, (Option.none : Option Jvm.ClassFile.FieldType), [], { frames := 1, cells := 0, slots := 0, locals := 23 })
set_option maxRecDepth 100000 in
set_option maxHeartbeats 4000000 in
theorem g_Book_noteRelations {l : Launch} (hl : l.stackTraces = false) (G : pb_G) (h : Nat) (ta : Nat) (ca : Nat) (ps : Nat) (xe : Nat) (mk : Nat) (rd : Nat) (mu : Nat) (fi : Nat) (go : Nat) (sp : Nat) (ss : Nat) (fk : Nat) (fo : Nat) (fp : Nat) (fn : Int32) (ff1 : Nat → Int32) (ff2 : Nat → Int32) (ff3 : Nat → Int32) (ui : Nat) (ug : Nat) (uv : Nat) (ur : Nat) (ct : Int32) (fa : Int32) (bg : Int32) (at_ : Int32) (en : Int32) (vs : Int32) (io : Int32) (hi : Int32) (ht : Int32) (gf : Nat → Int32) (df : Nat → Int64) (i : Int32) (n0 : 0 ≤ fn.toInt) (n1 : fn.toInt ≤ 1232) (k0 : 0 ≤ ct.toInt) (k1 : ct.toInt ≤ 200) : Cn l G i_Book_noteRelations [.ref h, .int i] [(h, .inr (9, [.ref ta, .ref ca, .ref ps, .ref xe, .ref mk, .ref rd, .ref mu, .ref fi, .ref go, .ref sp, .ref ss])), (fi, .inr (2, [.ref fk, .ref fo, .ref fp, .int fn])), (fk, .inl (G.2.2.1, 1232, .inl ff1)), (fo, .inl (G.2.2.1, 1232, .inl ff2)), (fp, .inl (G.2.2.1, 1232, .inl ff3)), (mu, .inr (8, [.ref ui, .ref ug, .ref uv, .ref ur, .int ct, .int fa, .int bg, .int at_, .int en, .int vs, .int io, .int hi, .int ht])), (ug, .inl (G.2.2.1, 200, .inl gf)), (ui, .inl (G.2.2.2.1, 200, .inr (.inl df)))] (S := Int32 × (Nat → Int32) × (Nat → Int32) × (Nat → Int32)) (fun rv_ u => rv_ = none ∧ (0 ≤ u.1.toInt) ∧ (u.1.toInt ≤ 1232)) (fun u => [(h, .inr (9, [.ref ta, .ref ca, .ref ps, .ref xe, .ref mk, .ref rd, .ref mu, .ref fi, .ref go, .ref sp, .ref ss])), (fi, .inr (2, [.ref fk, .ref fo, .ref fp, .int u.1])), (fk, .inl (G.2.2.1, 1232, .inl u.2.1)), (fo, .inl (G.2.2.1, 1232, .inl u.2.2.1)), (fp, .inl (G.2.2.1, 1232, .inl u.2.2.2)), (mu, .inr (8, [.ref ui, .ref ug, .ref uv, .ref ur, .int ct, .int fa, .int bg, .int at_, .int en, .int vs, .int io, .int hi, .int ht])), (ug, .inl (G.2.2.1, 200, .inl gf)), (ui, .inl (G.2.2.2.1, 200, .inr (.inl df)))]) := by
  refine Cn.of hl (by decide +kernel) rfl (Nat.le_of_ble_eq_true rfl) (fun M hQ => ?_)
  refine pb_eq (pc' := 0) (lo' := [(0, .ref h), (1, .int i)]) (rest' := []) (ws' := [(h, .inr (9, [.ref ta, .ref ca, .ref ps, .ref xe, .ref mk, .ref rd, .ref mu, .ref fi, .ref go, .ref sp, .ref ss])), (fi, .inr (2, [.ref fk, .ref fo, .ref fp, .int fn])), (fk, .inl (G.2.2.1, 1232, .inl ff1)), (fo, .inl (G.2.2.1, 1232, .inl ff2)), (fp, .inl (G.2.2.1, 1232, .inl ff3)), (mu, .inr (8, [.ref ui, .ref ug, .ref uv, .ref ur, .int ct, .int fa, .int bg, .int at_, .int en, .int vs, .int io, .int hi, .int ht])), (ug, .inl (G.2.2.1, 200, .inl gf)), (ui, .inl (G.2.2.2.1, 200, .inr (.inl df)))]) ?_
  have zl0 : (0 : Int32).toInt = 0 := by decide
  have zl1 : (1 : Int32).toInt = 1 := by decide
  have zl2 : (2 : Int32).toInt = 2 := by decide
  have zl3 : (3 : Int32).toInt = 3 := by decide
  have hJ26_1 : ∀ (n3 : Int32) (a3 : Nat → Int32) (b3 : Nat → Int32) (c3 : Nat → Int32), (0 ≤ n3.toInt) → (n3.toInt ≤ 1232) → pb_P l G M i_Book_noteRelations 26 [(0, .ref h), (1, .int i)] [] [(h, .inr (9, [.ref ta, .ref ca, .ref ps, .ref xe, .ref mk, .ref rd, .ref mu, .ref fi, .ref go, .ref sp, .ref ss])), (fi, .inr (2, [.ref fk, .ref fo, .ref fp, .int n3])), (fk, .inl (G.2.2.1, 1232, .inl a3)), (fo, .inl (G.2.2.1, 1232, .inl b3)), (fp, .inl (G.2.2.1, 1232, .inl c3)), (mu, .inr (8, [.ref ui, .ref ug, .ref uv, .ref ur, .int ct, .int fa, .int bg, .int at_, .int en, .int vs, .int io, .int hi, .int ht])), (ug, .inl (G.2.2.1, 200, .inl gf)), (ui, .inl (G.2.2.2.1, 200, .inr (.inl df)))] 0 0 := by
    intro n3 a3 b3 c3 j0 j1
    refine pb_iconst (pc := 26) (v := 0) d_Book_noteRelations_26 (by decide) ?_
    refine pb_istore_n (pc := 27) (lo' := [(2, .int 0), (0, .ref h), (1, .int i)]) d_Book_noteRelations_27 rfl (by decide) rfl ?_
    have hL28_2 : ∀ (N9 : Nat) (k : Int32) (n4 : Int32) (a4 : Nat → Int32) (b4 : Nat → Int32) (c4 : Nat → Int32), (0 ≤ k.toInt) → (0 ≤ n4.toInt) → (n4.toInt ≤ 1232) → ((ct.toInt - k.toInt).toNat) < N9 → pb_P l G M i_Book_noteRelations 28 [(2, .int k), (0, .ref h), (1, .int i)] [] [(h, .inr (9, [.ref ta, .ref ca, .ref ps, .ref xe, .ref mk, .ref rd, .ref mu, .ref fi, .ref go, .ref sp, .ref ss])), (fi, .inr (2, [.ref fk, .ref fo, .ref fp, .int n4])), (fk, .inl (G.2.2.1, 1232, .inl a4)), (fo, .inl (G.2.2.1, 1232, .inl b4)), (fp, .inl (G.2.2.1, 1232, .inl c4)), (mu, .inr (8, [.ref ui, .ref ug, .ref uv, .ref ur, .int ct, .int fa, .int bg, .int at_, .int en, .int vs, .int io, .int hi, .int ht])), (ug, .inl (G.2.2.1, 200, .inl gf)), (ui, .inl (G.2.2.2.1, 200, .inr (.inl df)))] 0 0 := by
      intro N9
      induction N9 with
      | zero => intro k n4 a4 b4 c4 kk m0 m1 hm9; exact absurd hm9 (Nat.not_lt_zero _)
      | succ N9 ih28 =>
        intro k n4 a4 b4 c4 kk m0 m1 hm9
        refine pb_iload_n (pc := 28) d_Book_noteRelations_28 0 rfl rfl ?_
        refine pb_aload_n (pc := 29) d_Book_noteRelations_29 1 rfl rfl ?_
        refine pb_get (pc := 30) d_Book_noteRelations_30 0 6 rfl rfl (by decide) in_Book k_423 rfl ?_
        refine pb_getN (pc := 33) d_Book_noteRelations_33 5 4 rfl rfl (by decide) in_Markup k_322 rfl ?_
        refine pb_icmp_ge (pc := 36) (tgt := 88) d_Book_noteRelations_36 (by decide) (fun wx3 => ?_) (fun wx3 => ?_)
        · have twx3 : ct.toInt ≤ k.toInt := (ti_le rfl rfl).mp wx3
          exact pb_vret (pc := 88) hQ d_Book_noteRelations_88 rfl (n4, a4, b4, c4) ⟨rfl, (by (try dsimp only); first | done | (with_reducible assumption) | omega (splitDisjunctions := false) | assumption | omega | decide), (by (try dsimp only); first | done | (with_reducible assumption) | omega (splitDisjunctions := false) | assumption | omega | decide)⟩ [0, 1, 2, 3, 4, 5, 6, 7] (by decide) rfl rfl (by decide) (by decide)
        · have twx3 : ¬ ct.toInt ≤ k.toInt := fun z9 => wx3 ((ti_le rfl rfl).mpr z9)
          have hJ60_4 : ∀ (n5 : Int32) (a5 : Nat → Int32) (b5 : Nat → Int32) (c5 : Nat → Int32), (0 ≤ n5.toInt) → (n5.toInt ≤ 1232) → pb_P l G M i_Book_noteRelations 60 [(2, .int k), (0, .ref h), (1, .int i)] [] [(h, .inr (9, [.ref ta, .ref ca, .ref ps, .ref xe, .ref mk, .ref rd, .ref mu, .ref fi, .ref go, .ref sp, .ref ss])), (fi, .inr (2, [.ref fk, .ref fo, .ref fp, .int n5])), (fk, .inl (G.2.2.1, 1232, .inl a5)), (fo, .inl (G.2.2.1, 1232, .inl b5)), (fp, .inl (G.2.2.1, 1232, .inl c5)), (mu, .inr (8, [.ref ui, .ref ug, .ref uv, .ref ur, .int ct, .int fa, .int bg, .int at_, .int en, .int vs, .int io, .int hi, .int ht])), (ug, .inl (G.2.2.1, 200, .inl gf)), (ui, .inl (G.2.2.2.1, 200, .inr (.inl df)))] 0 0 := by
            intro n5 a5 b5 c5 l0 l1
            refine pb_aload_n (pc := 60) d_Book_noteRelations_60 1 rfl rfl ?_
            refine pb_get (pc := 61) d_Book_noteRelations_61 0 6 rfl rfl (by decide) in_Book k_423 rfl ?_
            refine pb_getN (pc := 64) d_Book_noteRelations_64 5 1 rfl rfl (by decide) in_Markup k_318 rfl ?_
            refine pb_iload_n (pc := 67) d_Book_noteRelations_67 0 rfl rfl ?_
            refine pb_iald (pc := 68) d_Book_noteRelations_68 6 rfl (vp_in_iff.mpr (by omega)) ?_
            refine pb_topi (fun ix5 eix5 => ?_)
            have tix5 : ix5.toInt = gx gf (k.toInt) := gx_ld eix5 rfl
            refine pb_if_ge (pc := 69) (tgt := 82) d_Book_noteRelations_69 (by decide) (fun wx6 => ?_) (fun wx6 => ?_)
            · have twx6 : 0 ≤ ix5.toInt := (ti_le (by decide) rfl).mp wx6
              refine pb_iincN (pc := 82) (c := 1) d_Book_noteRelations_82 0 rfl (by decide) (by decide) (fun ix7 eix7 => ?_)
              have tix7 : ix7.toInt = k.toInt + 1 := t2_add eix7 rfl (by decide) (by first | omega | (have r90 := ti_rng k; have r91 := ti_rng ix7; have r92 := ti_rng i; omega))
              refine pb_eq (pc' := 85) (lo' := [(2, .int ix7), (0, .ref h), (1, .int i)]) (rest' := []) (ws' := [(h, .inr (9, [.ref ta, .ref ca, .ref ps, .ref xe, .ref mk, .ref rd, .ref mu, .ref fi, .ref go, .ref sp, .ref ss])), (fi, .inr (2, [.ref fk, .ref fo, .ref fp, .int n5])), (fk, .inl (G.2.2.1, 1232, .inl a5)), (fo, .inl (G.2.2.1, 1232, .inl b5)), (fp, .inl (G.2.2.1, 1232, .inl c5)), (mu, .inr (8, [.ref ui, .ref ug, .ref uv, .ref ur, .int ct, .int fa, .int bg, .int at_, .int en, .int vs, .int io, .int hi, .int ht])), (ug, .inl (G.2.2.1, 200, .inl gf)), (ui, .inl (G.2.2.2.1, 200, .inr (.inl df)))]) ?_
              refine pb_goto (pc := 85) (tgt := 28) d_Book_noteRelations_85 (by decide) ?_
              exact ih28 ix7 n5 a5 b5 c5 (by first | (with_reducible assumption) | omega (splitDisjunctions := false) | assumption | omega | decide) (by first | (with_reducible assumption) | omega (splitDisjunctions := false) | assumption | omega | decide) (by first | (with_reducible assumption) | omega (splitDisjunctions := false) | assumption | omega | decide) (by (exact omg_7c8a06b1f5 hm9 twx3 tix7))
            · have twx6 : ¬ 0 ≤ ix5.toInt := fun z9 => wx6 ((ti_le (by decide) rfl).mpr z9)
              refine pb_aload_n (pc := 72) d_Book_noteRelations_72 1 rfl rfl ?_
              refine pb_get (pc := 73) d_Book_noteRelations_73 0 7 rfl rfl (by decide) in_Book k_424 rfl ?_
              refine pb_iconst (pc := 76) (v := 3) d_Book_noteRelations_76 (by decide) ?_
              refine pb_iload_n (pc := 77) d_Book_noteRelations_77 2 rfl rfl ?_
              refine pb_iload_n (pc := 78) d_Book_noteRelations_78 0 rfl rfl ?_
              refine pb_callV (pc := 79) (I := i_Book_noteRelations) (qb := 1) (ci := 2) (nA := 3) (rest := []) (wr := [(h, .inr (9, [.ref ta, .ref ca, .ref ps, .ref xe, .ref mk, .ref rd, .ref mu, .ref fi, .ref go, .ref sp, .ref ss])), (mu, .inr (8, [.ref ui, .ref ug, .ref uv, .ref ur, .int ct, .int fa, .int bg, .int at_, .int en, .int vs, .int io, .int hi, .int ht])), (ug, .inl (G.2.2.1, 200, .inl gf)), (ui, .inl (G.2.2.2.1, 200, .inr (.inl df)))]) d_Book_noteRelations_79 (g_Fi_note hl G fi fk fo fp n5 a5 b5 c5 3 i k (by first | (with_reducible assumption) | omega (splitDisjunctions := false) | assumption | omega | decide) (by first | (with_reducible assumption) | omega (splitDisjunctions := false) | assumption | omega | decide)) rfl rfl [1, 2, 3, 4] [0, 5, 6, 7] (by decide) rfl rfl rfl (by decide) (by decide) k_913 rfl k_126 k_910 k_911 k_912 ⟨rfl, hy_Findings_note⟩ (by decide) rfl rfl (Nat.le_of_ble_eq_true rfl) (by decide) (fun v9 ux9 ch8 => ?_)
              obtain ⟨n_10, g_11, g_12, g_13⟩ := ux9
              obtain ⟨ech8, ch8⟩ := ch8
              have ech8 : v9 = none := ech8
              subst ech8
              obtain ⟨fh14, fh15⟩ : (0 ≤ n_10.toInt) ∧ (n_10.toInt ≤ 1232) := ch8
              refine pb_eq (pc' := 82) (lo' := [(2, .int k), (0, .ref h), (1, .int i)]) (rest' := []) (ws' := [(h, .inr (9, [.ref ta, .ref ca, .ref ps, .ref xe, .ref mk, .ref rd, .ref mu, .ref fi, .ref go, .ref sp, .ref ss])), (mu, .inr (8, [.ref ui, .ref ug, .ref uv, .ref ur, .int ct, .int fa, .int bg, .int at_, .int en, .int vs, .int io, .int hi, .int ht])), (ug, .inl (G.2.2.1, 200, .inl gf)), (ui, .inl (G.2.2.2.1, 200, .inr (.inl df))), (fi, .inr (2, [.ref fk, .ref fo, .ref fp, .int n_10])), (fk, .inl (G.2.2.1, 1232, .inl g_11)), (fo, .inl (G.2.2.1, 1232, .inl g_12)), (fp, .inl (G.2.2.1, 1232, .inl g_13))]) ?_
              refine pb_iincN (pc := 82) (c := 1) d_Book_noteRelations_82 0 rfl (by decide) (by decide) (fun ix16 eix16 => ?_)
              have tix16 : ix16.toInt = k.toInt + 1 := t2_add eix16 rfl (by decide) (by first | omega | (have r90 := ti_rng k; have r91 := ti_rng ix16; have r92 := ti_rng i; omega))
              refine pb_eq (pc' := 85) (lo' := [(2, .int ix16), (0, .ref h), (1, .int i)]) (rest' := []) (ws' := [(h, .inr (9, [.ref ta, .ref ca, .ref ps, .ref xe, .ref mk, .ref rd, .ref mu, .ref fi, .ref go, .ref sp, .ref ss])), (mu, .inr (8, [.ref ui, .ref ug, .ref uv, .ref ur, .int ct, .int fa, .int bg, .int at_, .int en, .int vs, .int io, .int hi, .int ht])), (ug, .inl (G.2.2.1, 200, .inl gf)), (ui, .inl (G.2.2.2.1, 200, .inr (.inl df))), (fi, .inr (2, [.ref fk, .ref fo, .ref fp, .int n_10])), (fk, .inl (G.2.2.1, 1232, .inl g_11)), (fo, .inl (G.2.2.1, 1232, .inl g_12)), (fp, .inl (G.2.2.1, 1232, .inl g_13))]) ?_
              refine pb_goto (pc := 85) (tgt := 28) d_Book_noteRelations_85 (by decide) ?_
              refine pb_re (ws' := [(h, .inr (9, [.ref ta, .ref ca, .ref ps, .ref xe, .ref mk, .ref rd, .ref mu, .ref fi, .ref go, .ref sp, .ref ss])), (fi, .inr (2, [.ref fk, .ref fo, .ref fp, .int n_10])), (fk, .inl (G.2.2.1, 1232, .inl g_11)), (fo, .inl (G.2.2.1, 1232, .inl g_12)), (fp, .inl (G.2.2.1, 1232, .inl g_13)), (mu, .inr (8, [.ref ui, .ref ug, .ref uv, .ref ur, .int ct, .int fa, .int bg, .int at_, .int en, .int vs, .int io, .int hi, .int ht])), (ug, .inl (G.2.2.1, 200, .inl gf)), (ui, .inl (G.2.2.2.1, 200, .inr (.inl df)))]) (lo' := [(2, .int ix16), (0, .ref h), (1, .int i)]) [0, 4, 5, 6, 7, 1, 2, 3] [0, 1, 2] (by decide) rfl rfl rfl ?_
              exact ih28 ix16 n_10 g_11 g_12 g_13 (by first | (with_reducible assumption) | omega (splitDisjunctions := false) | assumption | omega | decide) (by first | (with_reducible assumption) | omega (splitDisjunctions := false) | assumption | omega | decide) (by first | (with_reducible assumption) | omega (splitDisjunctions := false) | assumption | omega | decide) (by (exact omg_7c8a06b1f5 hm9 twx3 tix16))
          refine pb_aload_n (pc := 39) d_Book_noteRelations_39 1 rfl rfl ?_
          refine pb_get (pc := 40) d_Book_noteRelations_40 0 6 rfl rfl (by decide) in_Book k_423 rfl ?_
          refine pb_iload_n (pc := 43) d_Book_noteRelations_43 0 rfl rfl ?_
          refine pb_callV (pc := 44) (I := i_Book_noteRelations) (qb := 5) (ci := 8) (nA := 1) (rest := []) (wr := [(h, .inr (9, [.ref ta, .ref ca, .ref ps, .ref xe, .ref mk, .ref rd, .ref mu, .ref fi, .ref go, .ref sp, .ref ss])), (fi, .inr (2, [.ref fk, .ref fo, .ref fp, .int n4])), (fk, .inl (G.2.2.1, 1232, .inl a4)), (fo, .inl (G.2.2.1, 1232, .inl b4)), (fp, .inl (G.2.2.1, 1232, .inl c4)), (ug, .inl (G.2.2.1, 200, .inl gf))]) d_Book_noteRelations_44 (g_Mu_isRepeated hl G mu ui ug uv ur ct fa bg at_ en vs io hi ht df k (by first | (with_reducible assumption) | omega (splitDisjunctions := false) | assumption | omega | decide) (by first | (with_reducible assumption) | omega (splitDisjunctions := false) | assumption | omega | decide)) rfl rfl [5, 7] [0, 1, 2, 3, 4, 6] (by decide) rfl rfl rfl (by decide) (by decide) k_917 rfl k_125 k_914 k_915 k_916 ⟨rfl, hy_Markup_isRepeated⟩ (by decide) rfl rfl (Nat.le_of_ble_eq_true rfl) (by decide) (fun v9 ux18 ch17 => ?_)
          obtain ⟨r_19, rfl⟩ : ∃ z9, z9 = ux18 := ⟨_, rfl⟩
          obtain ⟨ech17, ch17⟩ := ch17
          have ech17 : v9 = some (.int r_19) := ech17
          subst ech17
          have fh20 : r_19.toInt = 0 ∨ r_19.toInt = 1 := ch17
          refine pb_eq (pc' := 47) (lo' := [(2, .int k), (0, .ref h), (1, .int i)]) (rest' := [.int r_19]) (ws' := [(h, .inr (9, [.ref ta, .ref ca, .ref ps, .ref xe, .ref mk, .ref rd, .ref mu, .ref fi, .ref go, .ref sp, .ref ss])), (fi, .inr (2, [.ref fk, .ref fo, .ref fp, .int n4])), (fk, .inl (G.2.2.1, 1232, .inl a4)), (fo, .inl (G.2.2.1, 1232, .inl b4)), (fp, .inl (G.2.2.1, 1232, .inl c4)), (ug, .inl (G.2.2.1, 200, .inl gf)), (mu, .inr (8, [.ref ui, .ref ug, .ref uv, .ref ur, .int ct, .int fa, .int bg, .int at_, .int en, .int vs, .int io, .int hi, .int ht])), (ui, .inl (G.2.2.2.1, 200, .inr (.inl df)))]) ?_
          refine pb_if_eq (pc := 47) (tgt := 60) d_Book_noteRelations_47 (by decide) (fun wx21 => ?_) (fun wx21 => ?_)
          · have twx21 : r_19.toInt = 0 := (ti_eq rfl (by decide)).mp wx21
            refine pb_re (ws' := [(h, .inr (9, [.ref ta, .ref ca, .ref ps, .ref xe, .ref mk, .ref rd, .ref mu, .ref fi, .ref go, .ref sp, .ref ss])), (fi, .inr (2, [.ref fk, .ref fo, .ref fp, .int n4])), (fk, .inl (G.2.2.1, 1232, .inl a4)), (fo, .inl (G.2.2.1, 1232, .inl b4)), (fp, .inl (G.2.2.1, 1232, .inl c4)), (mu, .inr (8, [.ref ui, .ref ug, .ref uv, .ref ur, .int ct, .int fa, .int bg, .int at_, .int en, .int vs, .int io, .int hi, .int ht])), (ug, .inl (G.2.2.1, 200, .inl gf)), (ui, .inl (G.2.2.2.1, 200, .inr (.inl df)))]) (lo' := [(2, .int k), (0, .ref h), (1, .int i)]) [0, 1, 2, 3, 4, 6, 5, 7] [0, 1, 2] (by decide) rfl rfl rfl ?_
            exact hJ60_4 n4 a4 b4 c4 (by first | (with_reducible assumption) | omega (splitDisjunctions := false) | assumption | omega | decide) (by first | (with_reducible assumption) | omega (splitDisjunctions := false) | assumption | omega | decide)
          · have twx21 : ¬ r_19.toInt = 0 := fun z9 => wx21 ((ti_eq rfl (by decide)).mpr z9)
            refine pb_aload_n (pc := 50) d_Book_noteRelations_50 1 rfl rfl ?_
            refine pb_get (pc := 51) d_Book_noteRelations_51 0 7 rfl rfl (by decide) in_Book k_424 rfl ?_
            refine pb_iconst (pc := 54) (v := 2) d_Book_noteRelations_54 (by decide) ?_
            refine pb_iload_n (pc := 55) d_Book_noteRelations_55 2 rfl rfl ?_
            refine pb_iload_n (pc := 56) d_Book_noteRelations_56 0 rfl rfl ?_
            refine pb_callV (pc := 57) (I := i_Book_noteRelations) (qb := 1) (ci := 2) (nA := 3) (rest := []) (wr := [(h, .inr (9, [.ref ta, .ref ca, .ref ps, .ref xe, .ref mk, .ref rd, .ref mu, .ref fi, .ref go, .ref sp, .ref ss])), (ug, .inl (G.2.2.1, 200, .inl gf)), (mu, .inr (8, [.ref ui, .ref ug, .ref uv, .ref ur, .int ct, .int fa, .int bg, .int at_, .int en, .int vs, .int io, .int hi, .int ht])), (ui, .inl (G.2.2.2.1, 200, .inr (.inl df)))]) d_Book_noteRelations_57 (g_Fi_note hl G fi fk fo fp n4 a4 b4 c4 2 i k (by first | (with_reducible assumption) | omega (splitDisjunctions := false) | assumption | omega | decide) (by first | (with_reducible assumption) | omega (splitDisjunctions := false) | assumption | omega | decide)) rfl rfl [1, 2, 3, 4] [0, 5, 6, 7] (by decide) rfl rfl rfl (by decide) (by decide) k_913 rfl k_126 k_910 k_911 k_912 ⟨rfl, hy_Findings_note⟩ (by decide) rfl rfl (Nat.le_of_ble_eq_true rfl) (by decide) (fun v9 ux23 ch22 => ?_)
            obtain ⟨n_24, g_25, g_26, g_27⟩ := ux23
            obtain ⟨ech22, ch22⟩ := ch22
            have ech22 : v9 = none := ech22
            subst ech22
            obtain ⟨fh28, fh29⟩ : (0 ≤ n_24.toInt) ∧ (n_24.toInt ≤ 1232) := ch22
            refine pb_eq (pc' := 60) (lo' := [(2, .int k), (0, .ref h), (1, .int i)]) (rest' := []) (ws' := [(h, .inr (9, [.ref ta, .ref ca, .ref ps, .ref xe, .ref mk, .ref rd, .ref mu, .ref fi, .ref go, .ref sp, .ref ss])), (ug, .inl (G.2.2.1, 200, .inl gf)), (mu, .inr (8, [.ref ui, .ref ug, .ref uv, .ref ur, .int ct, .int fa, .int bg, .int at_, .int en, .int vs, .int io, .int hi, .int ht])), (ui, .inl (G.2.2.2.1, 200, .inr (.inl df))), (fi, .inr (2, [.ref fk, .ref fo, .ref fp, .int n_24])), (fk, .inl (G.2.2.1, 1232, .inl g_25)), (fo, .inl (G.2.2.1, 1232, .inl g_26)), (fp, .inl (G.2.2.1, 1232, .inl g_27))]) ?_
            refine pb_re (ws' := [(h, .inr (9, [.ref ta, .ref ca, .ref ps, .ref xe, .ref mk, .ref rd, .ref mu, .ref fi, .ref go, .ref sp, .ref ss])), (fi, .inr (2, [.ref fk, .ref fo, .ref fp, .int n_24])), (fk, .inl (G.2.2.1, 1232, .inl g_25)), (fo, .inl (G.2.2.1, 1232, .inl g_26)), (fp, .inl (G.2.2.1, 1232, .inl g_27)), (mu, .inr (8, [.ref ui, .ref ug, .ref uv, .ref ur, .int ct, .int fa, .int bg, .int at_, .int en, .int vs, .int io, .int hi, .int ht])), (ug, .inl (G.2.2.1, 200, .inl gf)), (ui, .inl (G.2.2.2.1, 200, .inr (.inl df)))]) (lo' := [(2, .int k), (0, .ref h), (1, .int i)]) [0, 4, 5, 6, 7, 2, 1, 3] [0, 1, 2] (by decide) rfl rfl rfl ?_
            exact hJ60_4 n_24 g_25 g_26 g_27 (by first | (with_reducible assumption) | omega (splitDisjunctions := false) | assumption | omega | decide) (by first | (with_reducible assumption) | omega (splitDisjunctions := false) | assumption | omega | decide)
    exact hL28_2 _ 0 n3 a3 b3 c3 (by first | (with_reducible assumption) | omega (splitDisjunctions := false) | assumption | omega | decide) (by first | (with_reducible assumption) | omega (splitDisjunctions := false) | assumption | omega | decide) (by first | (with_reducible assumption) | omega (splitDisjunctions := false) | assumption | omega | decide) (Nat.lt_succ_self _)
  refine pb_aload_n (pc := 0) d_Book_noteRelations_0 0 rfl rfl ?_
  refine pb_get (pc := 1) d_Book_noteRelations_1 0 6 rfl rfl (by decide) in_Book k_423 rfl ?_
  refine pb_callV (pc := 4) (I := i_Book_noteRelations) (qb := 5) (ci := 8) (nA := 0) (rest := []) (wr := [(h, .inr (9, [.ref ta, .ref ca, .ref ps, .ref xe, .ref mk, .ref rd, .ref mu, .ref fi, .ref go, .ref sp, .ref ss])), (fi, .inr (2, [.ref fk, .ref fo, .ref fp, .int fn])), (fk, .inl (G.2.2.1, 1232, .inl ff1)), (fo, .inl (G.2.2.1, 1232, .inl ff2)), (fp, .inl (G.2.2.1, 1232, .inl ff3)), (ug, .inl (G.2.2.1, 200, .inl gf)), (ui, .inl (G.2.2.2.1, 200, .inr (.inl df)))]) d_Book_noteRelations_4 (g_Mu_isFaulty hl G mu ui ug uv ur ct fa bg at_ en vs io hi ht) rfl rfl [5] [0, 1, 2, 3, 4, 6, 7] (by decide) rfl rfl rfl (by decide) (by decide) k_909 rfl k_125 k_906 k_907 k_908 ⟨rfl, hy_Markup_isFaulty⟩ (by decide) rfl rfl (Nat.le_of_ble_eq_true rfl) (by decide) (fun v9 ux31 ch30 => ?_)
  obtain ⟨r_32, rfl⟩ : ∃ z9, z9 = ux31 := ⟨_, rfl⟩
  obtain ⟨ech30, ch30⟩ := ch30
  have ech30 : v9 = some (.int r_32) := ech30
  subst ech30
  obtain ⟨fh33, fh34⟩ : (r_32.toInt = 0 ∨ r_32.toInt = 1) ∧ ((r_32.toInt = 1 ∧ 0 ≤ fa.toInt) ∨ (r_32.toInt = 0 ∧ fa.toInt < 0)) := ch30
  refine pb_eq (pc' := 7) (lo' := [(0, .ref h), (1, .int i)]) (rest' := [.int r_32]) (ws' := [(h, .inr (9, [.ref ta, .ref ca, .ref ps, .ref xe, .ref mk, .ref rd, .ref mu, .ref fi, .ref go, .ref sp, .ref ss])), (fi, .inr (2, [.ref fk, .ref fo, .ref fp, .int fn])), (fk, .inl (G.2.2.1, 1232, .inl ff1)), (fo, .inl (G.2.2.1, 1232, .inl ff2)), (fp, .inl (G.2.2.1, 1232, .inl ff3)), (ug, .inl (G.2.2.1, 200, .inl gf)), (ui, .inl (G.2.2.2.1, 200, .inr (.inl df))), (mu, .inr (8, [.ref ui, .ref ug, .ref uv, .ref ur, .int ct, .int fa, .int bg, .int at_, .int en, .int vs, .int io, .int hi, .int ht]))]) ?_
  refine pb_if_eq (pc := 7) (tgt := 26) d_Book_noteRelations_7 (by decide) (fun wx35 => ?_) (fun wx35 => ?_)
  · have twx35 : r_32.toInt = 0 := (ti_eq rfl (by decide)).mp wx35
    refine pb_re (ws' := [(h, .inr (9, [.ref ta, .ref ca, .ref ps, .ref xe, .ref mk, .ref rd, .ref mu, .ref fi, .ref go, .ref sp, .ref ss])), (fi, .inr (2, [.ref fk, .ref fo, .ref fp, .int fn])), (fk, .inl (G.2.2.1, 1232, .inl ff1)), (fo, .inl (G.2.2.1, 1232, .inl ff2)), (fp, .inl (G.2.2.1, 1232, .inl ff3)), (mu, .inr (8, [.ref ui, .ref ug, .ref uv, .ref ur, .int ct, .int fa, .int bg, .int at_, .int en, .int vs, .int io, .int hi, .int ht])), (ug, .inl (G.2.2.1, 200, .inl gf)), (ui, .inl (G.2.2.2.1, 200, .inr (.inl df)))]) (lo' := [(0, .ref h), (1, .int i)]) [0, 1, 2, 3, 4, 7, 5, 6] [0, 1] (by decide) rfl rfl rfl ?_
    exact hJ26_1 fn ff1 ff2 ff3 (by first | (with_reducible assumption) | omega (splitDisjunctions := false) | assumption | omega | decide) (by first | (with_reducible assumption) | omega (splitDisjunctions := false) | assumption | omega | decide)
  · have twx35 : ¬ r_32.toInt = 0 := fun z9 => wx35 ((ti_eq rfl (by decide)).mpr z9)
    refine pb_aload_n (pc := 10) d_Book_noteRelations_10 0 rfl rfl ?_
    refine pb_get (pc := 11) d_Book_noteRelations_11 0 7 rfl rfl (by decide) in_Book k_424 rfl ?_
    refine pb_iconst (pc := 14) (v := 1) d_Book_noteRelations_14 (by decide) ?_
    refine pb_iload_n (pc := 15) d_Book_noteRelations_15 1 rfl rfl ?_
    refine pb_aload_n (pc := 16) d_Book_noteRelations_16 0 rfl rfl ?_
    refine pb_get (pc := 17) d_Book_noteRelations_17 0 6 rfl rfl (by decide) in_Book k_423 rfl ?_
    refine pb_getN (pc := 20) d_Book_noteRelations_20 7 5 rfl rfl (by decide) in_Markup k_324 rfl ?_
    refine pb_callV (pc := 23) (I := i_Book_noteRelations) (qb := 1) (ci := 2) (nA := 3) (rest := []) (wr := [(h, .inr (9, [.ref ta, .ref ca, .ref ps, .ref xe, .ref mk, .ref rd, .ref mu, .ref fi, .ref go, .ref sp, .ref ss])), (ug, .inl (G.2.2.1, 200, .inl gf)), (ui, .inl (G.2.2.2.1, 200, .inr (.inl df))), (mu, .inr (8, [.ref ui, .ref ug, .ref uv, .ref ur, .int ct, .int fa, .int bg, .int at_, .int en, .int vs, .int io, .int hi, .int ht]))]) d_Book_noteRelations_23 (g_Fi_note hl G fi fk fo fp fn ff1 ff2 ff3 1 i fa (by first | (with_reducible assumption) | omega (splitDisjunctions := false) | assumption | omega | decide) (by first | (with_reducible assumption) | omega (splitDisjunctions := false) | assumption | omega | decide)) rfl rfl [1, 2, 3, 4] [0, 5, 6, 7] (by decide) rfl rfl rfl (by decide) (by decide) k_913 rfl k_126 k_910 k_911 k_912 ⟨rfl, hy_Findings_note⟩ (by decide) rfl rfl (Nat.le_of_ble_eq_true rfl) (by decide) (fun v9 ux37 ch36 => ?_)
    obtain ⟨n_38, g_39, g_40, g_41⟩ := ux37
    obtain ⟨ech36, ch36⟩ := ch36
    have ech36 : v9 = none := ech36
    subst ech36
    obtain ⟨fh42, fh43⟩ : (0 ≤ n_38.toInt) ∧ (n_38.toInt ≤ 1232) := ch36
    refine pb_eq (pc' := 26) (lo' := [(0, .ref h), (1, .int i)]) (rest' := []) (ws' := [(h, .inr (9, [.ref ta, .ref ca, .ref ps, .ref xe, .ref mk, .ref rd, .ref mu, .ref fi, .ref go, .ref sp, .ref ss])), (ug, .inl (G.2.2.1, 200, .inl gf)), (ui, .inl (G.2.2.2.1, 200, .inr (.inl df))), (mu, .inr (8, [.ref ui, .ref ug, .ref uv, .ref ur, .int ct, .int fa, .int bg, .int at_, .int en, .int vs, .int io, .int hi, .int ht])), (fi, .inr (2, [.ref fk, .ref fo, .ref fp, .int n_38])), (fk, .inl (G.2.2.1, 1232, .inl g_39)), (fo, .inl (G.2.2.1, 1232, .inl g_40)), (fp, .inl (G.2.2.1, 1232, .inl g_41))]) ?_
    refine pb_re (ws' := [(h, .inr (9, [.ref ta, .ref ca, .ref ps, .ref xe, .ref mk, .ref rd, .ref mu, .ref fi, .ref go, .ref sp, .ref ss])), (fi, .inr (2, [.ref fk, .ref fo, .ref fp, .int n_38])), (fk, .inl (G.2.2.1, 1232, .inl g_39)), (fo, .inl (G.2.2.1, 1232, .inl g_40)), (fp, .inl (G.2.2.1, 1232, .inl g_41)), (mu, .inr (8, [.ref ui, .ref ug, .ref uv, .ref ur, .int ct, .int fa, .int bg, .int at_, .int en, .int vs, .int io, .int hi, .int ht])), (ug, .inl (G.2.2.1, 200, .inl gf)), (ui, .inl (G.2.2.2.1, 200, .inr (.inl df)))]) (lo' := [(0, .ref h), (1, .int i)]) [0, 4, 5, 6, 7, 3, 1, 2] [0, 1] (by decide) rfl rfl rfl ?_
    exact hJ26_1 n_38 g_39 g_40 g_41 (by first | (with_reducible assumption) | omega (splitDisjunctions := false) | assumption | omega | decide) (by first | (with_reducible assumption) | omega (splitDisjunctions := false) | assumption | omega | decide)

theorem d_Book_reachedFromRoot_0 : decode prog_1_method_24_code 0 = .ok (.iconst 0, 1) := by decide +kernel
theorem d_Book_reachedFromRoot_1 : decode prog_1_method_24_code 1 = .ok (.istore_n 1, 1) := by decide +kernel
theorem d_Book_reachedFromRoot_2 : decode prog_1_method_24_code 2 = .ok (.iconst 0, 1) := by decide +kernel
theorem d_Book_reachedFromRoot_3 : decode prog_1_method_24_code 3 = .ok (.istore_n 2, 1) := by decide +kernel
theorem d_Book_reachedFromRoot_4 : decode prog_1_method_24_code 4 = .ok (.iload_n 2, 1) := by decide +kernel
theorem d_Book_reachedFromRoot_5 : decode prog_1_method_24_code 5 = .ok (.aload_n 0, 1) := by decide +kernel
theorem d_Book_reachedFromRoot_6 : decode prog_1_method_24_code 6 = .ok (.getfield 70, 3) := by decide +kernel
theorem d_Book_reachedFromRoot_9 : decode prog_1_method_24_code 9 = .ok (.getfield 133, 3) := by decide +kernel
theorem d_Book_reachedFromRoot_12 : decode prog_1_method_24_code 12 = .ok (.if_icmp .ge 27, 3) := by decide +kernel
theorem d_Book_reachedFromRoot_39 : decode prog_1_method_24_code 39 = .ok (.iconst 0, 1) := by decide +kernel
theorem d_Book_reachedFromRoot_40 : decode prog_1_method_24_code 40 = .ok (.istore_n 2, 1) := by decide +kernel
theorem d_Book_reachedFromRoot_41 : decode prog_1_method_24_code 41 = .ok (.iload_n 2, 1) := by decide +kernel
theorem d_Book_reachedFromRoot_42 : decode prog_1_method_24_code 42 = .ok (.aload_n 0, 1) := by decide +kernel
theorem d_Book_reachedFromRoot_43 : decode prog_1_method_24_code 43 = .ok (.getfield 70, 3) := by decide +kernel
theorem d_Book_reachedFromRoot_46 : decode prog_1_method_24_code 46 = .ok (.getfield 133, 3) := by decide +kernel
theorem d_Book_reachedFromRoot_49 : decode prog_1_method_24_code 49 = .ok (.if_icmp .ge 46, 3) := by decide +kernel
theorem d_Book_reachedFromRoot_95 : decode prog_1_method_24_code 95 = .ok (.iload_n 1, 1) := by decide +kernel
theorem d_Book_reachedFromRoot_96 : decode prog_1_method_24_code 96 = .ok (.ireturn, 1) := by decide +kernel
theorem d_Book_reachedFromRoot_52 : decode prog_1_method_24_code 52 = .ok (.iconst 0, 1) := by decide +kernel
theorem d_Book_reachedFromRoot_53 : decode prog_1_method_24_code 53 = .ok (.istore_n 3, 1) := by decide +kernel
theorem d_Book_reachedFromRoot_54 : decode prog_1_method_24_code 54 = .ok (.iload_n 3, 1) := by decide +kernel
theorem d_Book_reachedFromRoot_55 : decode prog_1_method_24_code 55 = .ok (.aload_n 0, 1) := by decide +kernel
theorem d_Book_reachedFromRoot_56 : decode prog_1_method_24_code 56 = .ok (.getfield 70, 3) := by decide +kernel
theorem d_Book_reachedFromRoot_59 : decode prog_1_method_24_code 59 = .ok (.getfield 133, 3) := by decide +kernel
theorem d_Book_reachedFromRoot_62 : decode prog_1_method_24_code 62 = .ok (.if_icmp .ge 27, 3) := by decide +kernel
theorem d_Book_reachedFromRoot_89 : decode prog_1_method_24_code 89 = .ok (.iinc 2 1, 3) := by decide +kernel
theorem d_Book_reachedFromRoot_92 : decode prog_1_method_24_code 92 = .ok (.goto (-51), 3) := by decide +kernel
theorem d_Book_reachedFromRoot_65 : decode prog_1_method_24_code 65 = .ok (.iload_n 1, 1) := by decide +kernel
theorem d_Book_reachedFromRoot_66 : decode prog_1_method_24_code 66 = .ok (.iload_n 3, 1) := by decide +kernel
theorem d_Book_reachedFromRoot_67 : decode prog_1_method_24_code 67 = .ok (.ishr, 1) := by decide +kernel
theorem d_Book_reachedFromRoot_68 : decode prog_1_method_24_code 68 = .ok (.iconst 1, 1) := by decide +kernel
theorem d_Book_reachedFromRoot_69 : decode prog_1_method_24_code 69 = .ok (.iand, 1) := by decide +kernel
theorem d_Book_reachedFromRoot_70 : decode prog_1_method_24_code 70 = .ok (.iconst 1, 1) := by decide +kernel
theorem d_Book_reachedFromRoot_71 : decode prog_1_method_24_code 71 = .ok (.if_icmp .ne 12, 3) := by decide +kernel
theorem d_Book_reachedFromRoot_83 : decode prog_1_method_24_code 83 = .ok (.iinc 3 1, 3) := by decide +kernel
theorem d_Book_reachedFromRoot_86 : decode prog_1_method_24_code 86 = .ok (.goto (-32), 3) := by decide +kernel
theorem d_Book_reachedFromRoot_74 : decode prog_1_method_24_code 74 = .ok (.iload_n 1, 1) := by decide +kernel
theorem d_Book_reachedFromRoot_75 : decode prog_1_method_24_code 75 = .ok (.aload_n 0, 1) := by decide +kernel
theorem d_Book_reachedFromRoot_76 : decode prog_1_method_24_code 76 = .ok (.getfield 63, 3) := by decide +kernel
theorem d_Book_reachedFromRoot_79 : decode prog_1_method_24_code 79 = .ok (.iload_n 3, 1) := by decide +kernel
theorem d_Book_reachedFromRoot_80 : decode prog_1_method_24_code 80 = .ok (.iaload, 1) := by decide +kernel
theorem d_Book_reachedFromRoot_81 : decode prog_1_method_24_code 81 = .ok (.ior, 1) := by decide +kernel
theorem d_Book_reachedFromRoot_82 : decode prog_1_method_24_code 82 = .ok (.istore_n 1, 1) := by decide +kernel
theorem d_Book_reachedFromRoot_15 : decode prog_1_method_24_code 15 = .ok (.aload_n 0, 1) := by decide +kernel
theorem d_Book_reachedFromRoot_16 : decode prog_1_method_24_code 16 = .ok (.getfield 70, 3) := by decide +kernel
theorem d_Book_reachedFromRoot_19 : decode prog_1_method_24_code 19 = .ok (.iload_n 2, 1) := by decide +kernel
theorem d_Book_reachedFromRoot_20 : decode prog_1_method_24_code 20 = .ok (.ldc_w 256, 3) := by decide +kernel
theorem d_Book_reachedFromRoot_23 : decode prog_1_method_24_code 23 = .ok (.invokevirtual 258, 3) := by decide +kernel
theorem k_927 : (Jvm.Cond.methodLink "PackageBook" (258 : Nat) ({ cls := "PackageBook$Shelf", name := "isNamed", desc := "(ILjava/lang/String;)Z" } : Jvm.MethodName)) ∈ uW := uW_of 927 (by decide +kernel) (by decide +kernel)
theorem k_930 : (Jvm.Cond.code ({ cls := "PackageBook$Shelf", name := "isNamed", desc := "(ILjava/lang/String;)Z" } : Jvm.MethodName) prog_10_method_12_code (3 : Nat) (Option.some Jvm.ClassFile.FieldType.boolean)) ∈ uW := uW_of 930 (by decide +kernel) (by decide +kernel)
theorem k_928 : (Jvm.Cond.instanceMethod ({ cls := "PackageBook$Shelf", name := "isNamed", desc := "(ILjava/lang/String;)Z" } : Jvm.MethodName)) ∈ uW := uW_of 928 (by decide +kernel) (by decide +kernel)
theorem k_929 : (Jvm.Cond.selects "PackageBook$Shelf" ({ cls := "PackageBook$Shelf", name := "isNamed", desc := "(ILjava/lang/String;)Z" } : Jvm.MethodName) ({ cls := "PackageBook$Shelf", name := "isNamed", desc := "(ILjava/lang/String;)Z" } : Jvm.MethodName)) ∈ uW := uW_of 929 (by decide +kernel) (by decide +kernel)
theorem hy_Shelf_isNamed : (y_Shelf_isNamed).cls ≠ "java/lang/invoke/MethodHandle" ∧ (y_Shelf_isNamed).cls ≠ "java/lang/invoke/VarHandle" ∧ (parseMethodDescriptor (y_Shelf_isNamed).desc).map (fun d => d.parameters.length) = some 2 := by decide +kernel
theorem d_Book_reachedFromRoot_26 : decode prog_1_method_24_code 26 = .ok (.ifCond .eq 7, 3) := by decide +kernel
theorem d_Book_reachedFromRoot_33 : decode prog_1_method_24_code 33 = .ok (.iinc 2 1, 3) := by decide +kernel
theorem d_Book_reachedFromRoot_36 : decode prog_1_method_24_code 36 = .ok (.goto (-32), 3) := by decide +kernel
theorem d_Book_reachedFromRoot_29 : decode prog_1_method_24_code 29 = .ok (.iconst 1, 1) := by decide +kernel
theorem d_Book_reachedFromRoot_30 : decode prog_1_method_24_code 30 = .ok (.iload_n 2, 1) := by decide +kernel
theorem d_Book_reachedFromRoot_31 : decode prog_1_method_24_code 31 = .ok (.ishl, 1) := by decide +kernel
theorem d_Book_reachedFromRoot_32 : decode prog_1_method_24_code 32 = .ok (.istore_n 1, 1) := by decide +kernel
abbrev y_Book_reachedFromRoot : MethodName := ⟨"PackageBook", "reachedFromRoot", "()I"⟩
abbrev i_Book_reachedFromRoot : pb_I := (y_Book_reachedFromRoot, prog_1_method_24_code, 4, (some Jvm.ClassFile.FieldType.int), [], { frames := 6, cells := 0, slots := 0, locals := 131 })
set_option maxRecDepth 100000 in
set_option maxHeartbeats 4000000 in
theorem g_Book_reachedFromRoot {l : Launch} (hl : l.stackTraces = false) (G : pb_G) (h : Nat) (ta : Nat) (ca : Nat) (ps : Nat) (xe : Nat) (mk : Nat) (rd : Nat) (mu : Nat) (fi : Nat) (go : Nat) (sp : Nat) (ss : Nat) (tn : Nat) (tz : Nat) (tb : Nat) (tg : Nat) (c : Int32) (tfn : Nat → Int32) (tfz : Nat → Int32) (tfb : Nat → Int32) (tfg : Nat → Int32) (gof : Nat → Int32) (I : sh_I c.toInt tfz tfg) (F_tfn : sb_Fit tfn) : Cn l G i_Book_reachedFromRoot [.ref h] [(h, .inr (9, [.ref ta, .ref ca, .ref ps, .ref xe, .ref mk, .ref rd, .ref mu, .ref fi, .ref go, .ref sp, .ref ss])), (sp, .inr (3, [.ref tn, .ref tz, .ref tb, .ref tg, .int c])), (tn, .inl (G.2.1, 384, .inl tfn)), (tz, .inl (G.2.2.1, 16, .inl tfz)), (go, .inl (G.2.2.1, 16, .inl gof))] (S := Int32) (fun rv_ u => rv_ = some (.int u)) (fun u => [(h, .inr (9, [.ref ta, .ref ca, .ref ps, .ref xe, .ref mk, .ref rd, .ref mu, .ref fi, .ref go, .ref sp, .ref ss])), (sp, .inr (3, [.ref tn, .ref tz, .ref tb, .ref tg, .int c])), (tn, .inl (G.2.1, 384, .inl tfn)), (tz, .inl (G.2.2.1, 16, .inl tfz)), (go, .inl (G.2.2.1, 16, .inl gof))]) := by
  refine Cn.of hl (by decide +kernel) rfl (Nat.le_of_ble_eq_true rfl) (fun M hQ => ?_)
  refine pb_eq (pc' := 0) (lo' := [(0, .ref h)]) (rest' := []) (ws' := [(h, .inr (9, [.ref ta, .ref ca, .ref ps, .ref xe, .ref mk, .ref rd, .ref mu, .ref fi, .ref go, .ref sp, .ref ss])), (sp, .inr (3, [.ref tn, .ref tz, .ref tb, .ref tg, .int c])), (tn, .inl (G.2.1, 384, .inl tfn)), (tz, .inl (G.2.2.1, 16, .inl tfz)), (go, .inl (G.2.2.1, 16, .inl gof))]) ?_
  have zl0 : (0 : Int32).toInt = 0 := by decide
  have zl1 : (1 : Int32).toInt = 1 := by decide
  have q1 := I.1
  have q2 := I.2.1
  refine pb_iconst (pc := 0) (v := 0) d_Book_reachedFromRoot_0 (by decide) ?_
  refine pb_istore_n (pc := 1) (lo' := [(1, .int 0), (0, .ref h)]) d_Book_reachedFromRoot_1 rfl (by decide) rfl ?_
  refine pb_iconst (pc := 2) (v := 0) d_Book_reachedFromRoot_2 (by decide) ?_
  refine pb_istore_n (pc := 3) (lo' := [(2, .int 0), (1, .int 0), (0, .ref h)]) d_Book_reachedFromRoot_3 rfl (by decide) rfl ?_
  have hL4_1 : ∀ (N9 : Nat) (rc : Int32) (i : Int32), (0 ≤ i.toInt) → ((c.toInt - i.toInt).toNat) < N9 → pb_P l G M i_Book_reachedFromRoot 4 [(1, .int rc), (2, .int i), (0, .ref h)] [] [(h, .inr (9, [.ref ta, .ref ca, .ref ps, .ref xe, .ref mk, .ref rd, .ref mu, .ref fi, .ref go, .ref sp, .ref ss])), (sp, .inr (3, [.ref tn, .ref tz, .ref tb, .ref tg, .int c])), (tn, .inl (G.2.1, 384, .inl tfn)), (tz, .inl (G.2.2.1, 16, .inl tfz)), (go, .inl (G.2.2.1, 16, .inl gof))] 0 0 := by
    intro N9
    induction N9 with
    | zero => intro rc i i0 hm9; exact absurd hm9 (Nat.not_lt_zero _)
    | succ N9 ih4 =>
      intro rc i i0 hm9
      refine pb_iload_n (pc := 4) d_Book_reachedFromRoot_4 1 rfl rfl ?_
      refine pb_aload_n (pc := 5) d_Book_reachedFromRoot_5 2 rfl rfl ?_
      refine pb_get (pc := 6) d_Book_reachedFromRoot_6 0 9 rfl rfl (by decide) in_Book k_426 rfl ?_
      refine pb_getN (pc := 9) d_Book_reachedFromRoot_9 1 4 rfl rfl (by decide) in_Shelf k_405 rfl ?_
      refine pb_icmp_ge (pc := 12) (tgt := 39) d_Book_reachedFromRoot_12 (by decide) (fun wx2 => ?_) (fun wx2 => ?_)
      · have twx2 : c.toInt ≤ i.toInt := (ti_le rfl rfl).mp wx2
        refine pb_iconst (pc := 39) (v := 0) d_Book_reachedFromRoot_39 (by decide) ?_
        refine pb_istore_n (pc := 40) (lo' := [(2, .int 0), (1, .int rc), (0, .ref h)]) d_Book_reachedFromRoot_40 rfl (by decide) rfl ?_
        have hL41_3 : ∀ (N9 : Nat) (rc2 : Int32) (rn : Int32), (0 ≤ rn.toInt) → ((c.toInt - rn.toInt).toNat) < N9 → pb_P l G M i_Book_reachedFromRoot 41 [(1, .int rc2), (2, .int rn), (0, .ref h)] [] [(h, .inr (9, [.ref ta, .ref ca, .ref ps, .ref xe, .ref mk, .ref rd, .ref mu, .ref fi, .ref go, .ref sp, .ref ss])), (sp, .inr (3, [.ref tn, .ref tz, .ref tb, .ref tg, .int c])), (tn, .inl (G.2.1, 384, .inl tfn)), (tz, .inl (G.2.2.1, 16, .inl tfz)), (go, .inl (G.2.2.1, 16, .inl gof))] 0 0 := by
          intro N9
          induction N9 with
          | zero => intro rc2 rn r0 hm9; exact absurd hm9 (Nat.not_lt_zero _)
          | succ N9 ih41 =>
            intro rc2 rn r0 hm9
            refine pb_iload_n (pc := 41) d_Book_reachedFromRoot_41 1 rfl rfl ?_
            refine pb_aload_n (pc := 42) d_Book_reachedFromRoot_42 2 rfl rfl ?_
            refine pb_get (pc := 43) d_Book_reachedFromRoot_43 0 9 rfl rfl (by decide) in_Book k_426 rfl ?_
            refine pb_getN (pc := 46) d_Book_reachedFromRoot_46 1 4 rfl rfl (by decide) in_Shelf k_405 rfl ?_
            refine pb_icmp_ge (pc := 49) (tgt := 95) d_Book_reachedFromRoot_49 (by decide) (fun wx4 => ?_) (fun wx4 => ?_)
            · have twx4 : c.toInt ≤ rn.toInt := (ti_le rfl rfl).mp wx4
              refine pb_iload_n (pc := 95) d_Book_reachedFromRoot_95 0 rfl rfl ?_
              exact pb_iret (pc := 96) hQ d_Book_reachedFromRoot_96 rfl rfl (rc2) rfl [0, 1, 2, 3, 4] (by decide) rfl rfl (by decide) (by decide)
            · have twx4 : ¬ c.toInt ≤ rn.toInt := fun z9 => wx4 ((ti_le rfl rfl).mpr z9)
              refine pb_iconst (pc := 52) (v := 0) d_Book_reachedFromRoot_52 (by decide) ?_
              refine pb_istore_n (pc := 53) (lo' := [(3, .int 0), (1, .int rc2), (2, .int rn), (0, .ref h)]) d_Book_reachedFromRoot_53 rfl (by decide) rfl ?_
              have hL54_5 : ∀ (N9 : Nat) (rc3 : Int32) (i3 : Int32), (0 ≤ i3.toInt) → ((c.toInt - i3.toInt).toNat) < N9 → pb_P l G M i_Book_reachedFromRoot 54 [(1, .int rc3), (3, .int i3), (2, .int rn), (0, .ref h)] [] [(h, .inr (9, [.ref ta, .ref ca, .ref ps, .ref xe, .ref mk, .ref rd, .ref mu, .ref fi, .ref go, .ref sp, .ref ss])), (sp, .inr (3, [.ref tn, .ref tz, .ref tb, .ref tg, .int c])), (tn, .inl (G.2.1, 384, .inl tfn)), (tz, .inl (G.2.2.1, 16, .inl tfz)), (go, .inl (G.2.2.1, 16, .inl gof))] 0 0 := by
                intro N9
                induction N9 with
                | zero => intro rc3 i3 i30 hm9; exact absurd hm9 (Nat.not_lt_zero _)
                | succ N9 ih54 =>
                  intro rc3 i3 i30 hm9
                  refine pb_iload_n (pc := 54) d_Book_reachedFromRoot_54 1 rfl rfl ?_
                  refine pb_aload_n (pc := 55) d_Book_reachedFromRoot_55 3 rfl rfl ?_
                  refine pb_get (pc := 56) d_Book_reachedFromRoot_56 0 9 rfl rfl (by decide) in_Book k_426 rfl ?_
                  refine pb_getN (pc := 59) d_Book_reachedFromRoot_59 1 4 rfl rfl (by decide) in_Shelf k_405 rfl ?_
                  refine pb_icmp_ge (pc := 62) (tgt := 89) d_Book_reachedFromRoot_62 (by decide) (fun wx6 => ?_) (fun wx6 => ?_)
                  · have twx6 : c.toInt ≤ i3.toInt := (ti_le rfl rfl).mp wx6
                    refine pb_iincN (pc := 89) (c := 1) d_Book_reachedFromRoot_89 2 rfl (by decide) (by decide) (fun ix7 eix7 => ?_)
                    have tix7 : ix7.toInt = rn.toInt + 1 := t2_add eix7 rfl (by decide) (by first | omega | (have r90 := ti_rng rn; have r91 := ti_rng ix7; have r92 := ti_rng rc3; have r93 := ti_rng i3; omega))
                    refine pb_eq (pc' := 92) (lo' := [(2, .int ix7), (1, .int rc3), (3, .int i3), (0, .ref h)]) (rest' := []) (ws' := [(h, .inr (9, [.ref ta, .ref ca, .ref ps, .ref xe, .ref mk, .ref rd, .ref mu, .ref fi, .ref go, .ref sp, .ref ss])), (sp, .inr (3, [.ref tn, .ref tz, .ref tb, .ref tg, .int c])), (tn, .inl (G.2.1, 384, .inl tfn)), (tz, .inl (G.2.2.1, 16, .inl tfz)), (go, .inl (G.2.2.1, 16, .inl gof))]) ?_
                    refine pb_goto (pc := 92) (tgt := 41) d_Book_reachedFromRoot_92 (by decide) ?_
                    refine pb_re (ws' := [(h, .inr (9, [.ref ta, .ref ca, .ref ps, .ref xe, .ref mk, .ref rd, .ref mu, .ref fi, .ref go, .ref sp, .ref ss])), (sp, .inr (3, [.ref tn, .ref tz, .ref tb, .ref tg, .int c])), (tn, .inl (G.2.1, 384, .inl tfn)), (tz, .inl (G.2.2.1, 16, .inl tfz)), (go, .inl (G.2.2.1, 16, .inl gof))]) (lo' := [(1, .int rc3), (2, .int ix7), (0, .ref h)]) [0, 1, 2, 3, 4] [1, 0, 3] (by decide) rfl rfl rfl ?_
                    exact ih41 rc3 ix7 (by first | (with_reducible assumption) | omega (splitDisjunctions := false) | assumption | omega | decide) (by omega)
                  · have twx6 : ¬ c.toInt ≤ i3.toInt := fun z9 => wx6 ((ti_le rfl rfl).mpr z9)
                    refine pb_iload_n (pc := 65) d_Book_reachedFromRoot_65 0 rfl rfl ?_
                    refine pb_iload_n (pc := 66) d_Book_reachedFromRoot_66 1 rfl rfl ?_
                    refine pb_ishr (pc := 67) d_Book_reachedFromRoot_67 ?_
                    refine pb_topi (fun ix8 eix8 => ?_)
                    refine pb_iconst (pc := 68) (v := 1) d_Book_reachedFromRoot_68 (by decide) ?_
                    refine pb_iand (pc := 69) d_Book_reachedFromRoot_69 ?_
                    refine pb_topi (fun ix9 eix9 => ?_)
                    have tix9 : 0 ≤ ix9.toInt ∧ ix9.toInt ≤ 1 := ti_and 1 eix9 (by decide) (by decide)
                    refine pb_iconst (pc := 70) (v := 1) d_Book_reachedFromRoot_70 (by decide) ?_
                    refine pb_icmp_ne (pc := 71) (tgt := 83) d_Book_reachedFromRoot_71 (by decide) (fun wx10 => ?_) (fun wx10 => ?_)
                    · have twx10 : ¬ ix9.toInt = 1 := fun z9 => wx10 ((ti_eq rfl (by decide)).mpr z9)
                      refine pb_iincN (pc := 83) (c := 1) d_Book_reachedFromRoot_83 1 rfl (by decide) (by decide) (fun ix11 eix11 => ?_)
                      have tix11 : ix11.toInt = i3.toInt + 1 := t2_add eix11 rfl (by decide) (by first | omega | (have r90 := ti_rng i3; have r91 := ti_rng ix11; have r92 := ti_rng rc3; have r93 := ti_rng rn; omega))
                      refine pb_eq (pc' := 86) (lo' := [(3, .int ix11), (1, .int rc3), (2, .int rn), (0, .ref h)]) (rest' := []) (ws' := [(h, .inr (9, [.ref ta, .ref ca, .ref ps, .ref xe, .ref mk, .ref rd, .ref mu, .ref fi, .ref go, .ref sp, .ref ss])), (sp, .inr (3, [.ref tn, .ref tz, .ref tb, .ref tg, .int c])), (tn, .inl (G.2.1, 384, .inl tfn)), (tz, .inl (G.2.2.1, 16, .inl tfz)), (go, .inl (G.2.2.1, 16, .inl gof))]) ?_
                      refine pb_goto (pc := 86) (tgt := 54) d_Book_reachedFromRoot_86 (by decide) ?_
                      refine pb_re (ws' := [(h, .inr (9, [.ref ta, .ref ca, .ref ps, .ref xe, .ref mk, .ref rd, .ref mu, .ref fi, .ref go, .ref sp, .ref ss])), (sp, .inr (3, [.ref tn, .ref tz, .ref tb, .ref tg, .int c])), (tn, .inl (G.2.1, 384, .inl tfn)), (tz, .inl (G.2.2.1, 16, .inl tfz)), (go, .inl (G.2.2.1, 16, .inl gof))]) (lo' := [(1, .int rc3), (3, .int ix11), (2, .int rn), (0, .ref h)]) [0, 1, 2, 3, 4] [1, 0, 2, 3] (by decide) rfl rfl rfl ?_
                      exact ih54 rc3 ix11 (by first | (with_reducible assumption) | omega (splitDisjunctions := false) | assumption | omega | decide) (by (exact omg_7c8a06b1f5 hm9 twx6 tix11))
                    · have twx10 : ix9.toInt = 1 := (ti_eq rfl (by decide)).mp wx10
                      refine pb_iload_n (pc := 74) d_Book_reachedFromRoot_74 0 rfl rfl ?_
                      refine pb_aload_n (pc := 75) d_Book_reachedFromRoot_75 3 rfl rfl ?_
                      refine pb_get (pc := 76) d_Book_reachedFromRoot_76 0 8 rfl rfl (by decide) in_Book k_425 rfl ?_
                      refine pb_iload_n (pc := 79) d_Book_reachedFromRoot_79 1 rfl rfl ?_
                      refine pb_iald (pc := 80) d_Book_reachedFromRoot_80 4 rfl (vp_in_iff.mpr (by omega)) ?_
                      refine pb_topi (fun ix12 eix12 => ?_)
                      have tix12 : ix12.toInt = gx gof (i3.toInt) := gx_ld eix12 rfl
                      refine pb_ior (pc := 81) d_Book_reachedFromRoot_81 ?_
                      refine pb_topi (fun ix13 eix13 => ?_)
                      refine pb_istore_n (pc := 82) (lo' := [(1, .int ix13), (3, .int i3), (2, .int rn), (0, .ref h)]) d_Book_reachedFromRoot_82 rfl (by decide) rfl ?_
                      refine pb_iincN (pc := 83) (c := 1) d_Book_reachedFromRoot_83 1 rfl (by decide) (by decide) (fun ix14 eix14 => ?_)
                      have tix14 : ix14.toInt = i3.toInt + 1 := t2_add eix14 rfl (by decide) (by first | omega | (have r90 := ti_rng i3; have r91 := ti_rng ix14; have r92 := ti_rng ix13; have r93 := ti_rng rn; omega))
                      refine pb_eq (pc' := 86) (lo' := [(3, .int ix14), (1, .int ix13), (2, .int rn), (0, .ref h)]) (rest' := []) (ws' := [(h, .inr (9, [.ref ta, .ref ca, .ref ps, .ref xe, .ref mk, .ref rd, .ref mu, .ref fi, .ref go, .ref sp, .ref ss])), (sp, .inr (3, [.ref tn, .ref tz, .ref tb, .ref tg, .int c])), (tn, .inl (G.2.1, 384, .inl tfn)), (tz, .inl (G.2.2.1, 16, .inl tfz)), (go, .inl (G.2.2.1, 16, .inl gof))]) ?_
                      refine pb_goto (pc := 86) (tgt := 54) d_Book_reachedFromRoot_86 (by decide) ?_
                      refine pb_re (ws' := [(h, .inr (9, [.ref ta, .ref ca, .ref ps, .ref xe, .ref mk, .ref rd, .ref mu, .ref fi, .ref go, .ref sp, .ref ss])), (sp, .inr (3, [.ref tn, .ref tz, .ref tb, .ref tg, .int c])), (tn, .inl (G.2.1, 384, .inl tfn)), (tz, .inl (G.2.2.1, 16, .inl tfz)), (go, .inl (G.2.2.1, 16, .inl gof))]) (lo' := [(1, .int ix13), (3, .int ix14), (2, .int rn), (0, .ref h)]) [0, 1, 2, 3, 4] [1, 0, 2, 3] (by decide) rfl rfl rfl ?_
                      exact ih54 ix13 ix14 (by first | (with_reducible assumption) | omega (splitDisjunctions := false) | assumption | omega | decide) (by (exact omg_7c8a06b1f5 hm9 twx6 tix14))
              refine pb_re (ws' := [(h, .inr (9, [.ref ta, .ref ca, .ref ps, .ref xe, .ref mk, .ref rd, .ref mu, .ref fi, .ref go, .ref sp, .ref ss])), (sp, .inr (3, [.ref tn, .ref tz, .ref tb, .ref tg, .int c])), (tn, .inl (G.2.1, 384, .inl tfn)), (tz, .inl (G.2.2.1, 16, .inl tfz)), (go, .inl (G.2.2.1, 16, .inl gof))]) (lo' := [(1, .int rc2), (3, .int 0), (2, .int rn), (0, .ref h)]) [0, 1, 2, 3, 4] [1, 0, 2, 3] (by decide) rfl rfl rfl ?_
              exact hL54_5 _ rc2 0 (by first | (with_reducible assumption) | omega (splitDisjunctions := false) | assumption | omega | decide) (Nat.lt_succ_self _)
        refine pb_re (ws' := [(h, .inr (9, [.ref ta, .ref ca, .ref ps, .ref xe, .ref mk, .ref rd, .ref mu, .ref fi, .ref go, .ref sp, .ref ss])), (sp, .inr (3, [.ref tn, .ref tz, .ref tb, .ref tg, .int c])), (tn, .inl (G.2.1, 384, .inl tfn)), (tz, .inl (G.2.2.1, 16, .inl tfz)), (go, .inl (G.2.2.1, 16, .inl gof))]) (lo' := [(1, .int rc), (2, .int 0), (0, .ref h)]) [0, 1, 2, 3, 4] [1, 0, 2] (by decide) rfl rfl rfl ?_
        exact hL41_3 _ rc 0 (by first | (with_reducible assumption) | omega (splitDisjunctions := false) | assumption | omega | decide) (Nat.lt_succ_self _)
      · have twx2 : ¬ c.toInt ≤ i.toInt := fun z9 => wx2 ((ti_le rfl rfl).mpr z9)
        refine pb_aload_n (pc := 15) d_Book_reachedFromRoot_15 2 rfl rfl ?_
        refine pb_get (pc := 16) d_Book_reachedFromRoot_16 0 9 rfl rfl (by decide) in_Book k_426 rfl ?_
        refine pb_iload_n (pc := 19) d_Book_reachedFromRoot_19 1 rfl rfl ?_
        refine pb_ldcSw (pc := 20) (k := 18) d_Book_reachedFromRoot_20 rfl (by decide) ?_
        refine pb_callV (pc := 23) (I := i_Book_reachedFromRoot) (qb := 1) (ci := 3) (nA := 2) (rest := []) (wr := [(h, .inr (9, [.ref ta, .ref ca, .ref ps, .ref xe, .ref mk, .ref rd, .ref mu, .ref fi, .ref go, .ref sp, .ref ss])), (go, .inl (G.2.2.1, 16, .inl gof))]) d_Book_reachedFromRoot_23 (g_Shelf_isNamed hl G sp tn tz tb tg c tfn tfz tfg i 18 (by first | assumption | decide | omega) (by first | (with_reducible assumption) | omega (splitDisjunctions := false) | assumption | omega | decide) (by first | (with_reducible assumption) | omega (splitDisjunctions := false) | assumption | omega | decide) (by first | assumption | decide | omega) F_tfn) rfl rfl [1, 2, 3] [0, 4] (by decide) rfl rfl rfl (by decide) (by decide) k_930 rfl k_127 k_927 k_928 k_929 ⟨rfl, hy_Shelf_isNamed⟩ (by decide) rfl rfl (Nat.le_of_ble_eq_true rfl) (by decide) (fun v9 ux16 ch15 => ?_)
        obtain ⟨r_17, rfl⟩ : ∃ z9, z9 = ux16 := ⟨_, rfl⟩
        obtain ⟨ech15, ch15⟩ := ch15
        have ech15 : v9 = some (.int r_17) := ech15
        subst ech15
        have fh18 : r_17.toInt = 0 ∨ r_17.toInt = 1 := ch15
        refine pb_eq (pc' := 26) (lo' := [(1, .int rc), (2, .int i), (0, .ref h)]) (rest' := [.int r_17]) (ws' := [(h, .inr (9, [.ref ta, .ref ca, .ref ps, .ref xe, .ref mk, .ref rd, .ref mu, .ref fi, .ref go, .ref sp, .ref ss])), (go, .inl (G.2.2.1, 16, .inl gof)), (sp, .inr (3, [.ref tn, .ref tz, .ref tb, .ref tg, .int c])), (tn, .inl (G.2.1, 384, .inl tfn)), (tz, .inl (G.2.2.1, 16, .inl tfz))]) ?_
        refine pb_if_eq (pc := 26) (tgt := 33) d_Book_reachedFromRoot_26 (by decide) (fun wx19 => ?_) (fun wx19 => ?_)
        · have twx19 : r_17.toInt = 0 := (ti_eq rfl (by decide)).mp wx19
          refine pb_iincN (pc := 33) (c := 1) d_Book_reachedFromRoot_33 1 rfl (by decide) (by decide) (fun ix20 eix20 => ?_)
          have tix20 : ix20.toInt = i.toInt + 1 := t2_add eix20 rfl (by decide) (by first | omega | (have r90 := ti_rng i; have r91 := ti_rng ix20; have r92 := ti_rng rc; omega))
          refine pb_eq (pc' := 36) (lo' := [(2, .int ix20), (1, .int rc), (0, .ref h)]) (rest' := []) (ws' := [(h, .inr (9, [.ref ta, .ref ca, .ref ps, .ref xe, .ref mk, .ref rd, .ref mu, .ref fi, .ref go, .ref sp, .ref ss])), (go, .inl (G.2.2.1, 16, .inl gof)), (sp, .inr (3, [.ref tn, .ref tz, .ref tb, .ref tg, .int c])), (tn, .inl (G.2.1, 384, .inl tfn)), (tz, .inl (G.2.2.1, 16, .inl tfz))]) ?_
          refine pb_goto (pc := 36) (tgt := 4) d_Book_reachedFromRoot_36 (by decide) ?_
          refine pb_re (ws' := [(h, .inr (9, [.ref ta, .ref ca, .ref ps, .ref xe, .ref mk, .ref rd, .ref mu, .ref fi, .ref go, .ref sp, .ref ss])), (sp, .inr (3, [.ref tn, .ref tz, .ref tb, .ref tg, .int c])), (tn, .inl (G.2.1, 384, .inl tfn)), (tz, .inl (G.2.2.1, 16, .inl tfz)), (go, .inl (G.2.2.1, 16, .inl gof))]) (lo' := [(1, .int rc), (2, .int ix20), (0, .ref h)]) [0, 2, 3, 4, 1] [1, 0, 2] (by decide) rfl rfl rfl ?_
          exact ih4 rc ix20 (by first | (with_reducible assumption) | omega (splitDisjunctions := false) | assumption | omega | decide) (by omega)
        · have twx19 : ¬ r_17.toInt = 0 := fun z9 => wx19 ((ti_eq rfl (by decide)).mpr z9)
          refine pb_iconst (pc := 29) (v := 1) d_Book_reachedFromRoot_29 (by decide) ?_
          refine pb_iload_n (pc := 30) d_Book_reachedFromRoot_30 1 rfl rfl ?_
          refine pb_ishl (pc := 31) d_Book_reachedFromRoot_31 ?_
          refine pb_topi (fun ix21 eix21 => ?_)
          refine pb_istore_n (pc := 32) (lo' := [(1, .int ix21), (2, .int i), (0, .ref h)]) d_Book_reachedFromRoot_32 rfl (by decide) rfl ?_
          refine pb_iincN (pc := 33) (c := 1) d_Book_reachedFromRoot_33 1 rfl (by decide) (by decide) (fun ix22 eix22 => ?_)
          have tix22 : ix22.toInt = i.toInt + 1 := t2_add eix22 rfl (by decide) (by first | omega | (have r90 := ti_rng i; have r91 := ti_rng ix22; have r92 := ti_rng ix21; omega))
          refine pb_eq (pc' := 36) (lo' := [(2, .int ix22), (1, .int ix21), (0, .ref h)]) (rest' := []) (ws' := [(h, .inr (9, [.ref ta, .ref ca, .ref ps, .ref xe, .ref mk, .ref rd, .ref mu, .ref fi, .ref go, .ref sp, .ref ss])), (go, .inl (G.2.2.1, 16, .inl gof)), (sp, .inr (3, [.ref tn, .ref tz, .ref tb, .ref tg, .int c])), (tn, .inl (G.2.1, 384, .inl tfn)), (tz, .inl (G.2.2.1, 16, .inl tfz))]) ?_
          refine pb_goto (pc := 36) (tgt := 4) d_Book_reachedFromRoot_36 (by decide) ?_
          refine pb_re (ws' := [(h, .inr (9, [.ref ta, .ref ca, .ref ps, .ref xe, .ref mk, .ref rd, .ref mu, .ref fi, .ref go, .ref sp, .ref ss])), (sp, .inr (3, [.ref tn, .ref tz, .ref tb, .ref tg, .int c])), (tn, .inl (G.2.1, 384, .inl tfn)), (tz, .inl (G.2.2.1, 16, .inl tfz)), (go, .inl (G.2.2.1, 16, .inl gof))]) (lo' := [(1, .int ix21), (2, .int ix22), (0, .ref h)]) [0, 2, 3, 4, 1] [1, 0, 2] (by decide) rfl rfl rfl ?_
          exact ih4 ix21 ix22 (by first | (with_reducible assumption) | omega (splitDisjunctions := false) | assumption | omega | decide) (by (exact omg_7c8a06b1f5 hm9 twx2 tix22))
  refine pb_re (ws' := [(h, .inr (9, [.ref ta, .ref ca, .ref ps, .ref xe, .ref mk, .ref rd, .ref mu, .ref fi, .ref go, .ref sp, .ref ss])), (sp, .inr (3, [.ref tn, .ref tz, .ref tb, .ref tg, .int c])), (tn, .inl (G.2.1, 384, .inl tfn)), (tz, .inl (G.2.2.1, 16, .inl tfz)), (go, .inl (G.2.2.1, 16, .inl gof))]) (lo' := [(1, .int 0), (2, .int 0), (0, .ref h)]) [0, 1, 2, 3, 4] [1, 0, 2] (by decide) rfl rfl rfl ?_
  exact hL4_1 _ 0 0 (by first | (with_reducible assumption) | omega (splitDisjunctions := false) | assumption | omega | decide) (Nat.lt_succ_self _)
