theorem d_Markup_readElement_0 : decode prog_7_method_10_code 0 = .ok (.aload_n 0, 1) := by decide +kernel
theorem d_Markup_readElement_1 : decode prog_7_method_10_code 1 = .ok (.ldc 100, 2) := by decide +kernel
theorem d_Markup_readElement_3 : decode prog_7_method_10_code 3 = .ok (.invokevirtual 73, 3) := by decide +kernel
theorem d_Markup_readElement_6 : decode prog_7_method_10_code 6 = .ok (.ifCond .ne 5, 3) := by decide +kernel
theorem d_Markup_readElement_11 : decode prog_7_method_10_code 11 = .ok (.aload_n 0, 1) := by decide +kernel
theorem d_Markup_readElement_12 : decode prog_7_method_10_code 12 = .ok (.iconst 0, 1) := by decide +kernel
theorem d_Markup_readElement_13 : decode prog_7_method_10_code 13 = .ok (.putfield 102, 3) := by decide +kernel
theorem d_Markup_readElement_16 : decode prog_7_method_10_code 16 = .ok (.aload_n 0, 1) := by decide +kernel
theorem d_Markup_readElement_17 : decode prog_7_method_10_code 17 = .ok (.iconst 0, 1) := by decide +kernel
theorem d_Markup_readElement_18 : decode prog_7_method_10_code 18 = .ok (.putfield 105, 3) := by decide +kernel
theorem d_Markup_readElement_21 : decode prog_7_method_10_code 21 = .ok (.aload_n 0, 1) := by decide +kernel
theorem d_Markup_readElement_22 : decode prog_7_method_10_code 22 = .ok (.invokevirtual 77, 3) := by decide +kernel
theorem d_Markup_readElement_25 : decode prog_7_method_10_code 25 = .ok (.istore_n 2, 1) := by decide +kernel
theorem d_Markup_readElement_26 : decode prog_7_method_10_code 26 = .ok (.iconst 0, 1) := by decide +kernel
theorem d_Markup_readElement_27 : decode prog_7_method_10_code 27 = .ok (.istore_n 3, 1) := by decide +kernel
theorem d_Markup_readElement_28 : decode prog_7_method_10_code 28 = .ok (.iload_n 3, 1) := by decide +kernel
theorem d_Markup_readElement_29 : decode prog_7_method_10_code 29 = .ok (.iconst 2, 1) := by decide +kernel
theorem d_Markup_readElement_30 : decode prog_7_method_10_code 30 = .ok (.if_icmp .ge 57, 3) := by decide +kernel
theorem d_Markup_readElement_87 : decode prog_7_method_10_code 87 = .ok (.aload_n 0, 1) := by decide +kernel
theorem d_Markup_readElement_88 : decode prog_7_method_10_code 88 = .ok (.getfield 102, 3) := by decide +kernel
theorem d_Markup_readElement_91 : decode prog_7_method_10_code 91 = .ok (.ifCond .eq 10, 3) := by decide +kernel
theorem d_Markup_readElement_101 : decode prog_7_method_10_code 101 = .ok (.aload_n 0, 1) := by decide +kernel
theorem d_Markup_readElement_102 : decode prog_7_method_10_code 102 = .ok (.aload_n 0, 1) := by decide +kernel
theorem d_Markup_readElement_103 : decode prog_7_method_10_code 103 = .ok (.getfield 48, 3) := by decide +kernel
theorem d_Markup_readElement_106 : decode prog_7_method_10_code 106 = .ok (.invokevirtual 96, 3) := by decide +kernel
theorem d_Markup_readElement_109 : decode prog_7_method_10_code 109 = .ok (.ireturn, 1) := by decide +kernel
theorem d_Markup_readElement_94 : decode prog_7_method_10_code 94 = .ok (.aload_n 0, 1) := by decide +kernel
theorem d_Markup_readElement_95 : decode prog_7_method_10_code 95 = .ok (.getfield 105, 3) := by decide +kernel
theorem d_Markup_readElement_98 : decode prog_7_method_10_code 98 = .ok (.ifCond .ne 12, 3) := by decide +kernel
theorem d_Markup_readElement_110 : decode prog_7_method_10_code 110 = .ok (.aload_n 0, 1) := by decide +kernel
theorem d_Markup_readElement_111 : decode prog_7_method_10_code 111 = .ok (.dup, 1) := by decide +kernel
theorem d_Markup_readElement_112 : decode prog_7_method_10_code 112 = .ok (.getfield 35, 3) := by decide +kernel
theorem d_Markup_readElement_115 : decode prog_7_method_10_code 115 = .ok (.iconst 1, 1) := by decide +kernel
theorem d_Markup_readElement_116 : decode prog_7_method_10_code 116 = .ok (.iadd, 1) := by decide +kernel
theorem d_Markup_readElement_117 : decode prog_7_method_10_code 117 = .ok (.putfield 35, 3) := by decide +kernel
theorem d_Markup_readElement_120 : decode prog_7_method_10_code 120 = .ok (.aload_n 0, 1) := by decide +kernel
theorem d_Markup_readElement_121 : decode prog_7_method_10_code 121 = .ok (.iconst 0, 1) := by decide +kernel
theorem d_Markup_readElement_122 : decode prog_7_method_10_code 122 = .ok (.invokevirtual 80, 3) := by decide +kernel
theorem d_Markup_readElement_125 : decode prog_7_method_10_code 125 = .ok (.bipush 47, 2) := by decide +kernel
theorem d_Markup_readElement_127 : decode prog_7_method_10_code 127 = .ok (.if_icmp .ne 10, 3) := by decide +kernel
theorem d_Markup_readElement_137 : decode prog_7_method_10_code 137 = .ok (.aload_n 0, 1) := by decide +kernel
theorem d_Markup_readElement_138 : decode prog_7_method_10_code 138 = .ok (.ldc 87, 2) := by decide +kernel
theorem d_Markup_readElement_140 : decode prog_7_method_10_code 140 = .ok (.invokevirtual 73, 3) := by decide +kernel
theorem d_Markup_readElement_143 : decode prog_7_method_10_code 143 = .ok (.ifCond .eq 23, 3) := by decide +kernel
theorem d_Markup_readElement_166 : decode prog_7_method_10_code 166 = .ok (.iconst 0, 1) := by decide +kernel
theorem d_Markup_readElement_167 : decode prog_7_method_10_code 167 = .ok (.ireturn, 1) := by decide +kernel
theorem d_Markup_readElement_146 : decode prog_7_method_10_code 146 = .ok (.aload_n 0, 1) := by decide +kernel
theorem d_Markup_readElement_147 : decode prog_7_method_10_code 147 = .ok (.invokevirtual 65, 3) := by decide +kernel
theorem d_Markup_readElement_150 : decode prog_7_method_10_code 150 = .ok (.ifCond .eq 16, 3) := by decide +kernel
theorem d_Markup_readElement_153 : decode prog_7_method_10_code 153 = .ok (.aload_n 0, 1) := by decide +kernel
theorem d_Markup_readElement_154 : decode prog_7_method_10_code 154 = .ok (.ldc 111, 2) := by decide +kernel
theorem d_Markup_readElement_156 : decode prog_7_method_10_code 156 = .ok (.invokevirtual 93, 3) := by decide +kernel
theorem d_Markup_readElement_159 : decode prog_7_method_10_code 159 = .ok (.ifCond .eq 7, 3) := by decide +kernel
theorem d_Markup_readElement_162 : decode prog_7_method_10_code 162 = .ok (.iconst 1, 1) := by decide +kernel
theorem d_Markup_readElement_163 : decode prog_7_method_10_code 163 = .ok (.goto 4, 3) := by decide +kernel
theorem d_Markup_readElement_130 : decode prog_7_method_10_code 130 = .ok (.aload_n 0, 1) := by decide +kernel
theorem d_Markup_readElement_131 : decode prog_7_method_10_code 131 = .ok (.ldc 89, 2) := by decide +kernel
theorem d_Markup_readElement_133 : decode prog_7_method_10_code 133 = .ok (.invokevirtual 73, 3) := by decide +kernel
theorem d_Markup_readElement_136 : decode prog_7_method_10_code 136 = .ok (.ireturn, 1) := by decide +kernel
theorem d_Markup_readElement_33 : decode prog_7_method_10_code 33 = .ok (.aload_n 0, 1) := by decide +kernel
theorem d_Markup_readElement_34 : decode prog_7_method_10_code 34 = .ok (.iconst 0, 1) := by decide +kernel
theorem d_Markup_readElement_35 : decode prog_7_method_10_code 35 = .ok (.invokevirtual 80, 3) := by decide +kernel
theorem d_Markup_readElement_38 : decode prog_7_method_10_code 38 = .ok (.bipush 47, 2) := by decide +kernel
theorem d_Markup_readElement_40 : decode prog_7_method_10_code 40 = .ok (.if_icmp .eq 47, 3) := by decide +kernel
theorem d_Markup_readElement_43 : decode prog_7_method_10_code 43 = .ok (.aload_n 0, 1) := by decide +kernel
theorem d_Markup_readElement_44 : decode prog_7_method_10_code 44 = .ok (.iconst 0, 1) := by decide +kernel
theorem d_Markup_readElement_45 : decode prog_7_method_10_code 45 = .ok (.invokevirtual 80, 3) := by decide +kernel
theorem d_Markup_readElement_48 : decode prog_7_method_10_code 48 = .ok (.bipush 62, 2) := by decide +kernel
theorem d_Markup_readElement_50 : decode prog_7_method_10_code 50 = .ok (.if_icmp .eq 37, 3) := by decide +kernel
theorem d_Markup_readElement_53 : decode prog_7_method_10_code 53 = .ok (.iload_n 2, 1) := by decide +kernel
theorem d_Markup_readElement_54 : decode prog_7_method_10_code 54 = .ok (.ifCond .ne 12, 3) := by decide +kernel
theorem d_Markup_readElement_66 : decode prog_7_method_10_code 66 = .ok (.aload_n 0, 1) := by decide +kernel
theorem d_Markup_readElement_67 : decode prog_7_method_10_code 67 = .ok (.aload_n 1, 1) := by decide +kernel
theorem d_Markup_readElement_68 : decode prog_7_method_10_code 68 = .ok (.invokevirtual 108, 3) := by decide +kernel
theorem k_845 : (Jvm.Cond.methodLink "PackageBook$Markup" (108 : Nat) ({ cls := "PackageBook$Markup", name := "readAttribute", desc := "(LPackageBook$Shelf;)Z" } : Jvm.MethodName)) ∈ uW := uW_of 845 (by decide +kernel) (by decide +kernel)
theorem k_848 : (Jvm.Cond.code ({ cls := "PackageBook$Markup", name := "readAttribute", desc := "(LPackageBook$Shelf;)Z" } : Jvm.MethodName) prog_7_method_11_code (5 : Nat) (Option.some Jvm.ClassFile.FieldType.boolean)) ∈ uW := uW_of 848 (by decide +kernel) (by decide +kernel)
theorem k_847 : (Jvm.Cond.instanceMethod ({ cls := "PackageBook$Markup", name := "readAttribute", desc := "(LPackageBook$Shelf;)Z" } : Jvm.MethodName)) ∈ uW := uW_of 847 (by decide +kernel) (by decide +kernel)
theorem k_39 : Cond.selects "PackageBook$Markup" ⟨"PackageBook$Markup", "readAttribute", "(LPackageBook$Shelf;)Z"⟩ ⟨"PackageBook$Markup", "readAttribute", "(LPackageBook$Shelf;)Z"⟩ ∈ uW := uW_of 39 (by decide +kernel) (by decide +kernel)
theorem d_Markup_readElement_71 : decode prog_7_method_10_code 71 = .ok (.ifCond .ne 5, 3) := by decide +kernel
theorem d_Markup_readElement_76 : decode prog_7_method_10_code 76 = .ok (.aload_n 0, 1) := by decide +kernel
theorem d_Markup_readElement_77 : decode prog_7_method_10_code 77 = .ok (.invokevirtual 77, 3) := by decide +kernel
theorem d_Markup_readElement_80 : decode prog_7_method_10_code 80 = .ok (.istore_n 2, 1) := by decide +kernel
theorem d_Markup_readElement_81 : decode prog_7_method_10_code 81 = .ok (.iinc 3 1, 3) := by decide +kernel
theorem d_Markup_readElement_84 : decode prog_7_method_10_code 84 = .ok (.goto (-56), 3) := by decide +kernel
theorem d_Markup_readElement_74 : decode prog_7_method_10_code 74 = .ok (.iconst 0, 1) := by decide +kernel
theorem d_Markup_readElement_75 : decode prog_7_method_10_code 75 = .ok (.ireturn, 1) := by decide +kernel
theorem d_Markup_readElement_57 : decode prog_7_method_10_code 57 = .ok (.aload_n 0, 1) := by decide +kernel
theorem d_Markup_readElement_58 : decode prog_7_method_10_code 58 = .ok (.aload_n 0, 1) := by decide +kernel
theorem d_Markup_readElement_59 : decode prog_7_method_10_code 59 = .ok (.getfield 48, 3) := by decide +kernel
theorem d_Markup_readElement_62 : decode prog_7_method_10_code 62 = .ok (.invokevirtual 96, 3) := by decide +kernel
theorem d_Markup_readElement_65 : decode prog_7_method_10_code 65 = .ok (.ireturn, 1) := by decide +kernel
theorem d_Markup_readElement_9 : decode prog_7_method_10_code 9 = .ok (.iconst 0, 1) := by decide +kernel
theorem d_Markup_readElement_10 : decode prog_7_method_10_code 10 = .ok (.ireturn, 1) := by decide +kernel
abbrev y_Markup_readElement : MethodName := ⟨"PackageBook$Markup", "readElement", "(LPackageBook$Shelf;)Z"⟩
abbrev i_Markup_readElement : pb_I := (y_Markup_readElement, prog_7_method_10_code, 4, (some Jvm.ClassFile.FieldType.boolean), [], { frames := 8, cells := 0, slots := 0, locals := 177 })
set_option maxRecDepth 100000 in
set_option maxHeartbeats 4000000 in
theorem g_Mu_readElement {l : Launch} (hl : l.stackTraces = false) (G : pb_G) (h : Nat) (ui : Nat) (ug : Nat) (uv : Nat) (ct : Int32) (fa : Int32) (bg : Int32) (at_ : Int32) (en : Int32) (vs : Int32) (io : Int32) (hi : Int32) (ht : Int32) (tfb : Nat → Int32) (vf : Nat → Int32) (gf : Nat → Int32) (df : Nat → Int64) (sp : Nat) (tn : Nat) (tz : Nat) (tb : Nat) (tg : Nat) (c : Int32) (tfn : Nat → Int32) (tfz : Nat → Int32) (tfg : Nat → Int32) (a0 : 0 ≤ at_.toInt) (a1 : at_.toInt ≤ en.toInt) (a2 : en.toInt ≤ 12000) (c0 : 0 ≤ ct.toInt) (c1 : ct.toInt ≤ 200) (I : sh_I c.toInt tfz tfg) (F_tfb : sb_Fit tfb) (F_vf : sb_Fit vf) (F_tfn : sb_Fit tfn) : Cn l G i_Markup_readElement [.ref h, .ref sp] [(h, .inr (8, [.ref ui, .ref ug, .ref uv, .ref tb, .int ct, .int fa, .int bg, .int at_, .int en, .int vs, .int io, .int hi, .int ht])), (tb, .inl (G.2.1, 12000, .inl tfb)), (uv, .inl (G.2.1, 24, .inl vf)), (ug, .inl (G.2.2.1, 200, .inl gf)), (ui, .inl (G.2.2.2.1, 200, .inr (.inl df))), (sp, .inr (3, [.ref tn, .ref tz, .ref tb, .ref tg, .int c])), (tn, .inl (G.2.1, 384, .inl tfn)), (tz, .inl (G.2.2.1, 16, .inl tfz))] (S := Int32 × Int32 × Int32 × Int32 × Int32 × Int32 × Int32 × (Nat → Int32) × (Nat → Int32) × (Nat → Int64)) (fun v u => v = some (.int u.1) ∧ (u.1.toInt = 0 ∨ u.1.toInt = 1) ∧ (at_.toInt ≤ u.2.2.1.toInt) ∧ (u.2.2.1.toInt ≤ en.toInt) ∧ (0 ≤ u.2.1.toInt) ∧ (u.2.1.toInt ≤ 200) ∧ (sb_Fit u.2.2.2.2.2.2.2.1)) (fun u => [(h, .inr (8, [.ref ui, .ref ug, .ref uv, .ref tb, .int u.2.1, .int u.2.2.2.1, .int bg, .int u.2.2.1, .int en, .int u.2.2.2.2.1, .int io, .int u.2.2.2.2.2.1, .int u.2.2.2.2.2.2.1])), (tb, .inl (G.2.1, 12000, .inl tfb)), (uv, .inl (G.2.1, 24, .inl u.2.2.2.2.2.2.2.1)), (ug, .inl (G.2.2.1, 200, .inl u.2.2.2.2.2.2.2.2.1)), (ui, .inl (G.2.2.2.1, 200, .inr (.inl u.2.2.2.2.2.2.2.2.2))), (sp, .inr (3, [.ref tn, .ref tz, .ref tb, .ref tg, .int c])), (tn, .inl (G.2.1, 384, .inl tfn)), (tz, .inl (G.2.2.1, 16, .inl tfz))]) := by
  refine Cn.of hl (by decide +kernel) rfl (Nat.le_of_ble_eq_true rfl) (fun M hQ => ?_)
  refine pb_eq (pc' := 0) (lo' := [(0, .ref h), (1, .ref sp)]) (rest' := []) (ws' := [(h, .inr (8, [.ref ui, .ref ug, .ref uv, .ref tb, .int ct, .int fa, .int bg, .int at_, .int en, .int vs, .int io, .int hi, .int ht])), (tb, .inl (G.2.1, 12000, .inl tfb)), (uv, .inl (G.2.1, 24, .inl vf)), (ug, .inl (G.2.2.1, 200, .inl gf)), (ui, .inl (G.2.2.2.1, 200, .inr (.inl df))), (sp, .inr (3, [.ref tn, .ref tz, .ref tb, .ref tg, .int c])), (tn, .inl (G.2.1, 384, .inl tfn)), (tz, .inl (G.2.2.1, 16, .inl tfz))]) ?_
  have zl0 : (0 : Int32).toInt = 0 := by decide
  have zl1 : (1 : Int32).toInt = 1 := by decide
  refine pb_aload_n (pc := 0) d_Markup_readElement_0 0 rfl rfl ?_
  refine pb_ldcS (pc := 1) (k := 6) d_Markup_readElement_1 rfl (by decide) ?_
  refine pb_callV (pc := 3) (qb := 0) (ci := 8) (nA := 1) (rest := []) (wr := [(uv, .inl (G.2.1, 24, .inl vf)), (ug, .inl (G.2.2.1, 200, .inl gf)), (ui, .inl (G.2.2.2.1, 200, .inr (.inl df))), (sp, .inr (3, [.ref tn, .ref tz, .ref tb, .ref tg, .int c])), (tn, .inl (G.2.1, 384, .inl tfn)), (tz, .inl (G.2.2.1, 16, .inl tfz))]) d_Markup_readElement_3 (g_Mu_takeText hl G h ui ug uv tb ct fa bg at_ en vs io hi ht tfb 6 (by first | omega | assumption | decide) (by first | omega | assumption | decide) (by first | omega | assumption | decide) (by first | assumption | decide | omega) F_tfb) rfl rfl [0, 1] [2, 3, 4, 5, 6, 7] (by decide) rfl rfl rfl (by decide) (by decide) k_825 rfl k_125 k_822 k_824 k_35 (by decide +kernel) (by decide) rfl rfl (Nat.le_of_ble_eq_true rfl) (by decide) (fun v9 u2 ch1 => ?_)
  obtain ⟨r_3, at_4, f_5⟩ := u2
  obtain ⟨ech1, ch1⟩ := ch1
  have ech1 : v9 = some (.int r_3) := ech1
  subst ech1
  obtain ⟨fh6, fh7, fh8⟩ : (r_3.toInt = 0 ∨ r_3.toInt = 1) ∧ (at_.toInt ≤ at_4.toInt) ∧ (at_4.toInt ≤ en.toInt) := ch1
  refine pb_eq (pc' := 6) (lo' := [(0, .ref h), (1, .ref sp)]) (rest' := [.int r_3]) (ws' := [(uv, .inl (G.2.1, 24, .inl vf)), (ug, .inl (G.2.2.1, 200, .inl gf)), (ui, .inl (G.2.2.2.1, 200, .inr (.inl df))), (sp, .inr (3, [.ref tn, .ref tz, .ref tb, .ref tg, .int c])), (tn, .inl (G.2.1, 384, .inl tfn)), (tz, .inl (G.2.2.1, 16, .inl tfz)), (h, .inr (8, [.ref ui, .ref ug, .ref uv, .ref tb, .int ct, .int f_5, .int bg, .int at_4, .int en, .int vs, .int io, .int hi, .int ht])), (tb, .inl (G.2.1, 12000, .inl tfb))]) ?_
  refine pb_if_ne (pc := 6) (tgt := 11) d_Markup_readElement_6 (by decide) (fun w9 => ?_) (fun w9 => ?_)
  · have tw9 : ¬ r_3.toInt = 0 := fun z9 => w9 ((ti_eq rfl (by decide)).mpr z9)
    refine pb_aload_n (pc := 11) d_Markup_readElement_11 0 rfl rfl ?_
    refine pb_iconst (pc := 12) (v := 0) d_Markup_readElement_12 (by decide) ?_
    refine pb_put (pc := 13) (ty := .boolean) (ws' := [(uv, .inl (G.2.1, 24, .inl vf)), (ug, .inl (G.2.2.1, 200, .inl gf)), (ui, .inl (G.2.2.2.1, 200, .inr (.inl df))), (sp, .inr (3, [.ref tn, .ref tz, .ref tb, .ref tg, .int c])), (tn, .inl (G.2.1, 384, .inl tfn)), (tz, .inl (G.2.2.1, 16, .inl tfz)), (h, .inr (8, [.ref ui, .ref ug, .ref uv, .ref tb, .int ct, .int f_5, .int bg, .int at_4, .int en, .int vs, .int io, .int 0, .int ht])), (tb, .inl (G.2.1, 12000, .inl tfb))]) d_Markup_readElement_13 6 11 t_Markup t_Markup_ok n_Markup rfl rfl (by decide) in_Markup k_330 rfl (by decide +kernel) rfl rfl (Nat.le_of_ble_eq_true rfl) rfl ?_
    refine pb_aload_n (pc := 16) d_Markup_readElement_16 0 rfl rfl ?_
    refine pb_iconst (pc := 17) (v := 0) d_Markup_readElement_17 (by decide) ?_
    refine pb_put (pc := 18) (ty := .boolean) (ws' := [(uv, .inl (G.2.1, 24, .inl vf)), (ug, .inl (G.2.2.1, 200, .inl gf)), (ui, .inl (G.2.2.2.1, 200, .inr (.inl df))), (sp, .inr (3, [.ref tn, .ref tz, .ref tb, .ref tg, .int c])), (tn, .inl (G.2.1, 384, .inl tfn)), (tz, .inl (G.2.2.1, 16, .inl tfz)), (h, .inr (8, [.ref ui, .ref ug, .ref uv, .ref tb, .int ct, .int f_5, .int bg, .int at_4, .int en, .int vs, .int io, .int 0, .int 0])), (tb, .inl (G.2.1, 12000, .inl tfb))]) d_Markup_readElement_18 6 12 t_Markup t_Markup_ok n_Markup rfl rfl (by decide) in_Markup k_331 rfl (by decide +kernel) rfl rfl (Nat.le_of_ble_eq_true rfl) rfl ?_
    refine pb_aload_n (pc := 21) d_Markup_readElement_21 0 rfl rfl ?_
    refine pb_callV (pc := 22) (qb := 6) (ci := 8) (nA := 0) (rest := []) (wr := [(uv, .inl (G.2.1, 24, .inl vf)), (ug, .inl (G.2.2.1, 200, .inl gf)), (ui, .inl (G.2.2.2.1, 200, .inr (.inl df))), (sp, .inr (3, [.ref tn, .ref tz, .ref tb, .ref tg, .int c])), (tn, .inl (G.2.1, 384, .inl tfn)), (tz, .inl (G.2.2.1, 16, .inl tfz))]) d_Markup_readElement_22 (g_Mu_skipSpace hl G h ui ug uv tb ct f_5 bg at_4 en vs io 0 0 tfb (by first | omega | assumption | decide) (by first | omega | assumption | decide) (by first | omega | assumption | decide) F_tfb) rfl rfl [6, 7] [0, 1, 2, 3, 4, 5] (by decide) rfl rfl rfl (by decide) (by decide) k_809 rfl k_125 k_806 k_808 k_32 (by decide +kernel) (by decide) rfl rfl (Nat.le_of_ble_eq_true rfl) (by decide) (fun v9 u11 ch10 => ?_)
    obtain ⟨r_12, at_13⟩ := u11
    obtain ⟨ech10, ch10⟩ := ch10
    have ech10 : v9 = some (.int r_12) := ech10
    subst ech10
    obtain ⟨fh14, fh15, fh16⟩ : (r_12.toInt = 0 ∨ r_12.toInt = 1) ∧ (at_4.toInt ≤ at_13.toInt) ∧ (at_13.toInt ≤ en.toInt) := ch10
    refine pb_eq (pc' := 25) (lo' := [(0, .ref h), (1, .ref sp)]) (rest' := [.int r_12]) (ws' := [(uv, .inl (G.2.1, 24, .inl vf)), (ug, .inl (G.2.2.1, 200, .inl gf)), (ui, .inl (G.2.2.2.1, 200, .inr (.inl df))), (sp, .inr (3, [.ref tn, .ref tz, .ref tb, .ref tg, .int c])), (tn, .inl (G.2.1, 384, .inl tfn)), (tz, .inl (G.2.2.1, 16, .inl tfz)), (h, .inr (8, [.ref ui, .ref ug, .ref uv, .ref tb, .int ct, .int f_5, .int bg, .int at_13, .int en, .int vs, .int io, .int 0, .int 0])), (tb, .inl (G.2.1, 12000, .inl tfb))]) ?_
    refine pb_istore_n (pc := 25) (lo' := [(2, .int r_12), (0, .ref h), (1, .ref sp)]) d_Markup_readElement_25 rfl (by decide) rfl ?_
    refine pb_iconst (pc := 26) (v := 0) d_Markup_readElement_26 (by decide) ?_
    refine pb_istore_n (pc := 27) (lo' := [(3, .int 0), (2, .int r_12), (0, .ref h), (1, .ref sp)]) d_Markup_readElement_27 rfl (by decide) rfl ?_
    have hL28_17 : ∀ (N9 : Nat) (sd : Int32) (j : Int32) (a : Int32) (f : Int32) (v : Int32) (h1_ : Int32) (h2_ : Int32) (g1 : Nat → Int32) (g2 : Nat → Int32) (g3 : Nat → Int64), (sb_Fit g1) → (at_.toInt ≤ a.toInt) → (a.toInt ≤ en.toInt) → (0 ≤ j.toInt) → (h1_.toInt ≠ 0 → ct.toInt < 200) → ((2 - j.toInt).toNat) < N9 → pb_P l G M i_Markup_readElement 28 [(2, .int sd), (3, .int j), (0, .ref h), (1, .ref sp)] [] [(h, .inr (8, [.ref ui, .ref ug, .ref uv, .ref tb, .int ct, .int f, .int bg, .int a, .int en, .int v, .int io, .int h1_, .int h2_])), (tb, .inl (G.2.1, 12000, .inl tfb)), (uv, .inl (G.2.1, 24, .inl g1)), (ug, .inl (G.2.2.1, 200, .inl g2)), (ui, .inl (G.2.2.2.1, 200, .inr (.inl g3))), (sp, .inr (3, [.ref tn, .ref tz, .ref tb, .ref tg, .int c])), (tn, .inl (G.2.1, 384, .inl tfn)), (tz, .inl (G.2.2.1, 16, .inl tfz))] 0 0 := by
      intro N9
      induction N9 with
      | zero => intro sd j a f v h1_ h2_ g1 g2 g3 F_g1 k0 k1 k2 k3 hm9; exact absurd hm9 (Nat.not_lt_zero _)
      | succ N9 ih28 =>
        intro sd j a f v h1_ h2_ g1 g2 g3 F_g1 k0 k1 k2 k3 hm9
        refine pb_iload_n (pc := 28) d_Markup_readElement_28 1 rfl rfl ?_
        refine pb_iconst (pc := 29) (v := 2) d_Markup_readElement_29 (by decide) ?_
        refine pb_icmp_ge (pc := 30) (tgt := 87) d_Markup_readElement_30 (by decide) (fun w18 => ?_) (fun w18 => ?_)
        · have tw18 : 2 ≤ j.toInt := (ti_le (by decide) rfl).mp w18
          refine pb_aload_n (pc := 87) d_Markup_readElement_87 2 rfl rfl ?_
          refine pb_get (pc := 88) d_Markup_readElement_88 0 11 rfl rfl (by decide) in_Markup k_330 rfl ?_
          refine pb_if_eq (pc := 91) (tgt := 101) d_Markup_readElement_91 (by decide) (fun w19 => ?_) (fun w19 => ?_)
          · have tw19 : h1_.toInt = 0 := (ti_eq rfl (by decide)).mp w19
            refine pb_aload_n (pc := 101) d_Markup_readElement_101 2 rfl rfl ?_
            refine pb_aload_n (pc := 102) d_Markup_readElement_102 2 rfl rfl ?_
            refine pb_get (pc := 103) d_Markup_readElement_103 0 7 rfl rfl (by decide) in_Markup k_326 rfl ?_
            refine pb_callV (pc := 106) (qb := 0) (ci := 8) (nA := 1) (rest := []) (wr := [(tb, .inl (G.2.1, 12000, .inl tfb)), (uv, .inl (G.2.1, 24, .inl g1)), (ug, .inl (G.2.2.1, 200, .inl g2)), (ui, .inl (G.2.2.2.1, 200, .inr (.inl g3))), (sp, .inr (3, [.ref tn, .ref tz, .ref tb, .ref tg, .int c])), (tn, .inl (G.2.1, 384, .inl tfn)), (tz, .inl (G.2.2.1, 16, .inl tfz))]) d_Markup_readElement_106 (g_Mu_fail hl G h ui ug uv tb ct f bg a en v io h1_ h2_ a) rfl rfl [0] [1, 2, 3, 4, 5, 6, 7] (by decide) rfl rfl rfl (by decide) (by decide) k_831 rfl k_125 k_828 k_830 k_36 (by decide +kernel) (by decide) rfl rfl (Nat.le_of_ble_eq_true rfl) (by decide) (fun v9 u21 ch20 => ?_)
            obtain ⟨f_22, rfl⟩ : ∃ z9, z9 = u21 := ⟨_, rfl⟩
            have ech20 := ch20
            have ech20 : v9 = some (.int 0) := ech20
            subst ech20
            refine pb_eq (pc' := 109) (lo' := [(2, .int sd), (3, .int j), (0, .ref h), (1, .ref sp)]) (rest' := [.int 0]) (ws' := [(tb, .inl (G.2.1, 12000, .inl tfb)), (uv, .inl (G.2.1, 24, .inl g1)), (ug, .inl (G.2.2.1, 200, .inl g2)), (ui, .inl (G.2.2.2.1, 200, .inr (.inl g3))), (sp, .inr (3, [.ref tn, .ref tz, .ref tb, .ref tg, .int c])), (tn, .inl (G.2.1, 384, .inl tfn)), (tz, .inl (G.2.2.1, 16, .inl tfz)), (h, .inr (8, [.ref ui, .ref ug, .ref uv, .ref tb, .int ct, .int f_22, .int bg, .int a, .int en, .int v, .int io, .int h1_, .int h2_]))]) ?_
            exact pb_iret (pc := 109) hQ d_Markup_readElement_109 rfl rfl (0, ct, a, f_22, v, h1_, h2_, g1, g2, g3) ⟨rfl, (by (try dsimp only); first | omega | assumption | decide), (by (try dsimp only); first | omega | assumption | decide), (by (try dsimp only); first | omega | assumption | decide), (by (try dsimp only); first | omega | assumption | decide), (by (try dsimp only); first | omega | assumption | decide), F_g1⟩ [7, 0, 1, 2, 3, 4, 5, 6] (by decide) rfl rfl (by decide) (by decide)
          · have tw19 : ¬ h1_.toInt = 0 := fun z9 => w19 ((ti_eq rfl (by decide)).mpr z9)
            refine pb_aload_n (pc := 94) d_Markup_readElement_94 2 rfl rfl ?_
            refine pb_get (pc := 95) d_Markup_readElement_95 0 12 rfl rfl (by decide) in_Markup k_331 rfl ?_
            refine pb_if_ne (pc := 98) (tgt := 110) d_Markup_readElement_98 (by decide) (fun w23 => ?_) (fun w23 => ?_)
            · have tw23 : ¬ h2_.toInt = 0 := fun z9 => w23 ((ti_eq rfl (by decide)).mpr z9)
              refine pb_aload_n (pc := 110) d_Markup_readElement_110 2 rfl rfl ?_
              refine pb_dup (pc := 111) d_Markup_readElement_111 rfl ?_
              refine pb_get (pc := 112) d_Markup_readElement_112 0 4 rfl rfl (by decide) in_Markup k_321 rfl ?_
              refine pb_iconst (pc := 115) (v := 1) d_Markup_readElement_115 (by decide) ?_
              refine pb_iadd (pc := 116) d_Markup_readElement_116 ?_
              refine pb_topi (fun i24 ei24 => ?_)
              try have ti24 : i24.toInt = ct.toInt + 1 := t2_add ei24 rfl (by decide) (by omega)
              refine pb_put (pc := 117) (ty := .int) (ws' := [(h, .inr (8, [.ref ui, .ref ug, .ref uv, .ref tb, .int i24, .int f, .int bg, .int a, .int en, .int v, .int io, .int h1_, .int h2_])), (tb, .inl (G.2.1, 12000, .inl tfb)), (uv, .inl (G.2.1, 24, .inl g1)), (ug, .inl (G.2.2.1, 200, .inl g2)), (ui, .inl (G.2.2.2.1, 200, .inr (.inl g3))), (sp, .inr (3, [.ref tn, .ref tz, .ref tb, .ref tg, .int c])), (tn, .inl (G.2.1, 384, .inl tfn)), (tz, .inl (G.2.2.1, 16, .inl tfz))]) d_Markup_readElement_117 0 4 t_Markup t_Markup_ok n_Markup rfl rfl (by decide) in_Markup k_321 rfl (by decide +kernel) rfl rfl (Nat.le_of_ble_eq_true rfl) rfl ?_
              refine pb_aload_n (pc := 120) d_Markup_readElement_120 2 rfl rfl ?_
              refine pb_iconst (pc := 121) (v := 0) d_Markup_readElement_121 (by decide) ?_
              refine pb_callV (pc := 122) (qb := 0) (ci := 8) (nA := 1) (rest := []) (wr := [(uv, .inl (G.2.1, 24, .inl g1)), (ug, .inl (G.2.2.1, 200, .inl g2)), (ui, .inl (G.2.2.2.1, 200, .inr (.inl g3))), (sp, .inr (3, [.ref tn, .ref tz, .ref tb, .ref tg, .int c])), (tn, .inl (G.2.1, 384, .inl tfn)), (tz, .inl (G.2.2.1, 16, .inl tfz))]) d_Markup_readElement_122 (g_Mu_next hl G h ui ug uv tb i24 f bg a en v io h1_ h2_ tfb 0 (by first | omega | assumption | decide) (by first | omega | assumption | decide) (by first | omega | assumption | decide) (by first | omega | assumption | decide) (by first | omega | assumption | decide) F_tfb) rfl rfl [0, 1] [2, 3, 4, 5, 6, 7] (by decide) rfl rfl rfl (by decide) (by decide) k_813 rfl k_125 k_810 k_812 k_33 (by decide +kernel) (by decide) rfl rfl (Nat.le_of_ble_eq_true rfl) (by decide) (fun v9 u26 ch25 => ?_)
              obtain ⟨r_27, rfl⟩ : ∃ z9, z9 = u26 := ⟨_, rfl⟩
              obtain ⟨ech25, ch25⟩ := ch25
              have ech25 : v9 = some (.int r_27) := ech25
              subst ech25
              obtain ⟨fh28, fh29, fh30⟩ : (-1 ≤ r_27.toInt) ∧ (r_27.toInt ≤ 255) ∧ (0 ≤ r_27.toInt → a.toInt + (0 : Int32).toInt < en.toInt) := ch25
              refine pb_eq (pc' := 125) (lo' := [(2, .int sd), (3, .int j), (0, .ref h), (1, .ref sp)]) (rest' := [.int r_27]) (ws' := [(uv, .inl (G.2.1, 24, .inl g1)), (ug, .inl (G.2.2.1, 200, .inl g2)), (ui, .inl (G.2.2.2.1, 200, .inr (.inl g3))), (sp, .inr (3, [.ref tn, .ref tz, .ref tb, .ref tg, .int c])), (tn, .inl (G.2.1, 384, .inl tfn)), (tz, .inl (G.2.2.1, 16, .inl tfz)), (h, .inr (8, [.ref ui, .ref ug, .ref uv, .ref tb, .int i24, .int f, .int bg, .int a, .int en, .int v, .int io, .int h1_, .int h2_])), (tb, .inl (G.2.1, 12000, .inl tfb))]) ?_
              refine pb_bipush (pc := 125) (v := 47) d_Markup_readElement_125 (by decide) ?_
              refine pb_icmp_ne (pc := 127) (tgt := 137) d_Markup_readElement_127 (by decide) (fun w31 => ?_) (fun w31 => ?_)
              · have tw31 : ¬ r_27.toInt = 47 := fun z9 => w31 ((ti_eq rfl (by decide)).mpr z9)
                refine pb_aload_n (pc := 137) d_Markup_readElement_137 2 rfl rfl ?_
                refine pb_ldcS (pc := 138) (k := 4) d_Markup_readElement_138 rfl (by decide) ?_
                refine pb_callV (pc := 140) (qb := 6) (ci := 8) (nA := 1) (rest := []) (wr := [(uv, .inl (G.2.1, 24, .inl g1)), (ug, .inl (G.2.2.1, 200, .inl g2)), (ui, .inl (G.2.2.2.1, 200, .inr (.inl g3))), (sp, .inr (3, [.ref tn, .ref tz, .ref tb, .ref tg, .int c])), (tn, .inl (G.2.1, 384, .inl tfn)), (tz, .inl (G.2.2.1, 16, .inl tfz))]) d_Markup_readElement_140 (g_Mu_takeText hl G h ui ug uv tb i24 f bg a en v io h1_ h2_ tfb 4 (by first | omega | assumption | decide) (by first | omega | assumption | decide) (by first | omega | assumption | decide) (by first | assumption | decide | omega) F_tfb) rfl rfl [6, 7] [0, 1, 2, 3, 4, 5] (by decide) rfl rfl rfl (by decide) (by decide) k_825 rfl k_125 k_822 k_824 k_35 (by decide +kernel) (by decide) rfl rfl (Nat.le_of_ble_eq_true rfl) (by decide) (fun v9 u33 ch32 => ?_)
                obtain ⟨r_34, at_35, f_36⟩ := u33
                obtain ⟨ech32, ch32⟩ := ch32
                have ech32 : v9 = some (.int r_34) := ech32
                subst ech32
                obtain ⟨fh37, fh38, fh39⟩ : (r_34.toInt = 0 ∨ r_34.toInt = 1) ∧ (a.toInt ≤ at_35.toInt) ∧ (at_35.toInt ≤ en.toInt) := ch32
                refine pb_eq (pc' := 143) (lo' := [(2, .int sd), (3, .int j), (0, .ref h), (1, .ref sp)]) (rest' := [.int r_34]) (ws' := [(uv, .inl (G.2.1, 24, .inl g1)), (ug, .inl (G.2.2.1, 200, .inl g2)), (ui, .inl (G.2.2.2.1, 200, .inr (.inl g3))), (sp, .inr (3, [.ref tn, .ref tz, .ref tb, .ref tg, .int c])), (tn, .inl (G.2.1, 384, .inl tfn)), (tz, .inl (G.2.2.1, 16, .inl tfz)), (h, .inr (8, [.ref ui, .ref ug, .ref uv, .ref tb, .int i24, .int f_36, .int bg, .int at_35, .int en, .int v, .int io, .int h1_, .int h2_])), (tb, .inl (G.2.1, 12000, .inl tfb))]) ?_
                refine pb_if_eq (pc := 143) (tgt := 166) d_Markup_readElement_143 (by decide) (fun w40 => ?_) (fun w40 => ?_)
                · have tw40 : r_34.toInt = 0 := (ti_eq rfl (by decide)).mp w40
                  refine pb_iconst (pc := 166) (v := 0) d_Markup_readElement_166 (by decide) ?_
                  exact pb_iret (pc := 167) hQ d_Markup_readElement_167 rfl rfl (0, i24, at_35, f_36, v, h1_, h2_, g1, g2, g3) ⟨rfl, (by (try dsimp only); first | omega | assumption | decide), (by (try dsimp only); first | omega | assumption | decide), (by (try dsimp only); first | omega | assumption | decide), (by (try dsimp only); first | omega | assumption | decide), (by (try dsimp only); first | omega | assumption | decide), F_g1⟩ [6, 7, 0, 1, 2, 3, 4, 5] (by decide) rfl rfl (by decide) (by decide)
                · have tw40 : ¬ r_34.toInt = 0 := fun z9 => w40 ((ti_eq rfl (by decide)).mpr z9)
                  refine pb_aload_n (pc := 146) d_Markup_readElement_146 2 rfl rfl ?_
                  refine pb_callV (pc := 147) (qb := 6) (ci := 8) (nA := 0) (rest := []) (wr := [(uv, .inl (G.2.1, 24, .inl g1)), (ug, .inl (G.2.2.1, 200, .inl g2)), (ui, .inl (G.2.2.2.1, 200, .inr (.inl g3))), (sp, .inr (3, [.ref tn, .ref tz, .ref tb, .ref tg, .int c])), (tn, .inl (G.2.1, 384, .inl tfn)), (tz, .inl (G.2.2.1, 16, .inl tfz))]) d_Markup_readElement_147 (g_Mu_skipGaps hl G h ui ug uv tb i24 f_36 bg at_35 en v io h1_ h2_ tfb (by first | omega | assumption | decide) (by first | omega | assumption | decide) (by first | omega | assumption | decide) F_tfb) rfl rfl [6, 7] [0, 1, 2, 3, 4, 5] (by decide) rfl rfl rfl (by decide) (by decide) k_805 rfl k_125 k_802 k_804 k_31 (by decide +kernel) (by decide) rfl rfl (Nat.le_of_ble_eq_true rfl) (by decide) (fun v9 u42 ch41 => ?_)
                  obtain ⟨r_43, at_44, f_45⟩ := u42
                  obtain ⟨ech41, ch41⟩ := ch41
                  have ech41 : v9 = some (.int r_43) := ech41
                  subst ech41
                  obtain ⟨fh46, fh47, fh48⟩ : (r_43.toInt = 0 ∨ r_43.toInt = 1) ∧ (at_35.toInt ≤ at_44.toInt) ∧ (at_44.toInt ≤ en.toInt) := ch41
                  refine pb_eq (pc' := 150) (lo' := [(2, .int sd), (3, .int j), (0, .ref h), (1, .ref sp)]) (rest' := [.int r_43]) (ws' := [(uv, .inl (G.2.1, 24, .inl g1)), (ug, .inl (G.2.2.1, 200, .inl g2)), (ui, .inl (G.2.2.2.1, 200, .inr (.inl g3))), (sp, .inr (3, [.ref tn, .ref tz, .ref tb, .ref tg, .int c])), (tn, .inl (G.2.1, 384, .inl tfn)), (tz, .inl (G.2.2.1, 16, .inl tfz)), (h, .inr (8, [.ref ui, .ref ug, .ref uv, .ref tb, .int i24, .int f_45, .int bg, .int at_44, .int en, .int v, .int io, .int h1_, .int h2_])), (tb, .inl (G.2.1, 12000, .inl tfb))]) ?_
                  refine pb_if_eq (pc := 150) (tgt := 166) d_Markup_readElement_150 (by decide) (fun w49 => ?_) (fun w49 => ?_)
                  · have tw49 : r_43.toInt = 0 := (ti_eq rfl (by decide)).mp w49
                    refine pb_iconst (pc := 166) (v := 0) d_Markup_readElement_166 (by decide) ?_
                    exact pb_iret (pc := 167) hQ d_Markup_readElement_167 rfl rfl (0, i24, at_44, f_45, v, h1_, h2_, g1, g2, g3) ⟨rfl, (by (try dsimp only); first | omega | assumption | decide), (by (try dsimp only); first | omega | assumption | decide), (by (try dsimp only); first | omega | assumption | decide), (by (try dsimp only); first | omega | assumption | decide), (by (try dsimp only); first | omega | assumption | decide), F_g1⟩ [6, 7, 0, 1, 2, 3, 4, 5] (by decide) rfl rfl (by decide) (by decide)
                  · have tw49 : ¬ r_43.toInt = 0 := fun z9 => w49 ((ti_eq rfl (by decide)).mpr z9)
                    refine pb_aload_n (pc := 153) d_Markup_readElement_153 2 rfl rfl ?_
                    refine pb_ldcS (pc := 154) (k := 16) d_Markup_readElement_154 rfl (by decide) ?_
                    refine pb_callV (pc := 156) (qb := 6) (ci := 8) (nA := 1) (rest := []) (wr := [(uv, .inl (G.2.1, 24, .inl g1)), (ug, .inl (G.2.2.1, 200, .inl g2)), (ui, .inl (G.2.2.2.1, 200, .inr (.inl g3))), (sp, .inr (3, [.ref tn, .ref tz, .ref tb, .ref tg, .int c])), (tn, .inl (G.2.1, 384, .inl tfn)), (tz, .inl (G.2.2.1, 16, .inl tfz))]) d_Markup_readElement_156 (g_Mu_readClose hl G h ui ug uv tb i24 f_45 bg at_44 en v io h1_ h2_ tfb 16 (by first | omega | assumption | decide) (by first | omega | assumption | decide) (by first | omega | assumption | decide) (by first | assumption | decide | omega) F_tfb) rfl rfl [6, 7] [0, 1, 2, 3, 4, 5] (by decide) rfl rfl rfl (by decide) (by decide) k_892 rfl k_125 k_889 k_891 k_47 (by decide +kernel) (by decide) rfl rfl (Nat.le_of_ble_eq_true rfl) (by decide) (fun v9 u51 ch50 => ?_)
                    obtain ⟨r_52, at_53, f_54⟩ := u51
                    obtain ⟨ech50, ch50⟩ := ch50
                    have ech50 : v9 = some (.int r_52) := ech50
                    subst ech50
                    obtain ⟨fh55, fh56, fh57⟩ : (r_52.toInt = 0 ∨ r_52.toInt = 1) ∧ (at_44.toInt ≤ at_53.toInt) ∧ (at_53.toInt ≤ en.toInt) := ch50
                    refine pb_eq (pc' := 159) (lo' := [(2, .int sd), (3, .int j), (0, .ref h), (1, .ref sp)]) (rest' := [.int r_52]) (ws' := [(uv, .inl (G.2.1, 24, .inl g1)), (ug, .inl (G.2.2.1, 200, .inl g2)), (ui, .inl (G.2.2.2.1, 200, .inr (.inl g3))), (sp, .inr (3, [.ref tn, .ref tz, .ref tb, .ref tg, .int c])), (tn, .inl (G.2.1, 384, .inl tfn)), (tz, .inl (G.2.2.1, 16, .inl tfz)), (h, .inr (8, [.ref ui, .ref ug, .ref uv, .ref tb, .int i24, .int f_54, .int bg, .int at_53, .int en, .int v, .int io, .int h1_, .int h2_])), (tb, .inl (G.2.1, 12000, .inl tfb))]) ?_
                    refine pb_if_eq (pc := 159) (tgt := 166) d_Markup_readElement_159 (by decide) (fun w58 => ?_) (fun w58 => ?_)
                    · have tw58 : r_52.toInt = 0 := (ti_eq rfl (by decide)).mp w58
                      refine pb_iconst (pc := 166) (v := 0) d_Markup_readElement_166 (by decide) ?_
                      exact pb_iret (pc := 167) hQ d_Markup_readElement_167 rfl rfl (0, i24, at_53, f_54, v, h1_, h2_, g1, g2, g3) ⟨rfl, (by (try dsimp only); first | omega | assumption | decide), (by (try dsimp only); first | omega | assumption | decide), (by (try dsimp only); first | omega | assumption | decide), (by (try dsimp only); first | omega | assumption | decide), (by (try dsimp only); first | omega | assumption | decide), F_g1⟩ [6, 7, 0, 1, 2, 3, 4, 5] (by decide) rfl rfl (by decide) (by decide)
                    · have tw58 : ¬ r_52.toInt = 0 := fun z9 => w58 ((ti_eq rfl (by decide)).mpr z9)
                      refine pb_iconst (pc := 162) (v := 1) d_Markup_readElement_162 (by decide) ?_
                      refine pb_goto (pc := 163) (tgt := 167) d_Markup_readElement_163 (by decide) ?_
                      exact pb_iret (pc := 167) hQ d_Markup_readElement_167 rfl rfl (1, i24, at_53, f_54, v, h1_, h2_, g1, g2, g3) ⟨rfl, (by (try dsimp only); first | omega | assumption | decide), (by (try dsimp only); first | omega | assumption | decide), (by (try dsimp only); first | omega | assumption | decide), (by (try dsimp only); first | omega | assumption | decide), (by (try dsimp only); first | omega | assumption | decide), F_g1⟩ [6, 7, 0, 1, 2, 3, 4, 5] (by decide) rfl rfl (by decide) (by decide)
              · have tw31 : r_27.toInt = 47 := (ti_eq rfl (by decide)).mp w31
                refine pb_aload_n (pc := 130) d_Markup_readElement_130 2 rfl rfl ?_
                refine pb_ldcS (pc := 131) (k := 5) d_Markup_readElement_131 rfl (by decide) ?_
                refine pb_callV (pc := 133) (qb := 6) (ci := 8) (nA := 1) (rest := []) (wr := [(uv, .inl (G.2.1, 24, .inl g1)), (ug, .inl (G.2.2.1, 200, .inl g2)), (ui, .inl (G.2.2.2.1, 200, .inr (.inl g3))), (sp, .inr (3, [.ref tn, .ref tz, .ref tb, .ref tg, .int c])), (tn, .inl (G.2.1, 384, .inl tfn)), (tz, .inl (G.2.2.1, 16, .inl tfz))]) d_Markup_readElement_133 (g_Mu_takeText hl G h ui ug uv tb i24 f bg a en v io h1_ h2_ tfb 5 (by first | omega | assumption | decide) (by first | omega | assumption | decide) (by first | omega | assumption | decide) (by first | assumption | decide | omega) F_tfb) rfl rfl [6, 7] [0, 1, 2, 3, 4, 5] (by decide) rfl rfl rfl (by decide) (by decide) k_825 rfl k_125 k_822 k_824 k_35 (by decide +kernel) (by decide) rfl rfl (Nat.le_of_ble_eq_true rfl) (by decide) (fun v9 u60 ch59 => ?_)
                obtain ⟨r_61, at_62, f_63⟩ := u60
                obtain ⟨ech59, ch59⟩ := ch59
                have ech59 : v9 = some (.int r_61) := ech59
                subst ech59
                obtain ⟨fh64, fh65, fh66⟩ : (r_61.toInt = 0 ∨ r_61.toInt = 1) ∧ (a.toInt ≤ at_62.toInt) ∧ (at_62.toInt ≤ en.toInt) := ch59
                refine pb_eq (pc' := 136) (lo' := [(2, .int sd), (3, .int j), (0, .ref h), (1, .ref sp)]) (rest' := [.int r_61]) (ws' := [(uv, .inl (G.2.1, 24, .inl g1)), (ug, .inl (G.2.2.1, 200, .inl g2)), (ui, .inl (G.2.2.2.1, 200, .inr (.inl g3))), (sp, .inr (3, [.ref tn, .ref tz, .ref tb, .ref tg, .int c])), (tn, .inl (G.2.1, 384, .inl tfn)), (tz, .inl (G.2.2.1, 16, .inl tfz)), (h, .inr (8, [.ref ui, .ref ug, .ref uv, .ref tb, .int i24, .int f_63, .int bg, .int at_62, .int en, .int v, .int io, .int h1_, .int h2_])), (tb, .inl (G.2.1, 12000, .inl tfb))]) ?_
                exact pb_iret (pc := 136) hQ d_Markup_readElement_136 rfl (nar_b (by omega)) (r_61, i24, at_62, f_63, v, h1_, h2_, g1, g2, g3) ⟨rfl, (by (try dsimp only); first | omega | assumption | decide), (by (try dsimp only); first | omega | assumption | decide), (by (try dsimp only); first | omega | assumption | decide), (by (try dsimp only); first | omega | assumption | decide), (by (try dsimp only); first | omega | assumption | decide), F_g1⟩ [6, 7, 0, 1, 2, 3, 4, 5] (by decide) rfl rfl (by decide) (by decide)
            · have tw23 : h2_.toInt = 0 := (ti_eq rfl (by decide)).mp w23
              refine pb_aload_n (pc := 101) d_Markup_readElement_101 2 rfl rfl ?_
              refine pb_aload_n (pc := 102) d_Markup_readElement_102 2 rfl rfl ?_
              refine pb_get (pc := 103) d_Markup_readElement_103 0 7 rfl rfl (by decide) in_Markup k_326 rfl ?_
              refine pb_callV (pc := 106) (qb := 0) (ci := 8) (nA := 1) (rest := []) (wr := [(tb, .inl (G.2.1, 12000, .inl tfb)), (uv, .inl (G.2.1, 24, .inl g1)), (ug, .inl (G.2.2.1, 200, .inl g2)), (ui, .inl (G.2.2.2.1, 200, .inr (.inl g3))), (sp, .inr (3, [.ref tn, .ref tz, .ref tb, .ref tg, .int c])), (tn, .inl (G.2.1, 384, .inl tfn)), (tz, .inl (G.2.2.1, 16, .inl tfz))]) d_Markup_readElement_106 (g_Mu_fail hl G h ui ug uv tb ct f bg a en v io h1_ h2_ a) rfl rfl [0] [1, 2, 3, 4, 5, 6, 7] (by decide) rfl rfl rfl (by decide) (by decide) k_831 rfl k_125 k_828 k_830 k_36 (by decide +kernel) (by decide) rfl rfl (Nat.le_of_ble_eq_true rfl) (by decide) (fun v9 u68 ch67 => ?_)
              obtain ⟨f_69, rfl⟩ : ∃ z9, z9 = u68 := ⟨_, rfl⟩
              have ech67 := ch67
              have ech67 : v9 = some (.int 0) := ech67
              subst ech67
              refine pb_eq (pc' := 109) (lo' := [(2, .int sd), (3, .int j), (0, .ref h), (1, .ref sp)]) (rest' := [.int 0]) (ws' := [(tb, .inl (G.2.1, 12000, .inl tfb)), (uv, .inl (G.2.1, 24, .inl g1)), (ug, .inl (G.2.2.1, 200, .inl g2)), (ui, .inl (G.2.2.2.1, 200, .inr (.inl g3))), (sp, .inr (3, [.ref tn, .ref tz, .ref tb, .ref tg, .int c])), (tn, .inl (G.2.1, 384, .inl tfn)), (tz, .inl (G.2.2.1, 16, .inl tfz)), (h, .inr (8, [.ref ui, .ref ug, .ref uv, .ref tb, .int ct, .int f_69, .int bg, .int a, .int en, .int v, .int io, .int h1_, .int h2_]))]) ?_
              exact pb_iret (pc := 109) hQ d_Markup_readElement_109 rfl rfl (0, ct, a, f_69, v, h1_, h2_, g1, g2, g3) ⟨rfl, (by (try dsimp only); first | omega | assumption | decide), (by (try dsimp only); first | omega | assumption | decide), (by (try dsimp only); first | omega | assumption | decide), (by (try dsimp only); first | omega | assumption | decide), (by (try dsimp only); first | omega | assumption | decide), F_g1⟩ [7, 0, 1, 2, 3, 4, 5, 6] (by decide) rfl rfl (by decide) (by decide)
        · have tw18 : ¬ 2 ≤ j.toInt := fun z9 => w18 ((ti_le (by decide) rfl).mpr z9)
          refine pb_aload_n (pc := 33) d_Markup_readElement_33 2 rfl rfl ?_
          refine pb_iconst (pc := 34) (v := 0) d_Markup_readElement_34 (by decide) ?_
          refine pb_callV (pc := 35) (qb := 0) (ci := 8) (nA := 1) (rest := []) (wr := [(uv, .inl (G.2.1, 24, .inl g1)), (ug, .inl (G.2.2.1, 200, .inl g2)), (ui, .inl (G.2.2.2.1, 200, .inr (.inl g3))), (sp, .inr (3, [.ref tn, .ref tz, .ref tb, .ref tg, .int c])), (tn, .inl (G.2.1, 384, .inl tfn)), (tz, .inl (G.2.2.1, 16, .inl tfz))]) d_Markup_readElement_35 (g_Mu_next hl G h ui ug uv tb ct f bg a en v io h1_ h2_ tfb 0 (by first | omega | assumption | decide) (by first | omega | assumption | decide) (by first | omega | assumption | decide) (by first | omega | assumption | decide) (by first | omega | assumption | decide) F_tfb) rfl rfl [0, 1] [2, 3, 4, 5, 6, 7] (by decide) rfl rfl rfl (by decide) (by decide) k_813 rfl k_125 k_810 k_812 k_33 (by decide +kernel) (by decide) rfl rfl (Nat.le_of_ble_eq_true rfl) (by decide) (fun v9 u71 ch70 => ?_)
          obtain ⟨r_72, rfl⟩ : ∃ z9, z9 = u71 := ⟨_, rfl⟩
          obtain ⟨ech70, ch70⟩ := ch70
          have ech70 : v9 = some (.int r_72) := ech70
          subst ech70
          obtain ⟨fh73, fh74, fh75⟩ : (-1 ≤ r_72.toInt) ∧ (r_72.toInt ≤ 255) ∧ (0 ≤ r_72.toInt → a.toInt + (0 : Int32).toInt < en.toInt) := ch70
          refine pb_eq (pc' := 38) (lo' := [(2, .int sd), (3, .int j), (0, .ref h), (1, .ref sp)]) (rest' := [.int r_72]) (ws' := [(uv, .inl (G.2.1, 24, .inl g1)), (ug, .inl (G.2.2.1, 200, .inl g2)), (ui, .inl (G.2.2.2.1, 200, .inr (.inl g3))), (sp, .inr (3, [.ref tn, .ref tz, .ref tb, .ref tg, .int c])), (tn, .inl (G.2.1, 384, .inl tfn)), (tz, .inl (G.2.2.1, 16, .inl tfz)), (h, .inr (8, [.ref ui, .ref ug, .ref uv, .ref tb, .int ct, .int f, .int bg, .int a, .int en, .int v, .int io, .int h1_, .int h2_])), (tb, .inl (G.2.1, 12000, .inl tfb))]) ?_
          refine pb_bipush (pc := 38) (v := 47) d_Markup_readElement_38 (by decide) ?_
          refine pb_icmp_eq (pc := 40) (tgt := 87) d_Markup_readElement_40 (by decide) (fun w76 => ?_) (fun w76 => ?_)
          · have tw76 : r_72.toInt = 47 := (ti_eq rfl (by decide)).mp w76
            refine pb_aload_n (pc := 87) d_Markup_readElement_87 2 rfl rfl ?_
            refine pb_get (pc := 88) d_Markup_readElement_88 6 11 rfl rfl (by decide) in_Markup k_330 rfl ?_
            refine pb_if_eq (pc := 91) (tgt := 101) d_Markup_readElement_91 (by decide) (fun w77 => ?_) (fun w77 => ?_)
            · have tw77 : h1_.toInt = 0 := (ti_eq rfl (by decide)).mp w77
              refine pb_aload_n (pc := 101) d_Markup_readElement_101 2 rfl rfl ?_
              refine pb_aload_n (pc := 102) d_Markup_readElement_102 2 rfl rfl ?_
              refine pb_get (pc := 103) d_Markup_readElement_103 6 7 rfl rfl (by decide) in_Markup k_326 rfl ?_
              refine pb_callV (pc := 106) (qb := 6) (ci := 8) (nA := 1) (rest := []) (wr := [(uv, .inl (G.2.1, 24, .inl g1)), (ug, .inl (G.2.2.1, 200, .inl g2)), (ui, .inl (G.2.2.2.1, 200, .inr (.inl g3))), (sp, .inr (3, [.ref tn, .ref tz, .ref tb, .ref tg, .int c])), (tn, .inl (G.2.1, 384, .inl tfn)), (tz, .inl (G.2.2.1, 16, .inl tfz)), (tb, .inl (G.2.1, 12000, .inl tfb))]) d_Markup_readElement_106 (g_Mu_fail hl G h ui ug uv tb ct f bg a en v io h1_ h2_ a) rfl rfl [6] [0, 1, 2, 3, 4, 5, 7] (by decide) rfl rfl rfl (by decide) (by decide) k_831 rfl k_125 k_828 k_830 k_36 (by decide +kernel) (by decide) rfl rfl (Nat.le_of_ble_eq_true rfl) (by decide) (fun v9 u79 ch78 => ?_)
              obtain ⟨f_80, rfl⟩ : ∃ z9, z9 = u79 := ⟨_, rfl⟩
              have ech78 := ch78
              have ech78 : v9 = some (.int 0) := ech78
              subst ech78
              refine pb_eq (pc' := 109) (lo' := [(2, .int sd), (3, .int j), (0, .ref h), (1, .ref sp)]) (rest' := [.int 0]) (ws' := [(uv, .inl (G.2.1, 24, .inl g1)), (ug, .inl (G.2.2.1, 200, .inl g2)), (ui, .inl (G.2.2.2.1, 200, .inr (.inl g3))), (sp, .inr (3, [.ref tn, .ref tz, .ref tb, .ref tg, .int c])), (tn, .inl (G.2.1, 384, .inl tfn)), (tz, .inl (G.2.2.1, 16, .inl tfz)), (tb, .inl (G.2.1, 12000, .inl tfb)), (h, .inr (8, [.ref ui, .ref ug, .ref uv, .ref tb, .int ct, .int f_80, .int bg, .int a, .int en, .int v, .int io, .int h1_, .int h2_]))]) ?_
              exact pb_iret (pc := 109) hQ d_Markup_readElement_109 rfl rfl (0, ct, a, f_80, v, h1_, h2_, g1, g2, g3) ⟨rfl, (by (try dsimp only); first | omega | assumption | decide), (by (try dsimp only); first | omega | assumption | decide), (by (try dsimp only); first | omega | assumption | decide), (by (try dsimp only); first | omega | assumption | decide), (by (try dsimp only); first | omega | assumption | decide), F_g1⟩ [7, 6, 0, 1, 2, 3, 4, 5] (by decide) rfl rfl (by decide) (by decide)
            · have tw77 : ¬ h1_.toInt = 0 := fun z9 => w77 ((ti_eq rfl (by decide)).mpr z9)
              refine pb_aload_n (pc := 94) d_Markup_readElement_94 2 rfl rfl ?_
              refine pb_get (pc := 95) d_Markup_readElement_95 6 12 rfl rfl (by decide) in_Markup k_331 rfl ?_
              refine pb_if_ne (pc := 98) (tgt := 110) d_Markup_readElement_98 (by decide) (fun w81 => ?_) (fun w81 => ?_)
              · have tw81 : ¬ h2_.toInt = 0 := fun z9 => w81 ((ti_eq rfl (by decide)).mpr z9)
                refine pb_aload_n (pc := 110) d_Markup_readElement_110 2 rfl rfl ?_
                refine pb_dup (pc := 111) d_Markup_readElement_111 rfl ?_
                refine pb_get (pc := 112) d_Markup_readElement_112 6 4 rfl rfl (by decide) in_Markup k_321 rfl ?_
                refine pb_iconst (pc := 115) (v := 1) d_Markup_readElement_115 (by decide) ?_
                refine pb_iadd (pc := 116) d_Markup_readElement_116 ?_
                refine pb_topi (fun i82 ei82 => ?_)
                try have ti82 : i82.toInt = ct.toInt + 1 := t2_add ei82 rfl (by decide) (by omega)
                refine pb_put (pc := 117) (ty := .int) (ws' := [(uv, .inl (G.2.1, 24, .inl g1)), (ug, .inl (G.2.2.1, 200, .inl g2)), (ui, .inl (G.2.2.2.1, 200, .inr (.inl g3))), (sp, .inr (3, [.ref tn, .ref tz, .ref tb, .ref tg, .int c])), (tn, .inl (G.2.1, 384, .inl tfn)), (tz, .inl (G.2.2.1, 16, .inl tfz)), (h, .inr (8, [.ref ui, .ref ug, .ref uv, .ref tb, .int i82, .int f, .int bg, .int a, .int en, .int v, .int io, .int h1_, .int h2_])), (tb, .inl (G.2.1, 12000, .inl tfb))]) d_Markup_readElement_117 6 4 t_Markup t_Markup_ok n_Markup rfl rfl (by decide) in_Markup k_321 rfl (by decide +kernel) rfl rfl (Nat.le_of_ble_eq_true rfl) rfl ?_
                refine pb_aload_n (pc := 120) d_Markup_readElement_120 2 rfl rfl ?_
                refine pb_iconst (pc := 121) (v := 0) d_Markup_readElement_121 (by decide) ?_
                refine pb_callV (pc := 122) (qb := 6) (ci := 8) (nA := 1) (rest := []) (wr := [(uv, .inl (G.2.1, 24, .inl g1)), (ug, .inl (G.2.2.1, 200, .inl g2)), (ui, .inl (G.2.2.2.1, 200, .inr (.inl g3))), (sp, .inr (3, [.ref tn, .ref tz, .ref tb, .ref tg, .int c])), (tn, .inl (G.2.1, 384, .inl tfn)), (tz, .inl (G.2.2.1, 16, .inl tfz))]) d_Markup_readElement_122 (g_Mu_next hl G h ui ug uv tb i82 f bg a en v io h1_ h2_ tfb 0 (by first | omega | assumption | decide) (by first | omega | assumption | decide) (by first | omega | assumption | decide) (by first | omega | assumption | decide) (by first | omega | assumption | decide) F_tfb) rfl rfl [6, 7] [0, 1, 2, 3, 4, 5] (by decide) rfl rfl rfl (by decide) (by decide) k_813 rfl k_125 k_810 k_812 k_33 (by decide +kernel) (by decide) rfl rfl (Nat.le_of_ble_eq_true rfl) (by decide) (fun v9 u84 ch83 => ?_)
                obtain ⟨r_85, rfl⟩ : ∃ z9, z9 = u84 := ⟨_, rfl⟩
                obtain ⟨ech83, ch83⟩ := ch83
                have ech83 : v9 = some (.int r_85) := ech83
                subst ech83
                obtain ⟨fh86, fh87, fh88⟩ : (-1 ≤ r_85.toInt) ∧ (r_85.toInt ≤ 255) ∧ (0 ≤ r_85.toInt → a.toInt + (0 : Int32).toInt < en.toInt) := ch83
                refine pb_eq (pc' := 125) (lo' := [(2, .int sd), (3, .int j), (0, .ref h), (1, .ref sp)]) (rest' := [.int r_85]) (ws' := [(uv, .inl (G.2.1, 24, .inl g1)), (ug, .inl (G.2.2.1, 200, .inl g2)), (ui, .inl (G.2.2.2.1, 200, .inr (.inl g3))), (sp, .inr (3, [.ref tn, .ref tz, .ref tb, .ref tg, .int c])), (tn, .inl (G.2.1, 384, .inl tfn)), (tz, .inl (G.2.2.1, 16, .inl tfz)), (h, .inr (8, [.ref ui, .ref ug, .ref uv, .ref tb, .int i82, .int f, .int bg, .int a, .int en, .int v, .int io, .int h1_, .int h2_])), (tb, .inl (G.2.1, 12000, .inl tfb))]) ?_
                refine pb_bipush (pc := 125) (v := 47) d_Markup_readElement_125 (by decide) ?_
                refine pb_icmp_ne (pc := 127) (tgt := 137) d_Markup_readElement_127 (by decide) (fun w89 => ?_) (fun w89 => ?_)
                · have tw89 : ¬ r_85.toInt = 47 := fun z9 => w89 ((ti_eq rfl (by decide)).mpr z9)
                  refine pb_aload_n (pc := 137) d_Markup_readElement_137 2 rfl rfl ?_
                  refine pb_ldcS (pc := 138) (k := 4) d_Markup_readElement_138 rfl (by decide) ?_
                  refine pb_callV (pc := 140) (qb := 6) (ci := 8) (nA := 1) (rest := []) (wr := [(uv, .inl (G.2.1, 24, .inl g1)), (ug, .inl (G.2.2.1, 200, .inl g2)), (ui, .inl (G.2.2.2.1, 200, .inr (.inl g3))), (sp, .inr (3, [.ref tn, .ref tz, .ref tb, .ref tg, .int c])), (tn, .inl (G.2.1, 384, .inl tfn)), (tz, .inl (G.2.2.1, 16, .inl tfz))]) d_Markup_readElement_140 (g_Mu_takeText hl G h ui ug uv tb i82 f bg a en v io h1_ h2_ tfb 4 (by first | omega | assumption | decide) (by first | omega | assumption | decide) (by first | omega | assumption | decide) (by first | assumption | decide | omega) F_tfb) rfl rfl [6, 7] [0, 1, 2, 3, 4, 5] (by decide) rfl rfl rfl (by decide) (by decide) k_825 rfl k_125 k_822 k_824 k_35 (by decide +kernel) (by decide) rfl rfl (Nat.le_of_ble_eq_true rfl) (by decide) (fun v9 u91 ch90 => ?_)
                  obtain ⟨r_92, at_93, f_94⟩ := u91
                  obtain ⟨ech90, ch90⟩ := ch90
                  have ech90 : v9 = some (.int r_92) := ech90
                  subst ech90
                  obtain ⟨fh95, fh96, fh97⟩ : (r_92.toInt = 0 ∨ r_92.toInt = 1) ∧ (a.toInt ≤ at_93.toInt) ∧ (at_93.toInt ≤ en.toInt) := ch90
                  refine pb_eq (pc' := 143) (lo' := [(2, .int sd), (3, .int j), (0, .ref h), (1, .ref sp)]) (rest' := [.int r_92]) (ws' := [(uv, .inl (G.2.1, 24, .inl g1)), (ug, .inl (G.2.2.1, 200, .inl g2)), (ui, .inl (G.2.2.2.1, 200, .inr (.inl g3))), (sp, .inr (3, [.ref tn, .ref tz, .ref tb, .ref tg, .int c])), (tn, .inl (G.2.1, 384, .inl tfn)), (tz, .inl (G.2.2.1, 16, .inl tfz)), (h, .inr (8, [.ref ui, .ref ug, .ref uv, .ref tb, .int i82, .int f_94, .int bg, .int at_93, .int en, .int v, .int io, .int h1_, .int h2_])), (tb, .inl (G.2.1, 12000, .inl tfb))]) ?_
                  refine pb_if_eq (pc := 143) (tgt := 166) d_Markup_readElement_143 (by decide) (fun w98 => ?_) (fun w98 => ?_)
                  · have tw98 : r_92.toInt = 0 := (ti_eq rfl (by decide)).mp w98
                    refine pb_iconst (pc := 166) (v := 0) d_Markup_readElement_166 (by decide) ?_
                    exact pb_iret (pc := 167) hQ d_Markup_readElement_167 rfl rfl (0, i82, at_93, f_94, v, h1_, h2_, g1, g2, g3) ⟨rfl, (by (try dsimp only); first | omega | assumption | decide), (by (try dsimp only); first | omega | assumption | decide), (by (try dsimp only); first | omega | assumption | decide), (by (try dsimp only); first | omega | assumption | decide), (by (try dsimp only); first | omega | assumption | decide), F_g1⟩ [6, 7, 0, 1, 2, 3, 4, 5] (by decide) rfl rfl (by decide) (by decide)
                  · have tw98 : ¬ r_92.toInt = 0 := fun z9 => w98 ((ti_eq rfl (by decide)).mpr z9)
                    refine pb_aload_n (pc := 146) d_Markup_readElement_146 2 rfl rfl ?_
                    refine pb_callV (pc := 147) (qb := 6) (ci := 8) (nA := 0) (rest := []) (wr := [(uv, .inl (G.2.1, 24, .inl g1)), (ug, .inl (G.2.2.1, 200, .inl g2)), (ui, .inl (G.2.2.2.1, 200, .inr (.inl g3))), (sp, .inr (3, [.ref tn, .ref tz, .ref tb, .ref tg, .int c])), (tn, .inl (G.2.1, 384, .inl tfn)), (tz, .inl (G.2.2.1, 16, .inl tfz))]) d_Markup_readElement_147 (g_Mu_skipGaps hl G h ui ug uv tb i82 f_94 bg at_93 en v io h1_ h2_ tfb (by first | omega | assumption | decide) (by first | omega | assumption | decide) (by first | omega | assumption | decide) F_tfb) rfl rfl [6, 7] [0, 1, 2, 3, 4, 5] (by decide) rfl rfl rfl (by decide) (by decide) k_805 rfl k_125 k_802 k_804 k_31 (by decide +kernel) (by decide) rfl rfl (Nat.le_of_ble_eq_true rfl) (by decide) (fun v9 u100 ch99 => ?_)
                    obtain ⟨r_101, at_102, f_103⟩ := u100
                    obtain ⟨ech99, ch99⟩ := ch99
                    have ech99 : v9 = some (.int r_101) := ech99
                    subst ech99
                    obtain ⟨fh104, fh105, fh106⟩ : (r_101.toInt = 0 ∨ r_101.toInt = 1) ∧ (at_93.toInt ≤ at_102.toInt) ∧ (at_102.toInt ≤ en.toInt) := ch99
                    refine pb_eq (pc' := 150) (lo' := [(2, .int sd), (3, .int j), (0, .ref h), (1, .ref sp)]) (rest' := [.int r_101]) (ws' := [(uv, .inl (G.2.1, 24, .inl g1)), (ug, .inl (G.2.2.1, 200, .inl g2)), (ui, .inl (G.2.2.2.1, 200, .inr (.inl g3))), (sp, .inr (3, [.ref tn, .ref tz, .ref tb, .ref tg, .int c])), (tn, .inl (G.2.1, 384, .inl tfn)), (tz, .inl (G.2.2.1, 16, .inl tfz)), (h, .inr (8, [.ref ui, .ref ug, .ref uv, .ref tb, .int i82, .int f_103, .int bg, .int at_102, .int en, .int v, .int io, .int h1_, .int h2_])), (tb, .inl (G.2.1, 12000, .inl tfb))]) ?_
                    refine pb_if_eq (pc := 150) (tgt := 166) d_Markup_readElement_150 (by decide) (fun w107 => ?_) (fun w107 => ?_)
                    · have tw107 : r_101.toInt = 0 := (ti_eq rfl (by decide)).mp w107
                      refine pb_iconst (pc := 166) (v := 0) d_Markup_readElement_166 (by decide) ?_
                      exact pb_iret (pc := 167) hQ d_Markup_readElement_167 rfl rfl (0, i82, at_102, f_103, v, h1_, h2_, g1, g2, g3) ⟨rfl, (by (try dsimp only); first | omega | assumption | decide), (by (try dsimp only); first | omega | assumption | decide), (by (try dsimp only); first | omega | assumption | decide), (by (try dsimp only); first | omega | assumption | decide), (by (try dsimp only); first | omega | assumption | decide), F_g1⟩ [6, 7, 0, 1, 2, 3, 4, 5] (by decide) rfl rfl (by decide) (by decide)
                    · have tw107 : ¬ r_101.toInt = 0 := fun z9 => w107 ((ti_eq rfl (by decide)).mpr z9)
                      refine pb_aload_n (pc := 153) d_Markup_readElement_153 2 rfl rfl ?_
                      refine pb_ldcS (pc := 154) (k := 16) d_Markup_readElement_154 rfl (by decide) ?_
                      refine pb_callV (pc := 156) (qb := 6) (ci := 8) (nA := 1) (rest := []) (wr := [(uv, .inl (G.2.1, 24, .inl g1)), (ug, .inl (G.2.2.1, 200, .inl g2)), (ui, .inl (G.2.2.2.1, 200, .inr (.inl g3))), (sp, .inr (3, [.ref tn, .ref tz, .ref tb, .ref tg, .int c])), (tn, .inl (G.2.1, 384, .inl tfn)), (tz, .inl (G.2.2.1, 16, .inl tfz))]) d_Markup_readElement_156 (g_Mu_readClose hl G h ui ug uv tb i82 f_103 bg at_102 en v io h1_ h2_ tfb 16 (by first | omega | assumption | decide) (by first | omega | assumption | decide) (by first | omega | assumption | decide) (by first | assumption | decide | omega) F_tfb) rfl rfl [6, 7] [0, 1, 2, 3, 4, 5] (by decide) rfl rfl rfl (by decide) (by decide) k_892 rfl k_125 k_889 k_891 k_47 (by decide +kernel) (by decide) rfl rfl (Nat.le_of_ble_eq_true rfl) (by decide) (fun v9 u109 ch108 => ?_)
                      obtain ⟨r_110, at_111, f_112⟩ := u109
                      obtain ⟨ech108, ch108⟩ := ch108
                      have ech108 : v9 = some (.int r_110) := ech108
                      subst ech108
                      obtain ⟨fh113, fh114, fh115⟩ : (r_110.toInt = 0 ∨ r_110.toInt = 1) ∧ (at_102.toInt ≤ at_111.toInt) ∧ (at_111.toInt ≤ en.toInt) := ch108
                      refine pb_eq (pc' := 159) (lo' := [(2, .int sd), (3, .int j), (0, .ref h), (1, .ref sp)]) (rest' := [.int r_110]) (ws' := [(uv, .inl (G.2.1, 24, .inl g1)), (ug, .inl (G.2.2.1, 200, .inl g2)), (ui, .inl (G.2.2.2.1, 200, .inr (.inl g3))), (sp, .inr (3, [.ref tn, .ref tz, .ref tb, .ref tg, .int c])), (tn, .inl (G.2.1, 384, .inl tfn)), (tz, .inl (G.2.2.1, 16, .inl tfz)), (h, .inr (8, [.ref ui, .ref ug, .ref uv, .ref tb, .int i82, .int f_112, .int bg, .int at_111, .int en, .int v, .int io, .int h1_, .int h2_])), (tb, .inl (G.2.1, 12000, .inl tfb))]) ?_
                      refine pb_if_eq (pc := 159) (tgt := 166) d_Markup_readElement_159 (by decide) (fun w116 => ?_) (fun w116 => ?_)
                      · have tw116 : r_110.toInt = 0 := (ti_eq rfl (by decide)).mp w116
                        refine pb_iconst (pc := 166) (v := 0) d_Markup_readElement_166 (by decide) ?_
                        exact pb_iret (pc := 167) hQ d_Markup_readElement_167 rfl rfl (0, i82, at_111, f_112, v, h1_, h2_, g1, g2, g3) ⟨rfl, (by (try dsimp only); first | omega | assumption | decide), (by (try dsimp only); first | omega | assumption | decide), (by (try dsimp only); first | omega | assumption | decide), (by (try dsimp only); first | omega | assumption | decide), (by (try dsimp only); first | omega | assumption | decide), F_g1⟩ [6, 7, 0, 1, 2, 3, 4, 5] (by decide) rfl rfl (by decide) (by decide)
                      · have tw116 : ¬ r_110.toInt = 0 := fun z9 => w116 ((ti_eq rfl (by decide)).mpr z9)
                        refine pb_iconst (pc := 162) (v := 1) d_Markup_readElement_162 (by decide) ?_
                        refine pb_goto (pc := 163) (tgt := 167) d_Markup_readElement_163 (by decide) ?_
                        exact pb_iret (pc := 167) hQ d_Markup_readElement_167 rfl rfl (1, i82, at_111, f_112, v, h1_, h2_, g1, g2, g3) ⟨rfl, (by (try dsimp only); first | omega | assumption | decide), (by (try dsimp only); first | omega | assumption | decide), (by (try dsimp only); first | omega | assumption | decide), (by (try dsimp only); first | omega | assumption | decide), (by (try dsimp only); first | omega | assumption | decide), F_g1⟩ [6, 7, 0, 1, 2, 3, 4, 5] (by decide) rfl rfl (by decide) (by decide)
                · have tw89 : r_85.toInt = 47 := (ti_eq rfl (by decide)).mp w89
                  refine pb_aload_n (pc := 130) d_Markup_readElement_130 2 rfl rfl ?_
                  refine pb_ldcS (pc := 131) (k := 5) d_Markup_readElement_131 rfl (by decide) ?_
                  refine pb_callV (pc := 133) (qb := 6) (ci := 8) (nA := 1) (rest := []) (wr := [(uv, .inl (G.2.1, 24, .inl g1)), (ug, .inl (G.2.2.1, 200, .inl g2)), (ui, .inl (G.2.2.2.1, 200, .inr (.inl g3))), (sp, .inr (3, [.ref tn, .ref tz, .ref tb, .ref tg, .int c])), (tn, .inl (G.2.1, 384, .inl tfn)), (tz, .inl (G.2.2.1, 16, .inl tfz))]) d_Markup_readElement_133 (g_Mu_takeText hl G h ui ug uv tb i82 f bg a en v io h1_ h2_ tfb 5 (by first | omega | assumption | decide) (by first | omega | assumption | decide) (by first | omega | assumption | decide) (by first | assumption | decide | omega) F_tfb) rfl rfl [6, 7] [0, 1, 2, 3, 4, 5] (by decide) rfl rfl rfl (by decide) (by decide) k_825 rfl k_125 k_822 k_824 k_35 (by decide +kernel) (by decide) rfl rfl (Nat.le_of_ble_eq_true rfl) (by decide) (fun v9 u118 ch117 => ?_)
                  obtain ⟨r_119, at_120, f_121⟩ := u118
                  obtain ⟨ech117, ch117⟩ := ch117
                  have ech117 : v9 = some (.int r_119) := ech117
                  subst ech117
                  obtain ⟨fh122, fh123, fh124⟩ : (r_119.toInt = 0 ∨ r_119.toInt = 1) ∧ (a.toInt ≤ at_120.toInt) ∧ (at_120.toInt ≤ en.toInt) := ch117
                  refine pb_eq (pc' := 136) (lo' := [(2, .int sd), (3, .int j), (0, .ref h), (1, .ref sp)]) (rest' := [.int r_119]) (ws' := [(uv, .inl (G.2.1, 24, .inl g1)), (ug, .inl (G.2.2.1, 200, .inl g2)), (ui, .inl (G.2.2.2.1, 200, .inr (.inl g3))), (sp, .inr (3, [.ref tn, .ref tz, .ref tb, .ref tg, .int c])), (tn, .inl (G.2.1, 384, .inl tfn)), (tz, .inl (G.2.2.1, 16, .inl tfz)), (h, .inr (8, [.ref ui, .ref ug, .ref uv, .ref tb, .int i82, .int f_121, .int bg, .int at_120, .int en, .int v, .int io, .int h1_, .int h2_])), (tb, .inl (G.2.1, 12000, .inl tfb))]) ?_
                  exact pb_iret (pc := 136) hQ d_Markup_readElement_136 rfl (nar_b (by omega)) (r_119, i82, at_120, f_121, v, h1_, h2_, g1, g2, g3) ⟨rfl, (by (try dsimp only); first | omega | assumption | decide), (by (try dsimp only); first | omega | assumption | decide), (by (try dsimp only); first | omega | assumption | decide), (by (try dsimp only); first | omega | assumption | decide), (by (try dsimp only); first | omega | assumption | decide), F_g1⟩ [6, 7, 0, 1, 2, 3, 4, 5] (by decide) rfl rfl (by decide) (by decide)
              · have tw81 : h2_.toInt = 0 := (ti_eq rfl (by decide)).mp w81
                refine pb_aload_n (pc := 101) d_Markup_readElement_101 2 rfl rfl ?_
                refine pb_aload_n (pc := 102) d_Markup_readElement_102 2 rfl rfl ?_
                refine pb_get (pc := 103) d_Markup_readElement_103 6 7 rfl rfl (by decide) in_Markup k_326 rfl ?_
                refine pb_callV (pc := 106) (qb := 6) (ci := 8) (nA := 1) (rest := []) (wr := [(uv, .inl (G.2.1, 24, .inl g1)), (ug, .inl (G.2.2.1, 200, .inl g2)), (ui, .inl (G.2.2.2.1, 200, .inr (.inl g3))), (sp, .inr (3, [.ref tn, .ref tz, .ref tb, .ref tg, .int c])), (tn, .inl (G.2.1, 384, .inl tfn)), (tz, .inl (G.2.2.1, 16, .inl tfz)), (tb, .inl (G.2.1, 12000, .inl tfb))]) d_Markup_readElement_106 (g_Mu_fail hl G h ui ug uv tb ct f bg a en v io h1_ h2_ a) rfl rfl [6] [0, 1, 2, 3, 4, 5, 7] (by decide) rfl rfl rfl (by decide) (by decide) k_831 rfl k_125 k_828 k_830 k_36 (by decide +kernel) (by decide) rfl rfl (Nat.le_of_ble_eq_true rfl) (by decide) (fun v9 u126 ch125 => ?_)
                obtain ⟨f_127, rfl⟩ : ∃ z9, z9 = u126 := ⟨_, rfl⟩
                have ech125 := ch125
                have ech125 : v9 = some (.int 0) := ech125
                subst ech125
                refine pb_eq (pc' := 109) (lo' := [(2, .int sd), (3, .int j), (0, .ref h), (1, .ref sp)]) (rest' := [.int 0]) (ws' := [(uv, .inl (G.2.1, 24, .inl g1)), (ug, .inl (G.2.2.1, 200, .inl g2)), (ui, .inl (G.2.2.2.1, 200, .inr (.inl g3))), (sp, .inr (3, [.ref tn, .ref tz, .ref tb, .ref tg, .int c])), (tn, .inl (G.2.1, 384, .inl tfn)), (tz, .inl (G.2.2.1, 16, .inl tfz)), (tb, .inl (G.2.1, 12000, .inl tfb)), (h, .inr (8, [.ref ui, .ref ug, .ref uv, .ref tb, .int ct, .int f_127, .int bg, .int a, .int en, .int v, .int io, .int h1_, .int h2_]))]) ?_
                exact pb_iret (pc := 109) hQ d_Markup_readElement_109 rfl rfl (0, ct, a, f_127, v, h1_, h2_, g1, g2, g3) ⟨rfl, (by (try dsimp only); first | omega | assumption | decide), (by (try dsimp only); first | omega | assumption | decide), (by (try dsimp only); first | omega | assumption | decide), (by (try dsimp only); first | omega | assumption | decide), (by (try dsimp only); first | omega | assumption | decide), F_g1⟩ [7, 6, 0, 1, 2, 3, 4, 5] (by decide) rfl rfl (by decide) (by decide)
          · have tw76 : ¬ r_72.toInt = 47 := fun z9 => w76 ((ti_eq rfl (by decide)).mpr z9)
            refine pb_aload_n (pc := 43) d_Markup_readElement_43 2 rfl rfl ?_
            refine pb_iconst (pc := 44) (v := 0) d_Markup_readElement_44 (by decide) ?_
            refine pb_callV (pc := 45) (qb := 6) (ci := 8) (nA := 1) (rest := []) (wr := [(uv, .inl (G.2.1, 24, .inl g1)), (ug, .inl (G.2.2.1, 200, .inl g2)), (ui, .inl (G.2.2.2.1, 200, .inr (.inl g3))), (sp, .inr (3, [.ref tn, .ref tz, .ref tb, .ref tg, .int c])), (tn, .inl (G.2.1, 384, .inl tfn)), (tz, .inl (G.2.2.1, 16, .inl tfz))]) d_Markup_readElement_45 (g_Mu_next hl G h ui ug uv tb ct f bg a en v io h1_ h2_ tfb 0 (by first | omega | assumption | decide) (by first | omega | assumption | decide) (by first | omega | assumption | decide) (by first | omega | assumption | decide) (by first | omega | assumption | decide) F_tfb) rfl rfl [6, 7] [0, 1, 2, 3, 4, 5] (by decide) rfl rfl rfl (by decide) (by decide) k_813 rfl k_125 k_810 k_812 k_33 (by decide +kernel) (by decide) rfl rfl (Nat.le_of_ble_eq_true rfl) (by decide) (fun v9 u129 ch128 => ?_)
            obtain ⟨r_130, rfl⟩ : ∃ z9, z9 = u129 := ⟨_, rfl⟩
            obtain ⟨ech128, ch128⟩ := ch128
            have ech128 : v9 = some (.int r_130) := ech128
            subst ech128
            obtain ⟨fh131, fh132, fh133⟩ : (-1 ≤ r_130.toInt) ∧ (r_130.toInt ≤ 255) ∧ (0 ≤ r_130.toInt → a.toInt + (0 : Int32).toInt < en.toInt) := ch128
            refine pb_eq (pc' := 48) (lo' := [(2, .int sd), (3, .int j), (0, .ref h), (1, .ref sp)]) (rest' := [.int r_130]) (ws' := [(uv, .inl (G.2.1, 24, .inl g1)), (ug, .inl (G.2.2.1, 200, .inl g2)), (ui, .inl (G.2.2.2.1, 200, .inr (.inl g3))), (sp, .inr (3, [.ref tn, .ref tz, .ref tb, .ref tg, .int c])), (tn, .inl (G.2.1, 384, .inl tfn)), (tz, .inl (G.2.2.1, 16, .inl tfz)), (h, .inr (8, [.ref ui, .ref ug, .ref uv, .ref tb, .int ct, .int f, .int bg, .int a, .int en, .int v, .int io, .int h1_, .int h2_])), (tb, .inl (G.2.1, 12000, .inl tfb))]) ?_
            refine pb_bipush (pc := 48) (v := 62) d_Markup_readElement_48 (by decide) ?_
            refine pb_icmp_eq (pc := 50) (tgt := 87) d_Markup_readElement_50 (by decide) (fun w134 => ?_) (fun w134 => ?_)
            · have tw134 : r_130.toInt = 62 := (ti_eq rfl (by decide)).mp w134
              refine pb_aload_n (pc := 87) d_Markup_readElement_87 2 rfl rfl ?_
              refine pb_get (pc := 88) d_Markup_readElement_88 6 11 rfl rfl (by decide) in_Markup k_330 rfl ?_
              refine pb_if_eq (pc := 91) (tgt := 101) d_Markup_readElement_91 (by decide) (fun w135 => ?_) (fun w135 => ?_)
              · have tw135 : h1_.toInt = 0 := (ti_eq rfl (by decide)).mp w135
                refine pb_aload_n (pc := 101) d_Markup_readElement_101 2 rfl rfl ?_
                refine pb_aload_n (pc := 102) d_Markup_readElement_102 2 rfl rfl ?_
                refine pb_get (pc := 103) d_Markup_readElement_103 6 7 rfl rfl (by decide) in_Markup k_326 rfl ?_
                refine pb_callV (pc := 106) (qb := 6) (ci := 8) (nA := 1) (rest := []) (wr := [(uv, .inl (G.2.1, 24, .inl g1)), (ug, .inl (G.2.2.1, 200, .inl g2)), (ui, .inl (G.2.2.2.1, 200, .inr (.inl g3))), (sp, .inr (3, [.ref tn, .ref tz, .ref tb, .ref tg, .int c])), (tn, .inl (G.2.1, 384, .inl tfn)), (tz, .inl (G.2.2.1, 16, .inl tfz)), (tb, .inl (G.2.1, 12000, .inl tfb))]) d_Markup_readElement_106 (g_Mu_fail hl G h ui ug uv tb ct f bg a en v io h1_ h2_ a) rfl rfl [6] [0, 1, 2, 3, 4, 5, 7] (by decide) rfl rfl rfl (by decide) (by decide) k_831 rfl k_125 k_828 k_830 k_36 (by decide +kernel) (by decide) rfl rfl (Nat.le_of_ble_eq_true rfl) (by decide) (fun v9 u137 ch136 => ?_)
                obtain ⟨f_138, rfl⟩ : ∃ z9, z9 = u137 := ⟨_, rfl⟩
                have ech136 := ch136
                have ech136 : v9 = some (.int 0) := ech136
                subst ech136
                refine pb_eq (pc' := 109) (lo' := [(2, .int sd), (3, .int j), (0, .ref h), (1, .ref sp)]) (rest' := [.int 0]) (ws' := [(uv, .inl (G.2.1, 24, .inl g1)), (ug, .inl (G.2.2.1, 200, .inl g2)), (ui, .inl (G.2.2.2.1, 200, .inr (.inl g3))), (sp, .inr (3, [.ref tn, .ref tz, .ref tb, .ref tg, .int c])), (tn, .inl (G.2.1, 384, .inl tfn)), (tz, .inl (G.2.2.1, 16, .inl tfz)), (tb, .inl (G.2.1, 12000, .inl tfb)), (h, .inr (8, [.ref ui, .ref ug, .ref uv, .ref tb, .int ct, .int f_138, .int bg, .int a, .int en, .int v, .int io, .int h1_, .int h2_]))]) ?_
                exact pb_iret (pc := 109) hQ d_Markup_readElement_109 rfl rfl (0, ct, a, f_138, v, h1_, h2_, g1, g2, g3) ⟨rfl, (by (try dsimp only); first | omega | assumption | decide), (by (try dsimp only); first | omega | assumption | decide), (by (try dsimp only); first | omega | assumption | decide), (by (try dsimp only); first | omega | assumption | decide), (by (try dsimp only); first | omega | assumption | decide), F_g1⟩ [7, 6, 0, 1, 2, 3, 4, 5] (by decide) rfl rfl (by decide) (by decide)
              · have tw135 : ¬ h1_.toInt = 0 := fun z9 => w135 ((ti_eq rfl (by decide)).mpr z9)
                refine pb_aload_n (pc := 94) d_Markup_readElement_94 2 rfl rfl ?_
                refine pb_get (pc := 95) d_Markup_readElement_95 6 12 rfl rfl (by decide) in_Markup k_331 rfl ?_
                refine pb_if_ne (pc := 98) (tgt := 110) d_Markup_readElement_98 (by decide) (fun w139 => ?_) (fun w139 => ?_)
                · have tw139 : ¬ h2_.toInt = 0 := fun z9 => w139 ((ti_eq rfl (by decide)).mpr z9)
                  refine pb_aload_n (pc := 110) d_Markup_readElement_110 2 rfl rfl ?_
                  refine pb_dup (pc := 111) d_Markup_readElement_111 rfl ?_
                  refine pb_get (pc := 112) d_Markup_readElement_112 6 4 rfl rfl (by decide) in_Markup k_321 rfl ?_
                  refine pb_iconst (pc := 115) (v := 1) d_Markup_readElement_115 (by decide) ?_
                  refine pb_iadd (pc := 116) d_Markup_readElement_116 ?_
                  refine pb_topi (fun i140 ei140 => ?_)
                  try have ti140 : i140.toInt = ct.toInt + 1 := t2_add ei140 rfl (by decide) (by omega)
                  refine pb_put (pc := 117) (ty := .int) (ws' := [(uv, .inl (G.2.1, 24, .inl g1)), (ug, .inl (G.2.2.1, 200, .inl g2)), (ui, .inl (G.2.2.2.1, 200, .inr (.inl g3))), (sp, .inr (3, [.ref tn, .ref tz, .ref tb, .ref tg, .int c])), (tn, .inl (G.2.1, 384, .inl tfn)), (tz, .inl (G.2.2.1, 16, .inl tfz)), (h, .inr (8, [.ref ui, .ref ug, .ref uv, .ref tb, .int i140, .int f, .int bg, .int a, .int en, .int v, .int io, .int h1_, .int h2_])), (tb, .inl (G.2.1, 12000, .inl tfb))]) d_Markup_readElement_117 6 4 t_Markup t_Markup_ok n_Markup rfl rfl (by decide) in_Markup k_321 rfl (by decide +kernel) rfl rfl (Nat.le_of_ble_eq_true rfl) rfl ?_
                  refine pb_aload_n (pc := 120) d_Markup_readElement_120 2 rfl rfl ?_
                  refine pb_iconst (pc := 121) (v := 0) d_Markup_readElement_121 (by decide) ?_
                  refine pb_callV (pc := 122) (qb := 6) (ci := 8) (nA := 1) (rest := []) (wr := [(uv, .inl (G.2.1, 24, .inl g1)), (ug, .inl (G.2.2.1, 200, .inl g2)), (ui, .inl (G.2.2.2.1, 200, .inr (.inl g3))), (sp, .inr (3, [.ref tn, .ref tz, .ref tb, .ref tg, .int c])), (tn, .inl (G.2.1, 384, .inl tfn)), (tz, .inl (G.2.2.1, 16, .inl tfz))]) d_Markup_readElement_122 (g_Mu_next hl G h ui ug uv tb i140 f bg a en v io h1_ h2_ tfb 0 (by first | omega | assumption | decide) (by first | omega | assumption | decide) (by first | omega | assumption | decide) (by first | omega | assumption | decide) (by first | omega | assumption | decide) F_tfb) rfl rfl [6, 7] [0, 1, 2, 3, 4, 5] (by decide) rfl rfl rfl (by decide) (by decide) k_813 rfl k_125 k_810 k_812 k_33 (by decide +kernel) (by decide) rfl rfl (Nat.le_of_ble_eq_true rfl) (by decide) (fun v9 u142 ch141 => ?_)
                  obtain ⟨r_143, rfl⟩ : ∃ z9, z9 = u142 := ⟨_, rfl⟩
                  obtain ⟨ech141, ch141⟩ := ch141
                  have ech141 : v9 = some (.int r_143) := ech141
                  subst ech141
                  obtain ⟨fh144, fh145, fh146⟩ : (-1 ≤ r_143.toInt) ∧ (r_143.toInt ≤ 255) ∧ (0 ≤ r_143.toInt → a.toInt + (0 : Int32).toInt < en.toInt) := ch141
                  refine pb_eq (pc' := 125) (lo' := [(2, .int sd), (3, .int j), (0, .ref h), (1, .ref sp)]) (rest' := [.int r_143]) (ws' := [(uv, .inl (G.2.1, 24, .inl g1)), (ug, .inl (G.2.2.1, 200, .inl g2)), (ui, .inl (G.2.2.2.1, 200, .inr (.inl g3))), (sp, .inr (3, [.ref tn, .ref tz, .ref tb, .ref tg, .int c])), (tn, .inl (G.2.1, 384, .inl tfn)), (tz, .inl (G.2.2.1, 16, .inl tfz)), (h, .inr (8, [.ref ui, .ref ug, .ref uv, .ref tb, .int i140, .int f, .int bg, .int a, .int en, .int v, .int io, .int h1_, .int h2_])), (tb, .inl (G.2.1, 12000, .inl tfb))]) ?_
                  refine pb_bipush (pc := 125) (v := 47) d_Markup_readElement_125 (by decide) ?_
                  refine pb_icmp_ne (pc := 127) (tgt := 137) d_Markup_readElement_127 (by decide) (fun w147 => ?_) (fun w147 => ?_)
                  · have tw147 : ¬ r_143.toInt = 47 := fun z9 => w147 ((ti_eq rfl (by decide)).mpr z9)
                    refine pb_aload_n (pc := 137) d_Markup_readElement_137 2 rfl rfl ?_
                    refine pb_ldcS (pc := 138) (k := 4) d_Markup_readElement_138 rfl (by decide) ?_
                    refine pb_callV (pc := 140) (qb := 6) (ci := 8) (nA := 1) (rest := []) (wr := [(uv, .inl (G.2.1, 24, .inl g1)), (ug, .inl (G.2.2.1, 200, .inl g2)), (ui, .inl (G.2.2.2.1, 200, .inr (.inl g3))), (sp, .inr (3, [.ref tn, .ref tz, .ref tb, .ref tg, .int c])), (tn, .inl (G.2.1, 384, .inl tfn)), (tz, .inl (G.2.2.1, 16, .inl tfz))]) d_Markup_readElement_140 (g_Mu_takeText hl G h ui ug uv tb i140 f bg a en v io h1_ h2_ tfb 4 (by first | omega | assumption | decide) (by first | omega | assumption | decide) (by first | omega | assumption | decide) (by first | assumption | decide | omega) F_tfb) rfl rfl [6, 7] [0, 1, 2, 3, 4, 5] (by decide) rfl rfl rfl (by decide) (by decide) k_825 rfl k_125 k_822 k_824 k_35 (by decide +kernel) (by decide) rfl rfl (Nat.le_of_ble_eq_true rfl) (by decide) (fun v9 u149 ch148 => ?_)
                    obtain ⟨r_150, at_151, f_152⟩ := u149
                    obtain ⟨ech148, ch148⟩ := ch148
                    have ech148 : v9 = some (.int r_150) := ech148
                    subst ech148
                    obtain ⟨fh153, fh154, fh155⟩ : (r_150.toInt = 0 ∨ r_150.toInt = 1) ∧ (a.toInt ≤ at_151.toInt) ∧ (at_151.toInt ≤ en.toInt) := ch148
                    refine pb_eq (pc' := 143) (lo' := [(2, .int sd), (3, .int j), (0, .ref h), (1, .ref sp)]) (rest' := [.int r_150]) (ws' := [(uv, .inl (G.2.1, 24, .inl g1)), (ug, .inl (G.2.2.1, 200, .inl g2)), (ui, .inl (G.2.2.2.1, 200, .inr (.inl g3))), (sp, .inr (3, [.ref tn, .ref tz, .ref tb, .ref tg, .int c])), (tn, .inl (G.2.1, 384, .inl tfn)), (tz, .inl (G.2.2.1, 16, .inl tfz)), (h, .inr (8, [.ref ui, .ref ug, .ref uv, .ref tb, .int i140, .int f_152, .int bg, .int at_151, .int en, .int v, .int io, .int h1_, .int h2_])), (tb, .inl (G.2.1, 12000, .inl tfb))]) ?_
                    refine pb_if_eq (pc := 143) (tgt := 166) d_Markup_readElement_143 (by decide) (fun w156 => ?_) (fun w156 => ?_)
                    · have tw156 : r_150.toInt = 0 := (ti_eq rfl (by decide)).mp w156
                      refine pb_iconst (pc := 166) (v := 0) d_Markup_readElement_166 (by decide) ?_
                      exact pb_iret (pc := 167) hQ d_Markup_readElement_167 rfl rfl (0, i140, at_151, f_152, v, h1_, h2_, g1, g2, g3) ⟨rfl, (by (try dsimp only); first | omega | assumption | decide), (by (try dsimp only); first | omega | assumption | decide), (by (try dsimp only); first | omega | assumption | decide), (by (try dsimp only); first | omega | assumption | decide), (by (try dsimp only); first | omega | assumption | decide), F_g1⟩ [6, 7, 0, 1, 2, 3, 4, 5] (by decide) rfl rfl (by decide) (by decide)
                    · have tw156 : ¬ r_150.toInt = 0 := fun z9 => w156 ((ti_eq rfl (by decide)).mpr z9)
                      refine pb_aload_n (pc := 146) d_Markup_readElement_146 2 rfl rfl ?_
                      refine pb_callV (pc := 147) (qb := 6) (ci := 8) (nA := 0) (rest := []) (wr := [(uv, .inl (G.2.1, 24, .inl g1)), (ug, .inl (G.2.2.1, 200, .inl g2)), (ui, .inl (G.2.2.2.1, 200, .inr (.inl g3))), (sp, .inr (3, [.ref tn, .ref tz, .ref tb, .ref tg, .int c])), (tn, .inl (G.2.1, 384, .inl tfn)), (tz, .inl (G.2.2.1, 16, .inl tfz))]) d_Markup_readElement_147 (g_Mu_skipGaps hl G h ui ug uv tb i140 f_152 bg at_151 en v io h1_ h2_ tfb (by first | omega | assumption | decide) (by first | omega | assumption | decide) (by first | omega | assumption | decide) F_tfb) rfl rfl [6, 7] [0, 1, 2, 3, 4, 5] (by decide) rfl rfl rfl (by decide) (by decide) k_805 rfl k_125 k_802 k_804 k_31 (by decide +kernel) (by decide) rfl rfl (Nat.le_of_ble_eq_true rfl) (by decide) (fun v9 u158 ch157 => ?_)
                      obtain ⟨r_159, at_160, f_161⟩ := u158
                      obtain ⟨ech157, ch157⟩ := ch157
                      have ech157 : v9 = some (.int r_159) := ech157
                      subst ech157
                      obtain ⟨fh162, fh163, fh164⟩ : (r_159.toInt = 0 ∨ r_159.toInt = 1) ∧ (at_151.toInt ≤ at_160.toInt) ∧ (at_160.toInt ≤ en.toInt) := ch157
                      refine pb_eq (pc' := 150) (lo' := [(2, .int sd), (3, .int j), (0, .ref h), (1, .ref sp)]) (rest' := [.int r_159]) (ws' := [(uv, .inl (G.2.1, 24, .inl g1)), (ug, .inl (G.2.2.1, 200, .inl g2)), (ui, .inl (G.2.2.2.1, 200, .inr (.inl g3))), (sp, .inr (3, [.ref tn, .ref tz, .ref tb, .ref tg, .int c])), (tn, .inl (G.2.1, 384, .inl tfn)), (tz, .inl (G.2.2.1, 16, .inl tfz)), (h, .inr (8, [.ref ui, .ref ug, .ref uv, .ref tb, .int i140, .int f_161, .int bg, .int at_160, .int en, .int v, .int io, .int h1_, .int h2_])), (tb, .inl (G.2.1, 12000, .inl tfb))]) ?_
                      refine pb_if_eq (pc := 150) (tgt := 166) d_Markup_readElement_150 (by decide) (fun w165 => ?_) (fun w165 => ?_)
                      · have tw165 : r_159.toInt = 0 := (ti_eq rfl (by decide)).mp w165
                        refine pb_iconst (pc := 166) (v := 0) d_Markup_readElement_166 (by decide) ?_
                        exact pb_iret (pc := 167) hQ d_Markup_readElement_167 rfl rfl (0, i140, at_160, f_161, v, h1_, h2_, g1, g2, g3) ⟨rfl, (by (try dsimp only); first | omega | assumption | decide), (by (try dsimp only); first | omega | assumption | decide), (by (try dsimp only); first | omega | assumption | decide), (by (try dsimp only); first | omega | assumption | decide), (by (try dsimp only); first | omega | assumption | decide), F_g1⟩ [6, 7, 0, 1, 2, 3, 4, 5] (by decide) rfl rfl (by decide) (by decide)
                      · have tw165 : ¬ r_159.toInt = 0 := fun z9 => w165 ((ti_eq rfl (by decide)).mpr z9)
                        refine pb_aload_n (pc := 153) d_Markup_readElement_153 2 rfl rfl ?_
                        refine pb_ldcS (pc := 154) (k := 16) d_Markup_readElement_154 rfl (by decide) ?_
                        refine pb_callV (pc := 156) (qb := 6) (ci := 8) (nA := 1) (rest := []) (wr := [(uv, .inl (G.2.1, 24, .inl g1)), (ug, .inl (G.2.2.1, 200, .inl g2)), (ui, .inl (G.2.2.2.1, 200, .inr (.inl g3))), (sp, .inr (3, [.ref tn, .ref tz, .ref tb, .ref tg, .int c])), (tn, .inl (G.2.1, 384, .inl tfn)), (tz, .inl (G.2.2.1, 16, .inl tfz))]) d_Markup_readElement_156 (g_Mu_readClose hl G h ui ug uv tb i140 f_161 bg at_160 en v io h1_ h2_ tfb 16 (by first | omega | assumption | decide) (by first | omega | assumption | decide) (by first | omega | assumption | decide) (by first | assumption | decide | omega) F_tfb) rfl rfl [6, 7] [0, 1, 2, 3, 4, 5] (by decide) rfl rfl rfl (by decide) (by decide) k_892 rfl k_125 k_889 k_891 k_47 (by decide +kernel) (by decide) rfl rfl (Nat.le_of_ble_eq_true rfl) (by decide) (fun v9 u167 ch166 => ?_)
                        obtain ⟨r_168, at_169, f_170⟩ := u167
                        obtain ⟨ech166, ch166⟩ := ch166
                        have ech166 : v9 = some (.int r_168) := ech166
                        subst ech166
                        obtain ⟨fh171, fh172, fh173⟩ : (r_168.toInt = 0 ∨ r_168.toInt = 1) ∧ (at_160.toInt ≤ at_169.toInt) ∧ (at_169.toInt ≤ en.toInt) := ch166
                        refine pb_eq (pc' := 159) (lo' := [(2, .int sd), (3, .int j), (0, .ref h), (1, .ref sp)]) (rest' := [.int r_168]) (ws' := [(uv, .inl (G.2.1, 24, .inl g1)), (ug, .inl (G.2.2.1, 200, .inl g2)), (ui, .inl (G.2.2.2.1, 200, .inr (.inl g3))), (sp, .inr (3, [.ref tn, .ref tz, .ref tb, .ref tg, .int c])), (tn, .inl (G.2.1, 384, .inl tfn)), (tz, .inl (G.2.2.1, 16, .inl tfz)), (h, .inr (8, [.ref ui, .ref ug, .ref uv, .ref tb, .int i140, .int f_170, .int bg, .int at_169, .int en, .int v, .int io, .int h1_, .int h2_])), (tb, .inl (G.2.1, 12000, .inl tfb))]) ?_
                        refine pb_if_eq (pc := 159) (tgt := 166) d_Markup_readElement_159 (by decide) (fun w174 => ?_) (fun w174 => ?_)
                        · have tw174 : r_168.toInt = 0 := (ti_eq rfl (by decide)).mp w174
                          refine pb_iconst (pc := 166) (v := 0) d_Markup_readElement_166 (by decide) ?_
                          exact pb_iret (pc := 167) hQ d_Markup_readElement_167 rfl rfl (0, i140, at_169, f_170, v, h1_, h2_, g1, g2, g3) ⟨rfl, (by (try dsimp only); first | omega | assumption | decide), (by (try dsimp only); first | omega | assumption | decide), (by (try dsimp only); first | omega | assumption | decide), (by (try dsimp only); first | omega | assumption | decide), (by (try dsimp only); first | omega | assumption | decide), F_g1⟩ [6, 7, 0, 1, 2, 3, 4, 5] (by decide) rfl rfl (by decide) (by decide)
                        · have tw174 : ¬ r_168.toInt = 0 := fun z9 => w174 ((ti_eq rfl (by decide)).mpr z9)
                          refine pb_iconst (pc := 162) (v := 1) d_Markup_readElement_162 (by decide) ?_
                          refine pb_goto (pc := 163) (tgt := 167) d_Markup_readElement_163 (by decide) ?_
                          exact pb_iret (pc := 167) hQ d_Markup_readElement_167 rfl rfl (1, i140, at_169, f_170, v, h1_, h2_, g1, g2, g3) ⟨rfl, (by (try dsimp only); first | omega | assumption | decide), (by (try dsimp only); first | omega | assumption | decide), (by (try dsimp only); first | omega | assumption | decide), (by (try dsimp only); first | omega | assumption | decide), (by (try dsimp only); first | omega | assumption | decide), F_g1⟩ [6, 7, 0, 1, 2, 3, 4, 5] (by decide) rfl rfl (by decide) (by decide)
                  · have tw147 : r_143.toInt = 47 := (ti_eq rfl (by decide)).mp w147
                    refine pb_aload_n (pc := 130) d_Markup_readElement_130 2 rfl rfl ?_
                    refine pb_ldcS (pc := 131) (k := 5) d_Markup_readElement_131 rfl (by decide) ?_
                    refine pb_callV (pc := 133) (qb := 6) (ci := 8) (nA := 1) (rest := []) (wr := [(uv, .inl (G.2.1, 24, .inl g1)), (ug, .inl (G.2.2.1, 200, .inl g2)), (ui, .inl (G.2.2.2.1, 200, .inr (.inl g3))), (sp, .inr (3, [.ref tn, .ref tz, .ref tb, .ref tg, .int c])), (tn, .inl (G.2.1, 384, .inl tfn)), (tz, .inl (G.2.2.1, 16, .inl tfz))]) d_Markup_readElement_133 (g_Mu_takeText hl G h ui ug uv tb i140 f bg a en v io h1_ h2_ tfb 5 (by first | omega | assumption | decide) (by first | omega | assumption | decide) (by first | omega | assumption | decide) (by first | assumption | decide | omega) F_tfb) rfl rfl [6, 7] [0, 1, 2, 3, 4, 5] (by decide) rfl rfl rfl (by decide) (by decide) k_825 rfl k_125 k_822 k_824 k_35 (by decide +kernel) (by decide) rfl rfl (Nat.le_of_ble_eq_true rfl) (by decide) (fun v9 u176 ch175 => ?_)
                    obtain ⟨r_177, at_178, f_179⟩ := u176
                    obtain ⟨ech175, ch175⟩ := ch175
                    have ech175 : v9 = some (.int r_177) := ech175
                    subst ech175
                    obtain ⟨fh180, fh181, fh182⟩ : (r_177.toInt = 0 ∨ r_177.toInt = 1) ∧ (a.toInt ≤ at_178.toInt) ∧ (at_178.toInt ≤ en.toInt) := ch175
                    refine pb_eq (pc' := 136) (lo' := [(2, .int sd), (3, .int j), (0, .ref h), (1, .ref sp)]) (rest' := [.int r_177]) (ws' := [(uv, .inl (G.2.1, 24, .inl g1)), (ug, .inl (G.2.2.1, 200, .inl g2)), (ui, .inl (G.2.2.2.1, 200, .inr (.inl g3))), (sp, .inr (3, [.ref tn, .ref tz, .ref tb, .ref tg, .int c])), (tn, .inl (G.2.1, 384, .inl tfn)), (tz, .inl (G.2.2.1, 16, .inl tfz)), (h, .inr (8, [.ref ui, .ref ug, .ref uv, .ref tb, .int i140, .int f_179, .int bg, .int at_178, .int en, .int v, .int io, .int h1_, .int h2_])), (tb, .inl (G.2.1, 12000, .inl tfb))]) ?_
                    exact pb_iret (pc := 136) hQ d_Markup_readElement_136 rfl (nar_b (by omega)) (r_177, i140, at_178, f_179, v, h1_, h2_, g1, g2, g3) ⟨rfl, (by (try dsimp only); first | omega | assumption | decide), (by (try dsimp only); first | omega | assumption | decide), (by (try dsimp only); first | omega | assumption | decide), (by (try dsimp only); first | omega | assumption | decide), (by (try dsimp only); first | omega | assumption | decide), F_g1⟩ [6, 7, 0, 1, 2, 3, 4, 5] (by decide) rfl rfl (by decide) (by decide)
                · have tw139 : h2_.toInt = 0 := (ti_eq rfl (by decide)).mp w139
                  refine pb_aload_n (pc := 101) d_Markup_readElement_101 2 rfl rfl ?_
                  refine pb_aload_n (pc := 102) d_Markup_readElement_102 2 rfl rfl ?_
                  refine pb_get (pc := 103) d_Markup_readElement_103 6 7 rfl rfl (by decide) in_Markup k_326 rfl ?_
                  refine pb_callV (pc := 106) (qb := 6) (ci := 8) (nA := 1) (rest := []) (wr := [(uv, .inl (G.2.1, 24, .inl g1)), (ug, .inl (G.2.2.1, 200, .inl g2)), (ui, .inl (G.2.2.2.1, 200, .inr (.inl g3))), (sp, .inr (3, [.ref tn, .ref tz, .ref tb, .ref tg, .int c])), (tn, .inl (G.2.1, 384, .inl tfn)), (tz, .inl (G.2.2.1, 16, .inl tfz)), (tb, .inl (G.2.1, 12000, .inl tfb))]) d_Markup_readElement_106 (g_Mu_fail hl G h ui ug uv tb ct f bg a en v io h1_ h2_ a) rfl rfl [6] [0, 1, 2, 3, 4, 5, 7] (by decide) rfl rfl rfl (by decide) (by decide) k_831 rfl k_125 k_828 k_830 k_36 (by decide +kernel) (by decide) rfl rfl (Nat.le_of_ble_eq_true rfl) (by decide) (fun v9 u184 ch183 => ?_)
                  obtain ⟨f_185, rfl⟩ : ∃ z9, z9 = u184 := ⟨_, rfl⟩
                  have ech183 := ch183
                  have ech183 : v9 = some (.int 0) := ech183
                  subst ech183
                  refine pb_eq (pc' := 109) (lo' := [(2, .int sd), (3, .int j), (0, .ref h), (1, .ref sp)]) (rest' := [.int 0]) (ws' := [(uv, .inl (G.2.1, 24, .inl g1)), (ug, .inl (G.2.2.1, 200, .inl g2)), (ui, .inl (G.2.2.2.1, 200, .inr (.inl g3))), (sp, .inr (3, [.ref tn, .ref tz, .ref tb, .ref tg, .int c])), (tn, .inl (G.2.1, 384, .inl tfn)), (tz, .inl (G.2.2.1, 16, .inl tfz)), (tb, .inl (G.2.1, 12000, .inl tfb)), (h, .inr (8, [.ref ui, .ref ug, .ref uv, .ref tb, .int ct, .int f_185, .int bg, .int a, .int en, .int v, .int io, .int h1_, .int h2_]))]) ?_
                  exact pb_iret (pc := 109) hQ d_Markup_readElement_109 rfl rfl (0, ct, a, f_185, v, h1_, h2_, g1, g2, g3) ⟨rfl, (by (try dsimp only); first | omega | assumption | decide), (by (try dsimp only); first | omega | assumption | decide), (by (try dsimp only); first | omega | assumption | decide), (by (try dsimp only); first | omega | assumption | decide), (by (try dsimp only); first | omega | assumption | decide), F_g1⟩ [7, 6, 0, 1, 2, 3, 4, 5] (by decide) rfl rfl (by decide) (by decide)
            · have tw134 : ¬ r_130.toInt = 62 := fun z9 => w134 ((ti_eq rfl (by decide)).mpr z9)
              refine pb_iload_n (pc := 53) d_Markup_readElement_53 0 rfl rfl ?_
              refine pb_if_ne (pc := 54) (tgt := 66) d_Markup_readElement_54 (by decide) (fun w186 => ?_) (fun w186 => ?_)
              · have tw186 : ¬ sd.toInt = 0 := fun z9 => w186 ((ti_eq rfl (by decide)).mpr z9)
                refine pb_aload_n (pc := 66) d_Markup_readElement_66 2 rfl rfl ?_
                refine pb_aload_n (pc := 67) d_Markup_readElement_67 3 rfl rfl ?_
                refine pb_callV (pc := 68) (qb := 6) (ci := 8) (nA := 1) (rest := []) (wr := []) d_Markup_readElement_68 (g_Mu_readAttribute hl G h ui ug uv ct f bg a en v io h1_ h2_ tfb g1 g2 g3 sp tn tz tb tg c tfn tfz tfg (by first | omega | assumption | decide) (by first | omega | assumption | decide) (by first | omega | assumption | decide) (by first | omega | assumption | decide) (by first | omega | assumption | decide) (by first | assumption | decide | omega) F_tfb F_g1 F_tfn) rfl rfl [6, 7, 0, 1, 2, 3, 4, 5] [] (by decide) rfl rfl rfl (by decide) (by decide) k_848 rfl k_125 k_845 k_847 k_39 (by decide +kernel) (by decide) rfl rfl (Nat.le_of_ble_eq_true rfl) (by decide) (fun v9 u188 ch187 => ?_)
                obtain ⟨r_189, at_190, f_191, vs_192, hi_193, ht_194, vf_195, gf_196, df_197⟩ := u188
                obtain ⟨ech187, ch187⟩ := ch187
                have ech187 : v9 = some (.int r_189) := ech187
                subst ech187
                obtain ⟨fh198, fh199, fh200, fh201, fh202⟩ : (r_189.toInt = 0 ∨ r_189.toInt = 1) ∧ (a.toInt ≤ at_190.toInt) ∧ (at_190.toInt ≤ en.toInt) ∧ (hi_193.toInt ≠ 0 → h1_.toInt ≠ 0 ∨ ct.toInt < 200) ∧ (sb_Fit vf_195) := ch187
                refine pb_eq (pc' := 71) (lo' := [(2, .int sd), (3, .int j), (0, .ref h), (1, .ref sp)]) (rest' := [.int r_189]) (ws' := [(h, .inr (8, [.ref ui, .ref ug, .ref uv, .ref tb, .int ct, .int f_191, .int bg, .int at_190, .int en, .int vs_192, .int io, .int hi_193, .int ht_194])), (tb, .inl (G.2.1, 12000, .inl tfb)), (uv, .inl (G.2.1, 24, .inl vf_195)), (ug, .inl (G.2.2.1, 200, .inl gf_196)), (ui, .inl (G.2.2.2.1, 200, .inr (.inl df_197))), (sp, .inr (3, [.ref tn, .ref tz, .ref tb, .ref tg, .int c])), (tn, .inl (G.2.1, 384, .inl tfn)), (tz, .inl (G.2.2.1, 16, .inl tfz))]) ?_
                refine pb_if_ne (pc := 71) (tgt := 76) d_Markup_readElement_71 (by decide) (fun w203 => ?_) (fun w203 => ?_)
                · have tw203 : ¬ r_189.toInt = 0 := fun z9 => w203 ((ti_eq rfl (by decide)).mpr z9)
                  refine pb_aload_n (pc := 76) d_Markup_readElement_76 2 rfl rfl ?_
                  refine pb_callV (pc := 77) (qb := 0) (ci := 8) (nA := 0) (rest := []) (wr := [(uv, .inl (G.2.1, 24, .inl vf_195)), (ug, .inl (G.2.2.1, 200, .inl gf_196)), (ui, .inl (G.2.2.2.1, 200, .inr (.inl df_197))), (sp, .inr (3, [.ref tn, .ref tz, .ref tb, .ref tg, .int c])), (tn, .inl (G.2.1, 384, .inl tfn)), (tz, .inl (G.2.2.1, 16, .inl tfz))]) d_Markup_readElement_77 (g_Mu_skipSpace hl G h ui ug uv tb ct f_191 bg at_190 en vs_192 io hi_193 ht_194 tfb (by first | omega | assumption | decide) (by first | omega | assumption | decide) (by first | omega | assumption | decide) F_tfb) rfl rfl [0, 1] [2, 3, 4, 5, 6, 7] (by decide) rfl rfl rfl (by decide) (by decide) k_809 rfl k_125 k_806 k_808 k_32 (by decide +kernel) (by decide) rfl rfl (Nat.le_of_ble_eq_true rfl) (by decide) (fun v9 u205 ch204 => ?_)
                  obtain ⟨r_206, at_207⟩ := u205
                  obtain ⟨ech204, ch204⟩ := ch204
                  have ech204 : v9 = some (.int r_206) := ech204
                  subst ech204
                  obtain ⟨fh208, fh209, fh210⟩ : (r_206.toInt = 0 ∨ r_206.toInt = 1) ∧ (at_190.toInt ≤ at_207.toInt) ∧ (at_207.toInt ≤ en.toInt) := ch204
                  refine pb_eq (pc' := 80) (lo' := [(2, .int sd), (3, .int j), (0, .ref h), (1, .ref sp)]) (rest' := [.int r_206]) (ws' := [(uv, .inl (G.2.1, 24, .inl vf_195)), (ug, .inl (G.2.2.1, 200, .inl gf_196)), (ui, .inl (G.2.2.2.1, 200, .inr (.inl df_197))), (sp, .inr (3, [.ref tn, .ref tz, .ref tb, .ref tg, .int c])), (tn, .inl (G.2.1, 384, .inl tfn)), (tz, .inl (G.2.2.1, 16, .inl tfz)), (h, .inr (8, [.ref ui, .ref ug, .ref uv, .ref tb, .int ct, .int f_191, .int bg, .int at_207, .int en, .int vs_192, .int io, .int hi_193, .int ht_194])), (tb, .inl (G.2.1, 12000, .inl tfb))]) ?_
                  refine pb_istore_n (pc := 80) (lo' := [(2, .int r_206), (3, .int j), (0, .ref h), (1, .ref sp)]) d_Markup_readElement_80 rfl (by decide) rfl ?_
                  refine pb_iincN (pc := 81) (c := 1) d_Markup_readElement_81 1 rfl (by decide) (by decide) (fun i211 ei211 => ?_)
                  have ti211 : i211.toInt = j.toInt + 1 := t2_add ei211 rfl (by decide) (by first | omega | (have r90 := ti_rng i211; have r91 := ti_rng r_206; omega))
                  refine pb_eq (pc' := 84) (lo' := [(3, .int i211), (2, .int r_206), (0, .ref h), (1, .ref sp)]) (rest' := []) (ws' := [(uv, .inl (G.2.1, 24, .inl vf_195)), (ug, .inl (G.2.2.1, 200, .inl gf_196)), (ui, .inl (G.2.2.2.1, 200, .inr (.inl df_197))), (sp, .inr (3, [.ref tn, .ref tz, .ref tb, .ref tg, .int c])), (tn, .inl (G.2.1, 384, .inl tfn)), (tz, .inl (G.2.2.1, 16, .inl tfz)), (h, .inr (8, [.ref ui, .ref ug, .ref uv, .ref tb, .int ct, .int f_191, .int bg, .int at_207, .int en, .int vs_192, .int io, .int hi_193, .int ht_194])), (tb, .inl (G.2.1, 12000, .inl tfb))]) ?_
                  refine pb_goto (pc := 84) (tgt := 28) d_Markup_readElement_84 (by decide) ?_
                  refine pb_re (ws' := [(h, .inr (8, [.ref ui, .ref ug, .ref uv, .ref tb, .int ct, .int f_191, .int bg, .int at_207, .int en, .int vs_192, .int io, .int hi_193, .int ht_194])), (tb, .inl (G.2.1, 12000, .inl tfb)), (uv, .inl (G.2.1, 24, .inl vf_195)), (ug, .inl (G.2.2.1, 200, .inl gf_196)), (ui, .inl (G.2.2.2.1, 200, .inr (.inl df_197))), (sp, .inr (3, [.ref tn, .ref tz, .ref tb, .ref tg, .int c])), (tn, .inl (G.2.1, 384, .inl tfn)), (tz, .inl (G.2.2.1, 16, .inl tfz))]) (lo' := [(2, .int r_206), (3, .int i211), (0, .ref h), (1, .ref sp)]) [6, 7, 0, 1, 2, 3, 4, 5] [1, 0, 2, 3] (by decide) rfl rfl rfl ?_
                  exact ih28 r_206 i211 at_207 f_191 vs_192 hi_193 ht_194 vf_195 gf_196 df_197 fh202 (by first | omega | assumption | decide) (by first | omega | assumption | decide) (by first | omega | assumption | decide) (by first | omega | assumption | decide) (by omega)
                · have tw203 : r_189.toInt = 0 := (ti_eq rfl (by decide)).mp w203
                  refine pb_iconst (pc := 74) (v := 0) d_Markup_readElement_74 (by decide) ?_
                  exact pb_iret (pc := 75) hQ d_Markup_readElement_75 rfl rfl (0, ct, at_190, f_191, vs_192, hi_193, ht_194, vf_195, gf_196, df_197) ⟨rfl, (by (try dsimp only); first | omega | assumption | decide), (by (try dsimp only); first | omega | assumption | decide), (by (try dsimp only); first | omega | assumption | decide), (by (try dsimp only); first | omega | assumption | decide), (by (try dsimp only); first | omega | assumption | decide), fh202⟩ [0, 1, 2, 3, 4, 5, 6, 7] (by decide) rfl rfl (by decide) (by decide)
              · have tw186 : sd.toInt = 0 := (ti_eq rfl (by decide)).mp w186
                refine pb_aload_n (pc := 57) d_Markup_readElement_57 2 rfl rfl ?_
                refine pb_aload_n (pc := 58) d_Markup_readElement_58 2 rfl rfl ?_
                refine pb_get (pc := 59) d_Markup_readElement_59 6 7 rfl rfl (by decide) in_Markup k_326 rfl ?_
                refine pb_callV (pc := 62) (qb := 6) (ci := 8) (nA := 1) (rest := []) (wr := [(uv, .inl (G.2.1, 24, .inl g1)), (ug, .inl (G.2.2.1, 200, .inl g2)), (ui, .inl (G.2.2.2.1, 200, .inr (.inl g3))), (sp, .inr (3, [.ref tn, .ref tz, .ref tb, .ref tg, .int c])), (tn, .inl (G.2.1, 384, .inl tfn)), (tz, .inl (G.2.2.1, 16, .inl tfz)), (tb, .inl (G.2.1, 12000, .inl tfb))]) d_Markup_readElement_62 (g_Mu_fail hl G h ui ug uv tb ct f bg a en v io h1_ h2_ a) rfl rfl [6] [0, 1, 2, 3, 4, 5, 7] (by decide) rfl rfl rfl (by decide) (by decide) k_831 rfl k_125 k_828 k_830 k_36 (by decide +kernel) (by decide) rfl rfl (Nat.le_of_ble_eq_true rfl) (by decide) (fun v9 u213 ch212 => ?_)
                obtain ⟨f_214, rfl⟩ : ∃ z9, z9 = u213 := ⟨_, rfl⟩
                have ech212 := ch212
                have ech212 : v9 = some (.int 0) := ech212
                subst ech212
                refine pb_eq (pc' := 65) (lo' := [(2, .int sd), (3, .int j), (0, .ref h), (1, .ref sp)]) (rest' := [.int 0]) (ws' := [(uv, .inl (G.2.1, 24, .inl g1)), (ug, .inl (G.2.2.1, 200, .inl g2)), (ui, .inl (G.2.2.2.1, 200, .inr (.inl g3))), (sp, .inr (3, [.ref tn, .ref tz, .ref tb, .ref tg, .int c])), (tn, .inl (G.2.1, 384, .inl tfn)), (tz, .inl (G.2.2.1, 16, .inl tfz)), (tb, .inl (G.2.1, 12000, .inl tfb)), (h, .inr (8, [.ref ui, .ref ug, .ref uv, .ref tb, .int ct, .int f_214, .int bg, .int a, .int en, .int v, .int io, .int h1_, .int h2_]))]) ?_
                exact pb_iret (pc := 65) hQ d_Markup_readElement_65 rfl rfl (0, ct, a, f_214, v, h1_, h2_, g1, g2, g3) ⟨rfl, (by (try dsimp only); first | omega | assumption | decide), (by (try dsimp only); first | omega | assumption | decide), (by (try dsimp only); first | omega | assumption | decide), (by (try dsimp only); first | omega | assumption | decide), (by (try dsimp only); first | omega | assumption | decide), F_g1⟩ [7, 6, 0, 1, 2, 3, 4, 5] (by decide) rfl rfl (by decide) (by decide)
    refine pb_re (ws' := [(h, .inr (8, [.ref ui, .ref ug, .ref uv, .ref tb, .int ct, .int f_5, .int bg, .int at_13, .int en, .int vs, .int io, .int 0, .int 0])), (tb, .inl (G.2.1, 12000, .inl tfb)), (uv, .inl (G.2.1, 24, .inl vf)), (ug, .inl (G.2.2.1, 200, .inl gf)), (ui, .inl (G.2.2.2.1, 200, .inr (.inl df))), (sp, .inr (3, [.ref tn, .ref tz, .ref tb, .ref tg, .int c])), (tn, .inl (G.2.1, 384, .inl tfn)), (tz, .inl (G.2.2.1, 16, .inl tfz))]) (lo' := [(2, .int r_12), (3, .int 0), (0, .ref h), (1, .ref sp)]) [6, 7, 0, 1, 2, 3, 4, 5] [1, 0, 2, 3] (by decide) rfl rfl rfl ?_
    exact hL28_17 _ r_12 0 at_13 f_5 vs 0 0 vf gf df F_vf (by first | omega | assumption | decide) (by first | omega | assumption | decide) (by first | omega | assumption | decide) (by first | omega | assumption | decide) (Nat.lt_succ_self _)
  · have tw9 : r_3.toInt = 0 := (ti_eq rfl (by decide)).mp w9
    refine pb_iconst (pc := 9) (v := 0) d_Markup_readElement_9 (by decide) ?_
    exact pb_iret (pc := 10) hQ d_Markup_readElement_10 rfl rfl (0, ct, at_4, f_5, vs, hi, ht, vf, gf, df) ⟨rfl, (by (try dsimp only); first | omega | assumption | decide), (by (try dsimp only); first | omega | assumption | decide), (by (try dsimp only); first | omega | assumption | decide), (by (try dsimp only); first | omega | assumption | decide), (by (try dsimp only); first | omega | assumption | decide), F_vf⟩ [6, 7, 0, 1, 2, 3, 4, 5] (by decide) rfl rfl (by decide) (by decide)
