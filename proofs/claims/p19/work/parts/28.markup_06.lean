/-! ROWS OF NUMBERS -/
theorem omg_a68b14df83 {x0 : Int} {x1 : Int} {x2 : Int} (a0 : (x0 = x1)) (a1 : (¬ (x0 = x2))) : (¬ (x1 = x2)) := by omega
theorem omg_69b2ede79c {x0 : Int} {x1 : Int} {x2 : Int} {x3 : Int} {x4 : Int} (a0 : ((0 : Int) ≤ x0)) (a1 : (x1 ≤ (12000 : Int))) (a2 : (x2 = (0 : Int))) (a3 : (x3 ≤ (x4 - x0))) (a4 : ((x4 + x2) < x1)) (a5 : ((24 : Int) ≤ x3)) : (((-(2147483648 : Int)) ≤ (x3 + (1 : Int))) ∧ ((x3 + (1 : Int)) < (2147483648 : Int))) := by omega
theorem omg_9ca3507698 {x0 : Int} {x1 : Int} {x2 : Int} {x3 : Int} (a0 : (x0 = x1)) (a1 : (x0 = x2)) (a2 : (x3 = x1)) (a3 : (¬ (x3 < (32 : Int)))) (a4 : (¬ ((126 : Int) < x3))) (a5 : (¬ (x3 = (60 : Int)))) : (¬ ((x2 < (32 : Int)) ∨ (((126 : Int) < x2) ∨ (x2 = (60 : Int))))) := by omega
theorem omg_92b22c8c22 {x0 : Int} {x1 : Int} {x2 : Int} {x3 : Int} (a0 : ((0 : Int) ≤ x0)) (a1 : (x0 ≤ x1)) (a2 : (x2 = (x1 + (1 : Int)))) (a3 : (x2 ≤ x3)) : ((0 : Int) ≤ x3) := by omega
theorem omg_57e731fb32 {x0 : Int} {x1 : Int} {x2 : Int} {x3 : Int} {x4 : Int} {x5 : Int} (a0 : (x0 = x1)) (a1 : (((x2 < (0 : Int)) ∧ ((0 : Int) ≤ x3)) ∨ ((¬ (x2 < (0 : Int))) ∧ (x3 = x0)))) (a2 : (¬ (x2 < (0 : Int)))) (a3 : (((x4 = (0 : Int)) ∧ ((0 : Int) ≤ x5)) ∨ ((¬ (x4 = (0 : Int))) ∧ (x5 = x3)))) (a4 : (¬ (x4 = (0 : Int)))) : (x5 = x1) := by omega
theorem d_Markup_readValue_0 : decode prog_7_method_12_code 0 = .ok (.aload_n 0, 1) := by decide +kernel
theorem d_Markup_readValue_1 : decode prog_7_method_12_code 1 = .ok (.iconst 0, 1) := by decide +kernel
theorem d_Markup_readValue_2 : decode prog_7_method_12_code 2 = .ok (.putfield 135, 3) := by decide +kernel
theorem k_328 : (Jvm.Cond.fieldLink "PackageBook$Markup" (135 : Nat) "PackageBook$Markup" "valueSize" "I") ∈ uW := uW_of 328 (by decide +kernel) (by decide +kernel)
theorem d_Markup_readValue_5 : decode prog_7_method_12_code 5 = .ok (.aload_n 0, 1) := by decide +kernel
theorem d_Markup_readValue_6 : decode prog_7_method_12_code 6 = .ok (.getfield 51, 3) := by decide +kernel
theorem d_Markup_readValue_9 : decode prog_7_method_12_code 9 = .ok (.aload_n 0, 1) := by decide +kernel
theorem d_Markup_readValue_10 : decode prog_7_method_12_code 10 = .ok (.getfield 48, 3) := by decide +kernel
theorem d_Markup_readValue_13 : decode prog_7_method_12_code 13 = .ok (.isub, 1) := by decide +kernel
theorem d_Markup_readValue_14 : decode prog_7_method_12_code 14 = .ok (.istore_n 2, 1) := by decide +kernel
theorem d_Markup_readValue_15 : decode prog_7_method_12_code 15 = .ok (.iload_n 2, 1) := by decide +kernel
theorem d_Markup_readValue_16 : decode prog_7_method_12_code 16 = .ok (.ifCond .lt 134, 3) := by decide +kernel
theorem d_Markup_readValue_150 : decode prog_7_method_12_code 150 = .ok (.iconst 1, 1) := by decide +kernel
theorem d_Markup_readValue_151 : decode prog_7_method_12_code 151 = .ok (.ireturn, 1) := by decide +kernel
theorem d_Markup_readValue_19 : decode prog_7_method_12_code 19 = .ok (.aload_n 0, 1) := by decide +kernel
theorem d_Markup_readValue_20 : decode prog_7_method_12_code 20 = .ok (.iconst 0, 1) := by decide +kernel
theorem d_Markup_readValue_21 : decode prog_7_method_12_code 21 = .ok (.invokevirtual 80, 3) := by decide +kernel
theorem d_Markup_readValue_24 : decode prog_7_method_12_code 24 = .ok (.iload_n 1, 1) := by decide +kernel
theorem d_Markup_readValue_25 : decode prog_7_method_12_code 25 = .ok (.if_icmp .eq 125, 3) := by decide +kernel
theorem d_Markup_readValue_28 : decode prog_7_method_12_code 28 = .ok (.aload_n 0, 1) := by decide +kernel
theorem d_Markup_readValue_29 : decode prog_7_method_12_code 29 = .ok (.iconst 0, 1) := by decide +kernel
theorem d_Markup_readValue_30 : decode prog_7_method_12_code 30 = .ok (.invokevirtual 80, 3) := by decide +kernel
theorem d_Markup_readValue_33 : decode prog_7_method_12_code 33 = .ok (.istore_n 3, 1) := by decide +kernel
theorem d_Markup_readValue_34 : decode prog_7_method_12_code 34 = .ok (.iload_n 3, 1) := by decide +kernel
theorem d_Markup_readValue_35 : decode prog_7_method_12_code 35 = .ok (.bipush 32, 2) := by decide +kernel
theorem d_Markup_readValue_37 : decode prog_7_method_12_code 37 = .ok (.if_icmp .lt 15, 3) := by decide +kernel
theorem d_Markup_readValue_52 : decode prog_7_method_12_code 52 = .ok (.aload_n 0, 1) := by decide +kernel
theorem d_Markup_readValue_53 : decode prog_7_method_12_code 53 = .ok (.aload_n 0, 1) := by decide +kernel
theorem d_Markup_readValue_54 : decode prog_7_method_12_code 54 = .ok (.getfield 48, 3) := by decide +kernel
theorem d_Markup_readValue_57 : decode prog_7_method_12_code 57 = .ok (.invokevirtual 96, 3) := by decide +kernel
theorem d_Markup_readValue_60 : decode prog_7_method_12_code 60 = .ok (.ireturn, 1) := by decide +kernel
theorem d_Markup_readValue_40 : decode prog_7_method_12_code 40 = .ok (.iload_n 3, 1) := by decide +kernel
theorem d_Markup_readValue_41 : decode prog_7_method_12_code 41 = .ok (.bipush 126, 2) := by decide +kernel
theorem d_Markup_readValue_43 : decode prog_7_method_12_code 43 = .ok (.if_icmp .gt 9, 3) := by decide +kernel
theorem d_Markup_readValue_46 : decode prog_7_method_12_code 46 = .ok (.iload_n 3, 1) := by decide +kernel
theorem d_Markup_readValue_47 : decode prog_7_method_12_code 47 = .ok (.bipush 60, 2) := by decide +kernel
theorem d_Markup_readValue_49 : decode prog_7_method_12_code 49 = .ok (.if_icmp .ne 12, 3) := by decide +kernel
theorem d_Markup_readValue_61 : decode prog_7_method_12_code 61 = .ok (.aload_n 0, 1) := by decide +kernel
theorem d_Markup_readValue_62 : decode prog_7_method_12_code 62 = .ok (.dup, 1) := by decide +kernel
theorem d_Markup_readValue_63 : decode prog_7_method_12_code 63 = .ok (.getfield 48, 3) := by decide +kernel
theorem d_Markup_readValue_66 : decode prog_7_method_12_code 66 = .ok (.iconst 1, 1) := by decide +kernel
theorem d_Markup_readValue_67 : decode prog_7_method_12_code 67 = .ok (.iadd, 1) := by decide +kernel
theorem d_Markup_readValue_68 : decode prog_7_method_12_code 68 = .ok (.putfield 48, 3) := by decide +kernel
theorem d_Markup_readValue_114 : decode prog_7_method_12_code 114 = .ok (.aload_n 0, 1) := by decide +kernel
theorem d_Markup_readValue_115 : decode prog_7_method_12_code 115 = .ok (.getfield 135, 3) := by decide +kernel
theorem d_Markup_readValue_118 : decode prog_7_method_12_code 118 = .ok (.bipush 24, 2) := by decide +kernel
theorem d_Markup_readValue_120 : decode prog_7_method_12_code 120 = .ok (.if_icmp .ge 14, 3) := by decide +kernel
theorem d_Markup_readValue_134 : decode prog_7_method_12_code 134 = .ok (.aload_n 0, 1) := by decide +kernel
theorem d_Markup_readValue_135 : decode prog_7_method_12_code 135 = .ok (.dup, 1) := by decide +kernel
theorem d_Markup_readValue_136 : decode prog_7_method_12_code 136 = .ok (.getfield 135, 3) := by decide +kernel
theorem d_Markup_readValue_139 : decode prog_7_method_12_code 139 = .ok (.iconst 1, 1) := by decide +kernel
theorem d_Markup_readValue_140 : decode prog_7_method_12_code 140 = .ok (.iadd, 1) := by decide +kernel
theorem d_Markup_readValue_141 : decode prog_7_method_12_code 141 = .ok (.putfield 135, 3) := by decide +kernel
theorem d_Markup_readValue_144 : decode prog_7_method_12_code 144 = .ok (.iinc 2 (-1), 3) := by decide +kernel
theorem d_Markup_readValue_147 : decode prog_7_method_12_code 147 = .ok (.goto (-132), 3) := by decide +kernel
theorem d_Markup_readValue_123 : decode prog_7_method_12_code 123 = .ok (.aload_n 0, 1) := by decide +kernel
theorem d_Markup_readValue_124 : decode prog_7_method_12_code 124 = .ok (.getfield 19, 3) := by decide +kernel
theorem d_Markup_readValue_127 : decode prog_7_method_12_code 127 = .ok (.aload_n 0, 1) := by decide +kernel
theorem d_Markup_readValue_128 : decode prog_7_method_12_code 128 = .ok (.getfield 135, 3) := by decide +kernel
theorem d_Markup_readValue_131 : decode prog_7_method_12_code 131 = .ok (.iload_n 3, 1) := by decide +kernel
theorem d_Markup_readValue_132 : decode prog_7_method_12_code 132 = .ok (.i2b, 1) := by decide +kernel
theorem d_Markup_readValue_133 : decode prog_7_method_12_code 133 = .ok (.bastore, 1) := by decide +kernel
theorem d_Markup_readValue_71 : decode prog_7_method_12_code 71 = .ok (.iload_n 3, 1) := by decide +kernel
theorem d_Markup_readValue_72 : decode prog_7_method_12_code 72 = .ok (.bipush 38, 2) := by decide +kernel
theorem d_Markup_readValue_74 : decode prog_7_method_12_code 74 = .ok (.if_icmp .ne 40, 3) := by decide +kernel
theorem d_Markup_readValue_77 : decode prog_7_method_12_code 77 = .ok (.aload_n 0, 1) := by decide +kernel
theorem d_Markup_readValue_78 : decode prog_7_method_12_code 78 = .ok (.iconst 0, 1) := by decide +kernel
theorem d_Markup_readValue_79 : decode prog_7_method_12_code 79 = .ok (.invokevirtual 80, 3) := by decide +kernel
theorem d_Markup_readValue_82 : decode prog_7_method_12_code 82 = .ok (.bipush 35, 2) := by decide +kernel
theorem d_Markup_readValue_84 : decode prog_7_method_12_code 84 = .ok (.if_icmp .ne 10, 3) := by decide +kernel
theorem d_Markup_readValue_94 : decode prog_7_method_12_code 94 = .ok (.aload_n 0, 1) := by decide +kernel
theorem d_Markup_readValue_95 : decode prog_7_method_12_code 95 = .ok (.invokevirtual 142, 3) := by decide +kernel
theorem k_868 : (Jvm.Cond.methodLink "PackageBook$Markup" (142 : Nat) ({ cls := "PackageBook$Markup", name := "readNamed", desc := "()I" } : Jvm.MethodName)) ∈ uW := uW_of 868 (by decide +kernel) (by decide +kernel)
theorem k_871 : (Jvm.Cond.code ({ cls := "PackageBook$Markup", name := "readNamed", desc := "()I" } : Jvm.MethodName) prog_7_method_13_code (2 : Nat) (Option.some Jvm.ClassFile.FieldType.int)) ∈ uW := uW_of 871 (by decide +kernel) (by decide +kernel)
theorem k_870 : (Jvm.Cond.instanceMethod ({ cls := "PackageBook$Markup", name := "readNamed", desc := "()I" } : Jvm.MethodName)) ∈ uW := uW_of 870 (by decide +kernel) (by decide +kernel)
theorem k_44 : Cond.selects "PackageBook$Markup" ⟨"PackageBook$Markup", "readNamed", "()I"⟩ ⟨"PackageBook$Markup", "readNamed", "()I"⟩ ∈ uW := uW_of 44 (by decide +kernel) (by decide +kernel)
theorem hy_Markup_readNamed : (y_Markup_readNamed).cls ≠ "java/lang/invoke/MethodHandle" ∧ (y_Markup_readNamed).cls ≠ "java/lang/invoke/VarHandle" ∧ (parseMethodDescriptor (y_Markup_readNamed).desc).map (fun d => d.parameters.length) = some 0 := by decide +kernel
theorem d_Markup_readValue_98 : decode prog_7_method_12_code 98 = .ok (.istore_n 3, 1) := by decide +kernel
theorem d_Markup_readValue_99 : decode prog_7_method_12_code 99 = .ok (.iload_n 3, 1) := by decide +kernel
theorem d_Markup_readValue_100 : decode prog_7_method_12_code 100 = .ok (.ifCond .lt 12, 3) := by decide +kernel
theorem d_Markup_readValue_112 : decode prog_7_method_12_code 112 = .ok (.iconst 0, 1) := by decide +kernel
theorem d_Markup_readValue_113 : decode prog_7_method_12_code 113 = .ok (.ireturn, 1) := by decide +kernel
theorem d_Markup_readValue_103 : decode prog_7_method_12_code 103 = .ok (.aload_n 0, 1) := by decide +kernel
theorem d_Markup_readValue_104 : decode prog_7_method_12_code 104 = .ok (.ldc 145, 2) := by decide +kernel
theorem d_Markup_readValue_106 : decode prog_7_method_12_code 106 = .ok (.invokevirtual 73, 3) := by decide +kernel
theorem d_Markup_readValue_109 : decode prog_7_method_12_code 109 = .ok (.ifCond .ne 5, 3) := by decide +kernel
theorem d_Markup_readValue_87 : decode prog_7_method_12_code 87 = .ok (.aload_n 0, 1) := by decide +kernel
theorem d_Markup_readValue_88 : decode prog_7_method_12_code 88 = .ok (.invokevirtual 138, 3) := by decide +kernel
theorem k_864 : (Jvm.Cond.methodLink "PackageBook$Markup" (138 : Nat) ({ cls := "PackageBook$Markup", name := "readNumber", desc := "()I" } : Jvm.MethodName)) ∈ uW := uW_of 864 (by decide +kernel) (by decide +kernel)
theorem k_867 : (Jvm.Cond.code ({ cls := "PackageBook$Markup", name := "readNumber", desc := "()I" } : Jvm.MethodName) prog_7_method_14_code (5 : Nat) (Option.some Jvm.ClassFile.FieldType.int)) ∈ uW := uW_of 867 (by decide +kernel) (by decide +kernel)
theorem k_866 : (Jvm.Cond.instanceMethod ({ cls := "PackageBook$Markup", name := "readNumber", desc := "()I" } : Jvm.MethodName)) ∈ uW := uW_of 866 (by decide +kernel) (by decide +kernel)
theorem k_43 : Cond.selects "PackageBook$Markup" ⟨"PackageBook$Markup", "readNumber", "()I"⟩ ⟨"PackageBook$Markup", "readNumber", "()I"⟩ ∈ uW := uW_of 43 (by decide +kernel) (by decide +kernel)
theorem hy_Markup_readNumber : (y_Markup_readNumber).cls ≠ "java/lang/invoke/MethodHandle" ∧ (y_Markup_readNumber).cls ≠ "java/lang/invoke/VarHandle" ∧ (parseMethodDescriptor (y_Markup_readNumber).desc).map (fun d => d.parameters.length) = some 0 := by decide +kernel
theorem d_Markup_readValue_91 : decode prog_7_method_12_code 91 = .ok (.goto 7, 3) := by decide +kernel
abbrev y_Markup_readValue : MethodName := ⟨"PackageBook$Markup", "readValue", "(I)Z"⟩
abbrev i_Markup_readValue : pb_I := (y_Markup_readValue, prog_7_method_12_code, 4, (some Jvm.ClassFile.FieldType.boolean), [], { frames := 6, cells := 0, slots := 0, locals := 130 })
set_option maxRecDepth 100000 in
set_option maxHeartbeats 4000000 in
theorem g_Mu_readValue {l : Launch} (hl : l.stackTraces = false) (G : pb_G) (h : Nat) (ui : Nat) (ug : Nat) (uv : Nat) (ur : Nat) (ct : Int32) (fa : Int32) (bg : Int32) (at_ : Int32) (en : Int32) (vs : Int32) (io : Int32) (hi : Int32) (ht : Int32) (uf : Nat → Int32) (vf : Nat → Int32) (q : Int32) (a0 : 0 ≤ at_.toInt) (a1 : at_.toInt ≤ en.toInt) (a2 : en.toInt ≤ 12000) (a3 : 0 ≤ bg.toInt) (a4 : bg.toInt ≤ at_.toInt) (q0 : 0 ≤ q.toInt) (F_uf : sb_Fit uf) (F_vf : sb_Fit vf) : Cn l G i_Markup_readValue [.ref h, .int q] [(h, .inr (8, [.ref ui, .ref ug, .ref uv, .ref ur, .int ct, .int fa, .int bg, .int at_, .int en, .int vs, .int io, .int hi, .int ht])), (ur, .inl (G.2.1, 12000, .inl uf)), (uv, .inl (G.2.1, 24, .inl vf))] (S := Int32 × Int32 × Int32 × Int32 × (Nat → Int32)) (fun rv_ u => rv_ = some (.int u.1) ∧ (u.1.toInt = 0 ∨ u.1.toInt = 1) ∧ (at_.toInt ≤ u.2.1.toInt) ∧ (u.2.1.toInt ≤ en.toInt) ∧ (u.1.toInt = 1 → u.2.1.toInt < en.toInt) ∧ (0 ≤ u.2.2.2.1.toInt) ∧ (vR_ 24 (vG (mB_ uf bg.toInt) (en.toInt - bg.toInt) q.toInt (at_.toInt - bg.toInt) 0 (fun _ => 0)) (1 - u.1.toInt) (u.2.1.toInt - bg.toInt) u.2.2.2.1.toInt u.2.2.2.2) ∧ (ft_ u.1.toInt fa.toInt u.2.2.1.toInt) ∧ (sb_Fit u.2.2.2.2)) (fun u => [(h, .inr (8, [.ref ui, .ref ug, .ref uv, .ref ur, .int ct, .int u.2.2.1, .int bg, .int u.2.1, .int en, .int u.2.2.2.1, .int io, .int hi, .int ht])), (ur, .inl (G.2.1, 12000, .inl uf)), (uv, .inl (G.2.1, 24, .inl u.2.2.2.2))]) := by
  refine Cn.of hl (by decide +kernel) rfl (Nat.le_of_ble_eq_true rfl) (fun M hQ => ?_)
  refine pb_eq (pc' := 0) (lo' := [(0, .ref h), (1, .int q)]) (rest' := []) (ws' := [(h, .inr (8, [.ref ui, .ref ug, .ref uv, .ref ur, .int ct, .int fa, .int bg, .int at_, .int en, .int vs, .int io, .int hi, .int ht])), (ur, .inl (G.2.1, 12000, .inl uf)), (uv, .inl (G.2.1, 24, .inl vf))]) ?_
  have zl0 : (0 : Int32).toInt = 0 := by decide
  have zl1 : (1 : Int32).toInt = 1 := by decide
  refine pb_aload_n (pc := 0) d_Markup_readValue_0 0 rfl rfl ?_
  refine pb_iconst (pc := 1) (v := 0) d_Markup_readValue_1 (by decide) ?_
  refine pb_put (pc := 2) (ty := .int) (ws' := [(h, .inr (8, [.ref ui, .ref ug, .ref uv, .ref ur, .int ct, .int fa, .int bg, .int at_, .int en, .int 0, .int io, .int hi, .int ht])), (ur, .inl (G.2.1, 12000, .inl uf)), (uv, .inl (G.2.1, 24, .inl vf))]) d_Markup_readValue_2 0 9 t_Markup t_Markup_ok n_Markup rfl rfl (by decide) in_Markup k_328 rfl (by decide +kernel) rfl rfl (Nat.le_of_ble_eq_true rfl) rfl ?_
  refine pb_aload_n (pc := 5) d_Markup_readValue_5 0 rfl rfl ?_
  refine pb_get (pc := 6) d_Markup_readValue_6 0 8 rfl rfl (by decide) in_Markup k_327 rfl ?_
  refine pb_aload_n (pc := 9) d_Markup_readValue_9 0 rfl rfl ?_
  refine pb_get (pc := 10) d_Markup_readValue_10 0 7 rfl rfl (by decide) in_Markup k_326 rfl ?_
  refine pb_isub (pc := 13) d_Markup_readValue_13 ?_
  refine pb_topi (fun i1 ei1 => ?_)
  try have ti1 : i1.toInt = en.toInt - at_.toInt := t2_sub ei1 rfl rfl (by omega)
  refine pb_istore_n (pc := 14) (lo' := [(2, .int i1), (0, .ref h), (1, .int q)]) d_Markup_readValue_14 rfl (by decide) rfl ?_
  have hL15_2 : ∀ (N9 : Nat) (l_ : Int32) (a : Int32) (f : Int32) (v : Int32) (g : Nat → Int32), (sb_Fit g) → (at_.toInt ≤ a.toInt) → (a.toInt ≤ en.toInt) → (en.toInt - a.toInt ≤ l_.toInt) → (0 ≤ v.toInt) → (v.toInt ≤ a.toInt - at_.toInt) → (vL_ (mB_ uf bg.toInt) (en.toInt - bg.toInt) q.toInt 24 (vG (mB_ uf bg.toInt) (en.toInt - bg.toInt) q.toInt (at_.toInt - bg.toInt) 0 (fun _ => 0)) 0 (a.toInt - bg.toInt) v.toInt g) → (f.toInt = fa.toInt) → ((l_.toInt + 1).toNat) < N9 → pb_P l G M i_Markup_readValue 15 [(2, .int l_), (0, .ref h), (1, .int q)] [] [(h, .inr (8, [.ref ui, .ref ug, .ref uv, .ref ur, .int ct, .int f, .int bg, .int a, .int en, .int v, .int io, .int hi, .int ht])), (ur, .inl (G.2.1, 12000, .inl uf)), (uv, .inl (G.2.1, 24, .inl g))] 0 0 := by
    intro N9
    induction N9 with
    | zero => intro l_ a f v g F_g k0 k1 k2 k3 k4 kW lf hm9; exact absurd hm9 (Nat.not_lt_zero _)
    | succ N9 ih15 =>
      intro l_ a f v g F_g k0 k1 k2 k3 k4 kW lf hm9
      have rl_ := ti_rng l_
      refine pb_iload_n (pc := 15) d_Markup_readValue_15 0 rfl rfl ?_
      refine pb_if_lt (pc := 16) (tgt := 150) d_Markup_readValue_16 (by decide) (fun w3 => ?_) (fun w3 => ?_)
      · have tw3 : l_.toInt < 0 := (ti_lt rfl (by decide)).mp w3
        refine pb_iconst (pc := 150) (v := 1) d_Markup_readValue_150 (by decide) ?_
        exact pb_iret (pc := 151) hQ d_Markup_readValue_151 rfl rfl (1, a, f, v, g) ⟨rfl, (by (try dsimp only); first | done | (with_reducible assumption) | omega (splitDisjunctions := false) | assumption | omega | decide), (by (try dsimp only); first | done | (with_reducible assumption) | omega (splitDisjunctions := false) | assumption | omega | decide), (by (try dsimp only); first | done | (with_reducible assumption) | omega (splitDisjunctions := false) | assumption | omega | decide), (by (try dsimp only); first | done | (with_reducible assumption) | omega (splitDisjunctions := false) | assumption | omega | decide), (by (try dsimp only); first | done | (with_reducible assumption) | omega (splitDisjunctions := false) | assumption | omega | decide), (show vR_ 24 (vG (mB_ uf bg.toInt) (en.toInt - bg.toInt) q.toInt (at_.toInt - bg.toInt) 0 (fun _ => 0)) (1 - (1 : Int32).toInt) (a.toInt - bg.toInt) v.toInt g from (by first | exact vR_e (vL_e kW (Or.inr (by omega))) (by omega) | exact absurd k1 (by omega))), (show ft_ (1 : Int32).toInt fa.toInt f.toInt from (ft_e (by omega) lf)), F_g⟩ [0, 1, 2] (by decide) rfl rfl (by decide) (by decide)
      · have tw3 : ¬ l_.toInt < 0 := fun z9 => w3 ((ti_lt rfl (by decide)).mpr z9)
        refine pb_aload_n (pc := 19) d_Markup_readValue_19 1 rfl rfl ?_
        refine pb_iconst (pc := 20) (v := 0) d_Markup_readValue_20 (by decide) ?_
        refine pb_callV (pc := 21) (I := i_Markup_readValue) (qb := 0) (ci := 8) (nA := 1) (rest := []) (wr := [(uv, .inl (G.2.1, 24, .inl g))]) d_Markup_readValue_21 (g_Mu_next hl G h ui ug uv ur ct f bg a en v io hi ht uf 0 (by first | (with_reducible assumption) | omega (splitDisjunctions := false) | assumption | omega | decide) (by first | (with_reducible assumption) | omega (splitDisjunctions := false) | assumption | omega | decide) (by first | (with_reducible assumption) | omega (splitDisjunctions := false) | assumption | omega | decide) (by first | (with_reducible assumption) | omega (splitDisjunctions := false) | assumption | omega | decide) (by first | (with_reducible assumption) | omega (splitDisjunctions := false) | assumption | omega | decide) (by first | (with_reducible assumption) | omega (splitDisjunctions := false) | assumption | omega | decide) (by first | (with_reducible assumption) | omega (splitDisjunctions := false) | assumption | omega | decide) F_uf) rfl rfl [0, 1] [2] (by decide) rfl rfl rfl (by decide) (by decide) k_813 rfl k_125 k_810 k_812 k_33 ⟨rfl, hy_Markup_next⟩ (by decide) rfl rfl (Nat.le_of_ble_eq_true rfl) (by decide) (fun v9 u5 ch4 => ?_)
        obtain ⟨r_6, rfl⟩ : ∃ z9, z9 = u5 := ⟨_, rfl⟩
        obtain ⟨ech4, ch4⟩ := ch4
        have ech4 : v9 = some (.int r_6) := ech4
        subst ech4
        obtain ⟨fh7, fh8, fh9, fh10⟩ : (-1 ≤ r_6.toInt) ∧ (r_6.toInt ≤ 255) ∧ (0 ≤ r_6.toInt → a.toInt + (0 : Int32).toInt < en.toInt) ∧ (r_6.toInt = cm_ (mB_ uf bg.toInt) (en.toInt - bg.toInt) ((a.toInt - bg.toInt) + (0 : Int32).toInt)) := ch4
        have h1F := fh10
        rw [zl0, Int.add_zero] at h1F
        refine pb_eq (pc' := 24) (lo' := [(2, .int l_), (0, .ref h), (1, .int q)]) (rest' := [.int r_6]) (ws' := [(uv, .inl (G.2.1, 24, .inl g)), (h, .inr (8, [.ref ui, .ref ug, .ref uv, .ref ur, .int ct, .int f, .int bg, .int a, .int en, .int v, .int io, .int hi, .int ht])), (ur, .inl (G.2.1, 12000, .inl uf))]) ?_
        refine pb_iload_n (pc := 24) d_Markup_readValue_24 2 rfl rfl ?_
        refine pb_icmp_eq (pc := 25) (tgt := 150) d_Markup_readValue_25 (by decide) (fun w11 => ?_) (fun w11 => ?_)
        · have tw11 : r_6.toInt = q.toInt := (ti_eq rfl rfl).mp w11
          refine pb_iconst (pc := 150) (v := 1) d_Markup_readValue_150 (by decide) ?_
          exact pb_iret (pc := 151) hQ d_Markup_readValue_151 rfl rfl (1, a, f, v, g) ⟨rfl, (by (try dsimp only); first | done | (with_reducible assumption) | omega (splitDisjunctions := false) | assumption | (clear fh9 hm9; first | omega (splitDisjunctions := false) | omega) | omega | decide), (by (try dsimp only); first | done | (with_reducible assumption) | omega (splitDisjunctions := false) | assumption | (clear fh9 hm9; first | omega (splitDisjunctions := false) | omega) | omega | decide), (by (try dsimp only); first | done | (with_reducible assumption) | omega (splitDisjunctions := false) | assumption | (clear fh9 hm9; first | omega (splitDisjunctions := false) | omega) | omega | decide), (by (try dsimp only); first | done | (with_reducible assumption) | omega (splitDisjunctions := false) | assumption | exact fun q90 => (by clear fh9 hm9; first | omega (splitDisjunctions := false) | omega) | omega | decide), (by (try dsimp only); first | done | (with_reducible assumption) | omega (splitDisjunctions := false) | assumption | (clear fh9 hm9; first | omega (splitDisjunctions := false) | omega) | omega | decide), (show vR_ 24 (vG (mB_ uf bg.toInt) (en.toInt - bg.toInt) q.toInt (at_.toInt - bg.toInt) 0 (fun _ => 0)) (1 - (1 : Int32).toInt) (a.toInt - bg.toInt) v.toInt g from (by first | exact vR_e (vL_e kW (Or.inr (by omega))) (by omega) | exact absurd k1 (by omega))), (show ft_ (1 : Int32).toInt fa.toInt f.toInt from (ft_e (by omega) lf)), F_g⟩ [1, 2, 0] (by decide) rfl rfl (by decide) (by decide)
        · have tw11 : ¬ r_6.toInt = q.toInt := fun z9 => w11 ((ti_eq rfl rfl).mpr z9)
          refine pb_aload_n (pc := 28) d_Markup_readValue_28 1 rfl rfl ?_
          refine pb_iconst (pc := 29) (v := 0) d_Markup_readValue_29 (by decide) ?_
          refine pb_callV (pc := 30) (I := i_Markup_readValue) (qb := 1) (ci := 8) (nA := 1) (rest := []) (wr := [(uv, .inl (G.2.1, 24, .inl g))]) d_Markup_readValue_30 (g_Mu_next hl G h ui ug uv ur ct f bg a en v io hi ht uf 0 (by first | (with_reducible assumption) | omega (splitDisjunctions := false) | assumption | (clear fh9 hm9; first | omega (splitDisjunctions := false) | omega) | omega | decide) (by first | (with_reducible assumption) | omega (splitDisjunctions := false) | assumption | (clear fh9 hm9; first | omega (splitDisjunctions := false) | omega) | omega | decide) (by first | (with_reducible assumption) | omega (splitDisjunctions := false) | assumption | (clear fh9 hm9; first | omega (splitDisjunctions := false) | omega) | omega | decide) (by first | (with_reducible assumption) | omega (splitDisjunctions := false) | assumption | (clear fh9 hm9; first | omega (splitDisjunctions := false) | omega) | omega | decide) (by first | (with_reducible assumption) | omega (splitDisjunctions := false) | assumption | (clear fh9 hm9; first | omega (splitDisjunctions := false) | omega) | omega | decide) (by first | (with_reducible assumption) | omega (splitDisjunctions := false) | assumption | (clear fh9 hm9; first | omega (splitDisjunctions := false) | omega) | omega | decide) (by first | (with_reducible assumption) | omega (splitDisjunctions := false) | assumption | (clear fh9 hm9; first | omega (splitDisjunctions := false) | omega) | omega | decide) F_uf) rfl rfl [1, 2] [0] (by decide) rfl rfl rfl (by decide) (by decide) k_813 rfl k_125 k_810 k_812 k_33 ⟨rfl, hy_Markup_next⟩ (by decide) rfl rfl (Nat.le_of_ble_eq_true rfl) (by decide) (fun v9 u13 ch12 => ?_)
          obtain ⟨r_14, rfl⟩ : ∃ z9, z9 = u13 := ⟨_, rfl⟩
          obtain ⟨ech12, ch12⟩ := ch12
          have ech12 : v9 = some (.int r_14) := ech12
          subst ech12
          obtain ⟨fh15, fh16, fh17, fh18⟩ : (-1 ≤ r_14.toInt) ∧ (r_14.toInt ≤ 255) ∧ (0 ≤ r_14.toInt → a.toInt + (0 : Int32).toInt < en.toInt) ∧ (r_14.toInt = cm_ (mB_ uf bg.toInt) (en.toInt - bg.toInt) ((a.toInt - bg.toInt) + (0 : Int32).toInt)) := ch12
          have h2F := fh18
          rw [zl0, Int.add_zero] at h2F
          have nxB := fh17
          clear fh17
          refine pb_eq (pc' := 33) (lo' := [(2, .int l_), (0, .ref h), (1, .int q)]) (rest' := [.int r_14]) (ws' := [(uv, .inl (G.2.1, 24, .inl g)), (h, .inr (8, [.ref ui, .ref ug, .ref uv, .ref ur, .int ct, .int f, .int bg, .int a, .int en, .int v, .int io, .int hi, .int ht])), (ur, .inl (G.2.1, 12000, .inl uf))]) ?_
          refine pb_istore_n (pc := 33) (lo' := [(3, .int r_14), (2, .int l_), (0, .ref h), (1, .int q)]) d_Markup_readValue_33 rfl (by decide) rfl ?_
          refine pb_iload_n (pc := 34) d_Markup_readValue_34 0 rfl rfl ?_
          refine pb_bipush (pc := 35) (v := 32) d_Markup_readValue_35 (by decide) ?_
          refine pb_icmp_lt (pc := 37) (tgt := 52) d_Markup_readValue_37 (by decide) (fun w19 => ?_) (fun w19 => ?_)
          · have tw19 : r_14.toInt < 32 := (ti_lt rfl (by decide)).mp w19
            refine pb_aload_n (pc := 52) d_Markup_readValue_52 2 rfl rfl ?_
            refine pb_aload_n (pc := 53) d_Markup_readValue_53 2 rfl rfl ?_
            refine pb_get (pc := 54) d_Markup_readValue_54 1 7 rfl rfl (by decide) in_Markup k_326 rfl ?_
            refine pb_callV (pc := 57) (I := i_Markup_readValue) (qb := 1) (ci := 8) (nA := 1) (rest := []) (wr := [(uv, .inl (G.2.1, 24, .inl g)), (ur, .inl (G.2.1, 12000, .inl uf))]) d_Markup_readValue_57 (g_Mu_fail hl G h ui ug uv ur ct f bg a en v io hi ht a (by first | (with_reducible assumption) | omega (splitDisjunctions := false) | assumption | (clear fh9 nxB hm9; first | omega (splitDisjunctions := false) | omega) | omega | decide) (by first | (with_reducible assumption) | omega (splitDisjunctions := false) | assumption | (clear fh9 nxB hm9; first | omega (splitDisjunctions := false) | omega) | omega | decide) (by first | (with_reducible assumption) | omega (splitDisjunctions := false) | assumption | (clear fh9 nxB hm9; first | omega (splitDisjunctions := false) | omega) | omega | decide)) rfl rfl [1] [0, 2] (by decide) rfl rfl rfl (by decide) (by decide) k_831 rfl k_125 k_828 k_830 k_36 ⟨rfl, hy_Markup_fail⟩ (by decide) rfl rfl (Nat.le_of_ble_eq_true rfl) (by decide) (fun v9 u21 ch20 => ?_)
            obtain ⟨f_22, rfl⟩ : ∃ z9, z9 = u21 := ⟨_, rfl⟩
            obtain ⟨ech20, ch20⟩ := ch20
            have ech20 : v9 = some (.int 0) := ech20
            subst ech20
            have fh23 : 0 ≤ f_22.toInt := ch20
            have flF := fh23
            refine pb_eq (pc' := 60) (lo' := [(3, .int r_14), (2, .int l_), (0, .ref h), (1, .int q)]) (rest' := [.int 0]) (ws' := [(uv, .inl (G.2.1, 24, .inl g)), (ur, .inl (G.2.1, 12000, .inl uf)), (h, .inr (8, [.ref ui, .ref ug, .ref uv, .ref ur, .int ct, .int f_22, .int bg, .int a, .int en, .int v, .int io, .int hi, .int ht]))]) ?_
            exact pb_iret (pc := 60) hQ d_Markup_readValue_60 rfl rfl (0, a, f_22, v, g) ⟨rfl, (by (try dsimp only); first | done | (with_reducible assumption) | omega (splitDisjunctions := false) | assumption | (clear fh9 nxB hm9; first | omega (splitDisjunctions := false) | omega) | omega | decide), (by (try dsimp only); first | done | (with_reducible assumption) | omega (splitDisjunctions := false) | assumption | (clear fh9 nxB hm9; first | omega (splitDisjunctions := false) | omega) | omega | decide), (by (try dsimp only); first | done | (with_reducible assumption) | omega (splitDisjunctions := false) | assumption | (clear fh9 nxB hm9; first | omega (splitDisjunctions := false) | omega) | omega | decide), (by (try dsimp only); first | done | (with_reducible assumption) | omega (splitDisjunctions := false) | assumption | exact fun q90 => (by clear fh9 nxB hm9; first | omega (splitDisjunctions := false) | omega) | omega | decide), (by (try dsimp only); first | done | (with_reducible assumption) | omega (splitDisjunctions := false) | assumption | (clear fh9 nxB hm9; first | omega (splitDisjunctions := false) | omega) | omega | decide), (show vR_ 24 (vG (mB_ uf bg.toInt) (en.toInt - bg.toInt) q.toInt (at_.toInt - bg.toInt) 0 (fun _ => 0)) (1 - (0 : Int32).toInt) (a.toInt - bg.toInt) v.toInt g from (vL_e (vL_x kW rfl (by (exact omg_a68b14df83 h1F tw11)) (by omega) (by omega)) (Or.inl (by omega)))), (show ft_ (0 : Int32).toInt fa.toInt f_22.toInt from (ft_f zl0 flF)), F_g⟩ [2, 1, 0] (by decide) rfl rfl (by decide) (by decide)
          · have tw19 : ¬ r_14.toInt < 32 := fun z9 => w19 ((ti_lt rfl (by decide)).mpr z9)
            refine pb_iload_n (pc := 40) d_Markup_readValue_40 0 rfl rfl ?_
            refine pb_bipush (pc := 41) (v := 126) d_Markup_readValue_41 (by decide) ?_
            refine pb_icmp_gt (pc := 43) (tgt := 52) d_Markup_readValue_43 (by decide) (fun w24 => ?_) (fun w24 => ?_)
            · have tw24 : 126 < r_14.toInt := (ti_lt (by decide) rfl).mp w24
              refine pb_aload_n (pc := 52) d_Markup_readValue_52 2 rfl rfl ?_
              refine pb_aload_n (pc := 53) d_Markup_readValue_53 2 rfl rfl ?_
              refine pb_get (pc := 54) d_Markup_readValue_54 1 7 rfl rfl (by decide) in_Markup k_326 rfl ?_
              refine pb_callV (pc := 57) (I := i_Markup_readValue) (qb := 1) (ci := 8) (nA := 1) (rest := []) (wr := [(uv, .inl (G.2.1, 24, .inl g)), (ur, .inl (G.2.1, 12000, .inl uf))]) d_Markup_readValue_57 (g_Mu_fail hl G h ui ug uv ur ct f bg a en v io hi ht a (by first | (with_reducible assumption) | omega (splitDisjunctions := false) | assumption | (clear fh9 nxB hm9; first | omega (splitDisjunctions := false) | omega) | omega | decide) (by first | (with_reducible assumption) | omega (splitDisjunctions := false) | assumption | (clear fh9 nxB hm9; first | omega (splitDisjunctions := false) | omega) | omega | decide) (by first | (with_reducible assumption) | omega (splitDisjunctions := false) | assumption | (clear fh9 nxB hm9; first | omega (splitDisjunctions := false) | omega) | omega | decide)) rfl rfl [1] [0, 2] (by decide) rfl rfl rfl (by decide) (by decide) k_831 rfl k_125 k_828 k_830 k_36 ⟨rfl, hy_Markup_fail⟩ (by decide) rfl rfl (Nat.le_of_ble_eq_true rfl) (by decide) (fun v9 u26 ch25 => ?_)
              obtain ⟨f_27, rfl⟩ : ∃ z9, z9 = u26 := ⟨_, rfl⟩
              obtain ⟨ech25, ch25⟩ := ch25
              have ech25 : v9 = some (.int 0) := ech25
              subst ech25
              have fh28 : 0 ≤ f_27.toInt := ch25
              have flF := fh28
              refine pb_eq (pc' := 60) (lo' := [(3, .int r_14), (2, .int l_), (0, .ref h), (1, .int q)]) (rest' := [.int 0]) (ws' := [(uv, .inl (G.2.1, 24, .inl g)), (ur, .inl (G.2.1, 12000, .inl uf)), (h, .inr (8, [.ref ui, .ref ug, .ref uv, .ref ur, .int ct, .int f_27, .int bg, .int a, .int en, .int v, .int io, .int hi, .int ht]))]) ?_
              exact pb_iret (pc := 60) hQ d_Markup_readValue_60 rfl rfl (0, a, f_27, v, g) ⟨rfl, (by (try dsimp only); first | done | (with_reducible assumption) | omega (splitDisjunctions := false) | assumption | (clear fh9 nxB hm9; first | omega (splitDisjunctions := false) | omega) | omega | decide), (by (try dsimp only); first | done | (with_reducible assumption) | omega (splitDisjunctions := false) | assumption | (clear fh9 nxB hm9; first | omega (splitDisjunctions := false) | omega) | omega | decide), (by (try dsimp only); first | done | (with_reducible assumption) | omega (splitDisjunctions := false) | assumption | (clear fh9 nxB hm9; first | omega (splitDisjunctions := false) | omega) | omega | decide), (by (try dsimp only); first | done | (with_reducible assumption) | omega (splitDisjunctions := false) | assumption | exact fun q90 => (by clear fh9 nxB hm9; first | omega (splitDisjunctions := false) | omega) | omega | decide), (by (try dsimp only); first | done | (with_reducible assumption) | omega (splitDisjunctions := false) | assumption | (clear fh9 nxB hm9; first | omega (splitDisjunctions := false) | omega) | omega | decide), (show vR_ 24 (vG (mB_ uf bg.toInt) (en.toInt - bg.toInt) q.toInt (at_.toInt - bg.toInt) 0 (fun _ => 0)) (1 - (0 : Int32).toInt) (a.toInt - bg.toInt) v.toInt g from (vL_e (vL_x kW rfl (by (exact omg_a68b14df83 h1F tw11)) (by omega) (by omega)) (Or.inl (by omega)))), (show ft_ (0 : Int32).toInt fa.toInt f_27.toInt from (ft_f zl0 flF)), F_g⟩ [2, 1, 0] (by decide) rfl rfl (by decide) (by decide)
            · have tw24 : ¬ 126 < r_14.toInt := fun z9 => w24 ((ti_lt (by decide) rfl).mpr z9)
              refine pb_iload_n (pc := 46) d_Markup_readValue_46 0 rfl rfl ?_
              refine pb_bipush (pc := 47) (v := 60) d_Markup_readValue_47 (by decide) ?_
              refine pb_icmp_ne (pc := 49) (tgt := 61) d_Markup_readValue_49 (by decide) (fun w29 => ?_) (fun w29 => ?_)
              · have tw29 : ¬ r_14.toInt = 60 := fun z9 => w29 ((ti_eq rfl (by decide)).mpr z9)
                have nxC := nxB (by omega)
                clear nxB
                refine pb_aload_n (pc := 61) d_Markup_readValue_61 2 rfl rfl ?_
                refine pb_dup (pc := 62) d_Markup_readValue_62 rfl ?_
                refine pb_get (pc := 63) d_Markup_readValue_63 1 7 rfl rfl (by decide) in_Markup k_326 rfl ?_
                refine pb_iconst (pc := 66) (v := 1) d_Markup_readValue_66 (by decide) ?_
                refine pb_iadd (pc := 67) d_Markup_readValue_67 ?_
                refine pb_topi (fun i30 ei30 => ?_)
                try have ti30 : i30.toInt = a.toInt + 1 := t2_add ei30 rfl (by decide) (by omega)
                refine pb_put (pc := 68) (ty := .int) (ws' := [(uv, .inl (G.2.1, 24, .inl g)), (h, .inr (8, [.ref ui, .ref ug, .ref uv, .ref ur, .int ct, .int f, .int bg, .int i30, .int en, .int v, .int io, .int hi, .int ht])), (ur, .inl (G.2.1, 12000, .inl uf))]) d_Markup_readValue_68 1 7 t_Markup t_Markup_ok n_Markup rfl rfl (by decide) in_Markup k_326 rfl (by decide +kernel) rfl rfl (Nat.le_of_ble_eq_true rfl) rfl ?_
                have hJ114_31 : ∀ (b3 : Int32) (a3 : Int32) (f3 : Int32), (a.toInt + 1 ≤ a3.toInt) → (a3.toInt ≤ en.toInt) → (jr_ (mB_ uf bg.toInt) (en.toInt - bg.toInt) (a.toInt - bg.toInt) (a3.toInt - bg.toInt) b3.toInt) → (f3.toInt = fa.toInt) → pb_P l G M i_Markup_readValue 114 [(3, .int b3), (2, .int l_), (0, .ref h), (1, .int q)] [] [(h, .inr (8, [.ref ui, .ref ug, .ref uv, .ref ur, .int ct, .int f3, .int bg, .int a3, .int en, .int v, .int io, .int hi, .int ht])), (ur, .inl (G.2.1, 12000, .inl uf)), (uv, .inl (G.2.1, 24, .inl g))] 0 0 := by
                  intro b3 a3 f3 j0 j1 j6 jf
                  refine pb_aload_n (pc := 114) d_Markup_readValue_114 2 rfl rfl ?_
                  refine pb_get (pc := 115) d_Markup_readValue_115 0 9 rfl rfl (by decide) in_Markup k_328 rfl ?_
                  refine pb_bipush (pc := 118) (v := 24) d_Markup_readValue_118 (by decide) ?_
                  refine pb_icmp_ge (pc := 120) (tgt := 134) d_Markup_readValue_120 (by decide) (fun w32 => ?_) (fun w32 => ?_)
                  · have tw32 : 24 ≤ v.toInt := (ti_le (by decide) rfl).mp w32
                    refine pb_aload_n (pc := 134) d_Markup_readValue_134 2 rfl rfl ?_
                    refine pb_dup (pc := 135) d_Markup_readValue_135 rfl ?_
                    refine pb_get (pc := 136) d_Markup_readValue_136 0 9 rfl rfl (by decide) in_Markup k_328 rfl ?_
                    refine pb_iconst (pc := 139) (v := 1) d_Markup_readValue_139 (by decide) ?_
                    refine pb_iadd (pc := 140) d_Markup_readValue_140 ?_
                    refine pb_topi (fun i33 ei33 => ?_)
                    try have ti33 : i33.toInt = v.toInt + 1 := t2_add ei33 rfl (by decide) (by (exact omg_69b2ede79c a0 a2 zl0 k4 nxC tw32))
                    refine pb_put (pc := 141) (ty := .int) (ws' := [(h, .inr (8, [.ref ui, .ref ug, .ref uv, .ref ur, .int ct, .int f3, .int bg, .int a3, .int en, .int i33, .int io, .int hi, .int ht])), (ur, .inl (G.2.1, 12000, .inl uf)), (uv, .inl (G.2.1, 24, .inl g))]) d_Markup_readValue_141 0 9 t_Markup t_Markup_ok n_Markup rfl rfl (by decide) in_Markup k_328 rfl (by decide +kernel) rfl rfl (Nat.le_of_ble_eq_true rfl) rfl ?_
                    refine pb_iincN (pc := 144) (c := (-1)) d_Markup_readValue_144 1 rfl (by decide) (by decide) (fun i34 ei34 => ?_)
                    have ti34 : i34.toInt = l_.toInt + (-1) := t2_add ei34 rfl (by decide) (by first | omega | (have r90 := ti_rng i34; have r91 := ti_rng b3; have r92 := ti_rng q; omega))
                    refine pb_eq (pc' := 147) (lo' := [(2, .int i34), (3, .int b3), (0, .ref h), (1, .int q)]) (rest' := []) (ws' := [(h, .inr (8, [.ref ui, .ref ug, .ref uv, .ref ur, .int ct, .int f3, .int bg, .int a3, .int en, .int i33, .int io, .int hi, .int ht])), (ur, .inl (G.2.1, 12000, .inl uf)), (uv, .inl (G.2.1, 24, .inl g))]) ?_
                    refine pb_goto (pc := 147) (tgt := 15) d_Markup_readValue_147 (by decide) ?_
                    refine pb_re (ws' := [(h, .inr (8, [.ref ui, .ref ug, .ref uv, .ref ur, .int ct, .int f3, .int bg, .int a3, .int en, .int i33, .int io, .int hi, .int ht])), (ur, .inl (G.2.1, 12000, .inl uf)), (uv, .inl (G.2.1, 24, .inl g))]) (lo' := [(2, .int i34), (0, .ref h), (1, .int q)]) [0, 1, 2] [0, 2, 3] (by decide) rfl rfl rfl ?_
                    exact ih15 i34 a3 f3 i33 g (by first | (with_reducible exact F_g) | exact sb_fitU F_g (fit_nar _)) (by first | (with_reducible assumption) | omega (splitDisjunctions := false) | assumption | (clear fh9 hm9; first | omega (splitDisjunctions := false) | omega) | omega | decide) (by first | (with_reducible assumption) | omega (splitDisjunctions := false) | assumption | (clear fh9 hm9; first | omega (splitDisjunctions := false) | omega) | omega | decide) (by first | (with_reducible assumption) | omega (splitDisjunctions := false) | assumption | (clear fh9 hm9; first | omega (splitDisjunctions := false) | omega) | omega | decide) (by first | (with_reducible assumption) | omega (splitDisjunctions := false) | assumption | (clear fh9 hm9; first | omega (splitDisjunctions := false) | omega) | omega | decide) (by first | (with_reducible assumption) | omega (splitDisjunctions := false) | assumption | (clear fh9 hm9; first | omega (splitDisjunctions := false) | omega) | omega | decide) (by first | exact vL_j kW (by omega) (by (exact omg_9ca3507698 fh10 h1F fh18 tw19 tw24 tw29)) j6 (by omega) (fun u0 u1 j j0 j1 j2 => by have q7 := iC ⟨by omega, by omega⟩; rw [gx_updb rfl j (by omega) j0 (by omega)]; (by_cases c9 : j = v.toInt); rw [if_pos c9, if_pos c9]; omega; rw [if_neg c9, if_neg c9]) | exact vL_j kW (by (exact omg_a68b14df83 h1F tw11)) (by (exact omg_9ca3507698 fh10 h1F fh18 tw19 tw24 tw29)) j6 (by omega) (fun u0 u1 j j0 j1 j2 => by rw [if_neg (by omega)])) (by first | (with_reducible assumption) | omega (splitDisjunctions := false) | assumption | (clear fh9 hm9; first | omega (splitDisjunctions := false) | omega) | omega | decide) (by first | exact tn_dec hm9 (Int.not_lt.mp (by assumption)) (by assumption) | omega)
                  · have tw32 : ¬ 24 ≤ v.toInt := fun z9 => w32 ((ti_le (by decide) rfl).mpr z9)
                    refine pb_aload_n (pc := 123) d_Markup_readValue_123 2 rfl rfl ?_
                    refine pb_get (pc := 124) d_Markup_readValue_124 0 2 rfl rfl (by decide) in_Markup k_319 rfl ?_
                    refine pb_aload_n (pc := 127) d_Markup_readValue_127 2 rfl rfl ?_
                    refine pb_get (pc := 128) d_Markup_readValue_128 0 9 rfl rfl (by decide) in_Markup k_328 rfl ?_
                    refine pb_iload_n (pc := 131) d_Markup_readValue_131 0 rfl rfl ?_
                    refine pb_i2b (pc := 132) d_Markup_readValue_132 rfl ?_
                    refine pb_topi (fun i35 ei35 => ?_)
                    have ti35 : -128 ≤ i35.toInt ∧ i35.toInt ≤ 127 := ti_i2b ei35
                    have iC := i2b_id ei35
                    refine pb_bast (pc := 133) (ws' := [(h, .inr (8, [.ref ui, .ref ug, .ref uv, .ref ur, .int ct, .int f3, .int bg, .int a3, .int en, .int v, .int io, .int hi, .int ht])), (ur, .inl (G.2.1, 12000, .inl uf)), (uv, .inl (G.2.1, 24, .inl (upd g ((v : Int32).toNatClampNeg) (vp_nar .byte i35))))]) d_Markup_readValue_133 2 rfl (vp_in_iff.mpr (by omega)) rfl ?_
                    refine pb_aload_n (pc := 134) d_Markup_readValue_134 2 rfl rfl ?_
                    refine pb_dup (pc := 135) d_Markup_readValue_135 rfl ?_
                    refine pb_get (pc := 136) d_Markup_readValue_136 0 9 rfl rfl (by decide) in_Markup k_328 rfl ?_
                    refine pb_iconst (pc := 139) (v := 1) d_Markup_readValue_139 (by decide) ?_
                    refine pb_iadd (pc := 140) d_Markup_readValue_140 ?_
                    refine pb_topi (fun i36 ei36 => ?_)
                    try have ti36 : i36.toInt = v.toInt + 1 := t2_add ei36 rfl (by decide) (by omega)
                    refine pb_put (pc := 141) (ty := .int) (ws' := [(h, .inr (8, [.ref ui, .ref ug, .ref uv, .ref ur, .int ct, .int f3, .int bg, .int a3, .int en, .int i36, .int io, .int hi, .int ht])), (ur, .inl (G.2.1, 12000, .inl uf)), (uv, .inl (G.2.1, 24, .inl (upd g ((v : Int32).toNatClampNeg) (vp_nar .byte i35))))]) d_Markup_readValue_141 0 9 t_Markup t_Markup_ok n_Markup rfl rfl (by decide) in_Markup k_328 rfl (by decide +kernel) rfl rfl (Nat.le_of_ble_eq_true rfl) rfl ?_
                    refine pb_iincN (pc := 144) (c := (-1)) d_Markup_readValue_144 1 rfl (by decide) (by decide) (fun i37 ei37 => ?_)
                    have ti37 : i37.toInt = l_.toInt + (-1) := t2_add ei37 rfl (by decide) (by first | omega | (have r90 := ti_rng i37; have r91 := ti_rng b3; have r92 := ti_rng q; omega))
                    refine pb_eq (pc' := 147) (lo' := [(2, .int i37), (3, .int b3), (0, .ref h), (1, .int q)]) (rest' := []) (ws' := [(h, .inr (8, [.ref ui, .ref ug, .ref uv, .ref ur, .int ct, .int f3, .int bg, .int a3, .int en, .int i36, .int io, .int hi, .int ht])), (ur, .inl (G.2.1, 12000, .inl uf)), (uv, .inl (G.2.1, 24, .inl (upd g ((v : Int32).toNatClampNeg) (vp_nar .byte i35))))]) ?_
                    refine pb_goto (pc := 147) (tgt := 15) d_Markup_readValue_147 (by decide) ?_
                    refine pb_re (ws' := [(h, .inr (8, [.ref ui, .ref ug, .ref uv, .ref ur, .int ct, .int f3, .int bg, .int a3, .int en, .int i36, .int io, .int hi, .int ht])), (ur, .inl (G.2.1, 12000, .inl uf)), (uv, .inl (G.2.1, 24, .inl (upd g ((v : Int32).toNatClampNeg) (vp_nar .byte i35))))]) (lo' := [(2, .int i37), (0, .ref h), (1, .int q)]) [0, 1, 2] [0, 2, 3] (by decide) rfl rfl rfl ?_
                    exact ih15 i37 a3 f3 i36 (upd g ((v : Int32).toNatClampNeg) (vp_nar .byte i35)) (by first | (with_reducible exact F_g) | exact sb_fitU F_g (fit_nar _)) (by first | (with_reducible assumption) | omega (splitDisjunctions := false) | assumption | (clear fh9 hm9; first | omega (splitDisjunctions := false) | omega) | omega | decide) (by first | (with_reducible assumption) | omega (splitDisjunctions := false) | assumption | (clear fh9 hm9; first | omega (splitDisjunctions := false) | omega) | omega | decide) (by first | (with_reducible assumption) | omega (splitDisjunctions := false) | assumption | (clear fh9 hm9; first | omega (splitDisjunctions := false) | omega) | omega | decide) (by first | (with_reducible assumption) | omega (splitDisjunctions := false) | assumption | (clear fh9 hm9; first | omega (splitDisjunctions := false) | omega) | omega | decide) (by first | (with_reducible assumption) | omega (splitDisjunctions := false) | assumption | (clear fh9 hm9; first | omega (splitDisjunctions := false) | omega) | omega | decide) (by first | exact vL_j kW (by (exact omg_a68b14df83 h1F tw11)) (by (exact omg_9ca3507698 fh10 h1F fh18 tw19 tw24 tw29)) j6 (by omega) (fun u0 u1 j j0 j1 j2 => by have q7 := iC ⟨by omega, by omega⟩; rw [gx_updb rfl j (by omega) j0 (by omega)]; (by_cases c9 : j = v.toInt); rw [if_pos c9, if_pos c9]; omega; rw [if_neg c9, if_neg c9]) | exact vL_j kW (by omega) (by omega) j6 (by omega) (fun u0 u1 j j0 j1 j2 => by rw [if_neg (by omega)])) (by first | (with_reducible assumption) | omega (splitDisjunctions := false) | assumption | (clear fh9 hm9; first | omega (splitDisjunctions := false) | omega) | omega | decide) (by first | exact tn_dec hm9 (Int.not_lt.mp (by assumption)) (by assumption) | omega)
                refine pb_iload_n (pc := 71) d_Markup_readValue_71 0 rfl rfl ?_
                refine pb_bipush (pc := 72) (v := 38) d_Markup_readValue_72 (by decide) ?_
                refine pb_icmp_ne (pc := 74) (tgt := 114) d_Markup_readValue_74 (by decide) (fun w38 => ?_) (fun w38 => ?_)
                · have tw38 : ¬ r_14.toInt = 38 := fun z9 => w38 ((ti_eq rfl (by decide)).mpr z9)
                  refine pb_re (ws' := [(h, .inr (8, [.ref ui, .ref ug, .ref uv, .ref ur, .int ct, .int f, .int bg, .int i30, .int en, .int v, .int io, .int hi, .int ht])), (ur, .inl (G.2.1, 12000, .inl uf)), (uv, .inl (G.2.1, 24, .inl g))]) (lo' := [(3, .int r_14), (2, .int l_), (0, .ref h), (1, .int q)]) [1, 2, 0] [0, 1, 2, 3] (by decide) rfl rfl rfl ?_
                  exact hJ114_31 r_14 i30 f (by first | (with_reducible assumption) | omega (splitDisjunctions := false) | assumption | (clear fh9 hm9; first | omega (splitDisjunctions := false) | omega) | omega | decide) (by first | (with_reducible assumption) | omega (splitDisjunctions := false) | assumption | (clear fh9 hm9; first | omega (splitDisjunctions := false) | omega) | omega | decide) (by first | exact Or.inr ⟨by omega, rf_y rgF (by omega) t1F (by omega)⟩ | exact Or.inl ⟨by omega, by omega, by omega⟩) (by first | (unfold ft_ at t1FQ; omega) | rfl | omega)
                · have tw38 : r_14.toInt = 38 := (ti_eq rfl (by decide)).mp w38
                  refine pb_aload_n (pc := 77) d_Markup_readValue_77 2 rfl rfl ?_
                  refine pb_iconst (pc := 78) (v := 0) d_Markup_readValue_78 (by decide) ?_
                  refine pb_callV (pc := 79) (I := i_Markup_readValue) (qb := 1) (ci := 8) (nA := 1) (rest := []) (wr := [(uv, .inl (G.2.1, 24, .inl g))]) d_Markup_readValue_79 (g_Mu_next hl G h ui ug uv ur ct f bg i30 en v io hi ht uf 0 (by first | (with_reducible assumption) | (exact omg_ad66320eb1 a0 k0 ti30) | assumption | (clear fh9 hm9; first | omega (splitDisjunctions := false) | omega) | omega | decide) (by first | (with_reducible assumption) | omega (splitDisjunctions := false) | assumption | (clear fh9 hm9; first | omega (splitDisjunctions := false) | omega) | omega | decide) (by first | (with_reducible assumption) | omega (splitDisjunctions := false) | assumption | (clear fh9 hm9; first | omega (splitDisjunctions := false) | omega) | omega | decide) (by first | (with_reducible assumption) | omega (splitDisjunctions := false) | assumption | (clear fh9 hm9; first | omega (splitDisjunctions := false) | omega) | omega | decide) (by first | (with_reducible assumption) | omega (splitDisjunctions := false) | assumption | (clear fh9 hm9; first | omega (splitDisjunctions := false) | omega) | omega | decide) (by first | (with_reducible assumption) | omega (splitDisjunctions := false) | assumption | (clear fh9 hm9; first | omega (splitDisjunctions := false) | omega) | omega | decide) (by first | (with_reducible assumption) | omega (splitDisjunctions := false) | assumption | (clear fh9 hm9; first | omega (splitDisjunctions := false) | omega) | omega | decide) F_uf) rfl rfl [1, 2] [0] (by decide) rfl rfl rfl (by decide) (by decide) k_813 rfl k_125 k_810 k_812 k_33 ⟨rfl, hy_Markup_next⟩ (by decide) rfl rfl (Nat.le_of_ble_eq_true rfl) (by decide) (fun v9 u40 ch39 => ?_)
                  obtain ⟨r_41, rfl⟩ : ∃ z9, z9 = u40 := ⟨_, rfl⟩
                  obtain ⟨ech39, ch39⟩ := ch39
                  have ech39 : v9 = some (.int r_41) := ech39
                  subst ech39
                  obtain ⟨fh42, fh43, fh44, fh45⟩ : (-1 ≤ r_41.toInt) ∧ (r_41.toInt ≤ 255) ∧ (0 ≤ r_41.toInt → i30.toInt + (0 : Int32).toInt < en.toInt) ∧ (r_41.toInt = cm_ (mB_ uf bg.toInt) (en.toInt - bg.toInt) ((i30.toInt - bg.toInt) + (0 : Int32).toInt)) := ch39
                  have h3F := fh45
                  have h3G : r_41.toInt = cm_ (mB_ uf bg.toInt) (en.toInt - bg.toInt) (a.toInt - bg.toInt + 1) := by rw [h3F, zl0]; congr 1; omega
                  refine pb_eq (pc' := 82) (lo' := [(3, .int r_14), (2, .int l_), (0, .ref h), (1, .int q)]) (rest' := [.int r_41]) (ws' := [(uv, .inl (G.2.1, 24, .inl g)), (h, .inr (8, [.ref ui, .ref ug, .ref uv, .ref ur, .int ct, .int f, .int bg, .int i30, .int en, .int v, .int io, .int hi, .int ht])), (ur, .inl (G.2.1, 12000, .inl uf))]) ?_
                  refine pb_bipush (pc := 82) (v := 35) d_Markup_readValue_82 (by decide) ?_
                  refine pb_icmp_ne (pc := 84) (tgt := 94) d_Markup_readValue_84 (by decide) (fun w46 => ?_) (fun w46 => ?_)
                  · have tw46 : ¬ r_41.toInt = 35 := fun z9 => w46 ((ti_eq rfl (by decide)).mpr z9)
                    refine pb_aload_n (pc := 94) d_Markup_readValue_94 2 rfl rfl ?_
                    refine pb_callV (pc := 95) (I := i_Markup_readValue) (qb := 1) (ci := 8) (nA := 0) (rest := []) (wr := [(uv, .inl (G.2.1, 24, .inl g))]) d_Markup_readValue_95 (g_Mu_readNamed hl G h ui ug uv ur ct f bg i30 en v io hi ht uf (by first | (with_reducible assumption) | omega (splitDisjunctions := false) | assumption | (clear fh9 fh44 hm9; first | omega (splitDisjunctions := false) | omega) | omega | decide) (by first | (with_reducible assumption) | omega (splitDisjunctions := false) | assumption | (clear fh9 fh44 hm9; first | omega (splitDisjunctions := false) | omega) | omega | decide) (by first | (with_reducible assumption) | omega (splitDisjunctions := false) | assumption | (clear fh9 fh44 hm9; first | omega (splitDisjunctions := false) | omega) | omega | decide) (by first | (with_reducible assumption) | omega (splitDisjunctions := false) | assumption | (clear fh9 fh44 hm9; first | omega (splitDisjunctions := false) | omega) | omega | decide) (by first | (with_reducible assumption) | omega (splitDisjunctions := false) | assumption | (clear fh9 fh44 hm9; first | omega (splitDisjunctions := false) | omega) | omega | decide) F_uf) rfl rfl [1, 2] [0] (by decide) rfl rfl rfl (by decide) (by decide) k_871 rfl k_125 k_868 k_870 k_44 ⟨rfl, hy_Markup_readNamed⟩ (by decide) rfl rfl (Nat.le_of_ble_eq_true rfl) (by decide) (fun v9 u48 ch47 => ?_)
                    obtain ⟨r_49, at_50, f_51⟩ := u48
                    obtain ⟨ech47, ch47⟩ := ch47
                    have ech47 : v9 = some (.int r_49) := ech47
                    subst ech47
                    obtain ⟨fh52, fh53, fh54, fh55, fh56, fh57⟩ : (i30.toInt ≤ at_50.toInt) ∧ (at_50.toInt ≤ en.toInt) ∧ (-1 ≤ r_49.toInt) ∧ (r_49.toInt ≤ 126) ∧ (ov_ r_49.toInt (at_50.toInt - bg.toInt) = nM6_ (mB_ uf bg.toInt) (en.toInt - bg.toInt) (i30.toInt - bg.toInt)) ∧ (fn_ r_49.toInt f.toInt f_51.toInt) := ch47
                    have nmF := fh56
                    have rgF : (cm_ (mB_ uf bg.toInt) (en.toInt - bg.toInt) (a.toInt - bg.toInt + 1) = 35 ∧ ov_ r_49.toInt (at_50.toInt - bg.toInt) = nu_ (mB_ uf bg.toInt) (en.toInt - bg.toInt) (a.toInt - bg.toInt + 1)) ∨ (¬ cm_ (mB_ uf bg.toInt) (en.toInt - bg.toInt) (a.toInt - bg.toInt + 1) = 35 ∧ ov_ r_49.toInt (at_50.toInt - bg.toInt) = nM6_ (mB_ uf bg.toInt) (en.toInt - bg.toInt) (a.toInt - bg.toInt + 1)) := Or.inr ⟨by omega, by rw [nmF]; congr 1; omega⟩
                    have nuQ := fh57
                    unfold fn_ at nuQ
                    refine pb_eq (pc' := 98) (lo' := [(3, .int r_14), (2, .int l_), (0, .ref h), (1, .int q)]) (rest' := [.int r_49]) (ws' := [(uv, .inl (G.2.1, 24, .inl g)), (h, .inr (8, [.ref ui, .ref ug, .ref uv, .ref ur, .int ct, .int f_51, .int bg, .int at_50, .int en, .int v, .int io, .int hi, .int ht])), (ur, .inl (G.2.1, 12000, .inl uf))]) ?_
                    refine pb_istore_n (pc := 98) (lo' := [(3, .int r_49), (2, .int l_), (0, .ref h), (1, .int q)]) d_Markup_readValue_98 rfl (by decide) rfl ?_
                    refine pb_iload_n (pc := 99) d_Markup_readValue_99 0 rfl rfl ?_
                    refine pb_if_lt (pc := 100) (tgt := 112) d_Markup_readValue_100 (by decide) (fun w58 => ?_) (fun w58 => ?_)
                    · have tw58 : r_49.toInt < 0 := (ti_lt rfl (by decide)).mp w58
                      refine pb_iconst (pc := 112) (v := 0) d_Markup_readValue_112 (by decide) ?_
                      exact pb_iret (pc := 113) hQ d_Markup_readValue_113 rfl rfl (0, at_50, f_51, v, g) ⟨rfl, (by (try dsimp only); first | done | (with_reducible assumption) | omega (splitDisjunctions := false) | assumption | (clear fh9 fh44 hm9; first | omega (splitDisjunctions := false) | omega) | omega | decide), (by (try dsimp only); first | done | (with_reducible assumption) | omega (splitDisjunctions := false) | assumption | (clear fh9 fh44 hm9; first | omega (splitDisjunctions := false) | omega) | omega | decide), (by (try dsimp only); first | done | (with_reducible assumption) | omega (splitDisjunctions := false) | assumption | (clear fh9 fh44 hm9; first | omega (splitDisjunctions := false) | omega) | omega | decide), (by (try dsimp only); first | done | (with_reducible assumption) | omega (splitDisjunctions := false) | assumption | exact fun q90 => (by clear fh9 fh44 hm9; first | omega (splitDisjunctions := false) | omega) | omega | decide), (by (try dsimp only); first | done | (with_reducible assumption) | omega (splitDisjunctions := false) | assumption | (clear fh9 fh44 hm9; first | omega (splitDisjunctions := false) | omega) | omega | decide), (show vR_ 24 (vG (mB_ uf bg.toInt) (en.toInt - bg.toInt) q.toInt (at_.toInt - bg.toInt) 0 (fun _ => 0)) (1 - (0 : Int32).toInt) (at_50.toInt - bg.toInt) v.toInt g from (by first | exact vL_e (vL_k kW rfl (by omega) (by omega) rfl (rf_n2 rgF (by omega) t1F (by omega)) (by omega)) (Or.inl (by omega)) | exact vL_e (vL_k kW rfl (by (exact omg_a68b14df83 h1F tw11)) (by omega) rfl (rf_cn rgF (by omega)) (by omega)) (Or.inl (by omega)))), (show ft_ (0 : Int32).toInt fa.toInt f_51.toInt from (by first | exact (by unfold ft_ at t1FQ ⊢; omega) | exact (by unfold ft_; omega))), F_g⟩ [1, 2, 0] (by decide) rfl rfl (by decide) (by decide)
                    · have tw58 : ¬ r_49.toInt < 0 := fun z9 => w58 ((ti_lt rfl (by decide)).mpr z9)
                      refine pb_aload_n (pc := 103) d_Markup_readValue_103 2 rfl rfl ?_
                      refine pb_ldcS (pc := 104) (k := 15) d_Markup_readValue_104 rfl (by decide) ?_
                      refine pb_callV (pc := 106) (I := i_Markup_readValue) (qb := 1) (ci := 8) (nA := 1) (rest := []) (wr := [(uv, .inl (G.2.1, 24, .inl g))]) d_Markup_readValue_106 (g_Mu_takeText hl G h ui ug uv ur ct f_51 bg at_50 en v io hi ht uf 15 (by first | (with_reducible assumption) | (exact omg_92b22c8c22 a0 k0 ti30 fh52) | assumption | (clear fh9 fh44 hm9; first | omega (splitDisjunctions := false) | omega) | omega | decide) (by first | (with_reducible assumption) | omega (splitDisjunctions := false) | assumption | (clear fh9 fh44 hm9; first | omega (splitDisjunctions := false) | omega) | omega | decide) (by first | (with_reducible assumption) | omega (splitDisjunctions := false) | assumption | (clear fh9 fh44 hm9; first | omega (splitDisjunctions := false) | omega) | omega | decide) (by first | (with_reducible assumption) | omega (splitDisjunctions := false) | assumption | (clear fh9 fh44 hm9; first | omega (splitDisjunctions := false) | omega) | omega | decide) (by first | (with_reducible assumption) | omega (splitDisjunctions := false) | assumption | (clear fh9 fh44 hm9; first | omega (splitDisjunctions := false) | omega) | omega | decide) (by first | assumption | decide | omega) F_uf) rfl rfl [1, 2] [0] (by decide) rfl rfl rfl (by decide) (by decide) k_825 rfl k_125 k_822 k_824 k_35 ⟨rfl, hy_Markup_takeText⟩ (by decide) rfl rfl (Nat.le_of_ble_eq_true rfl) (by decide) (fun v9 u60 ch59 => ?_)
                      obtain ⟨r_61, at_62, f_63⟩ := u60
                      obtain ⟨ech59, ch59⟩ := ch59
                      have ech59 : v9 = some (.int r_61) := ech59
                      subst ech59
                      obtain ⟨fh64, fh65, fh66, fh67, fh68⟩ : (r_61.toInt = 0 ∨ r_61.toInt = 1) ∧ (at_50.toInt ≤ at_62.toInt) ∧ (at_62.toInt ≤ en.toInt) ∧ (oy_ r_61.toInt (at_62.toInt - bg.toInt) = wk_ (mB_ uf bg.toInt) (en.toInt - bg.toInt) (st_c 15) (st_len 15).toNat (at_50.toInt - bg.toInt)) ∧ (ft_ r_61.toInt f_51.toInt f_63.toInt) := ch59
                      have t1F := fh67
                      have t1FQ := fh68
                      rw [sw6 [59] (by decide +kernel) (by decide +kernel)] at t1F
                      refine pb_eq (pc' := 109) (lo' := [(3, .int r_49), (2, .int l_), (0, .ref h), (1, .int q)]) (rest' := [.int r_61]) (ws' := [(uv, .inl (G.2.1, 24, .inl g)), (h, .inr (8, [.ref ui, .ref ug, .ref uv, .ref ur, .int ct, .int f_63, .int bg, .int at_62, .int en, .int v, .int io, .int hi, .int ht])), (ur, .inl (G.2.1, 12000, .inl uf))]) ?_
                      refine pb_if_ne (pc := 109) (tgt := 114) d_Markup_readValue_109 (by decide) (fun w69 => ?_) (fun w69 => ?_)
                      · have tw69 : ¬ r_61.toInt = 0 := fun z9 => w69 ((ti_eq rfl (by decide)).mpr z9)
                        refine pb_re (ws' := [(h, .inr (8, [.ref ui, .ref ug, .ref uv, .ref ur, .int ct, .int f_63, .int bg, .int at_62, .int en, .int v, .int io, .int hi, .int ht])), (ur, .inl (G.2.1, 12000, .inl uf)), (uv, .inl (G.2.1, 24, .inl g))]) (lo' := [(3, .int r_49), (2, .int l_), (0, .ref h), (1, .int q)]) [1, 2, 0] [0, 1, 2, 3] (by decide) rfl rfl rfl ?_
                        exact hJ114_31 r_49 at_62 f_63 (by first | (with_reducible assumption) | omega (splitDisjunctions := false) | assumption | (clear fh9 fh44 hm9; first | omega (splitDisjunctions := false) | omega) | omega | decide) (by first | (with_reducible assumption) | omega (splitDisjunctions := false) | assumption | (clear fh9 fh44 hm9; first | omega (splitDisjunctions := false) | omega) | omega | decide) (by first | exact Or.inr ⟨by omega, rf_y rgF (by omega) t1F (by omega)⟩ | exact Or.inl ⟨by omega, by omega, by omega⟩) (by first | (unfold ft_ at t1FQ; (exact omg_57e731fb32 lf nuQ tw58 t1FQ tw69)) | rfl | omega)
                      · have tw69 : r_61.toInt = 0 := (ti_eq rfl (by decide)).mp w69
                        refine pb_iconst (pc := 112) (v := 0) d_Markup_readValue_112 (by decide) ?_
                        exact pb_iret (pc := 113) hQ d_Markup_readValue_113 rfl rfl (0, at_62, f_63, v, g) ⟨rfl, (by (try dsimp only); first | done | (with_reducible assumption) | omega (splitDisjunctions := false) | assumption | (clear fh9 fh44 hm9; first | omega (splitDisjunctions := false) | omega) | omega | decide), (by (try dsimp only); first | done | (with_reducible assumption) | omega (splitDisjunctions := false) | assumption | (clear fh9 fh44 hm9; first | omega (splitDisjunctions := false) | omega) | omega | decide), (by (try dsimp only); first | done | (with_reducible assumption) | omega (splitDisjunctions := false) | assumption | (clear fh9 fh44 hm9; first | omega (splitDisjunctions := false) | omega) | omega | decide), (by (try dsimp only); first | done | (with_reducible assumption) | omega (splitDisjunctions := false) | assumption | exact fun q90 => (by clear fh9 fh44 hm9; first | omega (splitDisjunctions := false) | omega) | omega | decide), (by (try dsimp only); first | done | (with_reducible assumption) | omega (splitDisjunctions := false) | assumption | (clear fh9 fh44 hm9; first | omega (splitDisjunctions := false) | omega) | omega | decide), (show vR_ 24 (vG (mB_ uf bg.toInt) (en.toInt - bg.toInt) q.toInt (at_.toInt - bg.toInt) 0 (fun _ => 0)) (1 - (0 : Int32).toInt) (at_62.toInt - bg.toInt) v.toInt g from (by first | exact vL_e (vL_k kW rfl (by (exact omg_a68b14df83 h1F tw11)) (by omega) rfl (rf_n2 rgF (by omega) t1F (by omega)) (by omega)) (Or.inl (by omega)) | exact vL_e (vL_k kW rfl (by omega) (by omega) rfl (rf_cn rgF (by omega)) (by omega)) (Or.inl (by omega)))), (show ft_ (0 : Int32).toInt fa.toInt f_63.toInt from (by first | exact (by unfold ft_ at t1FQ ⊢; omega) | exact (by unfold ft_; omega))), F_g⟩ [1, 2, 0] (by decide) rfl rfl (by decide) (by decide)
                  · have tw46 : r_41.toInt = 35 := (ti_eq rfl (by decide)).mp w46
                    refine pb_aload_n (pc := 87) d_Markup_readValue_87 2 rfl rfl ?_
                    refine pb_callV (pc := 88) (I := i_Markup_readValue) (qb := 1) (ci := 8) (nA := 0) (rest := []) (wr := [(uv, .inl (G.2.1, 24, .inl g))]) d_Markup_readValue_88 (g_Mu_readNumber hl G h ui ug uv ur ct f bg i30 en v io hi ht uf (by first | (with_reducible assumption) | omega (splitDisjunctions := false) | assumption | (clear fh9 fh44 hm9; first | omega (splitDisjunctions := false) | omega) | omega | decide) (by first | (with_reducible assumption) | omega (splitDisjunctions := false) | assumption | (clear fh9 fh44 hm9; first | omega (splitDisjunctions := false) | omega) | omega | decide) (by first | (with_reducible assumption) | omega (splitDisjunctions := false) | assumption | (clear fh9 fh44 hm9; first | omega (splitDisjunctions := false) | omega) | omega | decide) (by first | (with_reducible assumption) | omega (splitDisjunctions := false) | assumption | (clear fh9 fh44 hm9; first | omega (splitDisjunctions := false) | omega) | omega | decide) (by first | (with_reducible assumption) | omega (splitDisjunctions := false) | assumption | (clear fh9 fh44 hm9; first | omega (splitDisjunctions := false) | omega) | omega | decide) (by first | (with_reducible assumption) | omega (splitDisjunctions := false) | assumption | (clear fh9 fh44 hm9; first | omega (splitDisjunctions := false) | omega) | omega | decide) F_uf) rfl rfl [1, 2] [0] (by decide) rfl rfl rfl (by decide) (by decide) k_867 rfl k_125 k_864 k_866 k_43 ⟨rfl, hy_Markup_readNumber⟩ (by decide) rfl rfl (Nat.le_of_ble_eq_true rfl) (by decide) (fun v9 u71 ch70 => ?_)
                    obtain ⟨r_72, at_73, f_74⟩ := u71
                    obtain ⟨ech70, ch70⟩ := ch70
                    have ech70 : v9 = some (.int r_72) := ech70
                    subst ech70
                    obtain ⟨fh75, fh76, fh77, fh78, fh79, fh80⟩ : (i30.toInt ≤ at_73.toInt) ∧ (at_73.toInt ≤ en.toInt) ∧ (-1 ≤ r_72.toInt) ∧ (r_72.toInt ≤ 126) ∧ (ov_ r_72.toInt (at_73.toInt - bg.toInt) = nu_ (mB_ uf bg.toInt) (en.toInt - bg.toInt) (i30.toInt - bg.toInt)) ∧ (fn_ r_72.toInt f.toInt f_74.toInt) := ch70
                    have nuF := fh79
                    have rgF : (cm_ (mB_ uf bg.toInt) (en.toInt - bg.toInt) (a.toInt - bg.toInt + 1) = 35 ∧ ov_ r_72.toInt (at_73.toInt - bg.toInt) = nu_ (mB_ uf bg.toInt) (en.toInt - bg.toInt) (a.toInt - bg.toInt + 1)) ∨ (¬ cm_ (mB_ uf bg.toInt) (en.toInt - bg.toInt) (a.toInt - bg.toInt + 1) = 35 ∧ ov_ r_72.toInt (at_73.toInt - bg.toInt) = nM6_ (mB_ uf bg.toInt) (en.toInt - bg.toInt) (a.toInt - bg.toInt + 1)) := Or.inl ⟨by omega, by rw [nuF]; congr 1; omega⟩
                    have nuQ := fh80
                    unfold fn_ at nuQ
                    refine pb_eq (pc' := 91) (lo' := [(3, .int r_14), (2, .int l_), (0, .ref h), (1, .int q)]) (rest' := [.int r_72]) (ws' := [(uv, .inl (G.2.1, 24, .inl g)), (h, .inr (8, [.ref ui, .ref ug, .ref uv, .ref ur, .int ct, .int f_74, .int bg, .int at_73, .int en, .int v, .int io, .int hi, .int ht])), (ur, .inl (G.2.1, 12000, .inl uf))]) ?_
                    refine pb_goto (pc := 91) (tgt := 98) d_Markup_readValue_91 (by decide) ?_
                    refine pb_istore_n (pc := 98) (lo' := [(3, .int r_72), (2, .int l_), (0, .ref h), (1, .int q)]) d_Markup_readValue_98 rfl (by decide) rfl ?_
                    refine pb_iload_n (pc := 99) d_Markup_readValue_99 0 rfl rfl ?_
                    refine pb_if_lt (pc := 100) (tgt := 112) d_Markup_readValue_100 (by decide) (fun w81 => ?_) (fun w81 => ?_)
                    · have tw81 : r_72.toInt < 0 := (ti_lt rfl (by decide)).mp w81
                      refine pb_iconst (pc := 112) (v := 0) d_Markup_readValue_112 (by decide) ?_
                      exact pb_iret (pc := 113) hQ d_Markup_readValue_113 rfl rfl (0, at_73, f_74, v, g) ⟨rfl, (by (try dsimp only); first | done | (with_reducible assumption) | omega (splitDisjunctions := false) | assumption | (clear fh9 fh44 hm9; first | omega (splitDisjunctions := false) | omega) | omega | decide), (by (try dsimp only); first | done | (with_reducible assumption) | omega (splitDisjunctions := false) | assumption | (clear fh9 fh44 hm9; first | omega (splitDisjunctions := false) | omega) | omega | decide), (by (try dsimp only); first | done | (with_reducible assumption) | omega (splitDisjunctions := false) | assumption | (clear fh9 fh44 hm9; first | omega (splitDisjunctions := false) | omega) | omega | decide), (by (try dsimp only); first | done | (with_reducible assumption) | omega (splitDisjunctions := false) | assumption | exact fun q90 => (by clear fh9 fh44 hm9; first | omega (splitDisjunctions := false) | omega) | omega | decide), (by (try dsimp only); first | done | (with_reducible assumption) | omega (splitDisjunctions := false) | assumption | (clear fh9 fh44 hm9; first | omega (splitDisjunctions := false) | omega) | omega | decide), (show vR_ 24 (vG (mB_ uf bg.toInt) (en.toInt - bg.toInt) q.toInt (at_.toInt - bg.toInt) 0 (fun _ => 0)) (1 - (0 : Int32).toInt) (at_73.toInt - bg.toInt) v.toInt g from (by first | exact vL_e (vL_k kW rfl (by omega) (by omega) rfl (rf_n2 rgF (by omega) t1F (by omega)) (by omega)) (Or.inl (by omega)) | exact vL_e (vL_k kW rfl (by (exact omg_a68b14df83 h1F tw11)) (by omega) rfl (rf_cn rgF (by omega)) (by omega)) (Or.inl (by omega)))), (show ft_ (0 : Int32).toInt fa.toInt f_74.toInt from (by first | exact (by unfold ft_ at t1FQ ⊢; omega) | exact (by unfold ft_; omega))), F_g⟩ [1, 2, 0] (by decide) rfl rfl (by decide) (by decide)
                    · have tw81 : ¬ r_72.toInt < 0 := fun z9 => w81 ((ti_lt rfl (by decide)).mpr z9)
                      refine pb_aload_n (pc := 103) d_Markup_readValue_103 2 rfl rfl ?_
                      refine pb_ldcS (pc := 104) (k := 15) d_Markup_readValue_104 rfl (by decide) ?_
                      refine pb_callV (pc := 106) (I := i_Markup_readValue) (qb := 1) (ci := 8) (nA := 1) (rest := []) (wr := [(uv, .inl (G.2.1, 24, .inl g))]) d_Markup_readValue_106 (g_Mu_takeText hl G h ui ug uv ur ct f_74 bg at_73 en v io hi ht uf 15 (by first | (with_reducible assumption) | omega (splitDisjunctions := false) | assumption | (clear fh9 fh44 hm9; first | omega (splitDisjunctions := false) | omega) | omega | decide) (by first | (with_reducible assumption) | omega (splitDisjunctions := false) | assumption | (clear fh9 fh44 hm9; first | omega (splitDisjunctions := false) | omega) | omega | decide) (by first | (with_reducible assumption) | omega (splitDisjunctions := false) | assumption | (clear fh9 fh44 hm9; first | omega (splitDisjunctions := false) | omega) | omega | decide) (by first | (with_reducible assumption) | omega (splitDisjunctions := false) | assumption | (clear fh9 fh44 hm9; first | omega (splitDisjunctions := false) | omega) | omega | decide) (by first | (with_reducible assumption) | omega (splitDisjunctions := false) | assumption | (clear fh9 fh44 hm9; first | omega (splitDisjunctions := false) | omega) | omega | decide) (by first | assumption | decide | omega) F_uf) rfl rfl [1, 2] [0] (by decide) rfl rfl rfl (by decide) (by decide) k_825 rfl k_125 k_822 k_824 k_35 ⟨rfl, hy_Markup_takeText⟩ (by decide) rfl rfl (Nat.le_of_ble_eq_true rfl) (by decide) (fun v9 u83 ch82 => ?_)
                      obtain ⟨r_84, at_85, f_86⟩ := u83
                      obtain ⟨ech82, ch82⟩ := ch82
                      have ech82 : v9 = some (.int r_84) := ech82
                      subst ech82
                      obtain ⟨fh87, fh88, fh89, fh90, fh91⟩ : (r_84.toInt = 0 ∨ r_84.toInt = 1) ∧ (at_73.toInt ≤ at_85.toInt) ∧ (at_85.toInt ≤ en.toInt) ∧ (oy_ r_84.toInt (at_85.toInt - bg.toInt) = wk_ (mB_ uf bg.toInt) (en.toInt - bg.toInt) (st_c 15) (st_len 15).toNat (at_73.toInt - bg.toInt)) ∧ (ft_ r_84.toInt f_74.toInt f_86.toInt) := ch82
                      have t1F := fh90
                      have t1FQ := fh91
                      rw [sw6 [59] (by decide +kernel) (by decide +kernel)] at t1F
                      refine pb_eq (pc' := 109) (lo' := [(3, .int r_72), (2, .int l_), (0, .ref h), (1, .int q)]) (rest' := [.int r_84]) (ws' := [(uv, .inl (G.2.1, 24, .inl g)), (h, .inr (8, [.ref ui, .ref ug, .ref uv, .ref ur, .int ct, .int f_86, .int bg, .int at_85, .int en, .int v, .int io, .int hi, .int ht])), (ur, .inl (G.2.1, 12000, .inl uf))]) ?_
                      refine pb_if_ne (pc := 109) (tgt := 114) d_Markup_readValue_109 (by decide) (fun w92 => ?_) (fun w92 => ?_)
                      · have tw92 : ¬ r_84.toInt = 0 := fun z9 => w92 ((ti_eq rfl (by decide)).mpr z9)
                        refine pb_re (ws' := [(h, .inr (8, [.ref ui, .ref ug, .ref uv, .ref ur, .int ct, .int f_86, .int bg, .int at_85, .int en, .int v, .int io, .int hi, .int ht])), (ur, .inl (G.2.1, 12000, .inl uf)), (uv, .inl (G.2.1, 24, .inl g))]) (lo' := [(3, .int r_72), (2, .int l_), (0, .ref h), (1, .int q)]) [1, 2, 0] [0, 1, 2, 3] (by decide) rfl rfl rfl ?_
                        exact hJ114_31 r_72 at_85 f_86 (by first | (with_reducible assumption) | omega (splitDisjunctions := false) | assumption | (clear fh9 fh44 hm9; first | omega (splitDisjunctions := false) | omega) | omega | decide) (by first | (with_reducible assumption) | omega (splitDisjunctions := false) | assumption | (clear fh9 fh44 hm9; first | omega (splitDisjunctions := false) | omega) | omega | decide) (by first | exact Or.inr ⟨by omega, rf_y rgF (by omega) t1F (by omega)⟩ | exact Or.inl ⟨by omega, by omega, by omega⟩) (by first | (unfold ft_ at t1FQ; omega) | rfl | omega)
                      · have tw92 : r_84.toInt = 0 := (ti_eq rfl (by decide)).mp w92
                        refine pb_iconst (pc := 112) (v := 0) d_Markup_readValue_112 (by decide) ?_
                        exact pb_iret (pc := 113) hQ d_Markup_readValue_113 rfl rfl (0, at_85, f_86, v, g) ⟨rfl, (by (try dsimp only); first | done | (with_reducible assumption) | omega (splitDisjunctions := false) | assumption | (clear fh9 fh44 hm9; first | omega (splitDisjunctions := false) | omega) | omega | decide), (by (try dsimp only); first | done | (with_reducible assumption) | omega (splitDisjunctions := false) | assumption | (clear fh9 fh44 hm9; first | omega (splitDisjunctions := false) | omega) | omega | decide), (by (try dsimp only); first | done | (with_reducible assumption) | omega (splitDisjunctions := false) | assumption | (clear fh9 fh44 hm9; first | omega (splitDisjunctions := false) | omega) | omega | decide), (by (try dsimp only); first | done | (with_reducible assumption) | omega (splitDisjunctions := false) | assumption | exact fun q90 => (by clear fh9 fh44 hm9; first | omega (splitDisjunctions := false) | omega) | omega | decide), (by (try dsimp only); first | done | (with_reducible assumption) | omega (splitDisjunctions := false) | assumption | (clear fh9 fh44 hm9; first | omega (splitDisjunctions := false) | omega) | omega | decide), (show vR_ 24 (vG (mB_ uf bg.toInt) (en.toInt - bg.toInt) q.toInt (at_.toInt - bg.toInt) 0 (fun _ => 0)) (1 - (0 : Int32).toInt) (at_85.toInt - bg.toInt) v.toInt g from (by first | exact vL_e (vL_k kW rfl (by (exact omg_a68b14df83 h1F tw11)) (by omega) rfl (rf_n2 rgF (by omega) t1F (by omega)) (by omega)) (Or.inl (by omega)) | exact vL_e (vL_k kW rfl (by omega) (by omega) rfl (rf_cn rgF (by omega)) (by omega)) (Or.inl (by omega)))), (show ft_ (0 : Int32).toInt fa.toInt f_86.toInt from (by first | exact (by unfold ft_ at t1FQ ⊢; omega) | exact (by unfold ft_; omega))), F_g⟩ [1, 2, 0] (by decide) rfl rfl (by decide) (by decide)
              · have tw29 : r_14.toInt = 60 := (ti_eq rfl (by decide)).mp w29
                refine pb_aload_n (pc := 52) d_Markup_readValue_52 2 rfl rfl ?_
                refine pb_aload_n (pc := 53) d_Markup_readValue_53 2 rfl rfl ?_
                refine pb_get (pc := 54) d_Markup_readValue_54 1 7 rfl rfl (by decide) in_Markup k_326 rfl ?_
                refine pb_callV (pc := 57) (I := i_Markup_readValue) (qb := 1) (ci := 8) (nA := 1) (rest := []) (wr := [(uv, .inl (G.2.1, 24, .inl g)), (ur, .inl (G.2.1, 12000, .inl uf))]) d_Markup_readValue_57 (g_Mu_fail hl G h ui ug uv ur ct f bg a en v io hi ht a (by first | (with_reducible assumption) | omega (splitDisjunctions := false) | assumption | (clear fh9 nxB hm9; first | omega (splitDisjunctions := false) | omega) | omega | decide) (by first | (with_reducible assumption) | omega (splitDisjunctions := false) | assumption | (clear fh9 nxB hm9; first | omega (splitDisjunctions := false) | omega) | omega | decide) (by first | (with_reducible assumption) | omega (splitDisjunctions := false) | assumption | (clear fh9 nxB hm9; first | omega (splitDisjunctions := false) | omega) | omega | decide)) rfl rfl [1] [0, 2] (by decide) rfl rfl rfl (by decide) (by decide) k_831 rfl k_125 k_828 k_830 k_36 ⟨rfl, hy_Markup_fail⟩ (by decide) rfl rfl (Nat.le_of_ble_eq_true rfl) (by decide) (fun v9 u94 ch93 => ?_)
                obtain ⟨f_95, rfl⟩ : ∃ z9, z9 = u94 := ⟨_, rfl⟩
                obtain ⟨ech93, ch93⟩ := ch93
                have ech93 : v9 = some (.int 0) := ech93
                subst ech93
                have fh96 : 0 ≤ f_95.toInt := ch93
                have flF := fh96
                refine pb_eq (pc' := 60) (lo' := [(3, .int r_14), (2, .int l_), (0, .ref h), (1, .int q)]) (rest' := [.int 0]) (ws' := [(uv, .inl (G.2.1, 24, .inl g)), (ur, .inl (G.2.1, 12000, .inl uf)), (h, .inr (8, [.ref ui, .ref ug, .ref uv, .ref ur, .int ct, .int f_95, .int bg, .int a, .int en, .int v, .int io, .int hi, .int ht]))]) ?_
                exact pb_iret (pc := 60) hQ d_Markup_readValue_60 rfl rfl (0, a, f_95, v, g) ⟨rfl, (by (try dsimp only); first | done | (with_reducible assumption) | omega (splitDisjunctions := false) | assumption | (clear fh9 nxB hm9; first | omega (splitDisjunctions := false) | omega) | omega | decide), (by (try dsimp only); first | done | (with_reducible assumption) | omega (splitDisjunctions := false) | assumption | (clear fh9 nxB hm9; first | omega (splitDisjunctions := false) | omega) | omega | decide), (by (try dsimp only); first | done | (with_reducible assumption) | omega (splitDisjunctions := false) | assumption | (clear fh9 nxB hm9; first | omega (splitDisjunctions := false) | omega) | omega | decide), (by (try dsimp only); first | done | (with_reducible assumption) | omega (splitDisjunctions := false) | assumption | exact fun q90 => (by clear fh9 nxB hm9; first | omega (splitDisjunctions := false) | omega) | omega | decide), (by (try dsimp only); first | done | (with_reducible assumption) | omega (splitDisjunctions := false) | assumption | (clear fh9 nxB hm9; first | omega (splitDisjunctions := false) | omega) | omega | decide), (show vR_ 24 (vG (mB_ uf bg.toInt) (en.toInt - bg.toInt) q.toInt (at_.toInt - bg.toInt) 0 (fun _ => 0)) (1 - (0 : Int32).toInt) (a.toInt - bg.toInt) v.toInt g from (vL_e (vL_x kW rfl (by (exact omg_a68b14df83 h1F tw11)) (by omega) (by omega)) (Or.inl (by omega)))), (show ft_ (0 : Int32).toInt fa.toInt f_95.toInt from (ft_f zl0 flF)), F_g⟩ [2, 1, 0] (by decide) rfl rfl (by decide) (by decide)
  exact hL15_2 _ i1 at_ fa 0 vf F_vf (by first | (with_reducible assumption) | omega (splitDisjunctions := false) | assumption | omega | decide) (by first | (with_reducible assumption) | omega (splitDisjunctions := false) | assumption | omega | decide) (by first | (with_reducible assumption) | omega (splitDisjunctions := false) | assumption | omega | decide) (by first | (with_reducible assumption) | omega (splitDisjunctions := false) | assumption | omega | decide) (by first | (with_reducible assumption) | omega (splitDisjunctions := false) | assumption | omega | decide) (vL_i zl0) (by first | (with_reducible assumption) | omega (splitDisjunctions := false) | assumption | omega | decide) (Nat.lt_succ_self _)

theorem d_Markup_keepId_0 : decode prog_7_method_15_code 0 = .ok (.aload_n 0, 1) := by decide +kernel
theorem d_Markup_keepId_1 : decode prog_7_method_15_code 1 = .ok (.getfield 135, 3) := by decide +kernel
theorem d_Markup_keepId_4 : decode prog_7_method_15_code 4 = .ok (.iconst 1, 1) := by decide +kernel
theorem d_Markup_keepId_5 : decode prog_7_method_15_code 5 = .ok (.if_icmp .lt 22, 3) := by decide +kernel
theorem d_Markup_keepId_27 : decode prog_7_method_15_code 27 = .ok (.iconst 0, 1) := by decide +kernel
theorem d_Markup_keepId_28 : decode prog_7_method_15_code 28 = .ok (.ireturn, 1) := by decide +kernel
theorem d_Markup_keepId_8 : decode prog_7_method_15_code 8 = .ok (.aload_n 0, 1) := by decide +kernel
theorem d_Markup_keepId_9 : decode prog_7_method_15_code 9 = .ok (.getfield 135, 3) := by decide +kernel
theorem d_Markup_keepId_12 : decode prog_7_method_15_code 12 = .ok (.bipush 8, 2) := by decide +kernel
theorem d_Markup_keepId_14 : decode prog_7_method_15_code 14 = .ok (.if_icmp .gt 13, 3) := by decide +kernel
theorem d_Markup_keepId_17 : decode prog_7_method_15_code 17 = .ok (.aload_n 0, 1) := by decide +kernel
theorem d_Markup_keepId_18 : decode prog_7_method_15_code 18 = .ok (.getfield 35, 3) := by decide +kernel
theorem k_321 : (Jvm.Cond.fieldLink "PackageBook$Markup" (35 : Nat) "PackageBook$Markup" "count" "I") ∈ uW := uW_of 321 (by decide +kernel) (by decide +kernel)
theorem d_Markup_keepId_21 : decode prog_7_method_15_code 21 = .ok (.sipush 200, 3) := by decide +kernel
theorem d_Markup_keepId_24 : decode prog_7_method_15_code 24 = .ok (.if_icmp .lt 5, 3) := by decide +kernel
theorem d_Markup_keepId_29 : decode prog_7_method_15_code 29 = .ok (.lconst 0, 1) := by decide +kernel
theorem d_Markup_keepId_30 : decode prog_7_method_15_code 30 = .ok (.lstore_n 1, 1) := by decide +kernel
theorem d_Markup_keepId_31 : decode prog_7_method_15_code 31 = .ok (.iconst 0, 1) := by decide +kernel
theorem d_Markup_keepId_32 : decode prog_7_method_15_code 32 = .ok (.istore_n 3, 1) := by decide +kernel
theorem d_Markup_keepId_33 : decode prog_7_method_15_code 33 = .ok (.iload_n 3, 1) := by decide +kernel
theorem d_Markup_keepId_34 : decode prog_7_method_15_code 34 = .ok (.aload_n 0, 1) := by decide +kernel
theorem d_Markup_keepId_35 : decode prog_7_method_15_code 35 = .ok (.getfield 135, 3) := by decide +kernel
theorem d_Markup_keepId_38 : decode prog_7_method_15_code 38 = .ok (.if_icmp .ge 22, 3) := by decide +kernel
theorem d_Markup_keepId_60 : decode prog_7_method_15_code 60 = .ok (.aload_n 0, 1) := by decide +kernel
theorem d_Markup_keepId_61 : decode prog_7_method_15_code 61 = .ok (.getfield 11, 3) := by decide +kernel
theorem d_Markup_keepId_64 : decode prog_7_method_15_code 64 = .ok (.aload_n 0, 1) := by decide +kernel
theorem d_Markup_keepId_65 : decode prog_7_method_15_code 65 = .ok (.getfield 35, 3) := by decide +kernel
theorem d_Markup_keepId_68 : decode prog_7_method_15_code 68 = .ok (.lload_n 1, 1) := by decide +kernel
theorem d_Markup_keepId_69 : decode prog_7_method_15_code 69 = .ok (.lastore, 1) := by decide +kernel
theorem d_Markup_keepId_70 : decode prog_7_method_15_code 70 = .ok (.aload_n 0, 1) := by decide +kernel
theorem d_Markup_keepId_71 : decode prog_7_method_15_code 71 = .ok (.iconst 1, 1) := by decide +kernel
theorem d_Markup_keepId_72 : decode prog_7_method_15_code 72 = .ok (.putfield 102, 3) := by decide +kernel
theorem k_330 : (Jvm.Cond.fieldLink "PackageBook$Markup" (102 : Nat) "PackageBook$Markup" "hasId" "Z") ∈ uW := uW_of 330 (by decide +kernel) (by decide +kernel)
theorem d_Markup_keepId_75 : decode prog_7_method_15_code 75 = .ok (.iconst 1, 1) := by decide +kernel
theorem d_Markup_keepId_76 : decode prog_7_method_15_code 76 = .ok (.ireturn, 1) := by decide +kernel
theorem d_Markup_keepId_41 : decode prog_7_method_15_code 41 = .ok (.lload_n 1, 1) := by decide +kernel
theorem d_Markup_keepId_42 : decode prog_7_method_15_code 42 = .ok (.bipush 8, 2) := by decide +kernel
theorem d_Markup_keepId_44 : decode prog_7_method_15_code 44 = .ok (.lshl, 1) := by decide +kernel
theorem d_Markup_keepId_45 : decode prog_7_method_15_code 45 = .ok (.aload_n 0, 1) := by decide +kernel
theorem d_Markup_keepId_46 : decode prog_7_method_15_code 46 = .ok (.getfield 19, 3) := by decide +kernel
theorem d_Markup_keepId_49 : decode prog_7_method_15_code 49 = .ok (.iload_n 3, 1) := by decide +kernel
theorem d_Markup_keepId_50 : decode prog_7_method_15_code 50 = .ok (.baload, 1) := by decide +kernel
theorem d_Markup_keepId_51 : decode prog_7_method_15_code 51 = .ok (.i2l, 1) := by decide +kernel
theorem d_Markup_keepId_52 : decode prog_7_method_15_code 52 = .ok (.lor, 1) := by decide +kernel
theorem d_Markup_keepId_53 : decode prog_7_method_15_code 53 = .ok (.lstore_n 1, 1) := by decide +kernel
theorem d_Markup_keepId_54 : decode prog_7_method_15_code 54 = .ok (.iinc 3 1, 3) := by decide +kernel
theorem d_Markup_keepId_57 : decode prog_7_method_15_code 57 = .ok (.goto (-24), 3) := by decide +kernel
abbrev y_Markup_keepId : MethodName := ⟨"PackageBook$Markup", "keepId", "()Z"⟩
abbrev i_Markup_keepId : pb_I := (y_Markup_keepId, prog_7_method_15_code, 4, (some Jvm.ClassFile.FieldType.boolean), [], { frames := 0, cells := 0, slots := 0, locals := 0 })
set_option maxRecDepth 100000 in
set_option maxHeartbeats 4000000 in
theorem g_Mu_keepId {l : Launch} (hl : l.stackTraces = false) (G : pb_G) (h : Nat) (ui : Nat) (ug : Nat) (uv : Nat) (ur : Nat) (ct : Int32) (fa : Int32) (bg : Int32) (at_ : Int32) (en : Int32) (vs : Int32) (io : Int32) (hi : Int32) (ht : Int32) (vf : Nat → Int32) (df : Nat → Int64) (c0 : 0 ≤ ct.toInt) (c2 : ct.toInt < 200) (F_vf : sb_Fit vf) : Cn l G i_Markup_keepId [.ref h] [(h, .inr (8, [.ref ui, .ref ug, .ref uv, .ref ur, .int ct, .int fa, .int bg, .int at_, .int en, .int vs, .int io, .int hi, .int ht])), (uv, .inl (G.2.1, 24, .inl vf)), (ui, .inl (G.2.2.2.1, 200, .inr (.inl df)))] (S := Int32 × Int32 × (Nat → Int64)) (fun rv_ u => rv_ = some (.int u.1) ∧ (u.1.toInt = 0 ∨ u.1.toInt = 1) ∧ (u.2.1.toInt ≠ 0 → hi.toInt ≠ 0 ∨ ct.toInt < 200) ∧ (u.1.toInt = 1 → ct.toInt < 200) ∧ ((¬ u.1.toInt = 0 ∧ 1 ≤ vs.toInt ∧ vs.toInt ≤ 8 ∧ u.2.1.toInt = 1) ∨ (u.1.toInt = 0 ∧ ¬ (1 ≤ vs.toInt ∧ vs.toInt ≤ 8)))) (fun u => [(h, .inr (8, [.ref ui, .ref ug, .ref uv, .ref ur, .int ct, .int fa, .int bg, .int at_, .int en, .int vs, .int io, .int u.2.1, .int ht])), (uv, .inl (G.2.1, 24, .inl vf)), (ui, .inl (G.2.2.2.1, 200, .inr (.inl u.2.2)))]) := by
  refine Cn.of hl (by decide +kernel) rfl (Nat.le_of_ble_eq_true rfl) (fun M hQ => ?_)
  refine pb_eq (pc' := 0) (lo' := [(0, .ref h)]) (rest' := []) (ws' := [(h, .inr (8, [.ref ui, .ref ug, .ref uv, .ref ur, .int ct, .int fa, .int bg, .int at_, .int en, .int vs, .int io, .int hi, .int ht])), (uv, .inl (G.2.1, 24, .inl vf)), (ui, .inl (G.2.2.2.1, 200, .inr (.inl df)))]) ?_
  have zl0 : (0 : Int32).toInt = 0 := by decide
  have zl1 : (1 : Int32).toInt = 1 := by decide
  refine pb_aload_n (pc := 0) d_Markup_keepId_0 0 rfl rfl ?_
  refine pb_get (pc := 1) d_Markup_keepId_1 0 9 rfl rfl (by decide) in_Markup k_328 rfl ?_
  refine pb_iconst (pc := 4) (v := 1) d_Markup_keepId_4 (by decide) ?_
  refine pb_icmp_lt (pc := 5) (tgt := 27) d_Markup_keepId_5 (by decide) (fun w1 => ?_) (fun w1 => ?_)
  · have tw1 : vs.toInt < 1 := (ti_lt rfl (by decide)).mp w1
    refine pb_iconst (pc := 27) (v := 0) d_Markup_keepId_27 (by decide) ?_
    exact pb_iret (pc := 28) hQ d_Markup_keepId_28 rfl rfl (0, hi, df) ⟨rfl, (by (try dsimp only); first | done | (with_reducible assumption) | omega (splitDisjunctions := false) | assumption | omega | decide), (by (try dsimp only); first | done | (with_reducible assumption) | omega (splitDisjunctions := false) | assumption | omega | decide), (by (try dsimp only); first | done | (with_reducible assumption) | omega (splitDisjunctions := false) | assumption | omega | decide), (by (try dsimp only); first | done | (with_reducible assumption) | omega (splitDisjunctions := false) | assumption | omega | decide)⟩ [0, 1, 2] (by decide) rfl rfl (by decide) (by decide)
  · have tw1 : ¬ vs.toInt < 1 := fun z9 => w1 ((ti_lt rfl (by decide)).mpr z9)
    refine pb_aload_n (pc := 8) d_Markup_keepId_8 0 rfl rfl ?_
    refine pb_get (pc := 9) d_Markup_keepId_9 0 9 rfl rfl (by decide) in_Markup k_328 rfl ?_
    refine pb_bipush (pc := 12) (v := 8) d_Markup_keepId_12 (by decide) ?_
    refine pb_icmp_gt (pc := 14) (tgt := 27) d_Markup_keepId_14 (by decide) (fun w2 => ?_) (fun w2 => ?_)
    · have tw2 : 8 < vs.toInt := (ti_lt (by decide) rfl).mp w2
      refine pb_iconst (pc := 27) (v := 0) d_Markup_keepId_27 (by decide) ?_
      exact pb_iret (pc := 28) hQ d_Markup_keepId_28 rfl rfl (0, hi, df) ⟨rfl, (by (try dsimp only); first | done | (with_reducible assumption) | omega (splitDisjunctions := false) | assumption | omega | decide), (by (try dsimp only); first | done | (with_reducible assumption) | omega (splitDisjunctions := false) | assumption | omega | decide), (by (try dsimp only); first | done | (with_reducible assumption) | omega (splitDisjunctions := false) | assumption | omega | decide), (by (try dsimp only); first | done | (with_reducible assumption) | omega (splitDisjunctions := false) | assumption | omega | decide)⟩ [0, 1, 2] (by decide) rfl rfl (by decide) (by decide)
    · have tw2 : ¬ 8 < vs.toInt := fun z9 => w2 ((ti_lt (by decide) rfl).mpr z9)
      refine pb_aload_n (pc := 17) d_Markup_keepId_17 0 rfl rfl ?_
      refine pb_get (pc := 18) d_Markup_keepId_18 0 4 rfl rfl (by decide) in_Markup k_321 rfl ?_
      refine pb_sipush (pc := 21) (v := 200) d_Markup_keepId_21 (by decide) ?_
      refine pb_icmp_lt (pc := 24) (tgt := 29) d_Markup_keepId_24 (by decide) (fun w3 => ?_) (fun w3 => ?_)
      · have tw3 : ct.toInt < 200 := (ti_lt rfl (by decide)).mp w3
        refine pb_lconst (pc := 29) (v := 0) d_Markup_keepId_29 (by decide) ?_
        refine pb_lstore_n (pc := 30) (lo' := [(1, .long 0), (0, .ref h)]) d_Markup_keepId_30 rfl (by decide) rfl ?_
        refine pb_iconst (pc := 31) (v := 0) d_Markup_keepId_31 (by decide) ?_
        refine pb_istore_n (pc := 32) (lo' := [(3, .int 0), (1, .long 0), (0, .ref h)]) d_Markup_keepId_32 rfl (by decide) rfl ?_
        have hL33_4 : ∀ (N9 : Nat) (j : Int32) (d : Int64), (0 ≤ j.toInt) → ((vs.toInt - j.toInt).toNat) < N9 → pb_P l G M i_Markup_keepId 33 [(3, .int j), (1, .long d), (0, .ref h)] [] [(h, .inr (8, [.ref ui, .ref ug, .ref uv, .ref ur, .int ct, .int fa, .int bg, .int at_, .int en, .int vs, .int io, .int hi, .int ht])), (uv, .inl (G.2.1, 24, .inl vf)), (ui, .inl (G.2.2.2.1, 200, .inr (.inl df)))] 0 0 := by
          intro N9
          induction N9 with
          | zero => intro j d k0 hm9; exact absurd hm9 (Nat.not_lt_zero _)
          | succ N9 ih33 =>
            intro j d k0 hm9
            refine pb_iload_n (pc := 33) d_Markup_keepId_33 0 rfl rfl ?_
            refine pb_aload_n (pc := 34) d_Markup_keepId_34 2 rfl rfl ?_
            refine pb_get (pc := 35) d_Markup_keepId_35 0 9 rfl rfl (by decide) in_Markup k_328 rfl ?_
            refine pb_icmp_ge (pc := 38) (tgt := 60) d_Markup_keepId_38 (by decide) (fun w5 => ?_) (fun w5 => ?_)
            · have tw5 : vs.toInt ≤ j.toInt := (ti_le rfl rfl).mp w5
              refine pb_aload_n (pc := 60) d_Markup_keepId_60 2 rfl rfl ?_
              refine pb_get (pc := 61) d_Markup_keepId_61 0 0 rfl rfl (by decide) in_Markup k_316 rfl ?_
              refine pb_aload_n (pc := 64) d_Markup_keepId_64 2 rfl rfl ?_
              refine pb_get (pc := 65) d_Markup_keepId_65 0 4 rfl rfl (by decide) in_Markup k_321 rfl ?_
              refine pb_lload_n (pc := 68) d_Markup_keepId_68 1 rfl rfl ?_
              refine pb_last (pc := 69) (ws' := [(h, .inr (8, [.ref ui, .ref ug, .ref uv, .ref ur, .int ct, .int fa, .int bg, .int at_, .int en, .int vs, .int io, .int hi, .int ht])), (uv, .inl (G.2.1, 24, .inl vf)), (ui, .inl (G.2.2.2.1, 200, .inr (.inl (vp_updL df ((ct : Int32).toNatClampNeg) d))))]) d_Markup_keepId_69 2 rfl (vp_in_iff.mpr (by omega)) rfl ?_
              refine pb_aload_n (pc := 70) d_Markup_keepId_70 2 rfl rfl ?_
              refine pb_iconst (pc := 71) (v := 1) d_Markup_keepId_71 (by decide) ?_
              refine pb_put (pc := 72) (ty := .boolean) (ws' := [(h, .inr (8, [.ref ui, .ref ug, .ref uv, .ref ur, .int ct, .int fa, .int bg, .int at_, .int en, .int vs, .int io, .int 1, .int ht])), (uv, .inl (G.2.1, 24, .inl vf)), (ui, .inl (G.2.2.2.1, 200, .inr (.inl (vp_updL df ((ct : Int32).toNatClampNeg) d))))]) d_Markup_keepId_72 0 11 t_Markup t_Markup_ok n_Markup rfl rfl (by decide) in_Markup k_330 rfl (by decide +kernel) rfl rfl (Nat.le_of_ble_eq_true rfl) rfl ?_
              refine pb_iconst (pc := 75) (v := 1) d_Markup_keepId_75 (by decide) ?_
              exact pb_iret (pc := 76) hQ d_Markup_keepId_76 rfl rfl (1, 1, (vp_updL df ((ct : Int32).toNatClampNeg) d)) ⟨rfl, (by (try dsimp only); first | done | (with_reducible assumption) | omega (splitDisjunctions := false) | assumption | omega | decide), (by (try dsimp only); first | done | (with_reducible assumption) | omega (splitDisjunctions := false) | assumption | omega | decide), (by (try dsimp only); first | done | (with_reducible assumption) | omega (splitDisjunctions := false) | assumption | omega | decide), (by (try dsimp only); first | done | (with_reducible assumption) | omega (splitDisjunctions := false) | assumption | omega | decide)⟩ [0, 1, 2] (by decide) rfl rfl (by decide) (by decide)
            · have tw5 : ¬ vs.toInt ≤ j.toInt := fun z9 => w5 ((ti_le rfl rfl).mpr z9)
              refine pb_lload_n (pc := 41) d_Markup_keepId_41 1 rfl rfl ?_
              refine pb_bipush (pc := 42) (v := 8) d_Markup_keepId_42 (by decide) ?_
              refine pb_lshl (pc := 44) d_Markup_keepId_44 rfl ?_
              refine pb_topl (fun j6 ej6 => ?_)
              try have tj6 : j6.toInt = d.toInt * 256 := tl_shl ej6 rfl 8 (by decide) (by omega) (by omega)
              refine pb_aload_n (pc := 45) d_Markup_keepId_45 2 rfl rfl ?_
              refine pb_get (pc := 46) d_Markup_keepId_46 0 2 rfl rfl (by decide) in_Markup k_319 rfl ?_
              refine pb_iload_n (pc := 49) d_Markup_keepId_49 0 rfl rfl ?_
              refine pb_bald (pc := 50) d_Markup_keepId_50 1 rfl (vp_in_iff.mpr (by omega)) ?_
              refine pb_topi (fun i7 ei7 => ?_)
              have ti7 : -128 ≤ i7.toInt ∧ i7.toInt ≤ 127 := ti_fit (F_vf _) ei7
              refine pb_i2l (pc := 51) d_Markup_keepId_51 rfl ?_
              refine pb_topl (fun j8 ej8 => ?_)
              have tj8 : j8.toInt = i7.toInt := tl_i2l ej8 rfl
              refine pb_lor (pc := 52) d_Markup_keepId_52 ?_
              refine pb_topl (fun j9 ej9 => ?_)
              refine pb_lstore_n (pc := 53) (lo' := [(1, .long j9), (3, .int j), (0, .ref h)]) d_Markup_keepId_53 rfl (by decide) rfl ?_
              refine pb_iincN (pc := 54) (c := 1) d_Markup_keepId_54 1 rfl (by decide) (by decide) (fun i10 ei10 => ?_)
              have ti10 : i10.toInt = j.toInt + 1 := t2_add ei10 rfl (by decide) (by first | omega | (have r90 := ti_rng i10; omega))
              refine pb_eq (pc' := 57) (lo' := [(3, .int i10), (1, .long j9), (0, .ref h)]) (rest' := []) (ws' := [(h, .inr (8, [.ref ui, .ref ug, .ref uv, .ref ur, .int ct, .int fa, .int bg, .int at_, .int en, .int vs, .int io, .int hi, .int ht])), (uv, .inl (G.2.1, 24, .inl vf)), (ui, .inl (G.2.2.2.1, 200, .inr (.inl df)))]) ?_
              refine pb_goto (pc := 57) (tgt := 33) d_Markup_keepId_57 (by decide) ?_
              exact ih33 i10 j9 (by first | (with_reducible assumption) | omega (splitDisjunctions := false) | assumption | omega | decide) (by omega)
        exact hL33_4 _ 0 0 (by first | (with_reducible assumption) | omega (splitDisjunctions := false) | assumption | omega | decide) (Nat.lt_succ_self _)
      · have tw3 : ¬ ct.toInt < 200 := fun z9 => w3 ((ti_lt rfl (by decide)).mpr z9)
        refine pb_iconst (pc := 27) (v := 0) d_Markup_keepId_27 (by decide) ?_
        exact pb_iret (pc := 28) hQ d_Markup_keepId_28 rfl rfl (0, hi, df) ⟨rfl, (by (try dsimp only); first | done | (with_reducible assumption) | omega (splitDisjunctions := false) | assumption | omega | decide), (by (try dsimp only); first | done | (with_reducible assumption) | omega (splitDisjunctions := false) | assumption | omega | decide), (by (try dsimp only); first | done | (with_reducible assumption) | omega (splitDisjunctions := false) | assumption | omega | decide), (by (try dsimp only); first | done | (with_reducible assumption) | omega (splitDisjunctions := false) | assumption | omega | decide)⟩ [0, 1, 2] (by decide) rfl rfl (by decide) (by decide)
