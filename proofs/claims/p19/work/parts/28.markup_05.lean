/-! ROWS OF NUMBERS -/
theorem omg_853b29726c {x0 : Int} {x1 : Int} {x2 : Int} (a0 : (x0 ≤ x1)) (a1 : (x1 ≤ x2)) : (x0 ≤ x2) := by omega
theorem omg_82cf4c980f {x0 : Int} {x1 : Int} {x2 : Int} (a0 : (x0 ≤ (12000 : Int))) (a1 : (x1 < x0)) (a2 : (x2 = (x1 + (1 : Int)))) : (x2 ≤ (13000 : Int)) := by omega
theorem omg_1da51ef73f {x0 : Int} {x1 : Int} {x2 : Int} (a0 : ((x0 = (0 : Int)) ∨ (x0 = (1 : Int)))) (a1 : (¬ (x0 = (0 : Int)))) (a2 : ((x0 = (1 : Int)) ↔ (x1 = (48 : Int)))) : ((x1 = (48 : Int)) ∨ ((x2 < (32 : Int)) ∨ ((126 : Int) < x2))) := by omega
theorem omg_12a522f25f {x0 : Int} {x1 : Int} {x2 : Int} (a0 : ((0 : Int) ≤ x0)) (a1 : ((0 : Int) ≤ x1)) (a2 : (x2 = ((x0 + (1 : Int)) + x1))) : ((0 : Int) ≤ x2) := by omega
theorem omg_af7f03065c {x0 : Int} {x1 : Int} (a0 : (((x0 = (0 : Int)) ∧ (x1 = (0 : Int))) ∨ (((x0 = (1 : Int)) ∧ (((0 : Int) ≤ x1) ∧ (x1 ≤ (9 : Int)))) ∨ (((x0 = (2 : Int)) ∧ (((0 : Int) ≤ x1) ∧ (x1 ≤ (99 : Int)))) ∨ ((x0 = (3 : Int)) ∧ (((0 : Int) ≤ x1) ∧ (x1 ≤ (999 : Int)))))))) : (((10 : Int) * x1) < (2147483648 : Int)) := by omega
theorem omg_5676f585b3 {x0 : Int} {x1 : Int} (a0 : (((x0 = (0 : Int)) ∧ (x1 = (0 : Int))) ∨ (((x0 = (1 : Int)) ∧ (((0 : Int) ≤ x1) ∧ (x1 ≤ (9 : Int)))) ∨ (((x0 = (2 : Int)) ∧ (((0 : Int) ≤ x1) ∧ (x1 ≤ (99 : Int)))) ∨ ((x0 = (3 : Int)) ∧ (((0 : Int) ≤ x1) ∧ (x1 ≤ (999 : Int)))))))) : ((-(2147483648 : Int)) ≤ ((10 : Int) * x1)) := by omega
theorem omg_c6abd74d54 {x0 : Int} {x1 : Int} {x2 : Int} {x3 : Int} {x4 : Int} {x5 : Int} (a0 : (((x0 = (0 : Int)) ∧ (x1 = (0 : Int))) ∨ (((x0 = (1 : Int)) ∧ (((0 : Int) ≤ x1) ∧ (x1 ≤ (9 : Int)))) ∨ (((x0 = (2 : Int)) ∧ (((0 : Int) ≤ x1) ∧ (x1 ≤ (99 : Int)))) ∨ ((x0 = (3 : Int)) ∧ (((0 : Int) ≤ x1) ∧ (x1 ≤ (999 : Int)))))))) (a1 : ((-(1 : Int)) ≤ x2)) (a2 : (x2 ≤ (255 : Int))) (a3 : (x2 = x3)) (a4 : (x4 = ((10 : Int) * x1))) (a5 : (x5 = x3)) : (((-(2147483648 : Int)) ≤ (x4 + x5)) ∧ ((x4 + x5) < (2147483648 : Int))) := by omega
theorem omg_252261a097 {x0 : Int} {x1 : Int} {x2 : Int} {x3 : Int} {x4 : Int} {x5 : Int} {x6 : Int} (a0 : (((x0 = (0 : Int)) ∧ (x1 = (0 : Int))) ∨ (((x0 = (1 : Int)) ∧ (((0 : Int) ≤ x1) ∧ (x1 ≤ (9 : Int)))) ∨ (((x0 = (2 : Int)) ∧ (((0 : Int) ≤ x1) ∧ (x1 ≤ (99 : Int)))) ∨ ((x0 = (3 : Int)) ∧ (((0 : Int) ≤ x1) ∧ (x1 ≤ (999 : Int)))))))) (a1 : ((-(1 : Int)) ≤ x2)) (a2 : (x2 ≤ (255 : Int))) (a3 : (x2 = x3)) (a4 : (x4 = ((10 : Int) * x1))) (a5 : (x5 = x3)) (a6 : (x6 = (x4 + x5))) : (((-(2147483648 : Int)) ≤ (x6 - (48 : Int))) ∧ ((x6 - (48 : Int)) < (2147483648 : Int))) := by omega
theorem omg_2f7a6fd418 {x0 : Int} {x1 : Int} {x2 : Int} {x3 : Int} (a0 : ((0 : Int) ≤ x0)) (a1 : (x1 ≤ (12000 : Int))) (a2 : (x2 ≤ x1)) (a3 : ((0 : Int) ≤ x3)) (a4 : (x2 = ((x0 + (1 : Int)) + x3))) : (((-(2147483648 : Int)) ≤ (x2 + (1 : Int))) ∧ ((x2 + (1 : Int)) < (2147483648 : Int))) := by omega
theorem omg_c4db64490e {x0 : Int} {x1 : Nat} {x2 : Int} (a0 : ((Int.toNat ((3 : Int) - x0)) < (x1 + (1 : Nat)))) (a1 : (¬ ((3 : Int) ≤ x0))) (a2 : (x2 = (x0 + (1 : Int)))) : ((Int.toNat ((3 : Int) - x2)) < x1) := by omega
theorem omg_d17263d16c {x0 : Int} {x1 : Int} {x2 : Int} {x3 : Int} {x4 : Int} {x5 : Int} {x6 : Int} {x7 : Int} {x8 : Int} {x9 : Int} (a0 : (((x0 = (0 : Int)) ∧ (x1 = (0 : Int))) ∨ (((x0 = (1 : Int)) ∧ (((0 : Int) ≤ x1) ∧ (x1 ≤ (9 : Int)))) ∨ (((x0 = (2 : Int)) ∧ (((0 : Int) ≤ x1) ∧ (x1 ≤ (99 : Int)))) ∨ ((x0 = (3 : Int)) ∧ (((0 : Int) ≤ x1) ∧ (x1 ≤ (999 : Int)))))))) (a1 : (¬ ((3 : Int) ≤ x0))) (a2 : (x2 = x3)) (a3 : (¬ (x2 < (48 : Int)))) (a4 : (x4 = x3)) (a5 : (¬ ((57 : Int) < x4))) (a6 : (x5 = ((10 : Int) * x1))) (a7 : (x6 = x3)) (a8 : (x7 = (x5 + x6))) (a9 : (x8 = (x7 - (48 : Int)))) (a10 : (x9 = (x0 + (1 : Int)))) : (((x9 = (0 : Int)) ∧ (x8 = (0 : Int))) ∨ (((x9 = (1 : Int)) ∧ (((0 : Int) ≤ x8) ∧ (x8 ≤ (9 : Int)))) ∨ (((x9 = (2 : Int)) ∧ (((0 : Int) ≤ x8) ∧ (x8 ≤ (99 : Int)))) ∨ ((x9 = (3 : Int)) ∧ (((0 : Int) ≤ x8) ∧ (x8 ≤ (999 : Int))))))) := by omega
theorem omg_06b45a1669 {x0 : Int} {x1 : Int} {x2 : Int} {x3 : Int} {x4 : Int} (a0 : (x0 = ((x1 + (1 : Int)) + x2))) (a1 : (x3 = (x0 + (1 : Int)))) (a2 : (x4 = (x2 + (1 : Int)))) : (x3 = ((x1 + (1 : Int)) + x4)) := by omega
theorem omg_19dd65cb85 {x0 : Int} {x1 : Int} {x2 : Int} {x3 : Int} {x4 : Int} {x5 : Int} {x6 : Int} {x7 : Int} (a0 : (x0 = x1)) (a1 : (x0 = x2)) (a2 : (x3 = ((10 : Int) * x4))) (a3 : (x5 = x1)) (a4 : (x6 = (x3 + x5))) (a5 : (x7 = (x6 - (48 : Int)))) : (x7 = ((((10 : Int) * x4) + x2) - (48 : Int))) := by omega
theorem omg_9857e108b9 {x0 : Int} {x1 : Int} {x2 : Int} {x3 : Int} (a0 : (x0 = x1)) (a1 : (x0 = x2)) (a2 : (x3 = x1)) (a3 : (¬ ((57 : Int) < x3))) : (x2 ≤ (57 : Int)) := by omega
theorem omg_8085304585 {x0 : Int} {x1 : Int} (a0 : (x0 = x1)) (a1 : (¬ (x0 < (48 : Int)))) : ((48 : Int) ≤ x1) := by omega
theorem omg_705260fa5c {x0 : Int} {x1 : Int} {x2 : Int} {x3 : Int} {x4 : Int} {x5 : Int} {x6 : Int} (a0 : (x0 = (0 : Int))) (a1 : (x1 = x2)) (a2 : (¬ (x1 < (48 : Int)))) (a3 : (((0 : Int) ≤ x3) → ((x4 + x0) < x5))) (a4 : (x3 = x2)) (a5 : (x6 = (x4 + (1 : Int)))) : (x6 ≤ x5) := by omega
theorem omg_e1100463b0 {x0 : Int} {x1 : Int} {x2 : Int} {x3 : Int} (a0 : ((0 : Int) ≤ x0)) (a1 : (x1 = ((x2 + (1 : Int)) + x0))) (a2 : (x3 = (x1 + (1 : Int)))) : (x2 ≤ x3) := by omega
theorem d_Markup_readTail_0 : decode prog_7_method_8_code 0 = .ok (.aload_n 0, 1) := by decide +kernel
theorem d_Markup_readTail_1 : decode prog_7_method_8_code 1 = .ok (.getfield 83, 3) := by decide +kernel
theorem d_Markup_readTail_4 : decode prog_7_method_8_code 4 = .ok (.ifCond .eq 12, 3) := by decide +kernel
theorem d_Markup_readTail_16 : decode prog_7_method_8_code 16 = .ok (.aload_n 0, 1) := by decide +kernel
theorem d_Markup_readTail_17 : decode prog_7_method_8_code 17 = .ok (.invokevirtual 65, 3) := by decide +kernel
theorem d_Markup_readTail_20 : decode prog_7_method_8_code 20 = .ok (.ifCond .ne 5, 3) := by decide +kernel
theorem d_Markup_readTail_25 : decode prog_7_method_8_code 25 = .ok (.aload_n 0, 1) := by decide +kernel
theorem d_Markup_readTail_26 : decode prog_7_method_8_code 26 = .ok (.getfield 48, 3) := by decide +kernel
theorem d_Markup_readTail_29 : decode prog_7_method_8_code 29 = .ok (.aload_n 0, 1) := by decide +kernel
theorem d_Markup_readTail_30 : decode prog_7_method_8_code 30 = .ok (.getfield 51, 3) := by decide +kernel
theorem d_Markup_readTail_33 : decode prog_7_method_8_code 33 = .ok (.if_icmp .ne 5, 3) := by decide +kernel
theorem d_Markup_readTail_38 : decode prog_7_method_8_code 38 = .ok (.aload_n 0, 1) := by decide +kernel
theorem d_Markup_readTail_39 : decode prog_7_method_8_code 39 = .ok (.aload_n 0, 1) := by decide +kernel
theorem d_Markup_readTail_40 : decode prog_7_method_8_code 40 = .ok (.iconst 0, 1) := by decide +kernel
theorem d_Markup_readTail_41 : decode prog_7_method_8_code 41 = .ok (.invokevirtual 80, 3) := by decide +kernel
theorem d_Markup_readTail_44 : decode prog_7_method_8_code 44 = .ok (.bipush 60, 2) := by decide +kernel
theorem d_Markup_readTail_46 : decode prog_7_method_8_code 46 = .ok (.if_icmp .ne 12, 3) := by decide +kernel
theorem d_Markup_readTail_58 : decode prog_7_method_8_code 58 = .ok (.aload_n 0, 1) := by decide +kernel
theorem d_Markup_readTail_59 : decode prog_7_method_8_code 59 = .ok (.getfield 48, 3) := by decide +kernel
theorem d_Markup_readTail_62 : decode prog_7_method_8_code 62 = .ok (.invokevirtual 96, 3) := by decide +kernel
theorem d_Markup_readTail_65 : decode prog_7_method_8_code 65 = .ok (.ireturn, 1) := by decide +kernel
theorem d_Markup_readTail_49 : decode prog_7_method_8_code 49 = .ok (.aload_n 0, 1) := by decide +kernel
theorem d_Markup_readTail_50 : decode prog_7_method_8_code 50 = .ok (.getfield 48, 3) := by decide +kernel
theorem d_Markup_readTail_53 : decode prog_7_method_8_code 53 = .ok (.iconst 1, 1) := by decide +kernel
theorem d_Markup_readTail_54 : decode prog_7_method_8_code 54 = .ok (.iadd, 1) := by decide +kernel
theorem d_Markup_readTail_55 : decode prog_7_method_8_code 55 = .ok (.goto 7, 3) := by decide +kernel
theorem d_Markup_readTail_36 : decode prog_7_method_8_code 36 = .ok (.iconst 1, 1) := by decide +kernel
theorem d_Markup_readTail_37 : decode prog_7_method_8_code 37 = .ok (.ireturn, 1) := by decide +kernel
theorem d_Markup_readTail_23 : decode prog_7_method_8_code 23 = .ok (.iconst 0, 1) := by decide +kernel
theorem d_Markup_readTail_24 : decode prog_7_method_8_code 24 = .ok (.ireturn, 1) := by decide +kernel
theorem d_Markup_readTail_7 : decode prog_7_method_8_code 7 = .ok (.aload_n 0, 1) := by decide +kernel
theorem d_Markup_readTail_8 : decode prog_7_method_8_code 8 = .ok (.ldc 91, 2) := by decide +kernel
theorem d_Markup_readTail_10 : decode prog_7_method_8_code 10 = .ok (.invokevirtual 93, 3) := by decide +kernel
theorem k_889 : (Jvm.Cond.methodLink "PackageBook$Markup" (93 : Nat) ({ cls := "PackageBook$Markup", name := "readClose", desc := "(Ljava/lang/String;)Z" } : Jvm.MethodName)) ∈ uW := uW_of 889 (by decide +kernel) (by decide +kernel)
theorem k_892 : (Jvm.Cond.code ({ cls := "PackageBook$Markup", name := "readClose", desc := "(Ljava/lang/String;)Z" } : Jvm.MethodName) prog_7_method_9_code (2 : Nat) (Option.some Jvm.ClassFile.FieldType.boolean)) ∈ uW := uW_of 892 (by decide +kernel) (by decide +kernel)
theorem k_891 : (Jvm.Cond.instanceMethod ({ cls := "PackageBook$Markup", name := "readClose", desc := "(Ljava/lang/String;)Z" } : Jvm.MethodName)) ∈ uW := uW_of 891 (by decide +kernel) (by decide +kernel)
theorem k_47 : Cond.selects "PackageBook$Markup" ⟨"PackageBook$Markup", "readClose", "(Ljava/lang/String;)Z"⟩ ⟨"PackageBook$Markup", "readClose", "(Ljava/lang/String;)Z"⟩ ∈ uW := uW_of 47 (by decide +kernel) (by decide +kernel)
theorem hy_Markup_readClose : (y_Markup_readClose).cls ≠ "java/lang/invoke/MethodHandle" ∧ (y_Markup_readClose).cls ≠ "java/lang/invoke/VarHandle" ∧ (parseMethodDescriptor (y_Markup_readClose).desc).map (fun d => d.parameters.length) = some 1 := by decide +kernel
theorem d_Markup_readTail_13 : decode prog_7_method_8_code 13 = .ok (.ifCond .eq 10, 3) := by decide +kernel
abbrev y_Markup_readTail : MethodName := ⟨"PackageBook$Markup", "readTail", "()Z"⟩
abbrev i_Markup_readTail : pb_I := (y_Markup_readTail, prog_7_method_8_code, 1, (some Jvm.ClassFile.FieldType.boolean), [], { frames := 7, cells := 0, slots := 0, locals := 148 })
set_option maxRecDepth 100000 in
set_option maxHeartbeats 4000000 in
theorem g_Mu_readTail {l : Launch} (hl : l.stackTraces = false) (G : pb_G) (h : Nat) (ui : Nat) (ug : Nat) (uv : Nat) (ur : Nat) (ct : Int32) (fa : Int32) (bg : Int32) (at_ : Int32) (en : Int32) (vs : Int32) (io : Int32) (hi : Int32) (ht : Int32) (uf : Nat → Int32) (a0 : 0 ≤ at_.toInt) (a1 : at_.toInt ≤ en.toInt) (a2 : en.toInt ≤ 12000) (a3 : 0 ≤ bg.toInt) (a4 : bg.toInt ≤ at_.toInt) (F_uf : sb_Fit uf) : Cn l G i_Markup_readTail [.ref h] [(h, .inr (8, [.ref ui, .ref ug, .ref uv, .ref ur, .int ct, .int fa, .int bg, .int at_, .int en, .int vs, .int io, .int hi, .int ht])), (ur, .inl (G.2.1, 12000, .inl uf))] (S := Int32 × Int32 × Int32) (fun rv_ u => rv_ = some (.int u.1) ∧ (u.1.toInt = 0 ∨ u.1.toInt = 1) ∧ (at_.toInt ≤ u.2.1.toInt) ∧ (u.2.1.toInt ≤ en.toInt) ∧ (tl6_ (mB_ uf bg.toInt) (en.toInt - bg.toInt) io.toInt u.1.toInt (at_.toInt - bg.toInt)) ∧ (ft_ u.1.toInt fa.toInt u.2.2.toInt)) (fun u => [(h, .inr (8, [.ref ui, .ref ug, .ref uv, .ref ur, .int ct, .int u.2.2, .int bg, .int u.2.1, .int en, .int vs, .int io, .int hi, .int ht])), (ur, .inl (G.2.1, 12000, .inl uf))]) := by
  refine Cn.of hl (by decide +kernel) rfl (Nat.le_of_ble_eq_true rfl) (fun M hQ => ?_)
  refine pb_eq (pc' := 0) (lo' := [(0, .ref h)]) (rest' := []) (ws' := [(h, .inr (8, [.ref ui, .ref ug, .ref uv, .ref ur, .int ct, .int fa, .int bg, .int at_, .int en, .int vs, .int io, .int hi, .int ht])), (ur, .inl (G.2.1, 12000, .inl uf))]) ?_
  have zl0 : (0 : Int32).toInt = 0 := by decide
  have zl1 : (1 : Int32).toInt = 1 := by decide
  refine pb_aload_n (pc := 0) d_Markup_readTail_0 0 rfl rfl ?_
  refine pb_get (pc := 1) d_Markup_readTail_1 0 10 rfl rfl (by decide) in_Markup k_329 rfl ?_
  refine pb_if_eq (pc := 4) (tgt := 16) d_Markup_readTail_4 (by decide) (fun w1 => ?_) (fun w1 => ?_)
  · have tw1 : io.toInt = 0 := (ti_eq rfl (by decide)).mp w1
    refine pb_aload_n (pc := 16) d_Markup_readTail_16 0 rfl rfl ?_
    refine pb_callV (pc := 17) (I := i_Markup_readTail) (qb := 0) (ci := 8) (nA := 0) (rest := []) (wr := []) d_Markup_readTail_17 (g_Mu_skipGaps hl G h ui ug uv ur ct fa bg at_ en vs io hi ht uf (by first | (with_reducible assumption) | omega (splitDisjunctions := false) | assumption | omega | decide) (by first | (with_reducible assumption) | omega (splitDisjunctions := false) | assumption | omega | decide) (by first | (with_reducible assumption) | omega (splitDisjunctions := false) | assumption | omega | decide) (by first | (with_reducible assumption) | omega (splitDisjunctions := false) | assumption | omega | decide) (by first | (with_reducible assumption) | omega (splitDisjunctions := false) | assumption | omega | decide) F_uf) rfl rfl [0, 1] [] (by decide) rfl rfl rfl (by decide) (by decide) k_805 rfl k_125 k_802 k_804 k_31 ⟨rfl, hy_Markup_skipGaps⟩ (by decide) rfl rfl (Nat.le_of_ble_eq_true rfl) (by decide) (fun v9 u3 ch2 => ?_)
    obtain ⟨r_4, at_5, f_6⟩ := u3
    obtain ⟨ech2, ch2⟩ := ch2
    have ech2 : v9 = some (.int r_4) := ech2
    subst ech2
    obtain ⟨fh7, fh8, fh9, fh10, fh11⟩ : (r_4.toInt = 0 ∨ r_4.toInt = 1) ∧ (at_.toInt ≤ at_5.toInt) ∧ (at_5.toInt ≤ en.toInt) ∧ (oy_ r_4.toInt (at_5.toInt - bg.toInt) = gF (mB_ uf bg.toInt) (en.toInt - bg.toInt) (at_.toInt - bg.toInt)) ∧ (ft_ r_4.toInt fa.toInt f_6.toInt) := ch2
    have g1F := fh10
    have g1FQ := fh11
    refine pb_eq (pc' := 20) (lo' := [(0, .ref h)]) (rest' := [.int r_4]) (ws' := [(h, .inr (8, [.ref ui, .ref ug, .ref uv, .ref ur, .int ct, .int f_6, .int bg, .int at_5, .int en, .int vs, .int io, .int hi, .int ht])), (ur, .inl (G.2.1, 12000, .inl uf))]) ?_
    refine pb_if_ne (pc := 20) (tgt := 25) d_Markup_readTail_20 (by decide) (fun w12 => ?_) (fun w12 => ?_)
    · have tw12 : ¬ r_4.toInt = 0 := fun z9 => w12 ((ti_eq rfl (by decide)).mpr z9)
      refine pb_aload_n (pc := 25) d_Markup_readTail_25 0 rfl rfl ?_
      refine pb_get (pc := 26) d_Markup_readTail_26 0 7 rfl rfl (by decide) in_Markup k_326 rfl ?_
      refine pb_aload_n (pc := 29) d_Markup_readTail_29 0 rfl rfl ?_
      refine pb_get (pc := 30) d_Markup_readTail_30 0 8 rfl rfl (by decide) in_Markup k_327 rfl ?_
      refine pb_icmp_ne (pc := 33) (tgt := 38) d_Markup_readTail_33 (by decide) (fun w13 => ?_) (fun w13 => ?_)
      · have tw13 : ¬ at_5.toInt = en.toInt := fun z9 => w13 ((ti_eq rfl rfl).mpr z9)
        refine pb_aload_n (pc := 38) d_Markup_readTail_38 0 rfl rfl ?_
        refine pb_aload_n (pc := 39) d_Markup_readTail_39 0 rfl rfl ?_
        refine pb_iconst (pc := 40) (v := 0) d_Markup_readTail_40 (by decide) ?_
        refine pb_callV (pc := 41) (I := i_Markup_readTail) (qb := 0) (ci := 8) (nA := 1) (rest := [.ref h]) (wr := []) d_Markup_readTail_41 (g_Mu_next hl G h ui ug uv ur ct f_6 bg at_5 en vs io hi ht uf 0 (by first | (with_reducible assumption) | omega (splitDisjunctions := false) | assumption | omega | decide) (by first | (with_reducible assumption) | omega (splitDisjunctions := false) | assumption | omega | decide) (by first | (with_reducible assumption) | omega (splitDisjunctions := false) | assumption | omega | decide) (by first | (with_reducible assumption) | omega (splitDisjunctions := false) | assumption | omega | decide) (by first | (with_reducible assumption) | omega (splitDisjunctions := false) | assumption | omega | decide) (by first | (with_reducible assumption) | omega (splitDisjunctions := false) | assumption | omega | decide) (by first | (with_reducible assumption) | omega (splitDisjunctions := false) | assumption | omega | decide) F_uf) rfl rfl [0, 1] [] (by decide) rfl rfl rfl (by decide) (by decide) k_813 rfl k_125 k_810 k_812 k_33 ⟨rfl, hy_Markup_next⟩ (by decide) rfl rfl (Nat.le_of_ble_eq_true rfl) (by decide) (fun v9 u15 ch14 => ?_)
        obtain ⟨r_16, rfl⟩ : ∃ z9, z9 = u15 := ⟨_, rfl⟩
        obtain ⟨ech14, ch14⟩ := ch14
        have ech14 : v9 = some (.int r_16) := ech14
        subst ech14
        obtain ⟨fh17, fh18, fh19, fh20⟩ : (-1 ≤ r_16.toInt) ∧ (r_16.toInt ≤ 255) ∧ (0 ≤ r_16.toInt → at_5.toInt + (0 : Int32).toInt < en.toInt) ∧ (r_16.toInt = cm_ (mB_ uf bg.toInt) (en.toInt - bg.toInt) ((at_5.toInt - bg.toInt) + (0 : Int32).toInt)) := ch14
        refine pb_eq (pc' := 44) (lo' := [(0, .ref h)]) (rest' := [.int r_16, .ref h]) (ws' := [(h, .inr (8, [.ref ui, .ref ug, .ref uv, .ref ur, .int ct, .int f_6, .int bg, .int at_5, .int en, .int vs, .int io, .int hi, .int ht])), (ur, .inl (G.2.1, 12000, .inl uf))]) ?_
        refine pb_bipush (pc := 44) (v := 60) d_Markup_readTail_44 (by decide) ?_
        refine pb_icmp_ne (pc := 46) (tgt := 58) d_Markup_readTail_46 (by decide) (fun w21 => ?_) (fun w21 => ?_)
        · have tw21 : ¬ r_16.toInt = 60 := fun z9 => w21 ((ti_eq rfl (by decide)).mpr z9)
          refine pb_aload_n (pc := 58) d_Markup_readTail_58 0 rfl rfl ?_
          refine pb_get (pc := 59) d_Markup_readTail_59 0 7 rfl rfl (by decide) in_Markup k_326 rfl ?_
          refine pb_callV (pc := 62) (I := i_Markup_readTail) (qb := 0) (ci := 8) (nA := 1) (rest := []) (wr := [(ur, .inl (G.2.1, 12000, .inl uf))]) d_Markup_readTail_62 (g_Mu_fail hl G h ui ug uv ur ct f_6 bg at_5 en vs io hi ht at_5 (by first | (with_reducible assumption) | omega (splitDisjunctions := false) | assumption | (clear fh19; first | omega (splitDisjunctions := false) | omega) | omega | decide) (by first | (with_reducible assumption) | omega (splitDisjunctions := false) | assumption | (clear fh19; first | omega (splitDisjunctions := false) | omega) | omega | decide) (by first | (with_reducible assumption) | omega (splitDisjunctions := false) | assumption | (clear fh19; first | omega (splitDisjunctions := false) | omega) | omega | decide)) rfl rfl [0] [1] (by decide) rfl rfl rfl (by decide) (by decide) k_831 rfl k_125 k_828 k_830 k_36 ⟨rfl, hy_Markup_fail⟩ (by decide) rfl rfl (Nat.le_of_ble_eq_true rfl) (by decide) (fun v9 u23 ch22 => ?_)
          obtain ⟨f_24, rfl⟩ : ∃ z9, z9 = u23 := ⟨_, rfl⟩
          obtain ⟨ech22, ch22⟩ := ch22
          have ech22 : v9 = some (.int 0) := ech22
          subst ech22
          have fh25 : 0 ≤ f_24.toInt := ch22
          have flF := fh25
          refine pb_eq (pc' := 65) (lo' := [(0, .ref h)]) (rest' := [.int 0]) (ws' := [(ur, .inl (G.2.1, 12000, .inl uf)), (h, .inr (8, [.ref ui, .ref ug, .ref uv, .ref ur, .int ct, .int f_24, .int bg, .int at_5, .int en, .int vs, .int io, .int hi, .int ht]))]) ?_
          exact pb_iret (pc := 65) hQ d_Markup_readTail_65 rfl rfl (0, at_5, f_24) ⟨rfl, (by (try dsimp only); first | done | (with_reducible assumption) | omega (splitDisjunctions := false) | assumption | (clear fh19; first | omega (splitDisjunctions := false) | omega) | omega | decide), (by (try dsimp only); first | done | (with_reducible assumption) | omega (splitDisjunctions := false) | assumption | (clear fh19; first | omega (splitDisjunctions := false) | omega) | omega | decide), (by (try dsimp only); first | done | (with_reducible assumption) | omega (splitDisjunctions := false) | assumption | (clear fh19; first | omega (splitDisjunctions := false) | omega) | omega | decide), (show tl6_ (mB_ uf bg.toInt) (en.toInt - bg.toInt) io.toInt (0 : Int32).toInt (at_.toInt - bg.toInt) from (by first | exact tl_g (tl_X1 (by omega) c1F (by omega)) g1F (Or.inr (Or.inr ⟨by omega, by omega, zl0⟩)) | exact tl_g (tl_X0 (by omega)) g1F (Or.inr (Or.inr ⟨by omega, by omega, zl0⟩)))), (show ft_ (0 : Int32).toInt fa.toInt f_24.toInt from (ft_f zl0 flF))⟩ [1, 0] (by decide) rfl rfl (by decide) (by decide)
        · have tw21 : r_16.toInt = 60 := (ti_eq rfl (by decide)).mp w21
          refine pb_aload_n (pc := 49) d_Markup_readTail_49 0 rfl rfl ?_
          refine pb_get (pc := 50) d_Markup_readTail_50 0 7 rfl rfl (by decide) in_Markup k_326 rfl ?_
          refine pb_iconst (pc := 53) (v := 1) d_Markup_readTail_53 (by decide) ?_
          refine pb_iadd (pc := 54) d_Markup_readTail_54 ?_
          refine pb_topi (fun i26 ei26 => ?_)
          try have ti26 : i26.toInt = at_5.toInt + 1 := t2_add ei26 rfl (by decide) (by omega)
          refine pb_goto (pc := 55) (tgt := 62) d_Markup_readTail_55 (by decide) ?_
          refine pb_callV (pc := 62) (I := i_Markup_readTail) (qb := 0) (ci := 8) (nA := 1) (rest := []) (wr := [(ur, .inl (G.2.1, 12000, .inl uf))]) d_Markup_readTail_62 (g_Mu_fail hl G h ui ug uv ur ct f_6 bg at_5 en vs io hi ht i26 (by first | (with_reducible assumption) | omega (splitDisjunctions := false) | assumption | (clear fh19; first | omega (splitDisjunctions := false) | omega) | omega | decide) (by first | (with_reducible assumption) | omega (splitDisjunctions := false) | assumption | (clear fh19; first | omega (splitDisjunctions := false) | omega) | omega | decide) (by first | (with_reducible assumption) | omega (splitDisjunctions := false) | assumption | (clear fh19; first | omega (splitDisjunctions := false) | omega) | omega | decide)) rfl rfl [0] [1] (by decide) rfl rfl rfl (by decide) (by decide) k_831 rfl k_125 k_828 k_830 k_36 ⟨rfl, hy_Markup_fail⟩ (by decide) rfl rfl (Nat.le_of_ble_eq_true rfl) (by decide) (fun v9 u28 ch27 => ?_)
          obtain ⟨f_29, rfl⟩ : ∃ z9, z9 = u28 := ⟨_, rfl⟩
          obtain ⟨ech27, ch27⟩ := ch27
          have ech27 : v9 = some (.int 0) := ech27
          subst ech27
          have fh30 : 0 ≤ f_29.toInt := ch27
          have flF := fh30
          refine pb_eq (pc' := 65) (lo' := [(0, .ref h)]) (rest' := [.int 0]) (ws' := [(ur, .inl (G.2.1, 12000, .inl uf)), (h, .inr (8, [.ref ui, .ref ug, .ref uv, .ref ur, .int ct, .int f_29, .int bg, .int at_5, .int en, .int vs, .int io, .int hi, .int ht]))]) ?_
          exact pb_iret (pc := 65) hQ d_Markup_readTail_65 rfl rfl (0, at_5, f_29) ⟨rfl, (by (try dsimp only); first | done | (with_reducible assumption) | omega (splitDisjunctions := false) | assumption | (clear fh19; first | omega (splitDisjunctions := false) | omega) | omega | decide), (by (try dsimp only); first | done | (with_reducible assumption) | omega (splitDisjunctions := false) | assumption | (clear fh19; first | omega (splitDisjunctions := false) | omega) | omega | decide), (by (try dsimp only); first | done | (with_reducible assumption) | omega (splitDisjunctions := false) | assumption | (clear fh19; first | omega (splitDisjunctions := false) | omega) | omega | decide), (show tl6_ (mB_ uf bg.toInt) (en.toInt - bg.toInt) io.toInt (0 : Int32).toInt (at_.toInt - bg.toInt) from (by first | exact tl_g (tl_X1 (by omega) c1F (by omega)) g1F (Or.inr (Or.inr ⟨by omega, by omega, zl0⟩)) | exact tl_g (tl_X0 (by omega)) g1F (Or.inr (Or.inr ⟨by omega, by omega, zl0⟩)))), (show ft_ (0 : Int32).toInt fa.toInt f_29.toInt from (ft_f zl0 flF))⟩ [1, 0] (by decide) rfl rfl (by decide) (by decide)
      · have tw13 : at_5.toInt = en.toInt := (ti_eq rfl rfl).mp w13
        refine pb_iconst (pc := 36) (v := 1) d_Markup_readTail_36 (by decide) ?_
        exact pb_iret (pc := 37) hQ d_Markup_readTail_37 rfl rfl (1, at_5, f_6) ⟨rfl, (by (try dsimp only); first | done | (with_reducible assumption) | omega (splitDisjunctions := false) | assumption | omega | decide), (by (try dsimp only); first | done | (with_reducible assumption) | omega (splitDisjunctions := false) | assumption | omega | decide), (by (try dsimp only); first | done | (with_reducible assumption) | omega (splitDisjunctions := false) | assumption | omega | decide), (show tl6_ (mB_ uf bg.toInt) (en.toInt - bg.toInt) io.toInt (1 : Int32).toInt (at_.toInt - bg.toInt) from (by first | exact tl_g (tl_X1 (by omega) c1F (by omega)) g1F (Or.inr (Or.inl ⟨by omega, by omega, by omega⟩)) | exact tl_g (tl_X0 (by omega)) g1F (Or.inr (Or.inl ⟨by omega, by omega, by omega⟩)))), (show ft_ (1 : Int32).toInt fa.toInt f_6.toInt from (by first | exact ft_c c1FQ (by omega) (ft_1 g1FQ (by omega) (by omega)) | exact ft_1 g1FQ (by omega) (by omega)))⟩ [0, 1] (by decide) rfl rfl (by decide) (by decide)
    · have tw12 : r_4.toInt = 0 := (ti_eq rfl (by decide)).mp w12
      refine pb_iconst (pc := 23) (v := 0) d_Markup_readTail_23 (by decide) ?_
      exact pb_iret (pc := 24) hQ d_Markup_readTail_24 rfl rfl (0, at_5, f_6) ⟨rfl, (by (try dsimp only); first | done | (with_reducible assumption) | omega (splitDisjunctions := false) | assumption | omega | decide), (by (try dsimp only); first | done | (with_reducible assumption) | omega (splitDisjunctions := false) | assumption | omega | decide), (by (try dsimp only); first | done | (with_reducible assumption) | omega (splitDisjunctions := false) | assumption | omega | decide), (show tl6_ (mB_ uf bg.toInt) (en.toInt - bg.toInt) io.toInt (0 : Int32).toInt (at_.toInt - bg.toInt) from (by first | exact tl_g (tl_X1 (by omega) c1F (by omega)) g1F (Or.inl ⟨by omega, zl0⟩) | exact tl_c (by omega) c1F (by omega) zl0 | exact tl_g (tl_X0 (by omega)) g1F (Or.inl ⟨by omega, zl0⟩))), (show ft_ (0 : Int32).toInt fa.toInt f_6.toInt from (by first | exact ft_c c1FQ (by omega) (ft_0 g1FQ (by omega) zl0) | exact ft_0 c1FQ (by omega) zl0 | exact ft_0 g1FQ (by omega) zl0))⟩ [0, 1] (by decide) rfl rfl (by decide) (by decide)
  · have tw1 : ¬ io.toInt = 0 := fun z9 => w1 ((ti_eq rfl (by decide)).mpr z9)
    refine pb_aload_n (pc := 7) d_Markup_readTail_7 0 rfl rfl ?_
    refine pb_ldcS (pc := 8) (k := 17) d_Markup_readTail_8 rfl (by decide) ?_
    refine pb_callV (pc := 10) (I := i_Markup_readTail) (qb := 0) (ci := 8) (nA := 1) (rest := []) (wr := []) d_Markup_readTail_10 (g_Mu_readClose hl G h ui ug uv ur ct fa bg at_ en vs io hi ht uf 17 (by first | (with_reducible assumption) | omega (splitDisjunctions := false) | assumption | omega | decide) (by first | (with_reducible assumption) | omega (splitDisjunctions := false) | assumption | omega | decide) (by first | (with_reducible assumption) | omega (splitDisjunctions := false) | assumption | omega | decide) (by first | (with_reducible assumption) | omega (splitDisjunctions := false) | assumption | omega | decide) (by first | (with_reducible assumption) | omega (splitDisjunctions := false) | assumption | omega | decide) (by first | assumption | decide | omega) F_uf) rfl rfl [0, 1] [] (by decide) rfl rfl rfl (by decide) (by decide) k_892 rfl k_125 k_889 k_891 k_47 ⟨rfl, hy_Markup_readClose⟩ (by decide) rfl rfl (Nat.le_of_ble_eq_true rfl) (by decide) (fun v9 u32 ch31 => ?_)
    obtain ⟨r_33, at_34, f_35⟩ := u32
    obtain ⟨ech31, ch31⟩ := ch31
    have ech31 : v9 = some (.int r_33) := ech31
    subst ech31
    obtain ⟨fh36, fh37, fh38, fh39, fh40⟩ : (r_33.toInt = 0 ∨ r_33.toInt = 1) ∧ (at_.toInt ≤ at_34.toInt) ∧ (at_34.toInt ≤ en.toInt) ∧ (oy_ r_33.toInt (at_34.toInt - bg.toInt) = cl_ (mB_ uf bg.toInt) (en.toInt - bg.toInt) (st_c 17) (st_len 17).toNat (at_.toInt - bg.toInt)) ∧ (ft_ r_33.toInt fa.toInt f_35.toInt) := ch31
    have c1F := fh39
    have c1FQ := fh40
    rw [cw6 [60, 47, 114, 101, 108, 115] (by decide +kernel) (by decide +kernel)] at c1F
    refine pb_eq (pc' := 13) (lo' := [(0, .ref h)]) (rest' := [.int r_33]) (ws' := [(h, .inr (8, [.ref ui, .ref ug, .ref uv, .ref ur, .int ct, .int f_35, .int bg, .int at_34, .int en, .int vs, .int io, .int hi, .int ht])), (ur, .inl (G.2.1, 12000, .inl uf))]) ?_
    refine pb_if_eq (pc := 13) (tgt := 23) d_Markup_readTail_13 (by decide) (fun w41 => ?_) (fun w41 => ?_)
    · have tw41 : r_33.toInt = 0 := (ti_eq rfl (by decide)).mp w41
      refine pb_iconst (pc := 23) (v := 0) d_Markup_readTail_23 (by decide) ?_
      exact pb_iret (pc := 24) hQ d_Markup_readTail_24 rfl rfl (0, at_34, f_35) ⟨rfl, (by (try dsimp only); first | done | (with_reducible assumption) | omega (splitDisjunctions := false) | assumption | omega | decide), (by (try dsimp only); first | done | (with_reducible assumption) | omega (splitDisjunctions := false) | assumption | omega | decide), (by (try dsimp only); first | done | (with_reducible assumption) | omega (splitDisjunctions := false) | assumption | omega | decide), (show tl6_ (mB_ uf bg.toInt) (en.toInt - bg.toInt) io.toInt (0 : Int32).toInt (at_.toInt - bg.toInt) from (by first | exact tl_g (tl_X1 (by omega) c1F (by omega)) g1F (Or.inl ⟨by omega, zl0⟩) | exact tl_c (by omega) c1F (by omega) zl0 | exact tl_g (tl_X0 (by omega)) g1F (Or.inl ⟨by omega, zl0⟩))), (show ft_ (0 : Int32).toInt fa.toInt f_35.toInt from (by first | exact ft_c c1FQ (by omega) (ft_0 g1FQ (by omega) zl0) | exact ft_0 c1FQ (by omega) zl0 | exact ft_0 g1FQ (by omega) zl0))⟩ [0, 1] (by decide) rfl rfl (by decide) (by decide)
    · have tw41 : ¬ r_33.toInt = 0 := fun z9 => w41 ((ti_eq rfl (by decide)).mpr z9)
      refine pb_aload_n (pc := 16) d_Markup_readTail_16 0 rfl rfl ?_
      refine pb_callV (pc := 17) (I := i_Markup_readTail) (qb := 0) (ci := 8) (nA := 0) (rest := []) (wr := []) d_Markup_readTail_17 (g_Mu_skipGaps hl G h ui ug uv ur ct f_35 bg at_34 en vs io hi ht uf (by first | (with_reducible assumption) | omega (splitDisjunctions := false) | assumption | omega | decide) (by first | (with_reducible assumption) | omega (splitDisjunctions := false) | assumption | omega | decide) (by first | (with_reducible assumption) | omega (splitDisjunctions := false) | assumption | omega | decide) (by first | (with_reducible assumption) | omega (splitDisjunctions := false) | assumption | omega | decide) (by first | (with_reducible assumption) | omega (splitDisjunctions := false) | assumption | omega | decide) F_uf) rfl rfl [0, 1] [] (by decide) rfl rfl rfl (by decide) (by decide) k_805 rfl k_125 k_802 k_804 k_31 ⟨rfl, hy_Markup_skipGaps⟩ (by decide) rfl rfl (Nat.le_of_ble_eq_true rfl) (by decide) (fun v9 u43 ch42 => ?_)
      obtain ⟨r_44, at_45, f_46⟩ := u43
      obtain ⟨ech42, ch42⟩ := ch42
      have ech42 : v9 = some (.int r_44) := ech42
      subst ech42
      obtain ⟨fh47, fh48, fh49, fh50, fh51⟩ : (r_44.toInt = 0 ∨ r_44.toInt = 1) ∧ (at_34.toInt ≤ at_45.toInt) ∧ (at_45.toInt ≤ en.toInt) ∧ (oy_ r_44.toInt (at_45.toInt - bg.toInt) = gF (mB_ uf bg.toInt) (en.toInt - bg.toInt) (at_34.toInt - bg.toInt)) ∧ (ft_ r_44.toInt f_35.toInt f_46.toInt) := ch42
      have g1F := fh50
      have g1FQ := fh51
      refine pb_eq (pc' := 20) (lo' := [(0, .ref h)]) (rest' := [.int r_44]) (ws' := [(h, .inr (8, [.ref ui, .ref ug, .ref uv, .ref ur, .int ct, .int f_46, .int bg, .int at_45, .int en, .int vs, .int io, .int hi, .int ht])), (ur, .inl (G.2.1, 12000, .inl uf))]) ?_
      refine pb_if_ne (pc := 20) (tgt := 25) d_Markup_readTail_20 (by decide) (fun w52 => ?_) (fun w52 => ?_)
      · have tw52 : ¬ r_44.toInt = 0 := fun z9 => w52 ((ti_eq rfl (by decide)).mpr z9)
        refine pb_aload_n (pc := 25) d_Markup_readTail_25 0 rfl rfl ?_
        refine pb_get (pc := 26) d_Markup_readTail_26 0 7 rfl rfl (by decide) in_Markup k_326 rfl ?_
        refine pb_aload_n (pc := 29) d_Markup_readTail_29 0 rfl rfl ?_
        refine pb_get (pc := 30) d_Markup_readTail_30 0 8 rfl rfl (by decide) in_Markup k_327 rfl ?_
        refine pb_icmp_ne (pc := 33) (tgt := 38) d_Markup_readTail_33 (by decide) (fun w53 => ?_) (fun w53 => ?_)
        · have tw53 : ¬ at_45.toInt = en.toInt := fun z9 => w53 ((ti_eq rfl rfl).mpr z9)
          refine pb_aload_n (pc := 38) d_Markup_readTail_38 0 rfl rfl ?_
          refine pb_aload_n (pc := 39) d_Markup_readTail_39 0 rfl rfl ?_
          refine pb_iconst (pc := 40) (v := 0) d_Markup_readTail_40 (by decide) ?_
          refine pb_callV (pc := 41) (I := i_Markup_readTail) (qb := 0) (ci := 8) (nA := 1) (rest := [.ref h]) (wr := []) d_Markup_readTail_41 (g_Mu_next hl G h ui ug uv ur ct f_46 bg at_45 en vs io hi ht uf 0 (by first | (with_reducible assumption) | omega (splitDisjunctions := false) | assumption | omega | decide) (by first | (with_reducible assumption) | omega (splitDisjunctions := false) | assumption | omega | decide) (by first | (with_reducible assumption) | omega (splitDisjunctions := false) | assumption | omega | decide) (by first | (with_reducible assumption) | omega (splitDisjunctions := false) | assumption | omega | decide) (by first | (with_reducible assumption) | (exact omg_a4bf40eb0d a4 fh37 fh48) | assumption | omega | decide) (by first | (with_reducible assumption) | omega (splitDisjunctions := false) | assumption | omega | decide) (by first | (with_reducible assumption) | omega (splitDisjunctions := false) | assumption | omega | decide) F_uf) rfl rfl [0, 1] [] (by decide) rfl rfl rfl (by decide) (by decide) k_813 rfl k_125 k_810 k_812 k_33 ⟨rfl, hy_Markup_next⟩ (by decide) rfl rfl (Nat.le_of_ble_eq_true rfl) (by decide) (fun v9 u55 ch54 => ?_)
          obtain ⟨r_56, rfl⟩ : ∃ z9, z9 = u55 := ⟨_, rfl⟩
          obtain ⟨ech54, ch54⟩ := ch54
          have ech54 : v9 = some (.int r_56) := ech54
          subst ech54
          obtain ⟨fh57, fh58, fh59, fh60⟩ : (-1 ≤ r_56.toInt) ∧ (r_56.toInt ≤ 255) ∧ (0 ≤ r_56.toInt → at_45.toInt + (0 : Int32).toInt < en.toInt) ∧ (r_56.toInt = cm_ (mB_ uf bg.toInt) (en.toInt - bg.toInt) ((at_45.toInt - bg.toInt) + (0 : Int32).toInt)) := ch54
          refine pb_eq (pc' := 44) (lo' := [(0, .ref h)]) (rest' := [.int r_56, .ref h]) (ws' := [(h, .inr (8, [.ref ui, .ref ug, .ref uv, .ref ur, .int ct, .int f_46, .int bg, .int at_45, .int en, .int vs, .int io, .int hi, .int ht])), (ur, .inl (G.2.1, 12000, .inl uf))]) ?_
          refine pb_bipush (pc := 44) (v := 60) d_Markup_readTail_44 (by decide) ?_
          refine pb_icmp_ne (pc := 46) (tgt := 58) d_Markup_readTail_46 (by decide) (fun w61 => ?_) (fun w61 => ?_)
          · have tw61 : ¬ r_56.toInt = 60 := fun z9 => w61 ((ti_eq rfl (by decide)).mpr z9)
            refine pb_aload_n (pc := 58) d_Markup_readTail_58 0 rfl rfl ?_
            refine pb_get (pc := 59) d_Markup_readTail_59 0 7 rfl rfl (by decide) in_Markup k_326 rfl ?_
            refine pb_callV (pc := 62) (I := i_Markup_readTail) (qb := 0) (ci := 8) (nA := 1) (rest := []) (wr := [(ur, .inl (G.2.1, 12000, .inl uf))]) d_Markup_readTail_62 (g_Mu_fail hl G h ui ug uv ur ct f_46 bg at_45 en vs io hi ht at_45 (by first | (with_reducible assumption) | omega (splitDisjunctions := false) | assumption | (clear fh59; first | omega (splitDisjunctions := false) | omega) | omega | decide) (by first | (with_reducible assumption) | omega (splitDisjunctions := false) | assumption | (clear fh59; first | omega (splitDisjunctions := false) | omega) | omega | decide) (by first | (with_reducible assumption) | omega (splitDisjunctions := false) | assumption | (clear fh59; first | omega (splitDisjunctions := false) | omega) | omega | decide)) rfl rfl [0] [1] (by decide) rfl rfl rfl (by decide) (by decide) k_831 rfl k_125 k_828 k_830 k_36 ⟨rfl, hy_Markup_fail⟩ (by decide) rfl rfl (Nat.le_of_ble_eq_true rfl) (by decide) (fun v9 u63 ch62 => ?_)
            obtain ⟨f_64, rfl⟩ : ∃ z9, z9 = u63 := ⟨_, rfl⟩
            obtain ⟨ech62, ch62⟩ := ch62
            have ech62 : v9 = some (.int 0) := ech62
            subst ech62
            have fh65 : 0 ≤ f_64.toInt := ch62
            have flF := fh65
            refine pb_eq (pc' := 65) (lo' := [(0, .ref h)]) (rest' := [.int 0]) (ws' := [(ur, .inl (G.2.1, 12000, .inl uf)), (h, .inr (8, [.ref ui, .ref ug, .ref uv, .ref ur, .int ct, .int f_64, .int bg, .int at_45, .int en, .int vs, .int io, .int hi, .int ht]))]) ?_
            exact pb_iret (pc := 65) hQ d_Markup_readTail_65 rfl rfl (0, at_45, f_64) ⟨rfl, (by (try dsimp only); first | done | (with_reducible assumption) | omega (splitDisjunctions := false) | assumption | (clear fh59; first | omega (splitDisjunctions := false) | omega) | omega | decide), (by (try dsimp only); first | done | (with_reducible assumption) | omega (splitDisjunctions := false) | assumption | (clear fh59; first | omega (splitDisjunctions := false) | omega) | omega | decide), (by (try dsimp only); first | done | (with_reducible assumption) | omega (splitDisjunctions := false) | assumption | (clear fh59; first | omega (splitDisjunctions := false) | omega) | omega | decide), (show tl6_ (mB_ uf bg.toInt) (en.toInt - bg.toInt) io.toInt (0 : Int32).toInt (at_.toInt - bg.toInt) from (by first | exact tl_g (tl_X1 (by omega) c1F (by omega)) g1F (Or.inr (Or.inr ⟨by omega, by omega, zl0⟩)) | exact tl_g (tl_X0 (by omega)) g1F (Or.inr (Or.inr ⟨by omega, by omega, zl0⟩)))), (show ft_ (0 : Int32).toInt fa.toInt f_64.toInt from (ft_f zl0 flF))⟩ [1, 0] (by decide) rfl rfl (by decide) (by decide)
          · have tw61 : r_56.toInt = 60 := (ti_eq rfl (by decide)).mp w61
            refine pb_aload_n (pc := 49) d_Markup_readTail_49 0 rfl rfl ?_
            refine pb_get (pc := 50) d_Markup_readTail_50 0 7 rfl rfl (by decide) in_Markup k_326 rfl ?_
            refine pb_iconst (pc := 53) (v := 1) d_Markup_readTail_53 (by decide) ?_
            refine pb_iadd (pc := 54) d_Markup_readTail_54 ?_
            refine pb_topi (fun i66 ei66 => ?_)
            try have ti66 : i66.toInt = at_45.toInt + 1 := t2_add ei66 rfl (by decide) (by omega)
            refine pb_goto (pc := 55) (tgt := 62) d_Markup_readTail_55 (by decide) ?_
            refine pb_callV (pc := 62) (I := i_Markup_readTail) (qb := 0) (ci := 8) (nA := 1) (rest := []) (wr := [(ur, .inl (G.2.1, 12000, .inl uf))]) d_Markup_readTail_62 (g_Mu_fail hl G h ui ug uv ur ct f_46 bg at_45 en vs io hi ht i66 (by first | (with_reducible assumption) | omega (splitDisjunctions := false) | assumption | (clear fh59; first | omega (splitDisjunctions := false) | omega) | omega | decide) (by first | (with_reducible assumption) | omega (splitDisjunctions := false) | assumption | (clear fh59; first | omega (splitDisjunctions := false) | omega) | omega | decide) (by first | (with_reducible assumption) | omega (splitDisjunctions := false) | assumption | (clear fh59; first | omega (splitDisjunctions := false) | omega) | omega | decide)) rfl rfl [0] [1] (by decide) rfl rfl rfl (by decide) (by decide) k_831 rfl k_125 k_828 k_830 k_36 ⟨rfl, hy_Markup_fail⟩ (by decide) rfl rfl (Nat.le_of_ble_eq_true rfl) (by decide) (fun v9 u68 ch67 => ?_)
            obtain ⟨f_69, rfl⟩ : ∃ z9, z9 = u68 := ⟨_, rfl⟩
            obtain ⟨ech67, ch67⟩ := ch67
            have ech67 : v9 = some (.int 0) := ech67
            subst ech67
            have fh70 : 0 ≤ f_69.toInt := ch67
            have flF := fh70
            refine pb_eq (pc' := 65) (lo' := [(0, .ref h)]) (rest' := [.int 0]) (ws' := [(ur, .inl (G.2.1, 12000, .inl uf)), (h, .inr (8, [.ref ui, .ref ug, .ref uv, .ref ur, .int ct, .int f_69, .int bg, .int at_45, .int en, .int vs, .int io, .int hi, .int ht]))]) ?_
            exact pb_iret (pc := 65) hQ d_Markup_readTail_65 rfl rfl (0, at_45, f_69) ⟨rfl, (by (try dsimp only); first | done | (with_reducible assumption) | omega (splitDisjunctions := false) | assumption | (clear fh59; first | omega (splitDisjunctions := false) | omega) | omega | decide), (by (try dsimp only); first | done | (with_reducible assumption) | omega (splitDisjunctions := false) | assumption | (clear fh59; first | omega (splitDisjunctions := false) | omega) | omega | decide), (by (try dsimp only); first | done | (with_reducible assumption) | omega (splitDisjunctions := false) | assumption | (clear fh59; first | omega (splitDisjunctions := false) | omega) | omega | decide), (show tl6_ (mB_ uf bg.toInt) (en.toInt - bg.toInt) io.toInt (0 : Int32).toInt (at_.toInt - bg.toInt) from (by first | exact tl_g (tl_X1 (by omega) c1F (by omega)) g1F (Or.inr (Or.inr ⟨by omega, by omega, zl0⟩)) | exact tl_g (tl_X0 (by omega)) g1F (Or.inr (Or.inr ⟨by omega, by omega, zl0⟩)))), (show ft_ (0 : Int32).toInt fa.toInt f_69.toInt from (ft_f zl0 flF))⟩ [1, 0] (by decide) rfl rfl (by decide) (by decide)
        · have tw53 : at_45.toInt = en.toInt := (ti_eq rfl rfl).mp w53
          refine pb_iconst (pc := 36) (v := 1) d_Markup_readTail_36 (by decide) ?_
          exact pb_iret (pc := 37) hQ d_Markup_readTail_37 rfl rfl (1, at_45, f_46) ⟨rfl, (by (try dsimp only); first | done | (with_reducible assumption) | omega (splitDisjunctions := false) | assumption | omega | decide), (by (try dsimp only); first | done | (with_reducible assumption) | omega (splitDisjunctions := false) | assumption | omega | decide), (by (try dsimp only); first | done | (with_reducible assumption) | omega (splitDisjunctions := false) | assumption | omega | decide), (show tl6_ (mB_ uf bg.toInt) (en.toInt - bg.toInt) io.toInt (1 : Int32).toInt (at_.toInt - bg.toInt) from (by first | exact tl_g (tl_X1 (by omega) c1F (by omega)) g1F (Or.inr (Or.inl ⟨by omega, by omega, by omega⟩)) | exact tl_g (tl_X0 (by omega)) g1F (Or.inr (Or.inl ⟨by omega, by omega, by omega⟩)))), (show ft_ (1 : Int32).toInt fa.toInt f_46.toInt from (by first | exact ft_c c1FQ (by omega) (ft_1 g1FQ (by omega) (by omega)) | exact ft_1 g1FQ (by omega) (by omega)))⟩ [0, 1] (by decide) rfl rfl (by decide) (by decide)
      · have tw52 : r_44.toInt = 0 := (ti_eq rfl (by decide)).mp w52
        refine pb_iconst (pc := 23) (v := 0) d_Markup_readTail_23 (by decide) ?_
        exact pb_iret (pc := 24) hQ d_Markup_readTail_24 rfl rfl (0, at_45, f_46) ⟨rfl, (by (try dsimp only); first | done | (with_reducible assumption) | omega (splitDisjunctions := false) | assumption | omega | decide), (by (try dsimp only); first | done | (with_reducible assumption) | omega (splitDisjunctions := false) | assumption | omega | decide), (by (try dsimp only); first | done | (with_reducible assumption) | omega (splitDisjunctions := false) | assumption | omega | decide), (show tl6_ (mB_ uf bg.toInt) (en.toInt - bg.toInt) io.toInt (0 : Int32).toInt (at_.toInt - bg.toInt) from (by first | exact tl_g (tl_X1 (by omega) c1F (by omega)) g1F (Or.inl ⟨by omega, zl0⟩) | exact tl_c (by omega) c1F (by omega) zl0 | exact tl_g (tl_X0 (by omega)) g1F (Or.inl ⟨by omega, zl0⟩))), (show ft_ (0 : Int32).toInt fa.toInt f_46.toInt from (by first | exact ft_c c1FQ (by omega) (ft_0 g1FQ (by omega) zl0) | exact ft_0 c1FQ (by omega) zl0 | exact ft_0 g1FQ (by omega) zl0))⟩ [0, 1] (by decide) rfl rfl (by decide) (by decide)

theorem d_Markup_readNamed_0 : decode prog_7_method_13_code 0 = .ok (.aload_n 0, 1) := by decide +kernel
theorem d_Markup_readNamed_1 : decode prog_7_method_13_code 1 = .ok (.getfield 48, 3) := by decide +kernel
theorem d_Markup_readNamed_4 : decode prog_7_method_13_code 4 = .ok (.istore_n 1, 1) := by decide +kernel
theorem d_Markup_readNamed_5 : decode prog_7_method_13_code 5 = .ok (.aload_n 0, 1) := by decide +kernel
theorem d_Markup_readNamed_6 : decode prog_7_method_13_code 6 = .ok (.invokevirtual 113, 3) := by decide +kernel
theorem k_849 : (Jvm.Cond.methodLink "PackageBook$Markup" (113 : Nat) ({ cls := "PackageBook$Markup", name := "skipLetters", desc := "()V" } : Jvm.MethodName)) ∈ uW := uW_of 849 (by decide +kernel) (by decide +kernel)
theorem k_852 : (Jvm.Cond.code ({ cls := "PackageBook$Markup", name := "skipLetters", desc := "()V" } : Jvm.MethodName) prog_7_method_20_code (1 : Nat) (Option.none : Option Jvm.ClassFile.FieldType)) ∈ uW := uW_of 852 (by decide +kernel) (by decide +kernel)
theorem k_851 : (Jvm.Cond.instanceMethod ({ cls := "PackageBook$Markup", name := "skipLetters", desc := "()V" } : Jvm.MethodName)) ∈ uW := uW_of 851 (by decide +kernel) (by decide +kernel)
theorem k_40 : Cond.selects "PackageBook$Markup" ⟨"PackageBook$Markup", "skipLetters", "()V"⟩ ⟨"PackageBook$Markup", "skipLetters", "()V"⟩ ∈ uW := uW_of 40 (by decide +kernel) (by decide +kernel)
theorem hy_Markup_skipLetters : (y_Markup_skipLetters).cls ≠ "java/lang/invoke/MethodHandle" ∧ (y_Markup_skipLetters).cls ≠ "java/lang/invoke/VarHandle" ∧ (parseMethodDescriptor (y_Markup_skipLetters).desc).map (fun d => d.parameters.length) = some 0 := by decide +kernel
theorem d_Markup_readNamed_9 : decode prog_7_method_13_code 9 = .ok (.aload_n 0, 1) := by decide +kernel
theorem d_Markup_readNamed_10 : decode prog_7_method_13_code 10 = .ok (.iload_n 1, 1) := by decide +kernel
theorem d_Markup_readNamed_11 : decode prog_7_method_13_code 11 = .ok (.ldc 147, 2) := by decide +kernel
theorem d_Markup_readNamed_13 : decode prog_7_method_13_code 13 = .ok (.invokevirtual 118, 3) := by decide +kernel
theorem k_854 : (Jvm.Cond.methodLink "PackageBook$Markup" (118 : Nat) ({ cls := "PackageBook$Markup", name := "isText", desc := "(ILjava/lang/String;)Z" } : Jvm.MethodName)) ∈ uW := uW_of 854 (by decide +kernel) (by decide +kernel)
theorem k_857 : (Jvm.Cond.code ({ cls := "PackageBook$Markup", name := "isText", desc := "(ILjava/lang/String;)Z" } : Jvm.MethodName) prog_7_method_22_code (5 : Nat) (Option.some Jvm.ClassFile.FieldType.boolean)) ∈ uW := uW_of 857 (by decide +kernel) (by decide +kernel)
theorem k_856 : (Jvm.Cond.instanceMethod ({ cls := "PackageBook$Markup", name := "isText", desc := "(ILjava/lang/String;)Z" } : Jvm.MethodName)) ∈ uW := uW_of 856 (by decide +kernel) (by decide +kernel)
theorem k_41 : Cond.selects "PackageBook$Markup" ⟨"PackageBook$Markup", "isText", "(ILjava/lang/String;)Z"⟩ ⟨"PackageBook$Markup", "isText", "(ILjava/lang/String;)Z"⟩ ∈ uW := uW_of 41 (by decide +kernel) (by decide +kernel)
theorem hy_Markup_isText : (y_Markup_isText).cls ≠ "java/lang/invoke/MethodHandle" ∧ (y_Markup_isText).cls ≠ "java/lang/invoke/VarHandle" ∧ (parseMethodDescriptor (y_Markup_isText).desc).map (fun d => d.parameters.length) = some 2 := by decide +kernel
theorem d_Markup_readNamed_16 : decode prog_7_method_13_code 16 = .ok (.ifCond .eq 6, 3) := by decide +kernel
theorem d_Markup_readNamed_22 : decode prog_7_method_13_code 22 = .ok (.aload_n 0, 1) := by decide +kernel
theorem d_Markup_readNamed_23 : decode prog_7_method_13_code 23 = .ok (.iload_n 1, 1) := by decide +kernel
theorem d_Markup_readNamed_24 : decode prog_7_method_13_code 24 = .ok (.ldc 149, 2) := by decide +kernel
theorem d_Markup_readNamed_26 : decode prog_7_method_13_code 26 = .ok (.invokevirtual 118, 3) := by decide +kernel
theorem d_Markup_readNamed_29 : decode prog_7_method_13_code 29 = .ok (.ifCond .eq 6, 3) := by decide +kernel
theorem d_Markup_readNamed_35 : decode prog_7_method_13_code 35 = .ok (.aload_n 0, 1) := by decide +kernel
theorem d_Markup_readNamed_36 : decode prog_7_method_13_code 36 = .ok (.iload_n 1, 1) := by decide +kernel
theorem d_Markup_readNamed_37 : decode prog_7_method_13_code 37 = .ok (.ldc 151, 2) := by decide +kernel
theorem d_Markup_readNamed_39 : decode prog_7_method_13_code 39 = .ok (.invokevirtual 118, 3) := by decide +kernel
theorem d_Markup_readNamed_42 : decode prog_7_method_13_code 42 = .ok (.ifCond .eq 6, 3) := by decide +kernel
theorem d_Markup_readNamed_48 : decode prog_7_method_13_code 48 = .ok (.aload_n 0, 1) := by decide +kernel
theorem d_Markup_readNamed_49 : decode prog_7_method_13_code 49 = .ok (.iload_n 1, 1) := by decide +kernel
theorem d_Markup_readNamed_50 : decode prog_7_method_13_code 50 = .ok (.ldc 153, 2) := by decide +kernel
theorem d_Markup_readNamed_52 : decode prog_7_method_13_code 52 = .ok (.invokevirtual 118, 3) := by decide +kernel
theorem d_Markup_readNamed_55 : decode prog_7_method_13_code 55 = .ok (.ifCond .eq 6, 3) := by decide +kernel
theorem d_Markup_readNamed_61 : decode prog_7_method_13_code 61 = .ok (.aload_n 0, 1) := by decide +kernel
theorem d_Markup_readNamed_62 : decode prog_7_method_13_code 62 = .ok (.iload_n 1, 1) := by decide +kernel
theorem d_Markup_readNamed_63 : decode prog_7_method_13_code 63 = .ok (.ldc 155, 2) := by decide +kernel
theorem d_Markup_readNamed_65 : decode prog_7_method_13_code 65 = .ok (.invokevirtual 118, 3) := by decide +kernel
theorem d_Markup_readNamed_68 : decode prog_7_method_13_code 68 = .ok (.ifCond .eq 6, 3) := by decide +kernel
theorem d_Markup_readNamed_74 : decode prog_7_method_13_code 74 = .ok (.aload_n 0, 1) := by decide +kernel
theorem d_Markup_readNamed_75 : decode prog_7_method_13_code 75 = .ok (.iload_n 1, 1) := by decide +kernel
theorem d_Markup_readNamed_76 : decode prog_7_method_13_code 76 = .ok (.invokevirtual 96, 3) := by decide +kernel
theorem d_Markup_readNamed_79 : decode prog_7_method_13_code 79 = .ok (.pop, 1) := by decide +kernel
theorem d_Markup_readNamed_80 : decode prog_7_method_13_code 80 = .ok (.iconst (-1), 1) := by decide +kernel
theorem d_Markup_readNamed_81 : decode prog_7_method_13_code 81 = .ok (.ireturn, 1) := by decide +kernel
theorem d_Markup_readNamed_71 : decode prog_7_method_13_code 71 = .ok (.bipush 39, 2) := by decide +kernel
theorem d_Markup_readNamed_73 : decode prog_7_method_13_code 73 = .ok (.ireturn, 1) := by decide +kernel
theorem d_Markup_readNamed_58 : decode prog_7_method_13_code 58 = .ok (.bipush 34, 2) := by decide +kernel
theorem d_Markup_readNamed_60 : decode prog_7_method_13_code 60 = .ok (.ireturn, 1) := by decide +kernel
theorem d_Markup_readNamed_45 : decode prog_7_method_13_code 45 = .ok (.bipush 62, 2) := by decide +kernel
theorem d_Markup_readNamed_47 : decode prog_7_method_13_code 47 = .ok (.ireturn, 1) := by decide +kernel
theorem d_Markup_readNamed_32 : decode prog_7_method_13_code 32 = .ok (.bipush 60, 2) := by decide +kernel
theorem d_Markup_readNamed_34 : decode prog_7_method_13_code 34 = .ok (.ireturn, 1) := by decide +kernel
theorem d_Markup_readNamed_19 : decode prog_7_method_13_code 19 = .ok (.bipush 38, 2) := by decide +kernel
theorem d_Markup_readNamed_21 : decode prog_7_method_13_code 21 = .ok (.ireturn, 1) := by decide +kernel
abbrev y_Markup_readNamed : MethodName := ⟨"PackageBook$Markup", "readNamed", "()I"⟩
abbrev i_Markup_readNamed : pb_I := (y_Markup_readNamed, prog_7_method_13_code, 2, (some Jvm.ClassFile.FieldType.int), [], { frames := 5, cells := 0, slots := 0, locals := 109 })
set_option maxRecDepth 100000 in
set_option maxHeartbeats 4000000 in
theorem g_Mu_readNamed {l : Launch} (hl : l.stackTraces = false) (G : pb_G) (h : Nat) (ui : Nat) (ug : Nat) (uv : Nat) (ur : Nat) (ct : Int32) (fa : Int32) (bg : Int32) (at_ : Int32) (en : Int32) (vs : Int32) (io : Int32) (hi : Int32) (ht : Int32) (uf : Nat → Int32) (a0 : 0 ≤ at_.toInt) (a1 : at_.toInt ≤ en.toInt) (a2 : en.toInt ≤ 12000) (a3 : 0 ≤ bg.toInt) (a4 : bg.toInt ≤ at_.toInt) (F_uf : sb_Fit uf) : Cn l G i_Markup_readNamed [.ref h] [(h, .inr (8, [.ref ui, .ref ug, .ref uv, .ref ur, .int ct, .int fa, .int bg, .int at_, .int en, .int vs, .int io, .int hi, .int ht])), (ur, .inl (G.2.1, 12000, .inl uf))] (S := Int32 × Int32 × Int32) (fun rv_ u => rv_ = some (.int u.1) ∧ (at_.toInt ≤ u.2.1.toInt) ∧ (u.2.1.toInt ≤ en.toInt) ∧ (-1 ≤ u.1.toInt) ∧ (u.1.toInt ≤ 126) ∧ (ov_ u.1.toInt (u.2.1.toInt - bg.toInt) = nM6_ (mB_ uf bg.toInt) (en.toInt - bg.toInt) (at_.toInt - bg.toInt)) ∧ (fn_ u.1.toInt fa.toInt u.2.2.toInt)) (fun u => [(h, .inr (8, [.ref ui, .ref ug, .ref uv, .ref ur, .int ct, .int u.2.2, .int bg, .int u.2.1, .int en, .int vs, .int io, .int hi, .int ht])), (ur, .inl (G.2.1, 12000, .inl uf))]) := by
  refine Cn.of hl (by decide +kernel) rfl (Nat.le_of_ble_eq_true rfl) (fun M hQ => ?_)
  refine pb_eq (pc' := 0) (lo' := [(0, .ref h)]) (rest' := []) (ws' := [(h, .inr (8, [.ref ui, .ref ug, .ref uv, .ref ur, .int ct, .int fa, .int bg, .int at_, .int en, .int vs, .int io, .int hi, .int ht])), (ur, .inl (G.2.1, 12000, .inl uf))]) ?_
  have zm1 : ((-1) : Int32).toInt = (-1) := by decide
  have zl0 : (0 : Int32).toInt = 0 := by decide
  have zl1 : (1 : Int32).toInt = 1 := by decide
  have zl34 : (34 : Int32).toInt = 34 := by decide
  have zl38 : (38 : Int32).toInt = 38 := by decide
  have zl39 : (39 : Int32).toInt = 39 := by decide
  have zl60 : (60 : Int32).toInt = 60 := by decide
  have zl62 : (62 : Int32).toInt = 62 := by decide
  refine pb_aload_n (pc := 0) d_Markup_readNamed_0 0 rfl rfl ?_
  refine pb_get (pc := 1) d_Markup_readNamed_1 0 7 rfl rfl (by decide) in_Markup k_326 rfl ?_
  refine pb_istore_n (pc := 4) (lo' := [(1, .int at_), (0, .ref h)]) d_Markup_readNamed_4 rfl (by decide) rfl ?_
  refine pb_aload_n (pc := 5) d_Markup_readNamed_5 1 rfl rfl ?_
  refine pb_callV (pc := 6) (I := i_Markup_readNamed) (qb := 0) (ci := 8) (nA := 0) (rest := []) (wr := []) d_Markup_readNamed_6 (g_Mu_skipLetters hl G h ui ug uv ur ct fa bg at_ en vs io hi ht uf (by first | (with_reducible assumption) | omega (splitDisjunctions := false) | assumption | omega | decide) (by first | (with_reducible assumption) | omega (splitDisjunctions := false) | assumption | omega | decide) (by first | (with_reducible assumption) | omega (splitDisjunctions := false) | assumption | omega | decide) (by first | (with_reducible assumption) | omega (splitDisjunctions := false) | assumption | omega | decide) (by first | (with_reducible assumption) | omega (splitDisjunctions := false) | assumption | omega | decide) F_uf) rfl rfl [0, 1] [] (by decide) rfl rfl rfl (by decide) (by decide) k_852 rfl k_125 k_849 k_851 k_40 ⟨rfl, hy_Markup_skipLetters⟩ (by decide) rfl rfl (Nat.le_of_ble_eq_true rfl) (by decide) (fun v9 u2 ch1 => ?_)
  obtain ⟨at_3, rfl⟩ : ∃ z9, z9 = u2 := ⟨_, rfl⟩
  obtain ⟨ech1, ch1⟩ := ch1
  have ech1 : v9 = none := ech1
  subst ech1
  obtain ⟨fh4, fh5, fh6⟩ : (at_.toInt ≤ at_3.toInt) ∧ (at_3.toInt ≤ en.toInt) ∧ (at_3.toInt - bg.toInt = lF (mB_ uf bg.toInt) (en.toInt - bg.toInt) (at_.toInt - bg.toInt)) := ch1
  have lcF := fh6
  refine pb_eq (pc' := 9) (lo' := [(1, .int at_), (0, .ref h)]) (rest' := []) (ws' := [(h, .inr (8, [.ref ui, .ref ug, .ref uv, .ref ur, .int ct, .int fa, .int bg, .int at_3, .int en, .int vs, .int io, .int hi, .int ht])), (ur, .inl (G.2.1, 12000, .inl uf))]) ?_
  refine pb_aload_n (pc := 9) d_Markup_readNamed_9 1 rfl rfl ?_
  refine pb_iload_n (pc := 10) d_Markup_readNamed_10 0 rfl rfl ?_
  refine pb_ldcS (pc := 11) (k := 10) d_Markup_readNamed_11 rfl (by decide) ?_
  refine pb_callV (pc := 13) (I := i_Markup_readNamed) (qb := 0) (ci := 8) (nA := 2) (rest := []) (wr := []) d_Markup_readNamed_13 (g_Mu_isText hl G h ui ug uv ur ct fa bg at_3 en vs io hi ht uf at_ 10 (by first | (with_reducible assumption) | omega (splitDisjunctions := false) | assumption | omega | decide) (by first | (with_reducible assumption) | omega (splitDisjunctions := false) | assumption | omega | decide) (by first | (with_reducible assumption) | omega (splitDisjunctions := false) | assumption | omega | decide) (by first | (with_reducible assumption) | omega (splitDisjunctions := false) | assumption | omega | decide) (by first | (with_reducible assumption) | omega (splitDisjunctions := false) | assumption | omega | decide) (by first | assumption | decide | omega) (by first | (with_reducible assumption) | omega (splitDisjunctions := false) | assumption | omega | decide) (by first | (with_reducible assumption) | omega (splitDisjunctions := false) | assumption | omega | decide) F_uf) rfl rfl [0, 1] [] (by decide) rfl rfl rfl (by decide) (by decide) k_857 rfl k_125 k_854 k_856 k_41 ⟨rfl, hy_Markup_isText⟩ (by decide) rfl rfl (Nat.le_of_ble_eq_true rfl) (by decide) (fun v9 u8 ch7 => ?_)
  obtain ⟨r_9, rfl⟩ : ∃ z9, z9 = u8 := ⟨_, rfl⟩
  obtain ⟨ech7, ch7⟩ := ch7
  have ech7 : v9 = some (.int r_9) := ech7
  subst ech7
  obtain ⟨fh10, fh11⟩ : (r_9.toInt = 0 ∨ r_9.toInt = 1) ∧ (hid_ (r_9.toInt = 1 ↔ tm6_ (mB_ uf bg.toInt) (en.toInt - bg.toInt) (at_.toInt - bg.toInt) (at_3.toInt - bg.toInt) (st_c 10) (st_len 10))) := ch7
  have i1F := hid_o fh11
  rw [tm_3 (x := 97) (y := 109) (z := 112) (by decide +kernel) (by decide +kernel)] at i1F
  refine pb_eq (pc' := 16) (lo' := [(1, .int at_), (0, .ref h)]) (rest' := [.int r_9]) (ws' := [(h, .inr (8, [.ref ui, .ref ug, .ref uv, .ref ur, .int ct, .int fa, .int bg, .int at_3, .int en, .int vs, .int io, .int hi, .int ht])), (ur, .inl (G.2.1, 12000, .inl uf))]) ?_
  refine pb_if_eq (pc := 16) (tgt := 22) d_Markup_readNamed_16 (by decide) (fun w12 => ?_) (fun w12 => ?_)
  · have tw12 : r_9.toInt = 0 := (ti_eq rfl (by decide)).mp w12
    have i1N := mt i1F.mpr (by omega)
    clear i1F
    refine pb_aload_n (pc := 22) d_Markup_readNamed_22 1 rfl rfl ?_
    refine pb_iload_n (pc := 23) d_Markup_readNamed_23 0 rfl rfl ?_
    refine pb_ldcS (pc := 24) (k := 11) d_Markup_readNamed_24 rfl (by decide) ?_
    refine pb_callV (pc := 26) (I := i_Markup_readNamed) (qb := 0) (ci := 8) (nA := 2) (rest := []) (wr := []) d_Markup_readNamed_26 (g_Mu_isText hl G h ui ug uv ur ct fa bg at_3 en vs io hi ht uf at_ 11 (by first | (with_reducible assumption) | omega (splitDisjunctions := false) | assumption | omega | decide) (by first | (with_reducible assumption) | omega (splitDisjunctions := false) | assumption | omega | decide) (by first | (with_reducible assumption) | omega (splitDisjunctions := false) | assumption | omega | decide) (by first | (with_reducible assumption) | omega (splitDisjunctions := false) | assumption | omega | decide) (by first | (with_reducible assumption) | omega (splitDisjunctions := false) | assumption | omega | decide) (by first | assumption | decide | omega) (by first | (with_reducible assumption) | omega (splitDisjunctions := false) | assumption | omega | decide) (by first | (with_reducible assumption) | omega (splitDisjunctions := false) | assumption | omega | decide) F_uf) rfl rfl [0, 1] [] (by decide) rfl rfl rfl (by decide) (by decide) k_857 rfl k_125 k_854 k_856 k_41 ⟨rfl, hy_Markup_isText⟩ (by decide) rfl rfl (Nat.le_of_ble_eq_true rfl) (by decide) (fun v9 u14 ch13 => ?_)
    obtain ⟨r_15, rfl⟩ : ∃ z9, z9 = u14 := ⟨_, rfl⟩
    obtain ⟨ech13, ch13⟩ := ch13
    have ech13 : v9 = some (.int r_15) := ech13
    subst ech13
    obtain ⟨fh16, fh17⟩ : (r_15.toInt = 0 ∨ r_15.toInt = 1) ∧ (hid_ (r_15.toInt = 1 ↔ tm6_ (mB_ uf bg.toInt) (en.toInt - bg.toInt) (at_.toInt - bg.toInt) (at_3.toInt - bg.toInt) (st_c 11) (st_len 11))) := ch13
    have i2F := hid_o fh17
    rw [tm_2 (x := 108) (y := 116) (by decide +kernel) (by decide +kernel)] at i2F
    refine pb_eq (pc' := 29) (lo' := [(1, .int at_), (0, .ref h)]) (rest' := [.int r_15]) (ws' := [(h, .inr (8, [.ref ui, .ref ug, .ref uv, .ref ur, .int ct, .int fa, .int bg, .int at_3, .int en, .int vs, .int io, .int hi, .int ht])), (ur, .inl (G.2.1, 12000, .inl uf))]) ?_
    refine pb_if_eq (pc := 29) (tgt := 35) d_Markup_readNamed_29 (by decide) (fun w18 => ?_) (fun w18 => ?_)
    · have tw18 : r_15.toInt = 0 := (ti_eq rfl (by decide)).mp w18
      have i2N := mt i2F.mpr (by omega)
      clear i2F
      refine pb_aload_n (pc := 35) d_Markup_readNamed_35 1 rfl rfl ?_
      refine pb_iload_n (pc := 36) d_Markup_readNamed_36 0 rfl rfl ?_
      refine pb_ldcS (pc := 37) (k := 12) d_Markup_readNamed_37 rfl (by decide) ?_
      refine pb_callV (pc := 39) (I := i_Markup_readNamed) (qb := 0) (ci := 8) (nA := 2) (rest := []) (wr := []) d_Markup_readNamed_39 (g_Mu_isText hl G h ui ug uv ur ct fa bg at_3 en vs io hi ht uf at_ 12 (by first | (with_reducible assumption) | (exact omg_11807178da a3 a4 fh4) | assumption | omega | decide) (by first | (with_reducible assumption) | omega (splitDisjunctions := false) | assumption | omega | decide) (by first | (with_reducible assumption) | omega (splitDisjunctions := false) | assumption | omega | decide) (by first | (with_reducible assumption) | omega (splitDisjunctions := false) | assumption | omega | decide) (by first | (with_reducible assumption) | (exact omg_853b29726c a4 fh4) | assumption | omega | decide) (by first | assumption | decide | omega) (by first | (with_reducible assumption) | omega (splitDisjunctions := false) | assumption | omega | decide) (by first | (with_reducible assumption) | omega (splitDisjunctions := false) | assumption | omega | decide) F_uf) rfl rfl [0, 1] [] (by decide) rfl rfl rfl (by decide) (by decide) k_857 rfl k_125 k_854 k_856 k_41 ⟨rfl, hy_Markup_isText⟩ (by decide) rfl rfl (Nat.le_of_ble_eq_true rfl) (by decide) (fun v9 u20 ch19 => ?_)
      obtain ⟨r_21, rfl⟩ : ∃ z9, z9 = u20 := ⟨_, rfl⟩
      obtain ⟨ech19, ch19⟩ := ch19
      have ech19 : v9 = some (.int r_21) := ech19
      subst ech19
      obtain ⟨fh22, fh23⟩ : (r_21.toInt = 0 ∨ r_21.toInt = 1) ∧ (hid_ (r_21.toInt = 1 ↔ tm6_ (mB_ uf bg.toInt) (en.toInt - bg.toInt) (at_.toInt - bg.toInt) (at_3.toInt - bg.toInt) (st_c 12) (st_len 12))) := ch19
      have i3F := hid_o fh23
      rw [tm_2 (x := 103) (y := 116) (by decide +kernel) (by decide +kernel)] at i3F
      refine pb_eq (pc' := 42) (lo' := [(1, .int at_), (0, .ref h)]) (rest' := [.int r_21]) (ws' := [(h, .inr (8, [.ref ui, .ref ug, .ref uv, .ref ur, .int ct, .int fa, .int bg, .int at_3, .int en, .int vs, .int io, .int hi, .int ht])), (ur, .inl (G.2.1, 12000, .inl uf))]) ?_
      refine pb_if_eq (pc := 42) (tgt := 48) d_Markup_readNamed_42 (by decide) (fun w24 => ?_) (fun w24 => ?_)
      · have tw24 : r_21.toInt = 0 := (ti_eq rfl (by decide)).mp w24
        have i3N := mt i3F.mpr (by omega)
        clear i3F
        refine pb_aload_n (pc := 48) d_Markup_readNamed_48 1 rfl rfl ?_
        refine pb_iload_n (pc := 49) d_Markup_readNamed_49 0 rfl rfl ?_
        refine pb_ldcS (pc := 50) (k := 13) d_Markup_readNamed_50 rfl (by decide) ?_
        refine pb_callV (pc := 52) (I := i_Markup_readNamed) (qb := 0) (ci := 8) (nA := 2) (rest := []) (wr := []) d_Markup_readNamed_52 (g_Mu_isText hl G h ui ug uv ur ct fa bg at_3 en vs io hi ht uf at_ 13 (by first | (with_reducible assumption) | omega (splitDisjunctions := false) | assumption | omega | decide) (by first | (with_reducible assumption) | omega (splitDisjunctions := false) | assumption | omega | decide) (by first | (with_reducible assumption) | omega (splitDisjunctions := false) | assumption | omega | decide) (by first | (with_reducible assumption) | omega (splitDisjunctions := false) | assumption | omega | decide) (by first | (with_reducible assumption) | omega (splitDisjunctions := false) | assumption | omega | decide) (by first | assumption | decide | omega) (by first | (with_reducible assumption) | omega (splitDisjunctions := false) | assumption | omega | decide) (by first | (with_reducible assumption) | omega (splitDisjunctions := false) | assumption | omega | decide) F_uf) rfl rfl [0, 1] [] (by decide) rfl rfl rfl (by decide) (by decide) k_857 rfl k_125 k_854 k_856 k_41 ⟨rfl, hy_Markup_isText⟩ (by decide) rfl rfl (Nat.le_of_ble_eq_true rfl) (by decide) (fun v9 u26 ch25 => ?_)
        obtain ⟨r_27, rfl⟩ : ∃ z9, z9 = u26 := ⟨_, rfl⟩
        obtain ⟨ech25, ch25⟩ := ch25
        have ech25 : v9 = some (.int r_27) := ech25
        subst ech25
        obtain ⟨fh28, fh29⟩ : (r_27.toInt = 0 ∨ r_27.toInt = 1) ∧ (hid_ (r_27.toInt = 1 ↔ tm6_ (mB_ uf bg.toInt) (en.toInt - bg.toInt) (at_.toInt - bg.toInt) (at_3.toInt - bg.toInt) (st_c 13) (st_len 13))) := ch25
        have i4F := hid_o fh29
        rw [tm_4 (x := 113) (y := 117) (z := 111) (u := 116) (by decide +kernel) (by decide +kernel)] at i4F
        refine pb_eq (pc' := 55) (lo' := [(1, .int at_), (0, .ref h)]) (rest' := [.int r_27]) (ws' := [(h, .inr (8, [.ref ui, .ref ug, .ref uv, .ref ur, .int ct, .int fa, .int bg, .int at_3, .int en, .int vs, .int io, .int hi, .int ht])), (ur, .inl (G.2.1, 12000, .inl uf))]) ?_
        refine pb_if_eq (pc := 55) (tgt := 61) d_Markup_readNamed_55 (by decide) (fun w30 => ?_) (fun w30 => ?_)
        · have tw30 : r_27.toInt = 0 := (ti_eq rfl (by decide)).mp w30
          have i4N := mt i4F.mpr (by omega)
          clear i4F
          refine pb_aload_n (pc := 61) d_Markup_readNamed_61 1 rfl rfl ?_
          refine pb_iload_n (pc := 62) d_Markup_readNamed_62 0 rfl rfl ?_
          refine pb_ldcS (pc := 63) (k := 14) d_Markup_readNamed_63 rfl (by decide) ?_
          refine pb_callV (pc := 65) (I := i_Markup_readNamed) (qb := 0) (ci := 8) (nA := 2) (rest := []) (wr := []) d_Markup_readNamed_65 (g_Mu_isText hl G h ui ug uv ur ct fa bg at_3 en vs io hi ht uf at_ 14 (by first | (with_reducible assumption) | (exact omg_11807178da a3 a4 fh4) | assumption | omega | decide) (by first | (with_reducible assumption) | omega (splitDisjunctions := false) | assumption | omega | decide) (by first | (with_reducible assumption) | omega (splitDisjunctions := false) | assumption | omega | decide) (by first | (with_reducible assumption) | omega (splitDisjunctions := false) | assumption | omega | decide) (by first | (with_reducible assumption) | (exact omg_853b29726c a4 fh4) | assumption | omega | decide) (by first | assumption | decide | omega) (by first | (with_reducible assumption) | omega (splitDisjunctions := false) | assumption | omega | decide) (by first | (with_reducible assumption) | omega (splitDisjunctions := false) | assumption | omega | decide) F_uf) rfl rfl [0, 1] [] (by decide) rfl rfl rfl (by decide) (by decide) k_857 rfl k_125 k_854 k_856 k_41 ⟨rfl, hy_Markup_isText⟩ (by decide) rfl rfl (Nat.le_of_ble_eq_true rfl) (by decide) (fun v9 u32 ch31 => ?_)
          obtain ⟨r_33, rfl⟩ : ∃ z9, z9 = u32 := ⟨_, rfl⟩
          obtain ⟨ech31, ch31⟩ := ch31
          have ech31 : v9 = some (.int r_33) := ech31
          subst ech31
          obtain ⟨fh34, fh35⟩ : (r_33.toInt = 0 ∨ r_33.toInt = 1) ∧ (hid_ (r_33.toInt = 1 ↔ tm6_ (mB_ uf bg.toInt) (en.toInt - bg.toInt) (at_.toInt - bg.toInt) (at_3.toInt - bg.toInt) (st_c 14) (st_len 14))) := ch31
          have i5F := hid_o fh35
          rw [tm_4 (x := 97) (y := 112) (z := 111) (u := 115) (by decide +kernel) (by decide +kernel)] at i5F
          refine pb_eq (pc' := 68) (lo' := [(1, .int at_), (0, .ref h)]) (rest' := [.int r_33]) (ws' := [(h, .inr (8, [.ref ui, .ref ug, .ref uv, .ref ur, .int ct, .int fa, .int bg, .int at_3, .int en, .int vs, .int io, .int hi, .int ht])), (ur, .inl (G.2.1, 12000, .inl uf))]) ?_
          refine pb_if_eq (pc := 68) (tgt := 74) d_Markup_readNamed_68 (by decide) (fun w36 => ?_) (fun w36 => ?_)
          · have tw36 : r_33.toInt = 0 := (ti_eq rfl (by decide)).mp w36
            have i5N := mt i5F.mpr (by omega)
            clear i5F
            refine pb_aload_n (pc := 74) d_Markup_readNamed_74 1 rfl rfl ?_
            refine pb_iload_n (pc := 75) d_Markup_readNamed_75 0 rfl rfl ?_
            refine pb_callV (pc := 76) (I := i_Markup_readNamed) (qb := 0) (ci := 8) (nA := 1) (rest := []) (wr := [(ur, .inl (G.2.1, 12000, .inl uf))]) d_Markup_readNamed_76 (g_Mu_fail hl G h ui ug uv ur ct fa bg at_3 en vs io hi ht at_ (by first | (with_reducible assumption) | omega (splitDisjunctions := false) | assumption | omega | decide) (by first | (with_reducible assumption) | omega (splitDisjunctions := false) | assumption | omega | decide) (by first | (with_reducible assumption) | omega (splitDisjunctions := false) | assumption | omega | decide)) rfl rfl [0] [1] (by decide) rfl rfl rfl (by decide) (by decide) k_831 rfl k_125 k_828 k_830 k_36 ⟨rfl, hy_Markup_fail⟩ (by decide) rfl rfl (Nat.le_of_ble_eq_true rfl) (by decide) (fun v9 u38 ch37 => ?_)
            obtain ⟨f_39, rfl⟩ : ∃ z9, z9 = u38 := ⟨_, rfl⟩
            obtain ⟨ech37, ch37⟩ := ch37
            have ech37 : v9 = some (.int 0) := ech37
            subst ech37
            have fh40 : 0 ≤ f_39.toInt := ch37
            have flF := fh40
            refine pb_eq (pc' := 79) (lo' := [(1, .int at_), (0, .ref h)]) (rest' := [.int 0]) (ws' := [(ur, .inl (G.2.1, 12000, .inl uf)), (h, .inr (8, [.ref ui, .ref ug, .ref uv, .ref ur, .int ct, .int f_39, .int bg, .int at_3, .int en, .int vs, .int io, .int hi, .int ht]))]) ?_
            refine pb_pop (pc := 79) d_Markup_readNamed_79 rfl ?_
            refine pb_iconst (pc := 80) (v := (-1)) d_Markup_readNamed_80 (by decide) ?_
            exact pb_iret (pc := 81) hQ d_Markup_readNamed_81 rfl rfl ((-1), at_3, f_39) ⟨rfl, (by (try dsimp only); first | done | (with_reducible assumption) | omega (splitDisjunctions := false) | assumption | omega | decide), (by (try dsimp only); first | done | (with_reducible assumption) | omega (splitDisjunctions := false) | assumption | omega | decide), (by (try dsimp only); first | done | (with_reducible assumption) | omega (splitDisjunctions := false) | assumption | omega | decide), (by (try dsimp only); first | done | (with_reducible assumption) | omega (splitDisjunctions := false) | assumption | omega | decide), (show ov_ ((-1) : Int32).toInt (at_3.toInt - bg.toInt) = nM6_ (mB_ uf bg.toInt) (en.toInt - bg.toInt) (at_.toInt - bg.toInt) from (ov_m lcF (Or.inl ⟨rfl, by decide⟩) (nc_6 i1N i2N i3N i4N i5N))), (show fn_ ((-1) : Int32).toInt fa.toInt f_39.toInt from (by unfold fn_; omega))⟩ [1, 0] (by decide) rfl rfl (by decide) (by decide)
          · have tw36 : ¬ r_33.toInt = 0 := fun z9 => w36 ((ti_eq rfl (by decide)).mpr z9)
            have i5Y := i5F.mp (by (exact omg_d9c3f42b32 fh34 tw36))
            clear i5F
            refine pb_bipush (pc := 71) (v := 39) d_Markup_readNamed_71 (by decide) ?_
            exact pb_iret (pc := 73) hQ d_Markup_readNamed_73 rfl rfl (39, at_3, fa) ⟨rfl, (by (try dsimp only); first | done | (with_reducible assumption) | omega (splitDisjunctions := false) | assumption | omega | decide), (by (try dsimp only); first | done | (with_reducible assumption) | omega (splitDisjunctions := false) | assumption | omega | decide), (by (try dsimp only); first | done | (with_reducible assumption) | omega (splitDisjunctions := false) | assumption | omega | decide), (by (try dsimp only); first | done | (with_reducible assumption) | omega (splitDisjunctions := false) | assumption | omega | decide), (show ov_ (39 : Int32).toInt (at_3.toInt - bg.toInt) = nM6_ (mB_ uf bg.toInt) (en.toInt - bg.toInt) (at_.toInt - bg.toInt) from (ov_m lcF (Or.inr ⟨by decide, by decide, by decide, rfl⟩) (nc_5 i1N i2N i3N i4N i5Y))), (show fn_ (39 : Int32).toInt fa.toInt fa.toInt from (by unfold fn_; omega))⟩ [0, 1] (by decide) rfl rfl (by decide) (by decide)
        · have tw30 : ¬ r_27.toInt = 0 := fun z9 => w30 ((ti_eq rfl (by decide)).mpr z9)
          have i4Y := i4F.mp (by (exact omg_d9c3f42b32 fh28 tw30))
          clear i4F
          refine pb_bipush (pc := 58) (v := 34) d_Markup_readNamed_58 (by decide) ?_
          exact pb_iret (pc := 60) hQ d_Markup_readNamed_60 rfl rfl (34, at_3, fa) ⟨rfl, (by (try dsimp only); first | done | (with_reducible assumption) | omega (splitDisjunctions := false) | assumption | omega | decide), (by (try dsimp only); first | done | (with_reducible assumption) | omega (splitDisjunctions := false) | assumption | omega | decide), (by (try dsimp only); first | done | (with_reducible assumption) | omega (splitDisjunctions := false) | assumption | omega | decide), (by (try dsimp only); first | done | (with_reducible assumption) | omega (splitDisjunctions := false) | assumption | omega | decide), (show ov_ (34 : Int32).toInt (at_3.toInt - bg.toInt) = nM6_ (mB_ uf bg.toInt) (en.toInt - bg.toInt) (at_.toInt - bg.toInt) from (ov_m lcF (Or.inr ⟨by decide, by decide, by decide, rfl⟩) (nc_4 i1N i2N i3N i4Y))), (show fn_ (34 : Int32).toInt fa.toInt fa.toInt from (by unfold fn_; omega))⟩ [0, 1] (by decide) rfl rfl (by decide) (by decide)
      · have tw24 : ¬ r_21.toInt = 0 := fun z9 => w24 ((ti_eq rfl (by decide)).mpr z9)
        have i3Y := i3F.mp (by (exact omg_d9c3f42b32 fh22 tw24))
        clear i3F
        refine pb_bipush (pc := 45) (v := 62) d_Markup_readNamed_45 (by decide) ?_
        exact pb_iret (pc := 47) hQ d_Markup_readNamed_47 rfl rfl (62, at_3, fa) ⟨rfl, (by (try dsimp only); first | done | (with_reducible assumption) | omega (splitDisjunctions := false) | assumption | omega | decide), (by (try dsimp only); first | done | (with_reducible assumption) | omega (splitDisjunctions := false) | assumption | omega | decide), (by (try dsimp only); first | done | (with_reducible assumption) | omega (splitDisjunctions := false) | assumption | omega | decide), (by (try dsimp only); first | done | (with_reducible assumption) | omega (splitDisjunctions := false) | assumption | omega | decide), (show ov_ (62 : Int32).toInt (at_3.toInt - bg.toInt) = nM6_ (mB_ uf bg.toInt) (en.toInt - bg.toInt) (at_.toInt - bg.toInt) from (ov_m lcF (Or.inr ⟨by decide, by decide, by decide, rfl⟩) (nc_3 i1N i2N i3Y))), (show fn_ (62 : Int32).toInt fa.toInt fa.toInt from (by unfold fn_; omega))⟩ [0, 1] (by decide) rfl rfl (by decide) (by decide)
    · have tw18 : ¬ r_15.toInt = 0 := fun z9 => w18 ((ti_eq rfl (by decide)).mpr z9)
      have i2Y := i2F.mp (by (exact omg_d9c3f42b32 fh16 tw18))
      clear i2F
      refine pb_bipush (pc := 32) (v := 60) d_Markup_readNamed_32 (by decide) ?_
      exact pb_iret (pc := 34) hQ d_Markup_readNamed_34 rfl rfl (60, at_3, fa) ⟨rfl, (by (try dsimp only); first | done | (with_reducible assumption) | omega (splitDisjunctions := false) | assumption | omega | decide), (by (try dsimp only); first | done | (with_reducible assumption) | omega (splitDisjunctions := false) | assumption | omega | decide), (by (try dsimp only); first | done | (with_reducible assumption) | omega (splitDisjunctions := false) | assumption | omega | decide), (by (try dsimp only); first | done | (with_reducible assumption) | omega (splitDisjunctions := false) | assumption | omega | decide), (show ov_ (60 : Int32).toInt (at_3.toInt - bg.toInt) = nM6_ (mB_ uf bg.toInt) (en.toInt - bg.toInt) (at_.toInt - bg.toInt) from (ov_m lcF (Or.inr ⟨by decide, by decide, by decide, rfl⟩) (nc_2 i1N i2Y))), (show fn_ (60 : Int32).toInt fa.toInt fa.toInt from (by unfold fn_; omega))⟩ [0, 1] (by decide) rfl rfl (by decide) (by decide)
  · have tw12 : ¬ r_9.toInt = 0 := fun z9 => w12 ((ti_eq rfl (by decide)).mpr z9)
    have i1Y := i1F.mp (by (exact omg_d9c3f42b32 fh10 tw12))
    clear i1F
    refine pb_bipush (pc := 19) (v := 38) d_Markup_readNamed_19 (by decide) ?_
    exact pb_iret (pc := 21) hQ d_Markup_readNamed_21 rfl rfl (38, at_3, fa) ⟨rfl, (by (try dsimp only); first | done | (with_reducible assumption) | omega (splitDisjunctions := false) | assumption | omega | decide), (by (try dsimp only); first | done | (with_reducible assumption) | omega (splitDisjunctions := false) | assumption | omega | decide), (by (try dsimp only); first | done | (with_reducible assumption) | omega (splitDisjunctions := false) | assumption | omega | decide), (by (try dsimp only); first | done | (with_reducible assumption) | omega (splitDisjunctions := false) | assumption | omega | decide), (show ov_ (38 : Int32).toInt (at_3.toInt - bg.toInt) = nM6_ (mB_ uf bg.toInt) (en.toInt - bg.toInt) (at_.toInt - bg.toInt) from (ov_m lcF (Or.inr ⟨by decide, by decide, by decide, rfl⟩) (nc_1 i1Y))), (show fn_ (38 : Int32).toInt fa.toInt fa.toInt from (by unfold fn_; omega))⟩ [0, 1] (by decide) rfl rfl (by decide) (by decide)

theorem d_Markup_readNumber_0 : decode prog_7_method_14_code 0 = .ok (.aload_n 0, 1) := by decide +kernel
theorem d_Markup_readNumber_1 : decode prog_7_method_14_code 1 = .ok (.dup, 1) := by decide +kernel
theorem d_Markup_readNumber_2 : decode prog_7_method_14_code 2 = .ok (.getfield 48, 3) := by decide +kernel
theorem d_Markup_readNumber_5 : decode prog_7_method_14_code 5 = .ok (.iconst 1, 1) := by decide +kernel
theorem d_Markup_readNumber_6 : decode prog_7_method_14_code 6 = .ok (.iadd, 1) := by decide +kernel
theorem d_Markup_readNumber_7 : decode prog_7_method_14_code 7 = .ok (.putfield 48, 3) := by decide +kernel
theorem d_Markup_readNumber_10 : decode prog_7_method_14_code 10 = .ok (.aload_n 0, 1) := by decide +kernel
theorem d_Markup_readNumber_11 : decode prog_7_method_14_code 11 = .ok (.getfield 48, 3) := by decide +kernel
theorem d_Markup_readNumber_14 : decode prog_7_method_14_code 14 = .ok (.istore_n 1, 1) := by decide +kernel
theorem d_Markup_readNumber_31 : decode prog_7_method_14_code 31 = .ok (.iconst 0, 1) := by decide +kernel
theorem d_Markup_readNumber_32 : decode prog_7_method_14_code 32 = .ok (.istore_n 3, 1) := by decide +kernel
theorem d_Markup_readNumber_33 : decode prog_7_method_14_code 33 = .ok (.iconst 0, 1) := by decide +kernel
theorem d_Markup_readNumber_34 : decode prog_7_method_14_code 34 = .ok (.istore 4, 2) := by decide +kernel
theorem d_Markup_readNumber_36 : decode prog_7_method_14_code 36 = .ok (.iload 4, 2) := by decide +kernel
theorem d_Markup_readNumber_38 : decode prog_7_method_14_code 38 = .ok (.iconst 3, 1) := by decide +kernel
theorem d_Markup_readNumber_39 : decode prog_7_method_14_code 39 = .ok (.if_icmp .ge 53, 3) := by decide +kernel
theorem d_Markup_readNumber_92 : decode prog_7_method_14_code 92 = .ok (.iload_n 2, 1) := by decide +kernel
theorem d_Markup_readNumber_93 : decode prog_7_method_14_code 93 = .ok (.ifCond .ne 15, 3) := by decide +kernel
theorem d_Markup_readNumber_108 : decode prog_7_method_14_code 108 = .ok (.aload_n 0, 1) := by decide +kernel
theorem d_Markup_readNumber_109 : decode prog_7_method_14_code 109 = .ok (.iload_n 1, 1) := by decide +kernel
theorem d_Markup_readNumber_110 : decode prog_7_method_14_code 110 = .ok (.invokevirtual 96, 3) := by decide +kernel
theorem d_Markup_readNumber_113 : decode prog_7_method_14_code 113 = .ok (.pop, 1) := by decide +kernel
theorem d_Markup_readNumber_114 : decode prog_7_method_14_code 114 = .ok (.iconst (-1), 1) := by decide +kernel
theorem d_Markup_readNumber_115 : decode prog_7_method_14_code 115 = .ok (.ireturn, 1) := by decide +kernel
theorem d_Markup_readNumber_96 : decode prog_7_method_14_code 96 = .ok (.iload_n 3, 1) := by decide +kernel
theorem d_Markup_readNumber_97 : decode prog_7_method_14_code 97 = .ok (.bipush 32, 2) := by decide +kernel
theorem d_Markup_readNumber_99 : decode prog_7_method_14_code 99 = .ok (.if_icmp .lt 9, 3) := by decide +kernel
theorem d_Markup_readNumber_102 : decode prog_7_method_14_code 102 = .ok (.iload_n 3, 1) := by decide +kernel
theorem d_Markup_readNumber_103 : decode prog_7_method_14_code 103 = .ok (.bipush 126, 2) := by decide +kernel
theorem d_Markup_readNumber_105 : decode prog_7_method_14_code 105 = .ok (.if_icmp .le 11, 3) := by decide +kernel
theorem d_Markup_readNumber_116 : decode prog_7_method_14_code 116 = .ok (.iload_n 3, 1) := by decide +kernel
theorem d_Markup_readNumber_117 : decode prog_7_method_14_code 117 = .ok (.ireturn, 1) := by decide +kernel
theorem d_Markup_readNumber_42 : decode prog_7_method_14_code 42 = .ok (.aload_n 0, 1) := by decide +kernel
theorem d_Markup_readNumber_43 : decode prog_7_method_14_code 43 = .ok (.iconst 0, 1) := by decide +kernel
theorem d_Markup_readNumber_44 : decode prog_7_method_14_code 44 = .ok (.invokevirtual 80, 3) := by decide +kernel
theorem d_Markup_readNumber_47 : decode prog_7_method_14_code 47 = .ok (.bipush 48, 2) := by decide +kernel
theorem d_Markup_readNumber_49 : decode prog_7_method_14_code 49 = .ok (.if_icmp .lt 43, 3) := by decide +kernel
theorem d_Markup_readNumber_52 : decode prog_7_method_14_code 52 = .ok (.aload_n 0, 1) := by decide +kernel
theorem d_Markup_readNumber_53 : decode prog_7_method_14_code 53 = .ok (.iconst 0, 1) := by decide +kernel
theorem d_Markup_readNumber_54 : decode prog_7_method_14_code 54 = .ok (.invokevirtual 80, 3) := by decide +kernel
theorem d_Markup_readNumber_57 : decode prog_7_method_14_code 57 = .ok (.bipush 57, 2) := by decide +kernel
theorem d_Markup_readNumber_59 : decode prog_7_method_14_code 59 = .ok (.if_icmp .gt 33, 3) := by decide +kernel
theorem d_Markup_readNumber_62 : decode prog_7_method_14_code 62 = .ok (.bipush 10, 2) := by decide +kernel
theorem d_Markup_readNumber_64 : decode prog_7_method_14_code 64 = .ok (.iload_n 3, 1) := by decide +kernel
theorem d_Markup_readNumber_65 : decode prog_7_method_14_code 65 = .ok (.imul, 1) := by decide +kernel
theorem d_Markup_readNumber_66 : decode prog_7_method_14_code 66 = .ok (.aload_n 0, 1) := by decide +kernel
theorem d_Markup_readNumber_67 : decode prog_7_method_14_code 67 = .ok (.iconst 0, 1) := by decide +kernel
theorem d_Markup_readNumber_68 : decode prog_7_method_14_code 68 = .ok (.invokevirtual 80, 3) := by decide +kernel
theorem d_Markup_readNumber_71 : decode prog_7_method_14_code 71 = .ok (.iadd, 1) := by decide +kernel
theorem d_Markup_readNumber_72 : decode prog_7_method_14_code 72 = .ok (.bipush 48, 2) := by decide +kernel
theorem d_Markup_readNumber_74 : decode prog_7_method_14_code 74 = .ok (.isub, 1) := by decide +kernel
theorem d_Markup_readNumber_75 : decode prog_7_method_14_code 75 = .ok (.istore_n 3, 1) := by decide +kernel
theorem d_Markup_readNumber_76 : decode prog_7_method_14_code 76 = .ok (.aload_n 0, 1) := by decide +kernel
theorem d_Markup_readNumber_77 : decode prog_7_method_14_code 77 = .ok (.dup, 1) := by decide +kernel
theorem d_Markup_readNumber_78 : decode prog_7_method_14_code 78 = .ok (.getfield 48, 3) := by decide +kernel
theorem d_Markup_readNumber_81 : decode prog_7_method_14_code 81 = .ok (.iconst 1, 1) := by decide +kernel
theorem d_Markup_readNumber_82 : decode prog_7_method_14_code 82 = .ok (.iadd, 1) := by decide +kernel
theorem d_Markup_readNumber_83 : decode prog_7_method_14_code 83 = .ok (.putfield 48, 3) := by decide +kernel
theorem d_Markup_readNumber_86 : decode prog_7_method_14_code 86 = .ok (.iinc 4 1, 3) := by decide +kernel
theorem d_Markup_readNumber_89 : decode prog_7_method_14_code 89 = .ok (.goto (-53), 3) := by decide +kernel
theorem d_Markup_readNumber_15 : decode prog_7_method_14_code 15 = .ok (.aload_n 0, 1) := by decide +kernel
theorem d_Markup_readNumber_16 : decode prog_7_method_14_code 16 = .ok (.iconst 0, 1) := by decide +kernel
theorem d_Markup_readNumber_17 : decode prog_7_method_14_code 17 = .ok (.invokevirtual 80, 3) := by decide +kernel
theorem d_Markup_readNumber_20 : decode prog_7_method_14_code 20 = .ok (.bipush 48, 2) := by decide +kernel
theorem d_Markup_readNumber_22 : decode prog_7_method_14_code 22 = .ok (.if_icmp .ne 7, 3) := by decide +kernel
theorem d_Markup_readNumber_29 : decode prog_7_method_14_code 29 = .ok (.iconst 0, 1) := by decide +kernel
theorem d_Markup_readNumber_30 : decode prog_7_method_14_code 30 = .ok (.istore_n 2, 1) := by decide +kernel
theorem d_Markup_readNumber_25 : decode prog_7_method_14_code 25 = .ok (.iconst 1, 1) := by decide +kernel
theorem d_Markup_readNumber_26 : decode prog_7_method_14_code 26 = .ok (.goto 4, 3) := by decide +kernel
abbrev y_Markup_readNumber : MethodName := ⟨"PackageBook$Markup", "readNumber", "()I"⟩
abbrev i_Markup_readNumber : pb_I := (y_Markup_readNumber, prog_7_method_14_code, 5, (some Jvm.ClassFile.FieldType.int), [], { frames := 1, cells := 0, slots := 0, locals := 21 })
set_option maxRecDepth 100000 in
set_option maxHeartbeats 4000000 in
theorem g_Mu_readNumber {l : Launch} (hl : l.stackTraces = false) (G : pb_G) (h : Nat) (ui : Nat) (ug : Nat) (uv : Nat) (ur : Nat) (ct : Int32) (fa : Int32) (bg : Int32) (at_ : Int32) (en : Int32) (vs : Int32) (io : Int32) (hi : Int32) (ht : Int32) (uf : Nat → Int32) (a0 : 0 ≤ at_.toInt) (a1 : at_.toInt ≤ en.toInt) (a2 : en.toInt ≤ 12000) (a3 : 0 ≤ bg.toInt) (a4 : bg.toInt ≤ at_.toInt) (b0 : at_.toInt < en.toInt) (F_uf : sb_Fit uf) : Cn l G i_Markup_readNumber [.ref h] [(h, .inr (8, [.ref ui, .ref ug, .ref uv, .ref ur, .int ct, .int fa, .int bg, .int at_, .int en, .int vs, .int io, .int hi, .int ht])), (ur, .inl (G.2.1, 12000, .inl uf))] (S := Int32 × Int32 × Int32) (fun rv_ u => rv_ = some (.int u.1) ∧ (at_.toInt ≤ u.2.1.toInt) ∧ (u.2.1.toInt ≤ en.toInt) ∧ (-1 ≤ u.1.toInt) ∧ (u.1.toInt ≤ 126) ∧ (ov_ u.1.toInt (u.2.1.toInt - bg.toInt) = nu_ (mB_ uf bg.toInt) (en.toInt - bg.toInt) (at_.toInt - bg.toInt)) ∧ (fn_ u.1.toInt fa.toInt u.2.2.toInt)) (fun u => [(h, .inr (8, [.ref ui, .ref ug, .ref uv, .ref ur, .int ct, .int u.2.2, .int bg, .int u.2.1, .int en, .int vs, .int io, .int hi, .int ht])), (ur, .inl (G.2.1, 12000, .inl uf))]) := by
  refine Cn.of hl (by decide +kernel) rfl (Nat.le_of_ble_eq_true rfl) (fun M hQ => ?_)
  refine pb_eq (pc' := 0) (lo' := [(0, .ref h)]) (rest' := []) (ws' := [(h, .inr (8, [.ref ui, .ref ug, .ref uv, .ref ur, .int ct, .int fa, .int bg, .int at_, .int en, .int vs, .int io, .int hi, .int ht])), (ur, .inl (G.2.1, 12000, .inl uf))]) ?_
  have zm1 : ((-1) : Int32).toInt = (-1) := by decide
  have zl0 : (0 : Int32).toInt = 0 := by decide
  have zl1 : (1 : Int32).toInt = 1 := by decide
  have zl10 : (10 : Int32).toInt = 10 := by decide
  refine pb_aload_n (pc := 0) d_Markup_readNumber_0 0 rfl rfl ?_
  refine pb_dup (pc := 1) d_Markup_readNumber_1 rfl ?_
  refine pb_get (pc := 2) d_Markup_readNumber_2 0 7 rfl rfl (by decide) in_Markup k_326 rfl ?_
  refine pb_iconst (pc := 5) (v := 1) d_Markup_readNumber_5 (by decide) ?_
  refine pb_iadd (pc := 6) d_Markup_readNumber_6 ?_
  refine pb_topi (fun i1 ei1 => ?_)
  try have ti1 : i1.toInt = at_.toInt + 1 := t2_add ei1 rfl (by decide) (by omega)
  refine pb_put (pc := 7) (ty := .int) (ws' := [(h, .inr (8, [.ref ui, .ref ug, .ref uv, .ref ur, .int ct, .int fa, .int bg, .int i1, .int en, .int vs, .int io, .int hi, .int ht])), (ur, .inl (G.2.1, 12000, .inl uf))]) d_Markup_readNumber_7 0 7 t_Markup t_Markup_ok n_Markup rfl rfl (by decide) in_Markup k_326 rfl (by decide +kernel) rfl rfl (Nat.le_of_ble_eq_true rfl) rfl ?_
  refine pb_aload_n (pc := 10) d_Markup_readNumber_10 0 rfl rfl ?_
  refine pb_get (pc := 11) d_Markup_readNumber_11 0 7 rfl rfl (by decide) in_Markup k_326 rfl ?_
  refine pb_istore_n (pc := 14) (lo' := [(1, .int i1), (0, .ref h)]) d_Markup_readNumber_14 rfl (by decide) rfl ?_
  have hJ31_2 : ∀ (z : Int32) (fr_ : Int32) (a1_ : Int32), (at_.toInt ≤ a1_.toInt) → (a1_.toInt ≤ en.toInt) → (hid_ (z.toInt = 1 ↔ cm_ (mB_ uf bg.toInt) (en.toInt - bg.toInt) ((at_.toInt - bg.toInt) + 1) = 48)) → (z.toInt = 0 ∨ z.toInt = 1) → (a1_.toInt = at_.toInt + 1) → (fr_.toInt = at_.toInt + 1) → pb_P l G M i_Markup_readNumber 31 [(2, .int z), (1, .int fr_), (0, .ref h)] [] [(h, .inr (8, [.ref ui, .ref ug, .ref uv, .ref ur, .int ct, .int fa, .int bg, .int a1_, .int en, .int vs, .int io, .int hi, .int ht])), (ur, .inl (G.2.1, 12000, .inl uf))] 0 0 := by
    intro z fr_ a1_ j0 j1 jz jz2 ja jf
    refine pb_iconst (pc := 31) (v := 0) d_Markup_readNumber_31 (by decide) ?_
    refine pb_istore_n (pc := 32) (lo' := [(3, .int 0), (2, .int z), (1, .int fr_), (0, .ref h)]) d_Markup_readNumber_32 rfl (by decide) rfl ?_
    refine pb_iconst (pc := 33) (v := 0) d_Markup_readNumber_33 (by decide) ?_
    refine pb_istore (pc := 34) (lo' := [(4, .int 0), (3, .int 0), (2, .int z), (1, .int fr_), (0, .ref h)]) d_Markup_readNumber_34 (by decide) rfl ?_
    have hL36_3 : ∀ (N9 : Nat) (n : Int32) (j : Int32) (a : Int32) (f : Int32), (at_.toInt ≤ a.toInt) → (a.toInt ≤ en.toInt) → (0 ≤ j.toInt) → (dg_ (mB_ uf bg.toInt) (en.toInt - bg.toInt) (((at_.toInt - bg.toInt) + 1) + 3 - (a.toInt - bg.toInt)).toNat (a.toInt - bg.toInt) n.toInt = dg_ (mB_ uf bg.toInt) (en.toInt - bg.toInt) 3 ((at_.toInt - bg.toInt) + 1) 0) → (a.toInt = at_.toInt + 1 + j.toInt) → ((j.toInt = 0 ∧ n.toInt = 0) ∨ (j.toInt = 1 ∧ 0 ≤ n.toInt ∧ n.toInt ≤ 9) ∨ (j.toInt = 2 ∧ 0 ≤ n.toInt ∧ n.toInt ≤ 99) ∨ (j.toInt = 3 ∧ 0 ≤ n.toInt ∧ n.toInt ≤ 999)) → (f.toInt = fa.toInt) → ((3 - j.toInt).toNat) < N9 → pb_P l G M i_Markup_readNumber 36 [(3, .int n), (4, .int j), (2, .int z), (1, .int fr_), (0, .ref h)] [] [(h, .inr (8, [.ref ui, .ref ug, .ref uv, .ref ur, .int ct, .int f, .int bg, .int a, .int en, .int vs, .int io, .int hi, .int ht])), (ur, .inl (G.2.1, 12000, .inl uf))] 0 0 := by
      intro N9
      induction N9 with
      | zero => intro n j a f k0 k1 k2 kd ka kb lf hm9; exact absurd hm9 (Nat.not_lt_zero _)
      | succ N9 ih36 =>
        intro n j a f k0 k1 k2 kd ka kb lf hm9
        refine pb_iload (pc := 36) d_Markup_readNumber_36 1 rfl ?_
        refine pb_iconst (pc := 38) (v := 3) d_Markup_readNumber_38 (by decide) ?_
        refine pb_icmp_ge (pc := 39) (tgt := 92) d_Markup_readNumber_39 (by decide) (fun w4 => ?_) (fun w4 => ?_)
        · have tw4 : 3 ≤ j.toInt := (ti_le (by decide) rfl).mp w4
          have dgF := dg_x kd (by omega)
          refine pb_iload_n (pc := 92) d_Markup_readNumber_92 2 rfl rfl ?_
          refine pb_if_ne (pc := 93) (tgt := 108) d_Markup_readNumber_93 (by decide) (fun w5 => ?_) (fun w5 => ?_)
          · have tw5 : ¬ z.toInt = 0 := fun z9 => w5 ((ti_eq rfl (by decide)).mpr z9)
            refine pb_aload_n (pc := 108) d_Markup_readNumber_108 4 rfl rfl ?_
            refine pb_iload_n (pc := 109) d_Markup_readNumber_109 3 rfl rfl ?_
            refine pb_callV (pc := 110) (I := i_Markup_readNumber) (qb := 0) (ci := 8) (nA := 1) (rest := []) (wr := [(ur, .inl (G.2.1, 12000, .inl uf))]) d_Markup_readNumber_110 (g_Mu_fail hl G h ui ug uv ur ct f bg a en vs io hi ht fr_ (by first | (with_reducible assumption) | omega (splitDisjunctions := false) | assumption | omega | decide) (by first | (with_reducible assumption) | omega (splitDisjunctions := false) | assumption | omega | decide) (by first | (with_reducible assumption) | (exact omg_82cf4c980f a2 b0 jf) | assumption | omega | decide)) rfl rfl [0] [1] (by decide) rfl rfl rfl (by decide) (by decide) k_831 rfl k_125 k_828 k_830 k_36 ⟨rfl, hy_Markup_fail⟩ (by decide) rfl rfl (Nat.le_of_ble_eq_true rfl) (by decide) (fun v9 u7 ch6 => ?_)
            obtain ⟨f_8, rfl⟩ : ∃ z9, z9 = u7 := ⟨_, rfl⟩
            obtain ⟨ech6, ch6⟩ := ch6
            have ech6 : v9 = some (.int 0) := ech6
            subst ech6
            have fh9 : 0 ≤ f_8.toInt := ch6
            have flF := fh9
            refine pb_eq (pc' := 113) (lo' := [(3, .int n), (4, .int j), (2, .int z), (1, .int fr_), (0, .ref h)]) (rest' := [.int 0]) (ws' := [(ur, .inl (G.2.1, 12000, .inl uf)), (h, .inr (8, [.ref ui, .ref ug, .ref uv, .ref ur, .int ct, .int f_8, .int bg, .int a, .int en, .int vs, .int io, .int hi, .int ht]))]) ?_
            refine pb_pop (pc := 113) d_Markup_readNumber_113 rfl ?_
            refine pb_iconst (pc := 114) (v := (-1)) d_Markup_readNumber_114 (by decide) ?_
            exact pb_iret (pc := 115) hQ d_Markup_readNumber_115 rfl rfl ((-1), a, f_8) ⟨rfl, (by (try dsimp only); first | done | (with_reducible assumption) | omega (splitDisjunctions := false) | assumption | omega | decide), (by (try dsimp only); first | done | (with_reducible assumption) | omega (splitDisjunctions := false) | assumption | omega | decide), (by (try dsimp only); first | done | (with_reducible assumption) | omega (splitDisjunctions := false) | assumption | omega | decide), (by (try dsimp only); first | done | (with_reducible assumption) | omega (splitDisjunctions := false) | assumption | omega | decide), (show ov_ ((-1) : Int32).toInt (a.toInt - bg.toInt) = nu_ (mB_ uf bg.toInt) (en.toInt - bg.toInt) (at_.toInt - bg.toInt) from (ov_u dgF (Or.inl ⟨by have q9 := hid_o jz; (exact omg_1da51ef73f jz2 tw5 q9), by decide⟩))), (show fn_ ((-1) : Int32).toInt fa.toInt f_8.toInt from (by unfold fn_; omega))⟩ [1, 0] (by decide) rfl rfl (by decide) (by decide)
          · have tw5 : z.toInt = 0 := (ti_eq rfl (by decide)).mp w5
            refine pb_iload_n (pc := 96) d_Markup_readNumber_96 0 rfl rfl ?_
            refine pb_bipush (pc := 97) (v := 32) d_Markup_readNumber_97 (by decide) ?_
            refine pb_icmp_lt (pc := 99) (tgt := 108) d_Markup_readNumber_99 (by decide) (fun w10 => ?_) (fun w10 => ?_)
            · have tw10 : n.toInt < 32 := (ti_lt rfl (by decide)).mp w10
              refine pb_aload_n (pc := 108) d_Markup_readNumber_108 4 rfl rfl ?_
              refine pb_iload_n (pc := 109) d_Markup_readNumber_109 3 rfl rfl ?_
              refine pb_callV (pc := 110) (I := i_Markup_readNumber) (qb := 0) (ci := 8) (nA := 1) (rest := []) (wr := [(ur, .inl (G.2.1, 12000, .inl uf))]) d_Markup_readNumber_110 (g_Mu_fail hl G h ui ug uv ur ct f bg a en vs io hi ht fr_ (by first | (with_reducible assumption) | omega (splitDisjunctions := false) | assumption | omega | decide) (by first | (with_reducible assumption) | omega (splitDisjunctions := false) | assumption | omega | decide) (by first | (with_reducible assumption) | omega (splitDisjunctions := false) | assumption | omega | decide)) rfl rfl [0] [1] (by decide) rfl rfl rfl (by decide) (by decide) k_831 rfl k_125 k_828 k_830 k_36 ⟨rfl, hy_Markup_fail⟩ (by decide) rfl rfl (Nat.le_of_ble_eq_true rfl) (by decide) (fun v9 u12 ch11 => ?_)
              obtain ⟨f_13, rfl⟩ : ∃ z9, z9 = u12 := ⟨_, rfl⟩
              obtain ⟨ech11, ch11⟩ := ch11
              have ech11 : v9 = some (.int 0) := ech11
              subst ech11
              have fh14 : 0 ≤ f_13.toInt := ch11
              have flF := fh14
              refine pb_eq (pc' := 113) (lo' := [(3, .int n), (4, .int j), (2, .int z), (1, .int fr_), (0, .ref h)]) (rest' := [.int 0]) (ws' := [(ur, .inl (G.2.1, 12000, .inl uf)), (h, .inr (8, [.ref ui, .ref ug, .ref uv, .ref ur, .int ct, .int f_13, .int bg, .int a, .int en, .int vs, .int io, .int hi, .int ht]))]) ?_
              refine pb_pop (pc := 113) d_Markup_readNumber_113 rfl ?_
              refine pb_iconst (pc := 114) (v := (-1)) d_Markup_readNumber_114 (by decide) ?_
              exact pb_iret (pc := 115) hQ d_Markup_readNumber_115 rfl rfl ((-1), a, f_13) ⟨rfl, (by (try dsimp only); first | done | (with_reducible assumption) | omega (splitDisjunctions := false) | assumption | omega | decide), (by (try dsimp only); first | done | (with_reducible assumption) | omega (splitDisjunctions := false) | assumption | omega | decide), (by (try dsimp only); first | done | (with_reducible assumption) | omega (splitDisjunctions := false) | assumption | omega | decide), (by (try dsimp only); first | done | (with_reducible assumption) | omega (splitDisjunctions := false) | assumption | omega | decide), (show ov_ ((-1) : Int32).toInt (a.toInt - bg.toInt) = nu_ (mB_ uf bg.toInt) (en.toInt - bg.toInt) (at_.toInt - bg.toInt) from (ov_u dgF (Or.inl ⟨by have q9 := hid_o jz; omega, by decide⟩))), (show fn_ ((-1) : Int32).toInt fa.toInt f_13.toInt from (by unfold fn_; omega))⟩ [1, 0] (by decide) rfl rfl (by decide) (by decide)
            · have tw10 : ¬ n.toInt < 32 := fun z9 => w10 ((ti_lt rfl (by decide)).mpr z9)
              refine pb_iload_n (pc := 102) d_Markup_readNumber_102 0 rfl rfl ?_
              refine pb_bipush (pc := 103) (v := 126) d_Markup_readNumber_103 (by decide) ?_
              refine pb_icmp_le (pc := 105) (tgt := 116) d_Markup_readNumber_105 (by decide) (fun w15 => ?_) (fun w15 => ?_)
              · have tw15 : n.toInt ≤ 126 := (ti_le rfl (by decide)).mp w15
                refine pb_iload_n (pc := 116) d_Markup_readNumber_116 0 rfl rfl ?_
                exact pb_iret (pc := 117) hQ d_Markup_readNumber_117 rfl rfl (n, a, f) ⟨rfl, (by (try dsimp only); first | done | (with_reducible assumption) | omega (splitDisjunctions := false) | assumption | omega | decide), (by (try dsimp only); first | done | (with_reducible assumption) | omega (splitDisjunctions := false) | assumption | omega | decide), (by (try dsimp only); first | done | (with_reducible assumption) | omega (splitDisjunctions := false) | assumption | omega | decide), (by (try dsimp only); first | done | (with_reducible assumption) | omega (splitDisjunctions := false) | assumption | omega | decide), (show ov_ n.toInt (a.toInt - bg.toInt) = nu_ (mB_ uf bg.toInt) (en.toInt - bg.toInt) (at_.toInt - bg.toInt) from (ov_u dgF (Or.inr ⟨by have q9 := hid_o jz; omega, rfl, rfl⟩))), (show fn_ n.toInt fa.toInt f.toInt from (by unfold fn_; omega))⟩ [0, 1] (by decide) rfl rfl (by decide) (by decide)
              · have tw15 : ¬ n.toInt ≤ 126 := fun z9 => w15 ((ti_le rfl (by decide)).mpr z9)
                refine pb_aload_n (pc := 108) d_Markup_readNumber_108 4 rfl rfl ?_
                refine pb_iload_n (pc := 109) d_Markup_readNumber_109 3 rfl rfl ?_
                refine pb_callV (pc := 110) (I := i_Markup_readNumber) (qb := 0) (ci := 8) (nA := 1) (rest := []) (wr := [(ur, .inl (G.2.1, 12000, .inl uf))]) d_Markup_readNumber_110 (g_Mu_fail hl G h ui ug uv ur ct f bg a en vs io hi ht fr_ (by first | (with_reducible assumption) | omega (splitDisjunctions := false) | assumption | omega | decide) (by first | (with_reducible assumption) | omega (splitDisjunctions := false) | assumption | omega | decide) (by first | (with_reducible assumption) | omega (splitDisjunctions := false) | assumption | omega | decide)) rfl rfl [0] [1] (by decide) rfl rfl rfl (by decide) (by decide) k_831 rfl k_125 k_828 k_830 k_36 ⟨rfl, hy_Markup_fail⟩ (by decide) rfl rfl (Nat.le_of_ble_eq_true rfl) (by decide) (fun v9 u17 ch16 => ?_)
                obtain ⟨f_18, rfl⟩ : ∃ z9, z9 = u17 := ⟨_, rfl⟩
                obtain ⟨ech16, ch16⟩ := ch16
                have ech16 : v9 = some (.int 0) := ech16
                subst ech16
                have fh19 : 0 ≤ f_18.toInt := ch16
                have flF := fh19
                refine pb_eq (pc' := 113) (lo' := [(3, .int n), (4, .int j), (2, .int z), (1, .int fr_), (0, .ref h)]) (rest' := [.int 0]) (ws' := [(ur, .inl (G.2.1, 12000, .inl uf)), (h, .inr (8, [.ref ui, .ref ug, .ref uv, .ref ur, .int ct, .int f_18, .int bg, .int a, .int en, .int vs, .int io, .int hi, .int ht]))]) ?_
                refine pb_pop (pc := 113) d_Markup_readNumber_113 rfl ?_
                refine pb_iconst (pc := 114) (v := (-1)) d_Markup_readNumber_114 (by decide) ?_
                exact pb_iret (pc := 115) hQ d_Markup_readNumber_115 rfl rfl ((-1), a, f_18) ⟨rfl, (by (try dsimp only); first | done | (with_reducible assumption) | omega (splitDisjunctions := false) | assumption | omega | decide), (by (try dsimp only); first | done | (with_reducible assumption) | omega (splitDisjunctions := false) | assumption | omega | decide), (by (try dsimp only); first | done | (with_reducible assumption) | omega (splitDisjunctions := false) | assumption | omega | decide), (by (try dsimp only); first | done | (with_reducible assumption) | omega (splitDisjunctions := false) | assumption | omega | decide), (show ov_ ((-1) : Int32).toInt (a.toInt - bg.toInt) = nu_ (mB_ uf bg.toInt) (en.toInt - bg.toInt) (at_.toInt - bg.toInt) from (ov_u dgF (Or.inl ⟨by have q9 := hid_o jz; omega, by decide⟩))), (show fn_ ((-1) : Int32).toInt fa.toInt f_18.toInt from (by unfold fn_; omega))⟩ [1, 0] (by decide) rfl rfl (by decide) (by decide)
        · have tw4 : ¬ 3 ≤ j.toInt := fun z9 => w4 ((ti_le (by decide) rfl).mpr z9)
          refine pb_aload_n (pc := 42) d_Markup_readNumber_42 4 rfl rfl ?_
          refine pb_iconst (pc := 43) (v := 0) d_Markup_readNumber_43 (by decide) ?_
          refine pb_callV (pc := 44) (I := i_Markup_readNumber) (qb := 0) (ci := 8) (nA := 1) (rest := []) (wr := []) d_Markup_readNumber_44 (g_Mu_next hl G h ui ug uv ur ct f bg a en vs io hi ht uf 0 (by first | (with_reducible assumption) | (exact omg_12a522f25f a0 k2 ka) | assumption | omega | decide) (by first | (with_reducible assumption) | omega (splitDisjunctions := false) | assumption | omega | decide) (by first | (with_reducible assumption) | omega (splitDisjunctions := false) | assumption | omega | decide) (by first | (with_reducible assumption) | omega (splitDisjunctions := false) | assumption | omega | decide) (by first | (with_reducible assumption) | omega (splitDisjunctions := false) | assumption | omega | decide) (by first | (with_reducible assumption) | omega (splitDisjunctions := false) | assumption | omega | decide) (by first | (with_reducible assumption) | omega (splitDisjunctions := false) | assumption | omega | decide) (by first | assumption | decide | omega)) rfl rfl [0, 1] [] (by decide) rfl rfl rfl (by decide) (by decide) k_813 rfl k_125 k_810 k_812 k_33 ⟨rfl, hy_Markup_next⟩ (by decide) rfl rfl (Nat.le_of_ble_eq_true rfl) (by decide) (fun v9 u21 ch20 => ?_)
          obtain ⟨r_22, rfl⟩ : ∃ z9, z9 = u21 := ⟨_, rfl⟩
          obtain ⟨ech20, ch20⟩ := ch20
          have ech20 : v9 = some (.int r_22) := ech20
          subst ech20
          obtain ⟨fh23, fh24, fh25, fh26⟩ : (-1 ≤ r_22.toInt) ∧ (r_22.toInt ≤ 255) ∧ (0 ≤ r_22.toInt → a.toInt + (0 : Int32).toInt < en.toInt) ∧ (r_22.toInt = cm_ (mB_ uf bg.toInt) (en.toInt - bg.toInt) ((a.toInt - bg.toInt) + (0 : Int32).toInt)) := ch20
          have g1F := fh26
          rw [zl0, Int.add_zero] at g1F
          refine pb_eq (pc' := 47) (lo' := [(3, .int n), (4, .int j), (2, .int z), (1, .int fr_), (0, .ref h)]) (rest' := [.int r_22]) (ws' := [(h, .inr (8, [.ref ui, .ref ug, .ref uv, .ref ur, .int ct, .int f, .int bg, .int a, .int en, .int vs, .int io, .int hi, .int ht])), (ur, .inl (G.2.1, 12000, .inl uf))]) ?_
          refine pb_bipush (pc := 47) (v := 48) d_Markup_readNumber_47 (by decide) ?_
          refine pb_icmp_lt (pc := 49) (tgt := 92) d_Markup_readNumber_49 (by decide) (fun w27 => ?_) (fun w27 => ?_)
          · have tw27 : r_22.toInt < 48 := (ti_lt rfl (by decide)).mp w27
            have dgF := dg_x kd (by omega)
            refine pb_iload_n (pc := 92) d_Markup_readNumber_92 2 rfl rfl ?_
            refine pb_if_ne (pc := 93) (tgt := 108) d_Markup_readNumber_93 (by decide) (fun w28 => ?_) (fun w28 => ?_)
            · have tw28 : ¬ z.toInt = 0 := fun z9 => w28 ((ti_eq rfl (by decide)).mpr z9)
              refine pb_aload_n (pc := 108) d_Markup_readNumber_108 4 rfl rfl ?_
              refine pb_iload_n (pc := 109) d_Markup_readNumber_109 3 rfl rfl ?_
              refine pb_callV (pc := 110) (I := i_Markup_readNumber) (qb := 0) (ci := 8) (nA := 1) (rest := []) (wr := [(ur, .inl (G.2.1, 12000, .inl uf))]) d_Markup_readNumber_110 (g_Mu_fail hl G h ui ug uv ur ct f bg a en vs io hi ht fr_ (by first | (with_reducible assumption) | omega (splitDisjunctions := false) | assumption | (clear fh25 hm9; first | omega (splitDisjunctions := false) | omega) | omega | decide) (by first | (with_reducible assumption) | omega (splitDisjunctions := false) | assumption | (clear fh25 hm9; first | omega (splitDisjunctions := false) | omega) | omega | decide) (by first | (with_reducible assumption) | omega (splitDisjunctions := false) | assumption | (clear fh25 hm9; first | omega (splitDisjunctions := false) | omega) | omega | decide)) rfl rfl [0] [1] (by decide) rfl rfl rfl (by decide) (by decide) k_831 rfl k_125 k_828 k_830 k_36 ⟨rfl, hy_Markup_fail⟩ (by decide) rfl rfl (Nat.le_of_ble_eq_true rfl) (by decide) (fun v9 u30 ch29 => ?_)
              obtain ⟨f_31, rfl⟩ : ∃ z9, z9 = u30 := ⟨_, rfl⟩
              obtain ⟨ech29, ch29⟩ := ch29
              have ech29 : v9 = some (.int 0) := ech29
              subst ech29
              have fh32 : 0 ≤ f_31.toInt := ch29
              have flF := fh32
              refine pb_eq (pc' := 113) (lo' := [(3, .int n), (4, .int j), (2, .int z), (1, .int fr_), (0, .ref h)]) (rest' := [.int 0]) (ws' := [(ur, .inl (G.2.1, 12000, .inl uf)), (h, .inr (8, [.ref ui, .ref ug, .ref uv, .ref ur, .int ct, .int f_31, .int bg, .int a, .int en, .int vs, .int io, .int hi, .int ht]))]) ?_
              refine pb_pop (pc := 113) d_Markup_readNumber_113 rfl ?_
              refine pb_iconst (pc := 114) (v := (-1)) d_Markup_readNumber_114 (by decide) ?_
              exact pb_iret (pc := 115) hQ d_Markup_readNumber_115 rfl rfl ((-1), a, f_31) ⟨rfl, (by (try dsimp only); first | done | (with_reducible assumption) | omega (splitDisjunctions := false) | assumption | (clear fh25 hm9; first | omega (splitDisjunctions := false) | omega) | omega | decide), (by (try dsimp only); first | done | (with_reducible assumption) | omega (splitDisjunctions := false) | assumption | (clear fh25 hm9; first | omega (splitDisjunctions := false) | omega) | omega | decide), (by (try dsimp only); first | done | (with_reducible assumption) | omega (splitDisjunctions := false) | assumption | (clear fh25 hm9; first | omega (splitDisjunctions := false) | omega) | omega | decide), (by (try dsimp only); first | done | (with_reducible assumption) | omega (splitDisjunctions := false) | assumption | (clear fh25 hm9; first | omega (splitDisjunctions := false) | omega) | omega | decide), (show ov_ ((-1) : Int32).toInt (a.toInt - bg.toInt) = nu_ (mB_ uf bg.toInt) (en.toInt - bg.toInt) (at_.toInt - bg.toInt) from (ov_u dgF (Or.inl ⟨by have q9 := hid_o jz; (exact omg_1da51ef73f jz2 tw28 q9), by decide⟩))), (show fn_ ((-1) : Int32).toInt fa.toInt f_31.toInt from (by unfold fn_; omega))⟩ [1, 0] (by decide) rfl rfl (by decide) (by decide)
            · have tw28 : z.toInt = 0 := (ti_eq rfl (by decide)).mp w28
              refine pb_iload_n (pc := 96) d_Markup_readNumber_96 0 rfl rfl ?_
              refine pb_bipush (pc := 97) (v := 32) d_Markup_readNumber_97 (by decide) ?_
              refine pb_icmp_lt (pc := 99) (tgt := 108) d_Markup_readNumber_99 (by decide) (fun w33 => ?_) (fun w33 => ?_)
              · have tw33 : n.toInt < 32 := (ti_lt rfl (by decide)).mp w33
                refine pb_aload_n (pc := 108) d_Markup_readNumber_108 4 rfl rfl ?_
                refine pb_iload_n (pc := 109) d_Markup_readNumber_109 3 rfl rfl ?_
                refine pb_callV (pc := 110) (I := i_Markup_readNumber) (qb := 0) (ci := 8) (nA := 1) (rest := []) (wr := [(ur, .inl (G.2.1, 12000, .inl uf))]) d_Markup_readNumber_110 (g_Mu_fail hl G h ui ug uv ur ct f bg a en vs io hi ht fr_ (by first | (with_reducible assumption) | omega (splitDisjunctions := false) | assumption | (clear fh25 hm9; first | omega (splitDisjunctions := false) | omega) | omega | decide) (by first | (with_reducible assumption) | (exact omg_fa94e12e03 a4 jf) | assumption | (clear fh25 hm9; first | omega (splitDisjunctions := false) | omega) | omega | decide) (by first | (with_reducible assumption) | (exact omg_82cf4c980f a2 b0 jf) | assumption | (clear fh25 hm9; first | omega (splitDisjunctions := false) | omega) | omega | decide)) rfl rfl [0] [1] (by decide) rfl rfl rfl (by decide) (by decide) k_831 rfl k_125 k_828 k_830 k_36 ⟨rfl, hy_Markup_fail⟩ (by decide) rfl rfl (Nat.le_of_ble_eq_true rfl) (by decide) (fun v9 u35 ch34 => ?_)
                obtain ⟨f_36, rfl⟩ : ∃ z9, z9 = u35 := ⟨_, rfl⟩
                obtain ⟨ech34, ch34⟩ := ch34
                have ech34 : v9 = some (.int 0) := ech34
                subst ech34
                have fh37 : 0 ≤ f_36.toInt := ch34
                have flF := fh37
                refine pb_eq (pc' := 113) (lo' := [(3, .int n), (4, .int j), (2, .int z), (1, .int fr_), (0, .ref h)]) (rest' := [.int 0]) (ws' := [(ur, .inl (G.2.1, 12000, .inl uf)), (h, .inr (8, [.ref ui, .ref ug, .ref uv, .ref ur, .int ct, .int f_36, .int bg, .int a, .int en, .int vs, .int io, .int hi, .int ht]))]) ?_
                refine pb_pop (pc := 113) d_Markup_readNumber_113 rfl ?_
                refine pb_iconst (pc := 114) (v := (-1)) d_Markup_readNumber_114 (by decide) ?_
                exact pb_iret (pc := 115) hQ d_Markup_readNumber_115 rfl rfl ((-1), a, f_36) ⟨rfl, (by (try dsimp only); first | done | (with_reducible assumption) | omega (splitDisjunctions := false) | assumption | (clear fh25 hm9; first | omega (splitDisjunctions := false) | omega) | omega | decide), (by (try dsimp only); first | done | (with_reducible assumption) | omega (splitDisjunctions := false) | assumption | (clear fh25 hm9; first | omega (splitDisjunctions := false) | omega) | omega | decide), (by (try dsimp only); first | done | (with_reducible assumption) | omega (splitDisjunctions := false) | assumption | (clear fh25 hm9; first | omega (splitDisjunctions := false) | omega) | omega | decide), (by (try dsimp only); first | done | (with_reducible assumption) | omega (splitDisjunctions := false) | assumption | (clear fh25 hm9; first | omega (splitDisjunctions := false) | omega) | omega | decide), (show ov_ ((-1) : Int32).toInt (a.toInt - bg.toInt) = nu_ (mB_ uf bg.toInt) (en.toInt - bg.toInt) (at_.toInt - bg.toInt) from (ov_u dgF (Or.inl ⟨by have q9 := hid_o jz; omega, by decide⟩))), (show fn_ ((-1) : Int32).toInt fa.toInt f_36.toInt from (by unfold fn_; omega))⟩ [1, 0] (by decide) rfl rfl (by decide) (by decide)
              · have tw33 : ¬ n.toInt < 32 := fun z9 => w33 ((ti_lt rfl (by decide)).mpr z9)
                refine pb_iload_n (pc := 102) d_Markup_readNumber_102 0 rfl rfl ?_
                refine pb_bipush (pc := 103) (v := 126) d_Markup_readNumber_103 (by decide) ?_
                refine pb_icmp_le (pc := 105) (tgt := 116) d_Markup_readNumber_105 (by decide) (fun w38 => ?_) (fun w38 => ?_)
                · have tw38 : n.toInt ≤ 126 := (ti_le rfl (by decide)).mp w38
                  refine pb_iload_n (pc := 116) d_Markup_readNumber_116 0 rfl rfl ?_
                  exact pb_iret (pc := 117) hQ d_Markup_readNumber_117 rfl rfl (n, a, f) ⟨rfl, (by (try dsimp only); first | done | (with_reducible assumption) | omega (splitDisjunctions := false) | assumption | (clear fh25 hm9; first | omega (splitDisjunctions := false) | omega) | omega | decide), (by (try dsimp only); first | done | (with_reducible assumption) | omega (splitDisjunctions := false) | assumption | (clear fh25 hm9; first | omega (splitDisjunctions := false) | omega) | omega | decide), (by (try dsimp only); first | done | (with_reducible assumption) | omega (splitDisjunctions := false) | assumption | (clear fh25 hm9; first | omega (splitDisjunctions := false) | omega) | omega | decide), (by (try dsimp only); first | done | (with_reducible assumption) | omega (splitDisjunctions := false) | assumption | (clear fh25 hm9; first | omega (splitDisjunctions := false) | omega) | omega | decide), (show ov_ n.toInt (a.toInt - bg.toInt) = nu_ (mB_ uf bg.toInt) (en.toInt - bg.toInt) (at_.toInt - bg.toInt) from (ov_u dgF (Or.inr ⟨by have q9 := hid_o jz; omega, rfl, rfl⟩))), (show fn_ n.toInt fa.toInt f.toInt from (by unfold fn_; omega))⟩ [0, 1] (by decide) rfl rfl (by decide) (by decide)
                · have tw38 : ¬ n.toInt ≤ 126 := fun z9 => w38 ((ti_le rfl (by decide)).mpr z9)
                  refine pb_aload_n (pc := 108) d_Markup_readNumber_108 4 rfl rfl ?_
                  refine pb_iload_n (pc := 109) d_Markup_readNumber_109 3 rfl rfl ?_
                  refine pb_callV (pc := 110) (I := i_Markup_readNumber) (qb := 0) (ci := 8) (nA := 1) (rest := []) (wr := [(ur, .inl (G.2.1, 12000, .inl uf))]) d_Markup_readNumber_110 (g_Mu_fail hl G h ui ug uv ur ct f bg a en vs io hi ht fr_ (by first | (with_reducible assumption) | omega (splitDisjunctions := false) | assumption | (clear fh25 hm9; first | omega (splitDisjunctions := false) | omega) | omega | decide) (by first | (with_reducible assumption) | omega (splitDisjunctions := false) | assumption | (clear fh25 hm9; first | omega (splitDisjunctions := false) | omega) | omega | decide) (by first | (with_reducible assumption) | omega (splitDisjunctions := false) | assumption | (clear fh25 hm9; first | omega (splitDisjunctions := false) | omega) | omega | decide)) rfl rfl [0] [1] (by decide) rfl rfl rfl (by decide) (by decide) k_831 rfl k_125 k_828 k_830 k_36 ⟨rfl, hy_Markup_fail⟩ (by decide) rfl rfl (Nat.le_of_ble_eq_true rfl) (by decide) (fun v9 u40 ch39 => ?_)
                  obtain ⟨f_41, rfl⟩ : ∃ z9, z9 = u40 := ⟨_, rfl⟩
                  obtain ⟨ech39, ch39⟩ := ch39
                  have ech39 : v9 = some (.int 0) := ech39
                  subst ech39
                  have fh42 : 0 ≤ f_41.toInt := ch39
                  have flF := fh42
                  refine pb_eq (pc' := 113) (lo' := [(3, .int n), (4, .int j), (2, .int z), (1, .int fr_), (0, .ref h)]) (rest' := [.int 0]) (ws' := [(ur, .inl (G.2.1, 12000, .inl uf)), (h, .inr (8, [.ref ui, .ref ug, .ref uv, .ref ur, .int ct, .int f_41, .int bg, .int a, .int en, .int vs, .int io, .int hi, .int ht]))]) ?_
                  refine pb_pop (pc := 113) d_Markup_readNumber_113 rfl ?_
                  refine pb_iconst (pc := 114) (v := (-1)) d_Markup_readNumber_114 (by decide) ?_
                  exact pb_iret (pc := 115) hQ d_Markup_readNumber_115 rfl rfl ((-1), a, f_41) ⟨rfl, (by (try dsimp only); first | done | (with_reducible assumption) | omega (splitDisjunctions := false) | assumption | (clear fh25 hm9; first | omega (splitDisjunctions := false) | omega) | omega | decide), (by (try dsimp only); first | done | (with_reducible assumption) | omega (splitDisjunctions := false) | assumption | (clear fh25 hm9; first | omega (splitDisjunctions := false) | omega) | omega | decide), (by (try dsimp only); first | done | (with_reducible assumption) | omega (splitDisjunctions := false) | assumption | (clear fh25 hm9; first | omega (splitDisjunctions := false) | omega) | omega | decide), (by (try dsimp only); first | done | (with_reducible assumption) | omega (splitDisjunctions := false) | assumption | (clear fh25 hm9; first | omega (splitDisjunctions := false) | omega) | omega | decide), (show ov_ ((-1) : Int32).toInt (a.toInt - bg.toInt) = nu_ (mB_ uf bg.toInt) (en.toInt - bg.toInt) (at_.toInt - bg.toInt) from (ov_u dgF (Or.inl ⟨by have q9 := hid_o jz; omega, by decide⟩))), (show fn_ ((-1) : Int32).toInt fa.toInt f_41.toInt from (by unfold fn_; omega))⟩ [1, 0] (by decide) rfl rfl (by decide) (by decide)
          · have tw27 : ¬ r_22.toInt < 48 := fun z9 => w27 ((ti_lt rfl (by decide)).mpr z9)
            refine pb_aload_n (pc := 52) d_Markup_readNumber_52 4 rfl rfl ?_
            refine pb_iconst (pc := 53) (v := 0) d_Markup_readNumber_53 (by decide) ?_
            refine pb_callV (pc := 54) (I := i_Markup_readNumber) (qb := 0) (ci := 8) (nA := 1) (rest := []) (wr := []) d_Markup_readNumber_54 (g_Mu_next hl G h ui ug uv ur ct f bg a en vs io hi ht uf 0 (by first | (with_reducible assumption) | (exact omg_12a522f25f a0 k2 ka) | assumption | (clear fh25 hm9; first | omega (splitDisjunctions := false) | omega) | omega | decide) (by first | (with_reducible assumption) | omega (splitDisjunctions := false) | assumption | (clear fh25 hm9; first | omega (splitDisjunctions := false) | omega) | omega | decide) (by first | (with_reducible assumption) | omega (splitDisjunctions := false) | assumption | (clear fh25 hm9; first | omega (splitDisjunctions := false) | omega) | omega | decide) (by first | (with_reducible assumption) | omega (splitDisjunctions := false) | assumption | (clear fh25 hm9; first | omega (splitDisjunctions := false) | omega) | omega | decide) (by first | (with_reducible assumption) | omega (splitDisjunctions := false) | assumption | (clear fh25 hm9; first | omega (splitDisjunctions := false) | omega) | omega | decide) (by first | (with_reducible assumption) | omega (splitDisjunctions := false) | assumption | (clear fh25 hm9; first | omega (splitDisjunctions := false) | omega) | omega | decide) (by first | (with_reducible assumption) | omega (splitDisjunctions := false) | assumption | (clear fh25 hm9; first | omega (splitDisjunctions := false) | omega) | omega | decide) (by first | assumption | decide | omega)) rfl rfl [0, 1] [] (by decide) rfl rfl rfl (by decide) (by decide) k_813 rfl k_125 k_810 k_812 k_33 ⟨rfl, hy_Markup_next⟩ (by decide) rfl rfl (Nat.le_of_ble_eq_true rfl) (by decide) (fun v9 u44 ch43 => ?_)
            obtain ⟨r_45, rfl⟩ : ∃ z9, z9 = u44 := ⟨_, rfl⟩
            obtain ⟨ech43, ch43⟩ := ch43
            have ech43 : v9 = some (.int r_45) := ech43
            subst ech43
            obtain ⟨fh46, fh47, fh48, fh49⟩ : (-1 ≤ r_45.toInt) ∧ (r_45.toInt ≤ 255) ∧ (0 ≤ r_45.toInt → a.toInt + (0 : Int32).toInt < en.toInt) ∧ (r_45.toInt = cm_ (mB_ uf bg.toInt) (en.toInt - bg.toInt) ((a.toInt - bg.toInt) + (0 : Int32).toInt)) := ch43
            have g2F := fh49
            rw [zl0, Int.add_zero] at g2F
            refine pb_eq (pc' := 57) (lo' := [(3, .int n), (4, .int j), (2, .int z), (1, .int fr_), (0, .ref h)]) (rest' := [.int r_45]) (ws' := [(h, .inr (8, [.ref ui, .ref ug, .ref uv, .ref ur, .int ct, .int f, .int bg, .int a, .int en, .int vs, .int io, .int hi, .int ht])), (ur, .inl (G.2.1, 12000, .inl uf))]) ?_
            refine pb_bipush (pc := 57) (v := 57) d_Markup_readNumber_57 (by decide) ?_
            refine pb_icmp_gt (pc := 59) (tgt := 92) d_Markup_readNumber_59 (by decide) (fun w50 => ?_) (fun w50 => ?_)
            · have tw50 : 57 < r_45.toInt := (ti_lt (by decide) rfl).mp w50
              have dgF := dg_x kd (by omega)
              refine pb_iload_n (pc := 92) d_Markup_readNumber_92 2 rfl rfl ?_
              refine pb_if_ne (pc := 93) (tgt := 108) d_Markup_readNumber_93 (by decide) (fun w51 => ?_) (fun w51 => ?_)
              · have tw51 : ¬ z.toInt = 0 := fun z9 => w51 ((ti_eq rfl (by decide)).mpr z9)
                refine pb_aload_n (pc := 108) d_Markup_readNumber_108 4 rfl rfl ?_
                refine pb_iload_n (pc := 109) d_Markup_readNumber_109 3 rfl rfl ?_
                refine pb_callV (pc := 110) (I := i_Markup_readNumber) (qb := 0) (ci := 8) (nA := 1) (rest := []) (wr := [(ur, .inl (G.2.1, 12000, .inl uf))]) d_Markup_readNumber_110 (g_Mu_fail hl G h ui ug uv ur ct f bg a en vs io hi ht fr_ (by first | (with_reducible assumption) | omega (splitDisjunctions := false) | assumption | (clear fh25 fh48 hm9; first | omega (splitDisjunctions := false) | omega) | omega | decide) (by first | (with_reducible assumption) | omega (splitDisjunctions := false) | assumption | (clear fh25 fh48 hm9; first | omega (splitDisjunctions := false) | omega) | omega | decide) (by first | (with_reducible assumption) | omega (splitDisjunctions := false) | assumption | (clear fh25 fh48 hm9; first | omega (splitDisjunctions := false) | omega) | omega | decide)) rfl rfl [0] [1] (by decide) rfl rfl rfl (by decide) (by decide) k_831 rfl k_125 k_828 k_830 k_36 ⟨rfl, hy_Markup_fail⟩ (by decide) rfl rfl (Nat.le_of_ble_eq_true rfl) (by decide) (fun v9 u53 ch52 => ?_)
                obtain ⟨f_54, rfl⟩ : ∃ z9, z9 = u53 := ⟨_, rfl⟩
                obtain ⟨ech52, ch52⟩ := ch52
                have ech52 : v9 = some (.int 0) := ech52
                subst ech52
                have fh55 : 0 ≤ f_54.toInt := ch52
                have flF := fh55
                refine pb_eq (pc' := 113) (lo' := [(3, .int n), (4, .int j), (2, .int z), (1, .int fr_), (0, .ref h)]) (rest' := [.int 0]) (ws' := [(ur, .inl (G.2.1, 12000, .inl uf)), (h, .inr (8, [.ref ui, .ref ug, .ref uv, .ref ur, .int ct, .int f_54, .int bg, .int a, .int en, .int vs, .int io, .int hi, .int ht]))]) ?_
                refine pb_pop (pc := 113) d_Markup_readNumber_113 rfl ?_
                refine pb_iconst (pc := 114) (v := (-1)) d_Markup_readNumber_114 (by decide) ?_
                exact pb_iret (pc := 115) hQ d_Markup_readNumber_115 rfl rfl ((-1), a, f_54) ⟨rfl, (by (try dsimp only); first | done | (with_reducible assumption) | omega (splitDisjunctions := false) | assumption | (clear fh25 fh48 hm9; first | omega (splitDisjunctions := false) | omega) | omega | decide), (by (try dsimp only); first | done | (with_reducible assumption) | omega (splitDisjunctions := false) | assumption | (clear fh25 fh48 hm9; first | omega (splitDisjunctions := false) | omega) | omega | decide), (by (try dsimp only); first | done | (with_reducible assumption) | omega (splitDisjunctions := false) | assumption | (clear fh25 fh48 hm9; first | omega (splitDisjunctions := false) | omega) | omega | decide), (by (try dsimp only); first | done | (with_reducible assumption) | omega (splitDisjunctions := false) | assumption | (clear fh25 fh48 hm9; first | omega (splitDisjunctions := false) | omega) | omega | decide), (show ov_ ((-1) : Int32).toInt (a.toInt - bg.toInt) = nu_ (mB_ uf bg.toInt) (en.toInt - bg.toInt) (at_.toInt - bg.toInt) from (ov_u dgF (Or.inl ⟨by have q9 := hid_o jz; (exact omg_1da51ef73f jz2 tw51 q9), by decide⟩))), (show fn_ ((-1) : Int32).toInt fa.toInt f_54.toInt from (by unfold fn_; omega))⟩ [1, 0] (by decide) rfl rfl (by decide) (by decide)
              · have tw51 : z.toInt = 0 := (ti_eq rfl (by decide)).mp w51
                refine pb_iload_n (pc := 96) d_Markup_readNumber_96 0 rfl rfl ?_
                refine pb_bipush (pc := 97) (v := 32) d_Markup_readNumber_97 (by decide) ?_
                refine pb_icmp_lt (pc := 99) (tgt := 108) d_Markup_readNumber_99 (by decide) (fun w56 => ?_) (fun w56 => ?_)
                · have tw56 : n.toInt < 32 := (ti_lt rfl (by decide)).mp w56
                  refine pb_aload_n (pc := 108) d_Markup_readNumber_108 4 rfl rfl ?_
                  refine pb_iload_n (pc := 109) d_Markup_readNumber_109 3 rfl rfl ?_
                  refine pb_callV (pc := 110) (I := i_Markup_readNumber) (qb := 0) (ci := 8) (nA := 1) (rest := []) (wr := [(ur, .inl (G.2.1, 12000, .inl uf))]) d_Markup_readNumber_110 (g_Mu_fail hl G h ui ug uv ur ct f bg a en vs io hi ht fr_ (by first | (with_reducible assumption) | omega (splitDisjunctions := false) | assumption | (clear fh25 fh48 hm9; first | omega (splitDisjunctions := false) | omega) | omega | decide) (by first | (with_reducible assumption) | omega (splitDisjunctions := false) | assumption | (clear fh25 fh48 hm9; first | omega (splitDisjunctions := false) | omega) | omega | decide) (by first | (with_reducible assumption) | omega (splitDisjunctions := false) | assumption | (clear fh25 fh48 hm9; first | omega (splitDisjunctions := false) | omega) | omega | decide)) rfl rfl [0] [1] (by decide) rfl rfl rfl (by decide) (by decide) k_831 rfl k_125 k_828 k_830 k_36 ⟨rfl, hy_Markup_fail⟩ (by decide) rfl rfl (Nat.le_of_ble_eq_true rfl) (by decide) (fun v9 u58 ch57 => ?_)
                  obtain ⟨f_59, rfl⟩ : ∃ z9, z9 = u58 := ⟨_, rfl⟩
                  obtain ⟨ech57, ch57⟩ := ch57
                  have ech57 : v9 = some (.int 0) := ech57
                  subst ech57
                  have fh60 : 0 ≤ f_59.toInt := ch57
                  have flF := fh60
                  refine pb_eq (pc' := 113) (lo' := [(3, .int n), (4, .int j), (2, .int z), (1, .int fr_), (0, .ref h)]) (rest' := [.int 0]) (ws' := [(ur, .inl (G.2.1, 12000, .inl uf)), (h, .inr (8, [.ref ui, .ref ug, .ref uv, .ref ur, .int ct, .int f_59, .int bg, .int a, .int en, .int vs, .int io, .int hi, .int ht]))]) ?_
                  refine pb_pop (pc := 113) d_Markup_readNumber_113 rfl ?_
                  refine pb_iconst (pc := 114) (v := (-1)) d_Markup_readNumber_114 (by decide) ?_
                  exact pb_iret (pc := 115) hQ d_Markup_readNumber_115 rfl rfl ((-1), a, f_59) ⟨rfl, (by (try dsimp only); first | done | (with_reducible assumption) | omega (splitDisjunctions := false) | assumption | (clear fh25 fh48 hm9; first | omega (splitDisjunctions := false) | omega) | omega | decide), (by (try dsimp only); first | done | (with_reducible assumption) | omega (splitDisjunctions := false) | assumption | (clear fh25 fh48 hm9; first | omega (splitDisjunctions := false) | omega) | omega | decide), (by (try dsimp only); first | done | (with_reducible assumption) | omega (splitDisjunctions := false) | assumption | (clear fh25 fh48 hm9; first | omega (splitDisjunctions := false) | omega) | omega | decide), (by (try dsimp only); first | done | (with_reducible assumption) | omega (splitDisjunctions := false) | assumption | (clear fh25 fh48 hm9; first | omega (splitDisjunctions := false) | omega) | omega | decide), (show ov_ ((-1) : Int32).toInt (a.toInt - bg.toInt) = nu_ (mB_ uf bg.toInt) (en.toInt - bg.toInt) (at_.toInt - bg.toInt) from (ov_u dgF (Or.inl ⟨by have q9 := hid_o jz; omega, by decide⟩))), (show fn_ ((-1) : Int32).toInt fa.toInt f_59.toInt from (by unfold fn_; omega))⟩ [1, 0] (by decide) rfl rfl (by decide) (by decide)
                · have tw56 : ¬ n.toInt < 32 := fun z9 => w56 ((ti_lt rfl (by decide)).mpr z9)
                  refine pb_iload_n (pc := 102) d_Markup_readNumber_102 0 rfl rfl ?_
                  refine pb_bipush (pc := 103) (v := 126) d_Markup_readNumber_103 (by decide) ?_
                  refine pb_icmp_le (pc := 105) (tgt := 116) d_Markup_readNumber_105 (by decide) (fun w61 => ?_) (fun w61 => ?_)
                  · have tw61 : n.toInt ≤ 126 := (ti_le rfl (by decide)).mp w61
                    refine pb_iload_n (pc := 116) d_Markup_readNumber_116 0 rfl rfl ?_
                    exact pb_iret (pc := 117) hQ d_Markup_readNumber_117 rfl rfl (n, a, f) ⟨rfl, (by (try dsimp only); first | done | (with_reducible assumption) | omega (splitDisjunctions := false) | assumption | (clear fh25 fh48 hm9; first | omega (splitDisjunctions := false) | omega) | omega | decide), (by (try dsimp only); first | done | (with_reducible assumption) | omega (splitDisjunctions := false) | assumption | (clear fh25 fh48 hm9; first | omega (splitDisjunctions := false) | omega) | omega | decide), (by (try dsimp only); first | done | (with_reducible assumption) | omega (splitDisjunctions := false) | assumption | (clear fh25 fh48 hm9; first | omega (splitDisjunctions := false) | omega) | omega | decide), (by (try dsimp only); first | done | (with_reducible assumption) | omega (splitDisjunctions := false) | assumption | (clear fh25 fh48 hm9; first | omega (splitDisjunctions := false) | omega) | omega | decide), (show ov_ n.toInt (a.toInt - bg.toInt) = nu_ (mB_ uf bg.toInt) (en.toInt - bg.toInt) (at_.toInt - bg.toInt) from (ov_u dgF (Or.inr ⟨by have q9 := hid_o jz; omega, rfl, rfl⟩))), (show fn_ n.toInt fa.toInt f.toInt from (by unfold fn_; omega))⟩ [0, 1] (by decide) rfl rfl (by decide) (by decide)
                  · have tw61 : ¬ n.toInt ≤ 126 := fun z9 => w61 ((ti_le rfl (by decide)).mpr z9)
                    refine pb_aload_n (pc := 108) d_Markup_readNumber_108 4 rfl rfl ?_
                    refine pb_iload_n (pc := 109) d_Markup_readNumber_109 3 rfl rfl ?_
                    refine pb_callV (pc := 110) (I := i_Markup_readNumber) (qb := 0) (ci := 8) (nA := 1) (rest := []) (wr := [(ur, .inl (G.2.1, 12000, .inl uf))]) d_Markup_readNumber_110 (g_Mu_fail hl G h ui ug uv ur ct f bg a en vs io hi ht fr_ (by first | (with_reducible assumption) | omega (splitDisjunctions := false) | assumption | (clear fh25 fh48 hm9; first | omega (splitDisjunctions := false) | omega) | omega | decide) (by first | (with_reducible assumption) | omega (splitDisjunctions := false) | assumption | (clear fh25 fh48 hm9; first | omega (splitDisjunctions := false) | omega) | omega | decide) (by first | (with_reducible assumption) | omega (splitDisjunctions := false) | assumption | (clear fh25 fh48 hm9; first | omega (splitDisjunctions := false) | omega) | omega | decide)) rfl rfl [0] [1] (by decide) rfl rfl rfl (by decide) (by decide) k_831 rfl k_125 k_828 k_830 k_36 ⟨rfl, hy_Markup_fail⟩ (by decide) rfl rfl (Nat.le_of_ble_eq_true rfl) (by decide) (fun v9 u63 ch62 => ?_)
                    obtain ⟨f_64, rfl⟩ : ∃ z9, z9 = u63 := ⟨_, rfl⟩
                    obtain ⟨ech62, ch62⟩ := ch62
                    have ech62 : v9 = some (.int 0) := ech62
                    subst ech62
                    have fh65 : 0 ≤ f_64.toInt := ch62
                    have flF := fh65
                    refine pb_eq (pc' := 113) (lo' := [(3, .int n), (4, .int j), (2, .int z), (1, .int fr_), (0, .ref h)]) (rest' := [.int 0]) (ws' := [(ur, .inl (G.2.1, 12000, .inl uf)), (h, .inr (8, [.ref ui, .ref ug, .ref uv, .ref ur, .int ct, .int f_64, .int bg, .int a, .int en, .int vs, .int io, .int hi, .int ht]))]) ?_
                    refine pb_pop (pc := 113) d_Markup_readNumber_113 rfl ?_
                    refine pb_iconst (pc := 114) (v := (-1)) d_Markup_readNumber_114 (by decide) ?_
                    exact pb_iret (pc := 115) hQ d_Markup_readNumber_115 rfl rfl ((-1), a, f_64) ⟨rfl, (by (try dsimp only); first | done | (with_reducible assumption) | omega (splitDisjunctions := false) | assumption | (clear fh25 fh48 hm9; first | omega (splitDisjunctions := false) | omega) | omega | decide), (by (try dsimp only); first | done | (with_reducible assumption) | omega (splitDisjunctions := false) | assumption | (clear fh25 fh48 hm9; first | omega (splitDisjunctions := false) | omega) | omega | decide), (by (try dsimp only); first | done | (with_reducible assumption) | omega (splitDisjunctions := false) | assumption | (clear fh25 fh48 hm9; first | omega (splitDisjunctions := false) | omega) | omega | decide), (by (try dsimp only); first | done | (with_reducible assumption) | omega (splitDisjunctions := false) | assumption | (clear fh25 fh48 hm9; first | omega (splitDisjunctions := false) | omega) | omega | decide), (show ov_ ((-1) : Int32).toInt (a.toInt - bg.toInt) = nu_ (mB_ uf bg.toInt) (en.toInt - bg.toInt) (at_.toInt - bg.toInt) from (ov_u dgF (Or.inl ⟨by have q9 := hid_o jz; omega, by decide⟩))), (show fn_ ((-1) : Int32).toInt fa.toInt f_64.toInt from (by unfold fn_; omega))⟩ [1, 0] (by decide) rfl rfl (by decide) (by decide)
            · have tw50 : ¬ 57 < r_45.toInt := fun z9 => w50 ((ti_lt (by decide) rfl).mpr z9)
              refine pb_bipush (pc := 62) (v := 10) d_Markup_readNumber_62 (by decide) ?_
              refine pb_iload_n (pc := 64) d_Markup_readNumber_64 0 rfl rfl ?_
              refine pb_imul (pc := 65) d_Markup_readNumber_65 ?_
              refine pb_topi (fun i66 ei66 => ?_)
              try have ti66 : i66.toInt = 10 * n.toInt := ti_mul ei66 (by decide) rfl (by (exact omg_5676f585b3 kb)) (by (exact omg_af7f03065c kb))
              refine pb_aload_n (pc := 66) d_Markup_readNumber_66 4 rfl rfl ?_
              refine pb_iconst (pc := 67) (v := 0) d_Markup_readNumber_67 (by decide) ?_
              refine pb_callV (pc := 68) (I := i_Markup_readNumber) (qb := 0) (ci := 8) (nA := 1) (rest := [.int i66]) (wr := []) d_Markup_readNumber_68 (g_Mu_next hl G h ui ug uv ur ct f bg a en vs io hi ht uf 0 (by first | (with_reducible assumption) | omega (splitDisjunctions := false) | assumption | (clear fh25 fh48 hm9; first | omega (splitDisjunctions := false) | omega) | omega | decide) (by first | (with_reducible assumption) | omega (splitDisjunctions := false) | assumption | (clear fh25 fh48 hm9; first | omega (splitDisjunctions := false) | omega) | omega | decide) (by first | (with_reducible assumption) | omega (splitDisjunctions := false) | assumption | (clear fh25 fh48 hm9; first | omega (splitDisjunctions := false) | omega) | omega | decide) (by first | (with_reducible assumption) | omega (splitDisjunctions := false) | assumption | (clear fh25 fh48 hm9; first | omega (splitDisjunctions := false) | omega) | omega | decide) (by first | (with_reducible assumption) | omega (splitDisjunctions := false) | assumption | (clear fh25 fh48 hm9; first | omega (splitDisjunctions := false) | omega) | omega | decide) (by first | (with_reducible assumption) | omega (splitDisjunctions := false) | assumption | (clear fh25 fh48 hm9; first | omega (splitDisjunctions := false) | omega) | omega | decide) (by first | (with_reducible assumption) | omega (splitDisjunctions := false) | assumption | (clear fh25 fh48 hm9; first | omega (splitDisjunctions := false) | omega) | omega | decide) (by first | assumption | decide | omega)) rfl rfl [0, 1] [] (by decide) rfl rfl rfl (by decide) (by decide) k_813 rfl k_125 k_810 k_812 k_33 ⟨rfl, hy_Markup_next⟩ (by decide) rfl rfl (Nat.le_of_ble_eq_true rfl) (by decide) (fun v9 u68 ch67 => ?_)
              obtain ⟨r_69, rfl⟩ : ∃ z9, z9 = u68 := ⟨_, rfl⟩
              obtain ⟨ech67, ch67⟩ := ch67
              have ech67 : v9 = some (.int r_69) := ech67
              subst ech67
              obtain ⟨fh70, fh71, fh72, fh73⟩ : (-1 ≤ r_69.toInt) ∧ (r_69.toInt ≤ 255) ∧ (0 ≤ r_69.toInt → a.toInt + (0 : Int32).toInt < en.toInt) ∧ (r_69.toInt = cm_ (mB_ uf bg.toInt) (en.toInt - bg.toInt) ((a.toInt - bg.toInt) + (0 : Int32).toInt)) := ch67
              have g3F := fh73
              rw [zl0, Int.add_zero] at g3F
              refine pb_eq (pc' := 71) (lo' := [(3, .int n), (4, .int j), (2, .int z), (1, .int fr_), (0, .ref h)]) (rest' := [.int r_69, .int i66]) (ws' := [(h, .inr (8, [.ref ui, .ref ug, .ref uv, .ref ur, .int ct, .int f, .int bg, .int a, .int en, .int vs, .int io, .int hi, .int ht])), (ur, .inl (G.2.1, 12000, .inl uf))]) ?_
              refine pb_iadd (pc := 71) d_Markup_readNumber_71 ?_
              refine pb_topi (fun i74 ei74 => ?_)
              try have ti74 : i74.toInt = i66.toInt + r_69.toInt := t2_add ei74 rfl rfl (by (exact omg_c6abd74d54 kb fh23 fh24 fh26 ti66 fh73))
              refine pb_bipush (pc := 72) (v := 48) d_Markup_readNumber_72 (by decide) ?_
              refine pb_isub (pc := 74) d_Markup_readNumber_74 ?_
              refine pb_topi (fun i75 ei75 => ?_)
              try have ti75 : i75.toInt = i74.toInt - 48 := t2_sub ei75 rfl (by decide) (by (exact omg_252261a097 kb fh23 fh24 fh26 ti66 fh73 ti74))
              refine pb_istore_n (pc := 75) (lo' := [(3, .int i75), (4, .int j), (2, .int z), (1, .int fr_), (0, .ref h)]) d_Markup_readNumber_75 rfl (by decide) rfl ?_
              refine pb_aload_n (pc := 76) d_Markup_readNumber_76 4 rfl rfl ?_
              refine pb_dup (pc := 77) d_Markup_readNumber_77 rfl ?_
              refine pb_get (pc := 78) d_Markup_readNumber_78 0 7 rfl rfl (by decide) in_Markup k_326 rfl ?_
              refine pb_iconst (pc := 81) (v := 1) d_Markup_readNumber_81 (by decide) ?_
              refine pb_iadd (pc := 82) d_Markup_readNumber_82 ?_
              refine pb_topi (fun i76 ei76 => ?_)
              try have ti76 : i76.toInt = a.toInt + 1 := t2_add ei76 rfl (by decide) (by (exact omg_2f7a6fd418 a0 a2 k1 k2 ka))
              refine pb_put (pc := 83) (ty := .int) (ws' := [(h, .inr (8, [.ref ui, .ref ug, .ref uv, .ref ur, .int ct, .int f, .int bg, .int i76, .int en, .int vs, .int io, .int hi, .int ht])), (ur, .inl (G.2.1, 12000, .inl uf))]) d_Markup_readNumber_83 0 7 t_Markup t_Markup_ok n_Markup rfl rfl (by decide) in_Markup k_326 rfl (by decide +kernel) rfl rfl (Nat.le_of_ble_eq_true rfl) rfl ?_
              refine pb_iincN (pc := 86) (c := 1) d_Markup_readNumber_86 1 rfl (by decide) (by decide) (fun i77 ei77 => ?_)
              have ti77 : i77.toInt = j.toInt + 1 := t2_add ei77 rfl (by decide) (by first | omega | (have r90 := ti_rng i77; have r91 := ti_rng i75; have r92 := ti_rng z; have r93 := ti_rng fr_; omega))
              refine pb_eq (pc' := 89) (lo' := [(4, .int i77), (3, .int i75), (2, .int z), (1, .int fr_), (0, .ref h)]) (rest' := []) (ws' := [(h, .inr (8, [.ref ui, .ref ug, .ref uv, .ref ur, .int ct, .int f, .int bg, .int i76, .int en, .int vs, .int io, .int hi, .int ht])), (ur, .inl (G.2.1, 12000, .inl uf))]) ?_
              refine pb_goto (pc := 89) (tgt := 36) d_Markup_readNumber_89 (by decide) ?_
              refine pb_re (ws' := [(h, .inr (8, [.ref ui, .ref ug, .ref uv, .ref ur, .int ct, .int f, .int bg, .int i76, .int en, .int vs, .int io, .int hi, .int ht])), (ur, .inl (G.2.1, 12000, .inl uf))]) (lo' := [(3, .int i75), (4, .int i77), (2, .int z), (1, .int fr_), (0, .ref h)]) [0, 1] [1, 0, 2, 3, 4] (by decide) rfl rfl rfl ?_
              exact ih36 i75 i77 i76 f (by first | (with_reducible assumption) | (exact omg_e1100463b0 k2 ka ti76) | assumption | (clear fh25 fh48 fh72 hm9; first | omega (splitDisjunctions := false) | omega) | omega | decide) (by first | (with_reducible assumption) | omega (splitDisjunctions := false) | assumption | (clear fh25 fh48 fh72 hm9; first | omega (splitDisjunctions := false) | omega) | (exact omg_705260fa5c zl0 fh26 tw27 fh72 fh73 ti76) | decide) (by first | (with_reducible assumption) | omega (splitDisjunctions := false) | assumption | (clear fh25 fh48 fh72 hm9; first | omega (splitDisjunctions := false) | omega) | omega | decide) (dg_s kd (by omega) (by (exact omg_8085304585 g1F tw27)) (by (exact omg_9857e108b9 fh26 g1F fh49 tw50)) (by omega) (by (exact omg_19dd65cb85 fh26 g1F ti66 fh73 ti74 ti75))) (by first | (with_reducible assumption) | omega (splitDisjunctions := false) | assumption | (clear fh25 fh48 fh72 hm9; first | omega (splitDisjunctions := false) | (exact omg_06b45a1669 ka ti76 ti77)) | omega | decide) (by first | (with_reducible assumption) | omega (splitDisjunctions := false) | assumption | (clear fh25 fh48 fh72 hm9; first | omega (splitDisjunctions := false) | (exact omg_d17263d16c kb tw4 fh26 tw27 fh49 tw50 ti66 fh73 ti74 ti75 ti77)) | omega | decide) (by first | (with_reducible assumption) | omega (splitDisjunctions := false) | assumption | (clear fh25 fh48 fh72 hm9; first | omega (splitDisjunctions := false) | omega) | omega | decide) (by first | (clear fh25 fh48 fh72; (exact omg_c4db64490e hm9 tw4 ti77)) | omega)
    refine pb_re (ws' := [(h, .inr (8, [.ref ui, .ref ug, .ref uv, .ref ur, .int ct, .int fa, .int bg, .int a1_, .int en, .int vs, .int io, .int hi, .int ht])), (ur, .inl (G.2.1, 12000, .inl uf))]) (lo' := [(3, .int 0), (4, .int 0), (2, .int z), (1, .int fr_), (0, .ref h)]) [0, 1] [1, 0, 2, 3, 4] (by decide) rfl rfl rfl ?_
    exact hL36_3 _ 0 0 a1_ fa (by first | (with_reducible assumption) | omega (splitDisjunctions := false) | assumption | omega | decide) (by first | (with_reducible assumption) | omega (splitDisjunctions := false) | assumption | omega | decide) (by first | (with_reducible assumption) | omega (splitDisjunctions := false) | assumption | omega | decide) (by rw [show ((at_.toInt - bg.toInt) + 1) + 3 - (a1_.toInt - bg.toInt) = 3 by omega, show a1_.toInt - bg.toInt = ((at_.toInt - bg.toInt) + 1) by (exact omg_4383e1b071 ja), zl0]; rfl) (by first | (with_reducible assumption) | omega (splitDisjunctions := false) | assumption | omega | decide) (by first | (with_reducible assumption) | omega (splitDisjunctions := false) | assumption | omega | decide) (by first | (with_reducible assumption) | omega (splitDisjunctions := false) | assumption | omega | decide) (Nat.lt_succ_self _)
  refine pb_aload_n (pc := 15) d_Markup_readNumber_15 1 rfl rfl ?_
  refine pb_iconst (pc := 16) (v := 0) d_Markup_readNumber_16 (by decide) ?_
  refine pb_callV (pc := 17) (I := i_Markup_readNumber) (qb := 0) (ci := 8) (nA := 1) (rest := []) (wr := []) d_Markup_readNumber_17 (g_Mu_next hl G h ui ug uv ur ct fa bg i1 en vs io hi ht uf 0 (by first | (with_reducible assumption) | omega (splitDisjunctions := false) | assumption | omega | decide) (by first | (with_reducible assumption) | omega (splitDisjunctions := false) | assumption | omega | decide) (by first | (with_reducible assumption) | omega (splitDisjunctions := false) | assumption | omega | decide) (by first | (with_reducible assumption) | omega (splitDisjunctions := false) | assumption | omega | decide) (by first | (with_reducible assumption) | omega (splitDisjunctions := false) | assumption | omega | decide) (by first | (with_reducible assumption) | omega (splitDisjunctions := false) | assumption | omega | decide) (by first | (with_reducible assumption) | omega (splitDisjunctions := false) | assumption | omega | decide) F_uf) rfl rfl [0, 1] [] (by decide) rfl rfl rfl (by decide) (by decide) k_813 rfl k_125 k_810 k_812 k_33 ⟨rfl, hy_Markup_next⟩ (by decide) rfl rfl (Nat.le_of_ble_eq_true rfl) (by decide) (fun v9 u79 ch78 => ?_)
  obtain ⟨r_80, rfl⟩ : ∃ z9, z9 = u79 := ⟨_, rfl⟩
  obtain ⟨ech78, ch78⟩ := ch78
  have ech78 : v9 = some (.int r_80) := ech78
  subst ech78
  obtain ⟨fh81, fh82, fh83, fh84⟩ : (-1 ≤ r_80.toInt) ∧ (r_80.toInt ≤ 255) ∧ (0 ≤ r_80.toInt → i1.toInt + (0 : Int32).toInt < en.toInt) ∧ (r_80.toInt = cm_ (mB_ uf bg.toInt) (en.toInt - bg.toInt) ((i1.toInt - bg.toInt) + (0 : Int32).toInt)) := ch78
  have h0F := fh84
  have h0G : r_80.toInt = cm_ (mB_ uf bg.toInt) (en.toInt - bg.toInt) ((at_.toInt - bg.toInt) + 1) := by rw [h0F, zl0]; congr 1; omega
  refine pb_eq (pc' := 20) (lo' := [(1, .int i1), (0, .ref h)]) (rest' := [.int r_80]) (ws' := [(h, .inr (8, [.ref ui, .ref ug, .ref uv, .ref ur, .int ct, .int fa, .int bg, .int i1, .int en, .int vs, .int io, .int hi, .int ht])), (ur, .inl (G.2.1, 12000, .inl uf))]) ?_
  refine pb_bipush (pc := 20) (v := 48) d_Markup_readNumber_20 (by decide) ?_
  refine pb_icmp_ne (pc := 22) (tgt := 29) d_Markup_readNumber_22 (by decide) (fun w85 => ?_) (fun w85 => ?_)
  · have tw85 : ¬ r_80.toInt = 48 := fun z9 => w85 ((ti_eq rfl (by decide)).mpr z9)
    refine pb_iconst (pc := 29) (v := 0) d_Markup_readNumber_29 (by decide) ?_
    refine pb_istore_n (pc := 30) (lo' := [(2, .int 0), (1, .int i1), (0, .ref h)]) d_Markup_readNumber_30 rfl (by decide) rfl ?_
    exact hJ31_2 0 i1 i1 (by first | (with_reducible assumption) | omega (splitDisjunctions := false) | assumption | (clear fh83; first | omega (splitDisjunctions := false) | omega) | omega | decide) (by first | (with_reducible assumption) | omega (splitDisjunctions := false) | assumption | (clear fh83; first | omega (splitDisjunctions := false) | omega) | omega | decide) (hid_i (by constructor <;> (intro q9; omega))) (by first | (with_reducible assumption) | omega (splitDisjunctions := false) | assumption | (clear fh83; first | omega (splitDisjunctions := false) | omega) | omega | decide) (by first | (with_reducible assumption) | omega (splitDisjunctions := false) | assumption | (clear fh83; first | omega (splitDisjunctions := false) | omega) | omega | decide) (by first | (with_reducible assumption) | omega (splitDisjunctions := false) | assumption | (clear fh83; first | omega (splitDisjunctions := false) | omega) | omega | decide)
  · have tw85 : r_80.toInt = 48 := (ti_eq rfl (by decide)).mp w85
    refine pb_iconst (pc := 25) (v := 1) d_Markup_readNumber_25 (by decide) ?_
    refine pb_goto (pc := 26) (tgt := 30) d_Markup_readNumber_26 (by decide) ?_
    refine pb_istore_n (pc := 30) (lo' := [(2, .int 1), (1, .int i1), (0, .ref h)]) d_Markup_readNumber_30 rfl (by decide) rfl ?_
    exact hJ31_2 1 i1 i1 (by first | (with_reducible assumption) | omega (splitDisjunctions := false) | assumption | (clear fh83; first | omega (splitDisjunctions := false) | omega) | omega | decide) (by first | (with_reducible assumption) | omega (splitDisjunctions := false) | assumption | (clear fh83; first | omega (splitDisjunctions := false) | omega) | omega | decide) (hid_i (by constructor <;> (intro q9; omega))) (by first | (with_reducible assumption) | omega (splitDisjunctions := false) | assumption | (clear fh83; first | omega (splitDisjunctions := false) | omega) | omega | decide) (by first | (with_reducible assumption) | omega (splitDisjunctions := false) | assumption | (clear fh83; first | omega (splitDisjunctions := false) | omega) | omega | decide) (by first | (with_reducible assumption) | omega (splitDisjunctions := false) | assumption | (clear fh83; first | omega (splitDisjunctions := false) | omega) | omega | decide)
