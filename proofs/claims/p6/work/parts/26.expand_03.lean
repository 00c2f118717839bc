theorem d_Expander_readTold_0 : decode prog_3_method_6_code 0 = .ok (.iconst 0, 1) := by decide +kernel
theorem d_Expander_readTold_1 : decode prog_3_method_6_code 1 = .ok (.istore_n 2, 1) := by decide +kernel
theorem d_Expander_readTold_2 : decode prog_3_method_6_code 2 = .ok (.iconst 0, 1) := by decide +kernel
theorem d_Expander_readTold_3 : decode prog_3_method_6_code 3 = .ok (.istore_n 3, 1) := by decide +kernel
theorem d_Expander_readTold_4 : decode prog_3_method_6_code 4 = .ok (.iload_n 3, 1) := by decide +kernel
theorem d_Expander_readTold_5 : decode prog_3_method_6_code 5 = .ok (.iload_n 1, 1) := by decide +kernel
theorem d_Expander_readTold_6 : decode prog_3_method_6_code 6 = .ok (.if_icmp .ge 140, 3) := by decide +kernel
theorem d_Expander_readTold_146 : decode prog_3_method_6_code 146 = .ok (.return_, 1) := by decide +kernel
theorem d_Expander_readTold_9 : decode prog_3_method_6_code 9 = .ok (.iload_n 2, 1) := by decide +kernel
theorem d_Expander_readTold_10 : decode prog_3_method_6_code 10 = .ok (.iload_n 1, 1) := by decide +kernel
theorem d_Expander_readTold_11 : decode prog_3_method_6_code 11 = .ok (.if_icmp .ge 135, 3) := by decide +kernel
theorem d_Expander_readTold_14 : decode prog_3_method_6_code 14 = .ok (.aload_n 0, 1) := by decide +kernel
theorem d_Expander_readTold_15 : decode prog_3_method_6_code 15 = .ok (.getfield 65, 3) := by decide +kernel
theorem d_Expander_readTold_18 : decode prog_3_method_6_code 18 = .ok (.ifCond .ne 128, 3) := by decide +kernel
theorem d_Expander_readTold_21 : decode prog_3_method_6_code 21 = .ok (.aload_n 0, 1) := by decide +kernel
theorem d_Expander_readTold_22 : decode prog_3_method_6_code 22 = .ok (.aload_n 0, 1) := by decide +kernel
theorem d_Expander_readTold_23 : decode prog_3_method_6_code 23 = .ok (.getfield 43, 3) := by decide +kernel
theorem k_256 : (Jvm.Cond.fieldLink "PackageBook$Expander" (43 : Nat) "PackageBook$Expander" "third" "LPackageBook$Code;") ∈ uW := uW_of 256 (by decide +kernel) (by decide +kernel)
theorem d_Expander_readTold_26 : decode prog_3_method_6_code 26 = .ok (.invokevirtual 106, 3) := by decide +kernel
theorem d_Expander_readTold_29 : decode prog_3_method_6_code 29 = .ok (.istore 4, 2) := by decide +kernel
theorem d_Expander_readTold_84 : decode prog_3_method_6_code 84 = .ok (.iload 4, 2) := by decide +kernel
theorem d_Expander_readTold_86 : decode prog_3_method_6_code 86 = .ok (.invokestatic 110, 3) := by decide +kernel
theorem k_686 : (Jvm.Cond.methodLink "PackageBook$Expander" (110 : Nat) ({ cls := "PackageBook$Expander", name := "leastTimes", desc := "(I)I" } : Jvm.MethodName)) ∈ uW := uW_of 686 (by decide +kernel) (by decide +kernel)
theorem k_688 : (Jvm.Cond.code ({ cls := "PackageBook$Expander", name := "leastTimes", desc := "(I)I" } : Jvm.MethodName) prog_3_method_7_code (1 : Nat) (Option.some Jvm.ClassFile.FieldType.int)) ∈ uW := uW_of 688 (by decide +kernel) (by decide +kernel)
theorem k_687 : (Jvm.Cond.static ({ cls := "PackageBook$Expander", name := "leastTimes", desc := "(I)I" } : Jvm.MethodName)) ∈ uW := uW_of 687 (by decide +kernel) (by decide +kernel)
theorem hy_Expander_leastTimes : (y_Expander_leastTimes).cls ≠ "java/lang/invoke/MethodHandle" ∧ (y_Expander_leastTimes).cls ≠ "java/lang/invoke/VarHandle" ∧ (parseMethodDescriptor (y_Expander_leastTimes).desc).map (fun d => d.parameters.length) = some 1 := by decide +kernel
theorem d_Expander_readTold_89 : decode prog_3_method_6_code 89 = .ok (.aload_n 0, 1) := by decide +kernel
theorem d_Expander_readTold_90 : decode prog_3_method_6_code 90 = .ok (.iload 4, 2) := by decide +kernel
theorem d_Expander_readTold_92 : decode prog_3_method_6_code 92 = .ok (.invokestatic 113, 3) := by decide +kernel
theorem k_689 : (Jvm.Cond.methodLink "PackageBook$Expander" (113 : Nat) ({ cls := "PackageBook$Expander", name := "bitsOfTimes", desc := "(I)I" } : Jvm.MethodName)) ∈ uW := uW_of 689 (by decide +kernel) (by decide +kernel)
theorem k_691 : (Jvm.Cond.code ({ cls := "PackageBook$Expander", name := "bitsOfTimes", desc := "(I)I" } : Jvm.MethodName) prog_3_method_8_code (1 : Nat) (Option.some Jvm.ClassFile.FieldType.int)) ∈ uW := uW_of 691 (by decide +kernel) (by decide +kernel)
theorem k_690 : (Jvm.Cond.static ({ cls := "PackageBook$Expander", name := "bitsOfTimes", desc := "(I)I" } : Jvm.MethodName)) ∈ uW := uW_of 690 (by decide +kernel) (by decide +kernel)
theorem hy_Expander_bitsOfTimes : (y_Expander_bitsOfTimes).cls ≠ "java/lang/invoke/MethodHandle" ∧ (y_Expander_bitsOfTimes).cls ≠ "java/lang/invoke/VarHandle" ∧ (parseMethodDescriptor (y_Expander_bitsOfTimes).desc).map (fun d => d.parameters.length) = some 1 := by decide +kernel
theorem d_Expander_readTold_95 : decode prog_3_method_6_code 95 = .ok (.invokevirtual 71, 3) := by decide +kernel
theorem d_Expander_readTold_98 : decode prog_3_method_6_code 98 = .ok (.iadd, 1) := by decide +kernel
theorem d_Expander_readTold_99 : decode prog_3_method_6_code 99 = .ok (.istore 6, 2) := by decide +kernel
theorem d_Expander_readTold_114 : decode prog_3_method_6_code 114 = .ok (.aload_n 0, 1) := by decide +kernel
theorem d_Expander_readTold_115 : decode prog_3_method_6_code 115 = .ok (.getfield 65, 3) := by decide +kernel
theorem d_Expander_readTold_118 : decode prog_3_method_6_code 118 = .ok (.ifCond .ne 22, 3) := by decide +kernel
theorem d_Expander_readTold_140 : decode prog_3_method_6_code 140 = .ok (.iinc 3 1, 3) := by decide +kernel
theorem d_Expander_readTold_143 : decode prog_3_method_6_code 143 = .ok (.goto (-139), 3) := by decide +kernel
theorem d_Expander_readTold_121 : decode prog_3_method_6_code 121 = .ok (.aload_n 0, 1) := by decide +kernel
theorem d_Expander_readTold_122 : decode prog_3_method_6_code 122 = .ok (.getfield 20, 3) := by decide +kernel
theorem k_251 : (Jvm.Cond.fieldLink "PackageBook$Expander" (20 : Nat) "PackageBook$Expander" "told" "[I") ∈ uW := uW_of 251 (by decide +kernel) (by decide +kernel)
theorem d_Expander_readTold_125 : decode prog_3_method_6_code 125 = .ok (.iload_n 2, 1) := by decide +kernel
theorem d_Expander_readTold_126 : decode prog_3_method_6_code 126 = .ok (.iload_n 2, 1) := by decide +kernel
theorem d_Expander_readTold_127 : decode prog_3_method_6_code 127 = .ok (.iload 6, 2) := by decide +kernel
theorem d_Expander_readTold_129 : decode prog_3_method_6_code 129 = .ok (.iadd, 1) := by decide +kernel
theorem d_Expander_readTold_130 : decode prog_3_method_6_code 130 = .ok (.iload 5, 2) := by decide +kernel
theorem d_Expander_readTold_132 : decode prog_3_method_6_code 132 = .ok (.invokestatic 50, 3) := by decide +kernel
theorem k_241 : (Jvm.Cond.methodLink "PackageBook$Expander" (50 : Nat) ({ cls := "PackageBook$Expander", name := "setAll", desc := "([IIII)V" } : Jvm.MethodName)) ∈ uW := uW_of 241 (by decide +kernel) (by decide +kernel)
theorem k_243 : (Jvm.Cond.code ({ cls := "PackageBook$Expander", name := "setAll", desc := "([IIII)V" } : Jvm.MethodName) prog_3_method_2_code (5 : Nat) (Option.none : Option Jvm.ClassFile.FieldType)) ∈ uW := uW_of 243 (by decide +kernel) (by decide +kernel)
theorem k_242 : (Jvm.Cond.static ({ cls := "PackageBook$Expander", name := "setAll", desc := "([IIII)V" } : Jvm.MethodName)) ∈ uW := uW_of 242 (by decide +kernel) (by decide +kernel)
theorem hy_Expander_setAll : (y_Expander_setAll).cls ≠ "java/lang/invoke/MethodHandle" ∧ (y_Expander_setAll).cls ≠ "java/lang/invoke/VarHandle" ∧ (parseMethodDescriptor (y_Expander_setAll).desc).map (fun d => d.parameters.length) = some 4 := by decide +kernel
theorem d_Expander_readTold_135 : decode prog_3_method_6_code 135 = .ok (.iload_n 2, 1) := by decide +kernel
theorem d_Expander_readTold_136 : decode prog_3_method_6_code 136 = .ok (.iload 6, 2) := by decide +kernel
theorem d_Expander_readTold_138 : decode prog_3_method_6_code 138 = .ok (.iadd, 1) := by decide +kernel
theorem d_Expander_readTold_139 : decode prog_3_method_6_code 139 = .ok (.istore_n 2, 1) := by decide +kernel
theorem d_Expander_readTold_101 : decode prog_3_method_6_code 101 = .ok (.iload 6, 2) := by decide +kernel
theorem d_Expander_readTold_103 : decode prog_3_method_6_code 103 = .ok (.iload_n 1, 1) := by decide +kernel
theorem d_Expander_readTold_104 : decode prog_3_method_6_code 104 = .ok (.iload_n 2, 1) := by decide +kernel
theorem d_Expander_readTold_105 : decode prog_3_method_6_code 105 = .ok (.isub, 1) := by decide +kernel
theorem d_Expander_readTold_106 : decode prog_3_method_6_code 106 = .ok (.if_icmp .le 8, 3) := by decide +kernel
theorem d_Expander_readTold_109 : decode prog_3_method_6_code 109 = .ok (.aload_n 0, 1) := by decide +kernel
theorem d_Expander_readTold_110 : decode prog_3_method_6_code 110 = .ok (.iconst 4, 1) := by decide +kernel
theorem d_Expander_readTold_111 : decode prog_3_method_6_code 111 = .ok (.invokevirtual 85, 3) := by decide +kernel
theorem d_Expander_readTold_47 : decode prog_3_method_6_code 47 = .ok (.iload 4, 2) := by decide +kernel
theorem d_Expander_readTold_49 : decode prog_3_method_6_code 49 = .ok (.bipush 16, 2) := by decide +kernel
theorem d_Expander_readTold_51 : decode prog_3_method_6_code 51 = .ok (.if_icmp .ge 8, 3) := by decide +kernel
theorem d_Expander_readTold_59 : decode prog_3_method_6_code 59 = .ok (.iload 4, 2) := by decide +kernel
theorem d_Expander_readTold_61 : decode prog_3_method_6_code 61 = .ok (.bipush 16, 2) := by decide +kernel
theorem d_Expander_readTold_63 : decode prog_3_method_6_code 63 = .ok (.if_icmp .ne 18, 3) := by decide +kernel
theorem d_Expander_readTold_81 : decode prog_3_method_6_code 81 = .ok (.iconst 0, 1) := by decide +kernel
theorem d_Expander_readTold_82 : decode prog_3_method_6_code 82 = .ok (.istore 5, 2) := by decide +kernel
theorem d_Expander_readTold_66 : decode prog_3_method_6_code 66 = .ok (.iload_n 2, 1) := by decide +kernel
theorem d_Expander_readTold_67 : decode prog_3_method_6_code 67 = .ok (.ifCond .le 14, 3) := by decide +kernel
theorem d_Expander_readTold_70 : decode prog_3_method_6_code 70 = .ok (.aload_n 0, 1) := by decide +kernel
theorem d_Expander_readTold_71 : decode prog_3_method_6_code 71 = .ok (.getfield 20, 3) := by decide +kernel
theorem d_Expander_readTold_74 : decode prog_3_method_6_code 74 = .ok (.iload_n 2, 1) := by decide +kernel
theorem d_Expander_readTold_75 : decode prog_3_method_6_code 75 = .ok (.iconst 1, 1) := by decide +kernel
theorem d_Expander_readTold_76 : decode prog_3_method_6_code 76 = .ok (.isub, 1) := by decide +kernel
theorem d_Expander_readTold_77 : decode prog_3_method_6_code 77 = .ok (.iaload, 1) := by decide +kernel
theorem d_Expander_readTold_78 : decode prog_3_method_6_code 78 = .ok (.goto 4, 3) := by decide +kernel
theorem d_Expander_readTold_54 : decode prog_3_method_6_code 54 = .ok (.iload 4, 2) := by decide +kernel
theorem d_Expander_readTold_56 : decode prog_3_method_6_code 56 = .ok (.goto 26, 3) := by decide +kernel
theorem d_Expander_readTold_31 : decode prog_3_method_6_code 31 = .ok (.iload 4, 2) := by decide +kernel
theorem d_Expander_readTold_33 : decode prog_3_method_6_code 33 = .ok (.bipush 16, 2) := by decide +kernel
theorem d_Expander_readTold_35 : decode prog_3_method_6_code 35 = .ok (.if_icmp .ne 12, 3) := by decide +kernel
theorem d_Expander_readTold_38 : decode prog_3_method_6_code 38 = .ok (.iload_n 2, 1) := by decide +kernel
theorem d_Expander_readTold_39 : decode prog_3_method_6_code 39 = .ok (.ifCond .ne 8, 3) := by decide +kernel
theorem d_Expander_readTold_42 : decode prog_3_method_6_code 42 = .ok (.aload_n 0, 1) := by decide +kernel
theorem d_Expander_readTold_43 : decode prog_3_method_6_code 43 = .ok (.iconst 4, 1) := by decide +kernel
theorem d_Expander_readTold_44 : decode prog_3_method_6_code 44 = .ok (.invokevirtual 85, 3) := by decide +kernel
abbrev y_Expander_readTold : MethodName := ⟨"PackageBook$Expander", "readTold", "(I)V"⟩
abbrev i_Expander_readTold : pb_I := (y_Expander_readTold, prog_3_method_6_code, 7, (Option.none : Option Jvm.ClassFile.FieldType), [], { frames := 1, cells := 0, slots := 0, locals := 26 })
set_option maxRecDepth 100000 in
set_option maxHeartbeats 4000000 in
theorem g_Exp_readTold {l : Launch} (hl : l.stackTraces = false) (G : pb_G) (h : Nat) (ex : Nat) (et : Nat) (ea : Nat) (eb : Nat) (ec : Nat) (ed : Nat) (ef : Nat) (er : Nat) (at_ : Int32) (en : Int32) (fl : Int32) (N : Nat) (fr : Nat → Int32) (tf : Nat → Int32) (ef1 : Nat) (ef2 : Nat) (efs : Int32) (efc : Nat → Int32) (efy : Nat → Int32) (al : Int32) (A : Int → Int32) (L : Int → Int) (a0 : 0 ≤ at_.toInt) (a1 : at_.toInt ≤ en.toInt) (a2 : en.toInt ≤ 8 * N) (a3 : N ≤ 100000) (a4 : 0 ≤ fl.toInt) (If : co_I efs.toInt efc efy 19) (Mf : efs.toInt ≤ 19) (l0 : 0 ≤ al.toInt) (l1 : al.toInt ≤ 316) (hcs : fl.toInt = 0 → cs_R efs.toInt efc efy L 19) (hA : ∀ j : Int, 0 ≤ j → 8 * j < en.toInt → A j = gr fr j) (F_fr : sb_Fit fr) : Cn l G i_Expander_readTold [.ref h, .int al] [(h, .inr (5, [.ref ex, .ref et, .ref ea, .ref eb, .ref ec, .ref ed, .ref ef, .ref er, .int at_, .int en, .int fl])), (er, .inl (G.2.1, N, .inl fr)), (et, .inl (G.2.2.1, 316, .inl tf)), (ef, .inr (1, [.ref ef1, .ref ef2, .int efs])), (ef1, .inl (G.2.2.1, 16, .inl efc)), (ef2, .inl (G.2.2.1, 19, .inl efy))] (S := Int32 × Int32 × (Nat → Int32)) (fun rv_ u => rv_ = none ∧ (at_.toInt ≤ u.1.toInt) ∧ (u.1.toInt ≤ en.toInt) ∧ (0 ≤ u.2.1.toInt) ∧ (fl.toInt ≠ 0 → u.2.1.toInt ≠ 0) ∧ (td_g A en.toInt L al.toInt al.toInt.toNat fl.toInt 0 at_.toInt (fun _ => 0) = tz_ u.2.1.toInt u.1.toInt (tn_ u.2.2 al.toInt)) ∧ (u.2.1.toInt = 0 → ∀ j : Int, 0 ≤ j → j < al.toInt → 0 ≤ gx u.2.2 j ∧ gx u.2.2 j ≤ 15)) (fun u => [(h, .inr (5, [.ref ex, .ref et, .ref ea, .ref eb, .ref ec, .ref ed, .ref ef, .ref er, .int u.1, .int en, .int u.2.1])), (er, .inl (G.2.1, N, .inl fr)), (et, .inl (G.2.2.1, 316, .inl u.2.2)), (ef, .inr (1, [.ref ef1, .ref ef2, .int efs])), (ef1, .inl (G.2.2.1, 16, .inl efc)), (ef2, .inl (G.2.2.1, 19, .inl efy))]) := by
  refine Cn.of hl (by decide +kernel) rfl (Nat.le_of_ble_eq_true rfl) (fun M hQ => ?_)
  refine pb_eq (pc' := 0) (lo' := [(0, .ref h), (1, .int al)]) (rest' := []) (ws' := [(h, .inr (5, [.ref ex, .ref et, .ref ea, .ref eb, .ref ec, .ref ed, .ref ef, .ref er, .int at_, .int en, .int fl])), (er, .inl (G.2.1, N, .inl fr)), (et, .inl (G.2.2.1, 316, .inl tf)), (ef, .inr (1, [.ref ef1, .ref ef2, .int efs])), (ef1, .inl (G.2.2.1, 16, .inl efc)), (ef2, .inl (G.2.2.1, 19, .inl efy))]) ?_
  have zl0 : (0 : Int32).toInt = 0 := by decide
  have zl1 : (1 : Int32).toInt = 1 := by decide
  have zl4 : (4 : Int32).toInt = 4 := by decide
  have w7 := p2_pos
  refine pb_iconst (pc := 0) (v := 0) d_Expander_readTold_0 (by decide) ?_
  refine pb_istore_n (pc := 1) (lo' := [(2, .int 0), (0, .ref h), (1, .int al)]) d_Expander_readTold_1 rfl (by decide) rfl ?_
  refine pb_iconst (pc := 2) (v := 0) d_Expander_readTold_2 (by decide) ?_
  refine pb_istore_n (pc := 3) (lo' := [(3, .int 0), (2, .int 0), (0, .ref h), (1, .int al)]) d_Expander_readTold_3 rfl (by decide) rfl ?_
  have hL4_1 : ∀ (N9 : Nat) (k : Int32) (rd : Int32) (a4_ : Int32) (f4 : Int32) (t4 : Nat → Int32), (0 ≤ k.toInt) → (k.toInt ≤ al.toInt) → (0 ≤ rd.toInt) → (f4.toInt = 0 → rd.toInt ≤ k.toInt) → (0 ≤ f4.toInt) → (fl.toInt ≠ 0 → f4.toInt ≠ 0) → (at_.toInt ≤ a4_.toInt) → (a4_.toInt ≤ en.toInt) → (f4.toInt = 0 → ∀ j : Int, 0 ≤ j → j < k.toInt → 0 ≤ gx t4 j ∧ gx t4 j ≤ 15) → (td_g A en.toInt L al.toInt (al.toInt - rd.toInt).toNat f4.toInt k.toInt a4_.toInt (tn_ t4 k.toInt) = td_g A en.toInt L al.toInt al.toInt.toNat fl.toInt 0 at_.toInt (fun _ => 0)) → ((al.toInt - rd.toInt).toNat) < N9 → pb_P l G M i_Expander_readTold 4 [(2, .int k), (3, .int rd), (0, .ref h), (1, .int al)] [] [(h, .inr (5, [.ref ex, .ref et, .ref ea, .ref eb, .ref ec, .ref ed, .ref ef, .ref er, .int a4_, .int en, .int f4])), (er, .inl (G.2.1, N, .inl fr)), (et, .inl (G.2.2.1, 316, .inl t4)), (ef, .inr (1, [.ref ef1, .ref ef2, .int efs])), (ef1, .inl (G.2.2.1, 16, .inl efc)), (ef2, .inl (G.2.2.1, 19, .inl efy))] 0 0 := by
    intro N9
    induction N9 with
    | zero => intro k rd a4_ f4 t4 k0 k0_ k9 k8 k1 k2 k3 k4 kb kT hm9; exact absurd hm9 (Nat.not_lt_zero _)
    | succ N9 ih4 =>
      intro k rd a4_ f4 t4 k0 k0_ k9 k8 k1 k2 k3 k4 kb kT hm9
      refine pb_iload_n (pc := 4) d_Expander_readTold_4 1 rfl rfl ?_
      refine pb_iload_n (pc := 5) d_Expander_readTold_5 3 rfl rfl ?_
      refine pb_icmp_ge (pc := 6) (tgt := 146) d_Expander_readTold_6 (by decide) (fun w2 => ?_) (fun w2 => ?_)
      · have tw2 : al.toInt ≤ rd.toInt := (ti_le rfl rfl).mp w2
        exact pb_vret (pc := 146) hQ d_Expander_readTold_146 rfl (a4_, f4, t4) ⟨rfl, (by (try dsimp only); first | done | assumption | omega (splitDisjunctions := false) | omega | decide), (by (try dsimp only); first | done | assumption | omega (splitDisjunctions := false) | omega | decide), (by (try dsimp only); first | done | assumption | omega (splitDisjunctions := false) | omega | decide), (by (try dsimp only); first | done | assumption | omega (splitDisjunctions := false) | omega | decide), (show td_g A en.toInt L al.toInt al.toInt.toNat fl.toInt 0 at_.toInt (fun _ => 0) = tz_ f4.toInt a4_.toInt (tn_ t4 al.toInt) from (by by_cases q9 : f4.toInt = 0; have q8 : k.toInt = al.toInt := (by have q7 := k8 q9; omega); rw [← kT, td_fin (fun _ => by omega), q8]; rw [← kT, td_fin (fun q8 => absurd q8 q9)]; unfold tz_; rw [if_neg q9, if_neg q9])), (show f4.toInt = 0 → ∀ j : Int, 0 ≤ j → j < al.toInt → 0 ≤ gx t4 j ∧ gx t4 j ≤ 15 from (fun q9 j h0 h1 => kb q9 j h0 (by have q7 := k8 q9; omega)))⟩ [0, 1, 2, 3, 4, 5] (by decide) rfl rfl (by decide) (by decide)
      · have tw2 : ¬ al.toInt ≤ rd.toInt := fun z9 => w2 ((ti_le rfl rfl).mpr z9)
        refine pb_iload_n (pc := 9) d_Expander_readTold_9 0 rfl rfl ?_
        refine pb_iload_n (pc := 10) d_Expander_readTold_10 3 rfl rfl ?_
        refine pb_icmp_ge (pc := 11) (tgt := 146) d_Expander_readTold_11 (by decide) (fun w3 => ?_) (fun w3 => ?_)
        · have tw3 : al.toInt ≤ k.toInt := (ti_le rfl rfl).mp w3
          exact pb_vret (pc := 146) hQ d_Expander_readTold_146 rfl (a4_, f4, t4) ⟨rfl, (by (try dsimp only); first | done | assumption | omega (splitDisjunctions := false) | omega | decide), (by (try dsimp only); first | done | assumption | omega (splitDisjunctions := false) | omega | decide), (by (try dsimp only); first | done | assumption | omega (splitDisjunctions := false) | omega | decide), (by (try dsimp only); first | done | assumption | omega (splitDisjunctions := false) | omega | decide), (show td_g A en.toInt L al.toInt al.toInt.toNat fl.toInt 0 at_.toInt (fun _ => 0) = tz_ f4.toInt a4_.toInt (tn_ t4 al.toInt) from (by by_cases q9 : f4.toInt = 0; have q8 : k.toInt = al.toInt := (by have q7 := k8 q9; omega); rw [← kT, td_fin (fun _ => by omega), q8]; rw [← kT, td_fin (fun q8 => absurd q8 q9)]; unfold tz_; rw [if_neg q9, if_neg q9])), (show f4.toInt = 0 → ∀ j : Int, 0 ≤ j → j < al.toInt → 0 ≤ gx t4 j ∧ gx t4 j ≤ 15 from (fun q9 j h0 h1 => kb q9 j h0 (by have q7 := k8 q9; omega)))⟩ [0, 1, 2, 3, 4, 5] (by decide) rfl rfl (by decide) (by decide)
        · have tw3 : ¬ al.toInt ≤ k.toInt := fun z9 => w3 ((ti_le rfl rfl).mpr z9)
          refine pb_aload_n (pc := 14) d_Expander_readTold_14 2 rfl rfl ?_
          refine pb_get (pc := 15) d_Expander_readTold_15 0 10 rfl rfl (by decide) in_Expander k_260 rfl ?_
          refine pb_if_ne (pc := 18) (tgt := 146) d_Expander_readTold_18 (by decide) (fun w4 => ?_) (fun w4 => ?_)
          · have tw4 : ¬ f4.toInt = 0 := fun z9 => w4 ((ti_eq rfl (by decide)).mpr z9)
            exact pb_vret (pc := 146) hQ d_Expander_readTold_146 rfl (a4_, f4, t4) ⟨rfl, (by (try dsimp only); first | done | assumption | omega (splitDisjunctions := false) | omega | decide), (by (try dsimp only); first | done | assumption | omega (splitDisjunctions := false) | omega | decide), (by (try dsimp only); first | done | assumption | omega (splitDisjunctions := false) | omega | decide), (by (try dsimp only); first | done | assumption | omega (splitDisjunctions := false) | omega | decide), (show td_g A en.toInt L al.toInt al.toInt.toNat fl.toInt 0 at_.toInt (fun _ => 0) = tz_ f4.toInt a4_.toInt (tn_ t4 al.toInt) from (by by_cases q9 : f4.toInt = 0; have q8 : k.toInt = al.toInt := (by have q7 := k8 q9; omega); rw [← kT, td_fin (fun _ => by omega), q8]; rw [← kT, td_fin (fun q8 => absurd q8 q9)]; unfold tz_; rw [if_neg q9, if_neg q9])), (show f4.toInt = 0 → ∀ j : Int, 0 ≤ j → j < al.toInt → 0 ≤ gx t4 j ∧ gx t4 j ≤ 15 from (fun q9 j h0 h1 => kb q9 j h0 (by have q7 := k8 q9; omega)))⟩ [0, 1, 2, 3, 4, 5] (by decide) rfl rfl (by decide) (by decide)
          · have tw4 : f4.toInt = 0 := (ti_eq rfl (by decide)).mp w4
            have f40 : f4.toInt = 0 := by omega
            have kT0 := kT
            rw [f40] at kT0
            have rk := k8 f40
            have hm_ : ∀ z9 : Int, z9 = rd.toInt + 1 → (al.toInt - rd.toInt).toNat = (al.toInt - z9).toNat + 1 := fun z9 h9 => by omega
            refine pb_aload_n (pc := 21) d_Expander_readTold_21 2 rfl rfl ?_
            refine pb_aload_n (pc := 22) d_Expander_readTold_22 2 rfl rfl ?_
            refine pb_get (pc := 23) d_Expander_readTold_23 0 6 rfl rfl (by decide) in_Expander k_256 rfl ?_
            refine pb_callV (pc := 26) (I := i_Expander_readTold) (qb := 0) (ci := 5) (nA := 1) (rest := []) (wr := [(et, .inl (G.2.2.1, 316, .inl t4))]) d_Expander_readTold_26 (g_Exp_symbol hl G h ex et ea eb ec ed ef er a4_ en f4 N fr ef ef1 ef2 19 efs efc efy 19 L 19 A (by first | assumption | omega (splitDisjunctions := false) | omega | decide) (by first | assumption | omega (splitDisjunctions := false) | omega | decide) (by first | assumption | omega (splitDisjunctions := false) | omega | decide) (by first | assumption | omega (splitDisjunctions := false) | omega | decide) (by first | assumption | omega (splitDisjunctions := false) | omega | decide) (by first | assumption | decide | omega) (by first | assumption | omega (splitDisjunctions := false) | omega | decide) (by first | assumption | omega (splitDisjunctions := false) | omega | decide) (by first | assumption | omega (splitDisjunctions := false) | omega | decide) (fun _ => hcs (by omega)) (by first | assumption | omega (splitDisjunctions := false) | omega | decide) (by first | assumption | decide | omega) F_fr) rfl rfl [0, 1, 3, 4, 5] [2] (by decide) rfl rfl rfl (by decide) (by decide) k_656 rfl k_121 k_653 k_655 k_22 ⟨rfl, hy_Expander_symbol⟩ (by decide) rfl rfl (Nat.le_of_ble_eq_true rfl) (by decide) (fun v9 u6 ch5 => ?_)
            obtain ⟨r_7, a2__8, f2__9⟩ := u6
            obtain ⟨ech5, ch5⟩ := ch5
            have ech5 : v9 = some (.int r_7) := ech5
            subst ech5
            obtain ⟨fh10, fh11, fh12, fh13, fh14, fh15, fh16, fh17⟩ : (0 ≤ r_7.toInt) ∧ (r_7.toInt < 19) ∧ (a4_.toInt ≤ a2__8.toInt) ∧ (a2__8.toInt ≤ en.toInt) ∧ (0 ≤ f2__9.toInt) ∧ (f4.toInt ≠ 0 → f2__9.toInt ≠ 0) ∧ (sy_w A en.toInt L 19 f4.toInt a4_.toInt = oc_ f2__9.toInt r_7.toInt a2__8.toInt) ∧ (f2__9.toInt = 0 → a4_.toInt < a2__8.toInt) := ch5
            have swF := fh16
            rw [f40] at swF
            refine pb_eq (pc' := 29) (lo' := [(2, .int k), (3, .int rd), (0, .ref h), (1, .int al)]) (rest' := [.int r_7]) (ws' := [(et, .inl (G.2.2.1, 316, .inl t4)), (h, .inr (5, [.ref ex, .ref et, .ref ea, .ref eb, .ref ec, .ref ed, .ref ef, .ref er, .int a2__8, .int en, .int f2__9])), (er, .inl (G.2.1, N, .inl fr)), (ef, .inr (1, [.ref ef1, .ref ef2, .int efs])), (ef1, .inl (G.2.2.1, 16, .inl efc)), (ef2, .inl (G.2.2.1, 19, .inl efy))]) ?_
            refine pb_istore (pc := 29) (lo' := [(4, .int r_7), (2, .int k), (3, .int rd), (0, .ref h), (1, .int al)]) d_Expander_readTold_29 (by decide) rfl ?_
            have hJ47_18 : ∀ (s5 : Int32) (a5_ : Int32) (f5 : Int32), (0 ≤ f5.toInt) → (fl.toInt ≠ 0 → f5.toInt ≠ 0) → (at_.toInt ≤ a5_.toInt) → (a5_.toInt ≤ en.toInt) → (0 ≤ s5.toInt) → (f5.toInt = 0 → s5.toInt = 16 → 0 < k.toInt) → (hid_ (∃ f1 : Int, sy_w A en.toInt L 19 0 a4_.toInt = oc_ f1 s5.toInt a5_.toInt ∧ f5.toInt = if f1 = 0 ∧ s5.toInt = 16 ∧ k.toInt = 0 then 4 else f1)) → pb_P l G M i_Expander_readTold 47 [(4, .int s5), (2, .int k), (3, .int rd), (0, .ref h), (1, .int al)] [] [(h, .inr (5, [.ref ex, .ref et, .ref ea, .ref eb, .ref ec, .ref ed, .ref ef, .ref er, .int a5_, .int en, .int f5])), (er, .inl (G.2.1, N, .inl fr)), (et, .inl (G.2.2.1, 316, .inl t4)), (ef, .inr (1, [.ref ef1, .ref ef2, .int efs])), (ef1, .inl (G.2.2.1, 16, .inl efc)), (ef2, .inl (G.2.2.1, 19, .inl efy))] 0 0 := by
              intro s5 a5_ f5 m1 m2 m3 m4 m5 m6 mE
              have hJ84_19 : ∀ (v5 : Int32), (f5.toInt = 0 → 0 ≤ v5.toInt ∧ v5.toInt ≤ 15) → (hid_ (f5.toInt = 0 → v5.toInt = if s5.toInt < 16 then s5.toInt else if s5.toInt = 16 then tn_ t4 k.toInt (k.toInt - 1) else 0)) → pb_P l G M i_Expander_readTold 84 [(5, .int v5), (4, .int s5), (2, .int k), (3, .int rd), (0, .ref h), (1, .int al)] [] [(h, .inr (5, [.ref ex, .ref et, .ref ea, .ref eb, .ref ec, .ref ed, .ref ef, .ref er, .int a5_, .int en, .int f5])), (er, .inl (G.2.1, N, .inl fr)), (et, .inl (G.2.2.1, 316, .inl t4)), (ef, .inr (1, [.ref ef1, .ref ef2, .int efs])), (ef1, .inl (G.2.2.1, 16, .inl efc)), (ef2, .inl (G.2.2.1, 19, .inl efy))] 0 0 := by
                intro v5 v0 vE
                refine pb_iload (pc := 84) d_Expander_readTold_84 1 rfl ?_
                clear k8 k2 m6
                refine pb_callS (pc := 86) (I := i_Expander_readTold) (nA := 1) (rest := []) (wr := [(h, .inr (5, [.ref ex, .ref et, .ref ea, .ref eb, .ref ec, .ref ed, .ref ef, .ref er, .int a5_, .int en, .int f5])), (er, .inl (G.2.1, N, .inl fr)), (et, .inl (G.2.2.1, 316, .inl t4)), (ef, .inr (1, [.ref ef1, .ref ef2, .int efs])), (ef1, .inl (G.2.2.1, 16, .inl efc)), (ef2, .inl (G.2.2.1, 19, .inl efy))]) d_Expander_readTold_86 (g_Exp_leastTimes hl G s5) [] [0, 1, 2, 3, 4, 5] (by decide) rfl rfl rfl (by decide) (by decide) k_688 rfl k_121 k_686 k_687 hy_Expander_leastTimes (by decide) rfl rfl (Nat.le_of_ble_eq_true rfl) (by decide) (fun v9 u21 ch20 => ?_)
                obtain ⟨r_22, rfl⟩ : ∃ z9, z9 = u21 := ⟨_, rfl⟩
                obtain ⟨ech20, ch20⟩ := ch20
                have ech20 : v9 = some (.int r_22) := ech20
                subst ech20
                obtain ⟨fh23, fh24, fh25⟩ : (1 ≤ r_22.toInt) ∧ (r_22.toInt ≤ 11) ∧ (r_22.toInt = tl_ s5.toInt) := ch20
                have tlF := fh25
                refine pb_eq (pc' := 89) (lo' := [(5, .int v5), (4, .int s5), (2, .int k), (3, .int rd), (0, .ref h), (1, .int al)]) (rest' := [.int r_22]) (ws' := [(h, .inr (5, [.ref ex, .ref et, .ref ea, .ref eb, .ref ec, .ref ed, .ref ef, .ref er, .int a5_, .int en, .int f5])), (er, .inl (G.2.1, N, .inl fr)), (et, .inl (G.2.2.1, 316, .inl t4)), (ef, .inr (1, [.ref ef1, .ref ef2, .int efs])), (ef1, .inl (G.2.2.1, 16, .inl efc)), (ef2, .inl (G.2.2.1, 19, .inl efy))]) ?_
                refine pb_aload_n (pc := 89) d_Expander_readTold_89 4 rfl rfl ?_
                refine pb_iload (pc := 90) d_Expander_readTold_90 1 rfl ?_
                refine pb_callS (pc := 92) (I := i_Expander_readTold) (nA := 1) (rest := [.ref h, .int r_22]) (wr := [(h, .inr (5, [.ref ex, .ref et, .ref ea, .ref eb, .ref ec, .ref ed, .ref ef, .ref er, .int a5_, .int en, .int f5])), (er, .inl (G.2.1, N, .inl fr)), (et, .inl (G.2.2.1, 316, .inl t4)), (ef, .inr (1, [.ref ef1, .ref ef2, .int efs])), (ef1, .inl (G.2.2.1, 16, .inl efc)), (ef2, .inl (G.2.2.1, 19, .inl efy))]) d_Expander_readTold_92 (g_Exp_bitsOfTimes hl G s5) [] [0, 1, 2, 3, 4, 5] (by decide) rfl rfl rfl (by decide) (by decide) k_691 rfl k_121 k_689 k_690 hy_Expander_bitsOfTimes (by decide) rfl rfl (Nat.le_of_ble_eq_true rfl) (by decide) (fun v9 u27 ch26 => ?_)
                obtain ⟨r_28, rfl⟩ : ∃ z9, z9 = u27 := ⟨_, rfl⟩
                obtain ⟨ech26, ch26⟩ := ch26
                have ech26 : v9 = some (.int r_28) := ech26
                subst ech26
                obtain ⟨fh29, fh30, fh31⟩ : (0 ≤ r_28.toInt) ∧ (r_28.toInt ≤ 7) ∧ (r_28.toInt = tb_ s5.toInt) := ch26
                have tbF := fh31
                refine pb_eq (pc' := 95) (lo' := [(5, .int v5), (4, .int s5), (2, .int k), (3, .int rd), (0, .ref h), (1, .int al)]) (rest' := [.int r_28, .ref h, .int r_22]) (ws' := [(h, .inr (5, [.ref ex, .ref et, .ref ea, .ref eb, .ref ec, .ref ed, .ref ef, .ref er, .int a5_, .int en, .int f5])), (er, .inl (G.2.1, N, .inl fr)), (et, .inl (G.2.2.1, 316, .inl t4)), (ef, .inr (1, [.ref ef1, .ref ef2, .int efs])), (ef1, .inl (G.2.2.1, 16, .inl efc)), (ef2, .inl (G.2.2.1, 19, .inl efy))]) ?_
                refine pb_callV (pc := 95) (I := i_Expander_readTold) (qb := 0) (ci := 5) (nA := 1) (rest := [.int r_22]) (wr := [(et, .inl (G.2.2.1, 316, .inl t4)), (ef, .inr (1, [.ref ef1, .ref ef2, .int efs])), (ef1, .inl (G.2.2.1, 16, .inl efc)), (ef2, .inl (G.2.2.1, 19, .inl efy))]) d_Expander_readTold_95 (g_Exp_number hl G h ex et ea eb ec ed ef er a5_ en f5 N fr r_28 A (by first | assumption | omega (splitDisjunctions := false) | omega | decide) (by first | assumption | omega (splitDisjunctions := false) | omega | decide) (by first | assumption | omega (splitDisjunctions := false) | omega | decide) (by first | assumption | omega (splitDisjunctions := false) | omega | decide) (by first | assumption | omega (splitDisjunctions := false) | omega | decide) (by first | assumption | omega (splitDisjunctions := false) | omega | decide) (by first | assumption | omega (splitDisjunctions := false) | omega | decide) (by first | assumption | decide | omega) (by first | assumption | decide | omega)) rfl rfl [0, 1] [2, 3, 4, 5] (by decide) rfl rfl rfl (by decide) (by decide) k_634 rfl k_121 k_631 k_633 k_17 ⟨rfl, hy_Expander_number⟩ (by decide) rfl rfl (Nat.le_of_ble_eq_true rfl) (by decide) (fun v9 u33 ch32 => ?_)
                obtain ⟨r_34, a2__35, f2__36⟩ := u33
                obtain ⟨ech32, ch32⟩ := ch32
                have ech32 : v9 = some (.int r_34) := ech32
                subst ech32
                obtain ⟨fh37, fh38, fh39, fh40, fh41, fh42, fh43, fh44, fh45⟩ : (0 ≤ r_34.toInt) ∧ (r_34.toInt < p2 r_28.toInt) ∧ (r_34.toInt ≤ 65535) ∧ (a5_.toInt ≤ a2__35.toInt) ∧ (a2__35.toInt ≤ en.toInt) ∧ (0 ≤ f2__36.toInt) ∧ (f5.toInt ≠ 0 → f2__36.toInt ≠ 0) ∧ (nu_w A en.toInt f5.toInt a5_.toInt r_28.toInt = oc_ f2__36.toInt r_34.toInt a2__35.toInt) ∧ (f2__36.toInt = 0 → a2__35.toInt = a5_.toInt + r_28.toInt) := ch32
                have nF := fh44
                rw [tbF] at nF
                refine pb_eq (pc' := 98) (lo' := [(5, .int v5), (4, .int s5), (2, .int k), (3, .int rd), (0, .ref h), (1, .int al)]) (rest' := [.int r_34, .int r_22]) (ws' := [(et, .inl (G.2.2.1, 316, .inl t4)), (ef, .inr (1, [.ref ef1, .ref ef2, .int efs])), (ef1, .inl (G.2.2.1, 16, .inl efc)), (ef2, .inl (G.2.2.1, 19, .inl efy)), (h, .inr (5, [.ref ex, .ref et, .ref ea, .ref eb, .ref ec, .ref ed, .ref ef, .ref er, .int a2__35, .int en, .int f2__36])), (er, .inl (G.2.1, N, .inl fr))]) ?_
                refine pb_iadd (pc := 98) d_Expander_readTold_98 ?_
                refine pb_topi (fun i46 ei46 => ?_)
                try have ti46 : i46.toInt = r_22.toInt + r_34.toInt := t2_add ei46 rfl rfl (by omega)
                refine pb_istore (pc := 99) (lo' := [(6, .int i46), (5, .int v5), (4, .int s5), (2, .int k), (3, .int rd), (0, .ref h), (1, .int al)]) d_Expander_readTold_99 (by decide) rfl ?_
                have hJ114_47 : ∀ (t6 : Int32) (a6_ : Int32) (f6 : Int32), (0 ≤ f6.toInt) → (fl.toInt ≠ 0 → f6.toInt ≠ 0) → (at_.toInt ≤ a6_.toInt) → (a6_.toInt ≤ en.toInt) → (1 ≤ t6.toInt) → (f6.toInt = 0 → t6.toInt ≤ al.toInt - k.toInt) → (f6.toInt = 0 → f5.toInt = 0) → (hid_ (∃ f2 r2 : Int, nu_w A en.toInt f5.toInt a5_.toInt (tb_ s5.toInt) = oc_ f2 r2 a6_.toInt ∧ (f2 = 0 → t6.toInt = tl_ s5.toInt + r2) ∧ f6.toInt = if f2 = 0 ∧ al.toInt - k.toInt < t6.toInt then 4 else f2)) → pb_P l G M i_Expander_readTold 114 [(6, .int t6), (5, .int v5), (2, .int k), (3, .int rd), (0, .ref h), (1, .int al)] [] [(h, .inr (5, [.ref ex, .ref et, .ref ea, .ref eb, .ref ec, .ref ed, .ref ef, .ref er, .int a6_, .int en, .int f6])), (er, .inl (G.2.1, N, .inl fr)), (et, .inl (G.2.2.1, 316, .inl t4)), (ef, .inr (1, [.ref ef1, .ref ef2, .int efs])), (ef1, .inl (G.2.2.1, 16, .inl efc)), (ef2, .inl (G.2.2.1, 19, .inl efy))] 0 0 := by
                  intro t6 a6_ f6 n1 n2 n3 n4 n5 n6 n7 nE
                  refine pb_aload_n (pc := 114) d_Expander_readTold_114 4 rfl rfl ?_
                  refine pb_get (pc := 115) d_Expander_readTold_115 0 10 rfl rfl (by decide) in_Expander k_260 rfl ?_
                  refine pb_if_ne (pc := 118) (tgt := 140) d_Expander_readTold_118 (by decide) (fun w48 => ?_) (fun w48 => ?_)
                  · have tw48 : ¬ f6.toInt = 0 := fun z9 => w48 ((ti_eq rfl (by decide)).mpr z9)
                    try have f6n : ¬ f6.toInt = 0 := by assumption
                    refine pb_iincN (pc := 140) (c := 1) d_Expander_readTold_140 3 rfl (by decide) (by decide) (fun i49 ei49 => ?_)
                    have ti49 : i49.toInt = rd.toInt + 1 := t2_add ei49 rfl (by decide) (by omega)
                    refine pb_eq (pc' := 143) (lo' := [(3, .int i49), (6, .int t6), (5, .int v5), (2, .int k), (0, .ref h), (1, .int al)]) (rest' := []) (ws' := [(h, .inr (5, [.ref ex, .ref et, .ref ea, .ref eb, .ref ec, .ref ed, .ref ef, .ref er, .int a6_, .int en, .int f6])), (er, .inl (G.2.1, N, .inl fr)), (et, .inl (G.2.2.1, 316, .inl t4)), (ef, .inr (1, [.ref ef1, .ref ef2, .int efs])), (ef1, .inl (G.2.2.1, 16, .inl efc)), (ef2, .inl (G.2.2.1, 19, .inl efy))]) ?_
                    refine pb_goto (pc := 143) (tgt := 4) d_Expander_readTold_143 (by decide) ?_
                    refine pb_re (ws' := [(h, .inr (5, [.ref ex, .ref et, .ref ea, .ref eb, .ref ec, .ref ed, .ref ef, .ref er, .int a6_, .int en, .int f6])), (er, .inl (G.2.1, N, .inl fr)), (et, .inl (G.2.2.1, 316, .inl t4)), (ef, .inr (1, [.ref ef1, .ref ef2, .int efs])), (ef1, .inl (G.2.2.1, 16, .inl efc)), (ef2, .inl (G.2.2.1, 19, .inl efy))]) (lo' := [(2, .int k), (3, .int i49), (0, .ref h), (1, .int al)]) [0, 1, 2, 3, 4, 5] [3, 0, 4, 5] (by decide) rfl rfl rfl ?_
                    exact ih4 k i49 a6_ f6 t4 (by first | assumption | omega (splitDisjunctions := false) | omega | decide) (by first | assumption | omega (splitDisjunctions := false) | omega | decide) (by first | assumption | omega (splitDisjunctions := false) | omega | decide) (by first | exact fun q9 => absurd q9 f6n | exact fun _ => (by omega (splitDisjunctions := false))) (by first | assumption | omega (splitDisjunctions := false) | omega | decide) (by first | assumption | omega (splitDisjunctions := false) | omega | decide) (by first | assumption | omega (splitDisjunctions := false) | omega | decide) (by first | assumption | omega (splitDisjunctions := false) | omega | decide) (by first | exact fun _ j h0 h1 => (by have q8 := saF j h0; split at q8; (rw [q8]; omega); (rw [q8]; exact kb f40 j h0 (by omega))) | exact fun q9 => absurd q9 f6n) (by obtain ⟨f1, e1, hw1⟩ := hid_o mE; obtain ⟨f2, r2, e2, ht, hw2⟩ := hid_o nE; first | exact (td_go2 (hm_ _ (by omega (splitDisjunctions := false))) (by omega (splitDisjunctions := false)) e1 hw1 e2 ht hw2 (fun _ => hid_o vE f50) (fun _ => (by omega (splitDisjunctions := false))) (fun _ => tn_fi saF (by omega (splitDisjunctions := false)) (by omega (splitDisjunctions := false)) (by omega (splitDisjunctions := false)) (by omega (splitDisjunctions := false)))).symm.trans kT0 | exact (td_go2 (v := 0) (hm_ _ (by omega (splitDisjunctions := false))) (by omega (splitDisjunctions := false)) e1 hw1 e2 ht hw2 (fun q9 => absurd q9 f6n) (fun q9 => absurd q9 f6n) (fun q9 => absurd q9 f6n)).symm.trans kT0) (by omega)
                  · have tw48 : f6.toInt = 0 := (ti_eq rfl (by decide)).mp w48
                    have f60 : f6.toInt = 0 := by assumption
                    have n6_ := n6 f60
                    have f50 := n7 f60
                    have v0_ := v0 f50
                    clear n6 n7 v0
                    refine pb_aload_n (pc := 121) d_Expander_readTold_121 4 rfl rfl ?_
                    refine pb_get (pc := 122) d_Expander_readTold_122 0 1 rfl rfl (by decide) in_Expander k_251 rfl ?_
                    refine pb_iload_n (pc := 125) d_Expander_readTold_125 2 rfl rfl ?_
                    refine pb_iload_n (pc := 126) d_Expander_readTold_126 2 rfl rfl ?_
                    refine pb_iload (pc := 127) d_Expander_readTold_127 0 rfl ?_
                    refine pb_iadd (pc := 129) d_Expander_readTold_129 ?_
                    refine pb_topi (fun i50 ei50 => ?_)
                    try have ti50 : i50.toInt = k.toInt + t6.toInt := t2_add ei50 rfl rfl (by omega)
                    refine pb_iload (pc := 130) d_Expander_readTold_130 1 rfl ?_
                    refine pb_callS (pc := 132) (I := i_Expander_readTold) (nA := 4) (rest := []) (wr := [(h, .inr (5, [.ref ex, .ref et, .ref ea, .ref eb, .ref ec, .ref ed, .ref ef, .ref er, .int a6_, .int en, .int f6])), (er, .inl (G.2.1, N, .inl fr)), (ef, .inr (1, [.ref ef1, .ref ef2, .int efs])), (ef1, .inl (G.2.2.1, 16, .inl efc)), (ef2, .inl (G.2.2.1, 19, .inl efy))]) d_Expander_readTold_132 (g_Exp_setAll hl G et 316 t4 k i50 v5 (by first | assumption | omega (splitDisjunctions := false) | omega | decide) (by first | assumption | omega (splitDisjunctions := false) | omega | decide) (by first | assumption | omega (splitDisjunctions := false) | omega | decide)) [2] [0, 1, 3, 4, 5] (by decide) rfl rfl rfl (by decide) (by decide) k_243 rfl k_121 k_241 k_242 hy_Expander_setAll (by decide) rfl rfl (Nat.le_of_ble_eq_true rfl) (by decide) (fun v9 u52 ch51 => ?_)
                    obtain ⟨f_53, rfl⟩ : ∃ z9, z9 = u52 := ⟨_, rfl⟩
                    obtain ⟨ech51, ch51⟩ := ch51
                    have ech51 : v9 = none := ech51
                    subst ech51
                    have fh54 : ∀ j : Int, 0 ≤ j → gx f_53 j = if k.toInt ≤ j ∧ j < i50.toInt then v5.toInt else gx t4 j := ch51
                    have saF := fh54
                    refine pb_eq (pc' := 135) (lo' := [(6, .int t6), (5, .int v5), (2, .int k), (3, .int rd), (0, .ref h), (1, .int al)]) (rest' := []) (ws' := [(h, .inr (5, [.ref ex, .ref et, .ref ea, .ref eb, .ref ec, .ref ed, .ref ef, .ref er, .int a6_, .int en, .int f6])), (er, .inl (G.2.1, N, .inl fr)), (ef, .inr (1, [.ref ef1, .ref ef2, .int efs])), (ef1, .inl (G.2.2.1, 16, .inl efc)), (ef2, .inl (G.2.2.1, 19, .inl efy)), (et, .inl (G.2.2.1, 316, .inl f_53))]) ?_
                    refine pb_iload_n (pc := 135) d_Expander_readTold_135 2 rfl rfl ?_
                    refine pb_iload (pc := 136) d_Expander_readTold_136 0 rfl ?_
                    refine pb_iadd (pc := 138) d_Expander_readTold_138 ?_
                    refine pb_topi (fun i55 ei55 => ?_)
                    try have ti55 : i55.toInt = k.toInt + t6.toInt := t2_add ei55 rfl rfl (by omega)
                    refine pb_istore_n (pc := 139) (lo' := [(2, .int i55), (6, .int t6), (5, .int v5), (3, .int rd), (0, .ref h), (1, .int al)]) d_Expander_readTold_139 rfl (by decide) rfl ?_
                    try have f6n : ¬ f6.toInt = 0 := by assumption
                    refine pb_iincN (pc := 140) (c := 1) d_Expander_readTold_140 3 rfl (by decide) (by decide) (fun i56 ei56 => ?_)
                    have ti56 : i56.toInt = rd.toInt + 1 := t2_add ei56 rfl (by decide) (by omega)
                    refine pb_eq (pc' := 143) (lo' := [(3, .int i56), (2, .int i55), (6, .int t6), (5, .int v5), (0, .ref h), (1, .int al)]) (rest' := []) (ws' := [(h, .inr (5, [.ref ex, .ref et, .ref ea, .ref eb, .ref ec, .ref ed, .ref ef, .ref er, .int a6_, .int en, .int f6])), (er, .inl (G.2.1, N, .inl fr)), (ef, .inr (1, [.ref ef1, .ref ef2, .int efs])), (ef1, .inl (G.2.2.1, 16, .inl efc)), (ef2, .inl (G.2.2.1, 19, .inl efy)), (et, .inl (G.2.2.1, 316, .inl f_53))]) ?_
                    refine pb_goto (pc := 143) (tgt := 4) d_Expander_readTold_143 (by decide) ?_
                    refine pb_re (ws' := [(h, .inr (5, [.ref ex, .ref et, .ref ea, .ref eb, .ref ec, .ref ed, .ref ef, .ref er, .int a6_, .int en, .int f6])), (er, .inl (G.2.1, N, .inl fr)), (et, .inl (G.2.2.1, 316, .inl f_53)), (ef, .inr (1, [.ref ef1, .ref ef2, .int efs])), (ef1, .inl (G.2.2.1, 16, .inl efc)), (ef2, .inl (G.2.2.1, 19, .inl efy))]) (lo' := [(2, .int i55), (3, .int i56), (0, .ref h), (1, .int al)]) [0, 1, 5, 2, 3, 4] [1, 0, 4, 5] (by decide) rfl rfl rfl ?_
                    exact ih4 i55 i56 a6_ f6 f_53 (by first | assumption | omega (splitDisjunctions := false) | omega | decide) (by first | assumption | omega (splitDisjunctions := false) | omega | decide) (by first | assumption | omega (splitDisjunctions := false) | omega | decide) (by first | exact fun q9 => absurd q9 f6n | exact fun _ => (by omega (splitDisjunctions := false))) (by first | assumption | omega (splitDisjunctions := false) | omega | decide) (by first | assumption | omega (splitDisjunctions := false) | omega | decide) (by first | assumption | omega (splitDisjunctions := false) | omega | decide) (by first | assumption | omega (splitDisjunctions := false) | omega | decide) (by first | exact fun _ j h0 h1 => (by have q8 := saF j h0; split at q8; (rw [q8]; omega); (rw [q8]; exact kb f40 j h0 (by omega))) | exact fun q9 => absurd q9 f6n) (by obtain ⟨f1, e1, hw1⟩ := hid_o mE; obtain ⟨f2, r2, e2, ht, hw2⟩ := hid_o nE; first | exact (td_go2 (hm_ _ (by omega (splitDisjunctions := false))) (by omega (splitDisjunctions := false)) e1 hw1 e2 ht hw2 (fun _ => hid_o vE f50) (fun _ => (by omega (splitDisjunctions := false))) (fun _ => tn_fi saF (by omega (splitDisjunctions := false)) (by omega (splitDisjunctions := false)) (by omega (splitDisjunctions := false)) (by omega (splitDisjunctions := false)))).symm.trans kT0 | exact (td_go2 (v := 0) (hm_ _ (by omega (splitDisjunctions := false))) (by omega (splitDisjunctions := false)) e1 hw1 e2 ht hw2 (fun q9 => absurd q9 f6n) (fun q9 => absurd q9 f6n) (fun q9 => absurd q9 f6n)).symm.trans kT0) (by omega)
                refine pb_iload (pc := 101) d_Expander_readTold_101 0 rfl ?_
                refine pb_iload_n (pc := 103) d_Expander_readTold_103 6 rfl rfl ?_
                refine pb_iload_n (pc := 104) d_Expander_readTold_104 3 rfl rfl ?_
                refine pb_isub (pc := 105) d_Expander_readTold_105 ?_
                refine pb_topi (fun i57 ei57 => ?_)
                try have ti57 : i57.toInt = al.toInt - k.toInt := t2_sub ei57 rfl rfl (by omega)
                refine pb_icmp_le (pc := 106) (tgt := 114) d_Expander_readTold_106 (by decide) (fun w58 => ?_) (fun w58 => ?_)
                · have tw58 : i46.toInt ≤ i57.toInt := (ti_le rfl rfl).mp w58
                  refine pb_re (ws' := [(h, .inr (5, [.ref ex, .ref et, .ref ea, .ref eb, .ref ec, .ref ed, .ref ef, .ref er, .int a2__35, .int en, .int f2__36])), (er, .inl (G.2.1, N, .inl fr)), (et, .inl (G.2.2.1, 316, .inl t4)), (ef, .inr (1, [.ref ef1, .ref ef2, .int efs])), (ef1, .inl (G.2.2.1, 16, .inl efc)), (ef2, .inl (G.2.2.1, 19, .inl efy))]) (lo' := [(6, .int i46), (5, .int v5), (2, .int k), (3, .int rd), (0, .ref h), (1, .int al)]) [4, 5, 0, 1, 2, 3] [0, 1, 3, 4, 5, 6] (by decide) rfl rfl rfl ?_
                  exact hJ114_47 i46 a2__35 f2__36 (by first | assumption | omega (splitDisjunctions := false) | omega | decide) (by first | assumption | omega (splitDisjunctions := false) | omega | decide) (by first | assumption | omega (splitDisjunctions := false) | omega | decide) (by first | assumption | omega (splitDisjunctions := false) | omega | decide) (by first | assumption | omega (splitDisjunctions := false) | omega | decide) (by first | assumption | omega (splitDisjunctions := false) | omega | decide) (by first | assumption | omega (splitDisjunctions := false) | omega | decide) (hid_i ⟨_, _, nF, fun _ => by omega, by split <;> omega⟩)
                · have tw58 : ¬ i46.toInt ≤ i57.toInt := fun z9 => w58 ((ti_le rfl rfl).mpr z9)
                  refine pb_aload_n (pc := 109) d_Expander_readTold_109 5 rfl rfl ?_
                  refine pb_iconst (pc := 110) (v := 4) d_Expander_readTold_110 (by decide) ?_
                  refine pb_callV (pc := 111) (I := i_Expander_readTold) (qb := 4) (ci := 5) (nA := 1) (rest := []) (wr := [(et, .inl (G.2.2.1, 316, .inl t4)), (ef, .inr (1, [.ref ef1, .ref ef2, .int efs])), (ef1, .inl (G.2.2.1, 16, .inl efc)), (ef2, .inl (G.2.2.1, 19, .inl efy)), (er, .inl (G.2.1, N, .inl fr))]) d_Expander_readTold_111 (g_Exp_fail hl G h ex et ea eb ec ed ef er a2__35 en f2__36 4 (by first | assumption | omega (splitDisjunctions := false) | omega | decide) (by first | assumption | omega (splitDisjunctions := false) | omega | decide)) rfl rfl [4] [0, 1, 2, 3, 5] (by decide) rfl rfl rfl (by decide) (by decide) k_643 rfl k_121 k_640 k_642 k_19 ⟨rfl, hy_Expander_fail⟩ (by decide) rfl rfl (Nat.le_of_ble_eq_true rfl) (by decide) (fun v9 u60 ch59 => ?_)
                  obtain ⟨f2__61, rfl⟩ : ∃ z9, z9 = u60 := ⟨_, rfl⟩
                  obtain ⟨ech59, ch59⟩ := ch59
                  have ech59 : v9 = none := ech59
                  subst ech59
                  obtain ⟨fh62, fh63⟩ : (0 < f2__61.toInt) ∧ (f2__36.toInt = 0 ∧ f2__61.toInt = (4 : Int32).toInt ∨ f2__36.toInt ≠ 0 ∧ f2__61.toInt = f2__36.toInt) := ch59
                  refine pb_eq (pc' := 114) (lo' := [(6, .int i46), (5, .int v5), (4, .int s5), (2, .int k), (3, .int rd), (0, .ref h), (1, .int al)]) (rest' := []) (ws' := [(et, .inl (G.2.2.1, 316, .inl t4)), (ef, .inr (1, [.ref ef1, .ref ef2, .int efs])), (ef1, .inl (G.2.2.1, 16, .inl efc)), (ef2, .inl (G.2.2.1, 19, .inl efy)), (er, .inl (G.2.1, N, .inl fr)), (h, .inr (5, [.ref ex, .ref et, .ref ea, .ref eb, .ref ec, .ref ed, .ref ef, .ref er, .int a2__35, .int en, .int f2__61]))]) ?_
                  refine pb_re (ws' := [(h, .inr (5, [.ref ex, .ref et, .ref ea, .ref eb, .ref ec, .ref ed, .ref ef, .ref er, .int a2__35, .int en, .int f2__61])), (er, .inl (G.2.1, N, .inl fr)), (et, .inl (G.2.2.1, 316, .inl t4)), (ef, .inr (1, [.ref ef1, .ref ef2, .int efs])), (ef1, .inl (G.2.2.1, 16, .inl efc)), (ef2, .inl (G.2.2.1, 19, .inl efy))]) (lo' := [(6, .int i46), (5, .int v5), (2, .int k), (3, .int rd), (0, .ref h), (1, .int al)]) [5, 4, 0, 1, 2, 3] [0, 1, 3, 4, 5, 6] (by decide) rfl rfl rfl ?_
                  exact hJ114_47 i46 a2__35 f2__61 (by first | assumption | omega (splitDisjunctions := false) | omega | decide) (by first | assumption | omega (splitDisjunctions := false) | omega | decide) (by first | assumption | omega (splitDisjunctions := false) | omega | decide) (by first | assumption | omega (splitDisjunctions := false) | omega | decide) (by first | assumption | omega (splitDisjunctions := false) | omega | decide) (by first | assumption | omega (splitDisjunctions := false) | omega | decide) (by first | assumption | omega (splitDisjunctions := false) | omega | decide) (hid_i ⟨_, _, nF, fun _ => by omega, by split <;> omega⟩)
              refine pb_iload (pc := 47) d_Expander_readTold_47 0 rfl ?_
              refine pb_bipush (pc := 49) (v := 16) d_Expander_readTold_49 (by decide) ?_
              refine pb_icmp_ge (pc := 51) (tgt := 59) d_Expander_readTold_51 (by decide) (fun w64 => ?_) (fun w64 => ?_)
              · have tw64 : 16 ≤ s5.toInt := (ti_le (by decide) rfl).mp w64
                refine pb_iload (pc := 59) d_Expander_readTold_59 0 rfl ?_
                refine pb_bipush (pc := 61) (v := 16) d_Expander_readTold_61 (by decide) ?_
                refine pb_icmp_ne (pc := 63) (tgt := 81) d_Expander_readTold_63 (by decide) (fun w65 => ?_) (fun w65 => ?_)
                · have tw65 : ¬ s5.toInt = 16 := fun z9 => w65 ((ti_eq rfl (by decide)).mpr z9)
                  refine pb_iconst (pc := 81) (v := 0) d_Expander_readTold_81 (by decide) ?_
                  refine pb_istore (pc := 82) (lo' := [(5, .int 0), (4, .int s5), (2, .int k), (3, .int rd), (0, .ref h), (1, .int al)]) d_Expander_readTold_82 (by decide) rfl ?_
                  exact hJ84_19 0 (by first | assumption | omega (splitDisjunctions := false) | omega | decide) (hid_i (fun q9 => by (repeat' split) <;> first | omega | (rw [tn_at (by omega) (by omega)]; omega)))
                · have tw65 : s5.toInt = 16 := (ti_eq rfl (by decide)).mp w65
                  refine pb_iload_n (pc := 66) d_Expander_readTold_66 1 rfl rfl ?_
                  refine pb_if_le (pc := 67) (tgt := 81) d_Expander_readTold_67 (by decide) (fun w66 => ?_) (fun w66 => ?_)
                  · have tw66 : k.toInt ≤ 0 := (ti_le rfl (by decide)).mp w66
                    refine pb_iconst (pc := 81) (v := 0) d_Expander_readTold_81 (by decide) ?_
                    refine pb_istore (pc := 82) (lo' := [(5, .int 0), (4, .int s5), (2, .int k), (3, .int rd), (0, .ref h), (1, .int al)]) d_Expander_readTold_82 (by decide) rfl ?_
                    exact hJ84_19 0 (by first | assumption | omega (splitDisjunctions := false) | omega | decide) (hid_i (fun q9 => by (repeat' split) <;> first | omega | (rw [tn_at (by omega) (by omega)]; omega)))
                  · have tw66 : ¬ k.toInt ≤ 0 := fun z9 => w66 ((ti_le rfl (by decide)).mpr z9)
                    refine pb_aload_n (pc := 70) d_Expander_readTold_70 3 rfl rfl ?_
                    refine pb_get (pc := 71) d_Expander_readTold_71 0 1 rfl rfl (by decide) in_Expander k_251 rfl ?_
                    refine pb_iload_n (pc := 74) d_Expander_readTold_74 1 rfl rfl ?_
                    refine pb_iconst (pc := 75) (v := 1) d_Expander_readTold_75 (by decide) ?_
                    refine pb_isub (pc := 76) d_Expander_readTold_76 ?_
                    refine pb_topi (fun i67 ei67 => ?_)
                    try have ti67 : i67.toInt = k.toInt - 1 := t2_sub ei67 rfl (by decide) (by omega)
                    refine pb_iald (pc := 77) d_Expander_readTold_77 2 rfl (vp_in_iff.mpr (by omega)) ?_
                    refine pb_topi (fun i68 ei68 => ?_)
                    have ti68 : i68.toInt = gx t4 (k.toInt - 1) := gx_ld ei68 (by omega)
                    have kv := kb (by omega) (k.toInt - 1) (by omega) (by omega)
                    refine pb_goto (pc := 78) (tgt := 82) d_Expander_readTold_78 (by decide) ?_
                    refine pb_istore (pc := 82) (lo' := [(5, .int i68), (4, .int s5), (2, .int k), (3, .int rd), (0, .ref h), (1, .int al)]) d_Expander_readTold_82 (by decide) rfl ?_
                    exact hJ84_19 i68 (by first | assumption | omega (splitDisjunctions := false) | omega | decide) (hid_i (fun q9 => by (repeat' split) <;> first | omega | (rw [tn_at (by omega) (by omega)]; omega)))
              · have tw64 : ¬ 16 ≤ s5.toInt := fun z9 => w64 ((ti_le (by decide) rfl).mpr z9)
                refine pb_iload (pc := 54) d_Expander_readTold_54 0 rfl ?_
                refine pb_goto (pc := 56) (tgt := 82) d_Expander_readTold_56 (by decide) ?_
                refine pb_istore (pc := 82) (lo' := [(5, .int s5), (4, .int s5), (2, .int k), (3, .int rd), (0, .ref h), (1, .int al)]) d_Expander_readTold_82 (by decide) rfl ?_
                exact hJ84_19 s5 (by first | assumption | omega (splitDisjunctions := false) | omega | decide) (hid_i (fun q9 => by (repeat' split) <;> first | omega | (rw [tn_at (by omega) (by omega)]; omega)))
            refine pb_iload (pc := 31) d_Expander_readTold_31 0 rfl ?_
            refine pb_bipush (pc := 33) (v := 16) d_Expander_readTold_33 (by decide) ?_
            refine pb_icmp_ne (pc := 35) (tgt := 47) d_Expander_readTold_35 (by decide) (fun w69 => ?_) (fun w69 => ?_)
            · have tw69 : ¬ r_7.toInt = 16 := fun z9 => w69 ((ti_eq rfl (by decide)).mpr z9)
              refine pb_re (ws' := [(h, .inr (5, [.ref ex, .ref et, .ref ea, .ref eb, .ref ec, .ref ed, .ref ef, .ref er, .int a2__8, .int en, .int f2__9])), (er, .inl (G.2.1, N, .inl fr)), (et, .inl (G.2.2.1, 316, .inl t4)), (ef, .inr (1, [.ref ef1, .ref ef2, .int efs])), (ef1, .inl (G.2.2.1, 16, .inl efc)), (ef2, .inl (G.2.2.1, 19, .inl efy))]) (lo' := [(4, .int r_7), (2, .int k), (3, .int rd), (0, .ref h), (1, .int al)]) [1, 2, 0, 3, 4, 5] [0, 1, 2, 3, 4] (by decide) rfl rfl rfl ?_
              exact hJ47_18 r_7 a2__8 f2__9 (by first | assumption | omega (splitDisjunctions := false) | omega | decide) (by first | assumption | omega (splitDisjunctions := false) | omega | decide) (by first | assumption | omega (splitDisjunctions := false) | omega | decide) (by first | assumption | omega (splitDisjunctions := false) | omega | decide) (by first | assumption | omega (splitDisjunctions := false) | omega | decide) (by first | assumption | omega (splitDisjunctions := false) | omega | decide) (hid_i ⟨_, swF, by split <;> omega⟩)
            · have tw69 : r_7.toInt = 16 := (ti_eq rfl (by decide)).mp w69
              refine pb_iload_n (pc := 38) d_Expander_readTold_38 1 rfl rfl ?_
              refine pb_if_ne (pc := 39) (tgt := 47) d_Expander_readTold_39 (by decide) (fun w70 => ?_) (fun w70 => ?_)
              · have tw70 : ¬ k.toInt = 0 := fun z9 => w70 ((ti_eq rfl (by decide)).mpr z9)
                refine pb_re (ws' := [(h, .inr (5, [.ref ex, .ref et, .ref ea, .ref eb, .ref ec, .ref ed, .ref ef, .ref er, .int a2__8, .int en, .int f2__9])), (er, .inl (G.2.1, N, .inl fr)), (et, .inl (G.2.2.1, 316, .inl t4)), (ef, .inr (1, [.ref ef1, .ref ef2, .int efs])), (ef1, .inl (G.2.2.1, 16, .inl efc)), (ef2, .inl (G.2.2.1, 19, .inl efy))]) (lo' := [(4, .int r_7), (2, .int k), (3, .int rd), (0, .ref h), (1, .int al)]) [1, 2, 0, 3, 4, 5] [0, 1, 2, 3, 4] (by decide) rfl rfl rfl ?_
                exact hJ47_18 r_7 a2__8 f2__9 (by first | assumption | omega (splitDisjunctions := false) | omega | decide) (by first | assumption | omega (splitDisjunctions := false) | omega | decide) (by first | assumption | omega (splitDisjunctions := false) | omega | decide) (by first | assumption | omega (splitDisjunctions := false) | omega | decide) (by first | assumption | omega (splitDisjunctions := false) | omega | decide) (by first | assumption | omega (splitDisjunctions := false) | omega | decide) (hid_i ⟨_, swF, by split <;> omega⟩)
              · have tw70 : k.toInt = 0 := (ti_eq rfl (by decide)).mp w70
                refine pb_aload_n (pc := 42) d_Expander_readTold_42 3 rfl rfl ?_
                refine pb_iconst (pc := 43) (v := 4) d_Expander_readTold_43 (by decide) ?_
                refine pb_callV (pc := 44) (I := i_Expander_readTold) (qb := 1) (ci := 5) (nA := 1) (rest := []) (wr := [(et, .inl (G.2.2.1, 316, .inl t4)), (er, .inl (G.2.1, N, .inl fr)), (ef, .inr (1, [.ref ef1, .ref ef2, .int efs])), (ef1, .inl (G.2.2.1, 16, .inl efc)), (ef2, .inl (G.2.2.1, 19, .inl efy))]) d_Expander_readTold_44 (g_Exp_fail hl G h ex et ea eb ec ed ef er a2__8 en f2__9 4 (by first | assumption | omega (splitDisjunctions := false) | omega | decide) (by first | assumption | omega (splitDisjunctions := false) | omega | decide)) rfl rfl [1] [0, 2, 3, 4, 5] (by decide) rfl rfl rfl (by decide) (by decide) k_643 rfl k_121 k_640 k_642 k_19 ⟨rfl, hy_Expander_fail⟩ (by decide) rfl rfl (Nat.le_of_ble_eq_true rfl) (by decide) (fun v9 u72 ch71 => ?_)
                obtain ⟨f2__73, rfl⟩ : ∃ z9, z9 = u72 := ⟨_, rfl⟩
                obtain ⟨ech71, ch71⟩ := ch71
                have ech71 : v9 = none := ech71
                subst ech71
                obtain ⟨fh74, fh75⟩ : (0 < f2__73.toInt) ∧ (f2__9.toInt = 0 ∧ f2__73.toInt = (4 : Int32).toInt ∨ f2__9.toInt ≠ 0 ∧ f2__73.toInt = f2__9.toInt) := ch71
                refine pb_eq (pc' := 47) (lo' := [(4, .int r_7), (2, .int k), (3, .int rd), (0, .ref h), (1, .int al)]) (rest' := []) (ws' := [(et, .inl (G.2.2.1, 316, .inl t4)), (er, .inl (G.2.1, N, .inl fr)), (ef, .inr (1, [.ref ef1, .ref ef2, .int efs])), (ef1, .inl (G.2.2.1, 16, .inl efc)), (ef2, .inl (G.2.2.1, 19, .inl efy)), (h, .inr (5, [.ref ex, .ref et, .ref ea, .ref eb, .ref ec, .ref ed, .ref ef, .ref er, .int a2__8, .int en, .int f2__73]))]) ?_
                refine pb_re (ws' := [(h, .inr (5, [.ref ex, .ref et, .ref ea, .ref eb, .ref ec, .ref ed, .ref ef, .ref er, .int a2__8, .int en, .int f2__73])), (er, .inl (G.2.1, N, .inl fr)), (et, .inl (G.2.2.1, 316, .inl t4)), (ef, .inr (1, [.ref ef1, .ref ef2, .int efs])), (ef1, .inl (G.2.2.1, 16, .inl efc)), (ef2, .inl (G.2.2.1, 19, .inl efy))]) (lo' := [(4, .int r_7), (2, .int k), (3, .int rd), (0, .ref h), (1, .int al)]) [5, 1, 0, 2, 3, 4] [0, 1, 2, 3, 4] (by decide) rfl rfl rfl ?_
                exact hJ47_18 r_7 a2__8 f2__73 (by first | assumption | omega (splitDisjunctions := false) | omega | decide) (by first | assumption | omega (splitDisjunctions := false) | omega | decide) (by first | assumption | omega (splitDisjunctions := false) | omega | decide) (by first | assumption | omega (splitDisjunctions := false) | omega | decide) (by first | assumption | omega (splitDisjunctions := false) | omega | decide) (by first | assumption | omega (splitDisjunctions := false) | omega | decide) (hid_i ⟨_, swF, by split <;> omega⟩)
  refine pb_re (ws' := [(h, .inr (5, [.ref ex, .ref et, .ref ea, .ref eb, .ref ec, .ref ed, .ref ef, .ref er, .int at_, .int en, .int fl])), (er, .inl (G.2.1, N, .inl fr)), (et, .inl (G.2.2.1, 316, .inl tf)), (ef, .inr (1, [.ref ef1, .ref ef2, .int efs])), (ef1, .inl (G.2.2.1, 16, .inl efc)), (ef2, .inl (G.2.2.1, 19, .inl efy))]) (lo' := [(2, .int 0), (3, .int 0), (0, .ref h), (1, .int al)]) [0, 1, 2, 3, 4, 5] [1, 0, 2, 3] (by decide) rfl rfl rfl ?_
  exact hL4_1 _ 0 0 at_ fl tf (by first | assumption | omega (splitDisjunctions := false) | omega | decide) (by first | assumption | omega (splitDisjunctions := false) | omega | decide) (by first | assumption | omega (splitDisjunctions := false) | omega | decide) (by first | assumption | omega (splitDisjunctions := false) | omega | decide) (by first | assumption | omega (splitDisjunctions := false) | omega | decide) (by first | assumption | omega (splitDisjunctions := false) | omega | decide) (by first | assumption | omega (splitDisjunctions := false) | omega | decide) (by first | assumption | omega (splitDisjunctions := false) | omega | decide) (fun _ j h0 h1 => absurd h1 (by omega)) (by rw [zl0, show al.toInt - 0 = al.toInt by omega, tn_0 (by omega)]) (Nat.lt_succ_self _)
