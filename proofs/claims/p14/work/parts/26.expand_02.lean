theorem d_Expander_readSymbols_0 : decode prog_3_method_9_code 0 = .ok (.iconst 0, 1) := by decide +kernel
theorem d_Expander_readSymbols_1 : decode prog_3_method_9_code 1 = .ok (.istore_n 3, 1) := by decide +kernel
theorem d_Expander_readSymbols_2 : decode prog_3_method_9_code 2 = .ok (.aload_n 0, 1) := by decide +kernel
theorem d_Expander_readSymbols_3 : decode prog_3_method_9_code 3 = .ok (.getfield 62, 3) := by decide +kernel
theorem d_Expander_readSymbols_6 : decode prog_3_method_9_code 6 = .ok (.aload_n 0, 1) := by decide +kernel
theorem d_Expander_readSymbols_7 : decode prog_3_method_9_code 7 = .ok (.getfield 58, 3) := by decide +kernel
theorem d_Expander_readSymbols_10 : decode prog_3_method_9_code 10 = .ok (.isub, 1) := by decide +kernel
theorem d_Expander_readSymbols_11 : decode prog_3_method_9_code 11 = .ok (.istore 4, 2) := by decide +kernel
theorem d_Expander_readSymbols_13 : decode prog_3_method_9_code 13 = .ok (.iload 4, 2) := by decide +kernel
theorem d_Expander_readSymbols_15 : decode prog_3_method_9_code 15 = .ok (.ifCond .lt 68, 3) := by decide +kernel
theorem d_Expander_readSymbols_83 : decode prog_3_method_9_code 83 = .ok (.return_, 1) := by decide +kernel
theorem d_Expander_readSymbols_18 : decode prog_3_method_9_code 18 = .ok (.iload_n 3, 1) := by decide +kernel
theorem d_Expander_readSymbols_19 : decode prog_3_method_9_code 19 = .ok (.ifCond .ne 64, 3) := by decide +kernel
theorem d_Expander_readSymbols_22 : decode prog_3_method_9_code 22 = .ok (.aload_n 0, 1) := by decide +kernel
theorem d_Expander_readSymbols_23 : decode prog_3_method_9_code 23 = .ok (.getfield 65, 3) := by decide +kernel
theorem d_Expander_readSymbols_26 : decode prog_3_method_9_code 26 = .ok (.ifCond .ne 57, 3) := by decide +kernel
theorem d_Expander_readSymbols_29 : decode prog_3_method_9_code 29 = .ok (.aload_n 0, 1) := by decide +kernel
theorem d_Expander_readSymbols_30 : decode prog_3_method_9_code 30 = .ok (.aload_n 1, 1) := by decide +kernel
theorem d_Expander_readSymbols_31 : decode prog_3_method_9_code 31 = .ok (.invokevirtual 106, 3) := by decide +kernel
theorem d_Expander_readSymbols_34 : decode prog_3_method_9_code 34 = .ok (.istore 5, 2) := by decide +kernel
theorem d_Expander_readSymbols_36 : decode prog_3_method_9_code 36 = .ok (.iload 5, 2) := by decide +kernel
theorem d_Expander_readSymbols_38 : decode prog_3_method_9_code 38 = .ok (.sipush 256, 3) := by decide +kernel
theorem d_Expander_readSymbols_41 : decode prog_3_method_9_code 41 = .ok (.if_icmp .ge 12, 3) := by decide +kernel
theorem d_Expander_readSymbols_53 : decode prog_3_method_9_code 53 = .ok (.iload 5, 2) := by decide +kernel
theorem d_Expander_readSymbols_55 : decode prog_3_method_9_code 55 = .ok (.sipush 256, 3) := by decide +kernel
theorem d_Expander_readSymbols_58 : decode prog_3_method_9_code 58 = .ok (.if_icmp .ne 8, 3) := by decide +kernel
theorem d_Expander_readSymbols_66 : decode prog_3_method_9_code 66 = .ok (.aload_n 0, 1) := by decide +kernel
theorem d_Expander_readSymbols_67 : decode prog_3_method_9_code 67 = .ok (.iload 5, 2) := by decide +kernel
theorem d_Expander_readSymbols_69 : decode prog_3_method_9_code 69 = .ok (.sipush 257, 3) := by decide +kernel
theorem d_Expander_readSymbols_72 : decode prog_3_method_9_code 72 = .ok (.isub, 1) := by decide +kernel
theorem d_Expander_readSymbols_73 : decode prog_3_method_9_code 73 = .ok (.aload_n 2, 1) := by decide +kernel
theorem d_Expander_readSymbols_74 : decode prog_3_method_9_code 74 = .ok (.invokevirtual 116, 3) := by decide +kernel
theorem k_657 : (Jvm.Cond.methodLink "PackageBook$Expander" (116 : Nat) ({ cls := "PackageBook$Expander", name := "repeat", desc := "(ILPackageBook$Code;)V" } : Jvm.MethodName)) ∈ uW := uW_of 657 (by decide +kernel) (by decide +kernel)
theorem k_660 : (Jvm.Cond.code ({ cls := "PackageBook$Expander", name := "repeat", desc := "(ILPackageBook$Code;)V" } : Jvm.MethodName) prog_3_method_10_code (7 : Nat) (Option.none : Option Jvm.ClassFile.FieldType)) ∈ uW := uW_of 660 (by decide +kernel) (by decide +kernel)
theorem k_659 : (Jvm.Cond.instanceMethod ({ cls := "PackageBook$Expander", name := "repeat", desc := "(ILPackageBook$Code;)V" } : Jvm.MethodName)) ∈ uW := uW_of 659 (by decide +kernel) (by decide +kernel)
theorem k_23 : Cond.selects "PackageBook$Expander" ⟨"PackageBook$Expander", "repeat", "(ILPackageBook$Code;)V"⟩ ⟨"PackageBook$Expander", "repeat", "(ILPackageBook$Code;)V"⟩ ∈ uW := uW_of 23 (by decide +kernel) (by decide +kernel)
theorem hy_Expander_repeat : (y_Expander_repeat).cls ≠ "java/lang/invoke/MethodHandle" ∧ (y_Expander_repeat).cls ≠ "java/lang/invoke/VarHandle" ∧ (parseMethodDescriptor (y_Expander_repeat).desc).map (fun d => d.parameters.length) = some 2 := by decide +kernel
theorem d_Expander_readSymbols_77 : decode prog_3_method_9_code 77 = .ok (.iinc 4 (-1), 3) := by decide +kernel
theorem d_Expander_readSymbols_80 : decode prog_3_method_9_code 80 = .ok (.goto (-67), 3) := by decide +kernel
theorem d_Expander_readSymbols_61 : decode prog_3_method_9_code 61 = .ok (.iconst 1, 1) := by decide +kernel
theorem d_Expander_readSymbols_62 : decode prog_3_method_9_code 62 = .ok (.istore_n 3, 1) := by decide +kernel
theorem d_Expander_readSymbols_63 : decode prog_3_method_9_code 63 = .ok (.goto 14, 3) := by decide +kernel
theorem d_Expander_readSymbols_44 : decode prog_3_method_9_code 44 = .ok (.aload_n 0, 1) := by decide +kernel
theorem d_Expander_readSymbols_45 : decode prog_3_method_9_code 45 = .ok (.iload 5, 2) := by decide +kernel
theorem d_Expander_readSymbols_47 : decode prog_3_method_9_code 47 = .ok (.invokevirtual 89, 3) := by decide +kernel
theorem d_Expander_readSymbols_50 : decode prog_3_method_9_code 50 = .ok (.goto 27, 3) := by decide +kernel
abbrev y_Expander_readSymbols : MethodName := ⟨"PackageBook$Expander", "readSymbols", "(LPackageBook$Code;LPackageBook$Code;)V"⟩
abbrev i_Expander_readSymbols : pb_I := (y_Expander_readSymbols, prog_3_method_9_code, 6, (Option.none : Option Jvm.ClassFile.FieldType), [], { frames := 2, cells := 0, slots := 0, locals := 52 })
set_option maxRecDepth 100000 in
set_option maxHeartbeats 4000000 in
theorem g_Exp_readSymbols {l : Launch} (hl : l.stackTraces = false) (G : pb_G) (h : Nat) (ex : Nat) (et : Nat) (ea : Nat) (eb : Nat) (ec : Nat) (ed : Nat) (ef : Nat) (er : Nat) (at_ : Int32) (en : Int32) (fl : Int32) (N : Nat) (fr : Nat → Int32) (ey : Nat) (xf : Nat → Int32) (xs : Int32) (kh : Nat) (kc : Nat) (ky : Nat) (Nk : Nat) (ks : Int32) (kfc : Nat → Int32) (kfy : Nat → Int32) (oh : Nat) (oc : Nat) (oy : Nat) (No : Nat) (os : Int32) (ofc : Nat → Int32) (ofy : Nat → Int32) (a0 : 0 ≤ at_.toInt) (a1 : at_.toInt ≤ en.toInt) (a2 : en.toInt ≤ 8 * N) (a3 : N ≤ 100000) (a4 : 0 ≤ fl.toInt) (b0 : 0 ≤ xs.toInt) (b1 : xs.toInt ≤ 4000) (hcok : co_I ks.toInt kfc kfy 288) (hnk : ks.toInt ≤ Nk) (hmk : Nk ≤ 100000) (hcoo : co_I os.toInt ofc ofy 32) (hno : os.toInt ≤ No) (hmo : No ≤ 100000) (F_fr : sb_Fit fr) (F_xf : sb_Fit xf) : Cn l G i_Expander_readSymbols [.ref h, .ref kh, .ref oh] [(h, .inr (5, [.ref ex, .ref et, .ref ea, .ref eb, .ref ec, .ref ed, .ref ef, .ref er, .int at_, .int en, .int fl])), (er, .inl (G.2.1, N, .inl fr)), (ex, .inr (0, [.ref ey, .int xs])), (ey, .inl (G.2.1, 4000, .inl xf)), (kh, .inr (1, [.ref kc, .ref ky, .int ks])), (kc, .inl (G.2.2.1, 16, .inl kfc)), (ky, .inl (G.2.2.1, Nk, .inl kfy)), (oh, .inr (1, [.ref oc, .ref oy, .int os])), (oc, .inl (G.2.2.1, 16, .inl ofc)), (oy, .inl (G.2.2.1, No, .inl ofy))] (S := Int32 × Int32 × Int32 × (Nat → Int32)) (fun rv_ u => rv_ = none ∧ (at_.toInt ≤ u.1.toInt) ∧ (u.1.toInt ≤ en.toInt) ∧ (0 ≤ u.2.1.toInt) ∧ (fl.toInt ≠ 0 → u.2.1.toInt ≠ 0) ∧ (0 ≤ u.2.2.1.toInt) ∧ (u.2.2.1.toInt ≤ 4000) ∧ (sb_Fit u.2.2.2)) (fun u => [(h, .inr (5, [.ref ex, .ref et, .ref ea, .ref eb, .ref ec, .ref ed, .ref ef, .ref er, .int u.1, .int en, .int u.2.1])), (er, .inl (G.2.1, N, .inl fr)), (ex, .inr (0, [.ref ey, .int u.2.2.1])), (ey, .inl (G.2.1, 4000, .inl u.2.2.2)), (kh, .inr (1, [.ref kc, .ref ky, .int ks])), (kc, .inl (G.2.2.1, 16, .inl kfc)), (ky, .inl (G.2.2.1, Nk, .inl kfy)), (oh, .inr (1, [.ref oc, .ref oy, .int os])), (oc, .inl (G.2.2.1, 16, .inl ofc)), (oy, .inl (G.2.2.1, No, .inl ofy))]) := by
  refine Cn.of hl (by decide +kernel) rfl (Nat.le_of_ble_eq_true rfl) (fun M hQ => ?_)
  refine pb_eq (pc' := 0) (lo' := [(0, .ref h), (1, .ref kh), (2, .ref oh)]) (rest' := []) (ws' := [(h, .inr (5, [.ref ex, .ref et, .ref ea, .ref eb, .ref ec, .ref ed, .ref ef, .ref er, .int at_, .int en, .int fl])), (er, .inl (G.2.1, N, .inl fr)), (ex, .inr (0, [.ref ey, .int xs])), (ey, .inl (G.2.1, 4000, .inl xf)), (kh, .inr (1, [.ref kc, .ref ky, .int ks])), (kc, .inl (G.2.2.1, 16, .inl kfc)), (ky, .inl (G.2.2.1, Nk, .inl kfy)), (oh, .inr (1, [.ref oc, .ref oy, .int os])), (oc, .inl (G.2.2.1, 16, .inl ofc)), (oy, .inl (G.2.2.1, No, .inl ofy))]) ?_
  have zl0 : (0 : Int32).toInt = 0 := by decide
  have zl1 : (1 : Int32).toInt = 1 := by decide
  refine pb_iconst (pc := 0) (v := 0) d_Expander_readSymbols_0 (by decide) ?_
  refine pb_istore_n (pc := 1) (lo' := [(3, .int 0), (0, .ref h), (1, .ref kh), (2, .ref oh)]) d_Expander_readSymbols_1 rfl (by decide) rfl ?_
  refine pb_aload_n (pc := 2) d_Expander_readSymbols_2 1 rfl rfl ?_
  refine pb_get (pc := 3) d_Expander_readSymbols_3 0 9 rfl rfl (by decide) in_Expander k_259 rfl ?_
  refine pb_aload_n (pc := 6) d_Expander_readSymbols_6 1 rfl rfl ?_
  refine pb_get (pc := 7) d_Expander_readSymbols_7 0 8 rfl rfl (by decide) in_Expander k_258 rfl ?_
  refine pb_isub (pc := 10) d_Expander_readSymbols_10 ?_
  refine pb_topi (fun i1 ei1 => ?_)
  try have ti1 : i1.toInt = en.toInt - at_.toInt := t2_sub ei1 rfl rfl (by omega)
  refine pb_istore (pc := 11) (lo' := [(4, .int i1), (3, .int 0), (0, .ref h), (1, .ref kh), (2, .ref oh)]) d_Expander_readSymbols_11 (by decide) rfl ?_
  have hL13_2 : ∀ (N9 : Nat) (e3 : Int32) (lf : Int32) (a4_ : Int32) (f4 : Int32) (s4 : Int32) (x4 : Nat → Int32), (sb_Fit x4) → (0 ≤ f4.toInt) → (fl.toInt ≠ 0 → f4.toInt ≠ 0) → (at_.toInt ≤ a4_.toInt) → (a4_.toInt ≤ en.toInt) → (0 ≤ s4.toInt) → (s4.toInt ≤ 4000) → (lf.toInt ≤ 1000000) → ((lf.toInt + 1).toNat) < N9 → pb_P l G M i_Expander_readSymbols 13 [(3, .int e3), (4, .int lf), (0, .ref h), (1, .ref kh), (2, .ref oh)] [] [(h, .inr (5, [.ref ex, .ref et, .ref ea, .ref eb, .ref ec, .ref ed, .ref ef, .ref er, .int a4_, .int en, .int f4])), (er, .inl (G.2.1, N, .inl fr)), (ex, .inr (0, [.ref ey, .int s4])), (ey, .inl (G.2.1, 4000, .inl x4)), (kh, .inr (1, [.ref kc, .ref ky, .int ks])), (kc, .inl (G.2.2.1, 16, .inl kfc)), (ky, .inl (G.2.2.1, Nk, .inl kfy)), (oh, .inr (1, [.ref oc, .ref oy, .int os])), (oc, .inl (G.2.2.1, 16, .inl ofc)), (oy, .inl (G.2.2.1, No, .inl ofy))] 0 0 := by
    intro N9
    induction N9 with
    | zero => intro e3 lf a4_ f4 s4 x4 F_x4 k1 k2 k3 k4 k5 k6 k7 hm9; exact absurd hm9 (Nat.not_lt_zero _)
    | succ N9 ih13 =>
      intro e3 lf a4_ f4 s4 x4 F_x4 k1 k2 k3 k4 k5 k6 k7 hm9
      refine pb_iload (pc := 13) d_Expander_readSymbols_13 1 rfl ?_
      refine pb_if_lt (pc := 15) (tgt := 83) d_Expander_readSymbols_15 (by decide) (fun w3 => ?_) (fun w3 => ?_)
      · have tw3 : lf.toInt < 0 := (ti_lt rfl (by decide)).mp w3
        exact pb_vret (pc := 83) hQ d_Expander_readSymbols_83 rfl (a4_, f4, s4, x4) ⟨rfl, (by (try dsimp only); first | done | assumption | omega (splitDisjunctions := false) | omega | decide), (by (try dsimp only); first | done | assumption | omega (splitDisjunctions := false) | omega | decide), (by (try dsimp only); first | done | assumption | omega (splitDisjunctions := false) | omega | decide), (by (try dsimp only); first | done | assumption | omega (splitDisjunctions := false) | omega | decide), (by (try dsimp only); first | done | assumption | omega (splitDisjunctions := false) | omega | decide), (by (try dsimp only); first | done | assumption | omega (splitDisjunctions := false) | omega | decide), F_x4⟩ [0, 1, 2, 3, 4, 5, 6, 7, 8, 9] (by decide) rfl rfl (by decide) (by decide)
      · have tw3 : ¬ lf.toInt < 0 := fun z9 => w3 ((ti_lt rfl (by decide)).mpr z9)
        refine pb_iload_n (pc := 18) d_Expander_readSymbols_18 0 rfl rfl ?_
        refine pb_if_ne (pc := 19) (tgt := 83) d_Expander_readSymbols_19 (by decide) (fun w4 => ?_) (fun w4 => ?_)
        · have tw4 : ¬ e3.toInt = 0 := fun z9 => w4 ((ti_eq rfl (by decide)).mpr z9)
          exact pb_vret (pc := 83) hQ d_Expander_readSymbols_83 rfl (a4_, f4, s4, x4) ⟨rfl, (by (try dsimp only); first | done | assumption | omega (splitDisjunctions := false) | omega | decide), (by (try dsimp only); first | done | assumption | omega (splitDisjunctions := false) | omega | decide), (by (try dsimp only); first | done | assumption | omega (splitDisjunctions := false) | omega | decide), (by (try dsimp only); first | done | assumption | omega (splitDisjunctions := false) | omega | decide), (by (try dsimp only); first | done | assumption | omega (splitDisjunctions := false) | omega | decide), (by (try dsimp only); first | done | assumption | omega (splitDisjunctions := false) | omega | decide), F_x4⟩ [0, 1, 2, 3, 4, 5, 6, 7, 8, 9] (by decide) rfl rfl (by decide) (by decide)
        · have tw4 : e3.toInt = 0 := (ti_eq rfl (by decide)).mp w4
          refine pb_aload_n (pc := 22) d_Expander_readSymbols_22 2 rfl rfl ?_
          refine pb_get (pc := 23) d_Expander_readSymbols_23 0 10 rfl rfl (by decide) in_Expander k_260 rfl ?_
          refine pb_if_ne (pc := 26) (tgt := 83) d_Expander_readSymbols_26 (by decide) (fun w5 => ?_) (fun w5 => ?_)
          · have tw5 : ¬ f4.toInt = 0 := fun z9 => w5 ((ti_eq rfl (by decide)).mpr z9)
            exact pb_vret (pc := 83) hQ d_Expander_readSymbols_83 rfl (a4_, f4, s4, x4) ⟨rfl, (by (try dsimp only); first | done | assumption | omega (splitDisjunctions := false) | omega | decide), (by (try dsimp only); first | done | assumption | omega (splitDisjunctions := false) | omega | decide), (by (try dsimp only); first | done | assumption | omega (splitDisjunctions := false) | omega | decide), (by (try dsimp only); first | done | assumption | omega (splitDisjunctions := false) | omega | decide), (by (try dsimp only); first | done | assumption | omega (splitDisjunctions := false) | omega | decide), (by (try dsimp only); first | done | assumption | omega (splitDisjunctions := false) | omega | decide), F_x4⟩ [0, 1, 2, 3, 4, 5, 6, 7, 8, 9] (by decide) rfl rfl (by decide) (by decide)
          · have tw5 : f4.toInt = 0 := (ti_eq rfl (by decide)).mp w5
            refine pb_aload_n (pc := 29) d_Expander_readSymbols_29 2 rfl rfl ?_
            refine pb_aload_n (pc := 30) d_Expander_readSymbols_30 3 rfl rfl ?_
            refine pb_callV (pc := 31) (I := i_Expander_readSymbols) (qb := 0) (ci := 5) (nA := 1) (rest := []) (wr := [(ex, .inr (0, [.ref ey, .int s4])), (ey, .inl (G.2.1, 4000, .inl x4)), (oh, .inr (1, [.ref oc, .ref oy, .int os])), (oc, .inl (G.2.2.1, 16, .inl ofc)), (oy, .inl (G.2.2.1, No, .inl ofy))]) d_Expander_readSymbols_31 (g_Exp_symbol hl G h ex et ea eb ec ed ef er a4_ en f4 N fr kh kc ky Nk ks kfc kfy 288 (by first | assumption | omega (splitDisjunctions := false) | omega | decide) (by first | assumption | omega (splitDisjunctions := false) | omega | decide) (by first | assumption | omega (splitDisjunctions := false) | omega | decide) (by first | assumption | omega (splitDisjunctions := false) | omega | decide) (by first | assumption | omega (splitDisjunctions := false) | omega | decide) (by first | assumption | decide | omega) (by first | assumption | omega (splitDisjunctions := false) | omega | decide) (by first | assumption | omega (splitDisjunctions := false) | omega | decide) (by first | assumption | omega (splitDisjunctions := false) | omega | decide) F_fr) rfl rfl [0, 1, 4, 5, 6] [2, 3, 7, 8, 9] (by decide) rfl rfl rfl (by decide) (by decide) k_656 rfl k_121 k_653 k_655 k_22 ⟨rfl, hy_Expander_symbol⟩ (by decide) rfl rfl (Nat.le_of_ble_eq_true rfl) (by decide) (fun v9 u7 ch6 => ?_)
            obtain ⟨r_8, a2__9, f2__10⟩ := u7
            obtain ⟨ech6, ch6⟩ := ch6
            have ech6 : v9 = some (.int r_8) := ech6
            subst ech6
            obtain ⟨fh11, fh12, fh13, fh14, fh15, fh16⟩ : (0 ≤ r_8.toInt) ∧ (r_8.toInt < 288) ∧ (a4_.toInt ≤ a2__9.toInt) ∧ (a2__9.toInt ≤ en.toInt) ∧ (0 ≤ f2__10.toInt) ∧ (f4.toInt ≠ 0 → f2__10.toInt ≠ 0) := ch6
            refine pb_eq (pc' := 34) (lo' := [(3, .int e3), (4, .int lf), (0, .ref h), (1, .ref kh), (2, .ref oh)]) (rest' := [.int r_8]) (ws' := [(ex, .inr (0, [.ref ey, .int s4])), (ey, .inl (G.2.1, 4000, .inl x4)), (oh, .inr (1, [.ref oc, .ref oy, .int os])), (oc, .inl (G.2.2.1, 16, .inl ofc)), (oy, .inl (G.2.2.1, No, .inl ofy)), (h, .inr (5, [.ref ex, .ref et, .ref ea, .ref eb, .ref ec, .ref ed, .ref ef, .ref er, .int a2__9, .int en, .int f2__10])), (er, .inl (G.2.1, N, .inl fr)), (kh, .inr (1, [.ref kc, .ref ky, .int ks])), (kc, .inl (G.2.2.1, 16, .inl kfc)), (ky, .inl (G.2.2.1, Nk, .inl kfy))]) ?_
            refine pb_istore (pc := 34) (lo' := [(5, .int r_8), (3, .int e3), (4, .int lf), (0, .ref h), (1, .ref kh), (2, .ref oh)]) d_Expander_readSymbols_34 (by decide) rfl ?_
            refine pb_iload (pc := 36) d_Expander_readSymbols_36 0 rfl ?_
            refine pb_sipush (pc := 38) (v := 256) d_Expander_readSymbols_38 (by decide) ?_
            refine pb_icmp_ge (pc := 41) (tgt := 53) d_Expander_readSymbols_41 (by decide) (fun w17 => ?_) (fun w17 => ?_)
            · have tw17 : 256 ≤ r_8.toInt := (ti_le (by decide) rfl).mp w17
              refine pb_iload (pc := 53) d_Expander_readSymbols_53 0 rfl ?_
              refine pb_sipush (pc := 55) (v := 256) d_Expander_readSymbols_55 (by decide) ?_
              refine pb_icmp_ne (pc := 58) (tgt := 66) d_Expander_readSymbols_58 (by decide) (fun w18 => ?_) (fun w18 => ?_)
              · have tw18 : ¬ r_8.toInt = 256 := fun z9 => w18 ((ti_eq rfl (by decide)).mpr z9)
                refine pb_aload_n (pc := 66) d_Expander_readSymbols_66 3 rfl rfl ?_
                refine pb_iload (pc := 67) d_Expander_readSymbols_67 0 rfl ?_
                refine pb_sipush (pc := 69) (v := 257) d_Expander_readSymbols_69 (by decide) ?_
                refine pb_isub (pc := 72) d_Expander_readSymbols_72 ?_
                refine pb_topi (fun i19 ei19 => ?_)
                try have ti19 : i19.toInt = r_8.toInt - 257 := t2_sub ei19 rfl (by decide) (by omega)
                refine pb_aload_n (pc := 73) d_Expander_readSymbols_73 5 rfl rfl ?_
                refine pb_callV (pc := 74) (I := i_Expander_readSymbols) (qb := 5) (ci := 5) (nA := 2) (rest := []) (wr := [(kh, .inr (1, [.ref kc, .ref ky, .int ks])), (kc, .inl (G.2.2.1, 16, .inl kfc)), (ky, .inl (G.2.2.1, Nk, .inl kfy))]) d_Expander_readSymbols_74 (g_Exp_repeat hl G h ex et ea eb ec ed ef er a2__9 en f2__10 N fr ey x4 s4 oh oc oy No os ofc ofy 32 i19 (by first | assumption | omega (splitDisjunctions := false) | omega | decide) (by first | assumption | omega (splitDisjunctions := false) | omega | decide) (by first | assumption | omega (splitDisjunctions := false) | omega | decide) (by first | assumption | omega (splitDisjunctions := false) | omega | decide) (by first | assumption | omega (splitDisjunctions := false) | omega | decide) (by first | assumption | omega (splitDisjunctions := false) | omega | decide) (by first | assumption | omega (splitDisjunctions := false) | omega | decide) (by first | assumption | decide | omega) (by first | assumption | omega (splitDisjunctions := false) | omega | decide) (by first | assumption | omega (splitDisjunctions := false) | omega | decide) (by first | assumption | omega (splitDisjunctions := false) | omega | decide) (by first | assumption | omega (splitDisjunctions := false) | omega | decide) F_fr F_x4) rfl rfl [5, 6, 0, 1, 2, 3, 4] [7, 8, 9] (by decide) rfl rfl rfl (by decide) (by decide) k_660 rfl k_121 k_657 k_659 k_23 ⟨rfl, hy_Expander_repeat⟩ (by decide) rfl rfl (Nat.le_of_ble_eq_true rfl) (by decide) (fun v9 u21 ch20 => ?_)
                obtain ⟨a2__22, f2__23, s2__24, xf_25⟩ := u21
                obtain ⟨ech20, ch20⟩ := ch20
                have ech20 : v9 = none := ech20
                subst ech20
                obtain ⟨fh26, fh27, fh28, fh29, fh30, fh31, fh32⟩ : (a2__9.toInt ≤ a2__22.toInt) ∧ (a2__22.toInt ≤ en.toInt) ∧ (0 ≤ f2__23.toInt) ∧ (f2__10.toInt ≠ 0 → f2__23.toInt ≠ 0) ∧ (0 ≤ s2__24.toInt) ∧ (s2__24.toInt ≤ 4000) ∧ (sb_Fit xf_25) := ch20
                refine pb_eq (pc' := 77) (lo' := [(5, .int r_8), (3, .int e3), (4, .int lf), (0, .ref h), (1, .ref kh), (2, .ref oh)]) (rest' := []) (ws' := [(kh, .inr (1, [.ref kc, .ref ky, .int ks])), (kc, .inl (G.2.2.1, 16, .inl kfc)), (ky, .inl (G.2.2.1, Nk, .inl kfy)), (h, .inr (5, [.ref ex, .ref et, .ref ea, .ref eb, .ref ec, .ref ed, .ref ef, .ref er, .int a2__22, .int en, .int f2__23])), (er, .inl (G.2.1, N, .inl fr)), (ex, .inr (0, [.ref ey, .int s2__24])), (ey, .inl (G.2.1, 4000, .inl xf_25)), (oh, .inr (1, [.ref oc, .ref oy, .int os])), (oc, .inl (G.2.2.1, 16, .inl ofc)), (oy, .inl (G.2.2.1, No, .inl ofy))]) ?_
                refine pb_iincN (pc := 77) (c := (-1)) d_Expander_readSymbols_77 2 rfl (by decide) (by decide) (fun i33 ei33 => ?_)
                have ti33 : i33.toInt = lf.toInt + (-1) := t2_add ei33 rfl (by decide) (by omega)
                refine pb_eq (pc' := 80) (lo' := [(4, .int i33), (5, .int r_8), (3, .int e3), (0, .ref h), (1, .ref kh), (2, .ref oh)]) (rest' := []) (ws' := [(kh, .inr (1, [.ref kc, .ref ky, .int ks])), (kc, .inl (G.2.2.1, 16, .inl kfc)), (ky, .inl (G.2.2.1, Nk, .inl kfy)), (h, .inr (5, [.ref ex, .ref et, .ref ea, .ref eb, .ref ec, .ref ed, .ref ef, .ref er, .int a2__22, .int en, .int f2__23])), (er, .inl (G.2.1, N, .inl fr)), (ex, .inr (0, [.ref ey, .int s2__24])), (ey, .inl (G.2.1, 4000, .inl xf_25)), (oh, .inr (1, [.ref oc, .ref oy, .int os])), (oc, .inl (G.2.2.1, 16, .inl ofc)), (oy, .inl (G.2.2.1, No, .inl ofy))]) ?_
                refine pb_goto (pc := 80) (tgt := 13) d_Expander_readSymbols_80 (by decide) ?_
                refine pb_re (ws' := [(h, .inr (5, [.ref ex, .ref et, .ref ea, .ref eb, .ref ec, .ref ed, .ref ef, .ref er, .int a2__22, .int en, .int f2__23])), (er, .inl (G.2.1, N, .inl fr)), (ex, .inr (0, [.ref ey, .int s2__24])), (ey, .inl (G.2.1, 4000, .inl xf_25)), (kh, .inr (1, [.ref kc, .ref ky, .int ks])), (kc, .inl (G.2.2.1, 16, .inl kfc)), (ky, .inl (G.2.2.1, Nk, .inl kfy)), (oh, .inr (1, [.ref oc, .ref oy, .int os])), (oc, .inl (G.2.2.1, 16, .inl ofc)), (oy, .inl (G.2.2.1, No, .inl ofy))]) (lo' := [(3, .int e3), (4, .int i33), (0, .ref h), (1, .ref kh), (2, .ref oh)]) [3, 4, 5, 6, 0, 1, 2, 7, 8, 9] [2, 0, 3, 4, 5] (by decide) rfl rfl rfl ?_
                exact ih13 e3 i33 a2__22 f2__23 s2__24 xf_25 fh32 (by first | assumption | omega (splitDisjunctions := false) | omega | decide) (by first | assumption | omega (splitDisjunctions := false) | omega | decide) (by first | assumption | omega (splitDisjunctions := false) | omega | decide) (by first | assumption | omega (splitDisjunctions := false) | omega | decide) (by first | assumption | omega (splitDisjunctions := false) | omega | decide) (by first | assumption | omega (splitDisjunctions := false) | omega | decide) (by first | assumption | omega (splitDisjunctions := false) | omega | decide) (by omega)
              · have tw18 : r_8.toInt = 256 := (ti_eq rfl (by decide)).mp w18
                refine pb_iconst (pc := 61) (v := 1) d_Expander_readSymbols_61 (by decide) ?_
                refine pb_istore_n (pc := 62) (lo' := [(3, .int 1), (5, .int r_8), (4, .int lf), (0, .ref h), (1, .ref kh), (2, .ref oh)]) d_Expander_readSymbols_62 rfl (by decide) rfl ?_
                refine pb_goto (pc := 63) (tgt := 77) d_Expander_readSymbols_63 (by decide) ?_
                refine pb_iincN (pc := 77) (c := (-1)) d_Expander_readSymbols_77 2 rfl (by decide) (by decide) (fun i34 ei34 => ?_)
                have ti34 : i34.toInt = lf.toInt + (-1) := t2_add ei34 rfl (by decide) (by omega)
                refine pb_eq (pc' := 80) (lo' := [(4, .int i34), (3, .int 1), (5, .int r_8), (0, .ref h), (1, .ref kh), (2, .ref oh)]) (rest' := []) (ws' := [(ex, .inr (0, [.ref ey, .int s4])), (ey, .inl (G.2.1, 4000, .inl x4)), (oh, .inr (1, [.ref oc, .ref oy, .int os])), (oc, .inl (G.2.2.1, 16, .inl ofc)), (oy, .inl (G.2.2.1, No, .inl ofy)), (h, .inr (5, [.ref ex, .ref et, .ref ea, .ref eb, .ref ec, .ref ed, .ref ef, .ref er, .int a2__9, .int en, .int f2__10])), (er, .inl (G.2.1, N, .inl fr)), (kh, .inr (1, [.ref kc, .ref ky, .int ks])), (kc, .inl (G.2.2.1, 16, .inl kfc)), (ky, .inl (G.2.2.1, Nk, .inl kfy))]) ?_
                refine pb_goto (pc := 80) (tgt := 13) d_Expander_readSymbols_80 (by decide) ?_
                refine pb_re (ws' := [(h, .inr (5, [.ref ex, .ref et, .ref ea, .ref eb, .ref ec, .ref ed, .ref ef, .ref er, .int a2__9, .int en, .int f2__10])), (er, .inl (G.2.1, N, .inl fr)), (ex, .inr (0, [.ref ey, .int s4])), (ey, .inl (G.2.1, 4000, .inl x4)), (kh, .inr (1, [.ref kc, .ref ky, .int ks])), (kc, .inl (G.2.2.1, 16, .inl kfc)), (ky, .inl (G.2.2.1, Nk, .inl kfy)), (oh, .inr (1, [.ref oc, .ref oy, .int os])), (oc, .inl (G.2.2.1, 16, .inl ofc)), (oy, .inl (G.2.2.1, No, .inl ofy))]) (lo' := [(3, .int 1), (4, .int i34), (0, .ref h), (1, .ref kh), (2, .ref oh)]) [5, 6, 0, 1, 7, 8, 9, 2, 3, 4] [1, 0, 3, 4, 5] (by decide) rfl rfl rfl ?_
                exact ih13 1 i34 a2__9 f2__10 s4 x4 F_x4 (by first | assumption | omega (splitDisjunctions := false) | omega | decide) (by first | assumption | omega (splitDisjunctions := false) | omega | decide) (by first | assumption | omega (splitDisjunctions := false) | omega | decide) (by first | assumption | omega (splitDisjunctions := false) | omega | decide) (by first | assumption | omega (splitDisjunctions := false) | omega | decide) (by first | assumption | omega (splitDisjunctions := false) | omega | decide) (by first | assumption | omega (splitDisjunctions := false) | omega | decide) (by omega)
            · have tw17 : ¬ 256 ≤ r_8.toInt := fun z9 => w17 ((ti_le (by decide) rfl).mpr z9)
              refine pb_aload_n (pc := 44) d_Expander_readSymbols_44 3 rfl rfl ?_
              refine pb_iload (pc := 45) d_Expander_readSymbols_45 0 rfl ?_
              refine pb_callV (pc := 47) (I := i_Expander_readSymbols) (qb := 5) (ci := 5) (nA := 1) (rest := []) (wr := [(oh, .inr (1, [.ref oc, .ref oy, .int os])), (oc, .inl (G.2.2.1, 16, .inl ofc)), (oy, .inl (G.2.2.1, No, .inl ofy)), (er, .inl (G.2.1, N, .inl fr)), (kh, .inr (1, [.ref kc, .ref ky, .int ks])), (kc, .inl (G.2.2.1, 16, .inl kfc)), (ky, .inl (G.2.2.1, Nk, .inl kfy))]) d_Expander_readSymbols_47 (g_Exp_putByte hl G h ex et ea eb ec ed ef er a2__9 en f2__10 ey x4 s4 r_8 (by first | assumption | omega (splitDisjunctions := false) | omega | decide) (by first | assumption | omega (splitDisjunctions := false) | omega | decide) (by first | assumption | omega (splitDisjunctions := false) | omega | decide) F_x4) rfl rfl [5, 0, 1] [2, 3, 4, 6, 7, 8, 9] (by decide) rfl rfl rfl (by decide) (by decide) k_647 rfl k_121 k_644 k_646 k_20 ⟨rfl, hy_Expander_putByte⟩ (by decide) rfl rfl (Nat.le_of_ble_eq_true rfl) (by decide) (fun v9 u36 ch35 => ?_)
              obtain ⟨f2__37, s2__38, xf_39⟩ := u36
              obtain ⟨ech35, ch35⟩ := ch35
              have ech35 : v9 = none := ech35
              subst ech35
              obtain ⟨fh40, fh41, fh42, fh43, fh44⟩ : (0 ≤ f2__37.toInt) ∧ (f2__10.toInt ≠ 0 → f2__37.toInt ≠ 0) ∧ (0 ≤ s2__38.toInt) ∧ (s2__38.toInt ≤ 4000) ∧ (sb_Fit xf_39) := ch35
              refine pb_eq (pc' := 50) (lo' := [(5, .int r_8), (3, .int e3), (4, .int lf), (0, .ref h), (1, .ref kh), (2, .ref oh)]) (rest' := []) (ws' := [(oh, .inr (1, [.ref oc, .ref oy, .int os])), (oc, .inl (G.2.2.1, 16, .inl ofc)), (oy, .inl (G.2.2.1, No, .inl ofy)), (er, .inl (G.2.1, N, .inl fr)), (kh, .inr (1, [.ref kc, .ref ky, .int ks])), (kc, .inl (G.2.2.1, 16, .inl kfc)), (ky, .inl (G.2.2.1, Nk, .inl kfy)), (h, .inr (5, [.ref ex, .ref et, .ref ea, .ref eb, .ref ec, .ref ed, .ref ef, .ref er, .int a2__9, .int en, .int f2__37])), (ex, .inr (0, [.ref ey, .int s2__38])), (ey, .inl (G.2.1, 4000, .inl xf_39))]) ?_
              refine pb_goto (pc := 50) (tgt := 77) d_Expander_readSymbols_50 (by decide) ?_
              refine pb_iincN (pc := 77) (c := (-1)) d_Expander_readSymbols_77 2 rfl (by decide) (by decide) (fun i45 ei45 => ?_)
              have ti45 : i45.toInt = lf.toInt + (-1) := t2_add ei45 rfl (by decide) (by omega)
              refine pb_eq (pc' := 80) (lo' := [(4, .int i45), (5, .int r_8), (3, .int e3), (0, .ref h), (1, .ref kh), (2, .ref oh)]) (rest' := []) (ws' := [(oh, .inr (1, [.ref oc, .ref oy, .int os])), (oc, .inl (G.2.2.1, 16, .inl ofc)), (oy, .inl (G.2.2.1, No, .inl ofy)), (er, .inl (G.2.1, N, .inl fr)), (kh, .inr (1, [.ref kc, .ref ky, .int ks])), (kc, .inl (G.2.2.1, 16, .inl kfc)), (ky, .inl (G.2.2.1, Nk, .inl kfy)), (h, .inr (5, [.ref ex, .ref et, .ref ea, .ref eb, .ref ec, .ref ed, .ref ef, .ref er, .int a2__9, .int en, .int f2__37])), (ex, .inr (0, [.ref ey, .int s2__38])), (ey, .inl (G.2.1, 4000, .inl xf_39))]) ?_
              refine pb_goto (pc := 80) (tgt := 13) d_Expander_readSymbols_80 (by decide) ?_
              refine pb_re (ws' := [(h, .inr (5, [.ref ex, .ref et, .ref ea, .ref eb, .ref ec, .ref ed, .ref ef, .ref er, .int a2__9, .int en, .int f2__37])), (er, .inl (G.2.1, N, .inl fr)), (ex, .inr (0, [.ref ey, .int s2__38])), (ey, .inl (G.2.1, 4000, .inl xf_39)), (kh, .inr (1, [.ref kc, .ref ky, .int ks])), (kc, .inl (G.2.2.1, 16, .inl kfc)), (ky, .inl (G.2.2.1, Nk, .inl kfy)), (oh, .inr (1, [.ref oc, .ref oy, .int os])), (oc, .inl (G.2.2.1, 16, .inl ofc)), (oy, .inl (G.2.2.1, No, .inl ofy))]) (lo' := [(3, .int e3), (4, .int i45), (0, .ref h), (1, .ref kh), (2, .ref oh)]) [7, 3, 8, 9, 4, 5, 6, 0, 1, 2] [2, 0, 3, 4, 5] (by decide) rfl rfl rfl ?_
              exact ih13 e3 i45 a2__9 f2__37 s2__38 xf_39 fh44 (by first | assumption | omega (splitDisjunctions := false) | omega | decide) (by first | assumption | omega (splitDisjunctions := false) | omega | decide) (by first | assumption | omega (splitDisjunctions := false) | omega | decide) (by first | assumption | omega (splitDisjunctions := false) | omega | decide) (by first | assumption | omega (splitDisjunctions := false) | omega | decide) (by first | assumption | omega (splitDisjunctions := false) | omega | decide) (by first | assumption | omega (splitDisjunctions := false) | omega | decide) (by omega)
  refine pb_re (ws' := [(h, .inr (5, [.ref ex, .ref et, .ref ea, .ref eb, .ref ec, .ref ed, .ref ef, .ref er, .int at_, .int en, .int fl])), (er, .inl (G.2.1, N, .inl fr)), (ex, .inr (0, [.ref ey, .int xs])), (ey, .inl (G.2.1, 4000, .inl xf)), (kh, .inr (1, [.ref kc, .ref ky, .int ks])), (kc, .inl (G.2.2.1, 16, .inl kfc)), (ky, .inl (G.2.2.1, Nk, .inl kfy)), (oh, .inr (1, [.ref oc, .ref oy, .int os])), (oc, .inl (G.2.2.1, 16, .inl ofc)), (oy, .inl (G.2.2.1, No, .inl ofy))]) (lo' := [(3, .int 0), (4, .int i1), (0, .ref h), (1, .ref kh), (2, .ref oh)]) [0, 1, 2, 3, 4, 5, 6, 7, 8, 9] [1, 0, 2, 3, 4] (by decide) rfl rfl rfl ?_
  exact hL13_2 _ 0 i1 at_ fl xs xf F_xf (by first | assumption | omega (splitDisjunctions := false) | omega | decide) (by first | assumption | omega (splitDisjunctions := false) | omega | decide) (by first | assumption | omega (splitDisjunctions := false) | omega | decide) (by first | assumption | omega (splitDisjunctions := false) | omega | decide) (by first | assumption | omega (splitDisjunctions := false) | omega | decide) (by first | assumption | omega (splitDisjunctions := false) | omega | decide) (by first | assumption | omega (splitDisjunctions := false) | omega | decide) (Nat.lt_succ_self _)

theorem d_Expander_readTold_0 : decode prog_3_method_6_code 0 = .ok (.iconst 0, 1) := by decide +kernel
theorem d_Expander_readTold_1 : decode prog_3_method_6_code 1 = .ok (.istore_n 2, 1) := by decide +kernel
theorem d_Expander_readTold_2 : decode prog_3_method_6_code 2 = .ok (.iconst 0, 1) := by decide +kernel
theorem d_Expander_readTold_3 : decode prog_3_method_6_code 3 = .ok (.istore_n 3, 1) := by decide +kernel
theorem d_Expander_readTold_4 : decode prog_3_method_6_code 4 = .ok (.iload_n 3, 1) := by decide +kernel
theorem d_Expander_readTold_5 : decode prog_3_method_6_code 5 = .ok (.iload_n 1, 1) := by decide +kernel
theorem d_Expander_readTold_6 : decode prog_3_method_6_code 6 = .ok (.if_icmp .ge 140, 3) := by decide +kernel
theorem d_Expander_readTold_146 : decode prog_3_method_6_code 146 = .ok (.return_, 1) := by decide +kernel
theorem d_Expander_readTold_9 : decode prog_3_method_6_code 9 = .ok (.iload_n 2, 1) := by decide +kernel
theorem d_Expander_readTold_10 : decode prog_3_method_6_code 10 = .ok (.iload_n 1, 1) := by decide +kernel
theorem d_Expander_readTold_11 : decode prog_3_method_6_code 11 = .ok (.if_icmp .ge 135, 3) := by decide +kernel
theorem d_Expander_readTold_14 : decode prog_3_method_6_code 14 = .ok (.aload_n 0, 1) := by decide +kernel
theorem d_Expander_readTold_15 : decode prog_3_method_6_code 15 = .ok (.getfield 65, 3) := by decide +kernel
theorem d_Expander_readTold_18 : decode prog_3_method_6_code 18 = .ok (.ifCond .ne 128, 3) := by decide +kernel
theorem d_Expander_readTold_21 : decode prog_3_method_6_code 21 = .ok (.aload_n 0, 1) := by decide +kernel
theorem d_Expander_readTold_22 : decode prog_3_method_6_code 22 = .ok (.aload_n 0, 1) := by decide +kernel
theorem d_Expander_readTold_23 : decode prog_3_method_6_code 23 = .ok (.getfield 43, 3) := by decide +kernel
theorem k_256 : (Jvm.Cond.fieldLink "PackageBook$Expander" (43 : Nat) "PackageBook$Expander" "third" "LPackageBook$Code;") ∈ uW := uW_of 256 (by decide +kernel) (by decide +kernel)
theorem d_Expander_readTold_26 : decode prog_3_method_6_code 26 = .ok (.invokevirtual 106, 3) := by decide +kernel
theorem d_Expander_readTold_29 : decode prog_3_method_6_code 29 = .ok (.istore 4, 2) := by decide +kernel
theorem d_Expander_readTold_84 : decode prog_3_method_6_code 84 = .ok (.iload 4, 2) := by decide +kernel
theorem d_Expander_readTold_86 : decode prog_3_method_6_code 86 = .ok (.invokestatic 110, 3) := by decide +kernel
theorem k_686 : (Jvm.Cond.methodLink "PackageBook$Expander" (110 : Nat) ({ cls := "PackageBook$Expander", name := "leastTimes", desc := "(I)I" } : Jvm.MethodName)) ∈ uW := uW_of 686 (by decide +kernel) (by decide +kernel)
theorem k_688 : (Jvm.Cond.code ({ cls := "PackageBook$Expander", name := "leastTimes", desc := "(I)I" } : Jvm.MethodName) prog_3_method_7_code (1 : Nat) (Option.some Jvm.ClassFile.FieldType.int)) ∈ uW := uW_of 688 (by decide +kernel) (by decide +kernel)
theorem k_687 : (Jvm.Cond.static ({ cls := "PackageBook$Expander", name := "leastTimes", desc := "(I)I" } : Jvm.MethodName)) ∈ uW := uW_of 687 (by decide +kernel) (by decide +kernel)
theorem hy_Expander_leastTimes : (y_Expander_leastTimes).cls ≠ "java/lang/invoke/MethodHandle" ∧ (y_Expander_leastTimes).cls ≠ "java/lang/invoke/VarHandle" ∧ (parseMethodDescriptor (y_Expander_leastTimes).desc).map (fun d => d.parameters.length) = some 1 := by decide +kernel
theorem d_Expander_readTold_89 : decode prog_3_method_6_code 89 = .ok (.aload_n 0, 1) := by decide +kernel
theorem d_Expander_readTold_90 : decode prog_3_method_6_code 90 = .ok (.iload 4, 2) := by decide +kernel
theorem d_Expander_readTold_92 : decode prog_3_method_6_code 92 = .ok (.invokestatic 113, 3) := by decide +kernel
theorem k_689 : (Jvm.Cond.methodLink "PackageBook$Expander" (113 : Nat) ({ cls := "PackageBook$Expander", name := "bitsOfTimes", desc := "(I)I" } : Jvm.MethodName)) ∈ uW := uW_of 689 (by decide +kernel) (by decide +kernel)
theorem k_691 : (Jvm.Cond.code ({ cls := "PackageBook$Expander", name := "bitsOfTimes", desc := "(I)I" } : Jvm.MethodName) prog_3_method_8_code (1 : Nat) (Option.some Jvm.ClassFile.FieldType.int)) ∈ uW := uW_of 691 (by decide +kernel) (by decide +kernel)
theorem k_690 : (Jvm.Cond.static ({ cls := "PackageBook$Expander", name := "bitsOfTimes", desc := "(I)I" } : Jvm.MethodName)) ∈ uW := uW_of 690 (by decide +kernel) (by decide +kernel)
theorem hy_Expander_bitsOfTimes : (y_Expander_bitsOfTimes).cls ≠ "java/lang/invoke/MethodHandle" ∧ (y_Expander_bitsOfTimes).cls ≠ "java/lang/invoke/VarHandle" ∧ (parseMethodDescriptor (y_Expander_bitsOfTimes).desc).map (fun d => d.parameters.length) = some 1 := by decide +kernel
theorem d_Expander_readTold_95 : decode prog_3_method_6_code 95 = .ok (.invokevirtual 71, 3) := by decide +kernel
theorem d_Expander_readTold_98 : decode prog_3_method_6_code 98 = .ok (.iadd, 1) := by decide +kernel
theorem d_Expander_readTold_99 : decode prog_3_method_6_code 99 = .ok (.istore 6, 2) := by decide +kernel
theorem d_Expander_readTold_114 : decode prog_3_method_6_code 114 = .ok (.aload_n 0, 1) := by decide +kernel
theorem d_Expander_readTold_115 : decode prog_3_method_6_code 115 = .ok (.getfield 65, 3) := by decide +kernel
theorem d_Expander_readTold_118 : decode prog_3_method_6_code 118 = .ok (.ifCond .ne 22, 3) := by decide +kernel
theorem d_Expander_readTold_140 : decode prog_3_method_6_code 140 = .ok (.iinc 3 1, 3) := by decide +kernel
theorem d_Expander_readTold_143 : decode prog_3_method_6_code 143 = .ok (.goto (-139), 3) := by decide +kernel
theorem d_Expander_readTold_121 : decode prog_3_method_6_code 121 = .ok (.aload_n 0, 1) := by decide +kernel
theorem d_Expander_readTold_122 : decode prog_3_method_6_code 122 = .ok (.getfield 20, 3) := by decide +kernel
theorem k_251 : (Jvm.Cond.fieldLink "PackageBook$Expander" (20 : Nat) "PackageBook$Expander" "told" "[I") ∈ uW := uW_of 251 (by decide +kernel) (by decide +kernel)
theorem d_Expander_readTold_125 : decode prog_3_method_6_code 125 = .ok (.iload_n 2, 1) := by decide +kernel
theorem d_Expander_readTold_126 : decode prog_3_method_6_code 126 = .ok (.iload_n 2, 1) := by decide +kernel
theorem d_Expander_readTold_127 : decode prog_3_method_6_code 127 = .ok (.iload 6, 2) := by decide +kernel
theorem d_Expander_readTold_129 : decode prog_3_method_6_code 129 = .ok (.iadd, 1) := by decide +kernel
theorem d_Expander_readTold_130 : decode prog_3_method_6_code 130 = .ok (.iload 5, 2) := by decide +kernel
theorem d_Expander_readTold_132 : decode prog_3_method_6_code 132 = .ok (.invokestatic 50, 3) := by decide +kernel
theorem k_241 : (Jvm.Cond.methodLink "PackageBook$Expander" (50 : Nat) ({ cls := "PackageBook$Expander", name := "setAll", desc := "([IIII)V" } : Jvm.MethodName)) ∈ uW := uW_of 241 (by decide +kernel) (by decide +kernel)
theorem k_243 : (Jvm.Cond.code ({ cls := "PackageBook$Expander", name := "setAll", desc := "([IIII)V" } : Jvm.MethodName) prog_3_method_2_code (5 : Nat) (Option.none : Option Jvm.ClassFile.FieldType)) ∈ uW := uW_of 243 (by decide +kernel) (by decide +kernel)
theorem k_242 : (Jvm.Cond.static ({ cls := "PackageBook$Expander", name := "setAll", desc := "([IIII)V" } : Jvm.MethodName)) ∈ uW := uW_of 242 (by decide +kernel) (by decide +kernel)
theorem hy_Expander_setAll : (y_Expander_setAll).cls ≠ "java/lang/invoke/MethodHandle" ∧ (y_Expander_setAll).cls ≠ "java/lang/invoke/VarHandle" ∧ (parseMethodDescriptor (y_Expander_setAll).desc).map (fun d => d.parameters.length) = some 4 := by decide +kernel
theorem d_Expander_readTold_135 : decode prog_3_method_6_code 135 = .ok (.iload_n 2, 1) := by decide +kernel
theorem d_Expander_readTold_136 : decode prog_3_method_6_code 136 = .ok (.iload 6, 2) := by decide +kernel
theorem d_Expander_readTold_138 : decode prog_3_method_6_code 138 = .ok (.iadd, 1) := by decide +kernel
theorem d_Expander_readTold_139 : decode prog_3_method_6_code 139 = .ok (.istore_n 2, 1) := by decide +kernel
theorem d_Expander_readTold_101 : decode prog_3_method_6_code 101 = .ok (.iload 6, 2) := by decide +kernel
theorem d_Expander_readTold_103 : decode prog_3_method_6_code 103 = .ok (.iload_n 1, 1) := by decide +kernel
theorem d_Expander_readTold_104 : decode prog_3_method_6_code 104 = .ok (.iload_n 2, 1) := by decide +kernel
theorem d_Expander_readTold_105 : decode prog_3_method_6_code 105 = .ok (.isub, 1) := by decide +kernel
theorem d_Expander_readTold_106 : decode prog_3_method_6_code 106 = .ok (.if_icmp .le 8, 3) := by decide +kernel
theorem d_Expander_readTold_109 : decode prog_3_method_6_code 109 = .ok (.aload_n 0, 1) := by decide +kernel
theorem d_Expander_readTold_110 : decode prog_3_method_6_code 110 = .ok (.iconst 4, 1) := by decide +kernel
theorem d_Expander_readTold_111 : decode prog_3_method_6_code 111 = .ok (.invokevirtual 85, 3) := by decide +kernel
theorem d_Expander_readTold_47 : decode prog_3_method_6_code 47 = .ok (.iload 4, 2) := by decide +kernel
theorem d_Expander_readTold_49 : decode prog_3_method_6_code 49 = .ok (.bipush 16, 2) := by decide +kernel
theorem d_Expander_readTold_51 : decode prog_3_method_6_code 51 = .ok (.if_icmp .ge 8, 3) := by decide +kernel
theorem d_Expander_readTold_59 : decode prog_3_method_6_code 59 = .ok (.iload 4, 2) := by decide +kernel
theorem d_Expander_readTold_61 : decode prog_3_method_6_code 61 = .ok (.bipush 16, 2) := by decide +kernel
theorem d_Expander_readTold_63 : decode prog_3_method_6_code 63 = .ok (.if_icmp .ne 18, 3) := by decide +kernel
theorem d_Expander_readTold_81 : decode prog_3_method_6_code 81 = .ok (.iconst 0, 1) := by decide +kernel
theorem d_Expander_readTold_82 : decode prog_3_method_6_code 82 = .ok (.istore 5, 2) := by decide +kernel
theorem d_Expander_readTold_66 : decode prog_3_method_6_code 66 = .ok (.iload_n 2, 1) := by decide +kernel
theorem d_Expander_readTold_67 : decode prog_3_method_6_code 67 = .ok (.ifCond .le 14, 3) := by decide +kernel
theorem d_Expander_readTold_70 : decode prog_3_method_6_code 70 = .ok (.aload_n 0, 1) := by decide +kernel
theorem d_Expander_readTold_71 : decode prog_3_method_6_code 71 = .ok (.getfield 20, 3) := by decide +kernel
theorem d_Expander_readTold_74 : decode prog_3_method_6_code 74 = .ok (.iload_n 2, 1) := by decide +kernel
theorem d_Expander_readTold_75 : decode prog_3_method_6_code 75 = .ok (.iconst 1, 1) := by decide +kernel
theorem d_Expander_readTold_76 : decode prog_3_method_6_code 76 = .ok (.isub, 1) := by decide +kernel
theorem d_Expander_readTold_77 : decode prog_3_method_6_code 77 = .ok (.iaload, 1) := by decide +kernel
theorem d_Expander_readTold_78 : decode prog_3_method_6_code 78 = .ok (.goto 4, 3) := by decide +kernel
theorem d_Expander_readTold_54 : decode prog_3_method_6_code 54 = .ok (.iload 4, 2) := by decide +kernel
theorem d_Expander_readTold_56 : decode prog_3_method_6_code 56 = .ok (.goto 26, 3) := by decide +kernel
theorem d_Expander_readTold_31 : decode prog_3_method_6_code 31 = .ok (.iload 4, 2) := by decide +kernel
theorem d_Expander_readTold_33 : decode prog_3_method_6_code 33 = .ok (.bipush 16, 2) := by decide +kernel
theorem d_Expander_readTold_35 : decode prog_3_method_6_code 35 = .ok (.if_icmp .ne 12, 3) := by decide +kernel
theorem d_Expander_readTold_38 : decode prog_3_method_6_code 38 = .ok (.iload_n 2, 1) := by decide +kernel
theorem d_Expander_readTold_39 : decode prog_3_method_6_code 39 = .ok (.ifCond .ne 8, 3) := by decide +kernel
theorem d_Expander_readTold_42 : decode prog_3_method_6_code 42 = .ok (.aload_n 0, 1) := by decide +kernel
theorem d_Expander_readTold_43 : decode prog_3_method_6_code 43 = .ok (.iconst 4, 1) := by decide +kernel
theorem d_Expander_readTold_44 : decode prog_3_method_6_code 44 = .ok (.invokevirtual 85, 3) := by decide +kernel
abbrev y_Expander_readTold : MethodName := ⟨"PackageBook$Expander", "readTold", "(I)V"⟩
abbrev i_Expander_readTold : pb_I := (y_Expander_readTold, prog_3_method_6_code, 7, (Option.none : Option Jvm.ClassFile.FieldType), [], { frames := 1, cells := 0, slots := 0, locals := 26 })
set_option maxRecDepth 100000 in
set_option maxHeartbeats 4000000 in
theorem g_Exp_readTold {l : Launch} (hl : l.stackTraces = false) (G : pb_G) (h : Nat) (ex : Nat) (et : Nat) (ea : Nat) (eb : Nat) (ec : Nat) (ed : Nat) (ef : Nat) (er : Nat) (at_ : Int32) (en : Int32) (fl : Int32) (N : Nat) (fr : Nat → Int32) (tf : Nat → Int32) (ef1 : Nat) (ef2 : Nat) (efs : Int32) (efc : Nat → Int32) (efy : Nat → Int32) (al : Int32) (a0 : 0 ≤ at_.toInt) (a1 : at_.toInt ≤ en.toInt) (a2 : en.toInt ≤ 8 * N) (a3 : N ≤ 100000) (a4 : 0 ≤ fl.toInt) (If : co_I efs.toInt efc efy 19) (Mf : efs.toInt ≤ 19) (l0 : 0 ≤ al.toInt) (l1 : al.toInt ≤ 316) (F_fr : sb_Fit fr) : Cn l G i_Expander_readTold [.ref h, .int al] [(h, .inr (5, [.ref ex, .ref et, .ref ea, .ref eb, .ref ec, .ref ed, .ref ef, .ref er, .int at_, .int en, .int fl])), (er, .inl (G.2.1, N, .inl fr)), (et, .inl (G.2.2.1, 316, .inl tf)), (ef, .inr (1, [.ref ef1, .ref ef2, .int efs])), (ef1, .inl (G.2.2.1, 16, .inl efc)), (ef2, .inl (G.2.2.1, 19, .inl efy))] (S := Int32 × Int32 × (Nat → Int32)) (fun rv_ u => rv_ = none ∧ (at_.toInt ≤ u.1.toInt) ∧ (u.1.toInt ≤ en.toInt) ∧ (0 ≤ u.2.1.toInt) ∧ (fl.toInt ≠ 0 → u.2.1.toInt ≠ 0)) (fun u => [(h, .inr (5, [.ref ex, .ref et, .ref ea, .ref eb, .ref ec, .ref ed, .ref ef, .ref er, .int u.1, .int en, .int u.2.1])), (er, .inl (G.2.1, N, .inl fr)), (et, .inl (G.2.2.1, 316, .inl u.2.2)), (ef, .inr (1, [.ref ef1, .ref ef2, .int efs])), (ef1, .inl (G.2.2.1, 16, .inl efc)), (ef2, .inl (G.2.2.1, 19, .inl efy))]) := by
  refine Cn.of hl (by decide +kernel) rfl (Nat.le_of_ble_eq_true rfl) (fun M hQ => ?_)
  refine pb_eq (pc' := 0) (lo' := [(0, .ref h), (1, .int al)]) (rest' := []) (ws' := [(h, .inr (5, [.ref ex, .ref et, .ref ea, .ref eb, .ref ec, .ref ed, .ref ef, .ref er, .int at_, .int en, .int fl])), (er, .inl (G.2.1, N, .inl fr)), (et, .inl (G.2.2.1, 316, .inl tf)), (ef, .inr (1, [.ref ef1, .ref ef2, .int efs])), (ef1, .inl (G.2.2.1, 16, .inl efc)), (ef2, .inl (G.2.2.1, 19, .inl efy))]) ?_
  have zl0 : (0 : Int32).toInt = 0 := by decide
  have zl1 : (1 : Int32).toInt = 1 := by decide
  have zl4 : (4 : Int32).toInt = 4 := by decide
  have w7 := p2_pos
  refine pb_iconst (pc := 0) (v := 0) d_Expander_readTold_0 (by decide) ?_
  refine pb_istore_n (pc := 1) (lo' := [(2, .int 0), (0, .ref h), (1, .int al)]) d_Expander_readTold_1 rfl (by decide) rfl ?_
  refine pb_iconst (pc := 2) (v := 0) d_Expander_readTold_2 (by decide) ?_
  refine pb_istore_n (pc := 3) (lo' := [(3, .int 0), (2, .int 0), (0, .ref h), (1, .int al)]) d_Expander_readTold_3 rfl (by decide) rfl ?_
  have hL4_1 : ∀ (N9 : Nat) (k : Int32) (rd : Int32) (a4_ : Int32) (f4 : Int32) (t4 : Nat → Int32), (0 ≤ k.toInt) → (k.toInt ≤ al.toInt) → (0 ≤ rd.toInt) → (0 ≤ f4.toInt) → (fl.toInt ≠ 0 → f4.toInt ≠ 0) → (at_.toInt ≤ a4_.toInt) → (a4_.toInt ≤ en.toInt) → ((al.toInt - rd.toInt).toNat) < N9 → pb_P l G M i_Expander_readTold 4 [(2, .int k), (3, .int rd), (0, .ref h), (1, .int al)] [] [(h, .inr (5, [.ref ex, .ref et, .ref ea, .ref eb, .ref ec, .ref ed, .ref ef, .ref er, .int a4_, .int en, .int f4])), (er, .inl (G.2.1, N, .inl fr)), (et, .inl (G.2.2.1, 316, .inl t4)), (ef, .inr (1, [.ref ef1, .ref ef2, .int efs])), (ef1, .inl (G.2.2.1, 16, .inl efc)), (ef2, .inl (G.2.2.1, 19, .inl efy))] 0 0 := by
    intro N9
    induction N9 with
    | zero => intro k rd a4_ f4 t4 k0 k0_ k9 k1 k2 k3 k4 hm9; exact absurd hm9 (Nat.not_lt_zero _)
    | succ N9 ih4 =>
      intro k rd a4_ f4 t4 k0 k0_ k9 k1 k2 k3 k4 hm9
      refine pb_iload_n (pc := 4) d_Expander_readTold_4 1 rfl rfl ?_
      refine pb_iload_n (pc := 5) d_Expander_readTold_5 3 rfl rfl ?_
      refine pb_icmp_ge (pc := 6) (tgt := 146) d_Expander_readTold_6 (by decide) (fun w2 => ?_) (fun w2 => ?_)
      · have tw2 : al.toInt ≤ rd.toInt := (ti_le rfl rfl).mp w2
        exact pb_vret (pc := 146) hQ d_Expander_readTold_146 rfl (a4_, f4, t4) ⟨rfl, (by (try dsimp only); first | done | assumption | omega (splitDisjunctions := false) | omega | decide), (by (try dsimp only); first | done | assumption | omega (splitDisjunctions := false) | omega | decide), (by (try dsimp only); first | done | assumption | omega (splitDisjunctions := false) | omega | decide), (by (try dsimp only); first | done | assumption | omega (splitDisjunctions := false) | omega | decide)⟩ [0, 1, 2, 3, 4, 5] (by decide) rfl rfl (by decide) (by decide)
      · have tw2 : ¬ al.toInt ≤ rd.toInt := fun z9 => w2 ((ti_le rfl rfl).mpr z9)
        refine pb_iload_n (pc := 9) d_Expander_readTold_9 0 rfl rfl ?_
        refine pb_iload_n (pc := 10) d_Expander_readTold_10 3 rfl rfl ?_
        refine pb_icmp_ge (pc := 11) (tgt := 146) d_Expander_readTold_11 (by decide) (fun w3 => ?_) (fun w3 => ?_)
        · have tw3 : al.toInt ≤ k.toInt := (ti_le rfl rfl).mp w3
          exact pb_vret (pc := 146) hQ d_Expander_readTold_146 rfl (a4_, f4, t4) ⟨rfl, (by (try dsimp only); first | done | assumption | omega (splitDisjunctions := false) | omega | decide), (by (try dsimp only); first | done | assumption | omega (splitDisjunctions := false) | omega | decide), (by (try dsimp only); first | done | assumption | omega (splitDisjunctions := false) | omega | decide), (by (try dsimp only); first | done | assumption | omega (splitDisjunctions := false) | omega | decide)⟩ [0, 1, 2, 3, 4, 5] (by decide) rfl rfl (by decide) (by decide)
        · have tw3 : ¬ al.toInt ≤ k.toInt := fun z9 => w3 ((ti_le rfl rfl).mpr z9)
          refine pb_aload_n (pc := 14) d_Expander_readTold_14 2 rfl rfl ?_
          refine pb_get (pc := 15) d_Expander_readTold_15 0 10 rfl rfl (by decide) in_Expander k_260 rfl ?_
          refine pb_if_ne (pc := 18) (tgt := 146) d_Expander_readTold_18 (by decide) (fun w4 => ?_) (fun w4 => ?_)
          · have tw4 : ¬ f4.toInt = 0 := fun z9 => w4 ((ti_eq rfl (by decide)).mpr z9)
            exact pb_vret (pc := 146) hQ d_Expander_readTold_146 rfl (a4_, f4, t4) ⟨rfl, (by (try dsimp only); first | done | assumption | omega (splitDisjunctions := false) | omega | decide), (by (try dsimp only); first | done | assumption | omega (splitDisjunctions := false) | omega | decide), (by (try dsimp only); first | done | assumption | omega (splitDisjunctions := false) | omega | decide), (by (try dsimp only); first | done | assumption | omega (splitDisjunctions := false) | omega | decide)⟩ [0, 1, 2, 3, 4, 5] (by decide) rfl rfl (by decide) (by decide)
          · have tw4 : f4.toInt = 0 := (ti_eq rfl (by decide)).mp w4
            refine pb_aload_n (pc := 21) d_Expander_readTold_21 2 rfl rfl ?_
            refine pb_aload_n (pc := 22) d_Expander_readTold_22 2 rfl rfl ?_
            refine pb_get (pc := 23) d_Expander_readTold_23 0 6 rfl rfl (by decide) in_Expander k_256 rfl ?_
            refine pb_callV (pc := 26) (I := i_Expander_readTold) (qb := 0) (ci := 5) (nA := 1) (rest := []) (wr := [(et, .inl (G.2.2.1, 316, .inl t4))]) d_Expander_readTold_26 (g_Exp_symbol hl G h ex et ea eb ec ed ef er a4_ en f4 N fr ef ef1 ef2 19 efs efc efy 19 (by first | assumption | omega (splitDisjunctions := false) | omega | decide) (by first | assumption | omega (splitDisjunctions := false) | omega | decide) (by first | assumption | omega (splitDisjunctions := false) | omega | decide) (by first | assumption | omega (splitDisjunctions := false) | omega | decide) (by first | assumption | omega (splitDisjunctions := false) | omega | decide) (by first | assumption | decide | omega) (by first | assumption | omega (splitDisjunctions := false) | omega | decide) (by first | assumption | omega (splitDisjunctions := false) | omega | decide) (by first | assumption | omega (splitDisjunctions := false) | omega | decide) F_fr) rfl rfl [0, 1, 3, 4, 5] [2] (by decide) rfl rfl rfl (by decide) (by decide) k_656 rfl k_121 k_653 k_655 k_22 ⟨rfl, hy_Expander_symbol⟩ (by decide) rfl rfl (Nat.le_of_ble_eq_true rfl) (by decide) (fun v9 u6 ch5 => ?_)
            obtain ⟨r_7, a2__8, f2__9⟩ := u6
            obtain ⟨ech5, ch5⟩ := ch5
            have ech5 : v9 = some (.int r_7) := ech5
            subst ech5
            obtain ⟨fh10, fh11, fh12, fh13, fh14, fh15⟩ : (0 ≤ r_7.toInt) ∧ (r_7.toInt < 19) ∧ (a4_.toInt ≤ a2__8.toInt) ∧ (a2__8.toInt ≤ en.toInt) ∧ (0 ≤ f2__9.toInt) ∧ (f4.toInt ≠ 0 → f2__9.toInt ≠ 0) := ch5
            refine pb_eq (pc' := 29) (lo' := [(2, .int k), (3, .int rd), (0, .ref h), (1, .int al)]) (rest' := [.int r_7]) (ws' := [(et, .inl (G.2.2.1, 316, .inl t4)), (h, .inr (5, [.ref ex, .ref et, .ref ea, .ref eb, .ref ec, .ref ed, .ref ef, .ref er, .int a2__8, .int en, .int f2__9])), (er, .inl (G.2.1, N, .inl fr)), (ef, .inr (1, [.ref ef1, .ref ef2, .int efs])), (ef1, .inl (G.2.2.1, 16, .inl efc)), (ef2, .inl (G.2.2.1, 19, .inl efy))]) ?_
            refine pb_istore (pc := 29) (lo' := [(4, .int r_7), (2, .int k), (3, .int rd), (0, .ref h), (1, .int al)]) d_Expander_readTold_29 (by decide) rfl ?_
            have hJ47_16 : ∀ (s5 : Int32) (a5_ : Int32) (f5 : Int32), (0 ≤ f5.toInt) → (fl.toInt ≠ 0 → f5.toInt ≠ 0) → (at_.toInt ≤ a5_.toInt) → (a5_.toInt ≤ en.toInt) → (0 ≤ s5.toInt) → pb_P l G M i_Expander_readTold 47 [(4, .int s5), (2, .int k), (3, .int rd), (0, .ref h), (1, .int al)] [] [(h, .inr (5, [.ref ex, .ref et, .ref ea, .ref eb, .ref ec, .ref ed, .ref ef, .ref er, .int a5_, .int en, .int f5])), (er, .inl (G.2.1, N, .inl fr)), (et, .inl (G.2.2.1, 316, .inl t4)), (ef, .inr (1, [.ref ef1, .ref ef2, .int efs])), (ef1, .inl (G.2.2.1, 16, .inl efc)), (ef2, .inl (G.2.2.1, 19, .inl efy))] 0 0 := by
              intro s5 a5_ f5 m1 m2 m3 m4 m5
              have hJ84_17 : ∀ (v5 : Int32), pb_P l G M i_Expander_readTold 84 [(5, .int v5), (4, .int s5), (2, .int k), (3, .int rd), (0, .ref h), (1, .int al)] [] [(h, .inr (5, [.ref ex, .ref et, .ref ea, .ref eb, .ref ec, .ref ed, .ref ef, .ref er, .int a5_, .int en, .int f5])), (er, .inl (G.2.1, N, .inl fr)), (et, .inl (G.2.2.1, 316, .inl t4)), (ef, .inr (1, [.ref ef1, .ref ef2, .int efs])), (ef1, .inl (G.2.2.1, 16, .inl efc)), (ef2, .inl (G.2.2.1, 19, .inl efy))] 0 0 := by
                intro v5
                refine pb_iload (pc := 84) d_Expander_readTold_84 1 rfl ?_
                refine pb_callS (pc := 86) (I := i_Expander_readTold) (nA := 1) (rest := []) (wr := [(h, .inr (5, [.ref ex, .ref et, .ref ea, .ref eb, .ref ec, .ref ed, .ref ef, .ref er, .int a5_, .int en, .int f5])), (er, .inl (G.2.1, N, .inl fr)), (et, .inl (G.2.2.1, 316, .inl t4)), (ef, .inr (1, [.ref ef1, .ref ef2, .int efs])), (ef1, .inl (G.2.2.1, 16, .inl efc)), (ef2, .inl (G.2.2.1, 19, .inl efy))]) d_Expander_readTold_86 (g_Exp_leastTimes hl G s5) [] [0, 1, 2, 3, 4, 5] (by decide) rfl rfl rfl (by decide) (by decide) k_688 rfl k_121 k_686 k_687 hy_Expander_leastTimes (by decide) rfl rfl (Nat.le_of_ble_eq_true rfl) (by decide) (fun v9 u19 ch18 => ?_)
                obtain ⟨r_20, rfl⟩ : ∃ z9, z9 = u19 := ⟨_, rfl⟩
                obtain ⟨ech18, ch18⟩ := ch18
                have ech18 : v9 = some (.int r_20) := ech18
                subst ech18
                obtain ⟨fh21, fh22⟩ : (1 ≤ r_20.toInt) ∧ (r_20.toInt ≤ 11) := ch18
                refine pb_eq (pc' := 89) (lo' := [(5, .int v5), (4, .int s5), (2, .int k), (3, .int rd), (0, .ref h), (1, .int al)]) (rest' := [.int r_20]) (ws' := [(h, .inr (5, [.ref ex, .ref et, .ref ea, .ref eb, .ref ec, .ref ed, .ref ef, .ref er, .int a5_, .int en, .int f5])), (er, .inl (G.2.1, N, .inl fr)), (et, .inl (G.2.2.1, 316, .inl t4)), (ef, .inr (1, [.ref ef1, .ref ef2, .int efs])), (ef1, .inl (G.2.2.1, 16, .inl efc)), (ef2, .inl (G.2.2.1, 19, .inl efy))]) ?_
                refine pb_aload_n (pc := 89) d_Expander_readTold_89 4 rfl rfl ?_
                refine pb_iload (pc := 90) d_Expander_readTold_90 1 rfl ?_
                refine pb_callS (pc := 92) (I := i_Expander_readTold) (nA := 1) (rest := [.ref h, .int r_20]) (wr := [(h, .inr (5, [.ref ex, .ref et, .ref ea, .ref eb, .ref ec, .ref ed, .ref ef, .ref er, .int a5_, .int en, .int f5])), (er, .inl (G.2.1, N, .inl fr)), (et, .inl (G.2.2.1, 316, .inl t4)), (ef, .inr (1, [.ref ef1, .ref ef2, .int efs])), (ef1, .inl (G.2.2.1, 16, .inl efc)), (ef2, .inl (G.2.2.1, 19, .inl efy))]) d_Expander_readTold_92 (g_Exp_bitsOfTimes hl G s5) [] [0, 1, 2, 3, 4, 5] (by decide) rfl rfl rfl (by decide) (by decide) k_691 rfl k_121 k_689 k_690 hy_Expander_bitsOfTimes (by decide) rfl rfl (Nat.le_of_ble_eq_true rfl) (by decide) (fun v9 u24 ch23 => ?_)
                obtain ⟨r_25, rfl⟩ : ∃ z9, z9 = u24 := ⟨_, rfl⟩
                obtain ⟨ech23, ch23⟩ := ch23
                have ech23 : v9 = some (.int r_25) := ech23
                subst ech23
                obtain ⟨fh26, fh27⟩ : (0 ≤ r_25.toInt) ∧ (r_25.toInt ≤ 7) := ch23
                refine pb_eq (pc' := 95) (lo' := [(5, .int v5), (4, .int s5), (2, .int k), (3, .int rd), (0, .ref h), (1, .int al)]) (rest' := [.int r_25, .ref h, .int r_20]) (ws' := [(h, .inr (5, [.ref ex, .ref et, .ref ea, .ref eb, .ref ec, .ref ed, .ref ef, .ref er, .int a5_, .int en, .int f5])), (er, .inl (G.2.1, N, .inl fr)), (et, .inl (G.2.2.1, 316, .inl t4)), (ef, .inr (1, [.ref ef1, .ref ef2, .int efs])), (ef1, .inl (G.2.2.1, 16, .inl efc)), (ef2, .inl (G.2.2.1, 19, .inl efy))]) ?_
                refine pb_callV (pc := 95) (I := i_Expander_readTold) (qb := 0) (ci := 5) (nA := 1) (rest := [.int r_20]) (wr := [(et, .inl (G.2.2.1, 316, .inl t4)), (ef, .inr (1, [.ref ef1, .ref ef2, .int efs])), (ef1, .inl (G.2.2.1, 16, .inl efc)), (ef2, .inl (G.2.2.1, 19, .inl efy))]) d_Expander_readTold_95 (g_Exp_number hl G h ex et ea eb ec ed ef er a5_ en f5 N fr r_25 (by first | assumption | omega (splitDisjunctions := false) | omega | decide) (by first | assumption | omega (splitDisjunctions := false) | omega | decide) (by first | assumption | omega (splitDisjunctions := false) | omega | decide) (by first | assumption | omega (splitDisjunctions := false) | omega | decide) (by first | assumption | omega (splitDisjunctions := false) | omega | decide) (by first | assumption | omega (splitDisjunctions := false) | omega | decide) (by first | assumption | omega (splitDisjunctions := false) | omega | decide) (by first | assumption | decide | omega)) rfl rfl [0, 1] [2, 3, 4, 5] (by decide) rfl rfl rfl (by decide) (by decide) k_634 rfl k_121 k_631 k_633 k_17 ⟨rfl, hy_Expander_number⟩ (by decide) rfl rfl (Nat.le_of_ble_eq_true rfl) (by decide) (fun v9 u29 ch28 => ?_)
                obtain ⟨r_30, a2__31, f2__32⟩ := u29
                obtain ⟨ech28, ch28⟩ := ch28
                have ech28 : v9 = some (.int r_30) := ech28
                subst ech28
                obtain ⟨fh33, fh34, fh35, fh36, fh37, fh38, fh39⟩ : (0 ≤ r_30.toInt) ∧ (r_30.toInt < p2 r_25.toInt) ∧ (r_30.toInt ≤ 65535) ∧ (a5_.toInt ≤ a2__31.toInt) ∧ (a2__31.toInt ≤ en.toInt) ∧ (0 ≤ f2__32.toInt) ∧ (f5.toInt ≠ 0 → f2__32.toInt ≠ 0) := ch28
                refine pb_eq (pc' := 98) (lo' := [(5, .int v5), (4, .int s5), (2, .int k), (3, .int rd), (0, .ref h), (1, .int al)]) (rest' := [.int r_30, .int r_20]) (ws' := [(et, .inl (G.2.2.1, 316, .inl t4)), (ef, .inr (1, [.ref ef1, .ref ef2, .int efs])), (ef1, .inl (G.2.2.1, 16, .inl efc)), (ef2, .inl (G.2.2.1, 19, .inl efy)), (h, .inr (5, [.ref ex, .ref et, .ref ea, .ref eb, .ref ec, .ref ed, .ref ef, .ref er, .int a2__31, .int en, .int f2__32])), (er, .inl (G.2.1, N, .inl fr))]) ?_
                refine pb_iadd (pc := 98) d_Expander_readTold_98 ?_
                refine pb_topi (fun i40 ei40 => ?_)
                try have ti40 : i40.toInt = r_20.toInt + r_30.toInt := t2_add ei40 rfl rfl (by omega)
                refine pb_istore (pc := 99) (lo' := [(6, .int i40), (5, .int v5), (4, .int s5), (2, .int k), (3, .int rd), (0, .ref h), (1, .int al)]) d_Expander_readTold_99 (by decide) rfl ?_
                have hJ114_41 : ∀ (t6 : Int32) (a6_ : Int32) (f6 : Int32), (0 ≤ f6.toInt) → (fl.toInt ≠ 0 → f6.toInt ≠ 0) → (at_.toInt ≤ a6_.toInt) → (a6_.toInt ≤ en.toInt) → (0 ≤ t6.toInt) → (f6.toInt = 0 → t6.toInt ≤ al.toInt - k.toInt) → pb_P l G M i_Expander_readTold 114 [(6, .int t6), (5, .int v5), (2, .int k), (3, .int rd), (0, .ref h), (1, .int al)] [] [(h, .inr (5, [.ref ex, .ref et, .ref ea, .ref eb, .ref ec, .ref ed, .ref ef, .ref er, .int a6_, .int en, .int f6])), (er, .inl (G.2.1, N, .inl fr)), (et, .inl (G.2.2.1, 316, .inl t4)), (ef, .inr (1, [.ref ef1, .ref ef2, .int efs])), (ef1, .inl (G.2.2.1, 16, .inl efc)), (ef2, .inl (G.2.2.1, 19, .inl efy))] 0 0 := by
                  intro t6 a6_ f6 n1 n2 n3 n4 n5 n6
                  refine pb_aload_n (pc := 114) d_Expander_readTold_114 4 rfl rfl ?_
                  refine pb_get (pc := 115) d_Expander_readTold_115 0 10 rfl rfl (by decide) in_Expander k_260 rfl ?_
                  refine pb_if_ne (pc := 118) (tgt := 140) d_Expander_readTold_118 (by decide) (fun w42 => ?_) (fun w42 => ?_)
                  · have tw42 : ¬ f6.toInt = 0 := fun z9 => w42 ((ti_eq rfl (by decide)).mpr z9)
                    refine pb_iincN (pc := 140) (c := 1) d_Expander_readTold_140 3 rfl (by decide) (by decide) (fun i43 ei43 => ?_)
                    have ti43 : i43.toInt = rd.toInt + 1 := t2_add ei43 rfl (by decide) (by omega)
                    refine pb_eq (pc' := 143) (lo' := [(3, .int i43), (6, .int t6), (5, .int v5), (2, .int k), (0, .ref h), (1, .int al)]) (rest' := []) (ws' := [(h, .inr (5, [.ref ex, .ref et, .ref ea, .ref eb, .ref ec, .ref ed, .ref ef, .ref er, .int a6_, .int en, .int f6])), (er, .inl (G.2.1, N, .inl fr)), (et, .inl (G.2.2.1, 316, .inl t4)), (ef, .inr (1, [.ref ef1, .ref ef2, .int efs])), (ef1, .inl (G.2.2.1, 16, .inl efc)), (ef2, .inl (G.2.2.1, 19, .inl efy))]) ?_
                    refine pb_goto (pc := 143) (tgt := 4) d_Expander_readTold_143 (by decide) ?_
                    refine pb_re (ws' := [(h, .inr (5, [.ref ex, .ref et, .ref ea, .ref eb, .ref ec, .ref ed, .ref ef, .ref er, .int a6_, .int en, .int f6])), (er, .inl (G.2.1, N, .inl fr)), (et, .inl (G.2.2.1, 316, .inl t4)), (ef, .inr (1, [.ref ef1, .ref ef2, .int efs])), (ef1, .inl (G.2.2.1, 16, .inl efc)), (ef2, .inl (G.2.2.1, 19, .inl efy))]) (lo' := [(2, .int k), (3, .int i43), (0, .ref h), (1, .int al)]) [0, 1, 2, 3, 4, 5] [3, 0, 4, 5] (by decide) rfl rfl rfl ?_
                    exact ih4 k i43 a6_ f6 t4 (by first | assumption | omega (splitDisjunctions := false) | omega | decide) (by first | assumption | omega (splitDisjunctions := false) | omega | decide) (by first | assumption | omega (splitDisjunctions := false) | omega | decide) (by first | assumption | omega (splitDisjunctions := false) | omega | decide) (by first | assumption | omega (splitDisjunctions := false) | omega | decide) (by first | assumption | omega (splitDisjunctions := false) | omega | decide) (by first | assumption | omega (splitDisjunctions := false) | omega | decide) (by omega)
                  · have tw42 : f6.toInt = 0 := (ti_eq rfl (by decide)).mp w42
                    refine pb_aload_n (pc := 121) d_Expander_readTold_121 4 rfl rfl ?_
                    refine pb_get (pc := 122) d_Expander_readTold_122 0 1 rfl rfl (by decide) in_Expander k_251 rfl ?_
                    refine pb_iload_n (pc := 125) d_Expander_readTold_125 2 rfl rfl ?_
                    refine pb_iload_n (pc := 126) d_Expander_readTold_126 2 rfl rfl ?_
                    refine pb_iload (pc := 127) d_Expander_readTold_127 0 rfl ?_
                    refine pb_iadd (pc := 129) d_Expander_readTold_129 ?_
                    refine pb_topi (fun i44 ei44 => ?_)
                    try have ti44 : i44.toInt = k.toInt + t6.toInt := t2_add ei44 rfl rfl (by omega)
                    refine pb_iload (pc := 130) d_Expander_readTold_130 1 rfl ?_
                    refine pb_callS (pc := 132) (I := i_Expander_readTold) (nA := 4) (rest := []) (wr := [(h, .inr (5, [.ref ex, .ref et, .ref ea, .ref eb, .ref ec, .ref ed, .ref ef, .ref er, .int a6_, .int en, .int f6])), (er, .inl (G.2.1, N, .inl fr)), (ef, .inr (1, [.ref ef1, .ref ef2, .int efs])), (ef1, .inl (G.2.2.1, 16, .inl efc)), (ef2, .inl (G.2.2.1, 19, .inl efy))]) d_Expander_readTold_132 (g_Exp_setAll hl G et 316 t4 k i44 v5 (by first | assumption | omega (splitDisjunctions := false) | omega | decide) (by first | assumption | omega (splitDisjunctions := false) | omega | decide) (by first | assumption | omega (splitDisjunctions := false) | omega | decide)) [2] [0, 1, 3, 4, 5] (by decide) rfl rfl rfl (by decide) (by decide) k_243 rfl k_121 k_241 k_242 hy_Expander_setAll (by decide) rfl rfl (Nat.le_of_ble_eq_true rfl) (by decide) (fun v9 u46 ch45 => ?_)
                    obtain ⟨f_47, rfl⟩ : ∃ z9, z9 = u46 := ⟨_, rfl⟩
                    have ech45 := ch45
                    have ech45 : v9 = none := ech45
                    subst ech45
                    refine pb_eq (pc' := 135) (lo' := [(6, .int t6), (5, .int v5), (2, .int k), (3, .int rd), (0, .ref h), (1, .int al)]) (rest' := []) (ws' := [(h, .inr (5, [.ref ex, .ref et, .ref ea, .ref eb, .ref ec, .ref ed, .ref ef, .ref er, .int a6_, .int en, .int f6])), (er, .inl (G.2.1, N, .inl fr)), (ef, .inr (1, [.ref ef1, .ref ef2, .int efs])), (ef1, .inl (G.2.2.1, 16, .inl efc)), (ef2, .inl (G.2.2.1, 19, .inl efy)), (et, .inl (G.2.2.1, 316, .inl f_47))]) ?_
                    refine pb_iload_n (pc := 135) d_Expander_readTold_135 2 rfl rfl ?_
                    refine pb_iload (pc := 136) d_Expander_readTold_136 0 rfl ?_
                    refine pb_iadd (pc := 138) d_Expander_readTold_138 ?_
                    refine pb_topi (fun i48 ei48 => ?_)
                    try have ti48 : i48.toInt = k.toInt + t6.toInt := t2_add ei48 rfl rfl (by omega)
                    refine pb_istore_n (pc := 139) (lo' := [(2, .int i48), (6, .int t6), (5, .int v5), (3, .int rd), (0, .ref h), (1, .int al)]) d_Expander_readTold_139 rfl (by decide) rfl ?_
                    refine pb_iincN (pc := 140) (c := 1) d_Expander_readTold_140 3 rfl (by decide) (by decide) (fun i49 ei49 => ?_)
                    have ti49 : i49.toInt = rd.toInt + 1 := t2_add ei49 rfl (by decide) (by omega)
                    refine pb_eq (pc' := 143) (lo' := [(3, .int i49), (2, .int i48), (6, .int t6), (5, .int v5), (0, .ref h), (1, .int al)]) (rest' := []) (ws' := [(h, .inr (5, [.ref ex, .ref et, .ref ea, .ref eb, .ref ec, .ref ed, .ref ef, .ref er, .int a6_, .int en, .int f6])), (er, .inl (G.2.1, N, .inl fr)), (ef, .inr (1, [.ref ef1, .ref ef2, .int efs])), (ef1, .inl (G.2.2.1, 16, .inl efc)), (ef2, .inl (G.2.2.1, 19, .inl efy)), (et, .inl (G.2.2.1, 316, .inl f_47))]) ?_
                    refine pb_goto (pc := 143) (tgt := 4) d_Expander_readTold_143 (by decide) ?_
                    refine pb_re (ws' := [(h, .inr (5, [.ref ex, .ref et, .ref ea, .ref eb, .ref ec, .ref ed, .ref ef, .ref er, .int a6_, .int en, .int f6])), (er, .inl (G.2.1, N, .inl fr)), (et, .inl (G.2.2.1, 316, .inl f_47)), (ef, .inr (1, [.ref ef1, .ref ef2, .int efs])), (ef1, .inl (G.2.2.1, 16, .inl efc)), (ef2, .inl (G.2.2.1, 19, .inl efy))]) (lo' := [(2, .int i48), (3, .int i49), (0, .ref h), (1, .int al)]) [0, 1, 5, 2, 3, 4] [1, 0, 4, 5] (by decide) rfl rfl rfl ?_
                    exact ih4 i48 i49 a6_ f6 f_47 (by first | assumption | omega (splitDisjunctions := false) | omega | decide) (by first | assumption | omega (splitDisjunctions := false) | omega | decide) (by first | assumption | omega (splitDisjunctions := false) | omega | decide) (by first | assumption | omega (splitDisjunctions := false) | omega | decide) (by first | assumption | omega (splitDisjunctions := false) | omega | decide) (by first | assumption | omega (splitDisjunctions := false) | omega | decide) (by first | assumption | omega (splitDisjunctions := false) | omega | decide) (by omega)
                refine pb_iload (pc := 101) d_Expander_readTold_101 0 rfl ?_
                refine pb_iload_n (pc := 103) d_Expander_readTold_103 6 rfl rfl ?_
                refine pb_iload_n (pc := 104) d_Expander_readTold_104 3 rfl rfl ?_
                refine pb_isub (pc := 105) d_Expander_readTold_105 ?_
                refine pb_topi (fun i50 ei50 => ?_)
                try have ti50 : i50.toInt = al.toInt - k.toInt := t2_sub ei50 rfl rfl (by omega)
                refine pb_icmp_le (pc := 106) (tgt := 114) d_Expander_readTold_106 (by decide) (fun w51 => ?_) (fun w51 => ?_)
                · have tw51 : i40.toInt ≤ i50.toInt := (ti_le rfl rfl).mp w51
                  refine pb_re (ws' := [(h, .inr (5, [.ref ex, .ref et, .ref ea, .ref eb, .ref ec, .ref ed, .ref ef, .ref er, .int a2__31, .int en, .int f2__32])), (er, .inl (G.2.1, N, .inl fr)), (et, .inl (G.2.2.1, 316, .inl t4)), (ef, .inr (1, [.ref ef1, .ref ef2, .int efs])), (ef1, .inl (G.2.2.1, 16, .inl efc)), (ef2, .inl (G.2.2.1, 19, .inl efy))]) (lo' := [(6, .int i40), (5, .int v5), (2, .int k), (3, .int rd), (0, .ref h), (1, .int al)]) [4, 5, 0, 1, 2, 3] [0, 1, 3, 4, 5, 6] (by decide) rfl rfl rfl ?_
                  exact hJ114_41 i40 a2__31 f2__32 (by first | assumption | omega (splitDisjunctions := false) | omega | decide) (by first | assumption | omega (splitDisjunctions := false) | omega | decide) (by first | assumption | omega (splitDisjunctions := false) | omega | decide) (by first | assumption | omega (splitDisjunctions := false) | omega | decide) (by first | assumption | omega (splitDisjunctions := false) | omega | decide) (by first | assumption | omega (splitDisjunctions := false) | omega | decide)
                · have tw51 : ¬ i40.toInt ≤ i50.toInt := fun z9 => w51 ((ti_le rfl rfl).mpr z9)
                  refine pb_aload_n (pc := 109) d_Expander_readTold_109 5 rfl rfl ?_
                  refine pb_iconst (pc := 110) (v := 4) d_Expander_readTold_110 (by decide) ?_
                  refine pb_callV (pc := 111) (I := i_Expander_readTold) (qb := 4) (ci := 5) (nA := 1) (rest := []) (wr := [(et, .inl (G.2.2.1, 316, .inl t4)), (ef, .inr (1, [.ref ef1, .ref ef2, .int efs])), (ef1, .inl (G.2.2.1, 16, .inl efc)), (ef2, .inl (G.2.2.1, 19, .inl efy)), (er, .inl (G.2.1, N, .inl fr))]) d_Expander_readTold_111 (g_Exp_fail hl G h ex et ea eb ec ed ef er a2__31 en f2__32 4 (by first | assumption | omega (splitDisjunctions := false) | omega | decide) (by first | assumption | omega (splitDisjunctions := false) | omega | decide)) rfl rfl [4] [0, 1, 2, 3, 5] (by decide) rfl rfl rfl (by decide) (by decide) k_643 rfl k_121 k_640 k_642 k_19 ⟨rfl, hy_Expander_fail⟩ (by decide) rfl rfl (Nat.le_of_ble_eq_true rfl) (by decide) (fun v9 u53 ch52 => ?_)
                  obtain ⟨f2__54, rfl⟩ : ∃ z9, z9 = u53 := ⟨_, rfl⟩
                  obtain ⟨ech52, ch52⟩ := ch52
                  have ech52 : v9 = none := ech52
                  subst ech52
                  have fh55 : 0 < f2__54.toInt := ch52
                  refine pb_eq (pc' := 114) (lo' := [(6, .int i40), (5, .int v5), (4, .int s5), (2, .int k), (3, .int rd), (0, .ref h), (1, .int al)]) (rest' := []) (ws' := [(et, .inl (G.2.2.1, 316, .inl t4)), (ef, .inr (1, [.ref ef1, .ref ef2, .int efs])), (ef1, .inl (G.2.2.1, 16, .inl efc)), (ef2, .inl (G.2.2.1, 19, .inl efy)), (er, .inl (G.2.1, N, .inl fr)), (h, .inr (5, [.ref ex, .ref et, .ref ea, .ref eb, .ref ec, .ref ed, .ref ef, .ref er, .int a2__31, .int en, .int f2__54]))]) ?_
                  refine pb_re (ws' := [(h, .inr (5, [.ref ex, .ref et, .ref ea, .ref eb, .ref ec, .ref ed, .ref ef, .ref er, .int a2__31, .int en, .int f2__54])), (er, .inl (G.2.1, N, .inl fr)), (et, .inl (G.2.2.1, 316, .inl t4)), (ef, .inr (1, [.ref ef1, .ref ef2, .int efs])), (ef1, .inl (G.2.2.1, 16, .inl efc)), (ef2, .inl (G.2.2.1, 19, .inl efy))]) (lo' := [(6, .int i40), (5, .int v5), (2, .int k), (3, .int rd), (0, .ref h), (1, .int al)]) [5, 4, 0, 1, 2, 3] [0, 1, 3, 4, 5, 6] (by decide) rfl rfl rfl ?_
                  exact hJ114_41 i40 a2__31 f2__54 (by first | assumption | omega (splitDisjunctions := false) | omega | decide) (by first | assumption | omega (splitDisjunctions := false) | omega | decide) (by first | assumption | omega (splitDisjunctions := false) | omega | decide) (by first | assumption | omega (splitDisjunctions := false) | omega | decide) (by first | assumption | omega (splitDisjunctions := false) | omega | decide) (by first | assumption | omega (splitDisjunctions := false) | omega | decide)
              refine pb_iload (pc := 47) d_Expander_readTold_47 0 rfl ?_
              refine pb_bipush (pc := 49) (v := 16) d_Expander_readTold_49 (by decide) ?_
              refine pb_icmp_ge (pc := 51) (tgt := 59) d_Expander_readTold_51 (by decide) (fun w56 => ?_) (fun w56 => ?_)
              · have tw56 : 16 ≤ s5.toInt := (ti_le (by decide) rfl).mp w56
                refine pb_iload (pc := 59) d_Expander_readTold_59 0 rfl ?_
                refine pb_bipush (pc := 61) (v := 16) d_Expander_readTold_61 (by decide) ?_
                refine pb_icmp_ne (pc := 63) (tgt := 81) d_Expander_readTold_63 (by decide) (fun w57 => ?_) (fun w57 => ?_)
                · have tw57 : ¬ s5.toInt = 16 := fun z9 => w57 ((ti_eq rfl (by decide)).mpr z9)
                  refine pb_iconst (pc := 81) (v := 0) d_Expander_readTold_81 (by decide) ?_
                  refine pb_istore (pc := 82) (lo' := [(5, .int 0), (4, .int s5), (2, .int k), (3, .int rd), (0, .ref h), (1, .int al)]) d_Expander_readTold_82 (by decide) rfl ?_
                  exact hJ84_17 0
                · have tw57 : s5.toInt = 16 := (ti_eq rfl (by decide)).mp w57
                  refine pb_iload_n (pc := 66) d_Expander_readTold_66 1 rfl rfl ?_
                  refine pb_if_le (pc := 67) (tgt := 81) d_Expander_readTold_67 (by decide) (fun w58 => ?_) (fun w58 => ?_)
                  · have tw58 : k.toInt ≤ 0 := (ti_le rfl (by decide)).mp w58
                    refine pb_iconst (pc := 81) (v := 0) d_Expander_readTold_81 (by decide) ?_
                    refine pb_istore (pc := 82) (lo' := [(5, .int 0), (4, .int s5), (2, .int k), (3, .int rd), (0, .ref h), (1, .int al)]) d_Expander_readTold_82 (by decide) rfl ?_
                    exact hJ84_17 0
                  · have tw58 : ¬ k.toInt ≤ 0 := fun z9 => w58 ((ti_le rfl (by decide)).mpr z9)
                    refine pb_aload_n (pc := 70) d_Expander_readTold_70 3 rfl rfl ?_
                    refine pb_get (pc := 71) d_Expander_readTold_71 0 1 rfl rfl (by decide) in_Expander k_251 rfl ?_
                    refine pb_iload_n (pc := 74) d_Expander_readTold_74 1 rfl rfl ?_
                    refine pb_iconst (pc := 75) (v := 1) d_Expander_readTold_75 (by decide) ?_
                    refine pb_isub (pc := 76) d_Expander_readTold_76 ?_
                    refine pb_topi (fun i59 ei59 => ?_)
                    try have ti59 : i59.toInt = k.toInt - 1 := t2_sub ei59 rfl (by decide) (by omega)
                    refine pb_iald (pc := 77) d_Expander_readTold_77 2 rfl (vp_in_iff.mpr (by omega)) ?_
                    refine pb_topi (fun i60 ei60 => ?_)
                    have ti60 : i60.toInt = gx t4 (i59.toInt) := gx_ld ei60 rfl
                    refine pb_goto (pc := 78) (tgt := 82) d_Expander_readTold_78 (by decide) ?_
                    refine pb_istore (pc := 82) (lo' := [(5, .int i60), (4, .int s5), (2, .int k), (3, .int rd), (0, .ref h), (1, .int al)]) d_Expander_readTold_82 (by decide) rfl ?_
                    exact hJ84_17 i60
              · have tw56 : ¬ 16 ≤ s5.toInt := fun z9 => w56 ((ti_le (by decide) rfl).mpr z9)
                refine pb_iload (pc := 54) d_Expander_readTold_54 0 rfl ?_
                refine pb_goto (pc := 56) (tgt := 82) d_Expander_readTold_56 (by decide) ?_
                refine pb_istore (pc := 82) (lo' := [(5, .int s5), (4, .int s5), (2, .int k), (3, .int rd), (0, .ref h), (1, .int al)]) d_Expander_readTold_82 (by decide) rfl ?_
                exact hJ84_17 s5
            refine pb_iload (pc := 31) d_Expander_readTold_31 0 rfl ?_
            refine pb_bipush (pc := 33) (v := 16) d_Expander_readTold_33 (by decide) ?_
            refine pb_icmp_ne (pc := 35) (tgt := 47) d_Expander_readTold_35 (by decide) (fun w61 => ?_) (fun w61 => ?_)
            · have tw61 : ¬ r_7.toInt = 16 := fun z9 => w61 ((ti_eq rfl (by decide)).mpr z9)
              refine pb_re (ws' := [(h, .inr (5, [.ref ex, .ref et, .ref ea, .ref eb, .ref ec, .ref ed, .ref ef, .ref er, .int a2__8, .int en, .int f2__9])), (er, .inl (G.2.1, N, .inl fr)), (et, .inl (G.2.2.1, 316, .inl t4)), (ef, .inr (1, [.ref ef1, .ref ef2, .int efs])), (ef1, .inl (G.2.2.1, 16, .inl efc)), (ef2, .inl (G.2.2.1, 19, .inl efy))]) (lo' := [(4, .int r_7), (2, .int k), (3, .int rd), (0, .ref h), (1, .int al)]) [1, 2, 0, 3, 4, 5] [0, 1, 2, 3, 4] (by decide) rfl rfl rfl ?_
              exact hJ47_16 r_7 a2__8 f2__9 (by first | assumption | omega (splitDisjunctions := false) | omega | decide) (by first | assumption | omega (splitDisjunctions := false) | omega | decide) (by first | assumption | omega (splitDisjunctions := false) | omega | decide) (by first | assumption | omega (splitDisjunctions := false) | omega | decide) (by first | assumption | omega (splitDisjunctions := false) | omega | decide)
            · have tw61 : r_7.toInt = 16 := (ti_eq rfl (by decide)).mp w61
              refine pb_iload_n (pc := 38) d_Expander_readTold_38 1 rfl rfl ?_
              refine pb_if_ne (pc := 39) (tgt := 47) d_Expander_readTold_39 (by decide) (fun w62 => ?_) (fun w62 => ?_)
              · have tw62 : ¬ k.toInt = 0 := fun z9 => w62 ((ti_eq rfl (by decide)).mpr z9)
                refine pb_re (ws' := [(h, .inr (5, [.ref ex, .ref et, .ref ea, .ref eb, .ref ec, .ref ed, .ref ef, .ref er, .int a2__8, .int en, .int f2__9])), (er, .inl (G.2.1, N, .inl fr)), (et, .inl (G.2.2.1, 316, .inl t4)), (ef, .inr (1, [.ref ef1, .ref ef2, .int efs])), (ef1, .inl (G.2.2.1, 16, .inl efc)), (ef2, .inl (G.2.2.1, 19, .inl efy))]) (lo' := [(4, .int r_7), (2, .int k), (3, .int rd), (0, .ref h), (1, .int al)]) [1, 2, 0, 3, 4, 5] [0, 1, 2, 3, 4] (by decide) rfl rfl rfl ?_
                exact hJ47_16 r_7 a2__8 f2__9 (by first | assumption | omega (splitDisjunctions := false) | omega | decide) (by first | assumption | omega (splitDisjunctions := false) | omega | decide) (by first | assumption | omega (splitDisjunctions := false) | omega | decide) (by first | assumption | omega (splitDisjunctions := false) | omega | decide) (by first | assumption | omega (splitDisjunctions := false) | omega | decide)
              · have tw62 : k.toInt = 0 := (ti_eq rfl (by decide)).mp w62
                refine pb_aload_n (pc := 42) d_Expander_readTold_42 3 rfl rfl ?_
                refine pb_iconst (pc := 43) (v := 4) d_Expander_readTold_43 (by decide) ?_
                refine pb_callV (pc := 44) (I := i_Expander_readTold) (qb := 1) (ci := 5) (nA := 1) (rest := []) (wr := [(et, .inl (G.2.2.1, 316, .inl t4)), (er, .inl (G.2.1, N, .inl fr)), (ef, .inr (1, [.ref ef1, .ref ef2, .int efs])), (ef1, .inl (G.2.2.1, 16, .inl efc)), (ef2, .inl (G.2.2.1, 19, .inl efy))]) d_Expander_readTold_44 (g_Exp_fail hl G h ex et ea eb ec ed ef er a2__8 en f2__9 4 (by first | assumption | omega (splitDisjunctions := false) | omega | decide) (by first | assumption | omega (splitDisjunctions := false) | omega | decide)) rfl rfl [1] [0, 2, 3, 4, 5] (by decide) rfl rfl rfl (by decide) (by decide) k_643 rfl k_121 k_640 k_642 k_19 ⟨rfl, hy_Expander_fail⟩ (by decide) rfl rfl (Nat.le_of_ble_eq_true rfl) (by decide) (fun v9 u64 ch63 => ?_)
                obtain ⟨f2__65, rfl⟩ : ∃ z9, z9 = u64 := ⟨_, rfl⟩
                obtain ⟨ech63, ch63⟩ := ch63
                have ech63 : v9 = none := ech63
                subst ech63
                have fh66 : 0 < f2__65.toInt := ch63
                refine pb_eq (pc' := 47) (lo' := [(4, .int r_7), (2, .int k), (3, .int rd), (0, .ref h), (1, .int al)]) (rest' := []) (ws' := [(et, .inl (G.2.2.1, 316, .inl t4)), (er, .inl (G.2.1, N, .inl fr)), (ef, .inr (1, [.ref ef1, .ref ef2, .int efs])), (ef1, .inl (G.2.2.1, 16, .inl efc)), (ef2, .inl (G.2.2.1, 19, .inl efy)), (h, .inr (5, [.ref ex, .ref et, .ref ea, .ref eb, .ref ec, .ref ed, .ref ef, .ref er, .int a2__8, .int en, .int f2__65]))]) ?_
                refine pb_re (ws' := [(h, .inr (5, [.ref ex, .ref et, .ref ea, .ref eb, .ref ec, .ref ed, .ref ef, .ref er, .int a2__8, .int en, .int f2__65])), (er, .inl (G.2.1, N, .inl fr)), (et, .inl (G.2.2.1, 316, .inl t4)), (ef, .inr (1, [.ref ef1, .ref ef2, .int efs])), (ef1, .inl (G.2.2.1, 16, .inl efc)), (ef2, .inl (G.2.2.1, 19, .inl efy))]) (lo' := [(4, .int r_7), (2, .int k), (3, .int rd), (0, .ref h), (1, .int al)]) [5, 1, 0, 2, 3, 4] [0, 1, 2, 3, 4] (by decide) rfl rfl rfl ?_
                exact hJ47_16 r_7 a2__8 f2__65 (by first | assumption | omega (splitDisjunctions := false) | omega | decide) (by first | assumption | omega (splitDisjunctions := false) | omega | decide) (by first | assumption | omega (splitDisjunctions := false) | omega | decide) (by first | assumption | omega (splitDisjunctions := false) | omega | decide) (by first | assumption | omega (splitDisjunctions := false) | omega | decide)
  refine pb_re (ws' := [(h, .inr (5, [.ref ex, .ref et, .ref ea, .ref eb, .ref ec, .ref ed, .ref ef, .ref er, .int at_, .int en, .int fl])), (er, .inl (G.2.1, N, .inl fr)), (et, .inl (G.2.2.1, 316, .inl tf)), (ef, .inr (1, [.ref ef1, .ref ef2, .int efs])), (ef1, .inl (G.2.2.1, 16, .inl efc)), (ef2, .inl (G.2.2.1, 19, .inl efy))]) (lo' := [(2, .int 0), (3, .int 0), (0, .ref h), (1, .int al)]) [0, 1, 2, 3, 4, 5] [1, 0, 2, 3] (by decide) rfl rfl rfl ?_
  exact hL4_1 _ 0 0 at_ fl tf (by first | assumption | omega (splitDisjunctions := false) | omega | decide) (by first | assumption | omega (splitDisjunctions := false) | omega | decide) (by first | assumption | omega (splitDisjunctions := false) | omega | decide) (by first | assumption | omega (splitDisjunctions := false) | omega | decide) (by first | assumption | omega (splitDisjunctions := false) | omega | decide) (by first | assumption | omega (splitDisjunctions := false) | omega | decide) (by first | assumption | omega (splitDisjunctions := false) | omega | decide) (Nat.lt_succ_self _)

theorem d_Expander_readCodes_0 : decode prog_3_method_5_code 0 = .ok (.sipush 257, 3) := by decide +kernel
theorem d_Expander_readCodes_3 : decode prog_3_method_5_code 3 = .ok (.aload_n 0, 1) := by decide +kernel
theorem d_Expander_readCodes_4 : decode prog_3_method_5_code 4 = .ok (.iconst 5, 1) := by decide +kernel
theorem d_Expander_readCodes_5 : decode prog_3_method_5_code 5 = .ok (.invokevirtual 71, 3) := by decide +kernel
theorem d_Expander_readCodes_8 : decode prog_3_method_5_code 8 = .ok (.iadd, 1) := by decide +kernel
theorem d_Expander_readCodes_9 : decode prog_3_method_5_code 9 = .ok (.istore_n 1, 1) := by decide +kernel
theorem d_Expander_readCodes_10 : decode prog_3_method_5_code 10 = .ok (.iconst 1, 1) := by decide +kernel
theorem d_Expander_readCodes_11 : decode prog_3_method_5_code 11 = .ok (.aload_n 0, 1) := by decide +kernel
theorem d_Expander_readCodes_12 : decode prog_3_method_5_code 12 = .ok (.iconst 5, 1) := by decide +kernel
theorem d_Expander_readCodes_13 : decode prog_3_method_5_code 13 = .ok (.invokevirtual 71, 3) := by decide +kernel
theorem d_Expander_readCodes_16 : decode prog_3_method_5_code 16 = .ok (.iadd, 1) := by decide +kernel
theorem d_Expander_readCodes_17 : decode prog_3_method_5_code 17 = .ok (.istore_n 2, 1) := by decide +kernel
theorem d_Expander_readCodes_18 : decode prog_3_method_5_code 18 = .ok (.iconst 4, 1) := by decide +kernel
theorem d_Expander_readCodes_19 : decode prog_3_method_5_code 19 = .ok (.aload_n 0, 1) := by decide +kernel
theorem d_Expander_readCodes_20 : decode prog_3_method_5_code 20 = .ok (.iconst 4, 1) := by decide +kernel
theorem d_Expander_readCodes_21 : decode prog_3_method_5_code 21 = .ok (.invokevirtual 71, 3) := by decide +kernel
theorem d_Expander_readCodes_24 : decode prog_3_method_5_code 24 = .ok (.iadd, 1) := by decide +kernel
theorem d_Expander_readCodes_25 : decode prog_3_method_5_code 25 = .ok (.istore_n 3, 1) := by decide +kernel
theorem d_Expander_readCodes_44 : decode prog_3_method_5_code 44 = .ok (.aload_n 0, 1) := by decide +kernel
theorem d_Expander_readCodes_45 : decode prog_3_method_5_code 45 = .ok (.getfield 65, 3) := by decide +kernel
theorem d_Expander_readCodes_48 : decode prog_3_method_5_code 48 = .ok (.ifCond .eq 4, 3) := by decide +kernel
theorem d_Expander_readCodes_52 : decode prog_3_method_5_code 52 = .ok (.aload_n 0, 1) := by decide +kernel
theorem d_Expander_readCodes_53 : decode prog_3_method_5_code 53 = .ok (.getfield 20, 3) := by decide +kernel
theorem d_Expander_readCodes_56 : decode prog_3_method_5_code 56 = .ok (.iconst 0, 1) := by decide +kernel
theorem d_Expander_readCodes_57 : decode prog_3_method_5_code 57 = .ok (.invokestatic 92, 3) := by decide +kernel
theorem k_677 : (Jvm.Cond.methodLink "PackageBook$Expander" (92 : Nat) ({ cls := "java/util/Arrays", name := "fill", desc := "([II)V" } : Jvm.MethodName)) ∈ uW := uW_of 677 (by decide +kernel) (by decide +kernel)
theorem d_Expander_readCodes_60 : decode prog_3_method_5_code 60 = .ok (.iconst 0, 1) := by decide +kernel
theorem d_Expander_readCodes_61 : decode prog_3_method_5_code 61 = .ok (.istore 4, 2) := by decide +kernel
theorem d_Expander_readCodes_63 : decode prog_3_method_5_code 63 = .ok (.iload 4, 2) := by decide +kernel
theorem d_Expander_readCodes_65 : decode prog_3_method_5_code 65 = .ok (.iload_n 3, 1) := by decide +kernel
theorem d_Expander_readCodes_66 : decode prog_3_method_5_code 66 = .ok (.if_icmp .ge 25, 3) := by decide +kernel
theorem d_Expander_readCodes_91 : decode prog_3_method_5_code 91 = .ok (.aload_n 0, 1) := by decide +kernel
theorem d_Expander_readCodes_92 : decode prog_3_method_5_code 92 = .ok (.getfield 43, 3) := by decide +kernel
theorem d_Expander_readCodes_95 : decode prog_3_method_5_code 95 = .ok (.aload_n 0, 1) := by decide +kernel
theorem d_Expander_readCodes_96 : decode prog_3_method_5_code 96 = .ok (.getfield 20, 3) := by decide +kernel
theorem d_Expander_readCodes_99 : decode prog_3_method_5_code 99 = .ok (.iconst 0, 1) := by decide +kernel
theorem d_Expander_readCodes_100 : decode prog_3_method_5_code 100 = .ok (.getstatic 40, 3) := by decide +kernel
theorem k_239 : (Jvm.Cond.fieldLink "PackageBook$Expander" (40 : Nat) "PackageBook$Expander" "THIRD_ORDER" "[I") ∈ uW := uW_of 239 (by decide +kernel) (by decide +kernel)
theorem d_Expander_readCodes_103 : decode prog_3_method_5_code 103 = .ok (.arraylength, 1) := by decide +kernel
theorem d_Expander_readCodes_104 : decode prog_3_method_5_code 104 = .ok (.invokevirtual 54, 3) := by decide +kernel
theorem k_244 : (Jvm.Cond.methodLink "PackageBook$Expander" (54 : Nat) ({ cls := "PackageBook$Code", name := "tell", desc := "([III)V" } : Jvm.MethodName)) ∈ uW := uW_of 244 (by decide +kernel) (by decide +kernel)
theorem k_122 : (Jvm.Cond.initialized "PackageBook$Code") ∈ uW := uW_of 122 (by decide +kernel) (by decide +kernel)
theorem k_247 : (Jvm.Cond.code ({ cls := "PackageBook$Code", name := "tell", desc := "([III)V" } : Jvm.MethodName) prog_2_method_2_code (7 : Nat) (Option.none : Option Jvm.ClassFile.FieldType)) ∈ uW := uW_of 247 (by decide +kernel) (by decide +kernel)
theorem k_245 : (Jvm.Cond.instanceMethod ({ cls := "PackageBook$Code", name := "tell", desc := "([III)V" } : Jvm.MethodName)) ∈ uW := uW_of 245 (by decide +kernel) (by decide +kernel)
theorem k_246 : (Jvm.Cond.selects "PackageBook$Code" ({ cls := "PackageBook$Code", name := "tell", desc := "([III)V" } : Jvm.MethodName) ({ cls := "PackageBook$Code", name := "tell", desc := "([III)V" } : Jvm.MethodName)) ∈ uW := uW_of 246 (by decide +kernel) (by decide +kernel)
theorem hy_Code_tell : (y_Code_tell).cls ≠ "java/lang/invoke/MethodHandle" ∧ (y_Code_tell).cls ≠ "java/lang/invoke/VarHandle" ∧ (parseMethodDescriptor (y_Code_tell).desc).map (fun d => d.parameters.length) = some 3 := by decide +kernel
theorem d_Expander_readCodes_122 : decode prog_3_method_5_code 122 = .ok (.aload_n 0, 1) := by decide +kernel
theorem d_Expander_readCodes_123 : decode prog_3_method_5_code 123 = .ok (.iload_n 1, 1) := by decide +kernel
theorem d_Expander_readCodes_124 : decode prog_3_method_5_code 124 = .ok (.iload_n 2, 1) := by decide +kernel
theorem d_Expander_readCodes_125 : decode prog_3_method_5_code 125 = .ok (.iadd, 1) := by decide +kernel
theorem d_Expander_readCodes_126 : decode prog_3_method_5_code 126 = .ok (.invokevirtual 102, 3) := by decide +kernel
theorem k_682 : (Jvm.Cond.methodLink "PackageBook$Expander" (102 : Nat) ({ cls := "PackageBook$Expander", name := "readTold", desc := "(I)V" } : Jvm.MethodName)) ∈ uW := uW_of 682 (by decide +kernel) (by decide +kernel)
theorem k_685 : (Jvm.Cond.code ({ cls := "PackageBook$Expander", name := "readTold", desc := "(I)V" } : Jvm.MethodName) prog_3_method_6_code (7 : Nat) (Option.none : Option Jvm.ClassFile.FieldType)) ∈ uW := uW_of 685 (by decide +kernel) (by decide +kernel)
theorem k_684 : (Jvm.Cond.instanceMethod ({ cls := "PackageBook$Expander", name := "readTold", desc := "(I)V" } : Jvm.MethodName)) ∈ uW := uW_of 684 (by decide +kernel) (by decide +kernel)
theorem k_25 : Cond.selects "PackageBook$Expander" ⟨"PackageBook$Expander", "readTold", "(I)V"⟩ ⟨"PackageBook$Expander", "readTold", "(I)V"⟩ ∈ uW := uW_of 25 (by decide +kernel) (by decide +kernel)
theorem hy_Expander_readTold : (y_Expander_readTold).cls ≠ "java/lang/invoke/MethodHandle" ∧ (y_Expander_readTold).cls ≠ "java/lang/invoke/VarHandle" ∧ (parseMethodDescriptor (y_Expander_readTold).desc).map (fun d => d.parameters.length) = some 1 := by decide +kernel
theorem d_Expander_readCodes_129 : decode prog_3_method_5_code 129 = .ok (.aload_n 0, 1) := by decide +kernel
theorem d_Expander_readCodes_130 : decode prog_3_method_5_code 130 = .ok (.getfield 34, 3) := by decide +kernel
theorem k_254 : (Jvm.Cond.fieldLink "PackageBook$Expander" (34 : Nat) "PackageBook$Expander" "first" "LPackageBook$Code;") ∈ uW := uW_of 254 (by decide +kernel) (by decide +kernel)
theorem d_Expander_readCodes_133 : decode prog_3_method_5_code 133 = .ok (.aload_n 0, 1) := by decide +kernel
theorem d_Expander_readCodes_134 : decode prog_3_method_5_code 134 = .ok (.getfield 20, 3) := by decide +kernel
theorem d_Expander_readCodes_137 : decode prog_3_method_5_code 137 = .ok (.iconst 0, 1) := by decide +kernel
theorem d_Expander_readCodes_138 : decode prog_3_method_5_code 138 = .ok (.iload_n 1, 1) := by decide +kernel
theorem d_Expander_readCodes_139 : decode prog_3_method_5_code 139 = .ok (.invokevirtual 54, 3) := by decide +kernel
theorem d_Expander_readCodes_142 : decode prog_3_method_5_code 142 = .ok (.aload_n 0, 1) := by decide +kernel
theorem d_Expander_readCodes_143 : decode prog_3_method_5_code 143 = .ok (.getfield 37, 3) := by decide +kernel
theorem k_255 : (Jvm.Cond.fieldLink "PackageBook$Expander" (37 : Nat) "PackageBook$Expander" "second" "LPackageBook$Code;") ∈ uW := uW_of 255 (by decide +kernel) (by decide +kernel)
theorem d_Expander_readCodes_146 : decode prog_3_method_5_code 146 = .ok (.aload_n 0, 1) := by decide +kernel
theorem d_Expander_readCodes_147 : decode prog_3_method_5_code 147 = .ok (.getfield 20, 3) := by decide +kernel
theorem d_Expander_readCodes_150 : decode prog_3_method_5_code 150 = .ok (.iload_n 1, 1) := by decide +kernel
theorem d_Expander_readCodes_151 : decode prog_3_method_5_code 151 = .ok (.iload_n 2, 1) := by decide +kernel
theorem d_Expander_readCodes_152 : decode prog_3_method_5_code 152 = .ok (.invokevirtual 54, 3) := by decide +kernel
theorem d_Expander_readCodes_155 : decode prog_3_method_5_code 155 = .ok (.aload_n 0, 1) := by decide +kernel
theorem d_Expander_readCodes_156 : decode prog_3_method_5_code 156 = .ok (.getfield 34, 3) := by decide +kernel
theorem d_Expander_readCodes_159 : decode prog_3_method_5_code 159 = .ok (.invokevirtual 98, 3) := by decide +kernel
theorem k_678 : (Jvm.Cond.methodLink "PackageBook$Expander" (98 : Nat) ({ cls := "PackageBook$Code", name := "isRight", desc := "()Z" } : Jvm.MethodName)) ∈ uW := uW_of 678 (by decide +kernel) (by decide +kernel)
theorem k_681 : (Jvm.Cond.code ({ cls := "PackageBook$Code", name := "isRight", desc := "()Z" } : Jvm.MethodName) prog_2_method_3_code (3 : Nat) (Option.some Jvm.ClassFile.FieldType.boolean)) ∈ uW := uW_of 681 (by decide +kernel) (by decide +kernel)
theorem k_679 : (Jvm.Cond.instanceMethod ({ cls := "PackageBook$Code", name := "isRight", desc := "()Z" } : Jvm.MethodName)) ∈ uW := uW_of 679 (by decide +kernel) (by decide +kernel)
theorem k_680 : (Jvm.Cond.selects "PackageBook$Code" ({ cls := "PackageBook$Code", name := "isRight", desc := "()Z" } : Jvm.MethodName) ({ cls := "PackageBook$Code", name := "isRight", desc := "()Z" } : Jvm.MethodName)) ∈ uW := uW_of 680 (by decide +kernel) (by decide +kernel)
theorem hy_Code_isRight : (y_Code_isRight).cls ≠ "java/lang/invoke/MethodHandle" ∧ (y_Code_isRight).cls ≠ "java/lang/invoke/VarHandle" ∧ (parseMethodDescriptor (y_Code_isRight).desc).map (fun d => d.parameters.length) = some 0 := by decide +kernel
theorem d_Expander_readCodes_162 : decode prog_3_method_5_code 162 = .ok (.ifCond .eq 34, 3) := by decide +kernel
theorem d_Expander_readCodes_196 : decode prog_3_method_5_code 196 = .ok (.aload_n 0, 1) := by decide +kernel
theorem d_Expander_readCodes_197 : decode prog_3_method_5_code 197 = .ok (.iconst 4, 1) := by decide +kernel
theorem d_Expander_readCodes_198 : decode prog_3_method_5_code 198 = .ok (.invokevirtual 85, 3) := by decide +kernel
theorem d_Expander_readCodes_201 : decode prog_3_method_5_code 201 = .ok (.return_, 1) := by decide +kernel
theorem d_Expander_readCodes_165 : decode prog_3_method_5_code 165 = .ok (.aload_n 0, 1) := by decide +kernel
theorem d_Expander_readCodes_166 : decode prog_3_method_5_code 166 = .ok (.getfield 20, 3) := by decide +kernel
theorem d_Expander_readCodes_169 : decode prog_3_method_5_code 169 = .ok (.sipush 256, 3) := by decide +kernel
theorem d_Expander_readCodes_172 : decode prog_3_method_5_code 172 = .ok (.iaload, 1) := by decide +kernel
theorem d_Expander_readCodes_173 : decode prog_3_method_5_code 173 = .ok (.ifCond .eq 23, 3) := by decide +kernel
theorem d_Expander_readCodes_176 : decode prog_3_method_5_code 176 = .ok (.aload_n 0, 1) := by decide +kernel
theorem d_Expander_readCodes_177 : decode prog_3_method_5_code 177 = .ok (.getfield 37, 3) := by decide +kernel
theorem d_Expander_readCodes_180 : decode prog_3_method_5_code 180 = .ok (.getfield 105, 3) := by decide +kernel
theorem d_Expander_readCodes_183 : decode prog_3_method_5_code 183 = .ok (.ifCond .le 18, 3) := by decide +kernel
theorem d_Expander_readCodes_186 : decode prog_3_method_5_code 186 = .ok (.aload_n 0, 1) := by decide +kernel
theorem d_Expander_readCodes_187 : decode prog_3_method_5_code 187 = .ok (.getfield 37, 3) := by decide +kernel
theorem d_Expander_readCodes_190 : decode prog_3_method_5_code 190 = .ok (.invokevirtual 98, 3) := by decide +kernel
theorem d_Expander_readCodes_193 : decode prog_3_method_5_code 193 = .ok (.ifCond .ne 8, 3) := by decide +kernel
theorem d_Expander_readCodes_107 : decode prog_3_method_5_code 107 = .ok (.aload_n 0, 1) := by decide +kernel
theorem d_Expander_readCodes_108 : decode prog_3_method_5_code 108 = .ok (.getfield 43, 3) := by decide +kernel
theorem d_Expander_readCodes_111 : decode prog_3_method_5_code 111 = .ok (.invokevirtual 98, 3) := by decide +kernel
theorem d_Expander_readCodes_114 : decode prog_3_method_5_code 114 = .ok (.ifCond .ne 8, 3) := by decide +kernel
theorem d_Expander_readCodes_117 : decode prog_3_method_5_code 117 = .ok (.aload_n 0, 1) := by decide +kernel
theorem d_Expander_readCodes_118 : decode prog_3_method_5_code 118 = .ok (.iconst 4, 1) := by decide +kernel
theorem d_Expander_readCodes_119 : decode prog_3_method_5_code 119 = .ok (.invokevirtual 85, 3) := by decide +kernel
theorem d_Expander_readCodes_69 : decode prog_3_method_5_code 69 = .ok (.aload_n 0, 1) := by decide +kernel
theorem d_Expander_readCodes_70 : decode prog_3_method_5_code 70 = .ok (.getfield 20, 3) := by decide +kernel
theorem d_Expander_readCodes_73 : decode prog_3_method_5_code 73 = .ok (.getstatic 40, 3) := by decide +kernel
theorem d_Expander_readCodes_76 : decode prog_3_method_5_code 76 = .ok (.iload 4, 2) := by decide +kernel
theorem d_Expander_readCodes_78 : decode prog_3_method_5_code 78 = .ok (.iaload, 1) := by decide +kernel
theorem d_Expander_readCodes_79 : decode prog_3_method_5_code 79 = .ok (.aload_n 0, 1) := by decide +kernel
theorem d_Expander_readCodes_80 : decode prog_3_method_5_code 80 = .ok (.iconst 3, 1) := by decide +kernel
theorem d_Expander_readCodes_81 : decode prog_3_method_5_code 81 = .ok (.invokevirtual 71, 3) := by decide +kernel
theorem d_Expander_readCodes_84 : decode prog_3_method_5_code 84 = .ok (.iastore, 1) := by decide +kernel
theorem d_Expander_readCodes_85 : decode prog_3_method_5_code 85 = .ok (.iinc 4 1, 3) := by decide +kernel
theorem d_Expander_readCodes_88 : decode prog_3_method_5_code 88 = .ok (.goto (-25), 3) := by decide +kernel
theorem d_Expander_readCodes_51 : decode prog_3_method_5_code 51 = .ok (.return_, 1) := by decide +kernel
theorem d_Expander_readCodes_26 : decode prog_3_method_5_code 26 = .ok (.iload_n 1, 1) := by decide +kernel
theorem d_Expander_readCodes_27 : decode prog_3_method_5_code 27 = .ok (.sipush 286, 3) := by decide +kernel
theorem d_Expander_readCodes_30 : decode prog_3_method_5_code 30 = .ok (.if_icmp .gt 9, 3) := by decide +kernel
theorem d_Expander_readCodes_39 : decode prog_3_method_5_code 39 = .ok (.aload_n 0, 1) := by decide +kernel
theorem d_Expander_readCodes_40 : decode prog_3_method_5_code 40 = .ok (.iconst 4, 1) := by decide +kernel
theorem d_Expander_readCodes_41 : decode prog_3_method_5_code 41 = .ok (.invokevirtual 85, 3) := by decide +kernel
theorem d_Expander_readCodes_33 : decode prog_3_method_5_code 33 = .ok (.iload_n 2, 1) := by decide +kernel
theorem d_Expander_readCodes_34 : decode prog_3_method_5_code 34 = .ok (.bipush 30, 2) := by decide +kernel
theorem d_Expander_readCodes_36 : decode prog_3_method_5_code 36 = .ok (.if_icmp .le 8, 3) := by decide +kernel
abbrev y_Expander_readCodes : MethodName := ⟨"PackageBook$Expander", "readCodes", "()V"⟩
abbrev i_Expander_readCodes : pb_I := (y_Expander_readCodes, prog_3_method_5_code, 5, (Option.none : Option Jvm.ClassFile.FieldType), [], { frames := 2, cells := 0, slots := 0, locals := 52 })
set_option maxRecDepth 100000 in
set_option maxHeartbeats 4000000 in
theorem g_Exp_readCodes {l : Launch} (hl : l.stackTraces = false) (G : pb_G) (h : Nat) (ex : Nat) (et : Nat) (ea : Nat) (eb : Nat) (ec : Nat) (ed : Nat) (ef : Nat) (er : Nat) (at_ : Int32) (en : Int32) (fl : Int32) (N : Nat) (fr : Nat → Int32) (tf : Nat → Int32) (ef1 : Nat) (ef2 : Nat) (efs : Int32) (efc : Nat → Int32) (efy : Nat → Int32) (ec1 : Nat) (ec2 : Nat) (ecs : Int32) (ecc : Nat → Int32) (ecy : Nat → Int32) (ed1 : Nat) (ed2 : Nat) (eds : Int32) (edc : Nat → Int32) (edy : Nat → Int32) (a0 : 0 ≤ at_.toInt) (a1 : at_.toInt ≤ en.toInt) (a2 : en.toInt ≤ 8 * N) (a3 : N ≤ 100000) (a4 : 0 ≤ fl.toInt) (If : co_I efs.toInt efc efy 19) (Mf : efs.toInt ≤ 19) (Ic : co_I ecs.toInt ecc ecy 288) (Mc : ecs.toInt ≤ 286) (Id : co_I eds.toInt edc edy 32) (Md : eds.toInt ≤ 30) (F_fr : sb_Fit fr) : Cn l G i_Expander_readCodes [.ref h] [(h, .inr (5, [.ref ex, .ref et, .ref ea, .ref eb, .ref ec, .ref ed, .ref ef, .ref er, .int at_, .int en, .int fl])), (er, .inl (G.2.1, N, .inl fr)), (et, .inl (G.2.2.1, 316, .inl tf)), (ef, .inr (1, [.ref ef1, .ref ef2, .int efs])), (ef1, .inl (G.2.2.1, 16, .inl efc)), (ef2, .inl (G.2.2.1, 19, .inl efy)), (ec, .inr (1, [.ref ec1, .ref ec2, .int ecs])), (ec1, .inl (G.2.2.1, 16, .inl ecc)), (ec2, .inl (G.2.2.1, 286, .inl ecy)), (ed, .inr (1, [.ref ed1, .ref ed2, .int eds])), (ed1, .inl (G.2.2.1, 16, .inl edc)), (ed2, .inl (G.2.2.1, 30, .inl edy))] (S := Int32 × Int32 × (Nat → Int32) × Int32 × (Nat → Int32) × (Nat → Int32) × Int32 × (Nat → Int32) × (Nat → Int32) × Int32 × (Nat → Int32) × (Nat → Int32)) (fun rv_ u => rv_ = none ∧ (at_.toInt ≤ u.1.toInt) ∧ (u.1.toInt ≤ en.toInt) ∧ (0 ≤ u.2.1.toInt) ∧ (fl.toInt ≠ 0 → u.2.1.toInt ≠ 0) ∧ (co_I u.2.2.2.1.toInt u.2.2.2.2.1 u.2.2.2.2.2.1 19) ∧ (u.2.2.2.1.toInt ≤ 19) ∧ (co_I u.2.2.2.2.2.2.1.toInt u.2.2.2.2.2.2.2.1 u.2.2.2.2.2.2.2.2.1 288) ∧ (u.2.2.2.2.2.2.1.toInt ≤ 286) ∧ (co_I u.2.2.2.2.2.2.2.2.2.1.toInt u.2.2.2.2.2.2.2.2.2.2.1 u.2.2.2.2.2.2.2.2.2.2.2 32) ∧ (u.2.2.2.2.2.2.2.2.2.1.toInt ≤ 30)) (fun u => [(h, .inr (5, [.ref ex, .ref et, .ref ea, .ref eb, .ref ec, .ref ed, .ref ef, .ref er, .int u.1, .int en, .int u.2.1])), (er, .inl (G.2.1, N, .inl fr)), (et, .inl (G.2.2.1, 316, .inl u.2.2.1)), (ef, .inr (1, [.ref ef1, .ref ef2, .int u.2.2.2.1])), (ef1, .inl (G.2.2.1, 16, .inl u.2.2.2.2.1)), (ef2, .inl (G.2.2.1, 19, .inl u.2.2.2.2.2.1)), (ec, .inr (1, [.ref ec1, .ref ec2, .int u.2.2.2.2.2.2.1])), (ec1, .inl (G.2.2.1, 16, .inl u.2.2.2.2.2.2.2.1)), (ec2, .inl (G.2.2.1, 286, .inl u.2.2.2.2.2.2.2.2.1)), (ed, .inr (1, [.ref ed1, .ref ed2, .int u.2.2.2.2.2.2.2.2.2.1])), (ed1, .inl (G.2.2.1, 16, .inl u.2.2.2.2.2.2.2.2.2.2.1)), (ed2, .inl (G.2.2.1, 30, .inl u.2.2.2.2.2.2.2.2.2.2.2))]) := by
  refine Cn.of hl (by decide +kernel) rfl (Nat.le_of_ble_eq_true rfl) (fun M hQ => ?_)
  refine pb_eq (pc' := 0) (lo' := [(0, .ref h)]) (rest' := []) (ws' := [(h, .inr (5, [.ref ex, .ref et, .ref ea, .ref eb, .ref ec, .ref ed, .ref ef, .ref er, .int at_, .int en, .int fl])), (er, .inl (G.2.1, N, .inl fr)), (et, .inl (G.2.2.1, 316, .inl tf)), (ef, .inr (1, [.ref ef1, .ref ef2, .int efs])), (ef1, .inl (G.2.2.1, 16, .inl efc)), (ef2, .inl (G.2.2.1, 19, .inl efy)), (ec, .inr (1, [.ref ec1, .ref ec2, .int ecs])), (ec1, .inl (G.2.2.1, 16, .inl ecc)), (ec2, .inl (G.2.2.1, 286, .inl ecy)), (ed, .inr (1, [.ref ed1, .ref ed2, .int eds])), (ed1, .inl (G.2.2.1, 16, .inl edc)), (ed2, .inl (G.2.2.1, 30, .inl edy))]) ?_
  have zl0 : (0 : Int32).toInt = 0 := by decide
  have zl1 : (1 : Int32).toInt = 1 := by decide
  have zl3 : (3 : Int32).toInt = 3 := by decide
  have zl4 : (4 : Int32).toInt = 4 := by decide
  have zl5 : (5 : Int32).toInt = 5 := by decide
  have zl257 : (257 : Int32).toInt = 257 := by decide
  have w5 : p2 (5 : Int32).toInt = 32 := by decide
  have w4 : p2 (4 : Int32).toInt = 16 := by decide
  have w3 : p2 (3 : Int32).toInt = 8 := by decide
  have zl19 : (19 : Int32).toInt = 19 := by decide
  refine pb_sipush (pc := 0) (v := 257) d_Expander_readCodes_0 (by decide) ?_
  refine pb_aload_n (pc := 3) d_Expander_readCodes_3 0 rfl rfl ?_
  refine pb_iconst (pc := 4) (v := 5) d_Expander_readCodes_4 (by decide) ?_
  refine pb_callV (pc := 5) (I := i_Expander_readCodes) (qb := 0) (ci := 5) (nA := 1) (rest := [.int 257]) (wr := [(et, .inl (G.2.2.1, 316, .inl tf)), (ef, .inr (1, [.ref ef1, .ref ef2, .int efs])), (ef1, .inl (G.2.2.1, 16, .inl efc)), (ef2, .inl (G.2.2.1, 19, .inl efy)), (ec, .inr (1, [.ref ec1, .ref ec2, .int ecs])), (ec1, .inl (G.2.2.1, 16, .inl ecc)), (ec2, .inl (G.2.2.1, 286, .inl ecy)), (ed, .inr (1, [.ref ed1, .ref ed2, .int eds])), (ed1, .inl (G.2.2.1, 16, .inl edc)), (ed2, .inl (G.2.2.1, 30, .inl edy))]) d_Expander_readCodes_5 (g_Exp_number hl G h ex et ea eb ec ed ef er at_ en fl N fr 5 (by first | assumption | omega (splitDisjunctions := false) | omega | decide) (by first | assumption | omega (splitDisjunctions := false) | omega | decide) (by first | assumption | omega (splitDisjunctions := false) | omega | decide) (by first | assumption | omega (splitDisjunctions := false) | omega | decide) (by first | assumption | omega (splitDisjunctions := false) | omega | decide) (by first | assumption | omega (splitDisjunctions := false) | omega | decide) (by first | assumption | omega (splitDisjunctions := false) | omega | decide) F_fr) rfl rfl [0, 1] [2, 3, 4, 5, 6, 7, 8, 9, 10, 11] (by decide) rfl rfl rfl (by decide) (by decide) k_634 rfl k_121 k_631 k_633 k_17 ⟨rfl, hy_Expander_number⟩ (by decide) rfl rfl (Nat.le_of_ble_eq_true rfl) (by decide) (fun v9 u2 ch1 => ?_)
  obtain ⟨r_3, a2__4, f2__5⟩ := u2
  obtain ⟨ech1, ch1⟩ := ch1
  have ech1 : v9 = some (.int r_3) := ech1
  subst ech1
  obtain ⟨fh6, fh7, fh8, fh9, fh10, fh11, fh12⟩ : (0 ≤ r_3.toInt) ∧ (r_3.toInt < p2 (5 : Int32).toInt) ∧ (r_3.toInt ≤ 65535) ∧ (at_.toInt ≤ a2__4.toInt) ∧ (a2__4.toInt ≤ en.toInt) ∧ (0 ≤ f2__5.toInt) ∧ (fl.toInt ≠ 0 → f2__5.toInt ≠ 0) := ch1
  refine pb_eq (pc' := 8) (lo' := [(0, .ref h)]) (rest' := [.int r_3, .int 257]) (ws' := [(et, .inl (G.2.2.1, 316, .inl tf)), (ef, .inr (1, [.ref ef1, .ref ef2, .int efs])), (ef1, .inl (G.2.2.1, 16, .inl efc)), (ef2, .inl (G.2.2.1, 19, .inl efy)), (ec, .inr (1, [.ref ec1, .ref ec2, .int ecs])), (ec1, .inl (G.2.2.1, 16, .inl ecc)), (ec2, .inl (G.2.2.1, 286, .inl ecy)), (ed, .inr (1, [.ref ed1, .ref ed2, .int eds])), (ed1, .inl (G.2.2.1, 16, .inl edc)), (ed2, .inl (G.2.2.1, 30, .inl edy)), (h, .inr (5, [.ref ex, .ref et, .ref ea, .ref eb, .ref ec, .ref ed, .ref ef, .ref er, .int a2__4, .int en, .int f2__5])), (er, .inl (G.2.1, N, .inl fr))]) ?_
  refine pb_iadd (pc := 8) d_Expander_readCodes_8 ?_
  refine pb_topi (fun i13 ei13 => ?_)
  try have ti13 : i13.toInt = 257 + r_3.toInt := t2_add ei13 (by decide) rfl (by omega)
  refine pb_istore_n (pc := 9) (lo' := [(1, .int i13), (0, .ref h)]) d_Expander_readCodes_9 rfl (by decide) rfl ?_
  refine pb_iconst (pc := 10) (v := 1) d_Expander_readCodes_10 (by decide) ?_
  refine pb_aload_n (pc := 11) d_Expander_readCodes_11 1 rfl rfl ?_
  refine pb_iconst (pc := 12) (v := 5) d_Expander_readCodes_12 (by decide) ?_
  refine pb_callV (pc := 13) (I := i_Expander_readCodes) (qb := 10) (ci := 5) (nA := 1) (rest := [.int 1]) (wr := [(et, .inl (G.2.2.1, 316, .inl tf)), (ef, .inr (1, [.ref ef1, .ref ef2, .int efs])), (ef1, .inl (G.2.2.1, 16, .inl efc)), (ef2, .inl (G.2.2.1, 19, .inl efy)), (ec, .inr (1, [.ref ec1, .ref ec2, .int ecs])), (ec1, .inl (G.2.2.1, 16, .inl ecc)), (ec2, .inl (G.2.2.1, 286, .inl ecy)), (ed, .inr (1, [.ref ed1, .ref ed2, .int eds])), (ed1, .inl (G.2.2.1, 16, .inl edc)), (ed2, .inl (G.2.2.1, 30, .inl edy))]) d_Expander_readCodes_13 (g_Exp_number hl G h ex et ea eb ec ed ef er a2__4 en f2__5 N fr 5 (by first | assumption | omega (splitDisjunctions := false) | omega | decide) (by first | assumption | omega (splitDisjunctions := false) | omega | decide) (by first | assumption | omega (splitDisjunctions := false) | omega | decide) (by first | assumption | omega (splitDisjunctions := false) | omega | decide) (by first | assumption | omega (splitDisjunctions := false) | omega | decide) (by first | assumption | omega (splitDisjunctions := false) | omega | decide) (by first | assumption | omega (splitDisjunctions := false) | omega | decide) F_fr) rfl rfl [10, 11] [0, 1, 2, 3, 4, 5, 6, 7, 8, 9] (by decide) rfl rfl rfl (by decide) (by decide) k_634 rfl k_121 k_631 k_633 k_17 ⟨rfl, hy_Expander_number⟩ (by decide) rfl rfl (Nat.le_of_ble_eq_true rfl) (by decide) (fun v9 u15 ch14 => ?_)
  obtain ⟨r_16, a2__17, f2__18⟩ := u15
  obtain ⟨ech14, ch14⟩ := ch14
  have ech14 : v9 = some (.int r_16) := ech14
  subst ech14
  obtain ⟨fh19, fh20, fh21, fh22, fh23, fh24, fh25⟩ : (0 ≤ r_16.toInt) ∧ (r_16.toInt < p2 (5 : Int32).toInt) ∧ (r_16.toInt ≤ 65535) ∧ (a2__4.toInt ≤ a2__17.toInt) ∧ (a2__17.toInt ≤ en.toInt) ∧ (0 ≤ f2__18.toInt) ∧ (f2__5.toInt ≠ 0 → f2__18.toInt ≠ 0) := ch14
  refine pb_eq (pc' := 16) (lo' := [(1, .int i13), (0, .ref h)]) (rest' := [.int r_16, .int 1]) (ws' := [(et, .inl (G.2.2.1, 316, .inl tf)), (ef, .inr (1, [.ref ef1, .ref ef2, .int efs])), (ef1, .inl (G.2.2.1, 16, .inl efc)), (ef2, .inl (G.2.2.1, 19, .inl efy)), (ec, .inr (1, [.ref ec1, .ref ec2, .int ecs])), (ec1, .inl (G.2.2.1, 16, .inl ecc)), (ec2, .inl (G.2.2.1, 286, .inl ecy)), (ed, .inr (1, [.ref ed1, .ref ed2, .int eds])), (ed1, .inl (G.2.2.1, 16, .inl edc)), (ed2, .inl (G.2.2.1, 30, .inl edy)), (h, .inr (5, [.ref ex, .ref et, .ref ea, .ref eb, .ref ec, .ref ed, .ref ef, .ref er, .int a2__17, .int en, .int f2__18])), (er, .inl (G.2.1, N, .inl fr))]) ?_
  refine pb_iadd (pc := 16) d_Expander_readCodes_16 ?_
  refine pb_topi (fun i26 ei26 => ?_)
  try have ti26 : i26.toInt = 1 + r_16.toInt := t2_add ei26 (by decide) rfl (by omega)
  refine pb_istore_n (pc := 17) (lo' := [(2, .int i26), (1, .int i13), (0, .ref h)]) d_Expander_readCodes_17 rfl (by decide) rfl ?_
  refine pb_iconst (pc := 18) (v := 4) d_Expander_readCodes_18 (by decide) ?_
  refine pb_aload_n (pc := 19) d_Expander_readCodes_19 2 rfl rfl ?_
  refine pb_iconst (pc := 20) (v := 4) d_Expander_readCodes_20 (by decide) ?_
  refine pb_callV (pc := 21) (I := i_Expander_readCodes) (qb := 10) (ci := 5) (nA := 1) (rest := [.int 4]) (wr := [(et, .inl (G.2.2.1, 316, .inl tf)), (ef, .inr (1, [.ref ef1, .ref ef2, .int efs])), (ef1, .inl (G.2.2.1, 16, .inl efc)), (ef2, .inl (G.2.2.1, 19, .inl efy)), (ec, .inr (1, [.ref ec1, .ref ec2, .int ecs])), (ec1, .inl (G.2.2.1, 16, .inl ecc)), (ec2, .inl (G.2.2.1, 286, .inl ecy)), (ed, .inr (1, [.ref ed1, .ref ed2, .int eds])), (ed1, .inl (G.2.2.1, 16, .inl edc)), (ed2, .inl (G.2.2.1, 30, .inl edy))]) d_Expander_readCodes_21 (g_Exp_number hl G h ex et ea eb ec ed ef er a2__17 en f2__18 N fr 4 (by first | assumption | omega (splitDisjunctions := false) | omega | decide) (by first | assumption | omega (splitDisjunctions := false) | omega | decide) (by first | assumption | omega (splitDisjunctions := false) | omega | decide) (by first | assumption | omega (splitDisjunctions := false) | omega | decide) (by first | assumption | omega (splitDisjunctions := false) | omega | decide) (by first | assumption | omega (splitDisjunctions := false) | omega | decide) (by first | assumption | omega (splitDisjunctions := false) | omega | decide) F_fr) rfl rfl [10, 11] [0, 1, 2, 3, 4, 5, 6, 7, 8, 9] (by decide) rfl rfl rfl (by decide) (by decide) k_634 rfl k_121 k_631 k_633 k_17 ⟨rfl, hy_Expander_number⟩ (by decide) rfl rfl (Nat.le_of_ble_eq_true rfl) (by decide) (fun v9 u28 ch27 => ?_)
  obtain ⟨r_29, a2__30, f2__31⟩ := u28
  obtain ⟨ech27, ch27⟩ := ch27
  have ech27 : v9 = some (.int r_29) := ech27
  subst ech27
  obtain ⟨fh32, fh33, fh34, fh35, fh36, fh37, fh38⟩ : (0 ≤ r_29.toInt) ∧ (r_29.toInt < p2 (4 : Int32).toInt) ∧ (r_29.toInt ≤ 65535) ∧ (a2__17.toInt ≤ a2__30.toInt) ∧ (a2__30.toInt ≤ en.toInt) ∧ (0 ≤ f2__31.toInt) ∧ (f2__18.toInt ≠ 0 → f2__31.toInt ≠ 0) := ch27
  refine pb_eq (pc' := 24) (lo' := [(2, .int i26), (1, .int i13), (0, .ref h)]) (rest' := [.int r_29, .int 4]) (ws' := [(et, .inl (G.2.2.1, 316, .inl tf)), (ef, .inr (1, [.ref ef1, .ref ef2, .int efs])), (ef1, .inl (G.2.2.1, 16, .inl efc)), (ef2, .inl (G.2.2.1, 19, .inl efy)), (ec, .inr (1, [.ref ec1, .ref ec2, .int ecs])), (ec1, .inl (G.2.2.1, 16, .inl ecc)), (ec2, .inl (G.2.2.1, 286, .inl ecy)), (ed, .inr (1, [.ref ed1, .ref ed2, .int eds])), (ed1, .inl (G.2.2.1, 16, .inl edc)), (ed2, .inl (G.2.2.1, 30, .inl edy)), (h, .inr (5, [.ref ex, .ref et, .ref ea, .ref eb, .ref ec, .ref ed, .ref ef, .ref er, .int a2__30, .int en, .int f2__31])), (er, .inl (G.2.1, N, .inl fr))]) ?_
  refine pb_iadd (pc := 24) d_Expander_readCodes_24 ?_
  refine pb_topi (fun i39 ei39 => ?_)
  try have ti39 : i39.toInt = 4 + r_29.toInt := t2_add ei39 (by decide) rfl (by omega)
  refine pb_istore_n (pc := 25) (lo' := [(3, .int i39), (2, .int i26), (1, .int i13), (0, .ref h)]) d_Expander_readCodes_25 rfl (by decide) rfl ?_
  have hJ44_40 : ∀ (F1 : Int32) (F2 : Int32) (F3 : Int32) (a4_ : Int32) (f4 : Int32), (0 ≤ f4.toInt) → (fl.toInt ≠ 0 → f4.toInt ≠ 0) → (at_.toInt ≤ a4_.toInt) → (a4_.toInt ≤ en.toInt) → (257 ≤ F1.toInt) → (1 ≤ F2.toInt) → (4 ≤ F3.toInt) → (F3.toInt ≤ 19) → (f4.toInt = 0 → F1.toInt ≤ 286 ∧ F2.toInt ≤ 30) → pb_P l G M i_Expander_readCodes 44 [(1, .int F1), (2, .int F2), (3, .int F3), (0, .ref h)] [] [(h, .inr (5, [.ref ex, .ref et, .ref ea, .ref eb, .ref ec, .ref ed, .ref ef, .ref er, .int a4_, .int en, .int f4])), (er, .inl (G.2.1, N, .inl fr)), (et, .inl (G.2.2.1, 316, .inl tf)), (ef, .inr (1, [.ref ef1, .ref ef2, .int efs])), (ef1, .inl (G.2.2.1, 16, .inl efc)), (ef2, .inl (G.2.2.1, 19, .inl efy)), (ec, .inr (1, [.ref ec1, .ref ec2, .int ecs])), (ec1, .inl (G.2.2.1, 16, .inl ecc)), (ec2, .inl (G.2.2.1, 286, .inl ecy)), (ed, .inr (1, [.ref ed1, .ref ed2, .int eds])), (ed1, .inl (G.2.2.1, 16, .inl edc)), (ed2, .inl (G.2.2.1, 30, .inl edy))] 0 0 := by
    intro F1 F2 F3 a4_ f4 g0 g1 g2 g3 o0 o3 o5 o6 o7
    refine pb_aload_n (pc := 44) d_Expander_readCodes_44 3 rfl rfl ?_
    refine pb_get (pc := 45) d_Expander_readCodes_45 0 10 rfl rfl (by decide) in_Expander k_260 rfl ?_
    refine pb_if_eq (pc := 48) (tgt := 52) d_Expander_readCodes_48 (by decide) (fun w41 => ?_) (fun w41 => ?_)
    · have tw41 : f4.toInt = 0 := (ti_eq rfl (by decide)).mp w41
      refine pb_aload_n (pc := 52) d_Expander_readCodes_52 3 rfl rfl ?_
      refine pb_get (pc := 53) d_Expander_readCodes_53 0 1 rfl rfl (by decide) in_Expander k_251 rfl ?_
      refine pb_iconst (pc := 56) (v := 0) d_Expander_readCodes_56 (by decide) ?_
      refine pb_callS (pc := 57) (I := i_Expander_readCodes) (nA := 2) (rest := []) (wr := [(h, .inr (5, [.ref ex, .ref et, .ref ea, .ref eb, .ref ec, .ref ed, .ref ef, .ref er, .int a4_, .int en, .int f4])), (er, .inl (G.2.1, N, .inl fr)), (ef, .inr (1, [.ref ef1, .ref ef2, .int efs])), (ef1, .inl (G.2.2.1, 16, .inl efc)), (ef2, .inl (G.2.2.1, 19, .inl efy)), (ec, .inr (1, [.ref ec1, .ref ec2, .int ecs])), (ec1, .inl (G.2.2.1, 16, .inl ecc)), (ec2, .inl (G.2.2.1, 286, .inl ecy)), (ed, .inr (1, [.ref ed1, .ref ed2, .int eds])), (ed1, .inl (G.2.2.1, 16, .inl edc)), (ed2, .inl (G.2.2.1, 30, .inl edy))]) d_Expander_readCodes_57 (g_fill hl G et 316 tf 0 (by first | assumption | omega (splitDisjunctions := false) | omega | decide)) [2] [0, 1, 3, 4, 5, 6, 7, 8, 9, 10, 11] (by decide) rfl rfl rfl (by decide) (by decide) k_504 rfl k_136 k_677 k_503 hy_JArrays_fill (by decide) rfl rfl (Nat.le_of_ble_eq_true rfl) (by decide) (fun v9 u43 ch42 => ?_)
      obtain ⟨f_44, rfl⟩ : ∃ z9, z9 = u43 := ⟨_, rfl⟩
      obtain ⟨ech42, ch42⟩ := ch42
      have ech42 : v9 = none := ech42
      subst ech42
      have fh45 : ∀ x : Int, 0 ≤ x → x < 316 → gx f_44 x = (0 : Int32).toInt := ch42
      refine pb_eq (pc' := 60) (lo' := [(1, .int F1), (2, .int F2), (3, .int F3), (0, .ref h)]) (rest' := []) (ws' := [(h, .inr (5, [.ref ex, .ref et, .ref ea, .ref eb, .ref ec, .ref ed, .ref ef, .ref er, .int a4_, .int en, .int f4])), (er, .inl (G.2.1, N, .inl fr)), (ef, .inr (1, [.ref ef1, .ref ef2, .int efs])), (ef1, .inl (G.2.2.1, 16, .inl efc)), (ef2, .inl (G.2.2.1, 19, .inl efy)), (ec, .inr (1, [.ref ec1, .ref ec2, .int ecs])), (ec1, .inl (G.2.2.1, 16, .inl ecc)), (ec2, .inl (G.2.2.1, 286, .inl ecy)), (ed, .inr (1, [.ref ed1, .ref ed2, .int eds])), (ed1, .inl (G.2.2.1, 16, .inl edc)), (ed2, .inl (G.2.2.1, 30, .inl edy)), (et, .inl (G.2.2.1, 316, .inl f_44))]) ?_
      refine pb_iconst (pc := 60) (v := 0) d_Expander_readCodes_60 (by decide) ?_
      refine pb_istore (pc := 61) (lo' := [(4, .int 0), (1, .int F1), (2, .int F2), (3, .int F3), (0, .ref h)]) d_Expander_readCodes_61 (by decide) rfl ?_
      have hL63_46 : ∀ (N9 : Nat) (k : Int32) (a5_ : Int32) (f5 : Int32) (t5 : Nat → Int32), (0 ≤ k.toInt) → (0 ≤ f5.toInt) → (fl.toInt ≠ 0 → f5.toInt ≠ 0) → (at_.toInt ≤ a5_.toInt) → (a5_.toInt ≤ en.toInt) → ((F3.toInt - k.toInt).toNat) < N9 → pb_P l G M i_Expander_readCodes 63 [(4, .int k), (1, .int F1), (2, .int F2), (3, .int F3), (0, .ref h)] [] [(h, .inr (5, [.ref ex, .ref et, .ref ea, .ref eb, .ref ec, .ref ed, .ref ef, .ref er, .int a5_, .int en, .int f5])), (er, .inl (G.2.1, N, .inl fr)), (et, .inl (G.2.2.1, 316, .inl t5)), (ef, .inr (1, [.ref ef1, .ref ef2, .int efs])), (ef1, .inl (G.2.2.1, 16, .inl efc)), (ef2, .inl (G.2.2.1, 19, .inl efy)), (ec, .inr (1, [.ref ec1, .ref ec2, .int ecs])), (ec1, .inl (G.2.2.1, 16, .inl ecc)), (ec2, .inl (G.2.2.1, 286, .inl ecy)), (ed, .inr (1, [.ref ed1, .ref ed2, .int eds])), (ed1, .inl (G.2.2.1, 16, .inl edc)), (ed2, .inl (G.2.2.1, 30, .inl edy))] 0 0 := by
        intro N9
        induction N9 with
        | zero => intro k a5_ f5 t5 k0 q0 q1 q2 q3 hm9; exact absurd hm9 (Nat.not_lt_zero _)
        | succ N9 ih63 =>
          intro k a5_ f5 t5 k0 q0 q1 q2 q3 hm9
          refine pb_iload (pc := 63) d_Expander_readCodes_63 0 rfl ?_
          refine pb_iload_n (pc := 65) d_Expander_readCodes_65 3 rfl rfl ?_
          refine pb_icmp_ge (pc := 66) (tgt := 91) d_Expander_readCodes_66 (by decide) (fun w47 => ?_) (fun w47 => ?_)
          · have tw47 : F3.toInt ≤ k.toInt := (ti_le rfl rfl).mp w47
            refine pb_aload_n (pc := 91) d_Expander_readCodes_91 4 rfl rfl ?_
            refine pb_get (pc := 92) d_Expander_readCodes_92 0 6 rfl rfl (by decide) in_Expander k_256 rfl ?_
            refine pb_aload_n (pc := 95) d_Expander_readCodes_95 4 rfl rfl ?_
            refine pb_get (pc := 96) d_Expander_readCodes_96 0 1 rfl rfl (by decide) in_Expander k_251 rfl ?_
            refine pb_iconst (pc := 99) (v := 0) d_Expander_readCodes_99 (by decide) ?_
            refine pb_gets3 (pc := 100) d_Expander_readCodes_100 k_239 (fun t48 ht48 => ?_)
            refine pb_tlen (pc := 103) (v := 19) ht48 (by decide) d_Expander_readCodes_103 ?_
            refine pb_callV (pc := 104) (I := i_Expander_readCodes) (qb := 3) (ci := 1) (nA := 3) (rest := []) (wr := [(h, .inr (5, [.ref ex, .ref et, .ref ea, .ref eb, .ref ec, .ref ed, .ref ef, .ref er, .int a5_, .int en, .int f5])), (er, .inl (G.2.1, N, .inl fr)), (ec, .inr (1, [.ref ec1, .ref ec2, .int ecs])), (ec1, .inl (G.2.2.1, 16, .inl ecc)), (ec2, .inl (G.2.2.1, 286, .inl ecy)), (ed, .inr (1, [.ref ed1, .ref ed2, .int eds])), (ed1, .inl (G.2.2.1, 16, .inl edc)), (ed2, .inl (G.2.2.1, 30, .inl edy))]) d_Expander_readCodes_104 (g_Code_tell hl G ef ef1 ef2 et 19 316 efs efc efy t5 0 19 (by first | assumption | omega (splitDisjunctions := false) | omega | decide) (by first | assumption | omega (splitDisjunctions := false) | omega | decide) (by first | assumption | omega (splitDisjunctions := false) | omega | decide) (by first | assumption | omega (splitDisjunctions := false) | omega | decide) (by first | assumption | omega (splitDisjunctions := false) | omega | decide) (by first | assumption | omega (splitDisjunctions := false) | omega | decide)) rfl rfl [3, 4, 5, 2] [0, 1, 6, 7, 8, 9, 10, 11] (by decide) rfl rfl rfl (by decide) (by decide) k_247 rfl k_122 k_244 k_245 k_246 ⟨rfl, hy_Code_tell⟩ (by decide) rfl rfl (Nat.le_of_ble_eq_true rfl) (by decide) (fun v9 u50 ch49 => ?_)
            obtain ⟨sz_51, fc_52, fy_53⟩ := u50
            obtain ⟨ech49, ch49⟩ := ch49
            have ech49 : v9 = none := ech49
            subst ech49
            obtain ⟨fh54, fh55⟩ : (co_I sz_51.toInt fc_52 fy_53 (19 : Int32).toInt) ∧ (sz_51.toInt ≤ (19 : Int32).toInt) := ch49
            have I3 := co_wide (b2 := 19) fh54 (by omega)
            refine pb_eq (pc' := 107) (lo' := [(4, .int k), (1, .int F1), (2, .int F2), (3, .int F3), (0, .ref h)]) (rest' := []) (ws' := [(h, .inr (5, [.ref ex, .ref et, .ref ea, .ref eb, .ref ec, .ref ed, .ref ef, .ref er, .int a5_, .int en, .int f5])), (er, .inl (G.2.1, N, .inl fr)), (ec, .inr (1, [.ref ec1, .ref ec2, .int ecs])), (ec1, .inl (G.2.2.1, 16, .inl ecc)), (ec2, .inl (G.2.2.1, 286, .inl ecy)), (ed, .inr (1, [.ref ed1, .ref ed2, .int eds])), (ed1, .inl (G.2.2.1, 16, .inl edc)), (ed2, .inl (G.2.2.1, 30, .inl edy)), (ef, .inr (1, [.ref ef1, .ref ef2, .int sz_51])), (ef1, .inl (G.2.2.1, 16, .inl fc_52)), (ef2, .inl (G.2.2.1, 19, .inl fy_53)), (et, .inl (G.2.2.1, 316, .inl t5))]) ?_
            have hJ122_56 : ∀ (a6_ : Int32) (f6 : Int32) (t6 : Nat → Int32) (efs6 : Int32) (efc6 : Nat → Int32) (efy6 : Nat → Int32), (0 ≤ f6.toInt) → (fl.toInt ≠ 0 → f6.toInt ≠ 0) → (at_.toInt ≤ a6_.toInt) → (a6_.toInt ≤ en.toInt) → (co_I efs6.toInt efc6 efy6 19) → (efs6.toInt ≤ 19) → pb_P l G M i_Expander_readCodes 122 [(1, .int F1), (2, .int F2), (0, .ref h)] [] [(h, .inr (5, [.ref ex, .ref et, .ref ea, .ref eb, .ref ec, .ref ed, .ref ef, .ref er, .int a6_, .int en, .int f6])), (er, .inl (G.2.1, N, .inl fr)), (et, .inl (G.2.2.1, 316, .inl t6)), (ef, .inr (1, [.ref ef1, .ref ef2, .int efs6])), (ef1, .inl (G.2.2.1, 16, .inl efc6)), (ef2, .inl (G.2.2.1, 19, .inl efy6)), (ec, .inr (1, [.ref ec1, .ref ec2, .int ecs])), (ec1, .inl (G.2.2.1, 16, .inl ecc)), (ec2, .inl (G.2.2.1, 286, .inl ecy)), (ed, .inr (1, [.ref ed1, .ref ed2, .int eds])), (ed1, .inl (G.2.2.1, 16, .inl edc)), (ed2, .inl (G.2.2.1, 30, .inl edy))] 0 0 := by
              intro a6_ f6 t6 efs6 efc6 efy6 r0 r1 r2 r3 If6 Mf6
              refine pb_aload_n (pc := 122) d_Expander_readCodes_122 2 rfl rfl ?_
              refine pb_iload_n (pc := 123) d_Expander_readCodes_123 0 rfl rfl ?_
              refine pb_iload_n (pc := 124) d_Expander_readCodes_124 1 rfl rfl ?_
              refine pb_iadd (pc := 125) d_Expander_readCodes_125 ?_
              refine pb_topi (fun i57 ei57 => ?_)
              try have ti57 : i57.toInt = F1.toInt + F2.toInt := t2_add ei57 rfl rfl (by omega)
              refine pb_callV (pc := 126) (I := i_Expander_readCodes) (qb := 0) (ci := 5) (nA := 1) (rest := []) (wr := [(ec, .inr (1, [.ref ec1, .ref ec2, .int ecs])), (ec1, .inl (G.2.2.1, 16, .inl ecc)), (ec2, .inl (G.2.2.1, 286, .inl ecy)), (ed, .inr (1, [.ref ed1, .ref ed2, .int eds])), (ed1, .inl (G.2.2.1, 16, .inl edc)), (ed2, .inl (G.2.2.1, 30, .inl edy))]) d_Expander_readCodes_126 (g_Exp_readTold hl G h ex et ea eb ec ed ef er a6_ en f6 N fr t6 ef1 ef2 efs6 efc6 efy6 i57 (by first | assumption | omega (splitDisjunctions := false) | omega | decide) (by first | assumption | omega (splitDisjunctions := false) | omega | decide) (by first | assumption | omega (splitDisjunctions := false) | omega | decide) (by first | assumption | omega (splitDisjunctions := false) | omega | decide) (by first | assumption | omega (splitDisjunctions := false) | omega | decide) (by first | assumption | decide | omega) (by first | assumption | omega (splitDisjunctions := false) | omega | decide) (by first | assumption | omega (splitDisjunctions := false) | omega | decide) (by first | assumption | omega (splitDisjunctions := false) | omega | decide) (by first | assumption | decide | omega)) rfl rfl [0, 1, 2, 3, 4, 5] [6, 7, 8, 9, 10, 11] (by decide) rfl rfl rfl (by decide) (by decide) k_685 rfl k_121 k_682 k_684 k_25 ⟨rfl, hy_Expander_readTold⟩ (by decide) rfl rfl (Nat.le_of_ble_eq_true rfl) (by decide) (fun v9 u59 ch58 => ?_)
              obtain ⟨a2__60, f2__61, tf_62⟩ := u59
              obtain ⟨ech58, ch58⟩ := ch58
              have ech58 : v9 = none := ech58
              subst ech58
              obtain ⟨fh63, fh64, fh65, fh66⟩ : (a6_.toInt ≤ a2__60.toInt) ∧ (a2__60.toInt ≤ en.toInt) ∧ (0 ≤ f2__61.toInt) ∧ (f6.toInt ≠ 0 → f2__61.toInt ≠ 0) := ch58
              refine pb_eq (pc' := 129) (lo' := [(1, .int F1), (2, .int F2), (0, .ref h)]) (rest' := []) (ws' := [(ec, .inr (1, [.ref ec1, .ref ec2, .int ecs])), (ec1, .inl (G.2.2.1, 16, .inl ecc)), (ec2, .inl (G.2.2.1, 286, .inl ecy)), (ed, .inr (1, [.ref ed1, .ref ed2, .int eds])), (ed1, .inl (G.2.2.1, 16, .inl edc)), (ed2, .inl (G.2.2.1, 30, .inl edy)), (h, .inr (5, [.ref ex, .ref et, .ref ea, .ref eb, .ref ec, .ref ed, .ref ef, .ref er, .int a2__60, .int en, .int f2__61])), (er, .inl (G.2.1, N, .inl fr)), (et, .inl (G.2.2.1, 316, .inl tf_62)), (ef, .inr (1, [.ref ef1, .ref ef2, .int efs6])), (ef1, .inl (G.2.2.1, 16, .inl efc6)), (ef2, .inl (G.2.2.1, 19, .inl efy6))]) ?_
              refine pb_aload_n (pc := 129) d_Expander_readCodes_129 2 rfl rfl ?_
              refine pb_get (pc := 130) d_Expander_readCodes_130 6 4 rfl rfl (by decide) in_Expander k_254 rfl ?_
              refine pb_aload_n (pc := 133) d_Expander_readCodes_133 2 rfl rfl ?_
              refine pb_get (pc := 134) d_Expander_readCodes_134 6 1 rfl rfl (by decide) in_Expander k_251 rfl ?_
              refine pb_iconst (pc := 137) (v := 0) d_Expander_readCodes_137 (by decide) ?_
              refine pb_iload_n (pc := 138) d_Expander_readCodes_138 0 rfl rfl ?_
              refine pb_callV (pc := 139) (I := i_Expander_readCodes) (qb := 0) (ci := 1) (nA := 3) (rest := []) (wr := [(ed, .inr (1, [.ref ed1, .ref ed2, .int eds])), (ed1, .inl (G.2.2.1, 16, .inl edc)), (ed2, .inl (G.2.2.1, 30, .inl edy)), (h, .inr (5, [.ref ex, .ref et, .ref ea, .ref eb, .ref ec, .ref ed, .ref ef, .ref er, .int a2__60, .int en, .int f2__61])), (er, .inl (G.2.1, N, .inl fr)), (ef, .inr (1, [.ref ef1, .ref ef2, .int efs6])), (ef1, .inl (G.2.2.1, 16, .inl efc6)), (ef2, .inl (G.2.2.1, 19, .inl efy6))]) d_Expander_readCodes_139 (g_Code_tell hl G ec ec1 ec2 et 286 316 ecs ecc ecy tf_62 0 F1 (by first | assumption | omega (splitDisjunctions := false) | omega | decide) (by first | assumption | omega (splitDisjunctions := false) | omega | decide) (by first | assumption | omega (splitDisjunctions := false) | omega | decide) (by first | assumption | omega (splitDisjunctions := false) | omega | decide) (by first | assumption | omega (splitDisjunctions := false) | omega | decide) (by first | assumption | omega (splitDisjunctions := false) | omega | decide)) rfl rfl [0, 1, 2, 8] [3, 4, 5, 6, 7, 9, 10, 11] (by decide) rfl rfl rfl (by decide) (by decide) k_247 rfl k_122 k_244 k_245 k_246 ⟨rfl, hy_Code_tell⟩ (by decide) rfl rfl (Nat.le_of_ble_eq_true rfl) (by decide) (fun v9 u68 ch67 => ?_)
              obtain ⟨sz_69, fc_70, fy_71⟩ := u68
              obtain ⟨ech67, ch67⟩ := ch67
              have ech67 : v9 = none := ech67
              subst ech67
              obtain ⟨fh72, fh73⟩ : (co_I sz_69.toInt fc_70 fy_71 F1.toInt) ∧ (sz_69.toInt ≤ F1.toInt) := ch67
              have I1 := co_wide (b2 := 288) fh72 (by omega)
              refine pb_eq (pc' := 142) (lo' := [(1, .int F1), (2, .int F2), (0, .ref h)]) (rest' := []) (ws' := [(ed, .inr (1, [.ref ed1, .ref ed2, .int eds])), (ed1, .inl (G.2.2.1, 16, .inl edc)), (ed2, .inl (G.2.2.1, 30, .inl edy)), (h, .inr (5, [.ref ex, .ref et, .ref ea, .ref eb, .ref ec, .ref ed, .ref ef, .ref er, .int a2__60, .int en, .int f2__61])), (er, .inl (G.2.1, N, .inl fr)), (ef, .inr (1, [.ref ef1, .ref ef2, .int efs6])), (ef1, .inl (G.2.2.1, 16, .inl efc6)), (ef2, .inl (G.2.2.1, 19, .inl efy6)), (ec, .inr (1, [.ref ec1, .ref ec2, .int sz_69])), (ec1, .inl (G.2.2.1, 16, .inl fc_70)), (ec2, .inl (G.2.2.1, 286, .inl fy_71)), (et, .inl (G.2.2.1, 316, .inl tf_62))]) ?_
              refine pb_aload_n (pc := 142) d_Expander_readCodes_142 2 rfl rfl ?_
              refine pb_get (pc := 143) d_Expander_readCodes_143 3 5 rfl rfl (by decide) in_Expander k_255 rfl ?_
              refine pb_aload_n (pc := 146) d_Expander_readCodes_146 2 rfl rfl ?_
              refine pb_get (pc := 147) d_Expander_readCodes_147 3 1 rfl rfl (by decide) in_Expander k_251 rfl ?_
              refine pb_iload_n (pc := 150) d_Expander_readCodes_150 0 rfl rfl ?_
              refine pb_iload_n (pc := 151) d_Expander_readCodes_151 1 rfl rfl ?_
              refine pb_callV (pc := 152) (I := i_Expander_readCodes) (qb := 0) (ci := 1) (nA := 3) (rest := []) (wr := [(h, .inr (5, [.ref ex, .ref et, .ref ea, .ref eb, .ref ec, .ref ed, .ref ef, .ref er, .int a2__60, .int en, .int f2__61])), (er, .inl (G.2.1, N, .inl fr)), (ef, .inr (1, [.ref ef1, .ref ef2, .int efs6])), (ef1, .inl (G.2.2.1, 16, .inl efc6)), (ef2, .inl (G.2.2.1, 19, .inl efy6)), (ec, .inr (1, [.ref ec1, .ref ec2, .int sz_69])), (ec1, .inl (G.2.2.1, 16, .inl fc_70)), (ec2, .inl (G.2.2.1, 286, .inl fy_71))]) d_Expander_readCodes_152 (g_Code_tell hl G ed ed1 ed2 et 30 316 eds edc edy tf_62 F1 F2 (by first | assumption | omega (splitDisjunctions := false) | omega | decide) (by first | assumption | omega (splitDisjunctions := false) | omega | decide) (by first | assumption | omega (splitDisjunctions := false) | omega | decide) (by first | assumption | omega (splitDisjunctions := false) | omega | decide) (by first | assumption | omega (splitDisjunctions := false) | omega | decide) (by first | assumption | omega (splitDisjunctions := false) | omega | decide)) rfl rfl [0, 1, 2, 11] [3, 4, 5, 6, 7, 8, 9, 10] (by decide) rfl rfl rfl (by decide) (by decide) k_247 rfl k_122 k_244 k_245 k_246 ⟨rfl, hy_Code_tell⟩ (by decide) rfl rfl (Nat.le_of_ble_eq_true rfl) (by decide) (fun v9 u75 ch74 => ?_)
              obtain ⟨sz_76, fc_77, fy_78⟩ := u75
              obtain ⟨ech74, ch74⟩ := ch74
              have ech74 : v9 = none := ech74
              subst ech74
              obtain ⟨fh79, fh80⟩ : (co_I sz_76.toInt fc_77 fy_78 F2.toInt) ∧ (sz_76.toInt ≤ F2.toInt) := ch74
              have I2 := co_wide (b2 := 32) fh79 (by omega)
              refine pb_eq (pc' := 155) (lo' := [(1, .int F1), (2, .int F2), (0, .ref h)]) (rest' := []) (ws' := [(h, .inr (5, [.ref ex, .ref et, .ref ea, .ref eb, .ref ec, .ref ed, .ref ef, .ref er, .int a2__60, .int en, .int f2__61])), (er, .inl (G.2.1, N, .inl fr)), (ef, .inr (1, [.ref ef1, .ref ef2, .int efs6])), (ef1, .inl (G.2.2.1, 16, .inl efc6)), (ef2, .inl (G.2.2.1, 19, .inl efy6)), (ec, .inr (1, [.ref ec1, .ref ec2, .int sz_69])), (ec1, .inl (G.2.2.1, 16, .inl fc_70)), (ec2, .inl (G.2.2.1, 286, .inl fy_71)), (ed, .inr (1, [.ref ed1, .ref ed2, .int sz_76])), (ed1, .inl (G.2.2.1, 16, .inl fc_77)), (ed2, .inl (G.2.2.1, 30, .inl fy_78)), (et, .inl (G.2.2.1, 316, .inl tf_62))]) ?_
              refine pb_aload_n (pc := 155) d_Expander_readCodes_155 2 rfl rfl ?_
              refine pb_get (pc := 156) d_Expander_readCodes_156 0 4 rfl rfl (by decide) in_Expander k_254 rfl ?_
              refine pb_callV (pc := 159) (I := i_Expander_readCodes) (qb := 5) (ci := 1) (nA := 0) (rest := []) (wr := [(h, .inr (5, [.ref ex, .ref et, .ref ea, .ref eb, .ref ec, .ref ed, .ref ef, .ref er, .int a2__60, .int en, .int f2__61])), (er, .inl (G.2.1, N, .inl fr)), (ef, .inr (1, [.ref ef1, .ref ef2, .int efs6])), (ef1, .inl (G.2.2.1, 16, .inl efc6)), (ef2, .inl (G.2.2.1, 19, .inl efy6)), (ed, .inr (1, [.ref ed1, .ref ed2, .int sz_76])), (ed1, .inl (G.2.2.1, 16, .inl fc_77)), (ed2, .inl (G.2.2.1, 30, .inl fy_78)), (et, .inl (G.2.2.1, 316, .inl tf_62))]) d_Expander_readCodes_159 (g_Code_isRight hl G ec ec1 ec2 286 sz_69 fc_70 fy_71) rfl rfl [5, 6, 7] [0, 1, 2, 3, 4, 8, 9, 10, 11] (by decide) rfl rfl rfl (by decide) (by decide) k_681 rfl k_122 k_678 k_679 k_680 ⟨rfl, hy_Code_isRight⟩ (by decide) rfl rfl (Nat.le_of_ble_eq_true rfl) (by decide) (fun v9 u82 ch81 => ?_)
              obtain ⟨r_83, rfl⟩ : ∃ z9, z9 = u82 := ⟨_, rfl⟩
              obtain ⟨ech81, ch81⟩ := ch81
              have ech81 : v9 = some (.int r_83) := ech81
              subst ech81
              have fh84 : r_83.toInt = 0 ∨ r_83.toInt = 1 := ch81
              refine pb_eq (pc' := 162) (lo' := [(1, .int F1), (2, .int F2), (0, .ref h)]) (rest' := [.int r_83]) (ws' := [(h, .inr (5, [.ref ex, .ref et, .ref ea, .ref eb, .ref ec, .ref ed, .ref ef, .ref er, .int a2__60, .int en, .int f2__61])), (er, .inl (G.2.1, N, .inl fr)), (ef, .inr (1, [.ref ef1, .ref ef2, .int efs6])), (ef1, .inl (G.2.2.1, 16, .inl efc6)), (ef2, .inl (G.2.2.1, 19, .inl efy6)), (ed, .inr (1, [.ref ed1, .ref ed2, .int sz_76])), (ed1, .inl (G.2.2.1, 16, .inl fc_77)), (ed2, .inl (G.2.2.1, 30, .inl fy_78)), (et, .inl (G.2.2.1, 316, .inl tf_62)), (ec, .inr (1, [.ref ec1, .ref ec2, .int sz_69])), (ec1, .inl (G.2.2.1, 16, .inl fc_70)), (ec2, .inl (G.2.2.1, 286, .inl fy_71))]) ?_
              refine pb_if_eq (pc := 162) (tgt := 196) d_Expander_readCodes_162 (by decide) (fun w85 => ?_) (fun w85 => ?_)
              · have tw85 : r_83.toInt = 0 := (ti_eq rfl (by decide)).mp w85
                refine pb_aload_n (pc := 196) d_Expander_readCodes_196 2 rfl rfl ?_
                refine pb_iconst (pc := 197) (v := 4) d_Expander_readCodes_197 (by decide) ?_
                refine pb_callV (pc := 198) (I := i_Expander_readCodes) (qb := 0) (ci := 5) (nA := 1) (rest := []) (wr := [(er, .inl (G.2.1, N, .inl fr)), (ef, .inr (1, [.ref ef1, .ref ef2, .int efs6])), (ef1, .inl (G.2.2.1, 16, .inl efc6)), (ef2, .inl (G.2.2.1, 19, .inl efy6)), (ed, .inr (1, [.ref ed1, .ref ed2, .int sz_76])), (ed1, .inl (G.2.2.1, 16, .inl fc_77)), (ed2, .inl (G.2.2.1, 30, .inl fy_78)), (et, .inl (G.2.2.1, 316, .inl tf_62)), (ec, .inr (1, [.ref ec1, .ref ec2, .int sz_69])), (ec1, .inl (G.2.2.1, 16, .inl fc_70)), (ec2, .inl (G.2.2.1, 286, .inl fy_71))]) d_Expander_readCodes_198 (g_Exp_fail hl G h ex et ea eb ec ed ef er a2__60 en f2__61 4 (by first | assumption | omega (splitDisjunctions := false) | omega | decide) (by first | assumption | omega (splitDisjunctions := false) | omega | decide)) rfl rfl [0] [1, 2, 3, 4, 5, 6, 7, 8, 9, 10, 11] (by decide) rfl rfl rfl (by decide) (by decide) k_643 rfl k_121 k_640 k_642 k_19 ⟨rfl, hy_Expander_fail⟩ (by decide) rfl rfl (Nat.le_of_ble_eq_true rfl) (by decide) (fun v9 u87 ch86 => ?_)
                obtain ⟨f2__88, rfl⟩ : ∃ z9, z9 = u87 := ⟨_, rfl⟩
                obtain ⟨ech86, ch86⟩ := ch86
                have ech86 : v9 = none := ech86
                subst ech86
                have fh89 : 0 < f2__88.toInt := ch86
                refine pb_eq (pc' := 201) (lo' := [(1, .int F1), (2, .int F2), (0, .ref h)]) (rest' := []) (ws' := [(er, .inl (G.2.1, N, .inl fr)), (ef, .inr (1, [.ref ef1, .ref ef2, .int efs6])), (ef1, .inl (G.2.2.1, 16, .inl efc6)), (ef2, .inl (G.2.2.1, 19, .inl efy6)), (ed, .inr (1, [.ref ed1, .ref ed2, .int sz_76])), (ed1, .inl (G.2.2.1, 16, .inl fc_77)), (ed2, .inl (G.2.2.1, 30, .inl fy_78)), (et, .inl (G.2.2.1, 316, .inl tf_62)), (ec, .inr (1, [.ref ec1, .ref ec2, .int sz_69])), (ec1, .inl (G.2.2.1, 16, .inl fc_70)), (ec2, .inl (G.2.2.1, 286, .inl fy_71)), (h, .inr (5, [.ref ex, .ref et, .ref ea, .ref eb, .ref ec, .ref ed, .ref ef, .ref er, .int a2__60, .int en, .int f2__88]))]) ?_
                exact pb_vret (pc := 201) hQ d_Expander_readCodes_201 rfl (a2__60, f2__88, tf_62, efs6, efc6, efy6, sz_69, fc_70, fy_71, sz_76, fc_77, fy_78) ⟨rfl, (by (try dsimp only); first | done | assumption | omega (splitDisjunctions := false) | omega | decide), (by (try dsimp only); first | done | assumption | omega (splitDisjunctions := false) | omega | decide), (by (try dsimp only); first | done | assumption | omega (splitDisjunctions := false) | omega | decide), (by (try dsimp only); first | done | assumption | omega (splitDisjunctions := false) | omega | decide), (by (try dsimp only); first | done | assumption | decide | omega), (by (try dsimp only); first | done | assumption | omega (splitDisjunctions := false) | omega | decide), (by (try dsimp only); first | done | assumption | decide | omega), (by (try dsimp only); first | done | assumption | omega (splitDisjunctions := false) | omega | decide), (by (try dsimp only); first | done | assumption | decide | omega), (by (try dsimp only); first | done | assumption | omega (splitDisjunctions := false) | omega | decide)⟩ [11, 0, 7, 1, 2, 3, 8, 9, 10, 4, 5, 6] (by decide) rfl rfl (by decide) (by decide)
              · have tw85 : ¬ r_83.toInt = 0 := fun z9 => w85 ((ti_eq rfl (by decide)).mpr z9)
                refine pb_aload_n (pc := 165) d_Expander_readCodes_165 2 rfl rfl ?_
                refine pb_get (pc := 166) d_Expander_readCodes_166 0 1 rfl rfl (by decide) in_Expander k_251 rfl ?_
                refine pb_sipush (pc := 169) (v := 256) d_Expander_readCodes_169 (by decide) ?_
                refine pb_iald (pc := 172) d_Expander_readCodes_172 8 rfl (by unfold vp_in; decide) ?_
                refine pb_topi (fun i90 ei90 => ?_)
                have ti90 : i90.toInt = gx tf_62 (256) := gx_ld ei90 (by decide)
                refine pb_if_eq (pc := 173) (tgt := 196) d_Expander_readCodes_173 (by decide) (fun w91 => ?_) (fun w91 => ?_)
                · have tw91 : i90.toInt = 0 := (ti_eq rfl (by decide)).mp w91
                  refine pb_aload_n (pc := 196) d_Expander_readCodes_196 2 rfl rfl ?_
                  refine pb_iconst (pc := 197) (v := 4) d_Expander_readCodes_197 (by decide) ?_
                  refine pb_callV (pc := 198) (I := i_Expander_readCodes) (qb := 0) (ci := 5) (nA := 1) (rest := []) (wr := [(er, .inl (G.2.1, N, .inl fr)), (ef, .inr (1, [.ref ef1, .ref ef2, .int efs6])), (ef1, .inl (G.2.2.1, 16, .inl efc6)), (ef2, .inl (G.2.2.1, 19, .inl efy6)), (ed, .inr (1, [.ref ed1, .ref ed2, .int sz_76])), (ed1, .inl (G.2.2.1, 16, .inl fc_77)), (ed2, .inl (G.2.2.1, 30, .inl fy_78)), (et, .inl (G.2.2.1, 316, .inl tf_62)), (ec, .inr (1, [.ref ec1, .ref ec2, .int sz_69])), (ec1, .inl (G.2.2.1, 16, .inl fc_70)), (ec2, .inl (G.2.2.1, 286, .inl fy_71))]) d_Expander_readCodes_198 (g_Exp_fail hl G h ex et ea eb ec ed ef er a2__60 en f2__61 4 (by first | assumption | omega (splitDisjunctions := false) | omega | decide) (by first | assumption | omega (splitDisjunctions := false) | omega | decide)) rfl rfl [0] [1, 2, 3, 4, 5, 6, 7, 8, 9, 10, 11] (by decide) rfl rfl rfl (by decide) (by decide) k_643 rfl k_121 k_640 k_642 k_19 ⟨rfl, hy_Expander_fail⟩ (by decide) rfl rfl (Nat.le_of_ble_eq_true rfl) (by decide) (fun v9 u93 ch92 => ?_)
                  obtain ⟨f2__94, rfl⟩ : ∃ z9, z9 = u93 := ⟨_, rfl⟩
                  obtain ⟨ech92, ch92⟩ := ch92
                  have ech92 : v9 = none := ech92
                  subst ech92
                  have fh95 : 0 < f2__94.toInt := ch92
                  refine pb_eq (pc' := 201) (lo' := [(1, .int F1), (2, .int F2), (0, .ref h)]) (rest' := []) (ws' := [(er, .inl (G.2.1, N, .inl fr)), (ef, .inr (1, [.ref ef1, .ref ef2, .int efs6])), (ef1, .inl (G.2.2.1, 16, .inl efc6)), (ef2, .inl (G.2.2.1, 19, .inl efy6)), (ed, .inr (1, [.ref ed1, .ref ed2, .int sz_76])), (ed1, .inl (G.2.2.1, 16, .inl fc_77)), (ed2, .inl (G.2.2.1, 30, .inl fy_78)), (et, .inl (G.2.2.1, 316, .inl tf_62)), (ec, .inr (1, [.ref ec1, .ref ec2, .int sz_69])), (ec1, .inl (G.2.2.1, 16, .inl fc_70)), (ec2, .inl (G.2.2.1, 286, .inl fy_71)), (h, .inr (5, [.ref ex, .ref et, .ref ea, .ref eb, .ref ec, .ref ed, .ref ef, .ref er, .int a2__60, .int en, .int f2__94]))]) ?_
                  exact pb_vret (pc := 201) hQ d_Expander_readCodes_201 rfl (a2__60, f2__94, tf_62, efs6, efc6, efy6, sz_69, fc_70, fy_71, sz_76, fc_77, fy_78) ⟨rfl, (by (try dsimp only); first | done | assumption | omega (splitDisjunctions := false) | omega | decide), (by (try dsimp only); first | done | assumption | omega (splitDisjunctions := false) | omega | decide), (by (try dsimp only); first | done | assumption | omega (splitDisjunctions := false) | omega | decide), (by (try dsimp only); first | done | assumption | omega (splitDisjunctions := false) | omega | decide), (by (try dsimp only); first | done | assumption | decide | omega), (by (try dsimp only); first | done | assumption | omega (splitDisjunctions := false) | omega | decide), (by (try dsimp only); first | done | assumption | decide | omega), (by (try dsimp only); first | done | assumption | omega (splitDisjunctions := false) | omega | decide), (by (try dsimp only); first | done | assumption | decide | omega), (by (try dsimp only); first | done | assumption | omega (splitDisjunctions := false) | omega | decide)⟩ [11, 0, 7, 1, 2, 3, 8, 9, 10, 4, 5, 6] (by decide) rfl rfl (by decide) (by decide)
                · have tw91 : ¬ i90.toInt = 0 := fun z9 => w91 ((ti_eq rfl (by decide)).mpr z9)
                  refine pb_aload_n (pc := 176) d_Expander_readCodes_176 2 rfl rfl ?_
                  refine pb_get (pc := 177) d_Expander_readCodes_177 0 5 rfl rfl (by decide) in_Expander k_255 rfl ?_
                  refine pb_getN (pc := 180) d_Expander_readCodes_180 5 2 rfl rfl (by decide) in_Code k_231 rfl ?_
                  refine pb_if_le (pc := 183) (tgt := 201) d_Expander_readCodes_183 (by decide) (fun w96 => ?_) (fun w96 => ?_)
                  · have tw96 : sz_76.toInt ≤ 0 := (ti_le rfl (by decide)).mp w96
                    exact pb_vret (pc := 201) hQ d_Expander_readCodes_201 rfl (a2__60, f2__61, tf_62, efs6, efc6, efy6, sz_69, fc_70, fy_71, sz_76, fc_77, fy_78) ⟨rfl, (by (try dsimp only); first | done | assumption | omega (splitDisjunctions := false) | omega | decide), (by (try dsimp only); first | done | assumption | omega (splitDisjunctions := false) | omega | decide), (by (try dsimp only); first | done | assumption | omega (splitDisjunctions := false) | omega | decide), (by (try dsimp only); first | done | assumption | omega (splitDisjunctions := false) | omega | decide), (by (try dsimp only); first | done | assumption | decide | omega), (by (try dsimp only); first | done | assumption | omega (splitDisjunctions := false) | omega | decide), (by (try dsimp only); first | done | assumption | decide | omega), (by (try dsimp only); first | done | assumption | omega (splitDisjunctions := false) | omega | decide), (by (try dsimp only); first | done | assumption | decide | omega), (by (try dsimp only); first | done | assumption | omega (splitDisjunctions := false) | omega | decide)⟩ [0, 1, 8, 2, 3, 4, 9, 10, 11, 5, 6, 7] (by decide) rfl rfl (by decide) (by decide)
                  · have tw96 : ¬ sz_76.toInt ≤ 0 := fun z9 => w96 ((ti_le rfl (by decide)).mpr z9)
                    refine pb_aload_n (pc := 186) d_Expander_readCodes_186 2 rfl rfl ?_
                    refine pb_get (pc := 187) d_Expander_readCodes_187 0 5 rfl rfl (by decide) in_Expander k_255 rfl ?_
                    refine pb_callV (pc := 190) (I := i_Expander_readCodes) (qb := 5) (ci := 1) (nA := 0) (rest := []) (wr := [(h, .inr (5, [.ref ex, .ref et, .ref ea, .ref eb, .ref ec, .ref ed, .ref ef, .ref er, .int a2__60, .int en, .int f2__61])), (er, .inl (G.2.1, N, .inl fr)), (ef, .inr (1, [.ref ef1, .ref ef2, .int efs6])), (ef1, .inl (G.2.2.1, 16, .inl efc6)), (ef2, .inl (G.2.2.1, 19, .inl efy6)), (et, .inl (G.2.2.1, 316, .inl tf_62)), (ec, .inr (1, [.ref ec1, .ref ec2, .int sz_69])), (ec1, .inl (G.2.2.1, 16, .inl fc_70)), (ec2, .inl (G.2.2.1, 286, .inl fy_71))]) d_Expander_readCodes_190 (g_Code_isRight hl G ed ed1 ed2 30 sz_76 fc_77 fy_78) rfl rfl [5, 6, 7] [0, 1, 2, 3, 4, 8, 9, 10, 11] (by decide) rfl rfl rfl (by decide) (by decide) k_681 rfl k_122 k_678 k_679 k_680 ⟨rfl, hy_Code_isRight⟩ (by decide) rfl rfl (Nat.le_of_ble_eq_true rfl) (by decide) (fun v9 u98 ch97 => ?_)
                    obtain ⟨r_99, rfl⟩ : ∃ z9, z9 = u98 := ⟨_, rfl⟩
                    obtain ⟨ech97, ch97⟩ := ch97
                    have ech97 : v9 = some (.int r_99) := ech97
                    subst ech97
                    have fh100 : r_99.toInt = 0 ∨ r_99.toInt = 1 := ch97
                    refine pb_eq (pc' := 193) (lo' := [(1, .int F1), (2, .int F2), (0, .ref h)]) (rest' := [.int r_99]) (ws' := [(h, .inr (5, [.ref ex, .ref et, .ref ea, .ref eb, .ref ec, .ref ed, .ref ef, .ref er, .int a2__60, .int en, .int f2__61])), (er, .inl (G.2.1, N, .inl fr)), (ef, .inr (1, [.ref ef1, .ref ef2, .int efs6])), (ef1, .inl (G.2.2.1, 16, .inl efc6)), (ef2, .inl (G.2.2.1, 19, .inl efy6)), (et, .inl (G.2.2.1, 316, .inl tf_62)), (ec, .inr (1, [.ref ec1, .ref ec2, .int sz_69])), (ec1, .inl (G.2.2.1, 16, .inl fc_70)), (ec2, .inl (G.2.2.1, 286, .inl fy_71)), (ed, .inr (1, [.ref ed1, .ref ed2, .int sz_76])), (ed1, .inl (G.2.2.1, 16, .inl fc_77)), (ed2, .inl (G.2.2.1, 30, .inl fy_78))]) ?_
                    refine pb_if_ne (pc := 193) (tgt := 201) d_Expander_readCodes_193 (by decide) (fun w101 => ?_) (fun w101 => ?_)
                    · have tw101 : ¬ r_99.toInt = 0 := fun z9 => w101 ((ti_eq rfl (by decide)).mpr z9)
                      exact pb_vret (pc := 201) hQ d_Expander_readCodes_201 rfl (a2__60, f2__61, tf_62, efs6, efc6, efy6, sz_69, fc_70, fy_71, sz_76, fc_77, fy_78) ⟨rfl, (by (try dsimp only); first | done | assumption | omega (splitDisjunctions := false) | omega | decide), (by (try dsimp only); first | done | assumption | omega (splitDisjunctions := false) | omega | decide), (by (try dsimp only); first | done | assumption | omega (splitDisjunctions := false) | omega | decide), (by (try dsimp only); first | done | assumption | omega (splitDisjunctions := false) | omega | decide), (by (try dsimp only); first | done | assumption | decide | omega), (by (try dsimp only); first | done | assumption | omega (splitDisjunctions := false) | omega | decide), (by (try dsimp only); first | done | assumption | decide | omega), (by (try dsimp only); first | done | assumption | omega (splitDisjunctions := false) | omega | decide), (by (try dsimp only); first | done | assumption | decide | omega), (by (try dsimp only); first | done | assumption | omega (splitDisjunctions := false) | omega | decide)⟩ [0, 1, 5, 2, 3, 4, 6, 7, 8, 9, 10, 11] (by decide) rfl rfl (by decide) (by decide)
                    · have tw101 : r_99.toInt = 0 := (ti_eq rfl (by decide)).mp w101
                      refine pb_aload_n (pc := 196) d_Expander_readCodes_196 2 rfl rfl ?_
                      refine pb_iconst (pc := 197) (v := 4) d_Expander_readCodes_197 (by decide) ?_
                      refine pb_callV (pc := 198) (I := i_Expander_readCodes) (qb := 0) (ci := 5) (nA := 1) (rest := []) (wr := [(er, .inl (G.2.1, N, .inl fr)), (ef, .inr (1, [.ref ef1, .ref ef2, .int efs6])), (ef1, .inl (G.2.2.1, 16, .inl efc6)), (ef2, .inl (G.2.2.1, 19, .inl efy6)), (et, .inl (G.2.2.1, 316, .inl tf_62)), (ec, .inr (1, [.ref ec1, .ref ec2, .int sz_69])), (ec1, .inl (G.2.2.1, 16, .inl fc_70)), (ec2, .inl (G.2.2.1, 286, .inl fy_71)), (ed, .inr (1, [.ref ed1, .ref ed2, .int sz_76])), (ed1, .inl (G.2.2.1, 16, .inl fc_77)), (ed2, .inl (G.2.2.1, 30, .inl fy_78))]) d_Expander_readCodes_198 (g_Exp_fail hl G h ex et ea eb ec ed ef er a2__60 en f2__61 4 (by first | assumption | omega (splitDisjunctions := false) | omega | decide) (by first | assumption | omega (splitDisjunctions := false) | omega | decide)) rfl rfl [0] [1, 2, 3, 4, 5, 6, 7, 8, 9, 10, 11] (by decide) rfl rfl rfl (by decide) (by decide) k_643 rfl k_121 k_640 k_642 k_19 ⟨rfl, hy_Expander_fail⟩ (by decide) rfl rfl (Nat.le_of_ble_eq_true rfl) (by decide) (fun v9 u103 ch102 => ?_)
                      obtain ⟨f2__104, rfl⟩ : ∃ z9, z9 = u103 := ⟨_, rfl⟩
                      obtain ⟨ech102, ch102⟩ := ch102
                      have ech102 : v9 = none := ech102
                      subst ech102
                      have fh105 : 0 < f2__104.toInt := ch102
                      refine pb_eq (pc' := 201) (lo' := [(1, .int F1), (2, .int F2), (0, .ref h)]) (rest' := []) (ws' := [(er, .inl (G.2.1, N, .inl fr)), (ef, .inr (1, [.ref ef1, .ref ef2, .int efs6])), (ef1, .inl (G.2.2.1, 16, .inl efc6)), (ef2, .inl (G.2.2.1, 19, .inl efy6)), (et, .inl (G.2.2.1, 316, .inl tf_62)), (ec, .inr (1, [.ref ec1, .ref ec2, .int sz_69])), (ec1, .inl (G.2.2.1, 16, .inl fc_70)), (ec2, .inl (G.2.2.1, 286, .inl fy_71)), (ed, .inr (1, [.ref ed1, .ref ed2, .int sz_76])), (ed1, .inl (G.2.2.1, 16, .inl fc_77)), (ed2, .inl (G.2.2.1, 30, .inl fy_78)), (h, .inr (5, [.ref ex, .ref et, .ref ea, .ref eb, .ref ec, .ref ed, .ref ef, .ref er, .int a2__60, .int en, .int f2__104]))]) ?_
                      exact pb_vret (pc := 201) hQ d_Expander_readCodes_201 rfl (a2__60, f2__104, tf_62, efs6, efc6, efy6, sz_69, fc_70, fy_71, sz_76, fc_77, fy_78) ⟨rfl, (by (try dsimp only); first | done | assumption | omega (splitDisjunctions := false) | omega | decide), (by (try dsimp only); first | done | assumption | omega (splitDisjunctions := false) | omega | decide), (by (try dsimp only); first | done | assumption | omega (splitDisjunctions := false) | omega | decide), (by (try dsimp only); first | done | assumption | omega (splitDisjunctions := false) | omega | decide), (by (try dsimp only); first | done | assumption | decide | omega), (by (try dsimp only); first | done | assumption | omega (splitDisjunctions := false) | omega | decide), (by (try dsimp only); first | done | assumption | decide | omega), (by (try dsimp only); first | done | assumption | omega (splitDisjunctions := false) | omega | decide), (by (try dsimp only); first | done | assumption | decide | omega), (by (try dsimp only); first | done | assumption | omega (splitDisjunctions := false) | omega | decide)⟩ [11, 0, 4, 1, 2, 3, 5, 6, 7, 8, 9, 10] (by decide) rfl rfl (by decide) (by decide)
            refine pb_aload_n (pc := 107) d_Expander_readCodes_107 4 rfl rfl ?_
            refine pb_get (pc := 108) d_Expander_readCodes_108 0 6 rfl rfl (by decide) in_Expander k_256 rfl ?_
            refine pb_callV (pc := 111) (I := i_Expander_readCodes) (qb := 8) (ci := 1) (nA := 0) (rest := []) (wr := [(h, .inr (5, [.ref ex, .ref et, .ref ea, .ref eb, .ref ec, .ref ed, .ref ef, .ref er, .int a5_, .int en, .int f5])), (er, .inl (G.2.1, N, .inl fr)), (ec, .inr (1, [.ref ec1, .ref ec2, .int ecs])), (ec1, .inl (G.2.2.1, 16, .inl ecc)), (ec2, .inl (G.2.2.1, 286, .inl ecy)), (ed, .inr (1, [.ref ed1, .ref ed2, .int eds])), (ed1, .inl (G.2.2.1, 16, .inl edc)), (ed2, .inl (G.2.2.1, 30, .inl edy)), (et, .inl (G.2.2.1, 316, .inl t5))]) d_Expander_readCodes_111 (g_Code_isRight hl G ef ef1 ef2 19 sz_51 fc_52 fy_53) rfl rfl [8, 9, 10] [0, 1, 2, 3, 4, 5, 6, 7, 11] (by decide) rfl rfl rfl (by decide) (by decide) k_681 rfl k_122 k_678 k_679 k_680 ⟨rfl, hy_Code_isRight⟩ (by decide) rfl rfl (Nat.le_of_ble_eq_true rfl) (by decide) (fun v9 u107 ch106 => ?_)
            obtain ⟨r_108, rfl⟩ : ∃ z9, z9 = u107 := ⟨_, rfl⟩
            obtain ⟨ech106, ch106⟩ := ch106
            have ech106 : v9 = some (.int r_108) := ech106
            subst ech106
            have fh109 : r_108.toInt = 0 ∨ r_108.toInt = 1 := ch106
            refine pb_eq (pc' := 114) (lo' := [(4, .int k), (1, .int F1), (2, .int F2), (3, .int F3), (0, .ref h)]) (rest' := [.int r_108]) (ws' := [(h, .inr (5, [.ref ex, .ref et, .ref ea, .ref eb, .ref ec, .ref ed, .ref ef, .ref er, .int a5_, .int en, .int f5])), (er, .inl (G.2.1, N, .inl fr)), (ec, .inr (1, [.ref ec1, .ref ec2, .int ecs])), (ec1, .inl (G.2.2.1, 16, .inl ecc)), (ec2, .inl (G.2.2.1, 286, .inl ecy)), (ed, .inr (1, [.ref ed1, .ref ed2, .int eds])), (ed1, .inl (G.2.2.1, 16, .inl edc)), (ed2, .inl (G.2.2.1, 30, .inl edy)), (et, .inl (G.2.2.1, 316, .inl t5)), (ef, .inr (1, [.ref ef1, .ref ef2, .int sz_51])), (ef1, .inl (G.2.2.1, 16, .inl fc_52)), (ef2, .inl (G.2.2.1, 19, .inl fy_53))]) ?_
            refine pb_if_ne (pc := 114) (tgt := 122) d_Expander_readCodes_114 (by decide) (fun w110 => ?_) (fun w110 => ?_)
            · have tw110 : ¬ r_108.toInt = 0 := fun z9 => w110 ((ti_eq rfl (by decide)).mpr z9)
              refine pb_re (ws' := [(h, .inr (5, [.ref ex, .ref et, .ref ea, .ref eb, .ref ec, .ref ed, .ref ef, .ref er, .int a5_, .int en, .int f5])), (er, .inl (G.2.1, N, .inl fr)), (et, .inl (G.2.2.1, 316, .inl t5)), (ef, .inr (1, [.ref ef1, .ref ef2, .int sz_51])), (ef1, .inl (G.2.2.1, 16, .inl fc_52)), (ef2, .inl (G.2.2.1, 19, .inl fy_53)), (ec, .inr (1, [.ref ec1, .ref ec2, .int ecs])), (ec1, .inl (G.2.2.1, 16, .inl ecc)), (ec2, .inl (G.2.2.1, 286, .inl ecy)), (ed, .inr (1, [.ref ed1, .ref ed2, .int eds])), (ed1, .inl (G.2.2.1, 16, .inl edc)), (ed2, .inl (G.2.2.1, 30, .inl edy))]) (lo' := [(1, .int F1), (2, .int F2), (0, .ref h)]) [0, 1, 8, 9, 10, 11, 2, 3, 4, 5, 6, 7] [1, 2, 4] (by decide) rfl rfl rfl ?_
              exact hJ122_56 a5_ f5 t5 sz_51 fc_52 fy_53 (by first | assumption | omega (splitDisjunctions := false) | omega | decide) (by first | assumption | omega (splitDisjunctions := false) | omega | decide) (by first | assumption | omega (splitDisjunctions := false) | omega | decide) (by first | assumption | omega (splitDisjunctions := false) | omega | decide) (by first | assumption | decide | omega) (by first | assumption | omega (splitDisjunctions := false) | omega | decide)
            · have tw110 : r_108.toInt = 0 := (ti_eq rfl (by decide)).mp w110
              refine pb_aload_n (pc := 117) d_Expander_readCodes_117 4 rfl rfl ?_
              refine pb_iconst (pc := 118) (v := 4) d_Expander_readCodes_118 (by decide) ?_
              refine pb_callV (pc := 119) (I := i_Expander_readCodes) (qb := 0) (ci := 5) (nA := 1) (rest := []) (wr := [(er, .inl (G.2.1, N, .inl fr)), (ec, .inr (1, [.ref ec1, .ref ec2, .int ecs])), (ec1, .inl (G.2.2.1, 16, .inl ecc)), (ec2, .inl (G.2.2.1, 286, .inl ecy)), (ed, .inr (1, [.ref ed1, .ref ed2, .int eds])), (ed1, .inl (G.2.2.1, 16, .inl edc)), (ed2, .inl (G.2.2.1, 30, .inl edy)), (et, .inl (G.2.2.1, 316, .inl t5)), (ef, .inr (1, [.ref ef1, .ref ef2, .int sz_51])), (ef1, .inl (G.2.2.1, 16, .inl fc_52)), (ef2, .inl (G.2.2.1, 19, .inl fy_53))]) d_Expander_readCodes_119 (g_Exp_fail hl G h ex et ea eb ec ed ef er a5_ en f5 4 (by first | assumption | omega (splitDisjunctions := false) | omega | decide) (by first | assumption | omega (splitDisjunctions := false) | omega | decide)) rfl rfl [0] [1, 2, 3, 4, 5, 6, 7, 8, 9, 10, 11] (by decide) rfl rfl rfl (by decide) (by decide) k_643 rfl k_121 k_640 k_642 k_19 ⟨rfl, hy_Expander_fail⟩ (by decide) rfl rfl (Nat.le_of_ble_eq_true rfl) (by decide) (fun v9 u112 ch111 => ?_)
              obtain ⟨f2__113, rfl⟩ : ∃ z9, z9 = u112 := ⟨_, rfl⟩
              obtain ⟨ech111, ch111⟩ := ch111
              have ech111 : v9 = none := ech111
              subst ech111
              have fh114 : 0 < f2__113.toInt := ch111
              refine pb_eq (pc' := 122) (lo' := [(4, .int k), (1, .int F1), (2, .int F2), (3, .int F3), (0, .ref h)]) (rest' := []) (ws' := [(er, .inl (G.2.1, N, .inl fr)), (ec, .inr (1, [.ref ec1, .ref ec2, .int ecs])), (ec1, .inl (G.2.2.1, 16, .inl ecc)), (ec2, .inl (G.2.2.1, 286, .inl ecy)), (ed, .inr (1, [.ref ed1, .ref ed2, .int eds])), (ed1, .inl (G.2.2.1, 16, .inl edc)), (ed2, .inl (G.2.2.1, 30, .inl edy)), (et, .inl (G.2.2.1, 316, .inl t5)), (ef, .inr (1, [.ref ef1, .ref ef2, .int sz_51])), (ef1, .inl (G.2.2.1, 16, .inl fc_52)), (ef2, .inl (G.2.2.1, 19, .inl fy_53)), (h, .inr (5, [.ref ex, .ref et, .ref ea, .ref eb, .ref ec, .ref ed, .ref ef, .ref er, .int a5_, .int en, .int f2__113]))]) ?_
              refine pb_re (ws' := [(h, .inr (5, [.ref ex, .ref et, .ref ea, .ref eb, .ref ec, .ref ed, .ref ef, .ref er, .int a5_, .int en, .int f2__113])), (er, .inl (G.2.1, N, .inl fr)), (et, .inl (G.2.2.1, 316, .inl t5)), (ef, .inr (1, [.ref ef1, .ref ef2, .int sz_51])), (ef1, .inl (G.2.2.1, 16, .inl fc_52)), (ef2, .inl (G.2.2.1, 19, .inl fy_53)), (ec, .inr (1, [.ref ec1, .ref ec2, .int ecs])), (ec1, .inl (G.2.2.1, 16, .inl ecc)), (ec2, .inl (G.2.2.1, 286, .inl ecy)), (ed, .inr (1, [.ref ed1, .ref ed2, .int eds])), (ed1, .inl (G.2.2.1, 16, .inl edc)), (ed2, .inl (G.2.2.1, 30, .inl edy))]) (lo' := [(1, .int F1), (2, .int F2), (0, .ref h)]) [11, 0, 7, 8, 9, 10, 1, 2, 3, 4, 5, 6] [1, 2, 4] (by decide) rfl rfl rfl ?_
              exact hJ122_56 a5_ f2__113 t5 sz_51 fc_52 fy_53 (by first | assumption | omega (splitDisjunctions := false) | omega | decide) (by first | assumption | omega (splitDisjunctions := false) | omega | decide) (by first | assumption | omega (splitDisjunctions := false) | omega | decide) (by first | assumption | omega (splitDisjunctions := false) | omega | decide) (by first | assumption | decide | omega) (by first | assumption | omega (splitDisjunctions := false) | omega | decide)
          · have tw47 : ¬ F3.toInt ≤ k.toInt := fun z9 => w47 ((ti_le rfl rfl).mpr z9)
            refine pb_aload_n (pc := 69) d_Expander_readCodes_69 4 rfl rfl ?_
            refine pb_get (pc := 70) d_Expander_readCodes_70 0 1 rfl rfl (by decide) in_Expander k_251 rfl ?_
            refine pb_gets3 (pc := 73) d_Expander_readCodes_73 k_239 (fun t115 ht115 => ?_)
            refine pb_iload (pc := 76) d_Expander_readCodes_76 0 rfl ?_
            refine pb_tald (pc := 78) ht115 (vp_in_iff.mpr (by constructor <;> omega)) d_Expander_readCodes_78 ?_
            refine pb_topi (fun i116 ei116 => ?_)
            have ti116 : 0 ≤ i116.toInt ∧ i116.toInt ≤ 18 := pb_third_rng ei116
            refine pb_aload_n (pc := 79) d_Expander_readCodes_79 4 rfl rfl ?_
            refine pb_iconst (pc := 80) (v := 3) d_Expander_readCodes_80 (by decide) ?_
            refine pb_callV (pc := 81) (I := i_Expander_readCodes) (qb := 0) (ci := 5) (nA := 1) (rest := [.int i116, .ref et]) (wr := [(et, .inl (G.2.2.1, 316, .inl t5)), (ef, .inr (1, [.ref ef1, .ref ef2, .int efs])), (ef1, .inl (G.2.2.1, 16, .inl efc)), (ef2, .inl (G.2.2.1, 19, .inl efy)), (ec, .inr (1, [.ref ec1, .ref ec2, .int ecs])), (ec1, .inl (G.2.2.1, 16, .inl ecc)), (ec2, .inl (G.2.2.1, 286, .inl ecy)), (ed, .inr (1, [.ref ed1, .ref ed2, .int eds])), (ed1, .inl (G.2.2.1, 16, .inl edc)), (ed2, .inl (G.2.2.1, 30, .inl edy))]) d_Expander_readCodes_81 (g_Exp_number hl G h ex et ea eb ec ed ef er a5_ en f5 N fr 3 (by first | assumption | omega (splitDisjunctions := false) | omega | decide) (by first | assumption | omega (splitDisjunctions := false) | omega | decide) (by first | assumption | omega (splitDisjunctions := false) | omega | decide) (by first | assumption | omega (splitDisjunctions := false) | omega | decide) (by first | assumption | omega (splitDisjunctions := false) | omega | decide) (by first | assumption | omega (splitDisjunctions := false) | omega | decide) (by first | assumption | omega (splitDisjunctions := false) | omega | decide) (by first | assumption | decide | omega)) rfl rfl [0, 1] [2, 3, 4, 5, 6, 7, 8, 9, 10, 11] (by decide) rfl rfl rfl (by decide) (by decide) k_634 rfl k_121 k_631 k_633 k_17 ⟨rfl, hy_Expander_number⟩ (by decide) rfl rfl (Nat.le_of_ble_eq_true rfl) (by decide) (fun v9 u118 ch117 => ?_)
            obtain ⟨r_119, a2__120, f2__121⟩ := u118
            obtain ⟨ech117, ch117⟩ := ch117
            have ech117 : v9 = some (.int r_119) := ech117
            subst ech117
            obtain ⟨fh122, fh123, fh124, fh125, fh126, fh127, fh128⟩ : (0 ≤ r_119.toInt) ∧ (r_119.toInt < p2 (3 : Int32).toInt) ∧ (r_119.toInt ≤ 65535) ∧ (a5_.toInt ≤ a2__120.toInt) ∧ (a2__120.toInt ≤ en.toInt) ∧ (0 ≤ f2__121.toInt) ∧ (f5.toInt ≠ 0 → f2__121.toInt ≠ 0) := ch117
            refine pb_eq (pc' := 84) (lo' := [(4, .int k), (1, .int F1), (2, .int F2), (3, .int F3), (0, .ref h)]) (rest' := [.int r_119, .int i116, .ref et]) (ws' := [(et, .inl (G.2.2.1, 316, .inl t5)), (ef, .inr (1, [.ref ef1, .ref ef2, .int efs])), (ef1, .inl (G.2.2.1, 16, .inl efc)), (ef2, .inl (G.2.2.1, 19, .inl efy)), (ec, .inr (1, [.ref ec1, .ref ec2, .int ecs])), (ec1, .inl (G.2.2.1, 16, .inl ecc)), (ec2, .inl (G.2.2.1, 286, .inl ecy)), (ed, .inr (1, [.ref ed1, .ref ed2, .int eds])), (ed1, .inl (G.2.2.1, 16, .inl edc)), (ed2, .inl (G.2.2.1, 30, .inl edy)), (h, .inr (5, [.ref ex, .ref et, .ref ea, .ref eb, .ref ec, .ref ed, .ref ef, .ref er, .int a2__120, .int en, .int f2__121])), (er, .inl (G.2.1, N, .inl fr))]) ?_
            refine pb_iast (pc := 84) (ws' := [(et, .inl (G.2.2.1, 316, .inl (upd t5 ((i116 : Int32).toNatClampNeg) r_119))), (ef, .inr (1, [.ref ef1, .ref ef2, .int efs])), (ef1, .inl (G.2.2.1, 16, .inl efc)), (ef2, .inl (G.2.2.1, 19, .inl efy)), (ec, .inr (1, [.ref ec1, .ref ec2, .int ecs])), (ec1, .inl (G.2.2.1, 16, .inl ecc)), (ec2, .inl (G.2.2.1, 286, .inl ecy)), (ed, .inr (1, [.ref ed1, .ref ed2, .int eds])), (ed1, .inl (G.2.2.1, 16, .inl edc)), (ed2, .inl (G.2.2.1, 30, .inl edy)), (h, .inr (5, [.ref ex, .ref et, .ref ea, .ref eb, .ref ec, .ref ed, .ref ef, .ref er, .int a2__120, .int en, .int f2__121])), (er, .inl (G.2.1, N, .inl fr))]) d_Expander_readCodes_84 0 rfl (vp_in_iff.mpr (by omega)) rfl ?_
            refine pb_iincN (pc := 85) (c := 1) d_Expander_readCodes_85 0 rfl (by decide) (by decide) (fun i129 ei129 => ?_)
            have ti129 : i129.toInt = k.toInt + 1 := t2_add ei129 rfl (by decide) (by omega)
            refine pb_eq (pc' := 88) (lo' := [(4, .int i129), (1, .int F1), (2, .int F2), (3, .int F3), (0, .ref h)]) (rest' := []) (ws' := [(et, .inl (G.2.2.1, 316, .inl (upd t5 ((i116 : Int32).toNatClampNeg) r_119))), (ef, .inr (1, [.ref ef1, .ref ef2, .int efs])), (ef1, .inl (G.2.2.1, 16, .inl efc)), (ef2, .inl (G.2.2.1, 19, .inl efy)), (ec, .inr (1, [.ref ec1, .ref ec2, .int ecs])), (ec1, .inl (G.2.2.1, 16, .inl ecc)), (ec2, .inl (G.2.2.1, 286, .inl ecy)), (ed, .inr (1, [.ref ed1, .ref ed2, .int eds])), (ed1, .inl (G.2.2.1, 16, .inl edc)), (ed2, .inl (G.2.2.1, 30, .inl edy)), (h, .inr (5, [.ref ex, .ref et, .ref ea, .ref eb, .ref ec, .ref ed, .ref ef, .ref er, .int a2__120, .int en, .int f2__121])), (er, .inl (G.2.1, N, .inl fr))]) ?_
            refine pb_goto (pc := 88) (tgt := 63) d_Expander_readCodes_88 (by decide) ?_
            refine pb_re (ws' := [(h, .inr (5, [.ref ex, .ref et, .ref ea, .ref eb, .ref ec, .ref ed, .ref ef, .ref er, .int a2__120, .int en, .int f2__121])), (er, .inl (G.2.1, N, .inl fr)), (et, .inl (G.2.2.1, 316, .inl (upd t5 ((i116 : Int32).toNatClampNeg) r_119))), (ef, .inr (1, [.ref ef1, .ref ef2, .int efs])), (ef1, .inl (G.2.2.1, 16, .inl efc)), (ef2, .inl (G.2.2.1, 19, .inl efy)), (ec, .inr (1, [.ref ec1, .ref ec2, .int ecs])), (ec1, .inl (G.2.2.1, 16, .inl ecc)), (ec2, .inl (G.2.2.1, 286, .inl ecy)), (ed, .inr (1, [.ref ed1, .ref ed2, .int eds])), (ed1, .inl (G.2.2.1, 16, .inl edc)), (ed2, .inl (G.2.2.1, 30, .inl edy))]) (lo' := [(4, .int i129), (1, .int F1), (2, .int F2), (3, .int F3), (0, .ref h)]) [10, 11, 0, 1, 2, 3, 4, 5, 6, 7, 8, 9] [0, 1, 2, 3, 4] (by decide) rfl rfl rfl ?_
            exact ih63 i129 a2__120 f2__121 (upd t5 ((i116 : Int32).toNatClampNeg) r_119) (by first | assumption | omega (splitDisjunctions := false) | omega | decide) (by first | assumption | omega (splitDisjunctions := false) | omega | decide) (by first | assumption | omega (splitDisjunctions := false) | omega | decide) (by first | assumption | omega (splitDisjunctions := false) | omega | decide) (by first | assumption | omega (splitDisjunctions := false) | omega | decide) (by omega)
      refine pb_re (ws' := [(h, .inr (5, [.ref ex, .ref et, .ref ea, .ref eb, .ref ec, .ref ed, .ref ef, .ref er, .int a4_, .int en, .int f4])), (er, .inl (G.2.1, N, .inl fr)), (et, .inl (G.2.2.1, 316, .inl f_44)), (ef, .inr (1, [.ref ef1, .ref ef2, .int efs])), (ef1, .inl (G.2.2.1, 16, .inl efc)), (ef2, .inl (G.2.2.1, 19, .inl efy)), (ec, .inr (1, [.ref ec1, .ref ec2, .int ecs])), (ec1, .inl (G.2.2.1, 16, .inl ecc)), (ec2, .inl (G.2.2.1, 286, .inl ecy)), (ed, .inr (1, [.ref ed1, .ref ed2, .int eds])), (ed1, .inl (G.2.2.1, 16, .inl edc)), (ed2, .inl (G.2.2.1, 30, .inl edy))]) (lo' := [(4, .int 0), (1, .int F1), (2, .int F2), (3, .int F3), (0, .ref h)]) [0, 1, 11, 2, 3, 4, 5, 6, 7, 8, 9, 10] [0, 1, 2, 3, 4] (by decide) rfl rfl rfl ?_
      exact hL63_46 _ 0 a4_ f4 f_44 (by first | assumption | omega (splitDisjunctions := false) | omega | decide) (by first | assumption | omega (splitDisjunctions := false) | omega | decide) (by first | assumption | omega (splitDisjunctions := false) | omega | decide) (by first | assumption | omega (splitDisjunctions := false) | omega | decide) (by first | assumption | omega (splitDisjunctions := false) | omega | decide) (Nat.lt_succ_self _)
    · have tw41 : ¬ f4.toInt = 0 := fun z9 => w41 ((ti_eq rfl (by decide)).mpr z9)
      exact pb_vret (pc := 51) hQ d_Expander_readCodes_51 rfl (a4_, f4, tf, efs, efc, efy, ecs, ecc, ecy, eds, edc, edy) ⟨rfl, (by (try dsimp only); first | done | assumption | omega (splitDisjunctions := false) | omega | decide), (by (try dsimp only); first | done | assumption | omega (splitDisjunctions := false) | omega | decide), (by (try dsimp only); first | done | assumption | omega (splitDisjunctions := false) | omega | decide), (by (try dsimp only); first | done | assumption | omega (splitDisjunctions := false) | omega | decide), (by (try dsimp only); first | done | assumption | decide | omega), (by (try dsimp only); first | done | assumption | omega (splitDisjunctions := false) | omega | decide), (by (try dsimp only); first | done | assumption | decide | omega), (by (try dsimp only); first | done | assumption | omega (splitDisjunctions := false) | omega | decide), (by (try dsimp only); first | done | assumption | decide | omega), (by (try dsimp only); first | done | assumption | omega (splitDisjunctions := false) | omega | decide)⟩ [0, 1, 2, 3, 4, 5, 6, 7, 8, 9, 10, 11] (by decide) rfl rfl (by decide) (by decide)
  refine pb_iload_n (pc := 26) d_Expander_readCodes_26 2 rfl rfl ?_
  refine pb_sipush (pc := 27) (v := 286) d_Expander_readCodes_27 (by decide) ?_
  refine pb_icmp_gt (pc := 30) (tgt := 39) d_Expander_readCodes_30 (by decide) (fun w130 => ?_) (fun w130 => ?_)
  · have tw130 : 286 < i13.toInt := (ti_lt (by decide) rfl).mp w130
    refine pb_aload_n (pc := 39) d_Expander_readCodes_39 3 rfl rfl ?_
    refine pb_iconst (pc := 40) (v := 4) d_Expander_readCodes_40 (by decide) ?_
    refine pb_callV (pc := 41) (I := i_Expander_readCodes) (qb := 10) (ci := 5) (nA := 1) (rest := []) (wr := [(et, .inl (G.2.2.1, 316, .inl tf)), (ef, .inr (1, [.ref ef1, .ref ef2, .int efs])), (ef1, .inl (G.2.2.1, 16, .inl efc)), (ef2, .inl (G.2.2.1, 19, .inl efy)), (ec, .inr (1, [.ref ec1, .ref ec2, .int ecs])), (ec1, .inl (G.2.2.1, 16, .inl ecc)), (ec2, .inl (G.2.2.1, 286, .inl ecy)), (ed, .inr (1, [.ref ed1, .ref ed2, .int eds])), (ed1, .inl (G.2.2.1, 16, .inl edc)), (ed2, .inl (G.2.2.1, 30, .inl edy)), (er, .inl (G.2.1, N, .inl fr))]) d_Expander_readCodes_41 (g_Exp_fail hl G h ex et ea eb ec ed ef er a2__30 en f2__31 4 (by first | assumption | omega (splitDisjunctions := false) | omega | decide) (by first | assumption | omega (splitDisjunctions := false) | omega | decide)) rfl rfl [10] [0, 1, 2, 3, 4, 5, 6, 7, 8, 9, 11] (by decide) rfl rfl rfl (by decide) (by decide) k_643 rfl k_121 k_640 k_642 k_19 ⟨rfl, hy_Expander_fail⟩ (by decide) rfl rfl (Nat.le_of_ble_eq_true rfl) (by decide) (fun v9 u132 ch131 => ?_)
    obtain ⟨f2__133, rfl⟩ : ∃ z9, z9 = u132 := ⟨_, rfl⟩
    obtain ⟨ech131, ch131⟩ := ch131
    have ech131 : v9 = none := ech131
    subst ech131
    have fh134 : 0 < f2__133.toInt := ch131
    refine pb_eq (pc' := 44) (lo' := [(3, .int i39), (2, .int i26), (1, .int i13), (0, .ref h)]) (rest' := []) (ws' := [(et, .inl (G.2.2.1, 316, .inl tf)), (ef, .inr (1, [.ref ef1, .ref ef2, .int efs])), (ef1, .inl (G.2.2.1, 16, .inl efc)), (ef2, .inl (G.2.2.1, 19, .inl efy)), (ec, .inr (1, [.ref ec1, .ref ec2, .int ecs])), (ec1, .inl (G.2.2.1, 16, .inl ecc)), (ec2, .inl (G.2.2.1, 286, .inl ecy)), (ed, .inr (1, [.ref ed1, .ref ed2, .int eds])), (ed1, .inl (G.2.2.1, 16, .inl edc)), (ed2, .inl (G.2.2.1, 30, .inl edy)), (er, .inl (G.2.1, N, .inl fr)), (h, .inr (5, [.ref ex, .ref et, .ref ea, .ref eb, .ref ec, .ref ed, .ref ef, .ref er, .int a2__30, .int en, .int f2__133]))]) ?_
    refine pb_re (ws' := [(h, .inr (5, [.ref ex, .ref et, .ref ea, .ref eb, .ref ec, .ref ed, .ref ef, .ref er, .int a2__30, .int en, .int f2__133])), (er, .inl (G.2.1, N, .inl fr)), (et, .inl (G.2.2.1, 316, .inl tf)), (ef, .inr (1, [.ref ef1, .ref ef2, .int efs])), (ef1, .inl (G.2.2.1, 16, .inl efc)), (ef2, .inl (G.2.2.1, 19, .inl efy)), (ec, .inr (1, [.ref ec1, .ref ec2, .int ecs])), (ec1, .inl (G.2.2.1, 16, .inl ecc)), (ec2, .inl (G.2.2.1, 286, .inl ecy)), (ed, .inr (1, [.ref ed1, .ref ed2, .int eds])), (ed1, .inl (G.2.2.1, 16, .inl edc)), (ed2, .inl (G.2.2.1, 30, .inl edy))]) (lo' := [(1, .int i13), (2, .int i26), (3, .int i39), (0, .ref h)]) [11, 10, 0, 1, 2, 3, 4, 5, 6, 7, 8, 9] [2, 1, 0, 3] (by decide) rfl rfl rfl ?_
    exact hJ44_40 i13 i26 i39 a2__30 f2__133 (by first | assumption | omega (splitDisjunctions := false) | omega | decide) (by first | assumption | omega (splitDisjunctions := false) | omega | decide) (by first | assumption | omega (splitDisjunctions := false) | omega | decide) (by first | assumption | omega (splitDisjunctions := false) | omega | decide) (by first | assumption | omega (splitDisjunctions := false) | omega | decide) (by first | assumption | omega (splitDisjunctions := false) | omega | decide) (by first | assumption | omega (splitDisjunctions := false) | omega | decide) (by first | assumption | omega (splitDisjunctions := false) | omega | decide) (by first | assumption | omega (splitDisjunctions := false) | omega | decide)
  · have tw130 : ¬ 286 < i13.toInt := fun z9 => w130 ((ti_lt (by decide) rfl).mpr z9)
    refine pb_iload_n (pc := 33) d_Expander_readCodes_33 1 rfl rfl ?_
    refine pb_bipush (pc := 34) (v := 30) d_Expander_readCodes_34 (by decide) ?_
    refine pb_icmp_le (pc := 36) (tgt := 44) d_Expander_readCodes_36 (by decide) (fun w135 => ?_) (fun w135 => ?_)
    · have tw135 : i26.toInt ≤ 30 := (ti_le rfl (by decide)).mp w135
      refine pb_re (ws' := [(h, .inr (5, [.ref ex, .ref et, .ref ea, .ref eb, .ref ec, .ref ed, .ref ef, .ref er, .int a2__30, .int en, .int f2__31])), (er, .inl (G.2.1, N, .inl fr)), (et, .inl (G.2.2.1, 316, .inl tf)), (ef, .inr (1, [.ref ef1, .ref ef2, .int efs])), (ef1, .inl (G.2.2.1, 16, .inl efc)), (ef2, .inl (G.2.2.1, 19, .inl efy)), (ec, .inr (1, [.ref ec1, .ref ec2, .int ecs])), (ec1, .inl (G.2.2.1, 16, .inl ecc)), (ec2, .inl (G.2.2.1, 286, .inl ecy)), (ed, .inr (1, [.ref ed1, .ref ed2, .int eds])), (ed1, .inl (G.2.2.1, 16, .inl edc)), (ed2, .inl (G.2.2.1, 30, .inl edy))]) (lo' := [(1, .int i13), (2, .int i26), (3, .int i39), (0, .ref h)]) [10, 11, 0, 1, 2, 3, 4, 5, 6, 7, 8, 9] [2, 1, 0, 3] (by decide) rfl rfl rfl ?_
      exact hJ44_40 i13 i26 i39 a2__30 f2__31 (by first | assumption | omega (splitDisjunctions := false) | omega | decide) (by first | assumption | omega (splitDisjunctions := false) | omega | decide) (by first | assumption | omega (splitDisjunctions := false) | omega | decide) (by first | assumption | omega (splitDisjunctions := false) | omega | decide) (by first | assumption | omega (splitDisjunctions := false) | omega | decide) (by first | assumption | omega (splitDisjunctions := false) | omega | decide) (by first | assumption | omega (splitDisjunctions := false) | omega | decide) (by first | assumption | omega (splitDisjunctions := false) | omega | decide) (by first | assumption | omega (splitDisjunctions := false) | omega | decide)
    · have tw135 : ¬ i26.toInt ≤ 30 := fun z9 => w135 ((ti_le rfl (by decide)).mpr z9)
      refine pb_aload_n (pc := 39) d_Expander_readCodes_39 3 rfl rfl ?_
      refine pb_iconst (pc := 40) (v := 4) d_Expander_readCodes_40 (by decide) ?_
      refine pb_callV (pc := 41) (I := i_Expander_readCodes) (qb := 10) (ci := 5) (nA := 1) (rest := []) (wr := [(et, .inl (G.2.2.1, 316, .inl tf)), (ef, .inr (1, [.ref ef1, .ref ef2, .int efs])), (ef1, .inl (G.2.2.1, 16, .inl efc)), (ef2, .inl (G.2.2.1, 19, .inl efy)), (ec, .inr (1, [.ref ec1, .ref ec2, .int ecs])), (ec1, .inl (G.2.2.1, 16, .inl ecc)), (ec2, .inl (G.2.2.1, 286, .inl ecy)), (ed, .inr (1, [.ref ed1, .ref ed2, .int eds])), (ed1, .inl (G.2.2.1, 16, .inl edc)), (ed2, .inl (G.2.2.1, 30, .inl edy)), (er, .inl (G.2.1, N, .inl fr))]) d_Expander_readCodes_41 (g_Exp_fail hl G h ex et ea eb ec ed ef er a2__30 en f2__31 4 (by first | assumption | omega (splitDisjunctions := false) | omega | decide) (by first | assumption | omega (splitDisjunctions := false) | omega | decide)) rfl rfl [10] [0, 1, 2, 3, 4, 5, 6, 7, 8, 9, 11] (by decide) rfl rfl rfl (by decide) (by decide) k_643 rfl k_121 k_640 k_642 k_19 ⟨rfl, hy_Expander_fail⟩ (by decide) rfl rfl (Nat.le_of_ble_eq_true rfl) (by decide) (fun v9 u137 ch136 => ?_)
      obtain ⟨f2__138, rfl⟩ : ∃ z9, z9 = u137 := ⟨_, rfl⟩
      obtain ⟨ech136, ch136⟩ := ch136
      have ech136 : v9 = none := ech136
      subst ech136
      have fh139 : 0 < f2__138.toInt := ch136
      refine pb_eq (pc' := 44) (lo' := [(3, .int i39), (2, .int i26), (1, .int i13), (0, .ref h)]) (rest' := []) (ws' := [(et, .inl (G.2.2.1, 316, .inl tf)), (ef, .inr (1, [.ref ef1, .ref ef2, .int efs])), (ef1, .inl (G.2.2.1, 16, .inl efc)), (ef2, .inl (G.2.2.1, 19, .inl efy)), (ec, .inr (1, [.ref ec1, .ref ec2, .int ecs])), (ec1, .inl (G.2.2.1, 16, .inl ecc)), (ec2, .inl (G.2.2.1, 286, .inl ecy)), (ed, .inr (1, [.ref ed1, .ref ed2, .int eds])), (ed1, .inl (G.2.2.1, 16, .inl edc)), (ed2, .inl (G.2.2.1, 30, .inl edy)), (er, .inl (G.2.1, N, .inl fr)), (h, .inr (5, [.ref ex, .ref et, .ref ea, .ref eb, .ref ec, .ref ed, .ref ef, .ref er, .int a2__30, .int en, .int f2__138]))]) ?_
      refine pb_re (ws' := [(h, .inr (5, [.ref ex, .ref et, .ref ea, .ref eb, .ref ec, .ref ed, .ref ef, .ref er, .int a2__30, .int en, .int f2__138])), (er, .inl (G.2.1, N, .inl fr)), (et, .inl (G.2.2.1, 316, .inl tf)), (ef, .inr (1, [.ref ef1, .ref ef2, .int efs])), (ef1, .inl (G.2.2.1, 16, .inl efc)), (ef2, .inl (G.2.2.1, 19, .inl efy)), (ec, .inr (1, [.ref ec1, .ref ec2, .int ecs])), (ec1, .inl (G.2.2.1, 16, .inl ecc)), (ec2, .inl (G.2.2.1, 286, .inl ecy)), (ed, .inr (1, [.ref ed1, .ref ed2, .int eds])), (ed1, .inl (G.2.2.1, 16, .inl edc)), (ed2, .inl (G.2.2.1, 30, .inl edy))]) (lo' := [(1, .int i13), (2, .int i26), (3, .int i39), (0, .ref h)]) [11, 10, 0, 1, 2, 3, 4, 5, 6, 7, 8, 9] [2, 1, 0, 3] (by decide) rfl rfl rfl ?_
      exact hJ44_40 i13 i26 i39 a2__30 f2__138 (by first | assumption | omega (splitDisjunctions := false) | omega | decide) (by first | assumption | omega (splitDisjunctions := false) | omega | decide) (by first | assumption | omega (splitDisjunctions := false) | omega | decide) (by first | assumption | omega (splitDisjunctions := false) | omega | decide) (by first | assumption | omega (splitDisjunctions := false) | omega | decide) (by first | assumption | omega (splitDisjunctions := false) | omega | decide) (by first | assumption | omega (splitDisjunctions := false) | omega | decide) (by first | assumption | omega (splitDisjunctions := false) | omega | decide) (by first | assumption | omega (splitDisjunctions := false) | omega | decide)
