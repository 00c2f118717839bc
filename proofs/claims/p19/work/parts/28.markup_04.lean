/-! ROWS OF NUMBERS -/
theorem omg_4383e1b071 {x0 : Int} {x1 : Int} {x2 : Int} (a0 : (x0 = (x1 + (1 : Int)))) : ((x0 - x2) = ((x1 - x2) + (1 : Int))) := by omega
theorem omg_2e424a62e4 {x0 : Int} {x1 : Int} {x2 : Int} (a0 : (x0 = x1)) (a1 : (¬ (x0 = (45 : Int)))) : (¬ ((x2 = (45 : Int)) ∧ (x1 = (45 : Int)))) := by omega
theorem omg_836e6c3738 {x0 : Int} {x1 : Int} {x2 : Int} {x3 : Int} {x4 : Int} (a0 : (x0 ≤ x1)) (a1 : (x1 ≤ x2)) (a2 : (x2 ≤ x3)) (a3 : (x3 ≤ x4)) : (x0 ≤ x4) := by omega
theorem omg_d640c22f96 {x0 : Int} {x1 : Int} (a0 : (x0 = x1)) (a1 : (¬ (x0 = (47 : Int)))) : (¬ (x1 = (47 : Int))) := by omega
theorem omg_a30c78b83b {x0 : Int} {x1 : Int} {x2 : Int} {x3 : Int} {x4 : Int} {x5 : Int} (a0 : (x0 ≤ x1)) (a1 : (x1 ≤ x2)) (a2 : (x2 ≤ x3)) (a3 : (x3 ≤ x4)) (a4 : (x4 ≤ x5)) : (x0 ≤ x5) := by omega
theorem d_Markup_isElementNext_0 : decode prog_7_method_7_code 0 = .ok (.aload_n 0, 1) := by decide +kernel
theorem d_Markup_isElementNext_1 : decode prog_7_method_7_code 1 = .ok (.getfield 83, 3) := by decide +kernel
theorem k_329 : (Jvm.Cond.fieldLink "PackageBook$Markup" (83 : Nat) "PackageBook$Markup" "isOpen" "Z") ∈ uW := uW_of 329 (by decide +kernel) (by decide +kernel)
theorem d_Markup_isElementNext_4 : decode prog_7_method_7_code 4 = .ok (.ifCond .eq 27, 3) := by decide +kernel
theorem d_Markup_isElementNext_31 : decode prog_7_method_7_code 31 = .ok (.iconst 0, 1) := by decide +kernel
theorem d_Markup_isElementNext_32 : decode prog_7_method_7_code 32 = .ok (.ireturn, 1) := by decide +kernel
theorem d_Markup_isElementNext_7 : decode prog_7_method_7_code 7 = .ok (.aload_n 0, 1) := by decide +kernel
theorem d_Markup_isElementNext_8 : decode prog_7_method_7_code 8 = .ok (.iconst 0, 1) := by decide +kernel
theorem d_Markup_isElementNext_9 : decode prog_7_method_7_code 9 = .ok (.invokevirtual 80, 3) := by decide +kernel
theorem d_Markup_isElementNext_12 : decode prog_7_method_7_code 12 = .ok (.bipush 60, 2) := by decide +kernel
theorem d_Markup_isElementNext_14 : decode prog_7_method_7_code 14 = .ok (.if_icmp .ne 17, 3) := by decide +kernel
theorem d_Markup_isElementNext_17 : decode prog_7_method_7_code 17 = .ok (.aload_n 0, 1) := by decide +kernel
theorem d_Markup_isElementNext_18 : decode prog_7_method_7_code 18 = .ok (.iconst 1, 1) := by decide +kernel
theorem d_Markup_isElementNext_19 : decode prog_7_method_7_code 19 = .ok (.invokevirtual 80, 3) := by decide +kernel
theorem d_Markup_isElementNext_22 : decode prog_7_method_7_code 22 = .ok (.bipush 47, 2) := by decide +kernel
theorem d_Markup_isElementNext_24 : decode prog_7_method_7_code 24 = .ok (.if_icmp .eq 7, 3) := by decide +kernel
theorem d_Markup_isElementNext_27 : decode prog_7_method_7_code 27 = .ok (.iconst 1, 1) := by decide +kernel
theorem d_Markup_isElementNext_28 : decode prog_7_method_7_code 28 = .ok (.goto 4, 3) := by decide +kernel
abbrev y_Markup_isElementNext : MethodName := ⟨"PackageBook$Markup", "isElementNext", "()Z"⟩
abbrev i_Markup_isElementNext : pb_I := (y_Markup_isElementNext, prog_7_method_7_code, 1, (some Jvm.ClassFile.FieldType.boolean), [], { frames := 1, cells := 0, slots := 0, locals := 21 })
set_option maxRecDepth 100000 in
set_option maxHeartbeats 4000000 in
theorem g_Mu_isElementNext {l : Launch} (hl : l.stackTraces = false) (G : pb_G) (h : Nat) (ui : Nat) (ug : Nat) (uv : Nat) (ur : Nat) (ct : Int32) (fa : Int32) (bg : Int32) (at_ : Int32) (en : Int32) (vs : Int32) (io : Int32) (hi : Int32) (ht : Int32) (uf : Nat → Int32) (a0 : 0 ≤ at_.toInt) (a1 : at_.toInt ≤ en.toInt) (a2 : en.toInt ≤ 12000) (a3 : 0 ≤ bg.toInt) (a4 : bg.toInt ≤ at_.toInt) (F_uf : sb_Fit uf) : Cn l G i_Markup_isElementNext [.ref h] [(h, .inr (8, [.ref ui, .ref ug, .ref uv, .ref ur, .int ct, .int fa, .int bg, .int at_, .int en, .int vs, .int io, .int hi, .int ht])), (ur, .inl (G.2.1, 12000, .inl uf))] (S := Int32) (fun rv_ u => rv_ = some (.int u) ∧ (u.toInt = 0 ∨ u.toInt = 1) ∧ (hid_ (u.toInt = 1 ↔ (¬ io.toInt = 0 ∧ cm_ (mB_ uf bg.toInt) (en.toInt - bg.toInt) (at_.toInt - bg.toInt) = 60 ∧ ¬ cm_ (mB_ uf bg.toInt) (en.toInt - bg.toInt) ((at_.toInt - bg.toInt) + 1) = 47)))) (fun u => [(h, .inr (8, [.ref ui, .ref ug, .ref uv, .ref ur, .int ct, .int fa, .int bg, .int at_, .int en, .int vs, .int io, .int hi, .int ht])), (ur, .inl (G.2.1, 12000, .inl uf))]) := by
  refine Cn.of hl (by decide +kernel) rfl (Nat.le_of_ble_eq_true rfl) (fun M hQ => ?_)
  refine pb_eq (pc' := 0) (lo' := [(0, .ref h)]) (rest' := []) (ws' := [(h, .inr (8, [.ref ui, .ref ug, .ref uv, .ref ur, .int ct, .int fa, .int bg, .int at_, .int en, .int vs, .int io, .int hi, .int ht])), (ur, .inl (G.2.1, 12000, .inl uf))]) ?_
  have zl0 : (0 : Int32).toInt = 0 := by decide
  have zl1 : (1 : Int32).toInt = 1 := by decide
  refine pb_aload_n (pc := 0) d_Markup_isElementNext_0 0 rfl rfl ?_
  refine pb_get (pc := 1) d_Markup_isElementNext_1 0 10 rfl rfl (by decide) in_Markup k_329 rfl ?_
  refine pb_if_eq (pc := 4) (tgt := 31) d_Markup_isElementNext_4 (by decide) (fun w1 => ?_) (fun w1 => ?_)
  · have tw1 : io.toInt = 0 := (ti_eq rfl (by decide)).mp w1
    refine pb_iconst (pc := 31) (v := 0) d_Markup_isElementNext_31 (by decide) ?_
    exact pb_iret (pc := 32) hQ d_Markup_isElementNext_32 rfl rfl (0) ⟨rfl, (by (try dsimp only); first | done | (with_reducible assumption) | omega (splitDisjunctions := false) | assumption | omega | decide), (show hid_ ((0 : Int32).toInt = 1 ↔ (¬ io.toInt = 0 ∧ cm_ (mB_ uf bg.toInt) (en.toInt - bg.toInt) (at_.toInt - bg.toInt) = 60 ∧ ¬ cm_ (mB_ uf bg.toInt) (en.toInt - bg.toInt) ((at_.toInt - bg.toInt) + 1) = 47)) from (hid_i (by constructor <;> (intro q9; omega))))⟩ [0, 1] (by decide) rfl rfl (by decide) (by decide)
  · have tw1 : ¬ io.toInt = 0 := fun z9 => w1 ((ti_eq rfl (by decide)).mpr z9)
    refine pb_aload_n (pc := 7) d_Markup_isElementNext_7 0 rfl rfl ?_
    refine pb_iconst (pc := 8) (v := 0) d_Markup_isElementNext_8 (by decide) ?_
    refine pb_callV (pc := 9) (I := i_Markup_isElementNext) (qb := 0) (ci := 8) (nA := 1) (rest := []) (wr := []) d_Markup_isElementNext_9 (g_Mu_next hl G h ui ug uv ur ct fa bg at_ en vs io hi ht uf 0 (by first | (with_reducible assumption) | omega (splitDisjunctions := false) | assumption | omega | decide) (by first | (with_reducible assumption) | omega (splitDisjunctions := false) | assumption | omega | decide) (by first | (with_reducible assumption) | omega (splitDisjunctions := false) | assumption | omega | decide) (by first | (with_reducible assumption) | omega (splitDisjunctions := false) | assumption | omega | decide) (by first | (with_reducible assumption) | omega (splitDisjunctions := false) | assumption | omega | decide) (by first | (with_reducible assumption) | omega (splitDisjunctions := false) | assumption | omega | decide) (by first | (with_reducible assumption) | omega (splitDisjunctions := false) | assumption | omega | decide) F_uf) rfl rfl [0, 1] [] (by decide) rfl rfl rfl (by decide) (by decide) k_813 rfl k_125 k_810 k_812 k_33 ⟨rfl, hy_Markup_next⟩ (by decide) rfl rfl (Nat.le_of_ble_eq_true rfl) (by decide) (fun v9 u3 ch2 => ?_)
    obtain ⟨r_4, rfl⟩ : ∃ z9, z9 = u3 := ⟨_, rfl⟩
    obtain ⟨ech2, ch2⟩ := ch2
    have ech2 : v9 = some (.int r_4) := ech2
    subst ech2
    obtain ⟨fh5, fh6, fh7, fh8⟩ : (-1 ≤ r_4.toInt) ∧ (r_4.toInt ≤ 255) ∧ (0 ≤ r_4.toInt → at_.toInt + (0 : Int32).toInt < en.toInt) ∧ (r_4.toInt = cm_ (mB_ uf bg.toInt) (en.toInt - bg.toInt) ((at_.toInt - bg.toInt) + (0 : Int32).toInt)) := ch2
    have h1F := fh8
    rw [zl0, Int.add_zero] at h1F
    refine pb_eq (pc' := 12) (lo' := [(0, .ref h)]) (rest' := [.int r_4]) (ws' := [(h, .inr (8, [.ref ui, .ref ug, .ref uv, .ref ur, .int ct, .int fa, .int bg, .int at_, .int en, .int vs, .int io, .int hi, .int ht])), (ur, .inl (G.2.1, 12000, .inl uf))]) ?_
    refine pb_bipush (pc := 12) (v := 60) d_Markup_isElementNext_12 (by decide) ?_
    refine pb_icmp_ne (pc := 14) (tgt := 31) d_Markup_isElementNext_14 (by decide) (fun w9 => ?_) (fun w9 => ?_)
    · have tw9 : ¬ r_4.toInt = 60 := fun z9 => w9 ((ti_eq rfl (by decide)).mpr z9)
      refine pb_iconst (pc := 31) (v := 0) d_Markup_isElementNext_31 (by decide) ?_
      exact pb_iret (pc := 32) hQ d_Markup_isElementNext_32 rfl rfl (0) ⟨rfl, (by (try dsimp only); first | done | (with_reducible assumption) | omega (splitDisjunctions := false) | assumption | (clear fh7; first | omega (splitDisjunctions := false) | omega) | omega | decide), (show hid_ ((0 : Int32).toInt = 1 ↔ (¬ io.toInt = 0 ∧ cm_ (mB_ uf bg.toInt) (en.toInt - bg.toInt) (at_.toInt - bg.toInt) = 60 ∧ ¬ cm_ (mB_ uf bg.toInt) (en.toInt - bg.toInt) ((at_.toInt - bg.toInt) + 1) = 47)) from (hid_i (by constructor <;> (intro q9; omega))))⟩ [0, 1] (by decide) rfl rfl (by decide) (by decide)
    · have tw9 : r_4.toInt = 60 := (ti_eq rfl (by decide)).mp w9
      refine pb_aload_n (pc := 17) d_Markup_isElementNext_17 0 rfl rfl ?_
      refine pb_iconst (pc := 18) (v := 1) d_Markup_isElementNext_18 (by decide) ?_
      refine pb_callV (pc := 19) (I := i_Markup_isElementNext) (qb := 0) (ci := 8) (nA := 1) (rest := []) (wr := []) d_Markup_isElementNext_19 (g_Mu_next hl G h ui ug uv ur ct fa bg at_ en vs io hi ht uf 1 (by first | (with_reducible assumption) | omega (splitDisjunctions := false) | assumption | (clear fh7; first | omega (splitDisjunctions := false) | omega) | omega | decide) (by first | (with_reducible assumption) | omega (splitDisjunctions := false) | assumption | (clear fh7; first | omega (splitDisjunctions := false) | omega) | omega | decide) (by first | (with_reducible assumption) | omega (splitDisjunctions := false) | assumption | (clear fh7; first | omega (splitDisjunctions := false) | omega) | omega | decide) (by first | (with_reducible assumption) | omega (splitDisjunctions := false) | assumption | (clear fh7; first | omega (splitDisjunctions := false) | omega) | omega | decide) (by first | (with_reducible assumption) | omega (splitDisjunctions := false) | assumption | (clear fh7; first | omega (splitDisjunctions := false) | omega) | omega | decide) (by first | (with_reducible assumption) | omega (splitDisjunctions := false) | assumption | (clear fh7; first | omega (splitDisjunctions := false) | omega) | omega | decide) (by first | (with_reducible assumption) | omega (splitDisjunctions := false) | assumption | (clear fh7; first | omega (splitDisjunctions := false) | omega) | omega | decide) F_uf) rfl rfl [0, 1] [] (by decide) rfl rfl rfl (by decide) (by decide) k_813 rfl k_125 k_810 k_812 k_33 ⟨rfl, hy_Markup_next⟩ (by decide) rfl rfl (Nat.le_of_ble_eq_true rfl) (by decide) (fun v9 u11 ch10 => ?_)
      obtain ⟨r_12, rfl⟩ : ∃ z9, z9 = u11 := ⟨_, rfl⟩
      obtain ⟨ech10, ch10⟩ := ch10
      have ech10 : v9 = some (.int r_12) := ech10
      subst ech10
      obtain ⟨fh13, fh14, fh15, fh16⟩ : (-1 ≤ r_12.toInt) ∧ (r_12.toInt ≤ 255) ∧ (0 ≤ r_12.toInt → at_.toInt + (1 : Int32).toInt < en.toInt) ∧ (r_12.toInt = cm_ (mB_ uf bg.toInt) (en.toInt - bg.toInt) ((at_.toInt - bg.toInt) + (1 : Int32).toInt)) := ch10
      have h2F := fh16
      rw [zl1] at h2F
      refine pb_eq (pc' := 22) (lo' := [(0, .ref h)]) (rest' := [.int r_12]) (ws' := [(h, .inr (8, [.ref ui, .ref ug, .ref uv, .ref ur, .int ct, .int fa, .int bg, .int at_, .int en, .int vs, .int io, .int hi, .int ht])), (ur, .inl (G.2.1, 12000, .inl uf))]) ?_
      refine pb_bipush (pc := 22) (v := 47) d_Markup_isElementNext_22 (by decide) ?_
      refine pb_icmp_eq (pc := 24) (tgt := 31) d_Markup_isElementNext_24 (by decide) (fun w17 => ?_) (fun w17 => ?_)
      · have tw17 : r_12.toInt = 47 := (ti_eq rfl (by decide)).mp w17
        refine pb_iconst (pc := 31) (v := 0) d_Markup_isElementNext_31 (by decide) ?_
        exact pb_iret (pc := 32) hQ d_Markup_isElementNext_32 rfl rfl (0) ⟨rfl, (by (try dsimp only); first | done | (with_reducible assumption) | omega (splitDisjunctions := false) | assumption | (clear fh7 fh15; first | omega (splitDisjunctions := false) | omega) | omega | decide), (show hid_ ((0 : Int32).toInt = 1 ↔ (¬ io.toInt = 0 ∧ cm_ (mB_ uf bg.toInt) (en.toInt - bg.toInt) (at_.toInt - bg.toInt) = 60 ∧ ¬ cm_ (mB_ uf bg.toInt) (en.toInt - bg.toInt) ((at_.toInt - bg.toInt) + 1) = 47)) from (hid_i (by constructor <;> (intro q9; omega))))⟩ [0, 1] (by decide) rfl rfl (by decide) (by decide)
      · have tw17 : ¬ r_12.toInt = 47 := fun z9 => w17 ((ti_eq rfl (by decide)).mpr z9)
        refine pb_iconst (pc := 27) (v := 1) d_Markup_isElementNext_27 (by decide) ?_
        refine pb_goto (pc := 28) (tgt := 32) d_Markup_isElementNext_28 (by decide) ?_
        exact pb_iret (pc := 32) hQ d_Markup_isElementNext_32 rfl rfl (1) ⟨rfl, (by (try dsimp only); first | done | (with_reducible assumption) | omega (splitDisjunctions := false) | assumption | (clear fh7 fh15; first | omega (splitDisjunctions := false) | omega) | omega | decide), (show hid_ ((1 : Int32).toInt = 1 ↔ (¬ io.toInt = 0 ∧ cm_ (mB_ uf bg.toInt) (en.toInt - bg.toInt) (at_.toInt - bg.toInt) = 60 ∧ ¬ cm_ (mB_ uf bg.toInt) (en.toInt - bg.toInt) ((at_.toInt - bg.toInt) + 1) = 47)) from (hid_i (by constructor <;> (intro q9; omega))))⟩ [0, 1] (by decide) rfl rfl (by decide) (by decide)

theorem d_Markup_skipComment_0 : decode prog_7_method_18_code 0 = .ok (.aload_n 0, 1) := by decide +kernel
theorem d_Markup_skipComment_1 : decode prog_7_method_18_code 1 = .ok (.ldc 168, 2) := by decide +kernel
theorem d_Markup_skipComment_3 : decode prog_7_method_18_code 3 = .ok (.invokevirtual 73, 3) := by decide +kernel
theorem k_822 : (Jvm.Cond.methodLink "PackageBook$Markup" (73 : Nat) ({ cls := "PackageBook$Markup", name := "takeText", desc := "(Ljava/lang/String;)Z" } : Jvm.MethodName)) ∈ uW := uW_of 822 (by decide +kernel) (by decide +kernel)
theorem k_825 : (Jvm.Cond.code ({ cls := "PackageBook$Markup", name := "takeText", desc := "(Ljava/lang/String;)Z" } : Jvm.MethodName) prog_7_method_21_code (3 : Nat) (Option.some Jvm.ClassFile.FieldType.boolean)) ∈ uW := uW_of 825 (by decide +kernel) (by decide +kernel)
theorem k_824 : (Jvm.Cond.instanceMethod ({ cls := "PackageBook$Markup", name := "takeText", desc := "(Ljava/lang/String;)Z" } : Jvm.MethodName)) ∈ uW := uW_of 824 (by decide +kernel) (by decide +kernel)
theorem k_35 : Cond.selects "PackageBook$Markup" ⟨"PackageBook$Markup", "takeText", "(Ljava/lang/String;)Z"⟩ ⟨"PackageBook$Markup", "takeText", "(Ljava/lang/String;)Z"⟩ ∈ uW := uW_of 35 (by decide +kernel) (by decide +kernel)
theorem hy_Markup_takeText : (y_Markup_takeText).cls ≠ "java/lang/invoke/MethodHandle" ∧ (y_Markup_takeText).cls ≠ "java/lang/invoke/VarHandle" ∧ (parseMethodDescriptor (y_Markup_takeText).desc).map (fun d => d.parameters.length) = some 1 := by decide +kernel
theorem d_Markup_skipComment_6 : decode prog_7_method_18_code 6 = .ok (.ifCond .ne 5, 3) := by decide +kernel
theorem d_Markup_skipComment_11 : decode prog_7_method_18_code 11 = .ok (.aload_n 0, 1) := by decide +kernel
theorem d_Markup_skipComment_12 : decode prog_7_method_18_code 12 = .ok (.getfield 48, 3) := by decide +kernel
theorem d_Markup_skipComment_15 : decode prog_7_method_18_code 15 = .ok (.aload_n 0, 1) := by decide +kernel
theorem d_Markup_skipComment_16 : decode prog_7_method_18_code 16 = .ok (.getfield 51, 3) := by decide +kernel
theorem d_Markup_skipComment_19 : decode prog_7_method_18_code 19 = .ok (.if_icmp .ge 36, 3) := by decide +kernel
theorem d_Markup_skipComment_55 : decode prog_7_method_18_code 55 = .ok (.aload_n 0, 1) := by decide +kernel
theorem d_Markup_skipComment_56 : decode prog_7_method_18_code 56 = .ok (.ldc 170, 2) := by decide +kernel
theorem d_Markup_skipComment_58 : decode prog_7_method_18_code 58 = .ok (.invokevirtual 73, 3) := by decide +kernel
theorem d_Markup_skipComment_61 : decode prog_7_method_18_code 61 = .ok (.ireturn, 1) := by decide +kernel
theorem d_Markup_skipComment_22 : decode prog_7_method_18_code 22 = .ok (.aload_n 0, 1) := by decide +kernel
theorem d_Markup_skipComment_23 : decode prog_7_method_18_code 23 = .ok (.iconst 0, 1) := by decide +kernel
theorem d_Markup_skipComment_24 : decode prog_7_method_18_code 24 = .ok (.invokevirtual 80, 3) := by decide +kernel
theorem d_Markup_skipComment_27 : decode prog_7_method_18_code 27 = .ok (.bipush 45, 2) := by decide +kernel
theorem d_Markup_skipComment_29 : decode prog_7_method_18_code 29 = .ok (.if_icmp .ne 13, 3) := by decide +kernel
theorem d_Markup_skipComment_42 : decode prog_7_method_18_code 42 = .ok (.aload_n 0, 1) := by decide +kernel
theorem d_Markup_skipComment_43 : decode prog_7_method_18_code 43 = .ok (.dup, 1) := by decide +kernel
theorem d_Markup_skipComment_44 : decode prog_7_method_18_code 44 = .ok (.getfield 48, 3) := by decide +kernel
theorem d_Markup_skipComment_47 : decode prog_7_method_18_code 47 = .ok (.iconst 1, 1) := by decide +kernel
theorem d_Markup_skipComment_48 : decode prog_7_method_18_code 48 = .ok (.iadd, 1) := by decide +kernel
theorem d_Markup_skipComment_49 : decode prog_7_method_18_code 49 = .ok (.putfield 48, 3) := by decide +kernel
theorem d_Markup_skipComment_52 : decode prog_7_method_18_code 52 = .ok (.goto (-41), 3) := by decide +kernel
theorem d_Markup_skipComment_32 : decode prog_7_method_18_code 32 = .ok (.aload_n 0, 1) := by decide +kernel
theorem d_Markup_skipComment_33 : decode prog_7_method_18_code 33 = .ok (.iconst 1, 1) := by decide +kernel
theorem d_Markup_skipComment_34 : decode prog_7_method_18_code 34 = .ok (.invokevirtual 80, 3) := by decide +kernel
theorem d_Markup_skipComment_37 : decode prog_7_method_18_code 37 = .ok (.bipush 45, 2) := by decide +kernel
theorem d_Markup_skipComment_39 : decode prog_7_method_18_code 39 = .ok (.if_icmp .eq 16, 3) := by decide +kernel
theorem d_Markup_skipComment_9 : decode prog_7_method_18_code 9 = .ok (.iconst 0, 1) := by decide +kernel
theorem d_Markup_skipComment_10 : decode prog_7_method_18_code 10 = .ok (.ireturn, 1) := by decide +kernel
abbrev y_Markup_skipComment : MethodName := ⟨"PackageBook$Markup", "skipComment", "()Z"⟩
abbrev i_Markup_skipComment : pb_I := (y_Markup_skipComment, prog_7_method_18_code, 1, (some Jvm.ClassFile.FieldType.boolean), [], { frames := 5, cells := 0, slots := 0, locals := 107 })
set_option maxRecDepth 100000 in
set_option maxHeartbeats 4000000 in
theorem g_Mu_skipComment {l : Launch} (hl : l.stackTraces = false) (G : pb_G) (h : Nat) (ui : Nat) (ug : Nat) (uv : Nat) (ur : Nat) (ct : Int32) (fa : Int32) (bg : Int32) (at_ : Int32) (en : Int32) (vs : Int32) (io : Int32) (hi : Int32) (ht : Int32) (uf : Nat → Int32) (a0 : 0 ≤ at_.toInt) (a1 : at_.toInt ≤ en.toInt) (a2 : en.toInt ≤ 12000) (a3 : 0 ≤ bg.toInt) (a4 : bg.toInt ≤ at_.toInt) (F_uf : sb_Fit uf) : Cn l G i_Markup_skipComment [.ref h] [(h, .inr (8, [.ref ui, .ref ug, .ref uv, .ref ur, .int ct, .int fa, .int bg, .int at_, .int en, .int vs, .int io, .int hi, .int ht])), (ur, .inl (G.2.1, 12000, .inl uf))] (S := Int32 × Int32 × Int32) (fun rv_ u => rv_ = some (.int u.1) ∧ (u.1.toInt = 0 ∨ u.1.toInt = 1) ∧ (at_.toInt ≤ u.2.1.toInt) ∧ (u.2.1.toInt ≤ en.toInt) ∧ (oy_ u.1.toInt (u.2.1.toInt - bg.toInt) = cF (mB_ uf bg.toInt) (en.toInt - bg.toInt) (at_.toInt - bg.toInt)) ∧ (ft_ u.1.toInt fa.toInt u.2.2.toInt)) (fun u => [(h, .inr (8, [.ref ui, .ref ug, .ref uv, .ref ur, .int ct, .int u.2.2, .int bg, .int u.2.1, .int en, .int vs, .int io, .int hi, .int ht])), (ur, .inl (G.2.1, 12000, .inl uf))]) := by
  refine Cn.of hl (by decide +kernel) rfl (Nat.le_of_ble_eq_true rfl) (fun M hQ => ?_)
  refine pb_eq (pc' := 0) (lo' := [(0, .ref h)]) (rest' := []) (ws' := [(h, .inr (8, [.ref ui, .ref ug, .ref uv, .ref ur, .int ct, .int fa, .int bg, .int at_, .int en, .int vs, .int io, .int hi, .int ht])), (ur, .inl (G.2.1, 12000, .inl uf))]) ?_
  have zl0 : (0 : Int32).toInt = 0 := by decide
  have zl1 : (1 : Int32).toInt = 1 := by decide
  refine pb_aload_n (pc := 0) d_Markup_skipComment_0 0 rfl rfl ?_
  refine pb_ldcS (pc := 1) (k := 1) d_Markup_skipComment_1 rfl (by decide) ?_
  refine pb_callV (pc := 3) (I := i_Markup_skipComment) (qb := 0) (ci := 8) (nA := 1) (rest := []) (wr := []) d_Markup_skipComment_3 (g_Mu_takeText hl G h ui ug uv ur ct fa bg at_ en vs io hi ht uf 1 (by first | (with_reducible assumption) | omega (splitDisjunctions := false) | assumption | omega | decide) (by first | (with_reducible assumption) | omega (splitDisjunctions := false) | assumption | omega | decide) (by first | (with_reducible assumption) | omega (splitDisjunctions := false) | assumption | omega | decide) (by first | (with_reducible assumption) | omega (splitDisjunctions := false) | assumption | omega | decide) (by first | (with_reducible assumption) | omega (splitDisjunctions := false) | assumption | omega | decide) (by first | assumption | decide | omega) F_uf) rfl rfl [0, 1] [] (by decide) rfl rfl rfl (by decide) (by decide) k_825 rfl k_125 k_822 k_824 k_35 ⟨rfl, hy_Markup_takeText⟩ (by decide) rfl rfl (Nat.le_of_ble_eq_true rfl) (by decide) (fun v9 u2 ch1 => ?_)
  obtain ⟨r_3, at_4, f_5⟩ := u2
  obtain ⟨ech1, ch1⟩ := ch1
  have ech1 : v9 = some (.int r_3) := ech1
  subst ech1
  obtain ⟨fh6, fh7, fh8, fh9, fh10⟩ : (r_3.toInt = 0 ∨ r_3.toInt = 1) ∧ (at_.toInt ≤ at_4.toInt) ∧ (at_4.toInt ≤ en.toInt) ∧ (oy_ r_3.toInt (at_4.toInt - bg.toInt) = wk_ (mB_ uf bg.toInt) (en.toInt - bg.toInt) (st_c 1) (st_len 1).toNat (at_.toInt - bg.toInt)) ∧ (ft_ r_3.toInt fa.toInt f_5.toInt) := ch1
  have t1F := fh9
  have t1FQ := fh10
  rw [sw6 [60, 33, 45, 45] (by decide +kernel) (by decide +kernel)] at t1F
  refine pb_eq (pc' := 6) (lo' := [(0, .ref h)]) (rest' := [.int r_3]) (ws' := [(h, .inr (8, [.ref ui, .ref ug, .ref uv, .ref ur, .int ct, .int f_5, .int bg, .int at_4, .int en, .int vs, .int io, .int hi, .int ht])), (ur, .inl (G.2.1, 12000, .inl uf))]) ?_
  refine pb_if_ne (pc := 6) (tgt := 11) d_Markup_skipComment_6 (by decide) (fun w11 => ?_) (fun w11 => ?_)
  · have tw11 : ¬ r_3.toInt = 0 := fun z9 => w11 ((ti_eq rfl (by decide)).mpr z9)
    have hL11_12 : ∀ (N9 : Nat) (a : Int32) (f : Int32), (at_.toInt ≤ a.toInt) → (a.toInt ≤ en.toInt) → (dD_ (mB_ uf bg.toInt) (en.toInt - bg.toInt) (a.toInt - bg.toInt) = cF (mB_ uf bg.toInt) (en.toInt - bg.toInt) (at_.toInt - bg.toInt)) → (f.toInt = fa.toInt) → ((en.toInt - a.toInt).toNat) < N9 → pb_P l G M i_Markup_skipComment 11 [(0, .ref h)] [] [(h, .inr (8, [.ref ui, .ref ug, .ref uv, .ref ur, .int ct, .int f, .int bg, .int a, .int en, .int vs, .int io, .int hi, .int ht])), (ur, .inl (G.2.1, 12000, .inl uf))] 0 0 := by
      intro N9
      induction N9 with
      | zero => intro a f k0 k1 lD lf hm9; exact absurd hm9 (Nat.not_lt_zero _)
      | succ N9 ih11 =>
        intro a f k0 k1 lD lf hm9
        refine pb_aload_n (pc := 11) d_Markup_skipComment_11 0 rfl rfl ?_
        refine pb_get (pc := 12) d_Markup_skipComment_12 0 7 rfl rfl (by decide) in_Markup k_326 rfl ?_
        refine pb_aload_n (pc := 15) d_Markup_skipComment_15 0 rfl rfl ?_
        refine pb_get (pc := 16) d_Markup_skipComment_16 0 8 rfl rfl (by decide) in_Markup k_327 rfl ?_
        refine pb_icmp_ge (pc := 19) (tgt := 55) d_Markup_skipComment_19 (by decide) (fun w13 => ?_) (fun w13 => ?_)
        · have tw13 : en.toInt ≤ a.toInt := (ti_le rfl rfl).mp w13
          refine pb_aload_n (pc := 55) d_Markup_skipComment_55 0 rfl rfl ?_
          refine pb_ldcS (pc := 56) (k := 2) d_Markup_skipComment_56 rfl (by decide) ?_
          refine pb_callV (pc := 58) (I := i_Markup_skipComment) (qb := 0) (ci := 8) (nA := 1) (rest := []) (wr := []) d_Markup_skipComment_58 (g_Mu_takeText hl G h ui ug uv ur ct f bg a en vs io hi ht uf 2 (by first | (with_reducible assumption) | omega (splitDisjunctions := false) | assumption | omega | decide) (by first | (with_reducible assumption) | omega (splitDisjunctions := false) | assumption | omega | decide) (by first | (with_reducible assumption) | omega (splitDisjunctions := false) | assumption | omega | decide) (by first | (with_reducible assumption) | omega (splitDisjunctions := false) | assumption | omega | decide) (by first | (with_reducible assumption) | omega (splitDisjunctions := false) | assumption | omega | decide) (by first | assumption | decide | omega) F_uf) rfl rfl [0, 1] [] (by decide) rfl rfl rfl (by decide) (by decide) k_825 rfl k_125 k_822 k_824 k_35 ⟨rfl, hy_Markup_takeText⟩ (by decide) rfl rfl (Nat.le_of_ble_eq_true rfl) (by decide) (fun v9 u15 ch14 => ?_)
          obtain ⟨r_16, at_17, f_18⟩ := u15
          obtain ⟨ech14, ch14⟩ := ch14
          have ech14 : v9 = some (.int r_16) := ech14
          subst ech14
          obtain ⟨fh19, fh20, fh21, fh22, fh23⟩ : (r_16.toInt = 0 ∨ r_16.toInt = 1) ∧ (a.toInt ≤ at_17.toInt) ∧ (at_17.toInt ≤ en.toInt) ∧ (oy_ r_16.toInt (at_17.toInt - bg.toInt) = wk_ (mB_ uf bg.toInt) (en.toInt - bg.toInt) (st_c 2) (st_len 2).toNat (a.toInt - bg.toInt)) ∧ (ft_ r_16.toInt f.toInt f_18.toInt) := ch14
          have t2F := fh22
          have t2FQ := fh23
          rw [sw6 [45, 45, 62] (by decide +kernel) (by decide +kernel)] at t2F
          refine pb_eq (pc' := 61) (lo' := [(0, .ref h)]) (rest' := [.int r_16]) (ws' := [(h, .inr (8, [.ref ui, .ref ug, .ref uv, .ref ur, .int ct, .int f_18, .int bg, .int at_17, .int en, .int vs, .int io, .int hi, .int ht])), (ur, .inl (G.2.1, 12000, .inl uf))]) ?_
          exact pb_iret (pc := 61) hQ d_Markup_skipComment_61 rfl (nar_b (by omega)) (r_16, at_17, f_18) ⟨rfl, (by (try dsimp only); first | done | (with_reducible assumption) | omega (splitDisjunctions := false) | assumption | omega | decide), (by (try dsimp only); first | done | (with_reducible assumption) | omega (splitDisjunctions := false) | assumption | omega | decide), (by (try dsimp only); first | done | (with_reducible assumption) | omega (splitDisjunctions := false) | assumption | omega | decide), (show oy_ r_16.toInt (at_17.toInt - bg.toInt) = cF (mB_ uf bg.toInt) (en.toInt - bg.toInt) (at_.toInt - bg.toInt) from (c6_x lD (by omega) t2F)), (show ft_ r_16.toInt fa.toInt f_18.toInt from (by rw [← lf]; exact t2FQ))⟩ [0, 1] (by decide) rfl rfl (by decide) (by decide)
        · have tw13 : ¬ en.toInt ≤ a.toInt := fun z9 => w13 ((ti_le rfl rfl).mpr z9)
          refine pb_aload_n (pc := 22) d_Markup_skipComment_22 0 rfl rfl ?_
          refine pb_iconst (pc := 23) (v := 0) d_Markup_skipComment_23 (by decide) ?_
          refine pb_callV (pc := 24) (I := i_Markup_skipComment) (qb := 0) (ci := 8) (nA := 1) (rest := []) (wr := []) d_Markup_skipComment_24 (g_Mu_next hl G h ui ug uv ur ct f bg a en vs io hi ht uf 0 (by first | (with_reducible assumption) | omega (splitDisjunctions := false) | assumption | omega | decide) (by first | (with_reducible assumption) | omega (splitDisjunctions := false) | assumption | omega | decide) (by first | (with_reducible assumption) | omega (splitDisjunctions := false) | assumption | omega | decide) (by first | (with_reducible assumption) | omega (splitDisjunctions := false) | assumption | omega | decide) (by first | (with_reducible assumption) | omega (splitDisjunctions := false) | assumption | omega | decide) (by first | (with_reducible assumption) | omega (splitDisjunctions := false) | assumption | omega | decide) (by first | (with_reducible assumption) | omega (splitDisjunctions := false) | assumption | omega | decide) F_uf) rfl rfl [0, 1] [] (by decide) rfl rfl rfl (by decide) (by decide) k_813 rfl k_125 k_810 k_812 k_33 ⟨rfl, hy_Markup_next⟩ (by decide) rfl rfl (Nat.le_of_ble_eq_true rfl) (by decide) (fun v9 u25 ch24 => ?_)
          obtain ⟨r_26, rfl⟩ : ∃ z9, z9 = u25 := ⟨_, rfl⟩
          obtain ⟨ech24, ch24⟩ := ch24
          have ech24 : v9 = some (.int r_26) := ech24
          subst ech24
          obtain ⟨fh27, fh28, fh29, fh30⟩ : (-1 ≤ r_26.toInt) ∧ (r_26.toInt ≤ 255) ∧ (0 ≤ r_26.toInt → a.toInt + (0 : Int32).toInt < en.toInt) ∧ (r_26.toInt = cm_ (mB_ uf bg.toInt) (en.toInt - bg.toInt) ((a.toInt - bg.toInt) + (0 : Int32).toInt)) := ch24
          have h1F := fh30
          rw [zl0, Int.add_zero] at h1F
          refine pb_eq (pc' := 27) (lo' := [(0, .ref h)]) (rest' := [.int r_26]) (ws' := [(h, .inr (8, [.ref ui, .ref ug, .ref uv, .ref ur, .int ct, .int f, .int bg, .int a, .int en, .int vs, .int io, .int hi, .int ht])), (ur, .inl (G.2.1, 12000, .inl uf))]) ?_
          refine pb_bipush (pc := 27) (v := 45) d_Markup_skipComment_27 (by decide) ?_
          refine pb_icmp_ne (pc := 29) (tgt := 42) d_Markup_skipComment_29 (by decide) (fun w31 => ?_) (fun w31 => ?_)
          · have tw31 : ¬ r_26.toInt = 45 := fun z9 => w31 ((ti_eq rfl (by decide)).mpr z9)
            refine pb_aload_n (pc := 42) d_Markup_skipComment_42 0 rfl rfl ?_
            refine pb_dup (pc := 43) d_Markup_skipComment_43 rfl ?_
            refine pb_get (pc := 44) d_Markup_skipComment_44 0 7 rfl rfl (by decide) in_Markup k_326 rfl ?_
            refine pb_iconst (pc := 47) (v := 1) d_Markup_skipComment_47 (by decide) ?_
            refine pb_iadd (pc := 48) d_Markup_skipComment_48 ?_
            refine pb_topi (fun i32 ei32 => ?_)
            try have ti32 : i32.toInt = a.toInt + 1 := t2_add ei32 rfl (by decide) (by omega)
            refine pb_put (pc := 49) (ty := .int) (ws' := [(h, .inr (8, [.ref ui, .ref ug, .ref uv, .ref ur, .int ct, .int f, .int bg, .int i32, .int en, .int vs, .int io, .int hi, .int ht])), (ur, .inl (G.2.1, 12000, .inl uf))]) d_Markup_skipComment_49 0 7 t_Markup t_Markup_ok n_Markup rfl rfl (by decide) in_Markup k_326 rfl (by decide +kernel) rfl rfl (Nat.le_of_ble_eq_true rfl) rfl ?_
            refine pb_goto (pc := 52) (tgt := 11) d_Markup_skipComment_52 (by decide) ?_
            exact ih11 i32 f (by first | (with_reducible assumption) | omega (splitDisjunctions := false) | assumption | (clear fh29 hm9; first | omega (splitDisjunctions := false) | omega) | omega | decide) (by first | (with_reducible assumption) | omega (splitDisjunctions := false) | assumption | (clear fh29 hm9; first | omega (splitDisjunctions := false) | omega) | omega | decide) (c6_d lD (by omega) (by omega) (by omega)) (by first | (with_reducible assumption) | omega (splitDisjunctions := false) | assumption | (clear fh29 hm9; first | omega (splitDisjunctions := false) | omega) | omega | decide) (by first | (clear fh29; (exact omg_7c8a06b1f5 hm9 tw13 ti32)) | omega)
          · have tw31 : r_26.toInt = 45 := (ti_eq rfl (by decide)).mp w31
            refine pb_aload_n (pc := 32) d_Markup_skipComment_32 0 rfl rfl ?_
            refine pb_iconst (pc := 33) (v := 1) d_Markup_skipComment_33 (by decide) ?_
            refine pb_callV (pc := 34) (I := i_Markup_skipComment) (qb := 0) (ci := 8) (nA := 1) (rest := []) (wr := []) d_Markup_skipComment_34 (g_Mu_next hl G h ui ug uv ur ct f bg a en vs io hi ht uf 1 (by first | (with_reducible assumption) | omega (splitDisjunctions := false) | assumption | (clear fh29 hm9; first | omega (splitDisjunctions := false) | omega) | omega | decide) (by first | (with_reducible assumption) | omega (splitDisjunctions := false) | assumption | (clear fh29 hm9; first | omega (splitDisjunctions := false) | omega) | omega | decide) (by first | (with_reducible assumption) | omega (splitDisjunctions := false) | assumption | (clear fh29 hm9; first | omega (splitDisjunctions := false) | omega) | omega | decide) (by first | (with_reducible assumption) | omega (splitDisjunctions := false) | assumption | (clear fh29 hm9; first | omega (splitDisjunctions := false) | omega) | omega | decide) (by first | (with_reducible assumption) | omega (splitDisjunctions := false) | assumption | (clear fh29 hm9; first | omega (splitDisjunctions := false) | omega) | omega | decide) (by first | (with_reducible assumption) | omega (splitDisjunctions := false) | assumption | (clear fh29 hm9; first | omega (splitDisjunctions := false) | omega) | omega | decide) (by first | (with_reducible assumption) | omega (splitDisjunctions := false) | assumption | (clear fh29 hm9; first | omega (splitDisjunctions := false) | omega) | omega | decide) F_uf) rfl rfl [0, 1] [] (by decide) rfl rfl rfl (by decide) (by decide) k_813 rfl k_125 k_810 k_812 k_33 ⟨rfl, hy_Markup_next⟩ (by decide) rfl rfl (Nat.le_of_ble_eq_true rfl) (by decide) (fun v9 u34 ch33 => ?_)
            obtain ⟨r_35, rfl⟩ : ∃ z9, z9 = u34 := ⟨_, rfl⟩
            obtain ⟨ech33, ch33⟩ := ch33
            have ech33 : v9 = some (.int r_35) := ech33
            subst ech33
            obtain ⟨fh36, fh37, fh38, fh39⟩ : (-1 ≤ r_35.toInt) ∧ (r_35.toInt ≤ 255) ∧ (0 ≤ r_35.toInt → a.toInt + (1 : Int32).toInt < en.toInt) ∧ (r_35.toInt = cm_ (mB_ uf bg.toInt) (en.toInt - bg.toInt) ((a.toInt - bg.toInt) + (1 : Int32).toInt)) := ch33
            have h2F := fh39
            rw [zl1] at h2F
            refine pb_eq (pc' := 37) (lo' := [(0, .ref h)]) (rest' := [.int r_35]) (ws' := [(h, .inr (8, [.ref ui, .ref ug, .ref uv, .ref ur, .int ct, .int f, .int bg, .int a, .int en, .int vs, .int io, .int hi, .int ht])), (ur, .inl (G.2.1, 12000, .inl uf))]) ?_
            refine pb_bipush (pc := 37) (v := 45) d_Markup_skipComment_37 (by decide) ?_
            refine pb_icmp_eq (pc := 39) (tgt := 55) d_Markup_skipComment_39 (by decide) (fun w40 => ?_) (fun w40 => ?_)
            · have tw40 : r_35.toInt = 45 := (ti_eq rfl (by decide)).mp w40
              refine pb_aload_n (pc := 55) d_Markup_skipComment_55 0 rfl rfl ?_
              refine pb_ldcS (pc := 56) (k := 2) d_Markup_skipComment_56 rfl (by decide) ?_
              refine pb_callV (pc := 58) (I := i_Markup_skipComment) (qb := 0) (ci := 8) (nA := 1) (rest := []) (wr := []) d_Markup_skipComment_58 (g_Mu_takeText hl G h ui ug uv ur ct f bg a en vs io hi ht uf 2 (by first | (with_reducible assumption) | omega (splitDisjunctions := false) | assumption | (clear fh29 fh38 hm9; first | omega (splitDisjunctions := false) | omega) | omega | decide) (by first | (with_reducible assumption) | omega (splitDisjunctions := false) | assumption | (clear fh29 fh38 hm9; first | omega (splitDisjunctions := false) | omega) | omega | decide) (by first | (with_reducible assumption) | omega (splitDisjunctions := false) | assumption | (clear fh29 fh38 hm9; first | omega (splitDisjunctions := false) | omega) | omega | decide) (by first | (with_reducible assumption) | omega (splitDisjunctions := false) | assumption | (clear fh29 fh38 hm9; first | omega (splitDisjunctions := false) | omega) | omega | decide) (by first | (with_reducible assumption) | omega (splitDisjunctions := false) | assumption | (clear fh29 fh38 hm9; first | omega (splitDisjunctions := false) | omega) | omega | decide) (by first | assumption | decide | omega) F_uf) rfl rfl [0, 1] [] (by decide) rfl rfl rfl (by decide) (by decide) k_825 rfl k_125 k_822 k_824 k_35 ⟨rfl, hy_Markup_takeText⟩ (by decide) rfl rfl (Nat.le_of_ble_eq_true rfl) (by decide) (fun v9 u42 ch41 => ?_)
              obtain ⟨r_43, at_44, f_45⟩ := u42
              obtain ⟨ech41, ch41⟩ := ch41
              have ech41 : v9 = some (.int r_43) := ech41
              subst ech41
              obtain ⟨fh46, fh47, fh48, fh49, fh50⟩ : (r_43.toInt = 0 ∨ r_43.toInt = 1) ∧ (a.toInt ≤ at_44.toInt) ∧ (at_44.toInt ≤ en.toInt) ∧ (oy_ r_43.toInt (at_44.toInt - bg.toInt) = wk_ (mB_ uf bg.toInt) (en.toInt - bg.toInt) (st_c 2) (st_len 2).toNat (a.toInt - bg.toInt)) ∧ (ft_ r_43.toInt f.toInt f_45.toInt) := ch41
              have t2F := fh49
              have t2FQ := fh50
              rw [sw6 [45, 45, 62] (by decide +kernel) (by decide +kernel)] at t2F
              refine pb_eq (pc' := 61) (lo' := [(0, .ref h)]) (rest' := [.int r_43]) (ws' := [(h, .inr (8, [.ref ui, .ref ug, .ref uv, .ref ur, .int ct, .int f_45, .int bg, .int at_44, .int en, .int vs, .int io, .int hi, .int ht])), (ur, .inl (G.2.1, 12000, .inl uf))]) ?_
              exact pb_iret (pc := 61) hQ d_Markup_skipComment_61 rfl (nar_b (by omega)) (r_43, at_44, f_45) ⟨rfl, (by (try dsimp only); first | done | (with_reducible assumption) | omega (splitDisjunctions := false) | assumption | (clear fh29 fh38 hm9; first | omega (splitDisjunctions := false) | omega) | omega | decide), (by (try dsimp only); first | done | (with_reducible assumption) | omega (splitDisjunctions := false) | assumption | (clear fh29 fh38 hm9; first | omega (splitDisjunctions := false) | omega) | omega | decide), (by (try dsimp only); first | done | (with_reducible assumption) | omega (splitDisjunctions := false) | assumption | (clear fh29 fh38 hm9; first | omega (splitDisjunctions := false) | omega) | omega | decide), (show oy_ r_43.toInt (at_44.toInt - bg.toInt) = cF (mB_ uf bg.toInt) (en.toInt - bg.toInt) (at_.toInt - bg.toInt) from (c6_x lD (by omega) t2F)), (show ft_ r_43.toInt fa.toInt f_45.toInt from (by rw [← lf]; exact t2FQ))⟩ [0, 1] (by decide) rfl rfl (by decide) (by decide)
            · have tw40 : ¬ r_35.toInt = 45 := fun z9 => w40 ((ti_eq rfl (by decide)).mpr z9)
              refine pb_aload_n (pc := 42) d_Markup_skipComment_42 0 rfl rfl ?_
              refine pb_dup (pc := 43) d_Markup_skipComment_43 rfl ?_
              refine pb_get (pc := 44) d_Markup_skipComment_44 0 7 rfl rfl (by decide) in_Markup k_326 rfl ?_
              refine pb_iconst (pc := 47) (v := 1) d_Markup_skipComment_47 (by decide) ?_
              refine pb_iadd (pc := 48) d_Markup_skipComment_48 ?_
              refine pb_topi (fun i51 ei51 => ?_)
              try have ti51 : i51.toInt = a.toInt + 1 := t2_add ei51 rfl (by decide) (by omega)
              refine pb_put (pc := 49) (ty := .int) (ws' := [(h, .inr (8, [.ref ui, .ref ug, .ref uv, .ref ur, .int ct, .int f, .int bg, .int i51, .int en, .int vs, .int io, .int hi, .int ht])), (ur, .inl (G.2.1, 12000, .inl uf))]) d_Markup_skipComment_49 0 7 t_Markup t_Markup_ok n_Markup rfl rfl (by decide) in_Markup k_326 rfl (by decide +kernel) rfl rfl (Nat.le_of_ble_eq_true rfl) rfl ?_
              refine pb_goto (pc := 52) (tgt := 11) d_Markup_skipComment_52 (by decide) ?_
              exact ih11 i51 f (by first | (with_reducible assumption) | omega (splitDisjunctions := false) | assumption | (clear fh29 fh38 hm9; first | omega (splitDisjunctions := false) | omega) | omega | decide) (by first | (with_reducible assumption) | omega (splitDisjunctions := false) | assumption | (clear fh29 fh38 hm9; first | omega (splitDisjunctions := false) | omega) | omega | decide) (c6_d lD (by omega) (by (exact omg_2e424a62e4 h2F tw40)) (by (exact omg_4383e1b071 ti51))) (by first | (with_reducible assumption) | omega (splitDisjunctions := false) | assumption | (clear fh29 fh38 hm9; first | omega (splitDisjunctions := false) | omega) | omega | decide) (by first | (clear fh29 fh38; (exact omg_7c8a06b1f5 hm9 tw13 ti51)) | omega)
    exact hL11_12 _ at_4 f_5 (by first | (with_reducible assumption) | omega (splitDisjunctions := false) | assumption | omega | decide) (by first | (with_reducible assumption) | omega (splitDisjunctions := false) | assumption | omega | decide) (c6_0 t1F (by omega)) (by unfold ft_ at t1FQ; omega) (Nat.lt_succ_self _)
  · have tw11 : r_3.toInt = 0 := (ti_eq rfl (by decide)).mp w11
    refine pb_iconst (pc := 9) (v := 0) d_Markup_skipComment_9 (by decide) ?_
    exact pb_iret (pc := 10) hQ d_Markup_skipComment_10 rfl rfl (0, at_4, f_5) ⟨rfl, (by (try dsimp only); first | done | (with_reducible assumption) | omega (splitDisjunctions := false) | assumption | omega | decide), (by (try dsimp only); first | done | (with_reducible assumption) | omega (splitDisjunctions := false) | assumption | omega | decide), (by (try dsimp only); first | done | (with_reducible assumption) | omega (splitDisjunctions := false) | assumption | omega | decide), (show oy_ (0 : Int32).toInt (at_4.toInt - bg.toInt) = cF (mB_ uf bg.toInt) (en.toInt - bg.toInt) (at_.toInt - bg.toInt) from (c6_n t1F (by omega) zl0)), (show ft_ (0 : Int32).toInt fa.toInt f_5.toInt from (ft_0 t1FQ (by omega) zl0))⟩ [0, 1] (by decide) rfl rfl (by decide) (by decide)

theorem d_Markup_skipGaps_0 : decode prog_7_method_17_code 0 = .ok (.aload_n 0, 1) := by decide +kernel
theorem d_Markup_skipGaps_1 : decode prog_7_method_17_code 1 = .ok (.getfield 51, 3) := by decide +kernel
theorem d_Markup_skipGaps_4 : decode prog_7_method_17_code 4 = .ok (.aload_n 0, 1) := by decide +kernel
theorem d_Markup_skipGaps_5 : decode prog_7_method_17_code 5 = .ok (.getfield 48, 3) := by decide +kernel
theorem d_Markup_skipGaps_8 : decode prog_7_method_17_code 8 = .ok (.isub, 1) := by decide +kernel
theorem d_Markup_skipGaps_9 : decode prog_7_method_17_code 9 = .ok (.istore_n 1, 1) := by decide +kernel
theorem d_Markup_skipGaps_10 : decode prog_7_method_17_code 10 = .ok (.iload_n 1, 1) := by decide +kernel
theorem d_Markup_skipGaps_11 : decode prog_7_method_17_code 11 = .ok (.ifCond .lt 45, 3) := by decide +kernel
theorem d_Markup_skipGaps_56 : decode prog_7_method_17_code 56 = .ok (.iconst 1, 1) := by decide +kernel
theorem d_Markup_skipGaps_57 : decode prog_7_method_17_code 57 = .ok (.ireturn, 1) := by decide +kernel
theorem d_Markup_skipGaps_14 : decode prog_7_method_17_code 14 = .ok (.aload_n 0, 1) := by decide +kernel
theorem d_Markup_skipGaps_15 : decode prog_7_method_17_code 15 = .ok (.invokevirtual 77, 3) := by decide +kernel
theorem k_806 : (Jvm.Cond.methodLink "PackageBook$Markup" (77 : Nat) ({ cls := "PackageBook$Markup", name := "skipSpace", desc := "()Z" } : Jvm.MethodName)) ∈ uW := uW_of 806 (by decide +kernel) (by decide +kernel)
theorem k_809 : (Jvm.Cond.code ({ cls := "PackageBook$Markup", name := "skipSpace", desc := "()Z" } : Jvm.MethodName) prog_7_method_19_code (2 : Nat) (Option.some Jvm.ClassFile.FieldType.boolean)) ∈ uW := uW_of 809 (by decide +kernel) (by decide +kernel)
theorem k_808 : (Jvm.Cond.instanceMethod ({ cls := "PackageBook$Markup", name := "skipSpace", desc := "()Z" } : Jvm.MethodName)) ∈ uW := uW_of 808 (by decide +kernel) (by decide +kernel)
theorem k_32 : Cond.selects "PackageBook$Markup" ⟨"PackageBook$Markup", "skipSpace", "()Z"⟩ ⟨"PackageBook$Markup", "skipSpace", "()Z"⟩ ∈ uW := uW_of 32 (by decide +kernel) (by decide +kernel)
theorem hy_Markup_skipSpace : (y_Markup_skipSpace).cls ≠ "java/lang/invoke/MethodHandle" ∧ (y_Markup_skipSpace).cls ≠ "java/lang/invoke/VarHandle" ∧ (parseMethodDescriptor (y_Markup_skipSpace).desc).map (fun d => d.parameters.length) = some 0 := by decide +kernel
theorem d_Markup_skipGaps_18 : decode prog_7_method_17_code 18 = .ok (.pop, 1) := by decide +kernel
theorem d_Markup_skipGaps_19 : decode prog_7_method_17_code 19 = .ok (.aload_n 0, 1) := by decide +kernel
theorem d_Markup_skipGaps_20 : decode prog_7_method_17_code 20 = .ok (.iconst 0, 1) := by decide +kernel
theorem d_Markup_skipGaps_21 : decode prog_7_method_17_code 21 = .ok (.invokevirtual 80, 3) := by decide +kernel
theorem d_Markup_skipGaps_24 : decode prog_7_method_17_code 24 = .ok (.bipush 60, 2) := by decide +kernel
theorem d_Markup_skipGaps_26 : decode prog_7_method_17_code 26 = .ok (.if_icmp .ne 13, 3) := by decide +kernel
theorem d_Markup_skipGaps_39 : decode prog_7_method_17_code 39 = .ok (.iconst 1, 1) := by decide +kernel
theorem d_Markup_skipGaps_40 : decode prog_7_method_17_code 40 = .ok (.ireturn, 1) := by decide +kernel
theorem d_Markup_skipGaps_29 : decode prog_7_method_17_code 29 = .ok (.aload_n 0, 1) := by decide +kernel
theorem d_Markup_skipGaps_30 : decode prog_7_method_17_code 30 = .ok (.iconst 1, 1) := by decide +kernel
theorem d_Markup_skipGaps_31 : decode prog_7_method_17_code 31 = .ok (.invokevirtual 80, 3) := by decide +kernel
theorem d_Markup_skipGaps_34 : decode prog_7_method_17_code 34 = .ok (.bipush 33, 2) := by decide +kernel
theorem d_Markup_skipGaps_36 : decode prog_7_method_17_code 36 = .ok (.if_icmp .eq 5, 3) := by decide +kernel
theorem d_Markup_skipGaps_41 : decode prog_7_method_17_code 41 = .ok (.aload_n 0, 1) := by decide +kernel
theorem d_Markup_skipGaps_42 : decode prog_7_method_17_code 42 = .ok (.invokevirtual 165, 3) := by decide +kernel
theorem k_817 : (Jvm.Cond.methodLink "PackageBook$Markup" (165 : Nat) ({ cls := "PackageBook$Markup", name := "skipComment", desc := "()Z" } : Jvm.MethodName)) ∈ uW := uW_of 817 (by decide +kernel) (by decide +kernel)
theorem k_820 : (Jvm.Cond.code ({ cls := "PackageBook$Markup", name := "skipComment", desc := "()Z" } : Jvm.MethodName) prog_7_method_18_code (1 : Nat) (Option.some Jvm.ClassFile.FieldType.boolean)) ∈ uW := uW_of 820 (by decide +kernel) (by decide +kernel)
theorem k_819 : (Jvm.Cond.instanceMethod ({ cls := "PackageBook$Markup", name := "skipComment", desc := "()Z" } : Jvm.MethodName)) ∈ uW := uW_of 819 (by decide +kernel) (by decide +kernel)
theorem k_34 : Cond.selects "PackageBook$Markup" ⟨"PackageBook$Markup", "skipComment", "()Z"⟩ ⟨"PackageBook$Markup", "skipComment", "()Z"⟩ ∈ uW := uW_of 34 (by decide +kernel) (by decide +kernel)
theorem hy_Markup_skipComment : (y_Markup_skipComment).cls ≠ "java/lang/invoke/MethodHandle" ∧ (y_Markup_skipComment).cls ≠ "java/lang/invoke/VarHandle" ∧ (parseMethodDescriptor (y_Markup_skipComment).desc).map (fun d => d.parameters.length) = some 0 := by decide +kernel
theorem d_Markup_skipGaps_45 : decode prog_7_method_17_code 45 = .ok (.ifCond .ne 5, 3) := by decide +kernel
theorem d_Markup_skipGaps_50 : decode prog_7_method_17_code 50 = .ok (.iinc 1 (-1), 3) := by decide +kernel
theorem d_Markup_skipGaps_53 : decode prog_7_method_17_code 53 = .ok (.goto (-43), 3) := by decide +kernel
theorem d_Markup_skipGaps_48 : decode prog_7_method_17_code 48 = .ok (.iconst 0, 1) := by decide +kernel
theorem d_Markup_skipGaps_49 : decode prog_7_method_17_code 49 = .ok (.ireturn, 1) := by decide +kernel
abbrev y_Markup_skipGaps : MethodName := ⟨"PackageBook$Markup", "skipGaps", "()Z"⟩
abbrev i_Markup_skipGaps : pb_I := (y_Markup_skipGaps, prog_7_method_17_code, 2, (some Jvm.ClassFile.FieldType.boolean), [], { frames := 6, cells := 0, slots := 0, locals := 127 })
set_option maxRecDepth 100000 in
set_option maxHeartbeats 4000000 in
theorem g_Mu_skipGaps {l : Launch} (hl : l.stackTraces = false) (G : pb_G) (h : Nat) (ui : Nat) (ug : Nat) (uv : Nat) (ur : Nat) (ct : Int32) (fa : Int32) (bg : Int32) (at_ : Int32) (en : Int32) (vs : Int32) (io : Int32) (hi : Int32) (ht : Int32) (uf : Nat → Int32) (a0 : 0 ≤ at_.toInt) (a1 : at_.toInt ≤ en.toInt) (a2 : en.toInt ≤ 12000) (a3 : 0 ≤ bg.toInt) (a4 : bg.toInt ≤ at_.toInt) (F_uf : sb_Fit uf) : Cn l G i_Markup_skipGaps [.ref h] [(h, .inr (8, [.ref ui, .ref ug, .ref uv, .ref ur, .int ct, .int fa, .int bg, .int at_, .int en, .int vs, .int io, .int hi, .int ht])), (ur, .inl (G.2.1, 12000, .inl uf))] (S := Int32 × Int32 × Int32) (fun rv_ u => rv_ = some (.int u.1) ∧ (u.1.toInt = 0 ∨ u.1.toInt = 1) ∧ (at_.toInt ≤ u.2.1.toInt) ∧ (u.2.1.toInt ≤ en.toInt) ∧ (oy_ u.1.toInt (u.2.1.toInt - bg.toInt) = gF (mB_ uf bg.toInt) (en.toInt - bg.toInt) (at_.toInt - bg.toInt)) ∧ (ft_ u.1.toInt fa.toInt u.2.2.toInt)) (fun u => [(h, .inr (8, [.ref ui, .ref ug, .ref uv, .ref ur, .int ct, .int u.2.2, .int bg, .int u.2.1, .int en, .int vs, .int io, .int hi, .int ht])), (ur, .inl (G.2.1, 12000, .inl uf))]) := by
  refine Cn.of hl (by decide +kernel) rfl (Nat.le_of_ble_eq_true rfl) (fun M hQ => ?_)
  refine pb_eq (pc' := 0) (lo' := [(0, .ref h)]) (rest' := []) (ws' := [(h, .inr (8, [.ref ui, .ref ug, .ref uv, .ref ur, .int ct, .int fa, .int bg, .int at_, .int en, .int vs, .int io, .int hi, .int ht])), (ur, .inl (G.2.1, 12000, .inl uf))]) ?_
  have zl0 : (0 : Int32).toInt = 0 := by decide
  have zl1 : (1 : Int32).toInt = 1 := by decide
  refine pb_aload_n (pc := 0) d_Markup_skipGaps_0 0 rfl rfl ?_
  refine pb_get (pc := 1) d_Markup_skipGaps_1 0 8 rfl rfl (by decide) in_Markup k_327 rfl ?_
  refine pb_aload_n (pc := 4) d_Markup_skipGaps_4 0 rfl rfl ?_
  refine pb_get (pc := 5) d_Markup_skipGaps_5 0 7 rfl rfl (by decide) in_Markup k_326 rfl ?_
  refine pb_isub (pc := 8) d_Markup_skipGaps_8 ?_
  refine pb_topi (fun i1 ei1 => ?_)
  try have ti1 : i1.toInt = en.toInt - at_.toInt := t2_sub ei1 rfl rfl (by omega)
  refine pb_istore_n (pc := 9) (lo' := [(1, .int i1), (0, .ref h)]) d_Markup_skipGaps_9 rfl (by decide) rfl ?_
  have hL10_2 : ∀ (N9 : Nat) (l_ : Int32) (a : Int32) (f : Int32), (at_.toInt ≤ a.toInt) → (a.toInt ≤ en.toInt) → (gF (mB_ uf bg.toInt) (en.toInt - bg.toInt) (a.toInt - bg.toInt) = gF (mB_ uf bg.toInt) (en.toInt - bg.toInt) (at_.toInt - bg.toInt)) → (f.toInt = fa.toInt) → (en.toInt - a.toInt ≤ l_.toInt) → ((l_.toInt + 1).toNat) < N9 → pb_P l G M i_Markup_skipGaps 10 [(1, .int l_), (0, .ref h)] [] [(h, .inr (8, [.ref ui, .ref ug, .ref uv, .ref ur, .int ct, .int f, .int bg, .int a, .int en, .int vs, .int io, .int hi, .int ht])), (ur, .inl (G.2.1, 12000, .inl uf))] 0 0 := by
    intro N9
    induction N9 with
    | zero => intro l_ a f k0 k1 kg lf l9 hm9; exact absurd hm9 (Nat.not_lt_zero _)
    | succ N9 ih10 =>
      intro l_ a f k0 k1 kg lf l9 hm9
      have rl_ := ti_rng l_
      refine pb_iload_n (pc := 10) d_Markup_skipGaps_10 0 rfl rfl ?_
      refine pb_if_lt (pc := 11) (tgt := 56) d_Markup_skipGaps_11 (by decide) (fun w3 => ?_) (fun w3 => ?_)
      · have tw3 : l_.toInt < 0 := (ti_lt rfl (by decide)).mp w3
        refine pb_iconst (pc := 56) (v := 1) d_Markup_skipGaps_56 (by decide) ?_
        exact pb_iret (pc := 57) hQ d_Markup_skipGaps_57 rfl rfl (1, a, f) ⟨rfl, (by (try dsimp only); first | done | (with_reducible assumption) | omega (splitDisjunctions := false) | assumption | omega | decide), (by (try dsimp only); first | done | (with_reducible assumption) | omega (splitDisjunctions := false) | assumption | omega | decide), (by (try dsimp only); first | done | (with_reducible assumption) | omega (splitDisjunctions := false) | assumption | omega | decide), (show oy_ (1 : Int32).toInt (a.toInt - bg.toInt) = gF (mB_ uf bg.toInt) (en.toInt - bg.toInt) (at_.toInt - bg.toInt) from (absurd k1 (by omega))), (show ft_ (1 : Int32).toInt fa.toInt f.toInt from (absurd k1 (by omega)))⟩ [0, 1] (by decide) rfl rfl (by decide) (by decide)
      · have tw3 : ¬ l_.toInt < 0 := fun z9 => w3 ((ti_lt rfl (by decide)).mpr z9)
        refine pb_aload_n (pc := 14) d_Markup_skipGaps_14 1 rfl rfl ?_
        refine pb_callV (pc := 15) (I := i_Markup_skipGaps) (qb := 0) (ci := 8) (nA := 0) (rest := []) (wr := []) d_Markup_skipGaps_15 (g_Mu_skipSpace hl G h ui ug uv ur ct f bg a en vs io hi ht uf (by first | (with_reducible assumption) | omega (splitDisjunctions := false) | assumption | omega | decide) (by first | (with_reducible assumption) | omega (splitDisjunctions := false) | assumption | omega | decide) (by first | (with_reducible assumption) | omega (splitDisjunctions := false) | assumption | omega | decide) (by first | (with_reducible assumption) | omega (splitDisjunctions := false) | assumption | omega | decide) (by first | (with_reducible assumption) | omega (splitDisjunctions := false) | assumption | omega | decide) F_uf) rfl rfl [0, 1] [] (by decide) rfl rfl rfl (by decide) (by decide) k_809 rfl k_125 k_806 k_808 k_32 ⟨rfl, hy_Markup_skipSpace⟩ (by decide) rfl rfl (Nat.le_of_ble_eq_true rfl) (by decide) (fun v9 u5 ch4 => ?_)
        obtain ⟨r_6, at_7⟩ := u5
        obtain ⟨ech4, ch4⟩ := ch4
        have ech4 : v9 = some (.int r_6) := ech4
        subst ech4
        obtain ⟨fh8, fh9, fh10, fh11, fh12⟩ : (r_6.toInt = 0 ∨ r_6.toInt = 1) ∧ (a.toInt ≤ at_7.toInt) ∧ (at_7.toInt ≤ en.toInt) ∧ (at_7.toInt - bg.toInt = sF (mB_ uf bg.toInt) (en.toInt - bg.toInt) (a.toInt - bg.toInt)) ∧ (hid_ (r_6.toInt = 1 ∧ a.toInt < at_7.toInt ∨ r_6.toInt = 0 ∧ at_7.toInt = a.toInt)) := ch4
        have s1F := fh11
        refine pb_eq (pc' := 18) (lo' := [(1, .int l_), (0, .ref h)]) (rest' := [.int r_6]) (ws' := [(h, .inr (8, [.ref ui, .ref ug, .ref uv, .ref ur, .int ct, .int f, .int bg, .int at_7, .int en, .int vs, .int io, .int hi, .int ht])), (ur, .inl (G.2.1, 12000, .inl uf))]) ?_
        refine pb_pop (pc := 18) d_Markup_skipGaps_18 rfl ?_
        refine pb_aload_n (pc := 19) d_Markup_skipGaps_19 1 rfl rfl ?_
        refine pb_iconst (pc := 20) (v := 0) d_Markup_skipGaps_20 (by decide) ?_
        refine pb_callV (pc := 21) (I := i_Markup_skipGaps) (qb := 0) (ci := 8) (nA := 1) (rest := []) (wr := []) d_Markup_skipGaps_21 (g_Mu_next hl G h ui ug uv ur ct f bg at_7 en vs io hi ht uf 0 (by first | (with_reducible assumption) | omega (splitDisjunctions := false) | assumption | omega | decide) (by first | (with_reducible assumption) | omega (splitDisjunctions := false) | assumption | omega | decide) (by first | (with_reducible assumption) | omega (splitDisjunctions := false) | assumption | omega | decide) (by first | (with_reducible assumption) | omega (splitDisjunctions := false) | assumption | omega | decide) (by first | (with_reducible assumption) | omega (splitDisjunctions := false) | assumption | omega | decide) (by first | (with_reducible assumption) | omega (splitDisjunctions := false) | assumption | omega | decide) (by first | (with_reducible assumption) | omega (splitDisjunctions := false) | assumption | omega | decide) F_uf) rfl rfl [0, 1] [] (by decide) rfl rfl rfl (by decide) (by decide) k_813 rfl k_125 k_810 k_812 k_33 ⟨rfl, hy_Markup_next⟩ (by decide) rfl rfl (Nat.le_of_ble_eq_true rfl) (by decide) (fun v9 u14 ch13 => ?_)
        obtain ⟨r_15, rfl⟩ : ∃ z9, z9 = u14 := ⟨_, rfl⟩
        obtain ⟨ech13, ch13⟩ := ch13
        have ech13 : v9 = some (.int r_15) := ech13
        subst ech13
        obtain ⟨fh16, fh17, fh18, fh19⟩ : (-1 ≤ r_15.toInt) ∧ (r_15.toInt ≤ 255) ∧ (0 ≤ r_15.toInt → at_7.toInt + (0 : Int32).toInt < en.toInt) ∧ (r_15.toInt = cm_ (mB_ uf bg.toInt) (en.toInt - bg.toInt) ((at_7.toInt - bg.toInt) + (0 : Int32).toInt)) := ch13
        have h1F := fh19
        rw [zl0, Int.add_zero] at h1F
        refine pb_eq (pc' := 24) (lo' := [(1, .int l_), (0, .ref h)]) (rest' := [.int r_15]) (ws' := [(h, .inr (8, [.ref ui, .ref ug, .ref uv, .ref ur, .int ct, .int f, .int bg, .int at_7, .int en, .int vs, .int io, .int hi, .int ht])), (ur, .inl (G.2.1, 12000, .inl uf))]) ?_
        refine pb_bipush (pc := 24) (v := 60) d_Markup_skipGaps_24 (by decide) ?_
        refine pb_icmp_ne (pc := 26) (tgt := 39) d_Markup_skipGaps_26 (by decide) (fun w20 => ?_) (fun w20 => ?_)
        · have tw20 : ¬ r_15.toInt = 60 := fun z9 => w20 ((ti_eq rfl (by decide)).mpr z9)
          refine pb_iconst (pc := 39) (v := 1) d_Markup_skipGaps_39 (by decide) ?_
          exact pb_iret (pc := 40) hQ d_Markup_skipGaps_40 rfl rfl (1, at_7, f) ⟨rfl, (by (try dsimp only); first | done | (with_reducible assumption) | omega (splitDisjunctions := false) | assumption | (clear fh18 hm9; first | omega (splitDisjunctions := false) | omega) | omega | decide), (by (try dsimp only); first | done | (with_reducible assumption) | omega (splitDisjunctions := false) | assumption | (clear fh18 hm9; first | omega (splitDisjunctions := false) | omega) | omega | decide), (by (try dsimp only); first | done | (with_reducible assumption) | omega (splitDisjunctions := false) | assumption | (clear fh18 hm9; first | omega (splitDisjunctions := false) | omega) | omega | decide), (show oy_ (1 : Int32).toInt (at_7.toInt - bg.toInt) = gF (mB_ uf bg.toInt) (en.toInt - bg.toInt) (at_.toInt - bg.toInt) from (g6_y kg s1F (by omega) (by omega) (by omega))), (show ft_ (1 : Int32).toInt fa.toInt f.toInt from (ft_e (by omega) lf))⟩ [0, 1] (by decide) rfl rfl (by decide) (by decide)
        · have tw20 : r_15.toInt = 60 := (ti_eq rfl (by decide)).mp w20
          refine pb_aload_n (pc := 29) d_Markup_skipGaps_29 1 rfl rfl ?_
          refine pb_iconst (pc := 30) (v := 1) d_Markup_skipGaps_30 (by decide) ?_
          refine pb_callV (pc := 31) (I := i_Markup_skipGaps) (qb := 0) (ci := 8) (nA := 1) (rest := []) (wr := []) d_Markup_skipGaps_31 (g_Mu_next hl G h ui ug uv ur ct f bg at_7 en vs io hi ht uf 1 (by first | (with_reducible assumption) | omega (splitDisjunctions := false) | assumption | (clear fh18 hm9; first | omega (splitDisjunctions := false) | omega) | omega | decide) (by first | (with_reducible assumption) | omega (splitDisjunctions := false) | assumption | (clear fh18 hm9; first | omega (splitDisjunctions := false) | omega) | omega | decide) (by first | (with_reducible assumption) | omega (splitDisjunctions := false) | assumption | (clear fh18 hm9; first | omega (splitDisjunctions := false) | omega) | omega | decide) (by first | (with_reducible assumption) | omega (splitDisjunctions := false) | assumption | (clear fh18 hm9; first | omega (splitDisjunctions := false) | omega) | omega | decide) (by first | (with_reducible assumption) | omega (splitDisjunctions := false) | assumption | (clear fh18 hm9; first | omega (splitDisjunctions := false) | omega) | omega | decide) (by first | (with_reducible assumption) | omega (splitDisjunctions := false) | assumption | (clear fh18 hm9; first | omega (splitDisjunctions := false) | omega) | omega | decide) (by first | (with_reducible assumption) | omega (splitDisjunctions := false) | assumption | (clear fh18 hm9; first | omega (splitDisjunctions := false) | omega) | omega | decide) F_uf) rfl rfl [0, 1] [] (by decide) rfl rfl rfl (by decide) (by decide) k_813 rfl k_125 k_810 k_812 k_33 ⟨rfl, hy_Markup_next⟩ (by decide) rfl rfl (Nat.le_of_ble_eq_true rfl) (by decide) (fun v9 u22 ch21 => ?_)
          obtain ⟨r_23, rfl⟩ : ∃ z9, z9 = u22 := ⟨_, rfl⟩
          obtain ⟨ech21, ch21⟩ := ch21
          have ech21 : v9 = some (.int r_23) := ech21
          subst ech21
          obtain ⟨fh24, fh25, fh26, fh27⟩ : (-1 ≤ r_23.toInt) ∧ (r_23.toInt ≤ 255) ∧ (0 ≤ r_23.toInt → at_7.toInt + (1 : Int32).toInt < en.toInt) ∧ (r_23.toInt = cm_ (mB_ uf bg.toInt) (en.toInt - bg.toInt) ((at_7.toInt - bg.toInt) + (1 : Int32).toInt)) := ch21
          have h2F := fh27
          rw [zl1] at h2F
          refine pb_eq (pc' := 34) (lo' := [(1, .int l_), (0, .ref h)]) (rest' := [.int r_23]) (ws' := [(h, .inr (8, [.ref ui, .ref ug, .ref uv, .ref ur, .int ct, .int f, .int bg, .int at_7, .int en, .int vs, .int io, .int hi, .int ht])), (ur, .inl (G.2.1, 12000, .inl uf))]) ?_
          refine pb_bipush (pc := 34) (v := 33) d_Markup_skipGaps_34 (by decide) ?_
          refine pb_icmp_eq (pc := 36) (tgt := 41) d_Markup_skipGaps_36 (by decide) (fun w28 => ?_) (fun w28 => ?_)
          · have tw28 : r_23.toInt = 33 := (ti_eq rfl (by decide)).mp w28
            refine pb_aload_n (pc := 41) d_Markup_skipGaps_41 1 rfl rfl ?_
            refine pb_callV (pc := 42) (I := i_Markup_skipGaps) (qb := 0) (ci := 8) (nA := 0) (rest := []) (wr := []) d_Markup_skipGaps_42 (g_Mu_skipComment hl G h ui ug uv ur ct f bg at_7 en vs io hi ht uf (by first | (with_reducible assumption) | omega (splitDisjunctions := false) | assumption | (clear fh18 fh26 hm9; first | omega (splitDisjunctions := false) | omega) | omega | decide) (by first | (with_reducible assumption) | omega (splitDisjunctions := false) | assumption | (clear fh18 fh26 hm9; first | omega (splitDisjunctions := false) | omega) | omega | decide) (by first | (with_reducible assumption) | omega (splitDisjunctions := false) | assumption | (clear fh18 fh26 hm9; first | omega (splitDisjunctions := false) | omega) | omega | decide) (by first | (with_reducible assumption) | omega (splitDisjunctions := false) | assumption | (clear fh18 fh26 hm9; first | omega (splitDisjunctions := false) | omega) | omega | decide) (by first | (with_reducible assumption) | omega (splitDisjunctions := false) | assumption | (clear fh18 fh26 hm9; first | omega (splitDisjunctions := false) | omega) | omega | decide) F_uf) rfl rfl [0, 1] [] (by decide) rfl rfl rfl (by decide) (by decide) k_820 rfl k_125 k_817 k_819 k_34 ⟨rfl, hy_Markup_skipComment⟩ (by decide) rfl rfl (Nat.le_of_ble_eq_true rfl) (by decide) (fun v9 u30 ch29 => ?_)
            obtain ⟨r_31, at_32, f_33⟩ := u30
            obtain ⟨ech29, ch29⟩ := ch29
            have ech29 : v9 = some (.int r_31) := ech29
            subst ech29
            obtain ⟨fh34, fh35, fh36, fh37, fh38⟩ : (r_31.toInt = 0 ∨ r_31.toInt = 1) ∧ (at_7.toInt ≤ at_32.toInt) ∧ (at_32.toInt ≤ en.toInt) ∧ (oy_ r_31.toInt (at_32.toInt - bg.toInt) = cF (mB_ uf bg.toInt) (en.toInt - bg.toInt) (at_7.toInt - bg.toInt)) ∧ (ft_ r_31.toInt f.toInt f_33.toInt) := ch29
            have cmF := fh37
            have cmQ := fh38
            refine pb_eq (pc' := 45) (lo' := [(1, .int l_), (0, .ref h)]) (rest' := [.int r_31]) (ws' := [(h, .inr (8, [.ref ui, .ref ug, .ref uv, .ref ur, .int ct, .int f_33, .int bg, .int at_32, .int en, .int vs, .int io, .int hi, .int ht])), (ur, .inl (G.2.1, 12000, .inl uf))]) ?_
            refine pb_if_ne (pc := 45) (tgt := 50) d_Markup_skipGaps_45 (by decide) (fun w39 => ?_) (fun w39 => ?_)
            · have tw39 : ¬ r_31.toInt = 0 := fun z9 => w39 ((ti_eq rfl (by decide)).mpr z9)
              refine pb_iincN (pc := 50) (c := (-1)) d_Markup_skipGaps_50 0 rfl (by decide) (by decide) (fun i40 ei40 => ?_)
              have ti40 : i40.toInt = l_.toInt + (-1) := t2_add ei40 rfl (by decide) (by first | omega | (have r90 := ti_rng i40; omega))
              refine pb_eq (pc' := 53) (lo' := [(1, .int i40), (0, .ref h)]) (rest' := []) (ws' := [(h, .inr (8, [.ref ui, .ref ug, .ref uv, .ref ur, .int ct, .int f_33, .int bg, .int at_32, .int en, .int vs, .int io, .int hi, .int ht])), (ur, .inl (G.2.1, 12000, .inl uf))]) ?_
              refine pb_goto (pc := 53) (tgt := 10) d_Markup_skipGaps_53 (by decide) ?_
              exact ih10 i40 at_32 f_33 (by first | (with_reducible assumption) | omega (splitDisjunctions := false) | assumption | (clear fh18 fh26 hm9; first | omega (splitDisjunctions := false) | omega) | omega | decide) (by first | (with_reducible assumption) | omega (splitDisjunctions := false) | assumption | (clear fh18 fh26 hm9; first | omega (splitDisjunctions := false) | omega) | omega | decide) (g6_s kg s1F (by omega) (by omega) (by omega) cmF (by omega)) (by unfold ft_ at cmQ; omega) (by have q9 := cmF; rw [oy_t (by omega)] at q9; have q8 := cF_up q9.symm (by omega); omega) (by first | (clear fh18 fh26; (exact omg_2466cfbdcf hm9 tw3 ti40)) | omega)
            · have tw39 : r_31.toInt = 0 := (ti_eq rfl (by decide)).mp w39
              refine pb_iconst (pc := 48) (v := 0) d_Markup_skipGaps_48 (by decide) ?_
              exact pb_iret (pc := 49) hQ d_Markup_skipGaps_49 rfl rfl (0, at_32, f_33) ⟨rfl, (by (try dsimp only); first | done | (with_reducible assumption) | omega (splitDisjunctions := false) | assumption | (clear fh18 fh26 hm9; first | omega (splitDisjunctions := false) | omega) | omega | decide), (by (try dsimp only); first | done | (with_reducible assumption) | omega (splitDisjunctions := false) | assumption | (clear fh18 fh26 hm9; first | omega (splitDisjunctions := false) | omega) | omega | decide), (by (try dsimp only); first | done | (with_reducible assumption) | omega (splitDisjunctions := false) | assumption | (clear fh18 fh26 hm9; first | omega (splitDisjunctions := false) | omega) | omega | decide), (show oy_ (0 : Int32).toInt (at_32.toInt - bg.toInt) = gF (mB_ uf bg.toInt) (en.toInt - bg.toInt) (at_.toInt - bg.toInt) from (g6_n kg s1F (by omega) (by omega) (by omega) cmF (by omega) zl0)), (show ft_ (0 : Int32).toInt fa.toInt f_33.toInt from (by rw [← lf]; exact ft_0 cmQ (by omega) zl0))⟩ [0, 1] (by decide) rfl rfl (by decide) (by decide)
          · have tw28 : ¬ r_23.toInt = 33 := fun z9 => w28 ((ti_eq rfl (by decide)).mpr z9)
            refine pb_iconst (pc := 39) (v := 1) d_Markup_skipGaps_39 (by decide) ?_
            exact pb_iret (pc := 40) hQ d_Markup_skipGaps_40 rfl rfl (1, at_7, f) ⟨rfl, (by (try dsimp only); first | done | (with_reducible assumption) | omega (splitDisjunctions := false) | assumption | (clear fh18 fh26 hm9; first | omega (splitDisjunctions := false) | omega) | omega | decide), (by (try dsimp only); first | done | (with_reducible assumption) | omega (splitDisjunctions := false) | assumption | (clear fh18 fh26 hm9; first | omega (splitDisjunctions := false) | omega) | omega | decide), (by (try dsimp only); first | done | (with_reducible assumption) | omega (splitDisjunctions := false) | assumption | (clear fh18 fh26 hm9; first | omega (splitDisjunctions := false) | omega) | omega | decide), (show oy_ (1 : Int32).toInt (at_7.toInt - bg.toInt) = gF (mB_ uf bg.toInt) (en.toInt - bg.toInt) (at_.toInt - bg.toInt) from (g6_y kg s1F (by omega) (by omega) (by omega))), (show ft_ (1 : Int32).toInt fa.toInt f.toInt from (ft_e (by omega) lf))⟩ [0, 1] (by decide) rfl rfl (by decide) (by decide)
  exact hL10_2 _ i1 at_ fa (by first | (with_reducible assumption) | omega (splitDisjunctions := false) | assumption | omega | decide) (by first | (with_reducible assumption) | omega (splitDisjunctions := false) | assumption | omega | decide) rfl (by first | (with_reducible assumption) | omega (splitDisjunctions := false) | assumption | omega | decide) (by first | (with_reducible assumption) | omega (splitDisjunctions := false) | assumption | omega | decide) (Nat.lt_succ_self _)

theorem d_Markup_readClose_0 : decode prog_7_method_9_code 0 = .ok (.aload_n 0, 1) := by decide +kernel
theorem d_Markup_readClose_1 : decode prog_7_method_9_code 1 = .ok (.aload_n 1, 1) := by decide +kernel
theorem d_Markup_readClose_2 : decode prog_7_method_9_code 2 = .ok (.invokevirtual 73, 3) := by decide +kernel
theorem d_Markup_readClose_5 : decode prog_7_method_9_code 5 = .ok (.ifCond .ne 5, 3) := by decide +kernel
theorem d_Markup_readClose_10 : decode prog_7_method_9_code 10 = .ok (.aload_n 0, 1) := by decide +kernel
theorem d_Markup_readClose_11 : decode prog_7_method_9_code 11 = .ok (.invokevirtual 77, 3) := by decide +kernel
theorem d_Markup_readClose_14 : decode prog_7_method_9_code 14 = .ok (.pop, 1) := by decide +kernel
theorem d_Markup_readClose_15 : decode prog_7_method_9_code 15 = .ok (.aload_n 0, 1) := by decide +kernel
theorem d_Markup_readClose_16 : decode prog_7_method_9_code 16 = .ok (.ldc 87, 2) := by decide +kernel
theorem d_Markup_readClose_18 : decode prog_7_method_9_code 18 = .ok (.invokevirtual 73, 3) := by decide +kernel
theorem d_Markup_readClose_21 : decode prog_7_method_9_code 21 = .ok (.ireturn, 1) := by decide +kernel
theorem d_Markup_readClose_8 : decode prog_7_method_9_code 8 = .ok (.iconst 0, 1) := by decide +kernel
theorem d_Markup_readClose_9 : decode prog_7_method_9_code 9 = .ok (.ireturn, 1) := by decide +kernel
abbrev y_Markup_readClose : MethodName := ⟨"PackageBook$Markup", "readClose", "(Ljava/lang/String;)Z"⟩
abbrev i_Markup_readClose : pb_I := (y_Markup_readClose, prog_7_method_9_code, 2, (some Jvm.ClassFile.FieldType.boolean), [], { frames := 5, cells := 0, slots := 0, locals := 107 })
set_option maxRecDepth 100000 in
set_option maxHeartbeats 4000000 in
theorem g_Mu_readClose {l : Launch} (hl : l.stackTraces = false) (G : pb_G) (h : Nat) (ui : Nat) (ug : Nat) (uv : Nat) (ur : Nat) (ct : Int32) (fa : Int32) (bg : Int32) (at_ : Int32) (en : Int32) (vs : Int32) (io : Int32) (hi : Int32) (ht : Int32) (uf : Nat → Int32) (k : Nat) (a0 : 0 ≤ at_.toInt) (a1 : at_.toInt ≤ en.toInt) (a2 : en.toInt ≤ 12000) (a3 : 0 ≤ bg.toInt) (a4 : bg.toInt ≤ at_.toInt) (hk : k < st_n) (F_uf : sb_Fit uf) : Cn l G i_Markup_readClose [.ref h, .ref (G.2.2.2.2.2.1 k)] [(h, .inr (8, [.ref ui, .ref ug, .ref uv, .ref ur, .int ct, .int fa, .int bg, .int at_, .int en, .int vs, .int io, .int hi, .int ht])), (ur, .inl (G.2.1, 12000, .inl uf))] (S := Int32 × Int32 × Int32) (fun rv_ u => rv_ = some (.int u.1) ∧ (u.1.toInt = 0 ∨ u.1.toInt = 1) ∧ (at_.toInt ≤ u.2.1.toInt) ∧ (u.2.1.toInt ≤ en.toInt) ∧ (oy_ u.1.toInt (u.2.1.toInt - bg.toInt) = cl_ (mB_ uf bg.toInt) (en.toInt - bg.toInt) (st_c k) (st_len k).toNat (at_.toInt - bg.toInt)) ∧ (ft_ u.1.toInt fa.toInt u.2.2.toInt)) (fun u => [(h, .inr (8, [.ref ui, .ref ug, .ref uv, .ref ur, .int ct, .int u.2.2, .int bg, .int u.2.1, .int en, .int vs, .int io, .int hi, .int ht])), (ur, .inl (G.2.1, 12000, .inl uf))]) := by
  refine Cn.of hl (by decide +kernel) rfl (Nat.le_of_ble_eq_true rfl) (fun M hQ => ?_)
  refine pb_eq (pc' := 0) (lo' := [(0, .ref h), (1, .ref (G.2.2.2.2.2.1 k))]) (rest' := []) (ws' := [(h, .inr (8, [.ref ui, .ref ug, .ref uv, .ref ur, .int ct, .int fa, .int bg, .int at_, .int en, .int vs, .int io, .int hi, .int ht])), (ur, .inl (G.2.1, 12000, .inl uf))]) ?_
  have zl0 : (0 : Int32).toInt = 0 := by decide
  have zl1 : (1 : Int32).toInt = 1 := by decide
  refine pb_aload_n (pc := 0) d_Markup_readClose_0 0 rfl rfl ?_
  refine pb_aload_n (pc := 1) d_Markup_readClose_1 1 rfl rfl ?_
  refine pb_callV (pc := 2) (I := i_Markup_readClose) (qb := 0) (ci := 8) (nA := 1) (rest := []) (wr := []) d_Markup_readClose_2 (g_Mu_takeText hl G h ui ug uv ur ct fa bg at_ en vs io hi ht uf k (by first | (with_reducible assumption) | omega (splitDisjunctions := false) | assumption | omega | decide) (by first | (with_reducible assumption) | omega (splitDisjunctions := false) | assumption | omega | decide) (by first | (with_reducible assumption) | omega (splitDisjunctions := false) | assumption | omega | decide) (by first | (with_reducible assumption) | omega (splitDisjunctions := false) | assumption | omega | decide) (by first | (with_reducible assumption) | omega (splitDisjunctions := false) | assumption | omega | decide) (by first | assumption | decide | omega) F_uf) rfl rfl [0, 1] [] (by decide) rfl rfl rfl (by decide) (by decide) k_825 rfl k_125 k_822 k_824 k_35 ⟨rfl, hy_Markup_takeText⟩ (by decide) rfl rfl (Nat.le_of_ble_eq_true rfl) (by decide) (fun v9 u2 ch1 => ?_)
  obtain ⟨r_3, at_4, f_5⟩ := u2
  obtain ⟨ech1, ch1⟩ := ch1
  have ech1 : v9 = some (.int r_3) := ech1
  subst ech1
  obtain ⟨fh6, fh7, fh8, fh9, fh10⟩ : (r_3.toInt = 0 ∨ r_3.toInt = 1) ∧ (at_.toInt ≤ at_4.toInt) ∧ (at_4.toInt ≤ en.toInt) ∧ (oy_ r_3.toInt (at_4.toInt - bg.toInt) = wk_ (mB_ uf bg.toInt) (en.toInt - bg.toInt) (st_c k) (st_len k).toNat (at_.toInt - bg.toInt)) ∧ (ft_ r_3.toInt fa.toInt f_5.toInt) := ch1
  have t1F := fh9
  have t1FQ := fh10
  refine pb_eq (pc' := 5) (lo' := [(0, .ref h), (1, .ref (G.2.2.2.2.2.1 k))]) (rest' := [.int r_3]) (ws' := [(h, .inr (8, [.ref ui, .ref ug, .ref uv, .ref ur, .int ct, .int f_5, .int bg, .int at_4, .int en, .int vs, .int io, .int hi, .int ht])), (ur, .inl (G.2.1, 12000, .inl uf))]) ?_
  refine pb_if_ne (pc := 5) (tgt := 10) d_Markup_readClose_5 (by decide) (fun w11 => ?_) (fun w11 => ?_)
  · have tw11 : ¬ r_3.toInt = 0 := fun z9 => w11 ((ti_eq rfl (by decide)).mpr z9)
    refine pb_aload_n (pc := 10) d_Markup_readClose_10 0 rfl rfl ?_
    refine pb_callV (pc := 11) (I := i_Markup_readClose) (qb := 0) (ci := 8) (nA := 0) (rest := []) (wr := []) d_Markup_readClose_11 (g_Mu_skipSpace hl G h ui ug uv ur ct f_5 bg at_4 en vs io hi ht uf (by first | (with_reducible assumption) | omega (splitDisjunctions := false) | assumption | omega | decide) (by first | (with_reducible assumption) | omega (splitDisjunctions := false) | assumption | omega | decide) (by first | (with_reducible assumption) | omega (splitDisjunctions := false) | assumption | omega | decide) (by first | (with_reducible assumption) | omega (splitDisjunctions := false) | assumption | omega | decide) (by first | (with_reducible assumption) | omega (splitDisjunctions := false) | assumption | omega | decide) F_uf) rfl rfl [0, 1] [] (by decide) rfl rfl rfl (by decide) (by decide) k_809 rfl k_125 k_806 k_808 k_32 ⟨rfl, hy_Markup_skipSpace⟩ (by decide) rfl rfl (Nat.le_of_ble_eq_true rfl) (by decide) (fun v9 u13 ch12 => ?_)
    obtain ⟨r_14, at_15⟩ := u13
    obtain ⟨ech12, ch12⟩ := ch12
    have ech12 : v9 = some (.int r_14) := ech12
    subst ech12
    obtain ⟨fh16, fh17, fh18, fh19, fh20⟩ : (r_14.toInt = 0 ∨ r_14.toInt = 1) ∧ (at_4.toInt ≤ at_15.toInt) ∧ (at_15.toInt ≤ en.toInt) ∧ (at_15.toInt - bg.toInt = sF (mB_ uf bg.toInt) (en.toInt - bg.toInt) (at_4.toInt - bg.toInt)) ∧ (hid_ (r_14.toInt = 1 ∧ at_4.toInt < at_15.toInt ∨ r_14.toInt = 0 ∧ at_15.toInt = at_4.toInt)) := ch12
    have s1F := fh19
    refine pb_eq (pc' := 14) (lo' := [(0, .ref h), (1, .ref (G.2.2.2.2.2.1 k))]) (rest' := [.int r_14]) (ws' := [(h, .inr (8, [.ref ui, .ref ug, .ref uv, .ref ur, .int ct, .int f_5, .int bg, .int at_15, .int en, .int vs, .int io, .int hi, .int ht])), (ur, .inl (G.2.1, 12000, .inl uf))]) ?_
    refine pb_pop (pc := 14) d_Markup_readClose_14 rfl ?_
    refine pb_aload_n (pc := 15) d_Markup_readClose_15 0 rfl rfl ?_
    refine pb_ldcS (pc := 16) (k := 4) d_Markup_readClose_16 rfl (by decide) ?_
    refine pb_callV (pc := 18) (I := i_Markup_readClose) (qb := 0) (ci := 8) (nA := 1) (rest := []) (wr := []) d_Markup_readClose_18 (g_Mu_takeText hl G h ui ug uv ur ct f_5 bg at_15 en vs io hi ht uf 4 (by first | (with_reducible assumption) | omega (splitDisjunctions := false) | assumption | omega | decide) (by first | (with_reducible assumption) | omega (splitDisjunctions := false) | assumption | omega | decide) (by first | (with_reducible assumption) | omega (splitDisjunctions := false) | assumption | omega | decide) (by first | (with_reducible assumption) | omega (splitDisjunctions := false) | assumption | omega | decide) (by first | (with_reducible assumption) | omega (splitDisjunctions := false) | assumption | omega | decide) (by first | assumption | decide | omega) F_uf) rfl rfl [0, 1] [] (by decide) rfl rfl rfl (by decide) (by decide) k_825 rfl k_125 k_822 k_824 k_35 ⟨rfl, hy_Markup_takeText⟩ (by decide) rfl rfl (Nat.le_of_ble_eq_true rfl) (by decide) (fun v9 u22 ch21 => ?_)
    obtain ⟨r_23, at_24, f_25⟩ := u22
    obtain ⟨ech21, ch21⟩ := ch21
    have ech21 : v9 = some (.int r_23) := ech21
    subst ech21
    obtain ⟨fh26, fh27, fh28, fh29, fh30⟩ : (r_23.toInt = 0 ∨ r_23.toInt = 1) ∧ (at_15.toInt ≤ at_24.toInt) ∧ (at_24.toInt ≤ en.toInt) ∧ (oy_ r_23.toInt (at_24.toInt - bg.toInt) = wk_ (mB_ uf bg.toInt) (en.toInt - bg.toInt) (st_c 4) (st_len 4).toNat (at_15.toInt - bg.toInt)) ∧ (ft_ r_23.toInt f_5.toInt f_25.toInt) := ch21
    have t2F := fh29
    have t2FQ := fh30
    rw [sw6 [62] (by decide +kernel) (by decide +kernel)] at t2F
    refine pb_eq (pc' := 21) (lo' := [(0, .ref h), (1, .ref (G.2.2.2.2.2.1 k))]) (rest' := [.int r_23]) (ws' := [(h, .inr (8, [.ref ui, .ref ug, .ref uv, .ref ur, .int ct, .int f_25, .int bg, .int at_24, .int en, .int vs, .int io, .int hi, .int ht])), (ur, .inl (G.2.1, 12000, .inl uf))]) ?_
    exact pb_iret (pc := 21) hQ d_Markup_readClose_21 rfl (nar_b (by omega)) (r_23, at_24, f_25) ⟨rfl, (by (try dsimp only); first | done | (with_reducible assumption) | omega (splitDisjunctions := false) | assumption | omega | decide), (by (try dsimp only); first | done | (with_reducible assumption) | omega (splitDisjunctions := false) | assumption | omega | decide), (by (try dsimp only); first | done | (with_reducible assumption) | omega (splitDisjunctions := false) | assumption | omega | decide), (show oy_ r_23.toInt (at_24.toInt - bg.toInt) = cl_ (mB_ uf bg.toInt) (en.toInt - bg.toInt) (st_c k) (st_len k).toNat (at_.toInt - bg.toInt) from (cl6_ t1F (by omega) s1F t2F)), (show ft_ r_23.toInt fa.toInt f_25.toInt from (ft_c t1FQ (by omega) t2FQ))⟩ [0, 1] (by decide) rfl rfl (by decide) (by decide)
  · have tw11 : r_3.toInt = 0 := (ti_eq rfl (by decide)).mp w11
    refine pb_iconst (pc := 8) (v := 0) d_Markup_readClose_8 (by decide) ?_
    exact pb_iret (pc := 9) hQ d_Markup_readClose_9 rfl rfl (0, at_4, f_5) ⟨rfl, (by (try dsimp only); first | done | (with_reducible assumption) | omega (splitDisjunctions := false) | assumption | omega | decide), (by (try dsimp only); first | done | (with_reducible assumption) | omega (splitDisjunctions := false) | assumption | omega | decide), (by (try dsimp only); first | done | (with_reducible assumption) | omega (splitDisjunctions := false) | assumption | omega | decide), (show oy_ (0 : Int32).toInt (at_4.toInt - bg.toInt) = cl_ (mB_ uf bg.toInt) (en.toInt - bg.toInt) (st_c k) (st_len k).toNat (at_.toInt - bg.toInt) from (cl6_n t1F (by omega) zl0)), (show ft_ (0 : Int32).toInt fa.toInt f_5.toInt from (ft_0 t1FQ (by omega) zl0))⟩ [0, 1] (by decide) rfl rfl (by decide) (by decide)

theorem d_Markup_readHead_0 : decode prog_7_method_6_code 0 = .ok (.aload_n 0, 1) := by decide +kernel
theorem d_Markup_readHead_1 : decode prog_7_method_6_code 1 = .ok (.invokevirtual 65, 3) := by decide +kernel
theorem k_802 : (Jvm.Cond.methodLink "PackageBook$Markup" (65 : Nat) ({ cls := "PackageBook$Markup", name := "skipGaps", desc := "()Z" } : Jvm.MethodName)) ∈ uW := uW_of 802 (by decide +kernel) (by decide +kernel)
theorem k_805 : (Jvm.Cond.code ({ cls := "PackageBook$Markup", name := "skipGaps", desc := "()Z" } : Jvm.MethodName) prog_7_method_17_code (2 : Nat) (Option.some Jvm.ClassFile.FieldType.boolean)) ∈ uW := uW_of 805 (by decide +kernel) (by decide +kernel)
theorem k_804 : (Jvm.Cond.instanceMethod ({ cls := "PackageBook$Markup", name := "skipGaps", desc := "()Z" } : Jvm.MethodName)) ∈ uW := uW_of 804 (by decide +kernel) (by decide +kernel)
theorem k_31 : Cond.selects "PackageBook$Markup" ⟨"PackageBook$Markup", "skipGaps", "()Z"⟩ ⟨"PackageBook$Markup", "skipGaps", "()Z"⟩ ∈ uW := uW_of 31 (by decide +kernel) (by decide +kernel)
theorem hy_Markup_skipGaps : (y_Markup_skipGaps).cls ≠ "java/lang/invoke/MethodHandle" ∧ (y_Markup_skipGaps).cls ≠ "java/lang/invoke/VarHandle" ∧ (parseMethodDescriptor (y_Markup_skipGaps).desc).map (fun d => d.parameters.length) = some 0 := by decide +kernel
theorem d_Markup_readHead_4 : decode prog_7_method_6_code 4 = .ok (.ifCond .eq 12, 3) := by decide +kernel
theorem d_Markup_readHead_16 : decode prog_7_method_6_code 16 = .ok (.iconst 0, 1) := by decide +kernel
theorem d_Markup_readHead_17 : decode prog_7_method_6_code 17 = .ok (.ireturn, 1) := by decide +kernel
theorem d_Markup_readHead_7 : decode prog_7_method_6_code 7 = .ok (.aload_n 0, 1) := by decide +kernel
theorem d_Markup_readHead_8 : decode prog_7_method_6_code 8 = .ok (.ldc 71, 2) := by decide +kernel
theorem d_Markup_readHead_10 : decode prog_7_method_6_code 10 = .ok (.invokevirtual 73, 3) := by decide +kernel
theorem d_Markup_readHead_13 : decode prog_7_method_6_code 13 = .ok (.ifCond .ne 5, 3) := by decide +kernel
theorem d_Markup_readHead_18 : decode prog_7_method_6_code 18 = .ok (.aload_n 0, 1) := by decide +kernel
theorem d_Markup_readHead_19 : decode prog_7_method_6_code 19 = .ok (.invokevirtual 77, 3) := by decide +kernel
theorem d_Markup_readHead_22 : decode prog_7_method_6_code 22 = .ok (.pop, 1) := by decide +kernel
theorem d_Markup_readHead_23 : decode prog_7_method_6_code 23 = .ok (.aload_n 0, 1) := by decide +kernel
theorem d_Markup_readHead_24 : decode prog_7_method_6_code 24 = .ok (.aload_n 0, 1) := by decide +kernel
theorem d_Markup_readHead_25 : decode prog_7_method_6_code 25 = .ok (.iconst 0, 1) := by decide +kernel
theorem d_Markup_readHead_26 : decode prog_7_method_6_code 26 = .ok (.invokevirtual 80, 3) := by decide +kernel
theorem d_Markup_readHead_29 : decode prog_7_method_6_code 29 = .ok (.bipush 47, 2) := by decide +kernel
theorem d_Markup_readHead_31 : decode prog_7_method_6_code 31 = .ok (.if_icmp .eq 7, 3) := by decide +kernel
theorem d_Markup_readHead_38 : decode prog_7_method_6_code 38 = .ok (.iconst 0, 1) := by decide +kernel
theorem d_Markup_readHead_39 : decode prog_7_method_6_code 39 = .ok (.putfield 83, 3) := by decide +kernel
theorem d_Markup_readHead_42 : decode prog_7_method_6_code 42 = .ok (.aload_n 0, 1) := by decide +kernel
theorem d_Markup_readHead_43 : decode prog_7_method_6_code 43 = .ok (.getfield 83, 3) := by decide +kernel
theorem d_Markup_readHead_46 : decode prog_7_method_6_code 46 = .ok (.ifCond .eq 27, 3) := by decide +kernel
theorem d_Markup_readHead_73 : decode prog_7_method_6_code 73 = .ok (.aload_n 0, 1) := by decide +kernel
theorem d_Markup_readHead_74 : decode prog_7_method_6_code 74 = .ok (.ldc 89, 2) := by decide +kernel
theorem d_Markup_readHead_76 : decode prog_7_method_6_code 76 = .ok (.invokevirtual 73, 3) := by decide +kernel
theorem d_Markup_readHead_79 : decode prog_7_method_6_code 79 = .ok (.ireturn, 1) := by decide +kernel
theorem d_Markup_readHead_34 : decode prog_7_method_6_code 34 = .ok (.iconst 1, 1) := by decide +kernel
theorem d_Markup_readHead_35 : decode prog_7_method_6_code 35 = .ok (.goto 4, 3) := by decide +kernel
theorem d_Markup_readHead_49 : decode prog_7_method_6_code 49 = .ok (.aload_n 0, 1) := by decide +kernel
theorem d_Markup_readHead_50 : decode prog_7_method_6_code 50 = .ok (.ldc 87, 2) := by decide +kernel
theorem d_Markup_readHead_52 : decode prog_7_method_6_code 52 = .ok (.invokevirtual 73, 3) := by decide +kernel
theorem d_Markup_readHead_55 : decode prog_7_method_6_code 55 = .ok (.ifCond .eq 14, 3) := by decide +kernel
theorem d_Markup_readHead_69 : decode prog_7_method_6_code 69 = .ok (.iconst 0, 1) := by decide +kernel
theorem d_Markup_readHead_70 : decode prog_7_method_6_code 70 = .ok (.goto 9, 3) := by decide +kernel
theorem d_Markup_readHead_58 : decode prog_7_method_6_code 58 = .ok (.aload_n 0, 1) := by decide +kernel
theorem d_Markup_readHead_59 : decode prog_7_method_6_code 59 = .ok (.invokevirtual 65, 3) := by decide +kernel
theorem d_Markup_readHead_62 : decode prog_7_method_6_code 62 = .ok (.ifCond .eq 7, 3) := by decide +kernel
theorem d_Markup_readHead_65 : decode prog_7_method_6_code 65 = .ok (.iconst 1, 1) := by decide +kernel
theorem d_Markup_readHead_66 : decode prog_7_method_6_code 66 = .ok (.goto 13, 3) := by decide +kernel
abbrev y_Markup_readHead : MethodName := ⟨"PackageBook$Markup", "readHead", "()Z"⟩
abbrev i_Markup_readHead : pb_I := (y_Markup_readHead, prog_7_method_6_code, 1, (some Jvm.ClassFile.FieldType.boolean), [], { frames := 7, cells := 0, slots := 0, locals := 148 })
set_option maxRecDepth 100000 in
set_option maxHeartbeats 4000000 in
theorem g_Mu_readHead {l : Launch} (hl : l.stackTraces = false) (G : pb_G) (h : Nat) (ui : Nat) (ug : Nat) (uv : Nat) (ur : Nat) (ct : Int32) (fa : Int32) (bg : Int32) (at_ : Int32) (en : Int32) (vs : Int32) (io : Int32) (hi : Int32) (ht : Int32) (uf : Nat → Int32) (a0 : 0 ≤ at_.toInt) (a1 : at_.toInt ≤ en.toInt) (a2 : en.toInt ≤ 12000) (a3 : 0 ≤ bg.toInt) (a4 : bg.toInt ≤ at_.toInt) (p0 : at_.toInt = bg.toInt) (F_uf : sb_Fit uf) : Cn l G i_Markup_readHead [.ref h] [(h, .inr (8, [.ref ui, .ref ug, .ref uv, .ref ur, .int ct, .int fa, .int bg, .int at_, .int en, .int vs, .int io, .int hi, .int ht])), (ur, .inl (G.2.1, 12000, .inl uf))] (S := Int32 × Int32 × Int32 × Int32) (fun rv_ u => rv_ = some (.int u.1) ∧ (u.1.toInt = 0 ∨ u.1.toInt = 1) ∧ (at_.toInt ≤ u.2.1.toInt) ∧ (u.2.1.toInt ≤ en.toInt) ∧ (hd6_ (mB_ uf bg.toInt) (en.toInt - bg.toInt) u.1.toInt u.2.2.2.toInt (u.2.1.toInt - bg.toInt)) ∧ (ft_ u.1.toInt fa.toInt u.2.2.1.toInt)) (fun u => [(h, .inr (8, [.ref ui, .ref ug, .ref uv, .ref ur, .int ct, .int u.2.2.1, .int bg, .int u.2.1, .int en, .int vs, .int u.2.2.2, .int hi, .int ht])), (ur, .inl (G.2.1, 12000, .inl uf))]) := by
  refine Cn.of hl (by decide +kernel) rfl (Nat.le_of_ble_eq_true rfl) (fun M hQ => ?_)
  refine pb_eq (pc' := 0) (lo' := [(0, .ref h)]) (rest' := []) (ws' := [(h, .inr (8, [.ref ui, .ref ug, .ref uv, .ref ur, .int ct, .int fa, .int bg, .int at_, .int en, .int vs, .int io, .int hi, .int ht])), (ur, .inl (G.2.1, 12000, .inl uf))]) ?_
  have zl0 : (0 : Int32).toInt = 0 := by decide
  have zl1 : (1 : Int32).toInt = 1 := by decide
  refine pb_aload_n (pc := 0) d_Markup_readHead_0 0 rfl rfl ?_
  refine pb_callV (pc := 1) (I := i_Markup_readHead) (qb := 0) (ci := 8) (nA := 0) (rest := []) (wr := []) d_Markup_readHead_1 (g_Mu_skipGaps hl G h ui ug uv ur ct fa bg at_ en vs io hi ht uf (by first | (with_reducible assumption) | omega (splitDisjunctions := false) | assumption | omega | decide) (by first | (with_reducible assumption) | omega (splitDisjunctions := false) | assumption | omega | decide) (by first | (with_reducible assumption) | omega (splitDisjunctions := false) | assumption | omega | decide) (by first | (with_reducible assumption) | omega (splitDisjunctions := false) | assumption | omega | decide) (by first | (with_reducible assumption) | omega (splitDisjunctions := false) | assumption | omega | decide) F_uf) rfl rfl [0, 1] [] (by decide) rfl rfl rfl (by decide) (by decide) k_805 rfl k_125 k_802 k_804 k_31 ⟨rfl, hy_Markup_skipGaps⟩ (by decide) rfl rfl (Nat.le_of_ble_eq_true rfl) (by decide) (fun v9 u2 ch1 => ?_)
  obtain ⟨r_3, at_4, f_5⟩ := u2
  obtain ⟨ech1, ch1⟩ := ch1
  have ech1 : v9 = some (.int r_3) := ech1
  subst ech1
  obtain ⟨fh6, fh7, fh8, fh9, fh10⟩ : (r_3.toInt = 0 ∨ r_3.toInt = 1) ∧ (at_.toInt ≤ at_4.toInt) ∧ (at_4.toInt ≤ en.toInt) ∧ (oy_ r_3.toInt (at_4.toInt - bg.toInt) = gF (mB_ uf bg.toInt) (en.toInt - bg.toInt) (at_.toInt - bg.toInt)) ∧ (ft_ r_3.toInt fa.toInt f_5.toInt) := ch1
  have g1F := fh9
  have g1FQ := fh10
  rw [show at_.toInt - bg.toInt = 0 by omega] at g1F
  refine pb_eq (pc' := 4) (lo' := [(0, .ref h)]) (rest' := [.int r_3]) (ws' := [(h, .inr (8, [.ref ui, .ref ug, .ref uv, .ref ur, .int ct, .int f_5, .int bg, .int at_4, .int en, .int vs, .int io, .int hi, .int ht])), (ur, .inl (G.2.1, 12000, .inl uf))]) ?_
  refine pb_if_eq (pc := 4) (tgt := 16) d_Markup_readHead_4 (by decide) (fun w11 => ?_) (fun w11 => ?_)
  · have tw11 : r_3.toInt = 0 := (ti_eq rfl (by decide)).mp w11
    refine pb_iconst (pc := 16) (v := 0) d_Markup_readHead_16 (by decide) ?_
    exact pb_iret (pc := 17) hQ d_Markup_readHead_17 rfl rfl (0, at_4, f_5, io) ⟨rfl, (by (try dsimp only); first | done | (with_reducible assumption) | omega (splitDisjunctions := false) | assumption | omega | decide), (by (try dsimp only); first | done | (with_reducible assumption) | omega (splitDisjunctions := false) | assumption | omega | decide), (by (try dsimp only); first | done | (with_reducible assumption) | omega (splitDisjunctions := false) | assumption | omega | decide), (show hd6_ (mB_ uf bg.toInt) (en.toInt - bg.toInt) (0 : Int32).toInt io.toInt (at_4.toInt - bg.toInt) from (by first | exact hs_n2 g1F (by omega) t1F (by omega) zl0 | exact hs_n1 g1F (by omega) zl0)), (show ft_ (0 : Int32).toInt fa.toInt f_5.toInt from (by first | exact ft_c g1FQ (by omega) (ft_0 t1FQ (by omega) zl0) | exact ft_0 g1FQ (by omega) zl0))⟩ [0, 1] (by decide) rfl rfl (by decide) (by decide)
  · have tw11 : ¬ r_3.toInt = 0 := fun z9 => w11 ((ti_eq rfl (by decide)).mpr z9)
    refine pb_aload_n (pc := 7) d_Markup_readHead_7 0 rfl rfl ?_
    refine pb_ldcS (pc := 8) (k := 3) d_Markup_readHead_8 rfl (by decide) ?_
    refine pb_callV (pc := 10) (I := i_Markup_readHead) (qb := 0) (ci := 8) (nA := 1) (rest := []) (wr := []) d_Markup_readHead_10 (g_Mu_takeText hl G h ui ug uv ur ct f_5 bg at_4 en vs io hi ht uf 3 (by first | (with_reducible assumption) | omega (splitDisjunctions := false) | assumption | omega | decide) (by first | (with_reducible assumption) | omega (splitDisjunctions := false) | assumption | omega | decide) (by first | (with_reducible assumption) | omega (splitDisjunctions := false) | assumption | omega | decide) (by first | (with_reducible assumption) | omega (splitDisjunctions := false) | assumption | omega | decide) (by first | (with_reducible assumption) | omega (splitDisjunctions := false) | assumption | omega | decide) (by first | assumption | decide | omega) F_uf) rfl rfl [0, 1] [] (by decide) rfl rfl rfl (by decide) (by decide) k_825 rfl k_125 k_822 k_824 k_35 ⟨rfl, hy_Markup_takeText⟩ (by decide) rfl rfl (Nat.le_of_ble_eq_true rfl) (by decide) (fun v9 u13 ch12 => ?_)
    obtain ⟨r_14, at_15, f_16⟩ := u13
    obtain ⟨ech12, ch12⟩ := ch12
    have ech12 : v9 = some (.int r_14) := ech12
    subst ech12
    obtain ⟨fh17, fh18, fh19, fh20, fh21⟩ : (r_14.toInt = 0 ∨ r_14.toInt = 1) ∧ (at_4.toInt ≤ at_15.toInt) ∧ (at_15.toInt ≤ en.toInt) ∧ (oy_ r_14.toInt (at_15.toInt - bg.toInt) = wk_ (mB_ uf bg.toInt) (en.toInt - bg.toInt) (st_c 3) (st_len 3).toNat (at_4.toInt - bg.toInt)) ∧ (ft_ r_14.toInt f_5.toInt f_16.toInt) := ch12
    have t1F := fh20
    have t1FQ := fh21
    rw [sw6 [60, 114, 101, 108, 115] (by decide +kernel) (by decide +kernel)] at t1F
    refine pb_eq (pc' := 13) (lo' := [(0, .ref h)]) (rest' := [.int r_14]) (ws' := [(h, .inr (8, [.ref ui, .ref ug, .ref uv, .ref ur, .int ct, .int f_16, .int bg, .int at_15, .int en, .int vs, .int io, .int hi, .int ht])), (ur, .inl (G.2.1, 12000, .inl uf))]) ?_
    refine pb_if_ne (pc := 13) (tgt := 18) d_Markup_readHead_13 (by decide) (fun w22 => ?_) (fun w22 => ?_)
    · have tw22 : ¬ r_14.toInt = 0 := fun z9 => w22 ((ti_eq rfl (by decide)).mpr z9)
      refine pb_aload_n (pc := 18) d_Markup_readHead_18 0 rfl rfl ?_
      refine pb_callV (pc := 19) (I := i_Markup_readHead) (qb := 0) (ci := 8) (nA := 0) (rest := []) (wr := []) d_Markup_readHead_19 (g_Mu_skipSpace hl G h ui ug uv ur ct f_16 bg at_15 en vs io hi ht uf (by first | (with_reducible assumption) | omega (splitDisjunctions := false) | assumption | omega | decide) (by first | (with_reducible assumption) | omega (splitDisjunctions := false) | assumption | omega | decide) (by first | (with_reducible assumption) | omega (splitDisjunctions := false) | assumption | omega | decide) (by first | (with_reducible assumption) | omega (splitDisjunctions := false) | assumption | omega | decide) (by first | (with_reducible assumption) | omega (splitDisjunctions := false) | assumption | omega | decide) F_uf) rfl rfl [0, 1] [] (by decide) rfl rfl rfl (by decide) (by decide) k_809 rfl k_125 k_806 k_808 k_32 ⟨rfl, hy_Markup_skipSpace⟩ (by decide) rfl rfl (Nat.le_of_ble_eq_true rfl) (by decide) (fun v9 u24 ch23 => ?_)
      obtain ⟨r_25, at_26⟩ := u24
      obtain ⟨ech23, ch23⟩ := ch23
      have ech23 : v9 = some (.int r_25) := ech23
      subst ech23
      obtain ⟨fh27, fh28, fh29, fh30, fh31⟩ : (r_25.toInt = 0 ∨ r_25.toInt = 1) ∧ (at_15.toInt ≤ at_26.toInt) ∧ (at_26.toInt ≤ en.toInt) ∧ (at_26.toInt - bg.toInt = sF (mB_ uf bg.toInt) (en.toInt - bg.toInt) (at_15.toInt - bg.toInt)) ∧ (hid_ (r_25.toInt = 1 ∧ at_15.toInt < at_26.toInt ∨ r_25.toInt = 0 ∧ at_26.toInt = at_15.toInt)) := ch23
      have s1F := fh30
      have hsF := hs_y g1F (by omega) t1F (by omega) s1F
      refine pb_eq (pc' := 22) (lo' := [(0, .ref h)]) (rest' := [.int r_25]) (ws' := [(h, .inr (8, [.ref ui, .ref ug, .ref uv, .ref ur, .int ct, .int f_16, .int bg, .int at_26, .int en, .int vs, .int io, .int hi, .int ht])), (ur, .inl (G.2.1, 12000, .inl uf))]) ?_
      refine pb_pop (pc := 22) d_Markup_readHead_22 rfl ?_
      refine pb_aload_n (pc := 23) d_Markup_readHead_23 0 rfl rfl ?_
      refine pb_aload_n (pc := 24) d_Markup_readHead_24 0 rfl rfl ?_
      refine pb_iconst (pc := 25) (v := 0) d_Markup_readHead_25 (by decide) ?_
      refine pb_callV (pc := 26) (I := i_Markup_readHead) (qb := 0) (ci := 8) (nA := 1) (rest := [.ref h]) (wr := []) d_Markup_readHead_26 (g_Mu_next hl G h ui ug uv ur ct f_16 bg at_26 en vs io hi ht uf 0 (by first | (with_reducible assumption) | omega (splitDisjunctions := false) | assumption | omega | decide) (by first | (with_reducible assumption) | omega (splitDisjunctions := false) | assumption | omega | decide) (by first | (with_reducible assumption) | omega (splitDisjunctions := false) | assumption | omega | decide) (by first | (with_reducible assumption) | omega (splitDisjunctions := false) | assumption | omega | decide) (by first | (with_reducible assumption) | omega (splitDisjunctions := false) | assumption | omega | decide) (by first | (with_reducible assumption) | omega (splitDisjunctions := false) | assumption | omega | decide) (by first | (with_reducible assumption) | omega (splitDisjunctions := false) | assumption | omega | decide) F_uf) rfl rfl [0, 1] [] (by decide) rfl rfl rfl (by decide) (by decide) k_813 rfl k_125 k_810 k_812 k_33 ⟨rfl, hy_Markup_next⟩ (by decide) rfl rfl (Nat.le_of_ble_eq_true rfl) (by decide) (fun v9 u33 ch32 => ?_)
      obtain ⟨r_34, rfl⟩ : ∃ z9, z9 = u33 := ⟨_, rfl⟩
      obtain ⟨ech32, ch32⟩ := ch32
      have ech32 : v9 = some (.int r_34) := ech32
      subst ech32
      obtain ⟨fh35, fh36, fh37, fh38⟩ : (-1 ≤ r_34.toInt) ∧ (r_34.toInt ≤ 255) ∧ (0 ≤ r_34.toInt → at_26.toInt + (0 : Int32).toInt < en.toInt) ∧ (r_34.toInt = cm_ (mB_ uf bg.toInt) (en.toInt - bg.toInt) ((at_26.toInt - bg.toInt) + (0 : Int32).toInt)) := ch32
      have n1F := fh38
      rw [zl0, Int.add_zero] at n1F
      refine pb_eq (pc' := 29) (lo' := [(0, .ref h)]) (rest' := [.int r_34, .ref h]) (ws' := [(h, .inr (8, [.ref ui, .ref ug, .ref uv, .ref ur, .int ct, .int f_16, .int bg, .int at_26, .int en, .int vs, .int io, .int hi, .int ht])), (ur, .inl (G.2.1, 12000, .inl uf))]) ?_
      refine pb_bipush (pc := 29) (v := 47) d_Markup_readHead_29 (by decide) ?_
      refine pb_icmp_eq (pc := 31) (tgt := 38) d_Markup_readHead_31 (by decide) (fun w39 => ?_) (fun w39 => ?_)
      · have tw39 : r_34.toInt = 47 := (ti_eq rfl (by decide)).mp w39
        refine pb_iconst (pc := 38) (v := 0) d_Markup_readHead_38 (by decide) ?_
        refine pb_put (pc := 39) (ty := .boolean) (ws' := [(h, .inr (8, [.ref ui, .ref ug, .ref uv, .ref ur, .int ct, .int f_16, .int bg, .int at_26, .int en, .int vs, .int 0, .int hi, .int ht])), (ur, .inl (G.2.1, 12000, .inl uf))]) d_Markup_readHead_39 0 10 t_Markup t_Markup_ok n_Markup rfl rfl (by decide) in_Markup k_329 rfl (by decide +kernel) rfl rfl (Nat.le_of_ble_eq_true rfl) rfl ?_
        refine pb_aload_n (pc := 42) d_Markup_readHead_42 0 rfl rfl ?_
        refine pb_get (pc := 43) d_Markup_readHead_43 0 10 rfl rfl (by decide) in_Markup k_329 rfl ?_
        refine pb_if_eq (pc := 46) (tgt := 73) d_Markup_readHead_46 (by decide) (fun _ => ?_) (fun h9 => absurd h9 (by decide))
        refine pb_aload_n (pc := 73) d_Markup_readHead_73 0 rfl rfl ?_
        refine pb_ldcS (pc := 74) (k := 5) d_Markup_readHead_74 rfl (by decide) ?_
        refine pb_callV (pc := 76) (I := i_Markup_readHead) (qb := 0) (ci := 8) (nA := 1) (rest := []) (wr := []) d_Markup_readHead_76 (g_Mu_takeText hl G h ui ug uv ur ct f_16 bg at_26 en vs 0 hi ht uf 5 (by first | (with_reducible assumption) | omega (splitDisjunctions := false) | assumption | (clear fh37; first | omega (splitDisjunctions := false) | omega) | omega | decide) (by first | (with_reducible assumption) | omega (splitDisjunctions := false) | assumption | (clear fh37; first | omega (splitDisjunctions := false) | omega) | omega | decide) (by first | (with_reducible assumption) | omega (splitDisjunctions := false) | assumption | (clear fh37; first | omega (splitDisjunctions := false) | omega) | omega | decide) (by first | (with_reducible assumption) | omega (splitDisjunctions := false) | assumption | (clear fh37; first | omega (splitDisjunctions := false) | omega) | omega | decide) (by first | (with_reducible assumption) | omega (splitDisjunctions := false) | assumption | (clear fh37; first | omega (splitDisjunctions := false) | omega) | omega | decide) (by first | assumption | decide | omega) F_uf) rfl rfl [0, 1] [] (by decide) rfl rfl rfl (by decide) (by decide) k_825 rfl k_125 k_822 k_824 k_35 ⟨rfl, hy_Markup_takeText⟩ (by decide) rfl rfl (Nat.le_of_ble_eq_true rfl) (by decide) (fun v9 u42 ch41 => ?_)
        obtain ⟨r_43, at_44, f_45⟩ := u42
        obtain ⟨ech41, ch41⟩ := ch41
        have ech41 : v9 = some (.int r_43) := ech41
        subst ech41
        obtain ⟨fh46, fh47, fh48, fh49, fh50⟩ : (r_43.toInt = 0 ∨ r_43.toInt = 1) ∧ (at_26.toInt ≤ at_44.toInt) ∧ (at_44.toInt ≤ en.toInt) ∧ (oy_ r_43.toInt (at_44.toInt - bg.toInt) = wk_ (mB_ uf bg.toInt) (en.toInt - bg.toInt) (st_c 5) (st_len 5).toNat (at_26.toInt - bg.toInt)) ∧ (ft_ r_43.toInt f_16.toInt f_45.toInt) := ch41
        have t3F := fh49
        have t3FQ := fh50
        rw [sw6 [47, 62] (by decide +kernel) (by decide +kernel)] at t3F
        refine pb_eq (pc' := 79) (lo' := [(0, .ref h)]) (rest' := [.int r_43]) (ws' := [(h, .inr (8, [.ref ui, .ref ug, .ref uv, .ref ur, .int ct, .int f_45, .int bg, .int at_44, .int en, .int vs, .int 0, .int hi, .int ht])), (ur, .inl (G.2.1, 12000, .inl uf))]) ?_
        exact pb_iret (pc := 79) hQ d_Markup_readHead_79 rfl (nar_b (by omega)) (r_43, at_44, f_45, 0) ⟨rfl, (by (try dsimp only); first | done | (with_reducible assumption) | omega (splitDisjunctions := false) | assumption | (clear fh37; first | omega (splitDisjunctions := false) | omega) | omega | decide), (by (try dsimp only); first | done | (with_reducible assumption) | (exact omg_836e6c3738 fh7 fh18 fh28 fh47) | assumption | (clear fh37; first | omega (splitDisjunctions := false) | omega) | omega | decide), (by (try dsimp only); first | done | (with_reducible assumption) | omega (splitDisjunctions := false) | assumption | (clear fh37; first | omega (splitDisjunctions := false) | omega) | omega | decide), (show hd6_ (mB_ uf bg.toInt) (en.toInt - bg.toInt) r_43.toInt (0 : Int32).toInt (at_44.toInt - bg.toInt) from (by first | exact hd_c hsF (by omega) t3F zl0 | exact hd_o hsF (by omega) t2F (by omega) (oy_1 g2F (by omega) (by omega)) (by omega) | exact hd_o hsF (by omega) t2F (by omega) (oy_0 g2F (by omega) zl0) (by omega) | exact hd_on hsF (by omega) t2F (by omega) zl0)), (show ft_ r_43.toInt fa.toInt f_45.toInt from (by first | exact ft_c g1FQ (by omega) (ft_c t1FQ (by omega) t3FQ) | exact ft_c g1FQ (by omega) (ft_c t1FQ (by omega) (ft_c t2FQ (by omega) (ft_1 g2FQ (by omega) (by omega)))) | exact ft_c g1FQ (by omega) (ft_c t1FQ (by omega) (ft_c t2FQ (by omega) (ft_0 g2FQ (by omega) zl0))) | exact ft_c g1FQ (by omega) (ft_c t1FQ (by omega) (ft_0 t2FQ (by omega) zl0))))⟩ [0, 1] (by decide) rfl rfl (by decide) (by decide)
      · have tw39 : ¬ r_34.toInt = 47 := fun z9 => w39 ((ti_eq rfl (by decide)).mpr z9)
        refine pb_iconst (pc := 34) (v := 1) d_Markup_readHead_34 (by decide) ?_
        refine pb_goto (pc := 35) (tgt := 39) d_Markup_readHead_35 (by decide) ?_
        refine pb_put (pc := 39) (ty := .boolean) (ws' := [(h, .inr (8, [.ref ui, .ref ug, .ref uv, .ref ur, .int ct, .int f_16, .int bg, .int at_26, .int en, .int vs, .int 1, .int hi, .int ht])), (ur, .inl (G.2.1, 12000, .inl uf))]) d_Markup_readHead_39 0 10 t_Markup t_Markup_ok n_Markup rfl rfl (by decide) in_Markup k_329 rfl (by decide +kernel) rfl rfl (Nat.le_of_ble_eq_true rfl) rfl ?_
        refine pb_aload_n (pc := 42) d_Markup_readHead_42 0 rfl rfl ?_
        refine pb_get (pc := 43) d_Markup_readHead_43 0 10 rfl rfl (by decide) in_Markup k_329 rfl ?_
        refine pb_if_eq (pc := 46) (tgt := 73) d_Markup_readHead_46 (by decide) (fun h9 => absurd h9 (by decide)) (fun _ => ?_)
        refine pb_aload_n (pc := 49) d_Markup_readHead_49 0 rfl rfl ?_
        refine pb_ldcS (pc := 50) (k := 4) d_Markup_readHead_50 rfl (by decide) ?_
        refine pb_callV (pc := 52) (I := i_Markup_readHead) (qb := 0) (ci := 8) (nA := 1) (rest := []) (wr := []) d_Markup_readHead_52 (g_Mu_takeText hl G h ui ug uv ur ct f_16 bg at_26 en vs 1 hi ht uf 4 (by first | (with_reducible assumption) | omega (splitDisjunctions := false) | assumption | (clear fh37; first | omega (splitDisjunctions := false) | omega) | omega | decide) (by first | (with_reducible assumption) | omega (splitDisjunctions := false) | assumption | (clear fh37; first | omega (splitDisjunctions := false) | omega) | omega | decide) (by first | (with_reducible assumption) | omega (splitDisjunctions := false) | assumption | (clear fh37; first | omega (splitDisjunctions := false) | omega) | omega | decide) (by first | (with_reducible assumption) | omega (splitDisjunctions := false) | assumption | (clear fh37; first | omega (splitDisjunctions := false) | omega) | omega | decide) (by first | (with_reducible assumption) | omega (splitDisjunctions := false) | assumption | (clear fh37; first | omega (splitDisjunctions := false) | omega) | omega | decide) (by first | assumption | decide | omega) F_uf) rfl rfl [0, 1] [] (by decide) rfl rfl rfl (by decide) (by decide) k_825 rfl k_125 k_822 k_824 k_35 ⟨rfl, hy_Markup_takeText⟩ (by decide) rfl rfl (Nat.le_of_ble_eq_true rfl) (by decide) (fun v9 u53 ch52 => ?_)
        obtain ⟨r_54, at_55, f_56⟩ := u53
        obtain ⟨ech52, ch52⟩ := ch52
        have ech52 : v9 = some (.int r_54) := ech52
        subst ech52
        obtain ⟨fh57, fh58, fh59, fh60, fh61⟩ : (r_54.toInt = 0 ∨ r_54.toInt = 1) ∧ (at_26.toInt ≤ at_55.toInt) ∧ (at_55.toInt ≤ en.toInt) ∧ (oy_ r_54.toInt (at_55.toInt - bg.toInt) = wk_ (mB_ uf bg.toInt) (en.toInt - bg.toInt) (st_c 4) (st_len 4).toNat (at_26.toInt - bg.toInt)) ∧ (ft_ r_54.toInt f_16.toInt f_56.toInt) := ch52
        have t2F := fh60
        have t2FQ := fh61
        rw [sw6 [62] (by decide +kernel) (by decide +kernel)] at t2F
        refine pb_eq (pc' := 55) (lo' := [(0, .ref h)]) (rest' := [.int r_54]) (ws' := [(h, .inr (8, [.ref ui, .ref ug, .ref uv, .ref ur, .int ct, .int f_56, .int bg, .int at_55, .int en, .int vs, .int 1, .int hi, .int ht])), (ur, .inl (G.2.1, 12000, .inl uf))]) ?_
        refine pb_if_eq (pc := 55) (tgt := 69) d_Markup_readHead_55 (by decide) (fun w62 => ?_) (fun w62 => ?_)
        · have tw62 : r_54.toInt = 0 := (ti_eq rfl (by decide)).mp w62
          refine pb_iconst (pc := 69) (v := 0) d_Markup_readHead_69 (by decide) ?_
          refine pb_goto (pc := 70) (tgt := 79) d_Markup_readHead_70 (by decide) ?_
          exact pb_iret (pc := 79) hQ d_Markup_readHead_79 rfl rfl (0, at_55, f_56, 1) ⟨rfl, (by (try dsimp only); first | done | (with_reducible assumption) | omega (splitDisjunctions := false) | assumption | (clear fh37; first | omega (splitDisjunctions := false) | omega) | omega | decide), (by (try dsimp only); first | done | (with_reducible assumption) | omega (splitDisjunctions := false) | assumption | (clear fh37; first | omega (splitDisjunctions := false) | omega) | omega | decide), (by (try dsimp only); first | done | (with_reducible assumption) | omega (splitDisjunctions := false) | assumption | (clear fh37; first | omega (splitDisjunctions := false) | omega) | omega | decide), (show hd6_ (mB_ uf bg.toInt) (en.toInt - bg.toInt) (0 : Int32).toInt (1 : Int32).toInt (at_55.toInt - bg.toInt) from (by first | exact hd_c hsF (by omega) t3F zl0 | exact hd_o hsF (by omega) t2F (by omega) (oy_1 g2F (by omega) (by omega)) (by omega) | exact hd_o hsF (by omega) t2F (by omega) (oy_0 g2F (by omega) zl0) (by omega) | exact hd_on hsF (by omega) t2F (by omega) zl0)), (show ft_ (0 : Int32).toInt fa.toInt f_56.toInt from (by first | exact ft_c g1FQ (by omega) (ft_c t1FQ (by omega) t3FQ) | exact ft_c g1FQ (by omega) (ft_c t1FQ (by omega) (ft_c t2FQ (by omega) (ft_1 g2FQ (by omega) (by omega)))) | exact ft_c g1FQ (by omega) (ft_c t1FQ (by omega) (ft_c t2FQ (by omega) (ft_0 g2FQ (by omega) zl0))) | exact ft_c g1FQ (by omega) (ft_c t1FQ (by omega) (ft_0 t2FQ (by omega) zl0))))⟩ [0, 1] (by decide) rfl rfl (by decide) (by decide)
        · have tw62 : ¬ r_54.toInt = 0 := fun z9 => w62 ((ti_eq rfl (by decide)).mpr z9)
          refine pb_aload_n (pc := 58) d_Markup_readHead_58 0 rfl rfl ?_
          refine pb_callV (pc := 59) (I := i_Markup_readHead) (qb := 0) (ci := 8) (nA := 0) (rest := []) (wr := []) d_Markup_readHead_59 (g_Mu_skipGaps hl G h ui ug uv ur ct f_56 bg at_55 en vs 1 hi ht uf (by first | (with_reducible assumption) | omega (splitDisjunctions := false) | assumption | (clear fh37; first | omega (splitDisjunctions := false) | omega) | omega | decide) (by first | (with_reducible assumption) | omega (splitDisjunctions := false) | assumption | (clear fh37; first | omega (splitDisjunctions := false) | omega) | omega | decide) (by first | (with_reducible assumption) | omega (splitDisjunctions := false) | assumption | (clear fh37; first | omega (splitDisjunctions := false) | omega) | omega | decide) (by first | (with_reducible assumption) | omega (splitDisjunctions := false) | assumption | (clear fh37; first | omega (splitDisjunctions := false) | omega) | omega | decide) (by first | (with_reducible assumption) | omega (splitDisjunctions := false) | assumption | (clear fh37; first | omega (splitDisjunctions := false) | omega) | omega | decide) F_uf) rfl rfl [0, 1] [] (by decide) rfl rfl rfl (by decide) (by decide) k_805 rfl k_125 k_802 k_804 k_31 ⟨rfl, hy_Markup_skipGaps⟩ (by decide) rfl rfl (Nat.le_of_ble_eq_true rfl) (by decide) (fun v9 u64 ch63 => ?_)
          obtain ⟨r_65, at_66, f_67⟩ := u64
          obtain ⟨ech63, ch63⟩ := ch63
          have ech63 : v9 = some (.int r_65) := ech63
          subst ech63
          obtain ⟨fh68, fh69, fh70, fh71, fh72⟩ : (r_65.toInt = 0 ∨ r_65.toInt = 1) ∧ (at_55.toInt ≤ at_66.toInt) ∧ (at_66.toInt ≤ en.toInt) ∧ (oy_ r_65.toInt (at_66.toInt - bg.toInt) = gF (mB_ uf bg.toInt) (en.toInt - bg.toInt) (at_55.toInt - bg.toInt)) ∧ (ft_ r_65.toInt f_56.toInt f_67.toInt) := ch63
          have g2F := fh71
          have g2FQ := fh72
          refine pb_eq (pc' := 62) (lo' := [(0, .ref h)]) (rest' := [.int r_65]) (ws' := [(h, .inr (8, [.ref ui, .ref ug, .ref uv, .ref ur, .int ct, .int f_67, .int bg, .int at_66, .int en, .int vs, .int 1, .int hi, .int ht])), (ur, .inl (G.2.1, 12000, .inl uf))]) ?_
          refine pb_if_eq (pc := 62) (tgt := 69) d_Markup_readHead_62 (by decide) (fun w73 => ?_) (fun w73 => ?_)
          · have tw73 : r_65.toInt = 0 := (ti_eq rfl (by decide)).mp w73
            refine pb_iconst (pc := 69) (v := 0) d_Markup_readHead_69 (by decide) ?_
            refine pb_goto (pc := 70) (tgt := 79) d_Markup_readHead_70 (by decide) ?_
            exact pb_iret (pc := 79) hQ d_Markup_readHead_79 rfl rfl (0, at_66, f_67, 1) ⟨rfl, (by (try dsimp only); first | done | (with_reducible assumption) | omega (splitDisjunctions := false) | assumption | (clear fh37; first | omega (splitDisjunctions := false) | omega) | omega | decide), (by (try dsimp only); first | done | (with_reducible assumption) | (exact omg_a30c78b83b fh7 fh18 fh28 fh58 fh69) | assumption | (clear fh37; first | omega (splitDisjunctions := false) | omega) | omega | decide), (by (try dsimp only); first | done | (with_reducible assumption) | omega (splitDisjunctions := false) | assumption | (clear fh37; first | omega (splitDisjunctions := false) | omega) | omega | decide), (show hd6_ (mB_ uf bg.toInt) (en.toInt - bg.toInt) (0 : Int32).toInt (1 : Int32).toInt (at_66.toInt - bg.toInt) from (by first | exact hd_c hsF (by omega) t3F zl0 | exact hd_o hsF (by (exact omg_d640c22f96 n1F tw39)) t2F (by omega) (oy_1 g2F (by omega) (by omega)) (by omega) | exact hd_o hsF (by omega) t2F (by omega) (oy_0 g2F (by omega) zl0) (by omega) | exact hd_on hsF (by omega) t2F (by omega) zl0)), (show ft_ (0 : Int32).toInt fa.toInt f_67.toInt from (by first | exact ft_c g1FQ (by omega) (ft_c t1FQ (by omega) t3FQ) | exact ft_c g1FQ (by omega) (ft_c t1FQ (by omega) (ft_c t2FQ (by omega) (ft_1 g2FQ (by omega) (by omega)))) | exact ft_c g1FQ (by omega) (ft_c t1FQ (by omega) (ft_c t2FQ (by omega) (ft_0 g2FQ (by omega) zl0))) | exact ft_c g1FQ (by omega) (ft_c t1FQ (by omega) (ft_0 t2FQ (by omega) zl0))))⟩ [0, 1] (by decide) rfl rfl (by decide) (by decide)
          · have tw73 : ¬ r_65.toInt = 0 := fun z9 => w73 ((ti_eq rfl (by decide)).mpr z9)
            refine pb_iconst (pc := 65) (v := 1) d_Markup_readHead_65 (by decide) ?_
            refine pb_goto (pc := 66) (tgt := 79) d_Markup_readHead_66 (by decide) ?_
            exact pb_iret (pc := 79) hQ d_Markup_readHead_79 rfl rfl (1, at_66, f_67, 1) ⟨rfl, (by (try dsimp only); first | done | (with_reducible assumption) | omega (splitDisjunctions := false) | assumption | (clear fh37; first | omega (splitDisjunctions := false) | omega) | omega | decide), (by (try dsimp only); first | done | (with_reducible assumption) | (exact omg_a30c78b83b fh7 fh18 fh28 fh58 fh69) | assumption | (clear fh37; first | omega (splitDisjunctions := false) | omega) | omega | decide), (by (try dsimp only); first | done | (with_reducible assumption) | omega (splitDisjunctions := false) | assumption | (clear fh37; first | omega (splitDisjunctions := false) | omega) | omega | decide), (show hd6_ (mB_ uf bg.toInt) (en.toInt - bg.toInt) (1 : Int32).toInt (1 : Int32).toInt (at_66.toInt - bg.toInt) from (by first | exact hd_c hsF (by omega) t3F zl0 | exact hd_o hsF (by omega) t2F (by omega) (oy_1 g2F (by omega) (by omega)) (by omega) | exact hd_o hsF (by omega) t2F (by omega) (oy_0 g2F (by omega) zl0) (by omega) | exact hd_on hsF (by omega) t2F (by omega) zl0)), (show ft_ (1 : Int32).toInt fa.toInt f_67.toInt from (by first | exact ft_c g1FQ (by omega) (ft_c t1FQ (by omega) t3FQ) | exact ft_c g1FQ (by omega) (ft_c t1FQ (by omega) (ft_c t2FQ (by omega) (ft_1 g2FQ (by omega) (by omega)))) | exact ft_c g1FQ (by omega) (ft_c t1FQ (by omega) (ft_c t2FQ (by omega) (ft_0 g2FQ (by omega) zl0))) | exact ft_c g1FQ (by omega) (ft_c t1FQ (by omega) (ft_0 t2FQ (by omega) zl0))))⟩ [0, 1] (by decide) rfl rfl (by decide) (by decide)
    · have tw22 : r_14.toInt = 0 := (ti_eq rfl (by decide)).mp w22
      refine pb_iconst (pc := 16) (v := 0) d_Markup_readHead_16 (by decide) ?_
      exact pb_iret (pc := 17) hQ d_Markup_readHead_17 rfl rfl (0, at_15, f_16, io) ⟨rfl, (by (try dsimp only); first | done | (with_reducible assumption) | omega (splitDisjunctions := false) | assumption | omega | decide), (by (try dsimp only); first | done | (with_reducible assumption) | omega (splitDisjunctions := false) | assumption | omega | decide), (by (try dsimp only); first | done | (with_reducible assumption) | omega (splitDisjunctions := false) | assumption | omega | decide), (show hd6_ (mB_ uf bg.toInt) (en.toInt - bg.toInt) (0 : Int32).toInt io.toInt (at_15.toInt - bg.toInt) from (by first | exact hs_n2 g1F (by omega) t1F (by omega) zl0 | exact hs_n1 g1F (by omega) zl0)), (show ft_ (0 : Int32).toInt fa.toInt f_16.toInt from (by first | exact ft_c g1FQ (by omega) (ft_0 t1FQ (by omega) zl0) | exact ft_0 g1FQ (by omega) zl0))⟩ [0, 1] (by decide) rfl rfl (by decide) (by decide)
