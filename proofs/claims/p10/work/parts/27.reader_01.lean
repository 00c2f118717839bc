theorem d_FileReader_isRecordOf_0 : decode prog_5_method_7_code 0 = .ok (.aload_n 0, 1) := by decide +kernel
theorem d_FileReader_isRecordOf_1 : decode prog_5_method_7_code 1 = .ok (.getfield 9, 3) := by decide +kernel
theorem d_FileReader_isRecordOf_4 : decode prog_5_method_7_code 4 = .ok (.iload_n 2, 1) := by decide +kernel
theorem d_FileReader_isRecordOf_5 : decode prog_5_method_7_code 5 = .ok (.invokestatic 28, 3) := by decide +kernel
theorem d_FileReader_isRecordOf_8 : decode prog_5_method_7_code 8 = .ok (.ldc2_w 85, 3) := by decide +kernel
theorem k_618 : (Jvm.Cond.constantLong "PackageBook$FileReader" (85 : Nat) (67324752 : Int64)) ∈ uW := uW_of 618 (by decide +kernel) (by decide +kernel)
theorem d_FileReader_isRecordOf_11 : decode prog_5_method_7_code 11 = .ok (.lcmp, 1) := by decide +kernel
theorem d_FileReader_isRecordOf_12 : decode prog_5_method_7_code 12 = .ok (.ifCond .ne 53, 3) := by decide +kernel
theorem d_FileReader_isRecordOf_65 : decode prog_5_method_7_code 65 = .ok (.iconst 0, 1) := by decide +kernel
theorem d_FileReader_isRecordOf_66 : decode prog_5_method_7_code 66 = .ok (.ireturn, 1) := by decide +kernel
theorem d_FileReader_isRecordOf_15 : decode prog_5_method_7_code 15 = .ok (.aload_n 0, 1) := by decide +kernel
theorem d_FileReader_isRecordOf_16 : decode prog_5_method_7_code 16 = .ok (.getfield 9, 3) := by decide +kernel
theorem d_FileReader_isRecordOf_19 : decode prog_5_method_7_code 19 = .ok (.iload_n 1, 1) := by decide +kernel
theorem d_FileReader_isRecordOf_20 : decode prog_5_method_7_code 20 = .ok (.bipush 6, 2) := by decide +kernel
theorem d_FileReader_isRecordOf_22 : decode prog_5_method_7_code 22 = .ok (.iadd, 1) := by decide +kernel
theorem d_FileReader_isRecordOf_23 : decode prog_5_method_7_code 23 = .ok (.aload_n 0, 1) := by decide +kernel
theorem d_FileReader_isRecordOf_24 : decode prog_5_method_7_code 24 = .ok (.getfield 9, 3) := by decide +kernel
theorem d_FileReader_isRecordOf_27 : decode prog_5_method_7_code 27 = .ok (.iload_n 2, 1) := by decide +kernel
theorem d_FileReader_isRecordOf_28 : decode prog_5_method_7_code 28 = .ok (.iconst 4, 1) := by decide +kernel
theorem d_FileReader_isRecordOf_29 : decode prog_5_method_7_code 29 = .ok (.iadd, 1) := by decide +kernel
theorem d_FileReader_isRecordOf_30 : decode prog_5_method_7_code 30 = .ok (.bipush 26, 2) := by decide +kernel
theorem d_FileReader_isRecordOf_32 : decode prog_5_method_7_code 32 = .ok (.invokestatic 87, 3) := by decide +kernel
theorem k_619 : (Jvm.Cond.methodLinkNest "PackageBook$FileReader" (87 : Nat) ({ cls := "PackageBook", name := "isSame", desc := "([BI[BII)Z" } : Jvm.MethodName) "PackageBook") ∈ uN := uN_of 619 (by decide +kernel) (by decide +kernel)
theorem d_FileReader_isRecordOf_35 : decode prog_5_method_7_code 35 = .ok (.ifCond .eq 30, 3) := by decide +kernel
theorem d_FileReader_isRecordOf_38 : decode prog_5_method_7_code 38 = .ok (.aload_n 0, 1) := by decide +kernel
theorem d_FileReader_isRecordOf_39 : decode prog_5_method_7_code 39 = .ok (.getfield 9, 3) := by decide +kernel
theorem d_FileReader_isRecordOf_42 : decode prog_5_method_7_code 42 = .ok (.iload_n 1, 1) := by decide +kernel
theorem d_FileReader_isRecordOf_43 : decode prog_5_method_7_code 43 = .ok (.bipush 46, 2) := by decide +kernel
theorem d_FileReader_isRecordOf_45 : decode prog_5_method_7_code 45 = .ok (.iadd, 1) := by decide +kernel
theorem d_FileReader_isRecordOf_46 : decode prog_5_method_7_code 46 = .ok (.aload_n 0, 1) := by decide +kernel
theorem d_FileReader_isRecordOf_47 : decode prog_5_method_7_code 47 = .ok (.getfield 9, 3) := by decide +kernel
theorem d_FileReader_isRecordOf_50 : decode prog_5_method_7_code 50 = .ok (.iload_n 2, 1) := by decide +kernel
theorem d_FileReader_isRecordOf_51 : decode prog_5_method_7_code 51 = .ok (.bipush 30, 2) := by decide +kernel
theorem d_FileReader_isRecordOf_53 : decode prog_5_method_7_code 53 = .ok (.iadd, 1) := by decide +kernel
theorem d_FileReader_isRecordOf_54 : decode prog_5_method_7_code 54 = .ok (.iload_n 3, 1) := by decide +kernel
theorem d_FileReader_isRecordOf_55 : decode prog_5_method_7_code 55 = .ok (.invokestatic 87, 3) := by decide +kernel
theorem d_FileReader_isRecordOf_58 : decode prog_5_method_7_code 58 = .ok (.ifCond .eq 7, 3) := by decide +kernel
theorem d_FileReader_isRecordOf_61 : decode prog_5_method_7_code 61 = .ok (.iconst 1, 1) := by decide +kernel
theorem d_FileReader_isRecordOf_62 : decode prog_5_method_7_code 62 = .ok (.goto 4, 3) := by decide +kernel
abbrev y_FileReader_isRecordOf : MethodName := ⟨"PackageBook$FileReader", "isRecordOf", "(III)Z"⟩
abbrev i_FileReader_isRecordOf : pb_I := (y_FileReader_isRecordOf, prog_5_method_7_code, 4, (some Jvm.ClassFile.FieldType.boolean), [], { frames := 2, cells := 0, slots := 0, locals := 42 })
set_option maxRecDepth 100000 in
set_option maxHeartbeats 4000000 in
theorem g_Rd_isRecordOf {l : Launch} (hl : l.stackTraces = false) (G : pb_G) (h : Nat) (b : Nat) (N : Nat) (f : Nat → Int32) (x : Int32) (y : Int32) (n : Int32) (A : Int → Int32) (Zs : Int) (h0 : 0 ≤ x.toInt) (h1 : x.toInt + 46 + n.toInt ≤ N) (h2 : 0 ≤ y.toInt) (h3 : y.toInt + 30 + n.toInt ≤ N) (h4 : 0 ≤ n.toInt) (hN : N ≤ 100000) (hA : ∀ j : Int, 0 ≤ j → j < Zs → A j = gr f j) (hZ : x.toInt + 46 + n.toInt ≤ Zs) (hZ2 : y.toInt + 30 + n.toInt ≤ Zs) (F_f : sb_Fit f) : Cn l G i_FileReader_isRecordOf [.ref h, .int x, .int y, .int n] [(h, .inr (7, [.ref b])), (b, .inl (G.2.1, N, .inl f))] (S := Int32) (fun rv_ u => rv_ = some (.int u) ∧ (u.toInt = 0 ∨ u.toInt = 1) ∧ (u.toInt = 1 → aw A y.toInt 4 = 67324752 ∧ (∀ k : Int, 0 ≤ k → k < 26 → A (x.toInt + 6 + k) = A (y.toInt + 4 + k)) ∧ ∀ k : Int, 0 ≤ k → k < n.toInt → A (x.toInt + 46 + k) = A (y.toInt + 30 + k)) ∧ (u.toInt = 0 → ¬ (aw A y.toInt 4 = 67324752 ∧ (∀ k : Int, 0 ≤ k → k < 26 → A (x.toInt + 6 + k) = A (y.toInt + 4 + k)) ∧ ∀ k : Int, 0 ≤ k → k < n.toInt → A (x.toInt + 46 + k) = A (y.toInt + 30 + k)))) (fun u => [(h, .inr (7, [.ref b])), (b, .inl (G.2.1, N, .inl f))]) := by
  refine Cn.of hl (by decide +kernel) rfl (Nat.le_of_ble_eq_true rfl) (fun M hQ => ?_)
  refine pb_eq (pc' := 0) (lo' := [(0, .ref h), (1, .int x), (2, .int y), (3, .int n)]) (rest' := []) (ws' := [(h, .inr (7, [.ref b])), (b, .inl (G.2.1, N, .inl f))]) ?_
  have zl0 : (0 : Int32).toInt = 0 := by decide
  have zl1 : (1 : Int32).toInt = 1 := by decide
  have zl26 : (26 : Int32).toInt = 26 := by decide
  refine pb_aload_n (pc := 0) d_FileReader_isRecordOf_0 0 rfl rfl ?_
  refine pb_get (pc := 1) d_FileReader_isRecordOf_1 0 0 rfl rfl (by decide) in_FileReader k_306 rfl ?_
  refine pb_iload_n (pc := 4) d_FileReader_isRecordOf_4 2 rfl rfl ?_
  refine pb_callSN (pc := 5) (I := i_FileReader_isRecordOf) (nA := 2) (rest := []) (wr := [(h, .inr (7, [.ref b]))]) d_FileReader_isRecordOf_5 (g_fourAt hl G b N f y (by first | assumption | omega (splitDisjunctions := false) | omega | decide) (by first | assumption | omega (splitDisjunctions := false) | omega | decide) (by first | assumption | omega (splitDisjunctions := false) | omega | decide) F_f) [1] [0] (by decide) rfl rfl rfl (by decide) (by decide) k_594 rfl k_118 k_592 k_593 hy_Book_fourAt (by decide) rfl rfl (Nat.le_of_ble_eq_true rfl) (by decide) (fun v9 u2 ch1 => ?_)
  obtain ⟨r_3, rfl⟩ : ∃ z9, z9 = u2 := ⟨_, rfl⟩
  obtain ⟨ech1, ch1⟩ := ch1
  have ech1 : v9 = some (.long r_3) := ech1
  subst ech1
  obtain ⟨fh4, fh5, fh6⟩ : (0 ≤ r_3.toInt) ∧ (r_3.toInt < 4294967296) ∧ (r_3.toInt = av f y.toInt 4) := ch1
  have u0 : r_3.toInt = aw A (y.toInt) 4 := by rw [fh6]; exact av_A hA 4 (by omega) (by omega)
  refine pb_eq (pc' := 8) (lo' := [(0, .ref h), (1, .int x), (2, .int y), (3, .int n)]) (rest' := [.long r_3]) (ws' := [(h, .inr (7, [.ref b])), (b, .inl (G.2.1, N, .inl f))]) ?_
  refine pb_ldc2 (pc := 8) (v := 67324752) d_FileReader_isRecordOf_8 k_618 ?_
  refine pb_lcmp (pc := 11) d_FileReader_isRecordOf_11 ?_
  refine pb_topi (fun i7 ei7 => ?_)
  have ti7 : (i7.toInt < 0 ↔ r_3.toInt < 67324752) ∧ (i7.toInt = 0 ↔ r_3.toInt = 67324752) ∧ (0 < i7.toInt ↔ 67324752 < r_3.toInt) := tl_cmp ei7 rfl (by decide)
  refine pb_if_ne (pc := 12) (tgt := 65) d_FileReader_isRecordOf_12 (by decide) (fun w8 => ?_) (fun w8 => ?_)
  · have tw8 : ¬ i7.toInt = 0 := fun z9 => w8 ((ti_eq rfl (by decide)).mpr z9)
    refine pb_iconst (pc := 65) (v := 0) d_FileReader_isRecordOf_65 (by decide) ?_
    exact pb_iret (pc := 66) hQ d_FileReader_isRecordOf_66 rfl rfl (0) ⟨rfl, (by (try dsimp only); first | done | assumption | omega (splitDisjunctions := false) | omega | decide), (show (0 : Int32).toInt = 1 → aw A y.toInt 4 = 67324752 ∧ (∀ k : Int, 0 ≤ k → k < 26 → A (x.toInt + 6 + k) = A (y.toInt + 4 + k)) ∧ ∀ k : Int, 0 ≤ k → k < n.toInt → A (x.toInt + 46 + k) = A (y.toInt + 30 + k) from (by first | exact fun q9 => absurd q9 (by decide) | exact fun _ => ⟨by omega, sm_A hA (s1 (by omega)) (by omega) (by omega) (by omega) (by omega) (by omega) (by omega) (by omega), sm_A hA (s2 (by omega)) (by omega) (by omega) (by omega) (by omega) (by omega) (by omega) (by omega)⟩)), (show (0 : Int32).toInt = 0 → ¬ (aw A y.toInt 4 = 67324752 ∧ (∀ k : Int, 0 ≤ k → k < 26 → A (x.toInt + 6 + k) = A (y.toInt + 4 + k)) ∧ ∀ k : Int, 0 ≤ k → k < n.toInt → A (x.toInt + 46 + k) = A (y.toInt + 30 + k)) from (by first | exact fun q9 => absurd q9 (by decide) | exact fun _ q9 => sm_N hA (n2 (by omega)) (by omega) (by omega) (by omega) (by omega) (by omega) (by omega) (by omega) q9.2.2 | exact fun _ q9 => sm_N hA (n1 (by omega)) (by omega) (by omega) (by omega) (by omega) (by omega) (by omega) (by omega) q9.2.1 | exact fun _ q9 => absurd q9.1 (by omega)))⟩ [0, 1] (by decide) rfl rfl (by decide) (by decide)
  · have tw8 : i7.toInt = 0 := (ti_eq rfl (by decide)).mp w8
    refine pb_aload_n (pc := 15) d_FileReader_isRecordOf_15 0 rfl rfl ?_
    refine pb_get (pc := 16) d_FileReader_isRecordOf_16 0 0 rfl rfl (by decide) in_FileReader k_306 rfl ?_
    refine pb_iload_n (pc := 19) d_FileReader_isRecordOf_19 1 rfl rfl ?_
    refine pb_bipush (pc := 20) (v := 6) d_FileReader_isRecordOf_20 (by decide) ?_
    refine pb_iadd (pc := 22) d_FileReader_isRecordOf_22 ?_
    refine pb_topi (fun i9 ei9 => ?_)
    try have ti9 : i9.toInt = x.toInt + 6 := t2_add ei9 rfl (by decide) (by omega)
    refine pb_aload_n (pc := 23) d_FileReader_isRecordOf_23 0 rfl rfl ?_
    refine pb_get (pc := 24) d_FileReader_isRecordOf_24 0 0 rfl rfl (by decide) in_FileReader k_306 rfl ?_
    refine pb_iload_n (pc := 27) d_FileReader_isRecordOf_27 2 rfl rfl ?_
    refine pb_iconst (pc := 28) (v := 4) d_FileReader_isRecordOf_28 (by decide) ?_
    refine pb_iadd (pc := 29) d_FileReader_isRecordOf_29 ?_
    refine pb_topi (fun i10 ei10 => ?_)
    try have ti10 : i10.toInt = y.toInt + 4 := t2_add ei10 rfl (by decide) (by omega)
    refine pb_bipush (pc := 30) (v := 26) d_FileReader_isRecordOf_30 (by decide) ?_
    refine pb_callSN (pc := 32) (I := i_FileReader_isRecordOf) (nA := 5) (rest := []) (wr := [(h, .inr (7, [.ref b]))]) d_FileReader_isRecordOf_32 (g_isSame1 hl G b N f i9 i10 26 (by first | assumption | omega (splitDisjunctions := false) | omega | decide) (by first | assumption | omega (splitDisjunctions := false) | omega | decide) (by first | assumption | omega (splitDisjunctions := false) | omega | decide) (by first | assumption | omega (splitDisjunctions := false) | omega | decide) (by first | assumption | omega (splitDisjunctions := false) | omega | decide) (by first | assumption | omega (splitDisjunctions := false) | omega | decide) F_f) [1] [0] (by decide) rfl rfl rfl (by decide) (by decide) k_465 rfl k_118 k_619 k_464 hy_Book_isSame (by decide) rfl rfl (Nat.le_of_ble_eq_true rfl) (by decide) (fun v9 u12 ch11 => ?_)
    obtain ⟨r_13, rfl⟩ : ∃ z9, z9 = u12 := ⟨_, rfl⟩
    obtain ⟨ech11, ch11⟩ := ch11
    have ech11 : v9 = some (.int r_13) := ech11
    subst ech11
    obtain ⟨fh14, fh15, fh16⟩ : (r_13.toInt = 0 ∨ r_13.toInt = 1) ∧ (r_13.toInt = 1 → ∀ j : Int, 0 ≤ j → j < (26 : Int32).toInt → gx f (i9.toInt + j) = gx f (i10.toInt + j)) ∧ (r_13.toInt = 0 → ¬ (∀ j : Int, 0 ≤ j → j < (26 : Int32).toInt → gx f (i9.toInt + j) = gx f (i10.toInt + j))) := ch11
    have s1 := fh15
    have n1 := fh16
    refine pb_eq (pc' := 35) (lo' := [(0, .ref h), (1, .int x), (2, .int y), (3, .int n)]) (rest' := [.int r_13]) (ws' := [(h, .inr (7, [.ref b])), (b, .inl (G.2.1, N, .inl f))]) ?_
    refine pb_if_eq (pc := 35) (tgt := 65) d_FileReader_isRecordOf_35 (by decide) (fun w17 => ?_) (fun w17 => ?_)
    · have tw17 : r_13.toInt = 0 := (ti_eq rfl (by decide)).mp w17
      refine pb_iconst (pc := 65) (v := 0) d_FileReader_isRecordOf_65 (by decide) ?_
      exact pb_iret (pc := 66) hQ d_FileReader_isRecordOf_66 rfl rfl (0) ⟨rfl, (by (try dsimp only); first | done | assumption | omega (splitDisjunctions := false) | (have y90 := fh16 tw17; have y91 := n1 tw17; clear fh15 fh16 s1 n1; first | omega (splitDisjunctions := false) | omega) | omega | decide), (show (0 : Int32).toInt = 1 → aw A y.toInt 4 = 67324752 ∧ (∀ k : Int, 0 ≤ k → k < 26 → A (x.toInt + 6 + k) = A (y.toInt + 4 + k)) ∧ ∀ k : Int, 0 ≤ k → k < n.toInt → A (x.toInt + 46 + k) = A (y.toInt + 30 + k) from (by first | exact fun q9 => absurd q9 (by decide) | exact fun _ => ⟨by omega, sm_A hA (s1 (by omega)) (by omega) (by omega) (by omega) (by omega) (by omega) (by omega) (by omega), sm_A hA (s2 (by omega)) (by omega) (by omega) (by omega) (by omega) (by omega) (by omega) (by omega)⟩)), (show (0 : Int32).toInt = 0 → ¬ (aw A y.toInt 4 = 67324752 ∧ (∀ k : Int, 0 ≤ k → k < 26 → A (x.toInt + 6 + k) = A (y.toInt + 4 + k)) ∧ ∀ k : Int, 0 ≤ k → k < n.toInt → A (x.toInt + 46 + k) = A (y.toInt + 30 + k)) from (by first | exact fun q9 => absurd q9 (by decide) | exact fun _ q9 => sm_N hA (n2 (by omega)) (by omega) (by omega) (by omega) (by omega) (by omega) (by omega) (by omega) q9.2.2 | exact fun _ q9 => sm_N hA (n1 (by omega)) (by omega) (by omega) (by omega) (by omega) (by omega) (by omega) (by omega) q9.2.1 | exact fun _ q9 => absurd q9.1 (by omega)))⟩ [0, 1] (by decide) rfl rfl (by decide) (by decide)
    · have tw17 : ¬ r_13.toInt = 0 := fun z9 => w17 ((ti_eq rfl (by decide)).mpr z9)
      refine pb_aload_n (pc := 38) d_FileReader_isRecordOf_38 0 rfl rfl ?_
      refine pb_get (pc := 39) d_FileReader_isRecordOf_39 0 0 rfl rfl (by decide) in_FileReader k_306 rfl ?_
      refine pb_iload_n (pc := 42) d_FileReader_isRecordOf_42 1 rfl rfl ?_
      refine pb_bipush (pc := 43) (v := 46) d_FileReader_isRecordOf_43 (by decide) ?_
      refine pb_iadd (pc := 45) d_FileReader_isRecordOf_45 ?_
      refine pb_topi (fun i18 ei18 => ?_)
      try have ti18 : i18.toInt = x.toInt + 46 := t2_add ei18 rfl (by decide) (by omega)
      refine pb_aload_n (pc := 46) d_FileReader_isRecordOf_46 0 rfl rfl ?_
      refine pb_get (pc := 47) d_FileReader_isRecordOf_47 0 0 rfl rfl (by decide) in_FileReader k_306 rfl ?_
      refine pb_iload_n (pc := 50) d_FileReader_isRecordOf_50 2 rfl rfl ?_
      refine pb_bipush (pc := 51) (v := 30) d_FileReader_isRecordOf_51 (by decide) ?_
      refine pb_iadd (pc := 53) d_FileReader_isRecordOf_53 ?_
      refine pb_topi (fun i19 ei19 => ?_)
      try have ti19 : i19.toInt = y.toInt + 30 := t2_add ei19 rfl (by decide) (by omega)
      refine pb_iload_n (pc := 54) d_FileReader_isRecordOf_54 3 rfl rfl ?_
      refine pb_callSN (pc := 55) (I := i_FileReader_isRecordOf) (nA := 5) (rest := []) (wr := [(h, .inr (7, [.ref b]))]) d_FileReader_isRecordOf_55 (g_isSame1 hl G b N f i18 i19 n (by first | assumption | omega (splitDisjunctions := false) | (clear fh15 fh16 s1 n1; first | omega (splitDisjunctions := false) | omega) | omega | decide) (by first | assumption | omega (splitDisjunctions := false) | (clear fh15 fh16 s1 n1; first | omega (splitDisjunctions := false) | omega) | omega | decide) (by first | assumption | omega (splitDisjunctions := false) | (clear fh15 fh16 s1 n1; first | omega (splitDisjunctions := false) | omega) | omega | decide) (by first | assumption | omega (splitDisjunctions := false) | (clear fh15 fh16 s1 n1; first | omega (splitDisjunctions := false) | omega) | omega | decide) (by first | assumption | omega (splitDisjunctions := false) | (clear fh15 fh16 s1 n1; first | omega (splitDisjunctions := false) | omega) | omega | decide) (by first | assumption | omega (splitDisjunctions := false) | (clear fh15 fh16 s1 n1; first | omega (splitDisjunctions := false) | omega) | omega | decide) F_f) [1] [0] (by decide) rfl rfl rfl (by decide) (by decide) k_465 rfl k_118 k_619 k_464 hy_Book_isSame (by decide) rfl rfl (Nat.le_of_ble_eq_true rfl) (by decide) (fun v9 u21 ch20 => ?_)
      obtain ⟨r_22, rfl⟩ : ∃ z9, z9 = u21 := ⟨_, rfl⟩
      obtain ⟨ech20, ch20⟩ := ch20
      have ech20 : v9 = some (.int r_22) := ech20
      subst ech20
      obtain ⟨fh23, fh24, fh25⟩ : (r_22.toInt = 0 ∨ r_22.toInt = 1) ∧ (r_22.toInt = 1 → ∀ j : Int, 0 ≤ j → j < n.toInt → gx f (i18.toInt + j) = gx f (i19.toInt + j)) ∧ (r_22.toInt = 0 → ¬ (∀ j : Int, 0 ≤ j → j < n.toInt → gx f (i18.toInt + j) = gx f (i19.toInt + j))) := ch20
      have s2 := fh24
      have n2 := fh25
      refine pb_eq (pc' := 58) (lo' := [(0, .ref h), (1, .int x), (2, .int y), (3, .int n)]) (rest' := [.int r_22]) (ws' := [(h, .inr (7, [.ref b])), (b, .inl (G.2.1, N, .inl f))]) ?_
      refine pb_if_eq (pc := 58) (tgt := 65) d_FileReader_isRecordOf_58 (by decide) (fun w26 => ?_) (fun w26 => ?_)
      · have tw26 : r_22.toInt = 0 := (ti_eq rfl (by decide)).mp w26
        refine pb_iconst (pc := 65) (v := 0) d_FileReader_isRecordOf_65 (by decide) ?_
        exact pb_iret (pc := 66) hQ d_FileReader_isRecordOf_66 rfl rfl (0) ⟨rfl, (by (try dsimp only); first | done | assumption | omega (splitDisjunctions := false) | (have y90 := fh25 tw26; have y91 := n2 tw26; clear fh15 fh16 s1 n1 fh24 fh25 s2 n2; first | omega (splitDisjunctions := false) | omega) | omega | decide), (show (0 : Int32).toInt = 1 → aw A y.toInt 4 = 67324752 ∧ (∀ k : Int, 0 ≤ k → k < 26 → A (x.toInt + 6 + k) = A (y.toInt + 4 + k)) ∧ ∀ k : Int, 0 ≤ k → k < n.toInt → A (x.toInt + 46 + k) = A (y.toInt + 30 + k) from (by first | exact fun q9 => absurd q9 (by decide) | exact fun _ => ⟨by omega, sm_A hA (s1 (by omega)) (by omega) (by omega) (by omega) (by omega) (by omega) (by omega) (by omega), sm_A hA (s2 (by omega)) (by omega) (by omega) (by omega) (by omega) (by omega) (by omega) (by omega)⟩)), (show (0 : Int32).toInt = 0 → ¬ (aw A y.toInt 4 = 67324752 ∧ (∀ k : Int, 0 ≤ k → k < 26 → A (x.toInt + 6 + k) = A (y.toInt + 4 + k)) ∧ ∀ k : Int, 0 ≤ k → k < n.toInt → A (x.toInt + 46 + k) = A (y.toInt + 30 + k)) from (by first | exact fun q9 => absurd q9 (by decide) | exact fun _ q9 => sm_N hA (n2 (by omega)) (by omega) (by omega) (by omega) (by omega) (by omega) (by omega) (by omega) q9.2.2 | exact fun _ q9 => sm_N hA (n1 (by omega)) (by omega) (by omega) (by omega) (by omega) (by omega) (by omega) (by omega) q9.2.1 | exact fun _ q9 => absurd q9.1 (by omega)))⟩ [0, 1] (by decide) rfl rfl (by decide) (by decide)
      · have tw26 : ¬ r_22.toInt = 0 := fun z9 => w26 ((ti_eq rfl (by decide)).mpr z9)
        refine pb_iconst (pc := 61) (v := 1) d_FileReader_isRecordOf_61 (by decide) ?_
        refine pb_goto (pc := 62) (tgt := 66) d_FileReader_isRecordOf_62 (by decide) ?_
        exact pb_iret (pc := 66) hQ d_FileReader_isRecordOf_66 rfl rfl (1) ⟨rfl, (by (try dsimp only); first | done | assumption | omega (splitDisjunctions := false) | (clear fh15 fh16 s1 n1 fh24 fh25 s2 n2; first | omega (splitDisjunctions := false) | omega) | omega | decide), (show (1 : Int32).toInt = 1 → aw A y.toInt 4 = 67324752 ∧ (∀ k : Int, 0 ≤ k → k < 26 → A (x.toInt + 6 + k) = A (y.toInt + 4 + k)) ∧ ∀ k : Int, 0 ≤ k → k < n.toInt → A (x.toInt + 46 + k) = A (y.toInt + 30 + k) from (by first | exact fun q9 => absurd q9 (by decide) | exact fun _ => ⟨by omega, sm_A hA (s1 (by omega)) (by omega) (by omega) (by omega) (by omega) (by omega) (by omega) (by omega), sm_A hA (s2 (by omega)) (by omega) (by omega) (by omega) (by omega) (by omega) (by omega) (by omega)⟩)), (show (1 : Int32).toInt = 0 → ¬ (aw A y.toInt 4 = 67324752 ∧ (∀ k : Int, 0 ≤ k → k < 26 → A (x.toInt + 6 + k) = A (y.toInt + 4 + k)) ∧ ∀ k : Int, 0 ≤ k → k < n.toInt → A (x.toInt + 46 + k) = A (y.toInt + 30 + k)) from (by first | exact fun q9 => absurd q9 (by decide) | exact fun _ q9 => sm_N hA (n2 (by omega)) (by omega) (by omega) (by omega) (by omega) (by omega) (by omega) (by omega) q9.2.2 | exact fun _ q9 => sm_N hA (n1 (by omega)) (by omega) (by omega) (by omega) (by omega) (by omega) (by omega) (by omega) q9.2.1 | exact fun _ q9 => absurd q9.1 (by omega)))⟩ [0, 1] (by decide) rfl rfl (by decide) (by decide)

theorem d_FileReader_isDirectory_0 : decode prog_5_method_4_code 0 = .ok (.iload_n 1, 1) := by decide +kernel
theorem d_FileReader_isDirectory_1 : decode prog_5_method_4_code 1 = .ok (.istore 4, 2) := by decide +kernel
theorem d_FileReader_isDirectory_3 : decode prog_5_method_4_code 3 = .ok (.iconst 0, 1) := by decide +kernel
theorem d_FileReader_isDirectory_4 : decode prog_5_method_4_code 4 = .ok (.istore 5, 2) := by decide +kernel
theorem d_FileReader_isDirectory_6 : decode prog_5_method_4_code 6 = .ok (.iload 5, 2) := by decide +kernel
theorem d_FileReader_isDirectory_8 : decode prog_5_method_4_code 8 = .ok (.iload_n 3, 1) := by decide +kernel
theorem d_FileReader_isDirectory_9 : decode prog_5_method_4_code 9 = .ok (.if_icmp .ge 49, 3) := by decide +kernel
theorem d_FileReader_isDirectory_58 : decode prog_5_method_4_code 58 = .ok (.iload 4, 2) := by decide +kernel
theorem d_FileReader_isDirectory_60 : decode prog_5_method_4_code 60 = .ok (.iload_n 2, 1) := by decide +kernel
theorem d_FileReader_isDirectory_61 : decode prog_5_method_4_code 61 = .ok (.if_icmp .ne 7, 3) := by decide +kernel
theorem d_FileReader_isDirectory_68 : decode prog_5_method_4_code 68 = .ok (.iconst 0, 1) := by decide +kernel
theorem d_FileReader_isDirectory_69 : decode prog_5_method_4_code 69 = .ok (.ireturn, 1) := by decide +kernel
theorem d_FileReader_isDirectory_64 : decode prog_5_method_4_code 64 = .ok (.iconst 1, 1) := by decide +kernel
theorem d_FileReader_isDirectory_65 : decode prog_5_method_4_code 65 = .ok (.goto 4, 3) := by decide +kernel
theorem d_FileReader_isDirectory_12 : decode prog_5_method_4_code 12 = .ok (.iload_n 2, 1) := by decide +kernel
theorem d_FileReader_isDirectory_13 : decode prog_5_method_4_code 13 = .ok (.iload 4, 2) := by decide +kernel
theorem d_FileReader_isDirectory_15 : decode prog_5_method_4_code 15 = .ok (.isub, 1) := by decide +kernel
theorem d_FileReader_isDirectory_16 : decode prog_5_method_4_code 16 = .ok (.bipush 46, 2) := by decide +kernel
theorem d_FileReader_isDirectory_18 : decode prog_5_method_4_code 18 = .ok (.if_icmp .lt 12, 3) := by decide +kernel
theorem d_FileReader_isDirectory_30 : decode prog_5_method_4_code 30 = .ok (.iconst 0, 1) := by decide +kernel
theorem d_FileReader_isDirectory_31 : decode prog_5_method_4_code 31 = .ok (.ireturn, 1) := by decide +kernel
theorem d_FileReader_isDirectory_21 : decode prog_5_method_4_code 21 = .ok (.aload_n 0, 1) := by decide +kernel
theorem d_FileReader_isDirectory_22 : decode prog_5_method_4_code 22 = .ok (.iload 4, 2) := by decide +kernel
theorem d_FileReader_isDirectory_24 : decode prog_5_method_4_code 24 = .ok (.invokevirtual 42, 3) := by decide +kernel
theorem k_604 : (Jvm.Cond.methodLink "PackageBook$FileReader" (42 : Nat) ({ cls := "PackageBook$FileReader", name := "isEntry", desc := "(I)Z" } : Jvm.MethodName)) ∈ uW := uW_of 604 (by decide +kernel) (by decide +kernel)
theorem k_607 : (Jvm.Cond.code ({ cls := "PackageBook$FileReader", name := "isEntry", desc := "(I)Z" } : Jvm.MethodName) prog_5_method_5_code (3 : Nat) (Option.some Jvm.ClassFile.FieldType.boolean)) ∈ uW := uW_of 607 (by decide +kernel) (by decide +kernel)
theorem k_606 : (Jvm.Cond.instanceMethod ({ cls := "PackageBook$FileReader", name := "isEntry", desc := "(I)Z" } : Jvm.MethodName)) ∈ uW := uW_of 606 (by decide +kernel) (by decide +kernel)
theorem k_14 : Cond.selects "PackageBook$FileReader" ⟨"PackageBook$FileReader", "isEntry", "(I)Z"⟩ ⟨"PackageBook$FileReader", "isEntry", "(I)Z"⟩ ∈ uW := uW_of 14 (by decide +kernel) (by decide +kernel)
theorem hy_FileReader_isEntry : (y_FileReader_isEntry).cls ≠ "java/lang/invoke/MethodHandle" ∧ (y_FileReader_isEntry).cls ≠ "java/lang/invoke/VarHandle" ∧ (parseMethodDescriptor (y_FileReader_isEntry).desc).map (fun d => d.parameters.length) = some 1 := by decide +kernel
theorem d_FileReader_isDirectory_27 : decode prog_5_method_4_code 27 = .ok (.ifCond .ne 5, 3) := by decide +kernel
theorem d_FileReader_isDirectory_32 : decode prog_5_method_4_code 32 = .ok (.iload 4, 2) := by decide +kernel
theorem d_FileReader_isDirectory_34 : decode prog_5_method_4_code 34 = .ok (.bipush 46, 2) := by decide +kernel
theorem d_FileReader_isDirectory_36 : decode prog_5_method_4_code 36 = .ok (.aload_n 0, 1) := by decide +kernel
theorem d_FileReader_isDirectory_37 : decode prog_5_method_4_code 37 = .ok (.getfield 9, 3) := by decide +kernel
theorem d_FileReader_isDirectory_40 : decode prog_5_method_4_code 40 = .ok (.iload 4, 2) := by decide +kernel
theorem d_FileReader_isDirectory_42 : decode prog_5_method_4_code 42 = .ok (.bipush 28, 2) := by decide +kernel
theorem d_FileReader_isDirectory_44 : decode prog_5_method_4_code 44 = .ok (.iadd, 1) := by decide +kernel
theorem d_FileReader_isDirectory_45 : decode prog_5_method_4_code 45 = .ok (.invokestatic 24, 3) := by decide +kernel
theorem d_FileReader_isDirectory_48 : decode prog_5_method_4_code 48 = .ok (.iadd, 1) := by decide +kernel
theorem d_FileReader_isDirectory_49 : decode prog_5_method_4_code 49 = .ok (.iadd, 1) := by decide +kernel
theorem d_FileReader_isDirectory_50 : decode prog_5_method_4_code 50 = .ok (.istore 4, 2) := by decide +kernel
theorem d_FileReader_isDirectory_52 : decode prog_5_method_4_code 52 = .ok (.iinc 5 1, 3) := by decide +kernel
theorem d_FileReader_isDirectory_55 : decode prog_5_method_4_code 55 = .ok (.goto (-49), 3) := by decide +kernel
abbrev y_FileReader_isDirectory : MethodName := ⟨"PackageBook$FileReader", "isDirectory", "(III)Z"⟩
abbrev i_FileReader_isDirectory : pb_I := (y_FileReader_isDirectory, prog_5_method_4_code, 6, (some Jvm.ClassFile.FieldType.boolean), [], { frames := 3, cells := 0, slots := 0, locals := 64 })
set_option maxRecDepth 100000 in
set_option maxHeartbeats 4000000 in
theorem g_Rd_isDirectory {l : Launch} (hl : l.stackTraces = false) (G : pb_G) (h : Nat) (b : Nat) (N : Nat) (f : Nat → Int32) (x : Int32) (e : Int32) (n : Int32) (D : Int) (A : Int → Int32) (Zs : Int) (hD : x.toInt = D) (h0 : 0 ≤ x.toInt) (h1 : e.toInt ≤ N) (h2 : 0 ≤ n.toInt) (h3 : x.toInt ≤ e.toInt) (hN : N ≤ 100000) (hA : ∀ j : Int, 0 ≤ j → j < Zs → A j = gr f j) (hZ : e.toInt ≤ Zs) (F_f : sb_Fit f) : Cn l G i_FileReader_isDirectory [.ref h, .int x, .int e, .int n] [(h, .inr (7, [.ref b])), (b, .inl (G.2.1, N, .inl f))] (S := Int32) (fun rv_ u => rv_ = some (.int u) ∧ (u.toInt = 0 ∨ u.toInt = 1) ∧ (u.toInt = 1 → dp f D n.toInt = e.toInt ∧ ∀ j : Int, 0 ≤ j → j < n.toInt → dp f D j + 46 ≤ e.toInt) ∧ (u.toInt = 1 → dy_ A D e.toInt n.toInt.toNat) ∧ (u.toInt = 0 → ¬ dy_ A D e.toInt n.toInt.toNat)) (fun u => [(h, .inr (7, [.ref b])), (b, .inl (G.2.1, N, .inl f))]) := by
  refine Cn.of hl (by decide +kernel) rfl (Nat.le_of_ble_eq_true rfl) (fun M hQ => ?_)
  refine pb_eq (pc' := 0) (lo' := [(0, .ref h), (1, .int x), (2, .int e), (3, .int n)]) (rest' := []) (ws' := [(h, .inr (7, [.ref b])), (b, .inl (G.2.1, N, .inl f))]) ?_
  have zl0 : (0 : Int32).toInt = 0 := by decide
  have zl1 : (1 : Int32).toInt = 1 := by decide
  have zl46 : (46 : Int32).toInt = 46 := by decide
  have rn := ti_rng n
  refine pb_iload_n (pc := 0) d_FileReader_isDirectory_0 1 rfl rfl ?_
  refine pb_istore (pc := 1) (lo' := [(4, .int x), (0, .ref h), (1, .int x), (2, .int e), (3, .int n)]) d_FileReader_isDirectory_1 (by decide) rfl ?_
  refine pb_iconst (pc := 3) (v := 0) d_FileReader_isDirectory_3 (by decide) ?_
  refine pb_istore (pc := 4) (lo' := [(5, .int 0), (4, .int x), (0, .ref h), (1, .int x), (2, .int e), (3, .int n)]) d_FileReader_isDirectory_4 (by decide) rfl ?_
  have hL6_1 : ∀ (N9 : Nat) (k : Int32) (a : Int32), (0 ≤ k.toInt) → (k.toInt ≤ n.toInt) → (a.toInt = dp f D k.toInt) → (D ≤ a.toInt) → (a.toInt ≤ e.toInt + 65600) → (∀ j : Int, 0 ≤ j → j < k.toInt → dp f D j + 46 ≤ e.toInt) → (a.toInt = dz A D k.toInt.toNat) → (∀ j : Nat, j < k.toInt.toNat → dz A D j + 46 ≤ e.toInt ∧ ey_ A (dz A D j)) → ((n.toInt - k.toInt).toNat) < N9 → pb_P l G M i_FileReader_isDirectory 6 [(5, .int k), (4, .int a), (0, .ref h), (1, .int x), (2, .int e), (3, .int n)] [] [(h, .inr (7, [.ref b])), (b, .inl (G.2.1, N, .inl f))] 0 0 := by
    intro N9
    induction N9 with
    | zero => intro k a hk hk2 ha ha1 ha2 hj hz hy hm9; exact absurd hm9 (Nat.not_lt_zero _)
    | succ N9 ih6 =>
      intro k a hk hk2 ha ha1 ha2 hj hz hy hm9
      refine pb_iload (pc := 6) d_FileReader_isDirectory_6 0 rfl ?_
      refine pb_iload_n (pc := 8) d_FileReader_isDirectory_8 5 rfl rfl ?_
      refine pb_icmp_ge (pc := 9) (tgt := 58) d_FileReader_isDirectory_9 (by decide) (fun w2 => ?_) (fun w2 => ?_)
      · have tw2 : n.toInt ≤ k.toInt := (ti_le rfl rfl).mp w2
        refine pb_iload (pc := 58) d_FileReader_isDirectory_58 1 rfl ?_
        refine pb_iload_n (pc := 60) d_FileReader_isDirectory_60 4 rfl rfl ?_
        refine pb_icmp_ne (pc := 61) (tgt := 68) d_FileReader_isDirectory_61 (by decide) (fun w3 => ?_) (fun w3 => ?_)
        · have tw3 : ¬ a.toInt = e.toInt := fun z9 => w3 ((ti_eq rfl rfl).mpr z9)
          refine pb_iconst (pc := 68) (v := 0) d_FileReader_isDirectory_68 (by decide) ?_
          exact pb_iret (pc := 69) hQ d_FileReader_isDirectory_69 rfl rfl (0) ⟨rfl, (by (try dsimp only); first | done | assumption | omega (splitDisjunctions := false) | omega | decide), (show (0 : Int32).toInt = 1 → dp f D n.toInt = e.toInt ∧ ∀ j : Int, 0 ≤ j → j < n.toInt → dp f D j + 46 ≤ e.toInt from (by first | exact fun h9 => absurd h9 (by omega) | exact fun _ => by have hkn : k.toInt = n.toInt := (by omega); rw [hkn] at ha hj; exact ⟨by omega, hj⟩)), (show (0 : Int32).toInt = 1 → dy_ A D e.toInt n.toInt.toNat from (by first | exact fun h9 => absurd h9 (by decide) | exact fun _ => ⟨fun j h9 => hy j (by omega), by rw [show n.toInt.toNat = k.toInt.toNat by omega, ← hz]; omega⟩)), (show (0 : Int32).toInt = 0 → ¬ dy_ A D e.toInt n.toInt.toNat from (by first | exact fun h9 => absurd h9 (by decide) | exact fun _ q9 => (by have q8 := q9.2; rw [show n.toInt.toNat = k.toInt.toNat by omega, ← hz] at q8; omega)))⟩ [0, 1] (by decide) rfl rfl (by decide) (by decide)
        · have tw3 : a.toInt = e.toInt := (ti_eq rfl rfl).mp w3
          refine pb_iconst (pc := 64) (v := 1) d_FileReader_isDirectory_64 (by decide) ?_
          refine pb_goto (pc := 65) (tgt := 69) d_FileReader_isDirectory_65 (by decide) ?_
          exact pb_iret (pc := 69) hQ d_FileReader_isDirectory_69 rfl rfl (1) ⟨rfl, (by (try dsimp only); first | done | assumption | omega (splitDisjunctions := false) | omega | decide), (show (1 : Int32).toInt = 1 → dp f D n.toInt = e.toInt ∧ ∀ j : Int, 0 ≤ j → j < n.toInt → dp f D j + 46 ≤ e.toInt from (by first | exact fun h9 => absurd h9 (by omega) | exact fun _ => by have hkn : k.toInt = n.toInt := (by omega); rw [hkn] at ha hj; exact ⟨by omega, hj⟩)), (show (1 : Int32).toInt = 1 → dy_ A D e.toInt n.toInt.toNat from (by first | exact fun h9 => absurd h9 (by decide) | exact fun _ => ⟨fun j h9 => hy j (by omega), by rw [show n.toInt.toNat = k.toInt.toNat by omega, ← hz]; omega⟩)), (show (1 : Int32).toInt = 0 → ¬ dy_ A D e.toInt n.toInt.toNat from (by first | exact fun h9 => absurd h9 (by decide) | exact fun _ q9 => (by have q8 := q9.2; rw [show n.toInt.toNat = k.toInt.toNat by omega, ← hz] at q8; omega)))⟩ [0, 1] (by decide) rfl rfl (by decide) (by decide)
      · have tw2 : ¬ n.toInt ≤ k.toInt := fun z9 => w2 ((ti_le rfl rfl).mpr z9)
        refine pb_iload_n (pc := 12) d_FileReader_isDirectory_12 4 rfl rfl ?_
        refine pb_iload (pc := 13) d_FileReader_isDirectory_13 1 rfl ?_
        refine pb_isub (pc := 15) d_FileReader_isDirectory_15 ?_
        refine pb_topi (fun i4 ei4 => ?_)
        try have ti4 : i4.toInt = e.toInt - a.toInt := t2_sub ei4 rfl rfl (by omega)
        refine pb_bipush (pc := 16) (v := 46) d_FileReader_isDirectory_16 (by decide) ?_
        refine pb_icmp_lt (pc := 18) (tgt := 30) d_FileReader_isDirectory_18 (by decide) (fun w5 => ?_) (fun w5 => ?_)
        · have tw5 : i4.toInt < 46 := (ti_lt rfl (by decide)).mp w5
          refine pb_iconst (pc := 30) (v := 0) d_FileReader_isDirectory_30 (by decide) ?_
          exact pb_iret (pc := 31) hQ d_FileReader_isDirectory_31 rfl rfl (0) ⟨rfl, (by (try dsimp only); first | done | assumption | omega (splitDisjunctions := false) | omega | decide), (show (0 : Int32).toInt = 1 → dp f D n.toInt = e.toInt ∧ ∀ j : Int, 0 ≤ j → j < n.toInt → dp f D j + 46 ≤ e.toInt from (fun h9 => absurd h9 (by omega))), (show (0 : Int32).toInt = 1 → dy_ A D e.toInt n.toInt.toNat from (fun h9 => absurd h9 (by omega))), (show (0 : Int32).toInt = 0 → ¬ dy_ A D e.toInt n.toInt.toNat from (fun _ => dy_no (k := k.toInt.toNat) (by omega) (by rw [← hz]; first | exact fun q9 => yF0 (by omega) q9.2 | exact fun q9 => absurd q9.1 (by omega))))⟩ [0, 1] (by decide) rfl rfl (by decide) (by decide)
        · have tw5 : ¬ i4.toInt < 46 := fun z9 => w5 ((ti_lt rfl (by decide)).mpr z9)
          refine pb_aload_n (pc := 21) d_FileReader_isDirectory_21 2 rfl rfl ?_
          refine pb_iload (pc := 22) d_FileReader_isDirectory_22 1 rfl ?_
          refine pb_callV (pc := 24) (I := i_FileReader_isDirectory) (qb := 0) (ci := 7) (nA := 1) (rest := []) (wr := []) d_FileReader_isDirectory_24 (g_Rd_isEntry hl G h b N f a A Zs (by first | assumption | omega (splitDisjunctions := false) | omega | decide) (by first | assumption | omega (splitDisjunctions := false) | omega | decide) (by first | assumption | omega (splitDisjunctions := false) | omega | decide) (by first | assumption | decide | omega) (by first | assumption | omega (splitDisjunctions := false) | omega | decide) F_f) rfl rfl [0, 1] [] (by decide) rfl rfl rfl (by decide) (by decide) k_607 rfl k_124 k_604 k_606 k_14 ⟨rfl, hy_FileReader_isEntry⟩ (by decide) rfl rfl (Nat.le_of_ble_eq_true rfl) (by decide) (fun v9 u7 ch6 => ?_)
          obtain ⟨r_8, rfl⟩ : ∃ z9, z9 = u7 := ⟨_, rfl⟩
          obtain ⟨ech6, ch6⟩ := ch6
          have ech6 : v9 = some (.int r_8) := ech6
          subst ech6
          obtain ⟨fh9, fh10, fh11⟩ : (r_8.toInt = 0 ∨ r_8.toInt = 1) ∧ (r_8.toInt = 1 → ey_ A a.toInt) ∧ (r_8.toInt = 0 → ¬ ey_ A a.toInt) := ch6
          have yF1 := fh10
          have yF0 := fh11
          refine pb_eq (pc' := 27) (lo' := [(5, .int k), (4, .int a), (0, .ref h), (1, .int x), (2, .int e), (3, .int n)]) (rest' := [.int r_8]) (ws' := [(h, .inr (7, [.ref b])), (b, .inl (G.2.1, N, .inl f))]) ?_
          refine pb_if_ne (pc := 27) (tgt := 32) d_FileReader_isDirectory_27 (by decide) (fun w12 => ?_) (fun w12 => ?_)
          · have tw12 : ¬ r_8.toInt = 0 := fun z9 => w12 ((ti_eq rfl (by decide)).mpr z9)
            refine pb_iload (pc := 32) d_FileReader_isDirectory_32 1 rfl ?_
            refine pb_bipush (pc := 34) (v := 46) d_FileReader_isDirectory_34 (by decide) ?_
            refine pb_aload_n (pc := 36) d_FileReader_isDirectory_36 2 rfl rfl ?_
            refine pb_get (pc := 37) d_FileReader_isDirectory_37 0 0 rfl rfl (by decide) in_FileReader k_306 rfl ?_
            refine pb_iload (pc := 40) d_FileReader_isDirectory_40 1 rfl ?_
            refine pb_bipush (pc := 42) (v := 28) d_FileReader_isDirectory_42 (by decide) ?_
            refine pb_iadd (pc := 44) d_FileReader_isDirectory_44 ?_
            refine pb_topi (fun i13 ei13 => ?_)
            try have ti13 : i13.toInt = a.toInt + 28 := t2_add ei13 rfl (by decide) (by omega)
            refine pb_callSN (pc := 45) (I := i_FileReader_isDirectory) (nA := 2) (rest := [.int 46, .int a]) (wr := [(h, .inr (7, [.ref b]))]) d_FileReader_isDirectory_45 (g_twoAt hl G b N f i13 (by first | assumption | omega (splitDisjunctions := false) | (clear fh10 fh11 yF1 yF0 hm9; first | omega (splitDisjunctions := false) | omega) | omega | decide) (by first | assumption | omega (splitDisjunctions := false) | (clear fh10 fh11 yF1 yF0 hm9; first | omega (splitDisjunctions := false) | omega) | omega | decide) (by first | assumption | omega (splitDisjunctions := false) | (clear fh10 fh11 yF1 yF0 hm9; first | omega (splitDisjunctions := false) | omega) | omega | decide) F_f) [1] [0] (by decide) rfl rfl rfl (by decide) (by decide) k_597 rfl k_118 k_599 k_596 hy_Book_twoAt (by decide) rfl rfl (Nat.le_of_ble_eq_true rfl) (by decide) (fun v9 u15 ch14 => ?_)
            obtain ⟨r_16, rfl⟩ : ∃ z9, z9 = u15 := ⟨_, rfl⟩
            obtain ⟨ech14, ch14⟩ := ch14
            have ech14 : v9 = some (.int r_16) := ech14
            subst ech14
            obtain ⟨fh17, fh18, fh19, fh20⟩ : (0 ≤ r_16.toInt) ∧ (r_16.toInt ≤ 65535) ∧ (r_16.toInt = tw f i13.toInt) ∧ (r_16.toInt = av f i13.toInt 2) := ch14
            have d1 := dp_s (f := f) (a := D) (k := k.toInt) (m := k.toInt + 1) hk rfl
            rw [← ha] at d1
            rw [show i13.toInt = a.toInt + 28 by omega] at fh19
            have u28 : r_16.toInt = aw A (a.toInt + 28) 2 := by rw [fh20, show i13.toInt = a.toInt + 28 by omega]; exact av_A hA 2 (by omega) (by omega)
            refine pb_eq (pc' := 48) (lo' := [(5, .int k), (4, .int a), (0, .ref h), (1, .int x), (2, .int e), (3, .int n)]) (rest' := [.int r_16, .int 46, .int a]) (ws' := [(h, .inr (7, [.ref b])), (b, .inl (G.2.1, N, .inl f))]) ?_
            have d3 := tw_rng f (a.toInt + 28)
            refine pb_iadd (pc := 48) d_FileReader_isDirectory_48 ?_
            refine pb_topi (fun i21 ei21 => ?_)
            try have ti21 : i21.toInt = 46 + r_16.toInt := t2_add ei21 (by decide) rfl (by omega)
            refine pb_iadd (pc := 49) d_FileReader_isDirectory_49 ?_
            refine pb_topi (fun i22 ei22 => ?_)
            try have ti22 : i22.toInt = a.toInt + i21.toInt := t2_add ei22 rfl rfl (by omega)
            refine pb_istore (pc := 50) (lo' := [(4, .int i22), (5, .int k), (0, .ref h), (1, .int x), (2, .int e), (3, .int n)]) d_FileReader_isDirectory_50 (by decide) rfl ?_
            refine pb_iincN (pc := 52) (c := 1) d_FileReader_isDirectory_52 1 rfl (by decide) (by decide) (fun i23 ei23 => ?_)
            have ti23 : i23.toInt = k.toInt + 1 := t2_add ei23 rfl (by decide) (by omega)
            refine pb_eq (pc' := 55) (lo' := [(5, .int i23), (4, .int i22), (0, .ref h), (1, .int x), (2, .int e), (3, .int n)]) (rest' := []) (ws' := [(h, .inr (7, [.ref b])), (b, .inl (G.2.1, N, .inl f))]) ?_
            refine pb_goto (pc := 55) (tgt := 6) d_FileReader_isDirectory_55 (by decide) ?_
            exact ih6 i23 i22 (by first | assumption | omega (splitDisjunctions := false) | (clear fh10 fh11 yF1 yF0 hm9; first | omega (splitDisjunctions := false) | omega) | omega | decide) (by first | assumption | omega (splitDisjunctions := false) | (clear fh10 fh11 yF1 yF0 hm9; first | omega (splitDisjunctions := false) | omega) | omega | decide) (by rw [show i23.toInt = k.toInt + 1 by omega, d1]; omega) (by first | assumption | omega (splitDisjunctions := false) | (clear fh10 fh11 yF1 yF0 hm9; first | omega (splitDisjunctions := false) | omega) | omega | decide) (by first | assumption | omega (splitDisjunctions := false) | (clear fh10 fh11 yF1 yF0 hm9; first | omega (splitDisjunctions := false) | omega) | omega | decide) (fun j h0 h1 => if w : j < k.toInt then hj j h0 w else by rw [show j = k.toInt by omega, ← ha]; omega) (by rw [show i23.toInt.toNat = k.toInt.toNat + 1 by omega]; show _ = dz A D k.toInt.toNat + 46 + aw A (dz A D k.toInt.toNat + 28) 2; rw [← hz]; omega) (by rw [show i23.toInt.toNat = k.toInt.toNat + 1 by omega]; exact dy_s hy (by rw [← hz]; exact ⟨by omega, yF1 (by omega)⟩)) (by first | (clear fh10 fh11 yF1 yF0; omega) | omega)
          · have tw12 : r_8.toInt = 0 := (ti_eq rfl (by decide)).mp w12
            refine pb_iconst (pc := 30) (v := 0) d_FileReader_isDirectory_30 (by decide) ?_
            exact pb_iret (pc := 31) hQ d_FileReader_isDirectory_31 rfl rfl (0) ⟨rfl, (by (try dsimp only); first | done | assumption | omega (splitDisjunctions := false) | (have y90 := fh11 tw12; have y91 := yF0 tw12; clear fh10 fh11 yF1 yF0 hm9; first | omega (splitDisjunctions := false) | omega) | omega | decide), (show (0 : Int32).toInt = 1 → dp f D n.toInt = e.toInt ∧ ∀ j : Int, 0 ≤ j → j < n.toInt → dp f D j + 46 ≤ e.toInt from (fun h9 => absurd h9 (by omega))), (show (0 : Int32).toInt = 1 → dy_ A D e.toInt n.toInt.toNat from (fun h9 => absurd h9 (by omega))), (show (0 : Int32).toInt = 0 → ¬ dy_ A D e.toInt n.toInt.toNat from (fun _ => dy_no (k := k.toInt.toNat) (by omega) (by rw [← hz]; first | exact fun q9 => yF0 (by omega) q9.2 | exact fun q9 => absurd q9.1 (by omega))))⟩ [0, 1] (by decide) rfl rfl (by decide) (by decide)
  exact hL6_1 _ 0 x (by first | assumption | omega (splitDisjunctions := false) | omega | decide) (by first | assumption | omega (splitDisjunctions := false) | omega | decide) (by rw [zl0, dp_0]; omega) (by first | assumption | omega (splitDisjunctions := false) | omega | decide) (by first | assumption | omega (splitDisjunctions := false) | omega | decide) (fun j h0 h1 => absurd h1 (by omega)) (by rw [show (0 : Int32).toInt.toNat = 0 by omega]; exact hD) (fun j h9 => absurd h9 (by omega)) (Nat.lt_succ_self _)

theorem d_FileReader_readEntry_0 : decode prog_5_method_6_code 0 = .ok (.aload_n 0, 1) := by decide +kernel
theorem d_FileReader_readEntry_1 : decode prog_5_method_6_code 1 = .ok (.getfield 9, 3) := by decide +kernel
theorem d_FileReader_readEntry_4 : decode prog_5_method_6_code 4 = .ok (.iload_n 1, 1) := by decide +kernel
theorem d_FileReader_readEntry_5 : decode prog_5_method_6_code 5 = .ok (.bipush 42, 2) := by decide +kernel
theorem d_FileReader_readEntry_7 : decode prog_5_method_6_code 7 = .ok (.iadd, 1) := by decide +kernel
theorem d_FileReader_readEntry_8 : decode prog_5_method_6_code 8 = .ok (.invokestatic 28, 3) := by decide +kernel
theorem d_FileReader_readEntry_11 : decode prog_5_method_6_code 11 = .ok (.lstore 6, 2) := by decide +kernel
theorem d_FileReader_readEntry_13 : decode prog_5_method_6_code 13 = .ok (.aload_n 0, 1) := by decide +kernel
theorem d_FileReader_readEntry_14 : decode prog_5_method_6_code 14 = .ok (.getfield 9, 3) := by decide +kernel
theorem d_FileReader_readEntry_17 : decode prog_5_method_6_code 17 = .ok (.iload_n 1, 1) := by decide +kernel
theorem d_FileReader_readEntry_18 : decode prog_5_method_6_code 18 = .ok (.bipush 20, 2) := by decide +kernel
theorem d_FileReader_readEntry_20 : decode prog_5_method_6_code 20 = .ok (.iadd, 1) := by decide +kernel
theorem d_FileReader_readEntry_21 : decode prog_5_method_6_code 21 = .ok (.invokestatic 28, 3) := by decide +kernel
theorem d_FileReader_readEntry_24 : decode prog_5_method_6_code 24 = .ok (.lstore 8, 2) := by decide +kernel
theorem d_FileReader_readEntry_26 : decode prog_5_method_6_code 26 = .ok (.aload_n 0, 1) := by decide +kernel
theorem d_FileReader_readEntry_27 : decode prog_5_method_6_code 27 = .ok (.getfield 9, 3) := by decide +kernel
theorem d_FileReader_readEntry_30 : decode prog_5_method_6_code 30 = .ok (.iload_n 1, 1) := by decide +kernel
theorem d_FileReader_readEntry_31 : decode prog_5_method_6_code 31 = .ok (.bipush 28, 2) := by decide +kernel
theorem d_FileReader_readEntry_33 : decode prog_5_method_6_code 33 = .ok (.iadd, 1) := by decide +kernel
theorem d_FileReader_readEntry_34 : decode prog_5_method_6_code 34 = .ok (.invokestatic 24, 3) := by decide +kernel
theorem d_FileReader_readEntry_37 : decode prog_5_method_6_code 37 = .ok (.istore 10, 2) := by decide +kernel
theorem d_FileReader_readEntry_39 : decode prog_5_method_6_code 39 = .ok (.lload 6, 2) := by decide +kernel
theorem d_FileReader_readEntry_41 : decode prog_5_method_6_code 41 = .ok (.ldc2_w 47, 3) := by decide +kernel
theorem k_613 : (Jvm.Cond.constantLong "PackageBook$FileReader" (47 : Nat) (30 : Int64)) ∈ uW := uW_of 613 (by decide +kernel) (by decide +kernel)
theorem d_FileReader_readEntry_44 : decode prog_5_method_6_code 44 = .ok (.ladd, 1) := by decide +kernel
theorem d_FileReader_readEntry_45 : decode prog_5_method_6_code 45 = .ok (.iload 10, 2) := by decide +kernel
theorem d_FileReader_readEntry_47 : decode prog_5_method_6_code 47 = .ok (.i2l, 1) := by decide +kernel
theorem d_FileReader_readEntry_48 : decode prog_5_method_6_code 48 = .ok (.ladd, 1) := by decide +kernel
theorem d_FileReader_readEntry_49 : decode prog_5_method_6_code 49 = .ok (.lstore 11, 2) := by decide +kernel
theorem d_FileReader_readEntry_51 : decode prog_5_method_6_code 51 = .ok (.lload 11, 2) := by decide +kernel
theorem d_FileReader_readEntry_53 : decode prog_5_method_6_code 53 = .ok (.lload 8, 2) := by decide +kernel
theorem d_FileReader_readEntry_55 : decode prog_5_method_6_code 55 = .ok (.ladd, 1) := by decide +kernel
theorem d_FileReader_readEntry_56 : decode prog_5_method_6_code 56 = .ok (.lload_n 2, 1) := by decide +kernel
theorem d_FileReader_readEntry_57 : decode prog_5_method_6_code 57 = .ok (.lcmp, 1) := by decide +kernel
theorem d_FileReader_readEntry_58 : decode prog_5_method_6_code 58 = .ok (.ifCond .gt 16, 3) := by decide +kernel
theorem d_FileReader_readEntry_74 : decode prog_5_method_6_code 74 = .ok (.iconst 3, 1) := by decide +kernel
theorem d_FileReader_readEntry_75 : decode prog_5_method_6_code 75 = .ok (.ireturn, 1) := by decide +kernel
theorem d_FileReader_readEntry_61 : decode prog_5_method_6_code 61 = .ok (.aload_n 0, 1) := by decide +kernel
theorem d_FileReader_readEntry_62 : decode prog_5_method_6_code 62 = .ok (.iload_n 1, 1) := by decide +kernel
theorem d_FileReader_readEntry_63 : decode prog_5_method_6_code 63 = .ok (.lload 6, 2) := by decide +kernel
theorem d_FileReader_readEntry_65 : decode prog_5_method_6_code 65 = .ok (.l2i, 1) := by decide +kernel
theorem d_FileReader_readEntry_66 : decode prog_5_method_6_code 66 = .ok (.iload 10, 2) := by decide +kernel
theorem d_FileReader_readEntry_68 : decode prog_5_method_6_code 68 = .ok (.invokevirtual 49, 3) := by decide +kernel
theorem k_614 : (Jvm.Cond.methodLink "PackageBook$FileReader" (49 : Nat) ({ cls := "PackageBook$FileReader", name := "isRecordOf", desc := "(III)Z" } : Jvm.MethodName)) ∈ uW := uW_of 614 (by decide +kernel) (by decide +kernel)
theorem k_617 : (Jvm.Cond.code ({ cls := "PackageBook$FileReader", name := "isRecordOf", desc := "(III)Z" } : Jvm.MethodName) prog_5_method_7_code (4 : Nat) (Option.some Jvm.ClassFile.FieldType.boolean)) ∈ uW := uW_of 617 (by decide +kernel) (by decide +kernel)
theorem k_616 : (Jvm.Cond.instanceMethod ({ cls := "PackageBook$FileReader", name := "isRecordOf", desc := "(III)Z" } : Jvm.MethodName)) ∈ uW := uW_of 616 (by decide +kernel) (by decide +kernel)
theorem k_16 : Cond.selects "PackageBook$FileReader" ⟨"PackageBook$FileReader", "isRecordOf", "(III)Z"⟩ ⟨"PackageBook$FileReader", "isRecordOf", "(III)Z"⟩ ∈ uW := uW_of 16 (by decide +kernel) (by decide +kernel)
theorem hy_FileReader_isRecordOf : (y_FileReader_isRecordOf).cls ≠ "java/lang/invoke/MethodHandle" ∧ (y_FileReader_isRecordOf).cls ≠ "java/lang/invoke/VarHandle" ∧ (parseMethodDescriptor (y_FileReader_isRecordOf).desc).map (fun d => d.parameters.length) = some 3 := by decide +kernel
theorem d_FileReader_readEntry_71 : decode prog_5_method_6_code 71 = .ok (.ifCond .ne 5, 3) := by decide +kernel
theorem d_FileReader_readEntry_76 : decode prog_5_method_6_code 76 = .ok (.iload_n 1, 1) := by decide +kernel
theorem d_FileReader_readEntry_77 : decode prog_5_method_6_code 77 = .ok (.bipush 46, 2) := by decide +kernel
theorem d_FileReader_readEntry_79 : decode prog_5_method_6_code 79 = .ok (.iadd, 1) := by decide +kernel
theorem d_FileReader_readEntry_80 : decode prog_5_method_6_code 80 = .ok (.istore 13, 2) := by decide +kernel
theorem d_FileReader_readEntry_82 : decode prog_5_method_6_code 82 = .ok (.aload_n 0, 1) := by decide +kernel
theorem d_FileReader_readEntry_83 : decode prog_5_method_6_code 83 = .ok (.getfield 9, 3) := by decide +kernel
theorem d_FileReader_readEntry_86 : decode prog_5_method_6_code 86 = .ok (.iload 13, 2) := by decide +kernel
theorem d_FileReader_readEntry_88 : decode prog_5_method_6_code 88 = .ok (.iload 10, 2) := by decide +kernel
theorem d_FileReader_readEntry_90 : decode prog_5_method_6_code 90 = .ok (.invokestatic 52, 3) := by decide +kernel
theorem k_620 : (Jvm.Cond.methodLinkNest "PackageBook$FileReader" (52 : Nat) ({ cls := "PackageBook", name := "isName", desc := "([BII)Z" } : Jvm.MethodName) "PackageBook") ∈ uN := uN_of 620 (by decide +kernel) (by decide +kernel)
theorem k_622 : (Jvm.Cond.code ({ cls := "PackageBook", name := "isName", desc := "([BII)Z" } : Jvm.MethodName) prog_1_method_26_code (6 : Nat) (Option.some Jvm.ClassFile.FieldType.boolean)) ∈ uW := uW_of 622 (by decide +kernel) (by decide +kernel)
theorem k_621 : (Jvm.Cond.static ({ cls := "PackageBook", name := "isName", desc := "([BII)Z" } : Jvm.MethodName)) ∈ uW := uW_of 621 (by decide +kernel) (by decide +kernel)
theorem hy_Book_isName : (y_Book_isName).cls ≠ "java/lang/invoke/MethodHandle" ∧ (y_Book_isName).cls ≠ "java/lang/invoke/VarHandle" ∧ (parseMethodDescriptor (y_Book_isName).desc).map (fun d => d.parameters.length) = some 3 := by decide +kernel
theorem d_FileReader_readEntry_93 : decode prog_5_method_6_code 93 = .ok (.ifCond .eq 19, 3) := by decide +kernel
theorem d_FileReader_readEntry_112 : decode prog_5_method_6_code 112 = .ok (.iconst 4, 1) := by decide +kernel
theorem d_FileReader_readEntry_113 : decode prog_5_method_6_code 113 = .ok (.ireturn, 1) := by decide +kernel
theorem d_FileReader_readEntry_96 : decode prog_5_method_6_code 96 = .ok (.aload 4, 2) := by decide +kernel
theorem d_FileReader_readEntry_98 : decode prog_5_method_6_code 98 = .ok (.aload_n 0, 1) := by decide +kernel
theorem d_FileReader_readEntry_99 : decode prog_5_method_6_code 99 = .ok (.getfield 9, 3) := by decide +kernel
theorem d_FileReader_readEntry_102 : decode prog_5_method_6_code 102 = .ok (.iload 13, 2) := by decide +kernel
theorem d_FileReader_readEntry_104 : decode prog_5_method_6_code 104 = .ok (.iload 10, 2) := by decide +kernel
theorem d_FileReader_readEntry_106 : decode prog_5_method_6_code 106 = .ok (.invokevirtual 56, 3) := by decide +kernel
theorem k_626 : (Jvm.Cond.methodLink "PackageBook$FileReader" (56 : Nat) ({ cls := "PackageBook$Shelf", name := "find", desc := "([BII)I" } : Jvm.MethodName)) ∈ uW := uW_of 626 (by decide +kernel) (by decide +kernel)
theorem d_FileReader_readEntry_109 : decode prog_5_method_6_code 109 = .ok (.ifCond .lt 5, 3) := by decide +kernel
theorem d_FileReader_readEntry_114 : decode prog_5_method_6_code 114 = .ok (.aload_n 0, 1) := by decide +kernel
theorem d_FileReader_readEntry_115 : decode prog_5_method_6_code 115 = .ok (.getfield 9, 3) := by decide +kernel
theorem d_FileReader_readEntry_118 : decode prog_5_method_6_code 118 = .ok (.iload_n 1, 1) := by decide +kernel
theorem d_FileReader_readEntry_119 : decode prog_5_method_6_code 119 = .ok (.bipush 10, 2) := by decide +kernel
theorem d_FileReader_readEntry_121 : decode prog_5_method_6_code 121 = .ok (.iadd, 1) := by decide +kernel
theorem d_FileReader_readEntry_122 : decode prog_5_method_6_code 122 = .ok (.invokestatic 24, 3) := by decide +kernel
theorem d_FileReader_readEntry_125 : decode prog_5_method_6_code 125 = .ok (.bipush 8, 2) := by decide +kernel
theorem d_FileReader_readEntry_127 : decode prog_5_method_6_code 127 = .ok (.if_icmp .ne 7, 3) := by decide +kernel
theorem d_FileReader_readEntry_134 : decode prog_5_method_6_code 134 = .ok (.iconst 0, 1) := by decide +kernel
theorem d_FileReader_readEntry_135 : decode prog_5_method_6_code 135 = .ok (.istore 14, 2) := by decide +kernel
theorem d_FileReader_readEntry_137 : decode prog_5_method_6_code 137 = .ok (.iload 14, 2) := by decide +kernel
theorem d_FileReader_readEntry_139 : decode prog_5_method_6_code 139 = .ok (.ifCond .eq 21, 3) := by decide +kernel
theorem d_FileReader_readEntry_160 : decode prog_5_method_6_code 160 = .ok (.lload 8, 2) := by decide +kernel
theorem d_FileReader_readEntry_162 : decode prog_5_method_6_code 162 = .ok (.l2i, 1) := by decide +kernel
theorem d_FileReader_readEntry_163 : decode prog_5_method_6_code 163 = .ok (.istore 15, 2) := by decide +kernel
theorem d_FileReader_readEntry_165 : decode prog_5_method_6_code 165 = .ok (.iload 14, 2) := by decide +kernel
theorem d_FileReader_readEntry_167 : decode prog_5_method_6_code 167 = .ok (.ifCond .eq 14, 3) := by decide +kernel
theorem d_FileReader_readEntry_181 : decode prog_5_method_6_code 181 = .ok (.aload_n 0, 1) := by decide +kernel
theorem d_FileReader_readEntry_182 : decode prog_5_method_6_code 182 = .ok (.getfield 9, 3) := by decide +kernel
theorem d_FileReader_readEntry_185 : decode prog_5_method_6_code 185 = .ok (.astore 16, 2) := by decide +kernel
theorem d_FileReader_readEntry_187 : decode prog_5_method_6_code 187 = .ok (.iload 14, 2) := by decide +kernel
theorem d_FileReader_readEntry_189 : decode prog_5_method_6_code 189 = .ok (.ifCond .eq 7, 3) := by decide +kernel
theorem d_FileReader_readEntry_196 : decode prog_5_method_6_code 196 = .ok (.lload 11, 2) := by decide +kernel
theorem d_FileReader_readEntry_198 : decode prog_5_method_6_code 198 = .ok (.l2i, 1) := by decide +kernel
theorem d_FileReader_readEntry_199 : decode prog_5_method_6_code 199 = .ok (.istore 17, 2) := by decide +kernel
theorem d_FileReader_readEntry_201 : decode prog_5_method_6_code 201 = .ok (.iload 15, 2) := by decide +kernel
theorem d_FileReader_readEntry_203 : decode prog_5_method_6_code 203 = .ok (.i2l, 1) := by decide +kernel
theorem d_FileReader_readEntry_204 : decode prog_5_method_6_code 204 = .ok (.aload_n 0, 1) := by decide +kernel
theorem d_FileReader_readEntry_205 : decode prog_5_method_6_code 205 = .ok (.getfield 9, 3) := by decide +kernel
theorem d_FileReader_readEntry_208 : decode prog_5_method_6_code 208 = .ok (.iload_n 1, 1) := by decide +kernel
theorem d_FileReader_readEntry_209 : decode prog_5_method_6_code 209 = .ok (.bipush 24, 2) := by decide +kernel
theorem d_FileReader_readEntry_211 : decode prog_5_method_6_code 211 = .ok (.iadd, 1) := by decide +kernel
theorem d_FileReader_readEntry_212 : decode prog_5_method_6_code 212 = .ok (.invokestatic 28, 3) := by decide +kernel
theorem d_FileReader_readEntry_215 : decode prog_5_method_6_code 215 = .ok (.lcmp, 1) := by decide +kernel
theorem d_FileReader_readEntry_216 : decode prog_5_method_6_code 216 = .ok (.ifCond .ne 27, 3) := by decide +kernel
theorem d_FileReader_readEntry_243 : decode prog_5_method_6_code 243 = .ok (.iconst 5, 1) := by decide +kernel
theorem d_FileReader_readEntry_244 : decode prog_5_method_6_code 244 = .ok (.ireturn, 1) := by decide +kernel
theorem d_FileReader_readEntry_219 : decode prog_5_method_6_code 219 = .ok (.aload 16, 2) := by decide +kernel
theorem d_FileReader_readEntry_221 : decode prog_5_method_6_code 221 = .ok (.iload 17, 2) := by decide +kernel
theorem d_FileReader_readEntry_223 : decode prog_5_method_6_code 223 = .ok (.iload 15, 2) := by decide +kernel
theorem d_FileReader_readEntry_225 : decode prog_5_method_6_code 225 = .ok (.invokestatic 74, 3) := by decide +kernel
theorem k_692 : (Jvm.Cond.methodLinkNest "PackageBook$FileReader" (74 : Nat) ({ cls := "PackageBook", name := "sumOf", desc := "([BII)I" } : Jvm.MethodName) "PackageBook") ∈ uN := uN_of 692 (by decide +kernel) (by decide +kernel)
theorem d_FileReader_readEntry_228 : decode prog_5_method_6_code 228 = .ok (.aload_n 0, 1) := by decide +kernel
theorem d_FileReader_readEntry_229 : decode prog_5_method_6_code 229 = .ok (.getfield 9, 3) := by decide +kernel
theorem d_FileReader_readEntry_232 : decode prog_5_method_6_code 232 = .ok (.iload_n 1, 1) := by decide +kernel
theorem d_FileReader_readEntry_233 : decode prog_5_method_6_code 233 = .ok (.bipush 16, 2) := by decide +kernel
theorem d_FileReader_readEntry_235 : decode prog_5_method_6_code 235 = .ok (.iadd, 1) := by decide +kernel
theorem d_FileReader_readEntry_236 : decode prog_5_method_6_code 236 = .ok (.invokestatic 28, 3) := by decide +kernel
theorem d_FileReader_readEntry_239 : decode prog_5_method_6_code 239 = .ok (.l2i, 1) := by decide +kernel
theorem d_FileReader_readEntry_240 : decode prog_5_method_6_code 240 = .ok (.if_icmp .eq 5, 3) := by decide +kernel
theorem d_FileReader_readEntry_245 : decode prog_5_method_6_code 245 = .ok (.aload 4, 2) := by decide +kernel
theorem d_FileReader_readEntry_247 : decode prog_5_method_6_code 247 = .ok (.iconst (-1), 1) := by decide +kernel
theorem d_FileReader_readEntry_248 : decode prog_5_method_6_code 248 = .ok (.iload 15, 2) := by decide +kernel
theorem d_FileReader_readEntry_250 : decode prog_5_method_6_code 250 = .ok (.invokevirtual 77, 3) := by decide +kernel
theorem k_693 : (Jvm.Cond.methodLink "PackageBook$FileReader" (77 : Nat) ({ cls := "PackageBook$Shelf", name := "hasRoom", desc := "(II)Z" } : Jvm.MethodName)) ∈ uW := uW_of 693 (by decide +kernel) (by decide +kernel)
theorem k_696 : (Jvm.Cond.code ({ cls := "PackageBook$Shelf", name := "hasRoom", desc := "(II)Z" } : Jvm.MethodName) prog_10_method_7_code (4 : Nat) (Option.some Jvm.ClassFile.FieldType.boolean)) ∈ uW := uW_of 696 (by decide +kernel) (by decide +kernel)
theorem k_694 : (Jvm.Cond.instanceMethod ({ cls := "PackageBook$Shelf", name := "hasRoom", desc := "(II)Z" } : Jvm.MethodName)) ∈ uW := uW_of 694 (by decide +kernel) (by decide +kernel)
theorem k_695 : (Jvm.Cond.selects "PackageBook$Shelf" ({ cls := "PackageBook$Shelf", name := "hasRoom", desc := "(II)Z" } : Jvm.MethodName) ({ cls := "PackageBook$Shelf", name := "hasRoom", desc := "(II)Z" } : Jvm.MethodName)) ∈ uW := uW_of 695 (by decide +kernel) (by decide +kernel)
theorem hy_Shelf_hasRoom : (y_Shelf_hasRoom).cls ≠ "java/lang/invoke/MethodHandle" ∧ (y_Shelf_hasRoom).cls ≠ "java/lang/invoke/VarHandle" ∧ (parseMethodDescriptor (y_Shelf_hasRoom).desc).map (fun d => d.parameters.length) = some 2 := by decide +kernel
theorem d_FileReader_readEntry_253 : decode prog_5_method_6_code 253 = .ok (.ifCond .ne 6, 3) := by decide +kernel
theorem d_FileReader_readEntry_259 : decode prog_5_method_6_code 259 = .ok (.aload 4, 2) := by decide +kernel
theorem d_FileReader_readEntry_261 : decode prog_5_method_6_code 261 = .ok (.aload_n 0, 1) := by decide +kernel
theorem d_FileReader_readEntry_262 : decode prog_5_method_6_code 262 = .ok (.getfield 9, 3) := by decide +kernel
theorem d_FileReader_readEntry_265 : decode prog_5_method_6_code 265 = .ok (.iload 13, 2) := by decide +kernel
theorem d_FileReader_readEntry_267 : decode prog_5_method_6_code 267 = .ok (.iload 10, 2) := by decide +kernel
theorem d_FileReader_readEntry_269 : decode prog_5_method_6_code 269 = .ok (.aload 16, 2) := by decide +kernel
theorem d_FileReader_readEntry_271 : decode prog_5_method_6_code 271 = .ok (.iload 17, 2) := by decide +kernel
theorem d_FileReader_readEntry_273 : decode prog_5_method_6_code 273 = .ok (.iload 15, 2) := by decide +kernel
theorem d_FileReader_readEntry_275 : decode prog_5_method_6_code 275 = .ok (.invokevirtual 81, 3) := by decide +kernel
theorem k_697 : (Jvm.Cond.methodLink "PackageBook$FileReader" (81 : Nat) ({ cls := "PackageBook$Shelf", name := "bringIn", desc := "([BII[BII)V" } : Jvm.MethodName)) ∈ uW := uW_of 697 (by decide +kernel) (by decide +kernel)
theorem k_700 : (Jvm.Cond.code ({ cls := "PackageBook$Shelf", name := "bringIn", desc := "([BII[BII)V" } : Jvm.MethodName) prog_10_method_9_code (10 : Nat) (Option.none : Option Jvm.ClassFile.FieldType)) ∈ uW := uW_of 700 (by decide +kernel) (by decide +kernel)
theorem k_698 : (Jvm.Cond.instanceMethod ({ cls := "PackageBook$Shelf", name := "bringIn", desc := "([BII[BII)V" } : Jvm.MethodName)) ∈ uW := uW_of 698 (by decide +kernel) (by decide +kernel)
theorem k_699 : (Jvm.Cond.selects "PackageBook$Shelf" ({ cls := "PackageBook$Shelf", name := "bringIn", desc := "([BII[BII)V" } : Jvm.MethodName) ({ cls := "PackageBook$Shelf", name := "bringIn", desc := "([BII[BII)V" } : Jvm.MethodName)) ∈ uW := uW_of 699 (by decide +kernel) (by decide +kernel)
theorem hy_Shelf_bringIn : (y_Shelf_bringIn).cls ≠ "java/lang/invoke/MethodHandle" ∧ (y_Shelf_bringIn).cls ≠ "java/lang/invoke/VarHandle" ∧ (parseMethodDescriptor (y_Shelf_bringIn).desc).map (fun d => d.parameters.length) = some 6 := by decide +kernel
theorem d_FileReader_readEntry_278 : decode prog_5_method_6_code 278 = .ok (.iconst 0, 1) := by decide +kernel
theorem d_FileReader_readEntry_279 : decode prog_5_method_6_code 279 = .ok (.ireturn, 1) := by decide +kernel
theorem d_FileReader_readEntry_256 : decode prog_5_method_6_code 256 = .ok (.bipush 6, 2) := by decide +kernel
theorem d_FileReader_readEntry_258 : decode prog_5_method_6_code 258 = .ok (.ireturn, 1) := by decide +kernel
theorem d_FileReader_readEntry_130 : decode prog_5_method_6_code 130 = .ok (.iconst 1, 1) := by decide +kernel
theorem d_FileReader_readEntry_131 : decode prog_5_method_6_code 131 = .ok (.goto 4, 3) := by decide +kernel
theorem d_FileReader_readEntry_142 : decode prog_5_method_6_code 142 = .ok (.aload 5, 2) := by decide +kernel
theorem d_FileReader_readEntry_144 : decode prog_5_method_6_code 144 = .ok (.aload_n 0, 1) := by decide +kernel
theorem d_FileReader_readEntry_145 : decode prog_5_method_6_code 145 = .ok (.getfield 9, 3) := by decide +kernel
theorem d_FileReader_readEntry_148 : decode prog_5_method_6_code 148 = .ok (.lload 11, 2) := by decide +kernel
theorem d_FileReader_readEntry_150 : decode prog_5_method_6_code 150 = .ok (.l2i, 1) := by decide +kernel
theorem d_FileReader_readEntry_151 : decode prog_5_method_6_code 151 = .ok (.lload 8, 2) := by decide +kernel
theorem d_FileReader_readEntry_153 : decode prog_5_method_6_code 153 = .ok (.l2i, 1) := by decide +kernel
theorem d_FileReader_readEntry_154 : decode prog_5_method_6_code 154 = .ok (.invokevirtual 60, 3) := by decide +kernel
theorem k_627 : (Jvm.Cond.methodLink "PackageBook$FileReader" (60 : Nat) ({ cls := "PackageBook$Expander", name := "run", desc := "([BII)I" } : Jvm.MethodName)) ∈ uW := uW_of 627 (by decide +kernel) (by decide +kernel)
theorem k_630 : (Jvm.Cond.code ({ cls := "PackageBook$Expander", name := "run", desc := "([BII)I" } : Jvm.MethodName) prog_3_method_3_code (7 : Nat) (Option.some Jvm.ClassFile.FieldType.int)) ∈ uW := uW_of 630 (by decide +kernel) (by decide +kernel)
theorem k_628 : (Jvm.Cond.instanceMethod ({ cls := "PackageBook$Expander", name := "run", desc := "([BII)I" } : Jvm.MethodName)) ∈ uW := uW_of 628 (by decide +kernel) (by decide +kernel)
theorem k_629 : (Jvm.Cond.selects "PackageBook$Expander" ({ cls := "PackageBook$Expander", name := "run", desc := "([BII)I" } : Jvm.MethodName) ({ cls := "PackageBook$Expander", name := "run", desc := "([BII)I" } : Jvm.MethodName)) ∈ uW := uW_of 629 (by decide +kernel) (by decide +kernel)
theorem hy_Expander_run : (y_Expander_run).cls ≠ "java/lang/invoke/MethodHandle" ∧ (y_Expander_run).cls ≠ "java/lang/invoke/VarHandle" ∧ (parseMethodDescriptor (y_Expander_run).desc).map (fun d => d.parameters.length) = some 3 := by decide +kernel
theorem d_FileReader_readEntry_157 : decode prog_5_method_6_code 157 = .ok (.goto 6, 3) := by decide +kernel
theorem d_FileReader_readEntry_170 : decode prog_5_method_6_code 170 = .ok (.aload 5, 2) := by decide +kernel
theorem d_FileReader_readEntry_172 : decode prog_5_method_6_code 172 = .ok (.getfield 65, 3) := by decide +kernel
theorem k_249 : (Jvm.Cond.fieldLinkNest "PackageBook$FileReader" (65 : Nat) "PackageBook$Expander" "expanded" "LPackageBook$Row;" "PackageBook") ∈ uN := uN_of 249 (by decide +kernel) (by decide +kernel)
theorem d_FileReader_readEntry_175 : decode prog_5_method_6_code 175 = .ok (.getfield 69, 3) := by decide +kernel
theorem k_159 : (Jvm.Cond.fieldLinkNest "PackageBook$FileReader" (69 : Nat) "PackageBook$Row" "bytes" "[B" "PackageBook") ∈ uN := uN_of 159 (by decide +kernel) (by decide +kernel)
theorem d_FileReader_readEntry_178 : decode prog_5_method_6_code 178 = .ok (.goto 7, 3) := by decide +kernel
theorem d_FileReader_readEntry_192 : decode prog_5_method_6_code 192 = .ok (.iconst 0, 1) := by decide +kernel
theorem d_FileReader_readEntry_193 : decode prog_5_method_6_code 193 = .ok (.goto 6, 3) := by decide +kernel
abbrev y_FileReader_readEntry : MethodName := ⟨"PackageBook$FileReader", "readEntry", "(IJLPackageBook$Shelf;LPackageBook$Expander;)I"⟩
abbrev i_FileReader_readEntry : pb_I := (y_FileReader_readEntry, prog_5_method_6_code, 18, (some Jvm.ClassFile.FieldType.int), [], { frames := 4, cells := 0, slots := 0, locals := 103 })
set_option maxRecDepth 100000 in
set_option maxHeartbeats 4000000 in
theorem g_Rd_readEntry {l : Launch} (hl : l.stackTraces = false) (G : pb_G) (h : Nat) (b : Nat) (N : Nat) (f : Nat → Int32) (sp : Nat) (tn : Nat) (tz : Nat) (tb : Nat) (tg : Nat) (c : Int32) (tfn : Nat → Int32) (tfz : Nat → Int32) (tfb : Nat → Int32) (tfg : Nat → Int32) (q : Nat) (ex : Nat) (et : Nat) (ea : Nat) (eb : Nat) (ec : Nat) (ed : Nat) (ef : Nat) (er : Nat) (at_ : Int32) (en : Int32) (fl : Int32) (ey : Nat) (xf : Nat → Int32) (xs : Int32) (tf : Nat → Int32) (ea1 : Nat) (ea2 : Nat) (eas : Int32) (eac : Nat → Int32) (eay : Nat → Int32) (eb1 : Nat) (eb2 : Nat) (ebs : Int32) (ebc : Nat → Int32) (eby : Nat → Int32) (ef1 : Nat) (ef2 : Nat) (efs : Int32) (efc : Nat → Int32) (efy : Nat → Int32) (ec1 : Nat) (ec2 : Nat) (ecs : Int32) (ecc : Nat → Int32) (ecy : Nat → Int32) (ed1 : Nat) (ed2 : Nat) (eds : Int32) (edc : Nat → Int32) (edy : Nat → Int32) (x : Int32) (lm : Int64) (V : VW_) (A : Int → Int32) (Zs : Int) (I : sh_I c.toInt tfz tfg) (Ia : co_I eas.toInt eac eay 288) (Ma : eas.toInt ≤ 288) (Ib : co_I ebs.toInt ebc eby 32) (Mb : ebs.toInt ≤ 32) (Fa : cs_R eas.toInt eac eay fx_1 288) (Fb : cs_R ebs.toInt ebc eby fx_2 32) (If : co_I efs.toInt efc efy 19) (Mf : efs.toInt ≤ 19) (Ic : co_I ecs.toInt ecc ecy 288) (Mc : ecs.toInt ≤ 286) (Id : co_I eds.toInt edc edy 32) (Md : eds.toInt ≤ 30) (a0_ : 0 ≤ xs.toInt) (a1_ : xs.toInt ≤ 4000) (h0 : 0 ≤ x.toInt) (h1 : x.toInt + (46 + tw f (x.toInt + 28)) ≤ N) (h2 : lm.toInt ≤ N) (hN : N ≤ 100000) (R : rC_ c.toInt tfn tfz tfb tfg V) (hsV : srt_ V) (hA : ∀ j : Int, 0 ≤ j → j < Zs → A j = gr f j) (hZ : x.toInt + 46 + aw A (x.toInt + 28) 2 ≤ Zs) (hZ2 : lm.toInt ≤ Zs) (F_f : sb_Fit f) (F_tfn : sb_Fit tfn) (F_tfb : sb_Fit tfb) (F_xf : sb_Fit xf) : Cn l G i_FileReader_readEntry [.ref h, .int x, .long lm, .ref sp, .ref q] [(h, .inr (7, [.ref b])), (b, .inl (G.2.1, N, .inl f)), (sp, .inr (3, [.ref tn, .ref tz, .ref tb, .ref tg, .int c])), (tn, .inl (G.2.1, 384, .inl tfn)), (tz, .inl (G.2.2.1, 16, .inl tfz)), (tb, .inl (G.2.1, 12000, .inl tfb)), (tg, .inl (G.2.2.1, 17, .inl tfg)), (q, .inr (5, [.ref ex, .ref et, .ref ea, .ref eb, .ref ec, .ref ed, .ref ef, .ref er, .int at_, .int en, .int fl])), (ex, .inr (0, [.ref ey, .int xs])), (ey, .inl (G.2.1, 4000, .inl xf)), (et, .inl (G.2.2.1, 316, .inl tf)), (ea, .inr (1, [.ref ea1, .ref ea2, .int eas])), (ea1, .inl (G.2.2.1, 16, .inl eac)), (ea2, .inl (G.2.2.1, 288, .inl eay)), (eb, .inr (1, [.ref eb1, .ref eb2, .int ebs])), (eb1, .inl (G.2.2.1, 16, .inl ebc)), (eb2, .inl (G.2.2.1, 32, .inl eby)), (ef, .inr (1, [.ref ef1, .ref ef2, .int efs])), (ef1, .inl (G.2.2.1, 16, .inl efc)), (ef2, .inl (G.2.2.1, 19, .inl efy)), (ec, .inr (1, [.ref ec1, .ref ec2, .int ecs])), (ec1, .inl (G.2.2.1, 16, .inl ecc)), (ec2, .inl (G.2.2.1, 286, .inl ecy)), (ed, .inr (1, [.ref ed1, .ref ed2, .int eds])), (ed1, .inl (G.2.2.1, 16, .inl edc)), (ed2, .inl (G.2.2.1, 30, .inl edy))] (S := Int32 × Int32 × (Nat → Int32) × (Nat → Int32) × (Nat → Int32) × (Nat → Int32) × Nat × Int32 × Int32 × Int32 × Int32 × (Nat → Int32) × (Nat → Int32) × Int32 × (Nat → Int32) × (Nat → Int32) × Int32 × (Nat → Int32) × (Nat → Int32) × Int32 × (Nat → Int32) × (Nat → Int32)) (fun rv_ u => rv_ = some (.int u.1) ∧ (sh_I u.2.1.toInt u.2.2.2.1 u.2.2.2.2.2.1) ∧ (0 ≤ u.2.2.2.2.2.2.2.2.2.2.1.toInt) ∧ (u.2.2.2.2.2.2.2.2.2.2.1.toInt ≤ 4000) ∧ (co_I u.2.2.2.2.2.2.2.2.2.2.2.2.2.1.toInt u.2.2.2.2.2.2.2.2.2.2.2.2.2.2.1 u.2.2.2.2.2.2.2.2.2.2.2.2.2.2.2.1 19) ∧ (u.2.2.2.2.2.2.2.2.2.2.2.2.2.1.toInt ≤ 19) ∧ (co_I u.2.2.2.2.2.2.2.2.2.2.2.2.2.2.2.2.1.toInt u.2.2.2.2.2.2.2.2.2.2.2.2.2.2.2.2.2.1 u.2.2.2.2.2.2.2.2.2.2.2.2.2.2.2.2.2.2.1 288) ∧ (u.2.2.2.2.2.2.2.2.2.2.2.2.2.2.2.2.1.toInt ≤ 286) ∧ (co_I u.2.2.2.2.2.2.2.2.2.2.2.2.2.2.2.2.2.2.2.1.toInt u.2.2.2.2.2.2.2.2.2.2.2.2.2.2.2.2.2.2.2.2.1 u.2.2.2.2.2.2.2.2.2.2.2.2.2.2.2.2.2.2.2.2.2 32) ∧ (u.2.2.2.2.2.2.2.2.2.2.2.2.2.2.2.2.2.2.2.1.toInt ≤ 30) ∧ (hid_ (∃ W : VW_, en_R A lm.toInt x.toInt V u.1.toInt W ∧ (u.1.toInt = 0 → rC_ u.2.1.toInt u.2.2.1 u.2.2.2.1 u.2.2.2.2.1 u.2.2.2.2.2.1 W))) ∧ (sb_Fit u.2.2.1) ∧ (sb_Fit u.2.2.2.2.1) ∧ (sb_Fit u.2.2.2.2.2.2.2.2.2.2.2.1)) (fun u => [(h, .inr (7, [.ref b])), (b, .inl (G.2.1, N, .inl f)), (sp, .inr (3, [.ref tn, .ref tz, .ref tb, .ref tg, .int u.2.1])), (tn, .inl (G.2.1, 384, .inl u.2.2.1)), (tz, .inl (G.2.2.1, 16, .inl u.2.2.2.1)), (tb, .inl (G.2.1, 12000, .inl u.2.2.2.2.1)), (tg, .inl (G.2.2.1, 17, .inl u.2.2.2.2.2.1)), (q, .inr (5, [.ref ex, .ref et, .ref ea, .ref eb, .ref ec, .ref ed, .ref ef, .ref u.2.2.2.2.2.2.1, .int u.2.2.2.2.2.2.2.1, .int u.2.2.2.2.2.2.2.2.1, .int u.2.2.2.2.2.2.2.2.2.1])), (ex, .inr (0, [.ref ey, .int u.2.2.2.2.2.2.2.2.2.2.1])), (ey, .inl (G.2.1, 4000, .inl u.2.2.2.2.2.2.2.2.2.2.2.1)), (et, .inl (G.2.2.1, 316, .inl u.2.2.2.2.2.2.2.2.2.2.2.2.1)), (ea, .inr (1, [.ref ea1, .ref ea2, .int eas])), (ea1, .inl (G.2.2.1, 16, .inl eac)), (ea2, .inl (G.2.2.1, 288, .inl eay)), (eb, .inr (1, [.ref eb1, .ref eb2, .int ebs])), (eb1, .inl (G.2.2.1, 16, .inl ebc)), (eb2, .inl (G.2.2.1, 32, .inl eby)), (ef, .inr (1, [.ref ef1, .ref ef2, .int u.2.2.2.2.2.2.2.2.2.2.2.2.2.1])), (ef1, .inl (G.2.2.1, 16, .inl u.2.2.2.2.2.2.2.2.2.2.2.2.2.2.1)), (ef2, .inl (G.2.2.1, 19, .inl u.2.2.2.2.2.2.2.2.2.2.2.2.2.2.2.1)), (ec, .inr (1, [.ref ec1, .ref ec2, .int u.2.2.2.2.2.2.2.2.2.2.2.2.2.2.2.2.1])), (ec1, .inl (G.2.2.1, 16, .inl u.2.2.2.2.2.2.2.2.2.2.2.2.2.2.2.2.2.1)), (ec2, .inl (G.2.2.1, 286, .inl u.2.2.2.2.2.2.2.2.2.2.2.2.2.2.2.2.2.2.1)), (ed, .inr (1, [.ref ed1, .ref ed2, .int u.2.2.2.2.2.2.2.2.2.2.2.2.2.2.2.2.2.2.2.1])), (ed1, .inl (G.2.2.1, 16, .inl u.2.2.2.2.2.2.2.2.2.2.2.2.2.2.2.2.2.2.2.2.1)), (ed2, .inl (G.2.2.1, 30, .inl u.2.2.2.2.2.2.2.2.2.2.2.2.2.2.2.2.2.2.2.2.2))]) := by
  refine Cn.of hl (by decide +kernel) rfl (Nat.le_of_ble_eq_true rfl) (fun M hQ => ?_)
  refine pb_eq (pc' := 0) (lo' := [(0, .ref h), (1, .int x), (2, .long lm), (4, .ref sp), (5, .ref q)]) (rest' := []) (ws' := [(h, .inr (7, [.ref b])), (b, .inl (G.2.1, N, .inl f)), (sp, .inr (3, [.ref tn, .ref tz, .ref tb, .ref tg, .int c])), (tn, .inl (G.2.1, 384, .inl tfn)), (tz, .inl (G.2.2.1, 16, .inl tfz)), (tb, .inl (G.2.1, 12000, .inl tfb)), (tg, .inl (G.2.2.1, 17, .inl tfg)), (q, .inr (5, [.ref ex, .ref et, .ref ea, .ref eb, .ref ec, .ref ed, .ref ef, .ref er, .int at_, .int en, .int fl])), (ex, .inr (0, [.ref ey, .int xs])), (ey, .inl (G.2.1, 4000, .inl xf)), (et, .inl (G.2.2.1, 316, .inl tf)), (ea, .inr (1, [.ref ea1, .ref ea2, .int eas])), (ea1, .inl (G.2.2.1, 16, .inl eac)), (ea2, .inl (G.2.2.1, 288, .inl eay)), (eb, .inr (1, [.ref eb1, .ref eb2, .int ebs])), (eb1, .inl (G.2.2.1, 16, .inl ebc)), (eb2, .inl (G.2.2.1, 32, .inl eby)), (ef, .inr (1, [.ref ef1, .ref ef2, .int efs])), (ef1, .inl (G.2.2.1, 16, .inl efc)), (ef2, .inl (G.2.2.1, 19, .inl efy)), (ec, .inr (1, [.ref ec1, .ref ec2, .int ecs])), (ec1, .inl (G.2.2.1, 16, .inl ecc)), (ec2, .inl (G.2.2.1, 286, .inl ecy)), (ed, .inr (1, [.ref ed1, .ref ed2, .int eds])), (ed1, .inl (G.2.2.1, 16, .inl edc)), (ed2, .inl (G.2.2.1, 30, .inl edy))]) ?_
  have zm1 : ((-1) : Int32).toInt = (-1) := by decide
  have zl0 : (0 : Int32).toInt = 0 := by decide
  have zl1 : (1 : Int32).toInt = 1 := by decide
  have zl3 : (3 : Int32).toInt = 3 := by decide
  have zl4 : (4 : Int32).toInt = 4 := by decide
  have zl5 : (5 : Int32).toInt = 5 := by decide
  have zl6 : (6 : Int32).toInt = 6 := by decide
  have tq := tw_rng f (x.toInt + 28)
  have tq5 := aw2 A (x.toInt + 28)
  have zm1_ : (-1 : Int32).toInt = -1 := by decide
  refine pb_aload_n (pc := 0) d_FileReader_readEntry_0 0 rfl rfl ?_
  refine pb_get (pc := 1) d_FileReader_readEntry_1 0 0 rfl rfl (by decide) in_FileReader k_306 rfl ?_
  refine pb_iload_n (pc := 4) d_FileReader_readEntry_4 1 rfl rfl ?_
  refine pb_bipush (pc := 5) (v := 42) d_FileReader_readEntry_5 (by decide) ?_
  refine pb_iadd (pc := 7) d_FileReader_readEntry_7 ?_
  refine pb_topi (fun i1 ei1 => ?_)
  try have ti1 : i1.toInt = x.toInt + 42 := t2_add ei1 rfl (by decide) (by omega)
  refine pb_callSN (pc := 8) (I := i_FileReader_readEntry) (nA := 2) (rest := []) (wr := [(h, .inr (7, [.ref b])), (sp, .inr (3, [.ref tn, .ref tz, .ref tb, .ref tg, .int c])), (tn, .inl (G.2.1, 384, .inl tfn)), (tz, .inl (G.2.2.1, 16, .inl tfz)), (tb, .inl (G.2.1, 12000, .inl tfb)), (tg, .inl (G.2.2.1, 17, .inl tfg)), (q, .inr (5, [.ref ex, .ref et, .ref ea, .ref eb, .ref ec, .ref ed, .ref ef, .ref er, .int at_, .int en, .int fl])), (ex, .inr (0, [.ref ey, .int xs])), (ey, .inl (G.2.1, 4000, .inl xf)), (et, .inl (G.2.2.1, 316, .inl tf)), (ea, .inr (1, [.ref ea1, .ref ea2, .int eas])), (ea1, .inl (G.2.2.1, 16, .inl eac)), (ea2, .inl (G.2.2.1, 288, .inl eay)), (eb, .inr (1, [.ref eb1, .ref eb2, .int ebs])), (eb1, .inl (G.2.2.1, 16, .inl ebc)), (eb2, .inl (G.2.2.1, 32, .inl eby)), (ef, .inr (1, [.ref ef1, .ref ef2, .int efs])), (ef1, .inl (G.2.2.1, 16, .inl efc)), (ef2, .inl (G.2.2.1, 19, .inl efy)), (ec, .inr (1, [.ref ec1, .ref ec2, .int ecs])), (ec1, .inl (G.2.2.1, 16, .inl ecc)), (ec2, .inl (G.2.2.1, 286, .inl ecy)), (ed, .inr (1, [.ref ed1, .ref ed2, .int eds])), (ed1, .inl (G.2.2.1, 16, .inl edc)), (ed2, .inl (G.2.2.1, 30, .inl edy))]) d_FileReader_readEntry_8 (g_fourAt hl G b N f i1 (by first | assumption | omega (splitDisjunctions := false) | omega | decide) (by first | assumption | omega (splitDisjunctions := false) | omega | decide) (by first | assumption | omega (splitDisjunctions := false) | omega | decide) F_f) [1] [0, 2, 3, 4, 5, 6, 7, 8, 9, 10, 11, 12, 13, 14, 15, 16, 17, 18, 19, 20, 21, 22, 23, 24, 25] (by decide) rfl rfl rfl (by decide) (by decide) k_594 rfl k_118 k_592 k_593 hy_Book_fourAt (by decide) rfl rfl (Nat.le_of_ble_eq_true rfl) (by decide) (fun v9 u3 ch2 => ?_)
  obtain ⟨r_4, rfl⟩ : ∃ z9, z9 = u3 := ⟨_, rfl⟩
  obtain ⟨ech2, ch2⟩ := ch2
  have ech2 : v9 = some (.long r_4) := ech2
  subst ech2
  obtain ⟨fh5, fh6, fh7⟩ : (0 ≤ r_4.toInt) ∧ (r_4.toInt < 4294967296) ∧ (r_4.toInt = av f i1.toInt 4) := ch2
  have u42 : r_4.toInt = aw A (x.toInt + 42) 4 := by rw [fh7, show i1.toInt = x.toInt + 42 by omega]; exact av_A hA 4 (by omega) (by omega)
  refine pb_eq (pc' := 11) (lo' := [(0, .ref h), (1, .int x), (2, .long lm), (4, .ref sp), (5, .ref q)]) (rest' := [.long r_4]) (ws' := [(h, .inr (7, [.ref b])), (sp, .inr (3, [.ref tn, .ref tz, .ref tb, .ref tg, .int c])), (tn, .inl (G.2.1, 384, .inl tfn)), (tz, .inl (G.2.2.1, 16, .inl tfz)), (tb, .inl (G.2.1, 12000, .inl tfb)), (tg, .inl (G.2.2.1, 17, .inl tfg)), (q, .inr (5, [.ref ex, .ref et, .ref ea, .ref eb, .ref ec, .ref ed, .ref ef, .ref er, .int at_, .int en, .int fl])), (ex, .inr (0, [.ref ey, .int xs])), (ey, .inl (G.2.1, 4000, .inl xf)), (et, .inl (G.2.2.1, 316, .inl tf)), (ea, .inr (1, [.ref ea1, .ref ea2, .int eas])), (ea1, .inl (G.2.2.1, 16, .inl eac)), (ea2, .inl (G.2.2.1, 288, .inl eay)), (eb, .inr (1, [.ref eb1, .ref eb2, .int ebs])), (eb1, .inl (G.2.2.1, 16, .inl ebc)), (eb2, .inl (G.2.2.1, 32, .inl eby)), (ef, .inr (1, [.ref ef1, .ref ef2, .int efs])), (ef1, .inl (G.2.2.1, 16, .inl efc)), (ef2, .inl (G.2.2.1, 19, .inl efy)), (ec, .inr (1, [.ref ec1, .ref ec2, .int ecs])), (ec1, .inl (G.2.2.1, 16, .inl ecc)), (ec2, .inl (G.2.2.1, 286, .inl ecy)), (ed, .inr (1, [.ref ed1, .ref ed2, .int eds])), (ed1, .inl (G.2.2.1, 16, .inl edc)), (ed2, .inl (G.2.2.1, 30, .inl edy)), (b, .inl (G.2.1, N, .inl f))]) ?_
  refine pb_lstore (pc := 11) (lo' := [(6, .long r_4), (0, .ref h), (1, .int x), (2, .long lm), (4, .ref sp), (5, .ref q)]) d_FileReader_readEntry_11 (by decide) rfl ?_
  refine pb_aload_n (pc := 13) d_FileReader_readEntry_13 1 rfl rfl ?_
  refine pb_get (pc := 14) d_FileReader_readEntry_14 0 0 rfl rfl (by decide) in_FileReader k_306 rfl ?_
  refine pb_iload_n (pc := 17) d_FileReader_readEntry_17 2 rfl rfl ?_
  refine pb_bipush (pc := 18) (v := 20) d_FileReader_readEntry_18 (by decide) ?_
  refine pb_iadd (pc := 20) d_FileReader_readEntry_20 ?_
  refine pb_topi (fun i8 ei8 => ?_)
  try have ti8 : i8.toInt = x.toInt + 20 := t2_add ei8 rfl (by decide) (by omega)
  refine pb_callSN (pc := 21) (I := i_FileReader_readEntry) (nA := 2) (rest := []) (wr := [(h, .inr (7, [.ref b])), (sp, .inr (3, [.ref tn, .ref tz, .ref tb, .ref tg, .int c])), (tn, .inl (G.2.1, 384, .inl tfn)), (tz, .inl (G.2.2.1, 16, .inl tfz)), (tb, .inl (G.2.1, 12000, .inl tfb)), (tg, .inl (G.2.2.1, 17, .inl tfg)), (q, .inr (5, [.ref ex, .ref et, .ref ea, .ref eb, .ref ec, .ref ed, .ref ef, .ref er, .int at_, .int en, .int fl])), (ex, .inr (0, [.ref ey, .int xs])), (ey, .inl (G.2.1, 4000, .inl xf)), (et, .inl (G.2.2.1, 316, .inl tf)), (ea, .inr (1, [.ref ea1, .ref ea2, .int eas])), (ea1, .inl (G.2.2.1, 16, .inl eac)), (ea2, .inl (G.2.2.1, 288, .inl eay)), (eb, .inr (1, [.ref eb1, .ref eb2, .int ebs])), (eb1, .inl (G.2.2.1, 16, .inl ebc)), (eb2, .inl (G.2.2.1, 32, .inl eby)), (ef, .inr (1, [.ref ef1, .ref ef2, .int efs])), (ef1, .inl (G.2.2.1, 16, .inl efc)), (ef2, .inl (G.2.2.1, 19, .inl efy)), (ec, .inr (1, [.ref ec1, .ref ec2, .int ecs])), (ec1, .inl (G.2.2.1, 16, .inl ecc)), (ec2, .inl (G.2.2.1, 286, .inl ecy)), (ed, .inr (1, [.ref ed1, .ref ed2, .int eds])), (ed1, .inl (G.2.2.1, 16, .inl edc)), (ed2, .inl (G.2.2.1, 30, .inl edy))]) d_FileReader_readEntry_21 (g_fourAt hl G b N f i8 (by first | assumption | omega (splitDisjunctions := false) | omega | decide) (by first | assumption | omega (splitDisjunctions := false) | omega | decide) (by first | assumption | omega (splitDisjunctions := false) | omega | decide) F_f) [25] [0, 1, 2, 3, 4, 5, 6, 7, 8, 9, 10, 11, 12, 13, 14, 15, 16, 17, 18, 19, 20, 21, 22, 23, 24] (by decide) rfl rfl rfl (by decide) (by decide) k_594 rfl k_118 k_592 k_593 hy_Book_fourAt (by decide) rfl rfl (Nat.le_of_ble_eq_true rfl) (by decide) (fun v9 u10 ch9 => ?_)
  obtain ⟨r_11, rfl⟩ : ∃ z9, z9 = u10 := ⟨_, rfl⟩
  obtain ⟨ech9, ch9⟩ := ch9
  have ech9 : v9 = some (.long r_11) := ech9
  subst ech9
  obtain ⟨fh12, fh13, fh14⟩ : (0 ≤ r_11.toInt) ∧ (r_11.toInt < 4294967296) ∧ (r_11.toInt = av f i8.toInt 4) := ch9
  have u20 : r_11.toInt = aw A (x.toInt + 20) 4 := by rw [fh14, show i8.toInt = x.toInt + 20 by omega]; exact av_A hA 4 (by omega) (by omega)
  refine pb_eq (pc' := 24) (lo' := [(6, .long r_4), (0, .ref h), (1, .int x), (2, .long lm), (4, .ref sp), (5, .ref q)]) (rest' := [.long r_11]) (ws' := [(h, .inr (7, [.ref b])), (sp, .inr (3, [.ref tn, .ref tz, .ref tb, .ref tg, .int c])), (tn, .inl (G.2.1, 384, .inl tfn)), (tz, .inl (G.2.2.1, 16, .inl tfz)), (tb, .inl (G.2.1, 12000, .inl tfb)), (tg, .inl (G.2.2.1, 17, .inl tfg)), (q, .inr (5, [.ref ex, .ref et, .ref ea, .ref eb, .ref ec, .ref ed, .ref ef, .ref er, .int at_, .int en, .int fl])), (ex, .inr (0, [.ref ey, .int xs])), (ey, .inl (G.2.1, 4000, .inl xf)), (et, .inl (G.2.2.1, 316, .inl tf)), (ea, .inr (1, [.ref ea1, .ref ea2, .int eas])), (ea1, .inl (G.2.2.1, 16, .inl eac)), (ea2, .inl (G.2.2.1, 288, .inl eay)), (eb, .inr (1, [.ref eb1, .ref eb2, .int ebs])), (eb1, .inl (G.2.2.1, 16, .inl ebc)), (eb2, .inl (G.2.2.1, 32, .inl eby)), (ef, .inr (1, [.ref ef1, .ref ef2, .int efs])), (ef1, .inl (G.2.2.1, 16, .inl efc)), (ef2, .inl (G.2.2.1, 19, .inl efy)), (ec, .inr (1, [.ref ec1, .ref ec2, .int ecs])), (ec1, .inl (G.2.2.1, 16, .inl ecc)), (ec2, .inl (G.2.2.1, 286, .inl ecy)), (ed, .inr (1, [.ref ed1, .ref ed2, .int eds])), (ed1, .inl (G.2.2.1, 16, .inl edc)), (ed2, .inl (G.2.2.1, 30, .inl edy)), (b, .inl (G.2.1, N, .inl f))]) ?_
  refine pb_lstore (pc := 24) (lo' := [(8, .long r_11), (6, .long r_4), (0, .ref h), (1, .int x), (2, .long lm), (4, .ref sp), (5, .ref q)]) d_FileReader_readEntry_24 (by decide) rfl ?_
  refine pb_aload_n (pc := 26) d_FileReader_readEntry_26 2 rfl rfl ?_
  refine pb_get (pc := 27) d_FileReader_readEntry_27 0 0 rfl rfl (by decide) in_FileReader k_306 rfl ?_
  refine pb_iload_n (pc := 30) d_FileReader_readEntry_30 3 rfl rfl ?_
  refine pb_bipush (pc := 31) (v := 28) d_FileReader_readEntry_31 (by decide) ?_
  refine pb_iadd (pc := 33) d_FileReader_readEntry_33 ?_
  refine pb_topi (fun i15 ei15 => ?_)
  try have ti15 : i15.toInt = x.toInt + 28 := t2_add ei15 rfl (by decide) (by omega)
  refine pb_callSN (pc := 34) (I := i_FileReader_readEntry) (nA := 2) (rest := []) (wr := [(h, .inr (7, [.ref b])), (sp, .inr (3, [.ref tn, .ref tz, .ref tb, .ref tg, .int c])), (tn, .inl (G.2.1, 384, .inl tfn)), (tz, .inl (G.2.2.1, 16, .inl tfz)), (tb, .inl (G.2.1, 12000, .inl tfb)), (tg, .inl (G.2.2.1, 17, .inl tfg)), (q, .inr (5, [.ref ex, .ref et, .ref ea, .ref eb, .ref ec, .ref ed, .ref ef, .ref er, .int at_, .int en, .int fl])), (ex, .inr (0, [.ref ey, .int xs])), (ey, .inl (G.2.1, 4000, .inl xf)), (et, .inl (G.2.2.1, 316, .inl tf)), (ea, .inr (1, [.ref ea1, .ref ea2, .int eas])), (ea1, .inl (G.2.2.1, 16, .inl eac)), (ea2, .inl (G.2.2.1, 288, .inl eay)), (eb, .inr (1, [.ref eb1, .ref eb2, .int ebs])), (eb1, .inl (G.2.2.1, 16, .inl ebc)), (eb2, .inl (G.2.2.1, 32, .inl eby)), (ef, .inr (1, [.ref ef1, .ref ef2, .int efs])), (ef1, .inl (G.2.2.1, 16, .inl efc)), (ef2, .inl (G.2.2.1, 19, .inl efy)), (ec, .inr (1, [.ref ec1, .ref ec2, .int ecs])), (ec1, .inl (G.2.2.1, 16, .inl ecc)), (ec2, .inl (G.2.2.1, 286, .inl ecy)), (ed, .inr (1, [.ref ed1, .ref ed2, .int eds])), (ed1, .inl (G.2.2.1, 16, .inl edc)), (ed2, .inl (G.2.2.1, 30, .inl edy))]) d_FileReader_readEntry_34 (g_twoAt hl G b N f i15 (by first | assumption | omega (splitDisjunctions := false) | omega | decide) (by first | assumption | omega (splitDisjunctions := false) | omega | decide) (by first | assumption | omega (splitDisjunctions := false) | omega | decide) F_f) [25] [0, 1, 2, 3, 4, 5, 6, 7, 8, 9, 10, 11, 12, 13, 14, 15, 16, 17, 18, 19, 20, 21, 22, 23, 24] (by decide) rfl rfl rfl (by decide) (by decide) k_597 rfl k_118 k_599 k_596 hy_Book_twoAt (by decide) rfl rfl (Nat.le_of_ble_eq_true rfl) (by decide) (fun v9 u17 ch16 => ?_)
  obtain ⟨r_18, rfl⟩ : ∃ z9, z9 = u17 := ⟨_, rfl⟩
  obtain ⟨ech16, ch16⟩ := ch16
  have ech16 : v9 = some (.int r_18) := ech16
  subst ech16
  obtain ⟨fh19, fh20, fh21, fh22⟩ : (0 ≤ r_18.toInt) ∧ (r_18.toInt ≤ 65535) ∧ (r_18.toInt = tw f i15.toInt) ∧ (r_18.toInt = av f i15.toInt 2) := ch16
  rw [show i15.toInt = x.toInt + 28 by omega] at fh21
  have u28 : r_18.toInt = aw A (x.toInt + 28) 2 := by rw [fh22, show i15.toInt = x.toInt + 28 by omega]; exact av_A hA 2 (by omega) (by omega)
  refine pb_eq (pc' := 37) (lo' := [(8, .long r_11), (6, .long r_4), (0, .ref h), (1, .int x), (2, .long lm), (4, .ref sp), (5, .ref q)]) (rest' := [.int r_18]) (ws' := [(h, .inr (7, [.ref b])), (sp, .inr (3, [.ref tn, .ref tz, .ref tb, .ref tg, .int c])), (tn, .inl (G.2.1, 384, .inl tfn)), (tz, .inl (G.2.2.1, 16, .inl tfz)), (tb, .inl (G.2.1, 12000, .inl tfb)), (tg, .inl (G.2.2.1, 17, .inl tfg)), (q, .inr (5, [.ref ex, .ref et, .ref ea, .ref eb, .ref ec, .ref ed, .ref ef, .ref er, .int at_, .int en, .int fl])), (ex, .inr (0, [.ref ey, .int xs])), (ey, .inl (G.2.1, 4000, .inl xf)), (et, .inl (G.2.2.1, 316, .inl tf)), (ea, .inr (1, [.ref ea1, .ref ea2, .int eas])), (ea1, .inl (G.2.2.1, 16, .inl eac)), (ea2, .inl (G.2.2.1, 288, .inl eay)), (eb, .inr (1, [.ref eb1, .ref eb2, .int ebs])), (eb1, .inl (G.2.2.1, 16, .inl ebc)), (eb2, .inl (G.2.2.1, 32, .inl eby)), (ef, .inr (1, [.ref ef1, .ref ef2, .int efs])), (ef1, .inl (G.2.2.1, 16, .inl efc)), (ef2, .inl (G.2.2.1, 19, .inl efy)), (ec, .inr (1, [.ref ec1, .ref ec2, .int ecs])), (ec1, .inl (G.2.2.1, 16, .inl ecc)), (ec2, .inl (G.2.2.1, 286, .inl ecy)), (ed, .inr (1, [.ref ed1, .ref ed2, .int eds])), (ed1, .inl (G.2.2.1, 16, .inl edc)), (ed2, .inl (G.2.2.1, 30, .inl edy)), (b, .inl (G.2.1, N, .inl f))]) ?_
  refine pb_istore (pc := 37) (lo' := [(10, .int r_18), (8, .long r_11), (6, .long r_4), (0, .ref h), (1, .int x), (2, .long lm), (4, .ref sp), (5, .ref q)]) d_FileReader_readEntry_37 (by decide) rfl ?_
  refine pb_lload (pc := 39) d_FileReader_readEntry_39 2 rfl ?_
  refine pb_ldc2 (pc := 41) (v := 30) d_FileReader_readEntry_41 k_613 ?_
  refine pb_ladd (pc := 44) d_FileReader_readEntry_44 ?_
  refine pb_topl (fun j23 ej23 => ?_)
  try have tj23 : j23.toInt = r_4.toInt + 30 := tl_add ej23 rfl (by decide) (by omega) (by omega)
  refine pb_iload (pc := 45) d_FileReader_readEntry_45 0 rfl ?_
  refine pb_i2l (pc := 47) d_FileReader_readEntry_47 rfl ?_
  refine pb_topl (fun j24 ej24 => ?_)
  have tj24 : j24.toInt = r_18.toInt := tl_i2l ej24 rfl
  refine pb_ladd (pc := 48) d_FileReader_readEntry_48 ?_
  refine pb_topl (fun j25 ej25 => ?_)
  try have tj25 : j25.toInt = j23.toInt + j24.toInt := tl_add ej25 rfl rfl (by omega) (by omega)
  refine pb_lstore (pc := 49) (lo' := [(11, .long j25), (10, .int r_18), (8, .long r_11), (6, .long r_4), (0, .ref h), (1, .int x), (2, .long lm), (4, .ref sp), (5, .ref q)]) d_FileReader_readEntry_49 (by decide) rfl ?_
  refine pb_lload (pc := 51) d_FileReader_readEntry_51 0 rfl ?_
  refine pb_lload (pc := 53) d_FileReader_readEntry_53 2 rfl ?_
  refine pb_ladd (pc := 55) d_FileReader_readEntry_55 ?_
  refine pb_topl (fun j26 ej26 => ?_)
  try have tj26 : j26.toInt = j25.toInt + r_11.toInt := tl_add ej26 rfl rfl (by omega) (by omega)
  refine pb_lload_n (pc := 56) d_FileReader_readEntry_56 6 rfl rfl ?_
  refine pb_lcmp (pc := 57) d_FileReader_readEntry_57 ?_
  refine pb_topi (fun i27 ei27 => ?_)
  have ti27 : (i27.toInt < 0 ↔ j26.toInt < lm.toInt) ∧ (i27.toInt = 0 ↔ j26.toInt = lm.toInt) ∧ (0 < i27.toInt ↔ lm.toInt < j26.toInt) := tl_cmp ei27 rfl rfl
  obtain ⟨lc1, lc2, lc3⟩ := ti27
  refine pb_if_gt (pc := 58) (tgt := 74) d_FileReader_readEntry_58 (by decide) (fun w28 => ?_) (fun w28 => ?_)
  · have tw28 : 0 < i27.toInt := (ti_lt (by decide) rfl).mp w28
    refine pb_iconst (pc := 74) (v := 3) d_FileReader_readEntry_74 (by decide) ?_
    exact pb_iret (pc := 75) hQ d_FileReader_readEntry_75 rfl rfl (3, c, tfn, tfz, tfb, tfg, er, at_, en, fl, xs, xf, tf, efs, efc, efy, ecs, ecc, ecy, eds, edc, edy) ⟨rfl, (by (try dsimp only); first | done | assumption | decide | omega), (by (try dsimp only); first | done | assumption | omega (splitDisjunctions := false) | omega | decide), (by (try dsimp only); first | done | assumption | omega (splitDisjunctions := false) | omega | decide), (by (try dsimp only); first | done | assumption | decide | omega), (by (try dsimp only); first | done | assumption | omega (splitDisjunctions := false) | omega | decide), (by (try dsimp only); first | done | assumption | decide | omega), (by (try dsimp only); first | done | assumption | omega (splitDisjunctions := false) | omega | decide), (by (try dsimp only); first | done | assumption | decide | omega), (by (try dsimp only); first | done | assumption | omega (splitDisjunctions := false) | omega | decide), (show hid_ (∃ W : VW_, en_R A lm.toInt x.toInt V (3 : Int32).toInt W ∧ ((3 : Int32).toInt = 0 → rC_ c.toInt tfn tfz tfb tfg W)) from (hid_i ⟨V, en_3 (by first | decide | omega) (by first | exact rr_n2 (by omega) (by omega) (hid_o rq0 (by omega)) | exact rr_n1 (by omega)), fun q9 => absurd q9 (by first | decide | omega)⟩)), F_tfn, F_tfb, F_xf⟩ [0, 25, 1, 2, 3, 4, 5, 6, 7, 8, 9, 10, 11, 12, 13, 14, 15, 16, 17, 18, 19, 20, 21, 22, 23, 24] (by decide) rfl rfl (by decide) (by decide)
  · have tw28 : ¬ 0 < i27.toInt := fun z9 => w28 ((ti_lt (by decide) rfl).mpr z9)
    have lc4 := mt lc3.mpr (by assumption)
    clear lc1 lc2 lc3
    refine pb_aload_n (pc := 61) d_FileReader_readEntry_61 4 rfl rfl ?_
    refine pb_iload_n (pc := 62) d_FileReader_readEntry_62 5 rfl rfl ?_
    refine pb_lload (pc := 63) d_FileReader_readEntry_63 3 rfl ?_
    refine pb_l2i (pc := 65) d_FileReader_readEntry_65 rfl ?_
    refine pb_topi (fun i29 ei29 => ?_)
    try have ti29 : i29.toInt = r_4.toInt := ti_l2i ei29 rfl (by omega) (by omega)
    refine pb_iload (pc := 66) d_FileReader_readEntry_66 1 rfl ?_
    refine pb_callV (pc := 68) (I := i_FileReader_readEntry) (qb := 0) (ci := 7) (nA := 3) (rest := []) (wr := [(sp, .inr (3, [.ref tn, .ref tz, .ref tb, .ref tg, .int c])), (tn, .inl (G.2.1, 384, .inl tfn)), (tz, .inl (G.2.2.1, 16, .inl tfz)), (tb, .inl (G.2.1, 12000, .inl tfb)), (tg, .inl (G.2.2.1, 17, .inl tfg)), (q, .inr (5, [.ref ex, .ref et, .ref ea, .ref eb, .ref ec, .ref ed, .ref ef, .ref er, .int at_, .int en, .int fl])), (ex, .inr (0, [.ref ey, .int xs])), (ey, .inl (G.2.1, 4000, .inl xf)), (et, .inl (G.2.2.1, 316, .inl tf)), (ea, .inr (1, [.ref ea1, .ref ea2, .int eas])), (ea1, .inl (G.2.2.1, 16, .inl eac)), (ea2, .inl (G.2.2.1, 288, .inl eay)), (eb, .inr (1, [.ref eb1, .ref eb2, .int ebs])), (eb1, .inl (G.2.2.1, 16, .inl ebc)), (eb2, .inl (G.2.2.1, 32, .inl eby)), (ef, .inr (1, [.ref ef1, .ref ef2, .int efs])), (ef1, .inl (G.2.2.1, 16, .inl efc)), (ef2, .inl (G.2.2.1, 19, .inl efy)), (ec, .inr (1, [.ref ec1, .ref ec2, .int ecs])), (ec1, .inl (G.2.2.1, 16, .inl ecc)), (ec2, .inl (G.2.2.1, 286, .inl ecy)), (ed, .inr (1, [.ref ed1, .ref ed2, .int eds])), (ed1, .inl (G.2.2.1, 16, .inl edc)), (ed2, .inl (G.2.2.1, 30, .inl edy))]) d_FileReader_readEntry_68 (g_Rd_isRecordOf hl G h b N f x i29 r_18 A Zs (by first | assumption | omega (splitDisjunctions := false) | omega | decide) (by first | assumption | omega (splitDisjunctions := false) | omega | decide) (by first | assumption | omega (splitDisjunctions := false) | omega | decide) (by first | assumption | omega (splitDisjunctions := false) | omega | decide) (by first | assumption | omega (splitDisjunctions := false) | omega | decide) (by first | assumption | omega (splitDisjunctions := false) | omega | decide) (by first | assumption | decide | omega) (by first | assumption | omega (splitDisjunctions := false) | omega | decide) (by first | assumption | omega (splitDisjunctions := false) | omega | decide) F_f) rfl rfl [0, 25] [1, 2, 3, 4, 5, 6, 7, 8, 9, 10, 11, 12, 13, 14, 15, 16, 17, 18, 19, 20, 21, 22, 23, 24] (by decide) rfl rfl rfl (by decide) (by decide) k_617 rfl k_124 k_614 k_616 k_16 ⟨rfl, hy_FileReader_isRecordOf⟩ (by decide) rfl rfl (Nat.le_of_ble_eq_true rfl) (by decide) (fun v9 u31 ch30 => ?_)
    obtain ⟨r_32, rfl⟩ : ∃ z9, z9 = u31 := ⟨_, rfl⟩
    obtain ⟨ech30, ch30⟩ := ch30
    have ech30 : v9 = some (.int r_32) := ech30
    subst ech30
    obtain ⟨fh33, fh34, fh35⟩ : (r_32.toInt = 0 ∨ r_32.toInt = 1) ∧ (r_32.toInt = 1 → aw A i29.toInt 4 = 67324752 ∧ (∀ k : Int, 0 ≤ k → k < 26 → A (x.toInt + 6 + k) = A (i29.toInt + 4 + k)) ∧ ∀ k : Int, 0 ≤ k → k < r_18.toInt → A (x.toInt + 46 + k) = A (i29.toInt + 30 + k)) ∧ (r_32.toInt = 0 → ¬ (aw A i29.toInt 4 = 67324752 ∧ (∀ k : Int, 0 ≤ k → k < 26 → A (x.toInt + 6 + k) = A (i29.toInt + 4 + k)) ∧ ∀ k : Int, 0 ≤ k → k < r_18.toInt → A (x.toInt + 46 + k) = A (i29.toInt + 30 + k))) := ch30
    have rq1 := hid_i fh34
    have rq0 := hid_i fh35
    have rqb := fh33
    clear fh33 fh34 fh35
    refine pb_eq (pc' := 71) (lo' := [(11, .long j25), (10, .int r_18), (8, .long r_11), (6, .long r_4), (0, .ref h), (1, .int x), (2, .long lm), (4, .ref sp), (5, .ref q)]) (rest' := [.int r_32]) (ws' := [(sp, .inr (3, [.ref tn, .ref tz, .ref tb, .ref tg, .int c])), (tn, .inl (G.2.1, 384, .inl tfn)), (tz, .inl (G.2.2.1, 16, .inl tfz)), (tb, .inl (G.2.1, 12000, .inl tfb)), (tg, .inl (G.2.2.1, 17, .inl tfg)), (q, .inr (5, [.ref ex, .ref et, .ref ea, .ref eb, .ref ec, .ref ed, .ref ef, .ref er, .int at_, .int en, .int fl])), (ex, .inr (0, [.ref ey, .int xs])), (ey, .inl (G.2.1, 4000, .inl xf)), (et, .inl (G.2.2.1, 316, .inl tf)), (ea, .inr (1, [.ref ea1, .ref ea2, .int eas])), (ea1, .inl (G.2.2.1, 16, .inl eac)), (ea2, .inl (G.2.2.1, 288, .inl eay)), (eb, .inr (1, [.ref eb1, .ref eb2, .int ebs])), (eb1, .inl (G.2.2.1, 16, .inl ebc)), (eb2, .inl (G.2.2.1, 32, .inl eby)), (ef, .inr (1, [.ref ef1, .ref ef2, .int efs])), (ef1, .inl (G.2.2.1, 16, .inl efc)), (ef2, .inl (G.2.2.1, 19, .inl efy)), (ec, .inr (1, [.ref ec1, .ref ec2, .int ecs])), (ec1, .inl (G.2.2.1, 16, .inl ecc)), (ec2, .inl (G.2.2.1, 286, .inl ecy)), (ed, .inr (1, [.ref ed1, .ref ed2, .int eds])), (ed1, .inl (G.2.2.1, 16, .inl edc)), (ed2, .inl (G.2.2.1, 30, .inl edy)), (h, .inr (7, [.ref b])), (b, .inl (G.2.1, N, .inl f))]) ?_
    refine pb_if_ne (pc := 71) (tgt := 76) d_FileReader_readEntry_71 (by decide) (fun w36 => ?_) (fun w36 => ?_)
    · have tw36 : ¬ r_32.toInt = 0 := fun z9 => w36 ((ti_eq rfl (by decide)).mpr z9)
      rename ¬ (_ : Int) = 0 => zq
      have rrF : rr_ A lm.toInt x.toInt := rr_y (by omega) (by omega) (by omega) (hid_o rq1 (by omega))
      clear zq rqb rq1 rq0
      refine pb_iload_n (pc := 76) d_FileReader_readEntry_76 5 rfl rfl ?_
      refine pb_bipush (pc := 77) (v := 46) d_FileReader_readEntry_77 (by decide) ?_
      refine pb_iadd (pc := 79) d_FileReader_readEntry_79 ?_
      refine pb_topi (fun i37 ei37 => ?_)
      try have ti37 : i37.toInt = x.toInt + 46 := t2_add ei37 rfl (by decide) (by omega)
      refine pb_istore (pc := 80) (lo' := [(13, .int i37), (11, .long j25), (10, .int r_18), (8, .long r_11), (6, .long r_4), (0, .ref h), (1, .int x), (2, .long lm), (4, .ref sp), (5, .ref q)]) d_FileReader_readEntry_80 (by decide) rfl ?_
      refine pb_aload_n (pc := 82) d_FileReader_readEntry_82 5 rfl rfl ?_
      refine pb_get (pc := 83) d_FileReader_readEntry_83 24 0 rfl rfl (by decide) in_FileReader k_306 rfl ?_
      refine pb_iload (pc := 86) d_FileReader_readEntry_86 0 rfl ?_
      refine pb_iload (pc := 88) d_FileReader_readEntry_88 2 rfl ?_
      refine pb_callSN (pc := 90) (I := i_FileReader_readEntry) (nA := 3) (rest := []) (wr := [(sp, .inr (3, [.ref tn, .ref tz, .ref tb, .ref tg, .int c])), (tn, .inl (G.2.1, 384, .inl tfn)), (tz, .inl (G.2.2.1, 16, .inl tfz)), (tb, .inl (G.2.1, 12000, .inl tfb)), (tg, .inl (G.2.2.1, 17, .inl tfg)), (q, .inr (5, [.ref ex, .ref et, .ref ea, .ref eb, .ref ec, .ref ed, .ref ef, .ref er, .int at_, .int en, .int fl])), (ex, .inr (0, [.ref ey, .int xs])), (ey, .inl (G.2.1, 4000, .inl xf)), (et, .inl (G.2.2.1, 316, .inl tf)), (ea, .inr (1, [.ref ea1, .ref ea2, .int eas])), (ea1, .inl (G.2.2.1, 16, .inl eac)), (ea2, .inl (G.2.2.1, 288, .inl eay)), (eb, .inr (1, [.ref eb1, .ref eb2, .int ebs])), (eb1, .inl (G.2.2.1, 16, .inl ebc)), (eb2, .inl (G.2.2.1, 32, .inl eby)), (ef, .inr (1, [.ref ef1, .ref ef2, .int efs])), (ef1, .inl (G.2.2.1, 16, .inl efc)), (ef2, .inl (G.2.2.1, 19, .inl efy)), (ec, .inr (1, [.ref ec1, .ref ec2, .int ecs])), (ec1, .inl (G.2.2.1, 16, .inl ecc)), (ec2, .inl (G.2.2.1, 286, .inl ecy)), (ed, .inr (1, [.ref ed1, .ref ed2, .int eds])), (ed1, .inl (G.2.2.1, 16, .inl edc)), (ed2, .inl (G.2.2.1, 30, .inl edy)), (h, .inr (7, [.ref b]))]) d_FileReader_readEntry_90 (g_isName hl G b N f i37 r_18 (by first | assumption | omega (splitDisjunctions := false) | omega | decide) (by first | assumption | exact fun q9 => absurd q9 (by assumption) | exact fun q9 => absurd (by assumption) q9 | exact fun _ => (by omega (splitDisjunctions := false)) | omega (splitDisjunctions := false) | omega | decide) (by first | assumption | omega (splitDisjunctions := false) | omega | decide) (by first | assumption | omega (splitDisjunctions := false) | omega | decide) F_f) [25] [0, 1, 2, 3, 4, 5, 6, 7, 8, 9, 10, 11, 12, 13, 14, 15, 16, 17, 18, 19, 20, 21, 22, 23, 24] (by decide) rfl rfl rfl (by decide) (by decide) k_622 rfl k_118 k_620 k_621 hy_Book_isName (by decide) rfl rfl (Nat.le_of_ble_eq_true rfl) (by decide) (fun v9 u39 ch38 => ?_)
      obtain ⟨r_40, rfl⟩ : ∃ z9, z9 = u39 := ⟨_, rfl⟩
      obtain ⟨ech38, ch38⟩ := ch38
      have ech38 : v9 = some (.int r_40) := ech38
      subst ech38
      obtain ⟨fh41, fh42, fh43, fh44⟩ : (r_40.toInt = 0 ∨ r_40.toInt = 1) ∧ (r_40.toInt = 1 → 1 ≤ r_18.toInt ∧ r_18.toInt ≤ 24) ∧ (r_40.toInt = 1 → iA_ (gx f) i37.toInt r_18.toInt) ∧ (r_40.toInt = 0 → ¬ iA_ (gx f) i37.toInt r_18.toInt) := ch38
      have iN1 := hid_i fh43
      have iN0 := hid_i fh44
      have iNn := hid_i fh42
      have iNb := fh41
      clear fh41 fh43 fh44 fh42
      refine pb_eq (pc' := 93) (lo' := [(13, .int i37), (11, .long j25), (10, .int r_18), (8, .long r_11), (6, .long r_4), (0, .ref h), (1, .int x), (2, .long lm), (4, .ref sp), (5, .ref q)]) (rest' := [.int r_40]) (ws' := [(sp, .inr (3, [.ref tn, .ref tz, .ref tb, .ref tg, .int c])), (tn, .inl (G.2.1, 384, .inl tfn)), (tz, .inl (G.2.2.1, 16, .inl tfz)), (tb, .inl (G.2.1, 12000, .inl tfb)), (tg, .inl (G.2.2.1, 17, .inl tfg)), (q, .inr (5, [.ref ex, .ref et, .ref ea, .ref eb, .ref ec, .ref ed, .ref ef, .ref er, .int at_, .int en, .int fl])), (ex, .inr (0, [.ref ey, .int xs])), (ey, .inl (G.2.1, 4000, .inl xf)), (et, .inl (G.2.2.1, 316, .inl tf)), (ea, .inr (1, [.ref ea1, .ref ea2, .int eas])), (ea1, .inl (G.2.2.1, 16, .inl eac)), (ea2, .inl (G.2.2.1, 288, .inl eay)), (eb, .inr (1, [.ref eb1, .ref eb2, .int ebs])), (eb1, .inl (G.2.2.1, 16, .inl ebc)), (eb2, .inl (G.2.2.1, 32, .inl eby)), (ef, .inr (1, [.ref ef1, .ref ef2, .int efs])), (ef1, .inl (G.2.2.1, 16, .inl efc)), (ef2, .inl (G.2.2.1, 19, .inl efy)), (ec, .inr (1, [.ref ec1, .ref ec2, .int ecs])), (ec1, .inl (G.2.2.1, 16, .inl ecc)), (ec2, .inl (G.2.2.1, 286, .inl ecy)), (ed, .inr (1, [.ref ed1, .ref ed2, .int eds])), (ed1, .inl (G.2.2.1, 16, .inl edc)), (ed2, .inl (G.2.2.1, 30, .inl edy)), (h, .inr (7, [.ref b])), (b, .inl (G.2.1, N, .inl f))]) ?_
      refine pb_if_eq (pc := 93) (tgt := 112) d_FileReader_readEntry_93 (by decide) (fun w45 => ?_) (fun w45 => ?_)
      · have tw45 : r_40.toInt = 0 := (ti_eq rfl (by decide)).mp w45
        refine pb_iconst (pc := 112) (v := 4) d_FileReader_readEntry_112 (by decide) ?_
        exact pb_iret (pc := 113) hQ d_FileReader_readEntry_113 rfl rfl (4, c, tfn, tfz, tfb, tfg, er, at_, en, fl, xs, xf, tf, efs, efc, efy, ecs, ecc, ecy, eds, edc, edy) ⟨rfl, (by (try dsimp only); first | done | assumption | decide | omega), (by (try dsimp only); first | done | assumption | omega (splitDisjunctions := false) | omega | decide), (by (try dsimp only); first | done | assumption | omega (splitDisjunctions := false) | omega | decide), (by (try dsimp only); first | done | assumption | decide | omega), (by (try dsimp only); first | done | assumption | omega (splitDisjunctions := false) | omega | decide), (by (try dsimp only); first | done | assumption | decide | omega), (by (try dsimp only); first | done | assumption | omega (splitDisjunctions := false) | omega | decide), (by (try dsimp only); first | done | assumption | decide | omega), (by (try dsimp only); first | done | assumption | omega (splitDisjunctions := false) | omega | decide), (show hid_ (∃ W : VW_, en_R A lm.toInt x.toInt V (4 : Int32).toInt W ∧ ((4 : Int32).toInt = 0 → rC_ c.toInt tfn tfz tfb tfg W)) from (hid_i ⟨V, en_4 (by first | decide | omega) rrF (by first | exact nq_f rfl fF (by omega) | exact nq_i (by omega) (fun q9 => hid_o iN0 (by omega) ((iA_A hA (by omega) (by omega) (by omega)).mpr q9))), fun q9 => absurd q9 (by first | decide | omega)⟩)), F_tfn, F_tfb, F_xf⟩ [24, 25, 0, 1, 2, 3, 4, 5, 6, 7, 8, 9, 10, 11, 12, 13, 14, 15, 16, 17, 18, 19, 20, 21, 22, 23] (by decide) rfl rfl (by decide) (by decide)
      · have tw45 : ¬ r_40.toInt = 0 := fun z9 => w45 ((ti_eq rfl (by decide)).mpr z9)
        rename ¬ (_ : Int) = 0 => zq
        have iNm := hid_o iNn (by omega)
        have iA9 := hid_o iN1 (by omega)
        clear zq iNb iN1 iN0 iNn
        refine pb_aload (pc := 96) d_FileReader_readEntry_96 8 rfl ?_
        refine pb_aload_n (pc := 98) d_FileReader_readEntry_98 5 rfl rfl ?_
        refine pb_get (pc := 99) d_FileReader_readEntry_99 24 0 rfl rfl (by decide) in_FileReader k_306 rfl ?_
        refine pb_iload (pc := 102) d_FileReader_readEntry_102 0 rfl ?_
        refine pb_iload (pc := 104) d_FileReader_readEntry_104 2 rfl ?_
        refine pb_callV (pc := 106) (I := i_FileReader_readEntry) (qb := 0) (ci := 3) (nA := 3) (rest := []) (wr := [(tb, .inl (G.2.1, 12000, .inl tfb)), (tg, .inl (G.2.2.1, 17, .inl tfg)), (q, .inr (5, [.ref ex, .ref et, .ref ea, .ref eb, .ref ec, .ref ed, .ref ef, .ref er, .int at_, .int en, .int fl])), (ex, .inr (0, [.ref ey, .int xs])), (ey, .inl (G.2.1, 4000, .inl xf)), (et, .inl (G.2.2.1, 316, .inl tf)), (ea, .inr (1, [.ref ea1, .ref ea2, .int eas])), (ea1, .inl (G.2.2.1, 16, .inl eac)), (ea2, .inl (G.2.2.1, 288, .inl eay)), (eb, .inr (1, [.ref eb1, .ref eb2, .int ebs])), (eb1, .inl (G.2.2.1, 16, .inl ebc)), (eb2, .inl (G.2.2.1, 32, .inl eby)), (ef, .inr (1, [.ref ef1, .ref ef2, .int efs])), (ef1, .inl (G.2.2.1, 16, .inl efc)), (ef2, .inl (G.2.2.1, 19, .inl efy)), (ec, .inr (1, [.ref ec1, .ref ec2, .int ecs])), (ec1, .inl (G.2.2.1, 16, .inl ecc)), (ec2, .inl (G.2.2.1, 286, .inl ecy)), (ed, .inr (1, [.ref ed1, .ref ed2, .int eds])), (ed1, .inl (G.2.2.1, 16, .inl edc)), (ed2, .inl (G.2.2.1, 30, .inl edy)), (h, .inr (7, [.ref b]))]) d_FileReader_readEntry_106 (g_Shelf_find hl G sp tn tz tb tg c tfn tfz b N f tfg i37 r_18 V (rC_N R) (by first | assumption | decide | omega) (by first | assumption | omega (splitDisjunctions := false) | omega | decide) (by first | assumption | omega (splitDisjunctions := false) | omega | decide) (by first | assumption | omega (splitDisjunctions := false) | omega | decide) F_tfn F_f) rfl rfl [0, 1, 2, 25] [3, 4, 5, 6, 7, 8, 9, 10, 11, 12, 13, 14, 15, 16, 17, 18, 19, 20, 21, 22, 23, 24] (by decide) rfl rfl rfl (by decide) (by decide) k_462 rfl k_127 k_626 k_460 k_461 ⟨rfl, hy_Shelf_find⟩ (by decide) rfl rfl (Nat.le_of_ble_eq_true rfl) (by decide) (fun v9 u47 ch46 => ?_)
        obtain ⟨r_48, rfl⟩ : ∃ z9, z9 = u47 := ⟨_, rfl⟩
        obtain ⟨ech46, ch46⟩ := ch46
        have ech46 : v9 = some (.int r_48) := ech46
        subst ech46
        obtain ⟨fh49, fh50, fh51⟩ : (-1 ≤ r_48.toInt) ∧ (r_48.toInt < c.toInt) ∧ (isF_ V r_18.toInt (fun k => gx f (i37.toInt + k)) r_48.toInt) := ch46
        have fF := isF_cg fh51 (nm_A hA (show i37.toInt = x.toInt + 46 by omega) (by omega) (by omega))
        rw [show r_18.toInt = aw A (x.toInt + 28) 2 by omega] at fF
        refine pb_eq (pc' := 109) (lo' := [(13, .int i37), (11, .long j25), (10, .int r_18), (8, .long r_11), (6, .long r_4), (0, .ref h), (1, .int x), (2, .long lm), (4, .ref sp), (5, .ref q)]) (rest' := [.int r_48]) (ws' := [(tb, .inl (G.2.1, 12000, .inl tfb)), (tg, .inl (G.2.2.1, 17, .inl tfg)), (q, .inr (5, [.ref ex, .ref et, .ref ea, .ref eb, .ref ec, .ref ed, .ref ef, .ref er, .int at_, .int en, .int fl])), (ex, .inr (0, [.ref ey, .int xs])), (ey, .inl (G.2.1, 4000, .inl xf)), (et, .inl (G.2.2.1, 316, .inl tf)), (ea, .inr (1, [.ref ea1, .ref ea2, .int eas])), (ea1, .inl (G.2.2.1, 16, .inl eac)), (ea2, .inl (G.2.2.1, 288, .inl eay)), (eb, .inr (1, [.ref eb1, .ref eb2, .int ebs])), (eb1, .inl (G.2.2.1, 16, .inl ebc)), (eb2, .inl (G.2.2.1, 32, .inl eby)), (ef, .inr (1, [.ref ef1, .ref ef2, .int efs])), (ef1, .inl (G.2.2.1, 16, .inl efc)), (ef2, .inl (G.2.2.1, 19, .inl efy)), (ec, .inr (1, [.ref ec1, .ref ec2, .int ecs])), (ec1, .inl (G.2.2.1, 16, .inl ecc)), (ec2, .inl (G.2.2.1, 286, .inl ecy)), (ed, .inr (1, [.ref ed1, .ref ed2, .int eds])), (ed1, .inl (G.2.2.1, 16, .inl edc)), (ed2, .inl (G.2.2.1, 30, .inl edy)), (h, .inr (7, [.ref b])), (sp, .inr (3, [.ref tn, .ref tz, .ref tb, .ref tg, .int c])), (tn, .inl (G.2.1, 384, .inl tfn)), (tz, .inl (G.2.2.1, 16, .inl tfz)), (b, .inl (G.2.1, N, .inl f))]) ?_
        refine pb_if_lt (pc := 109) (tgt := 114) d_FileReader_readEntry_109 (by decide) (fun w52 => ?_) (fun w52 => ?_)
        · have tw52 : r_48.toInt < 0 := (ti_lt rfl (by decide)).mp w52
          have nkF : nq_ A x.toInt V := nq_y rfl (by have q9 := (iA_A (x := x.toInt + 46) hA (by omega) (by omega) (by omega)).mp iA9; rw [u28] at q9; exact q9) fF (by omega)
          refine pb_aload_n (pc := 114) d_FileReader_readEntry_114 5 rfl rfl ?_
          refine pb_get (pc := 115) d_FileReader_readEntry_115 21 0 rfl rfl (by decide) in_FileReader k_306 rfl ?_
          refine pb_iload_n (pc := 118) d_FileReader_readEntry_118 6 rfl rfl ?_
          refine pb_bipush (pc := 119) (v := 10) d_FileReader_readEntry_119 (by decide) ?_
          refine pb_iadd (pc := 121) d_FileReader_readEntry_121 ?_
          refine pb_topi (fun i53 ei53 => ?_)
          try have ti53 : i53.toInt = x.toInt + 10 := t2_add ei53 rfl (by decide) (by omega)
          refine pb_callSN (pc := 122) (I := i_FileReader_readEntry) (nA := 2) (rest := []) (wr := [(tb, .inl (G.2.1, 12000, .inl tfb)), (tg, .inl (G.2.2.1, 17, .inl tfg)), (q, .inr (5, [.ref ex, .ref et, .ref ea, .ref eb, .ref ec, .ref ed, .ref ef, .ref er, .int at_, .int en, .int fl])), (ex, .inr (0, [.ref ey, .int xs])), (ey, .inl (G.2.1, 4000, .inl xf)), (et, .inl (G.2.2.1, 316, .inl tf)), (ea, .inr (1, [.ref ea1, .ref ea2, .int eas])), (ea1, .inl (G.2.2.1, 16, .inl eac)), (ea2, .inl (G.2.2.1, 288, .inl eay)), (eb, .inr (1, [.ref eb1, .ref eb2, .int ebs])), (eb1, .inl (G.2.2.1, 16, .inl ebc)), (eb2, .inl (G.2.2.1, 32, .inl eby)), (ef, .inr (1, [.ref ef1, .ref ef2, .int efs])), (ef1, .inl (G.2.2.1, 16, .inl efc)), (ef2, .inl (G.2.2.1, 19, .inl efy)), (ec, .inr (1, [.ref ec1, .ref ec2, .int ecs])), (ec1, .inl (G.2.2.1, 16, .inl ecc)), (ec2, .inl (G.2.2.1, 286, .inl ecy)), (ed, .inr (1, [.ref ed1, .ref ed2, .int eds])), (ed1, .inl (G.2.2.1, 16, .inl edc)), (ed2, .inl (G.2.2.1, 30, .inl edy)), (h, .inr (7, [.ref b])), (sp, .inr (3, [.ref tn, .ref tz, .ref tb, .ref tg, .int c])), (tn, .inl (G.2.1, 384, .inl tfn)), (tz, .inl (G.2.2.1, 16, .inl tfz))]) d_FileReader_readEntry_122 (g_twoAt hl G b N f i53 (by first | assumption | omega (splitDisjunctions := false) | omega | decide) (by first | assumption | omega (splitDisjunctions := false) | omega | decide) (by first | assumption | omega (splitDisjunctions := false) | omega | decide) F_f) [25] [0, 1, 2, 3, 4, 5, 6, 7, 8, 9, 10, 11, 12, 13, 14, 15, 16, 17, 18, 19, 20, 21, 22, 23, 24] (by decide) rfl rfl rfl (by decide) (by decide) k_597 rfl k_118 k_599 k_596 hy_Book_twoAt (by decide) rfl rfl (Nat.le_of_ble_eq_true rfl) (by decide) (fun v9 u55 ch54 => ?_)
          obtain ⟨r_56, rfl⟩ : ∃ z9, z9 = u55 := ⟨_, rfl⟩
          obtain ⟨ech54, ch54⟩ := ch54
          have ech54 : v9 = some (.int r_56) := ech54
          subst ech54
          obtain ⟨fh57, fh58, fh59, fh60⟩ : (0 ≤ r_56.toInt) ∧ (r_56.toInt ≤ 65535) ∧ (r_56.toInt = tw f i53.toInt) ∧ (r_56.toInt = av f i53.toInt 2) := ch54
          have u10 : r_56.toInt = aw A (x.toInt + 10) 2 := by rw [fh60, show i53.toInt = x.toInt + 10 by omega]; exact av_A hA 2 (by omega) (by omega)
          refine pb_eq (pc' := 125) (lo' := [(13, .int i37), (11, .long j25), (10, .int r_18), (8, .long r_11), (6, .long r_4), (0, .ref h), (1, .int x), (2, .long lm), (4, .ref sp), (5, .ref q)]) (rest' := [.int r_56]) (ws' := [(tb, .inl (G.2.1, 12000, .inl tfb)), (tg, .inl (G.2.2.1, 17, .inl tfg)), (q, .inr (5, [.ref ex, .ref et, .ref ea, .ref eb, .ref ec, .ref ed, .ref ef, .ref er, .int at_, .int en, .int fl])), (ex, .inr (0, [.ref ey, .int xs])), (ey, .inl (G.2.1, 4000, .inl xf)), (et, .inl (G.2.2.1, 316, .inl tf)), (ea, .inr (1, [.ref ea1, .ref ea2, .int eas])), (ea1, .inl (G.2.2.1, 16, .inl eac)), (ea2, .inl (G.2.2.1, 288, .inl eay)), (eb, .inr (1, [.ref eb1, .ref eb2, .int ebs])), (eb1, .inl (G.2.2.1, 16, .inl ebc)), (eb2, .inl (G.2.2.1, 32, .inl eby)), (ef, .inr (1, [.ref ef1, .ref ef2, .int efs])), (ef1, .inl (G.2.2.1, 16, .inl efc)), (ef2, .inl (G.2.2.1, 19, .inl efy)), (ec, .inr (1, [.ref ec1, .ref ec2, .int ecs])), (ec1, .inl (G.2.2.1, 16, .inl ecc)), (ec2, .inl (G.2.2.1, 286, .inl ecy)), (ed, .inr (1, [.ref ed1, .ref ed2, .int eds])), (ed1, .inl (G.2.2.1, 16, .inl edc)), (ed2, .inl (G.2.2.1, 30, .inl edy)), (h, .inr (7, [.ref b])), (sp, .inr (3, [.ref tn, .ref tz, .ref tb, .ref tg, .int c])), (tn, .inl (G.2.1, 384, .inl tfn)), (tz, .inl (G.2.2.1, 16, .inl tfz)), (b, .inl (G.2.1, N, .inl f))]) ?_
          refine pb_bipush (pc := 125) (v := 8) d_FileReader_readEntry_125 (by decide) ?_
          refine pb_icmp_ne (pc := 127) (tgt := 134) d_FileReader_readEntry_127 (by decide) (fun w61 => ?_) (fun w61 => ?_)
          · have tw61 : ¬ r_56.toInt = 8 := fun z9 => w61 ((ti_eq rfl (by decide)).mpr z9)
            refine pb_iconst (pc := 134) (v := 0) d_FileReader_readEntry_134 (by decide) ?_
            refine pb_istore (pc := 135) (lo' := [(14, .int 0), (13, .int i37), (11, .long j25), (10, .int r_18), (8, .long r_11), (6, .long r_4), (0, .ref h), (1, .int x), (2, .long lm), (4, .ref sp), (5, .ref q)]) d_FileReader_readEntry_135 (by decide) rfl ?_
            refine pb_iload (pc := 137) d_FileReader_readEntry_137 0 rfl ?_
            refine pb_if_eq (pc := 139) (tgt := 160) d_FileReader_readEntry_139 (by decide) (fun _ => ?_) (fun h9 => absurd h9 (by decide))
            obtain ⟨sX, esX⟩ : ∃ z : Int, z = aw A (x.toInt + 20) 4 := ⟨_, rfl⟩
            obtain ⟨fX, efX⟩ : ∃ z : Int, z = 0 := ⟨_, rfl⟩
            obtain ⟨dX, edX⟩ : ∃ z : Int → Int32, z = fun k => A (aw A (x.toInt + 42) 4 + 30 + aw A (x.toInt + 28) 2 + k) := ⟨_, rfl⟩
            have bsP : hid_ (fX = 0 → bs_ A x.toInt sX dX) := hid_i (fun _ => Or.inr ⟨by omega, esX, edX⟩)
            have bsN : hid_ (¬ fX = 0 → ∀ (s9 : Int) (d9 : Int → Int32), ¬ ok_ A x.toInt s9 d9) := hid_i (fun q9 => absurd efX q9)
            have dxE : ∀ k : Int, 0 ≤ k → k < sX → ∀ Y9 : Int, Y9 = aw A (x.toInt + 42) 4 + 30 + aw A (x.toInt + 28) 2 → gr f (Y9 + k) = dX k := fun k h0 h1 Y9 hY => by rw [edX, hY]; exact (hA _ (by omega) (by omega)).symm
            refine pb_lload (pc := 160) d_FileReader_readEntry_160 4 rfl ?_
            refine pb_l2i (pc := 162) d_FileReader_readEntry_162 rfl ?_
            refine pb_topi (fun i63 ei63 => ?_)
            try have ti63 : i63.toInt = r_11.toInt := ti_l2i ei63 rfl (by omega) (by omega)
            refine pb_istore (pc := 163) (lo' := [(15, .int i63), (14, .int 0), (13, .int i37), (11, .long j25), (10, .int r_18), (8, .long r_11), (6, .long r_4), (0, .ref h), (1, .int x), (2, .long lm), (4, .ref sp), (5, .ref q)]) d_FileReader_readEntry_163 (by decide) rfl ?_
            refine pb_iload (pc := 165) d_FileReader_readEntry_165 1 rfl ?_
            refine pb_if_eq (pc := 167) (tgt := 181) d_FileReader_readEntry_167 (by decide) (fun _ => ?_) (fun h9 => absurd h9 (by decide))
            refine pb_aload_n (pc := 181) d_FileReader_readEntry_181 7 rfl rfl ?_
            refine pb_get (pc := 182) d_FileReader_readEntry_182 21 0 rfl rfl (by decide) in_FileReader k_306 rfl ?_
            refine pb_astore (pc := 185) (lo' := [(16, .ref b), (15, .int i63), (14, .int 0), (13, .int i37), (11, .long j25), (10, .int r_18), (8, .long r_11), (6, .long r_4), (0, .ref h), (1, .int x), (2, .long lm), (4, .ref sp), (5, .ref q)]) d_FileReader_readEntry_185 (by decide) rfl ?_
            refine pb_iload (pc := 187) d_FileReader_readEntry_187 2 rfl ?_
            refine pb_if_eq (pc := 189) (tgt := 196) d_FileReader_readEntry_189 (by decide) (fun _ => ?_) (fun h9 => absurd h9 (by decide))
            refine pb_lload (pc := 196) d_FileReader_readEntry_196 4 rfl ?_
            refine pb_l2i (pc := 198) d_FileReader_readEntry_198 rfl ?_
            refine pb_topi (fun i66 ei66 => ?_)
            try have ti66 : i66.toInt = j25.toInt := ti_l2i ei66 rfl (by omega) (by omega)
            refine pb_istore (pc := 199) (lo' := [(17, .int i66), (16, .ref b), (15, .int i63), (14, .int 0), (13, .int i37), (11, .long j25), (10, .int r_18), (8, .long r_11), (6, .long r_4), (0, .ref h), (1, .int x), (2, .long lm), (4, .ref sp), (5, .ref q)]) d_FileReader_readEntry_199 (by decide) rfl ?_
            refine pb_iload (pc := 201) d_FileReader_readEntry_201 2 rfl ?_
            refine pb_i2l (pc := 203) d_FileReader_readEntry_203 rfl ?_
            refine pb_topl (fun j67 ej67 => ?_)
            have tj67 : j67.toInt = i63.toInt := tl_i2l ej67 rfl
            refine pb_aload_n (pc := 204) d_FileReader_readEntry_204 9 rfl rfl ?_
            refine pb_get (pc := 205) d_FileReader_readEntry_205 21 0 rfl rfl (by decide) in_FileReader k_306 rfl ?_
            refine pb_iload_n (pc := 208) d_FileReader_readEntry_208 10 rfl rfl ?_
            refine pb_bipush (pc := 209) (v := 24) d_FileReader_readEntry_209 (by decide) ?_
            refine pb_iadd (pc := 211) d_FileReader_readEntry_211 ?_
            refine pb_topi (fun i68 ei68 => ?_)
            try have ti68 : i68.toInt = x.toInt + 24 := t2_add ei68 rfl (by decide) (by omega)
            refine pb_callSN (pc := 212) (I := i_FileReader_readEntry) (nA := 2) (rest := [.long j67]) (wr := [(tb, .inl (G.2.1, 12000, .inl tfb)), (tg, .inl (G.2.2.1, 17, .inl tfg)), (q, .inr (5, [.ref ex, .ref et, .ref ea, .ref eb, .ref ec, .ref ed, .ref ef, .ref er, .int at_, .int en, .int fl])), (ex, .inr (0, [.ref ey, .int xs])), (ey, .inl (G.2.1, 4000, .inl xf)), (et, .inl (G.2.2.1, 316, .inl tf)), (ea, .inr (1, [.ref ea1, .ref ea2, .int eas])), (ea1, .inl (G.2.2.1, 16, .inl eac)), (ea2, .inl (G.2.2.1, 288, .inl eay)), (eb, .inr (1, [.ref eb1, .ref eb2, .int ebs])), (eb1, .inl (G.2.2.1, 16, .inl ebc)), (eb2, .inl (G.2.2.1, 32, .inl eby)), (ef, .inr (1, [.ref ef1, .ref ef2, .int efs])), (ef1, .inl (G.2.2.1, 16, .inl efc)), (ef2, .inl (G.2.2.1, 19, .inl efy)), (ec, .inr (1, [.ref ec1, .ref ec2, .int ecs])), (ec1, .inl (G.2.2.1, 16, .inl ecc)), (ec2, .inl (G.2.2.1, 286, .inl ecy)), (ed, .inr (1, [.ref ed1, .ref ed2, .int eds])), (ed1, .inl (G.2.2.1, 16, .inl edc)), (ed2, .inl (G.2.2.1, 30, .inl edy)), (h, .inr (7, [.ref b])), (sp, .inr (3, [.ref tn, .ref tz, .ref tb, .ref tg, .int c])), (tn, .inl (G.2.1, 384, .inl tfn)), (tz, .inl (G.2.2.1, 16, .inl tfz))]) d_FileReader_readEntry_212 (g_fourAt hl G b N f i68 (by first | assumption | omega (splitDisjunctions := false) | omega | decide) (by first | assumption | omega (splitDisjunctions := false) | omega | decide) (by first | assumption | omega (splitDisjunctions := false) | omega | decide) F_f) [25] [0, 1, 2, 3, 4, 5, 6, 7, 8, 9, 10, 11, 12, 13, 14, 15, 16, 17, 18, 19, 20, 21, 22, 23, 24] (by decide) rfl rfl rfl (by decide) (by decide) k_594 rfl k_118 k_592 k_593 hy_Book_fourAt (by decide) rfl rfl (Nat.le_of_ble_eq_true rfl) (by decide) (fun v9 u70 ch69 => ?_)
            obtain ⟨r_71, rfl⟩ : ∃ z9, z9 = u70 := ⟨_, rfl⟩
            obtain ⟨ech69, ch69⟩ := ch69
            have ech69 : v9 = some (.long r_71) := ech69
            subst ech69
            obtain ⟨fh72, fh73, fh74⟩ : (0 ≤ r_71.toInt) ∧ (r_71.toInt < 4294967296) ∧ (r_71.toInt = av f i68.toInt 4) := ch69
            have u24 : r_71.toInt = aw A (x.toInt + 24) 4 := by rw [fh74, show i68.toInt = x.toInt + 24 by omega]; exact av_A hA 4 (by omega) (by omega)
            refine pb_eq (pc' := 215) (lo' := [(17, .int i66), (16, .ref b), (15, .int i63), (14, .int 0), (13, .int i37), (11, .long j25), (10, .int r_18), (8, .long r_11), (6, .long r_4), (0, .ref h), (1, .int x), (2, .long lm), (4, .ref sp), (5, .ref q)]) (rest' := [.long r_71, .long j67]) (ws' := [(tb, .inl (G.2.1, 12000, .inl tfb)), (tg, .inl (G.2.2.1, 17, .inl tfg)), (q, .inr (5, [.ref ex, .ref et, .ref ea, .ref eb, .ref ec, .ref ed, .ref ef, .ref er, .int at_, .int en, .int fl])), (ex, .inr (0, [.ref ey, .int xs])), (ey, .inl (G.2.1, 4000, .inl xf)), (et, .inl (G.2.2.1, 316, .inl tf)), (ea, .inr (1, [.ref ea1, .ref ea2, .int eas])), (ea1, .inl (G.2.2.1, 16, .inl eac)), (ea2, .inl (G.2.2.1, 288, .inl eay)), (eb, .inr (1, [.ref eb1, .ref eb2, .int ebs])), (eb1, .inl (G.2.2.1, 16, .inl ebc)), (eb2, .inl (G.2.2.1, 32, .inl eby)), (ef, .inr (1, [.ref ef1, .ref ef2, .int efs])), (ef1, .inl (G.2.2.1, 16, .inl efc)), (ef2, .inl (G.2.2.1, 19, .inl efy)), (ec, .inr (1, [.ref ec1, .ref ec2, .int ecs])), (ec1, .inl (G.2.2.1, 16, .inl ecc)), (ec2, .inl (G.2.2.1, 286, .inl ecy)), (ed, .inr (1, [.ref ed1, .ref ed2, .int eds])), (ed1, .inl (G.2.2.1, 16, .inl edc)), (ed2, .inl (G.2.2.1, 30, .inl edy)), (h, .inr (7, [.ref b])), (sp, .inr (3, [.ref tn, .ref tz, .ref tb, .ref tg, .int c])), (tn, .inl (G.2.1, 384, .inl tfn)), (tz, .inl (G.2.2.1, 16, .inl tfz)), (b, .inl (G.2.1, N, .inl f))]) ?_
            refine pb_lcmp (pc := 215) d_FileReader_readEntry_215 ?_
            refine pb_topi (fun i75 ei75 => ?_)
            have ti75 : (i75.toInt < 0 ↔ j67.toInt < r_71.toInt) ∧ (i75.toInt = 0 ↔ j67.toInt = r_71.toInt) ∧ (0 < i75.toInt ↔ r_71.toInt < j67.toInt) := tl_cmp ei75 rfl rfl
            obtain ⟨lc1, lc2, lc3⟩ := ti75
            refine pb_if_ne (pc := 216) (tgt := 243) d_FileReader_readEntry_216 (by decide) (fun w76 => ?_) (fun w76 => ?_)
            · have tw76 : ¬ i75.toInt = 0 := fun z9 => w76 ((ti_eq rfl (by decide)).mpr z9)
              refine pb_iconst (pc := 243) (v := 5) d_FileReader_readEntry_243 (by decide) ?_
              exact pb_iret (pc := 244) hQ d_FileReader_readEntry_244 rfl rfl (5, c, tfn, tfz, tfb, tfg, er, at_, en, fl, xs, xf, tf, efs, efc, efy, ecs, ecc, ecy, eds, edc, edy) ⟨rfl, (by (try dsimp only); first | done | assumption | decide | omega), (by (try dsimp only); first | done | assumption | omega (splitDisjunctions := false) | omega | decide), (by (try dsimp only); first | done | assumption | omega (splitDisjunctions := false) | omega | decide), (by (try dsimp only); first | done | assumption | decide | omega), (by (try dsimp only); first | done | assumption | omega (splitDisjunctions := false) | omega | decide), (by (try dsimp only); first | done | assumption | decide | omega), (by (try dsimp only); first | done | assumption | omega (splitDisjunctions := false) | omega | decide), (by (try dsimp only); first | done | assumption | decide | omega), (by (try dsimp only); first | done | assumption | omega (splitDisjunctions := false) | omega | decide), (show hid_ (∃ W : VW_, en_R A lm.toInt x.toInt V (5 : Int32).toInt W ∧ ((5 : Int32).toInt = 0 → rC_ c.toInt tfn tfz tfb tfg W)) from (hid_i ⟨V, en_5 (by first | decide | omega) rrF nkF (by first | exact ok_x bsQ smF sdF cE (by omega) (by omega) | exact (if z9 : fX = 0 then ok_no (hid_o bsP z9) (fun q9 => absurd q9.1 (by omega)) else hid_o bsN z9)), fun q9 => absurd q9 (by first | decide | omega)⟩)), F_tfn, F_tfb, F_xf⟩ [21, 25, 22, 23, 24, 0, 1, 2, 3, 4, 5, 6, 7, 8, 9, 10, 11, 12, 13, 14, 15, 16, 17, 18, 19, 20] (by decide) rfl rfl (by decide) (by decide)
            · have tw76 : i75.toInt = 0 := (ti_eq rfl (by decide)).mp w76
              have lc5 := lc2.mp (by assumption)
              clear lc1 lc2 lc3
              have fX0 : fX = 0 := by omega
              have bsQ := hid_o bsP fX0
              refine pb_aload (pc := 219) d_FileReader_readEntry_219 1 rfl ?_
              refine pb_iload (pc := 221) d_FileReader_readEntry_221 0 rfl ?_
              refine pb_iload (pc := 223) d_FileReader_readEntry_223 2 rfl ?_
              have mX : i63.toInt = sX := by omega
              try clear xrF xrG
              have fr0 : 0 ≤ (i66 : Int32).toInt := by omega
              refine pb_callSN (pc := 225) (I := i_FileReader_readEntry) (nA := 3) (rest := []) (wr := [(tb, .inl (G.2.1, 12000, .inl tfb)), (tg, .inl (G.2.2.1, 17, .inl tfg)), (q, .inr (5, [.ref ex, .ref et, .ref ea, .ref eb, .ref ec, .ref ed, .ref ef, .ref er, .int at_, .int en, .int fl])), (ex, .inr (0, [.ref ey, .int xs])), (ey, .inl (G.2.1, 4000, .inl xf)), (et, .inl (G.2.2.1, 316, .inl tf)), (ea, .inr (1, [.ref ea1, .ref ea2, .int eas])), (ea1, .inl (G.2.2.1, 16, .inl eac)), (ea2, .inl (G.2.2.1, 288, .inl eay)), (eb, .inr (1, [.ref eb1, .ref eb2, .int ebs])), (eb1, .inl (G.2.2.1, 16, .inl ebc)), (eb2, .inl (G.2.2.1, 32, .inl eby)), (ef, .inr (1, [.ref ef1, .ref ef2, .int efs])), (ef1, .inl (G.2.2.1, 16, .inl efc)), (ef2, .inl (G.2.2.1, 19, .inl efy)), (ec, .inr (1, [.ref ec1, .ref ec2, .int ecs])), (ec1, .inl (G.2.2.1, 16, .inl ecc)), (ec2, .inl (G.2.2.1, 286, .inl ecy)), (ed, .inr (1, [.ref ed1, .ref ed2, .int eds])), (ed1, .inl (G.2.2.1, 16, .inl edc)), (ed2, .inl (G.2.2.1, 30, .inl edy)), (h, .inr (7, [.ref b])), (sp, .inr (3, [.ref tn, .ref tz, .ref tb, .ref tg, .int c])), (tn, .inl (G.2.1, 384, .inl tfn)), (tz, .inl (G.2.2.1, 16, .inl tfz))]) d_FileReader_readEntry_225 (g_sumOf hl G b N f i66 i63 (by first | assumption | omega (splitDisjunctions := false) | omega | decide) (by first | assumption | omega (splitDisjunctions := false) | omega | decide) (by first | assumption | omega (splitDisjunctions := false) | omega | decide) (by first | assumption | omega (splitDisjunctions := false) | omega | decide) F_f) [25] [0, 1, 2, 3, 4, 5, 6, 7, 8, 9, 10, 11, 12, 13, 14, 15, 16, 17, 18, 19, 20, 21, 22, 23, 24] (by decide) rfl rfl rfl (by decide) (by decide) k_559 rfl k_118 k_692 k_558 hy_Book_sumOf (by decide) rfl rfl (Nat.le_of_ble_eq_true rfl) (by decide) (fun v9 u78 ch77 => ?_)
              obtain ⟨r_79, rfl⟩ : ∃ z9, z9 = u78 := ⟨_, rfl⟩
              obtain ⟨ech77, ch77⟩ := ch77
              have ech77 : v9 = some (.int r_79) := ech77
              subst ech77
              have fh80 : r_79 = cr_n f i66.toInt i63.toInt.toNat ^^^ (-1) := ch77
              have smF := fh80
              rw [show i63.toInt = sX by omega] at smF
              have sdF := fun (k : Int) (h0 : 0 ≤ k) (h1 : k < sX) => dxE k h0 h1 (i66 : Int32).toInt (by omega)
              refine pb_eq (pc' := 228) (lo' := [(17, .int i66), (16, .ref b), (15, .int i63), (14, .int 0), (13, .int i37), (11, .long j25), (10, .int r_18), (8, .long r_11), (6, .long r_4), (0, .ref h), (1, .int x), (2, .long lm), (4, .ref sp), (5, .ref q)]) (rest' := [.int r_79]) (ws' := [(tb, .inl (G.2.1, 12000, .inl tfb)), (tg, .inl (G.2.2.1, 17, .inl tfg)), (q, .inr (5, [.ref ex, .ref et, .ref ea, .ref eb, .ref ec, .ref ed, .ref ef, .ref er, .int at_, .int en, .int fl])), (ex, .inr (0, [.ref ey, .int xs])), (ey, .inl (G.2.1, 4000, .inl xf)), (et, .inl (G.2.2.1, 316, .inl tf)), (ea, .inr (1, [.ref ea1, .ref ea2, .int eas])), (ea1, .inl (G.2.2.1, 16, .inl eac)), (ea2, .inl (G.2.2.1, 288, .inl eay)), (eb, .inr (1, [.ref eb1, .ref eb2, .int ebs])), (eb1, .inl (G.2.2.1, 16, .inl ebc)), (eb2, .inl (G.2.2.1, 32, .inl eby)), (ef, .inr (1, [.ref ef1, .ref ef2, .int efs])), (ef1, .inl (G.2.2.1, 16, .inl efc)), (ef2, .inl (G.2.2.1, 19, .inl efy)), (ec, .inr (1, [.ref ec1, .ref ec2, .int ecs])), (ec1, .inl (G.2.2.1, 16, .inl ecc)), (ec2, .inl (G.2.2.1, 286, .inl ecy)), (ed, .inr (1, [.ref ed1, .ref ed2, .int eds])), (ed1, .inl (G.2.2.1, 16, .inl edc)), (ed2, .inl (G.2.2.1, 30, .inl edy)), (h, .inr (7, [.ref b])), (sp, .inr (3, [.ref tn, .ref tz, .ref tb, .ref tg, .int c])), (tn, .inl (G.2.1, 384, .inl tfn)), (tz, .inl (G.2.2.1, 16, .inl tfz)), (b, .inl (G.2.1, N, .inl f))]) ?_
              refine pb_aload_n (pc := 228) d_FileReader_readEntry_228 9 rfl rfl ?_
              refine pb_get (pc := 229) d_FileReader_readEntry_229 21 0 rfl rfl (by decide) in_FileReader k_306 rfl ?_
              refine pb_iload_n (pc := 232) d_FileReader_readEntry_232 10 rfl rfl ?_
              refine pb_bipush (pc := 233) (v := 16) d_FileReader_readEntry_233 (by decide) ?_
              refine pb_iadd (pc := 235) d_FileReader_readEntry_235 ?_
              refine pb_topi (fun i81 ei81 => ?_)
              try have ti81 : i81.toInt = x.toInt + 16 := t2_add ei81 rfl (by decide) (by omega)
              refine pb_callSN (pc := 236) (I := i_FileReader_readEntry) (nA := 2) (rest := [.int r_79]) (wr := [(tb, .inl (G.2.1, 12000, .inl tfb)), (tg, .inl (G.2.2.1, 17, .inl tfg)), (q, .inr (5, [.ref ex, .ref et, .ref ea, .ref eb, .ref ec, .ref ed, .ref ef, .ref er, .int at_, .int en, .int fl])), (ex, .inr (0, [.ref ey, .int xs])), (ey, .inl (G.2.1, 4000, .inl xf)), (et, .inl (G.2.2.1, 316, .inl tf)), (ea, .inr (1, [.ref ea1, .ref ea2, .int eas])), (ea1, .inl (G.2.2.1, 16, .inl eac)), (ea2, .inl (G.2.2.1, 288, .inl eay)), (eb, .inr (1, [.ref eb1, .ref eb2, .int ebs])), (eb1, .inl (G.2.2.1, 16, .inl ebc)), (eb2, .inl (G.2.2.1, 32, .inl eby)), (ef, .inr (1, [.ref ef1, .ref ef2, .int efs])), (ef1, .inl (G.2.2.1, 16, .inl efc)), (ef2, .inl (G.2.2.1, 19, .inl efy)), (ec, .inr (1, [.ref ec1, .ref ec2, .int ecs])), (ec1, .inl (G.2.2.1, 16, .inl ecc)), (ec2, .inl (G.2.2.1, 286, .inl ecy)), (ed, .inr (1, [.ref ed1, .ref ed2, .int eds])), (ed1, .inl (G.2.2.1, 16, .inl edc)), (ed2, .inl (G.2.2.1, 30, .inl edy)), (h, .inr (7, [.ref b])), (sp, .inr (3, [.ref tn, .ref tz, .ref tb, .ref tg, .int c])), (tn, .inl (G.2.1, 384, .inl tfn)), (tz, .inl (G.2.2.1, 16, .inl tfz))]) d_FileReader_readEntry_236 (g_fourAt hl G b N f i81 (by first | assumption | omega (splitDisjunctions := false) | omega | decide) (by first | assumption | omega (splitDisjunctions := false) | omega | decide) (by first | assumption | omega (splitDisjunctions := false) | omega | decide) F_f) [25] [0, 1, 2, 3, 4, 5, 6, 7, 8, 9, 10, 11, 12, 13, 14, 15, 16, 17, 18, 19, 20, 21, 22, 23, 24] (by decide) rfl rfl rfl (by decide) (by decide) k_594 rfl k_118 k_592 k_593 hy_Book_fourAt (by decide) rfl rfl (Nat.le_of_ble_eq_true rfl) (by decide) (fun v9 u83 ch82 => ?_)
              obtain ⟨r_84, rfl⟩ : ∃ z9, z9 = u83 := ⟨_, rfl⟩
              obtain ⟨ech82, ch82⟩ := ch82
              have ech82 : v9 = some (.long r_84) := ech82
              subst ech82
              obtain ⟨fh85, fh86, fh87⟩ : (0 ≤ r_84.toInt) ∧ (r_84.toInt < 4294967296) ∧ (r_84.toInt = av f i81.toInt 4) := ch82
              have u16 : r_84.toInt = aw A (x.toInt + 16) 4 := by rw [fh87, show i81.toInt = x.toInt + 16 by omega]; exact av_A hA 4 (by omega) (by omega)
              refine pb_eq (pc' := 239) (lo' := [(17, .int i66), (16, .ref b), (15, .int i63), (14, .int 0), (13, .int i37), (11, .long j25), (10, .int r_18), (8, .long r_11), (6, .long r_4), (0, .ref h), (1, .int x), (2, .long lm), (4, .ref sp), (5, .ref q)]) (rest' := [.long r_84, .int r_79]) (ws' := [(tb, .inl (G.2.1, 12000, .inl tfb)), (tg, .inl (G.2.2.1, 17, .inl tfg)), (q, .inr (5, [.ref ex, .ref et, .ref ea, .ref eb, .ref ec, .ref ed, .ref ef, .ref er, .int at_, .int en, .int fl])), (ex, .inr (0, [.ref ey, .int xs])), (ey, .inl (G.2.1, 4000, .inl xf)), (et, .inl (G.2.2.1, 316, .inl tf)), (ea, .inr (1, [.ref ea1, .ref ea2, .int eas])), (ea1, .inl (G.2.2.1, 16, .inl eac)), (ea2, .inl (G.2.2.1, 288, .inl eay)), (eb, .inr (1, [.ref eb1, .ref eb2, .int ebs])), (eb1, .inl (G.2.2.1, 16, .inl ebc)), (eb2, .inl (G.2.2.1, 32, .inl eby)), (ef, .inr (1, [.ref ef1, .ref ef2, .int efs])), (ef1, .inl (G.2.2.1, 16, .inl efc)), (ef2, .inl (G.2.2.1, 19, .inl efy)), (ec, .inr (1, [.ref ec1, .ref ec2, .int ecs])), (ec1, .inl (G.2.2.1, 16, .inl ecc)), (ec2, .inl (G.2.2.1, 286, .inl ecy)), (ed, .inr (1, [.ref ed1, .ref ed2, .int eds])), (ed1, .inl (G.2.2.1, 16, .inl edc)), (ed2, .inl (G.2.2.1, 30, .inl edy)), (h, .inr (7, [.ref b])), (sp, .inr (3, [.ref tn, .ref tz, .ref tb, .ref tg, .int c])), (tn, .inl (G.2.1, 384, .inl tfn)), (tz, .inl (G.2.2.1, 16, .inl tfz)), (b, .inl (G.2.1, N, .inl f))]) ?_
              refine pb_l2i (pc := 239) d_FileReader_readEntry_239 rfl ?_
              refine pb_topi (fun i88 ei88 => ?_)
              try have ti88 : i88.toInt = r_84.toInt := ti_l2i ei88 rfl (by omega) (by omega)
              have cE := l2i_E ei88 u16
              refine pb_icmp_eq (pc := 240) (tgt := 245) d_FileReader_readEntry_240 (by decide) (fun w89 => ?_) (fun w89 => ?_)
              · have tw89 : r_79.toInt = i88.toInt := (ti_eq rfl rfl).mp w89
                have okF := ok_y bsQ (by omega) smF sdF cE (by omega) (by omega)
                clear bsP bsN
                refine pb_aload (pc := 245) d_FileReader_readEntry_245 12 rfl ?_
                refine pb_iconst (pc := 247) (v := (-1)) d_FileReader_readEntry_247 (by decide) ?_
                refine pb_iload (pc := 248) d_FileReader_readEntry_248 2 rfl ?_
                refine pb_callV (pc := 250) (I := i_FileReader_readEntry) (qb := 22) (ci := 3) (nA := 2) (rest := []) (wr := [(tb, .inl (G.2.1, 12000, .inl tfb)), (q, .inr (5, [.ref ex, .ref et, .ref ea, .ref eb, .ref ec, .ref ed, .ref ef, .ref er, .int at_, .int en, .int fl])), (ex, .inr (0, [.ref ey, .int xs])), (ey, .inl (G.2.1, 4000, .inl xf)), (et, .inl (G.2.2.1, 316, .inl tf)), (ea, .inr (1, [.ref ea1, .ref ea2, .int eas])), (ea1, .inl (G.2.2.1, 16, .inl eac)), (ea2, .inl (G.2.2.1, 288, .inl eay)), (eb, .inr (1, [.ref eb1, .ref eb2, .int ebs])), (eb1, .inl (G.2.2.1, 16, .inl ebc)), (eb2, .inl (G.2.2.1, 32, .inl eby)), (ef, .inr (1, [.ref ef1, .ref ef2, .int efs])), (ef1, .inl (G.2.2.1, 16, .inl efc)), (ef2, .inl (G.2.2.1, 19, .inl efy)), (ec, .inr (1, [.ref ec1, .ref ec2, .int ecs])), (ec1, .inl (G.2.2.1, 16, .inl ecc)), (ec2, .inl (G.2.2.1, 286, .inl ecy)), (ed, .inr (1, [.ref ed1, .ref ed2, .int eds])), (ed1, .inl (G.2.2.1, 16, .inl edc)), (ed2, .inl (G.2.2.1, 30, .inl edy)), (h, .inr (7, [.ref b])), (tn, .inl (G.2.1, 384, .inl tfn)), (tz, .inl (G.2.2.1, 16, .inl tfz)), (b, .inl (G.2.1, N, .inl f))]) d_FileReader_readEntry_250 (g_Shelf_hasRoom hl G sp tn tz tb tg c tfz tfg (-1) i63 (by first | assumption | decide | omega) (by first | assumption | omega (splitDisjunctions := false) | omega | decide)) rfl rfl [22, 1] [0, 2, 3, 4, 5, 6, 7, 8, 9, 10, 11, 12, 13, 14, 15, 16, 17, 18, 19, 20, 21, 23, 24, 25] (by decide) rfl rfl rfl (by decide) (by decide) k_696 rfl k_127 k_693 k_694 k_695 ⟨rfl, hy_Shelf_hasRoom⟩ (by decide) rfl rfl (Nat.le_of_ble_eq_true rfl) (by decide) (fun v9 u91 ch90 => ?_)
                obtain ⟨r_92, rfl⟩ : ∃ z9, z9 = u91 := ⟨_, rfl⟩
                obtain ⟨ech90, ch90⟩ := ch90
                have ech90 : v9 = some (.int r_92) := ech90
                subst ech90
                obtain ⟨fh93, fh94, fh95⟩ : (r_92.toInt = 0 ∨ r_92.toInt = 1) ∧ (r_92.toInt = 1 → i63.toInt ≤ 4000 ∧ ((0 ≤ ((-1) : Int32).toInt ∧ ((-1) : Int32).toInt < c.toInt ∧ gx tfg c.toInt - (gx tfg (((-1) : Int32).toInt + 1) - gx tfg ((-1) : Int32).toInt) + i63.toInt ≤ 12000) ∨ (¬ (0 ≤ ((-1) : Int32).toInt ∧ ((-1) : Int32).toInt < c.toInt) ∧ c.toInt < 16 ∧ gx tfg c.toInt + i63.toInt ≤ 12000))) ∧ (r_92.toInt = 0 → ¬ (i63.toInt ≤ 4000 ∧ ((0 ≤ ((-1) : Int32).toInt ∧ ((-1) : Int32).toInt < c.toInt ∧ gx tfg c.toInt - (gx tfg (((-1) : Int32).toInt + 1) - gx tfg ((-1) : Int32).toInt) + i63.toInt ≤ 12000) ∨ (¬ (0 ≤ ((-1) : Int32).toInt ∧ ((-1) : Int32).toInt < c.toInt) ∧ c.toInt < 16 ∧ gx tfg c.toInt + i63.toInt ≤ 12000)))) := ch90
                have hrF := hid_i fh94
                have hrN := hid_i fh95
                have hrb := fh93
                clear fh93 fh94 fh95
                have rmI := hid_i (RM_C (m := sX) R I hsV fF)
                refine pb_eq (pc' := 253) (lo' := [(17, .int i66), (16, .ref b), (15, .int i63), (14, .int 0), (13, .int i37), (11, .long j25), (10, .int r_18), (8, .long r_11), (6, .long r_4), (0, .ref h), (1, .int x), (2, .long lm), (4, .ref sp), (5, .ref q)]) (rest' := [.int r_92]) (ws' := [(tb, .inl (G.2.1, 12000, .inl tfb)), (q, .inr (5, [.ref ex, .ref et, .ref ea, .ref eb, .ref ec, .ref ed, .ref ef, .ref er, .int at_, .int en, .int fl])), (ex, .inr (0, [.ref ey, .int xs])), (ey, .inl (G.2.1, 4000, .inl xf)), (et, .inl (G.2.2.1, 316, .inl tf)), (ea, .inr (1, [.ref ea1, .ref ea2, .int eas])), (ea1, .inl (G.2.2.1, 16, .inl eac)), (ea2, .inl (G.2.2.1, 288, .inl eay)), (eb, .inr (1, [.ref eb1, .ref eb2, .int ebs])), (eb1, .inl (G.2.2.1, 16, .inl ebc)), (eb2, .inl (G.2.2.1, 32, .inl eby)), (ef, .inr (1, [.ref ef1, .ref ef2, .int efs])), (ef1, .inl (G.2.2.1, 16, .inl efc)), (ef2, .inl (G.2.2.1, 19, .inl efy)), (ec, .inr (1, [.ref ec1, .ref ec2, .int ecs])), (ec1, .inl (G.2.2.1, 16, .inl ecc)), (ec2, .inl (G.2.2.1, 286, .inl ecy)), (ed, .inr (1, [.ref ed1, .ref ed2, .int eds])), (ed1, .inl (G.2.2.1, 16, .inl edc)), (ed2, .inl (G.2.2.1, 30, .inl edy)), (h, .inr (7, [.ref b])), (tn, .inl (G.2.1, 384, .inl tfn)), (tz, .inl (G.2.2.1, 16, .inl tfz)), (b, .inl (G.2.1, N, .inl f)), (sp, .inr (3, [.ref tn, .ref tz, .ref tb, .ref tg, .int c])), (tg, .inl (G.2.2.1, 17, .inl tfg))]) ?_
                refine pb_if_ne (pc := 253) (tgt := 259) d_FileReader_readEntry_253 (by decide) (fun w96 => ?_) (fun w96 => ?_)
                · have tw96 : ¬ r_92.toInt = 0 := fun z9 => w96 ((ti_eq rfl (by decide)).mpr z9)
                  rename ¬ (_ : Int) = 0 => zq
                  have hr8 : sX ≤ 4000 ∧ c.toInt < 16 ∧ gx tfg c.toInt + sX ≤ 12000 := by have q8 := hid_o hrF (by omega); omega
                  clear zq hrb hrF hrN
                  refine pb_aload (pc := 259) d_FileReader_readEntry_259 12 rfl ?_
                  refine pb_aload_n (pc := 261) d_FileReader_readEntry_261 9 rfl rfl ?_
                  refine pb_get (pc := 262) d_FileReader_readEntry_262 20 0 rfl rfl (by decide) in_FileReader k_306 rfl ?_
                  refine pb_iload (pc := 265) d_FileReader_readEntry_265 4 rfl ?_
                  refine pb_iload (pc := 267) d_FileReader_readEntry_267 6 rfl ?_
                  refine pb_aload (pc := 269) d_FileReader_readEntry_269 1 rfl ?_
                  refine pb_iload (pc := 271) d_FileReader_readEntry_271 0 rfl ?_
                  refine pb_iload (pc := 273) d_FileReader_readEntry_273 2 rfl ?_
                  refine pb_callV (pc := 275) (I := i_FileReader_readEntry) (qb := 24) (ci := 3) (nA := 6) (rest := []) (wr := [(q, .inr (5, [.ref ex, .ref et, .ref ea, .ref eb, .ref ec, .ref ed, .ref ef, .ref er, .int at_, .int en, .int fl])), (ex, .inr (0, [.ref ey, .int xs])), (ey, .inl (G.2.1, 4000, .inl xf)), (et, .inl (G.2.2.1, 316, .inl tf)), (ea, .inr (1, [.ref ea1, .ref ea2, .int eas])), (ea1, .inl (G.2.2.1, 16, .inl eac)), (ea2, .inl (G.2.2.1, 288, .inl eay)), (eb, .inr (1, [.ref eb1, .ref eb2, .int ebs])), (eb1, .inl (G.2.2.1, 16, .inl ebc)), (eb2, .inl (G.2.2.1, 32, .inl eby)), (ef, .inr (1, [.ref ef1, .ref ef2, .int efs])), (ef1, .inl (G.2.2.1, 16, .inl efc)), (ef2, .inl (G.2.2.1, 19, .inl efy)), (ec, .inr (1, [.ref ec1, .ref ec2, .int ecs])), (ec1, .inl (G.2.2.1, 16, .inl ecc)), (ec2, .inl (G.2.2.1, 286, .inl ecy)), (ed, .inr (1, [.ref ed1, .ref ed2, .int eds])), (ed1, .inl (G.2.2.1, 16, .inl edc)), (ed2, .inl (G.2.2.1, 30, .inl edy)), (h, .inr (7, [.ref b]))]) d_FileReader_readEntry_275 (g_Shelf_bringIn1 hl G sp tn tz tb tg c tfn tfz tfb tfg b N f i37 r_18 i66 i63 V (by first | assumption | omega (splitDisjunctions := false) | omega | decide) (by first | assumption | decide | omega) (by first | assumption | omega (splitDisjunctions := false) | omega | decide) (by first | assumption | omega (splitDisjunctions := false) | omega | decide) (by first | assumption | omega (splitDisjunctions := false) | omega | decide) (by first | assumption | omega (splitDisjunctions := false) | omega | decide) (by first | assumption | omega (splitDisjunctions := false) | omega | decide) (by first | assumption | omega (splitDisjunctions := false) | omega | decide) (by first | assumption | omega (splitDisjunctions := false) | omega | decide) (by first | assumption | omega (splitDisjunctions := false) | omega | decide) (by first | assumption | omega (splitDisjunctions := false) | omega | decide) (by first | assumption | omega (splitDisjunctions := false) | omega | decide) (by first | assumption | omega (splitDisjunctions := false) | omega | decide) (by first | assumption | omega (splitDisjunctions := false) | omega | decide) F_tfn F_tfb F_f) rfl rfl [24, 21, 22, 0, 25, 23] [1, 2, 3, 4, 5, 6, 7, 8, 9, 10, 11, 12, 13, 14, 15, 16, 17, 18, 19, 20] (by decide) rfl rfl rfl (by decide) (by decide) k_700 rfl k_127 k_697 k_698 k_699 ⟨rfl, hy_Shelf_bringIn⟩ (by decide) rfl rfl (Nat.le_of_ble_eq_true rfl) (by decide) (fun v9 u98 ch97 => ?_)
                  obtain ⟨c_99, fn_100, fz_101, fb_102, fg_103⟩ := u98
                  obtain ⟨ech97, ch97⟩ := ch97
                  have ech97 : v9 = none := ech97
                  subst ech97
                  obtain ⟨fh104, fh105, fh106, fh107, fh108, fh109⟩ : (sh_I c_99.toInt fz_101 fg_103) ∧ (c_99.toInt = c.toInt + 1) ∧ (gx fg_103 c_99.toInt = gx tfg c.toInt + i63.toInt) ∧ (hid_ (∃ r : Int, 0 ≤ r ∧ r ≤ c.toInt ∧ (∀ j : Int, 0 ≤ j → j < r → lx_ (vN V j) (vZ V j) (fun k => gx f (i37.toInt + k)) r_18.toInt) ∧ (r < c.toInt → ¬ lx_ (vN V r) (vZ V r) (fun k => gx f (i37.toInt + k)) r_18.toInt) ∧ rC_ c_99.toInt fn_100 fz_101 fb_102 fg_103 (vin_ V r r_18.toInt (fun k => gx f (i37.toInt + k)) i63.toInt (fun k => gr f (i66.toInt + k))))) ∧ (sb_Fit fn_100) ∧ (sb_Fit fb_102) := ch97
                  have brF := fh107
                  rw [show r_18.toInt = aw A (x.toInt + 28) 2 by omega, show i63.toInt = sX by omega] at brF
                  obtain ⟨W9, adF, rcF⟩ := AD_R R I hsV (by omega) nkF.2 (nm_A hA (show i37.toInt = x.toInt + 46 by omega) (by omega) (by omega)) (fun k h0 h1 => dxE k h0 h1 (i66 : Int32).toInt (by omega)) (hid_o brF)
                  refine pb_eq (pc' := 278) (lo' := [(17, .int i66), (16, .ref b), (15, .int i63), (14, .int 0), (13, .int i37), (11, .long j25), (10, .int r_18), (8, .long r_11), (6, .long r_4), (0, .ref h), (1, .int x), (2, .long lm), (4, .ref sp), (5, .ref q)]) (rest' := []) (ws' := [(q, .inr (5, [.ref ex, .ref et, .ref ea, .ref eb, .ref ec, .ref ed, .ref ef, .ref er, .int at_, .int en, .int fl])), (ex, .inr (0, [.ref ey, .int xs])), (ey, .inl (G.2.1, 4000, .inl xf)), (et, .inl (G.2.2.1, 316, .inl tf)), (ea, .inr (1, [.ref ea1, .ref ea2, .int eas])), (ea1, .inl (G.2.2.1, 16, .inl eac)), (ea2, .inl (G.2.2.1, 288, .inl eay)), (eb, .inr (1, [.ref eb1, .ref eb2, .int ebs])), (eb1, .inl (G.2.2.1, 16, .inl ebc)), (eb2, .inl (G.2.2.1, 32, .inl eby)), (ef, .inr (1, [.ref ef1, .ref ef2, .int efs])), (ef1, .inl (G.2.2.1, 16, .inl efc)), (ef2, .inl (G.2.2.1, 19, .inl efy)), (ec, .inr (1, [.ref ec1, .ref ec2, .int ecs])), (ec1, .inl (G.2.2.1, 16, .inl ecc)), (ec2, .inl (G.2.2.1, 286, .inl ecy)), (ed, .inr (1, [.ref ed1, .ref ed2, .int eds])), (ed1, .inl (G.2.2.1, 16, .inl edc)), (ed2, .inl (G.2.2.1, 30, .inl edy)), (h, .inr (7, [.ref b])), (sp, .inr (3, [.ref tn, .ref tz, .ref tb, .ref tg, .int c_99])), (tn, .inl (G.2.1, 384, .inl fn_100)), (tz, .inl (G.2.2.1, 16, .inl fz_101)), (tb, .inl (G.2.1, 12000, .inl fb_102)), (tg, .inl (G.2.2.1, 17, .inl fg_103)), (b, .inl (G.2.1, N, .inl f))]) ?_
                  refine pb_iconst (pc := 278) (v := 0) d_FileReader_readEntry_278 (by decide) ?_
                  exact pb_iret (pc := 279) hQ d_FileReader_readEntry_279 rfl rfl (0, c_99, fn_100, fz_101, fb_102, fg_103, er, at_, en, fl, xs, xf, tf, efs, efc, efy, ecs, ecc, ecy, eds, edc, edy) ⟨rfl, (by (try dsimp only); first | done | assumption | decide | omega), (by (try dsimp only); first | done | assumption | omega (splitDisjunctions := false) | omega | decide), (by (try dsimp only); first | done | assumption | omega (splitDisjunctions := false) | omega | decide), (by (try dsimp only); first | done | assumption | decide | omega), (by (try dsimp only); first | done | assumption | omega (splitDisjunctions := false) | omega | decide), (by (try dsimp only); first | done | assumption | decide | omega), (by (try dsimp only); first | done | assumption | omega (splitDisjunctions := false) | omega | decide), (by (try dsimp only); first | done | assumption | decide | omega), (by (try dsimp only); first | done | assumption | omega (splitDisjunctions := false) | omega | decide), (show hid_ (∃ W : VW_, en_R A lm.toInt x.toInt V (0 : Int32).toInt W ∧ ((0 : Int32).toInt = 0 → rC_ c_99.toInt fn_100 fz_101 fb_102 fg_103 W)) from (hid_i ⟨W9, en_0 (by first | decide | omega) rrF nkF okF ((hid_o rmI).mpr ⟨hr8.1, Or.inr ⟨by omega, hr8.2⟩⟩) adF, fun _ => rcF⟩)), fh108, fh109, F_xf⟩ [19, 25, 20, 21, 22, 23, 24, 0, 1, 2, 3, 4, 5, 6, 7, 8, 9, 10, 11, 12, 13, 14, 15, 16, 17, 18] (by decide) rfl rfl (by decide) (by decide)
                · have tw96 : r_92.toInt = 0 := (ti_eq rfl (by decide)).mp w96
                  refine pb_bipush (pc := 256) (v := 6) d_FileReader_readEntry_256 (by decide) ?_
                  exact pb_iret (pc := 258) hQ d_FileReader_readEntry_258 rfl rfl (6, c, tfn, tfz, tfb, tfg, er, at_, en, fl, xs, xf, tf, efs, efc, efy, ecs, ecc, ecy, eds, edc, edy) ⟨rfl, (by (try dsimp only); first | done | assumption | decide | omega), (by (try dsimp only); first | done | assumption | omega (splitDisjunctions := false) | omega | decide), (by (try dsimp only); first | done | assumption | omega (splitDisjunctions := false) | omega | decide), (by (try dsimp only); first | done | assumption | decide | omega), (by (try dsimp only); first | done | assumption | omega (splitDisjunctions := false) | omega | decide), (by (try dsimp only); first | done | assumption | decide | omega), (by (try dsimp only); first | done | assumption | omega (splitDisjunctions := false) | omega | decide), (by (try dsimp only); first | done | assumption | decide | omega), (by (try dsimp only); first | done | assumption | omega (splitDisjunctions := false) | omega | decide), (show hid_ (∃ W : VW_, en_R A lm.toInt x.toInt V (6 : Int32).toInt W ∧ ((6 : Int32).toInt = 0 → rC_ c.toInt tfn tfz tfb tfg W)) from (hid_i ⟨V, en_6 (by first | decide | omega) rrF nkF okF (fun q9 => hid_o hrN (by omega) (by have q8 := (hid_o rmI).mp q9; omega)), fun q9 => absurd q9 (by first | decide | omega)⟩)), F_tfn, F_tfb, F_xf⟩ [20, 23, 24, 21, 22, 0, 25, 1, 2, 3, 4, 5, 6, 7, 8, 9, 10, 11, 12, 13, 14, 15, 16, 17, 18, 19] (by decide) rfl rfl (by decide) (by decide)
              · have tw89 : ¬ r_79.toInt = i88.toInt := fun z9 => w89 ((ti_eq rfl rfl).mpr z9)
                refine pb_iconst (pc := 243) (v := 5) d_FileReader_readEntry_243 (by decide) ?_
                exact pb_iret (pc := 244) hQ d_FileReader_readEntry_244 rfl rfl (5, c, tfn, tfz, tfb, tfg, er, at_, en, fl, xs, xf, tf, efs, efc, efy, ecs, ecc, ecy, eds, edc, edy) ⟨rfl, (by (try dsimp only); first | done | assumption | decide | omega), (by (try dsimp only); first | done | assumption | omega (splitDisjunctions := false) | omega | decide), (by (try dsimp only); first | done | assumption | omega (splitDisjunctions := false) | omega | decide), (by (try dsimp only); first | done | assumption | decide | omega), (by (try dsimp only); first | done | assumption | omega (splitDisjunctions := false) | omega | decide), (by (try dsimp only); first | done | assumption | decide | omega), (by (try dsimp only); first | done | assumption | omega (splitDisjunctions := false) | omega | decide), (by (try dsimp only); first | done | assumption | decide | omega), (by (try dsimp only); first | done | assumption | omega (splitDisjunctions := false) | omega | decide), (show hid_ (∃ W : VW_, en_R A lm.toInt x.toInt V (5 : Int32).toInt W ∧ ((5 : Int32).toInt = 0 → rC_ c.toInt tfn tfz tfb tfg W)) from (hid_i ⟨V, en_5 (by first | decide | omega) rrF nkF (by first | exact ok_x bsQ smF sdF cE (by omega) (by omega) | exact (if z9 : fX = 0 then ok_no (hid_o bsP z9) (fun q9 => absurd q9.1 (by omega)) else hid_o bsN z9)), fun q9 => absurd q9 (by first | decide | omega)⟩)), F_tfn, F_tfb, F_xf⟩ [21, 25, 22, 23, 24, 0, 1, 2, 3, 4, 5, 6, 7, 8, 9, 10, 11, 12, 13, 14, 15, 16, 17, 18, 19, 20] (by decide) rfl rfl (by decide) (by decide)
          · have tw61 : r_56.toInt = 8 := (ti_eq rfl (by decide)).mp w61
            refine pb_iconst (pc := 130) (v := 1) d_FileReader_readEntry_130 (by decide) ?_
            refine pb_goto (pc := 131) (tgt := 135) d_FileReader_readEntry_131 (by decide) ?_
            refine pb_istore (pc := 135) (lo' := [(14, .int 1), (13, .int i37), (11, .long j25), (10, .int r_18), (8, .long r_11), (6, .long r_4), (0, .ref h), (1, .int x), (2, .long lm), (4, .ref sp), (5, .ref q)]) d_FileReader_readEntry_135 (by decide) rfl ?_
            refine pb_iload (pc := 137) d_FileReader_readEntry_137 0 rfl ?_
            refine pb_if_eq (pc := 139) (tgt := 160) d_FileReader_readEntry_139 (by decide) (fun h9 => absurd h9 (by decide)) (fun _ => ?_)
            refine pb_aload (pc := 142) d_FileReader_readEntry_142 10 rfl ?_
            refine pb_aload_n (pc := 144) d_FileReader_readEntry_144 6 rfl rfl ?_
            refine pb_get (pc := 145) d_FileReader_readEntry_145 21 0 rfl rfl (by decide) in_FileReader k_306 rfl ?_
            refine pb_lload (pc := 148) d_FileReader_readEntry_148 2 rfl ?_
            refine pb_l2i (pc := 150) d_FileReader_readEntry_150 rfl ?_
            refine pb_topi (fun i111 ei111 => ?_)
            try have ti111 : i111.toInt = j25.toInt := ti_l2i ei111 rfl (by omega) (by omega)
            refine pb_lload (pc := 151) d_FileReader_readEntry_151 4 rfl ?_
            refine pb_l2i (pc := 153) d_FileReader_readEntry_153 rfl ?_
            refine pb_topi (fun i112 ei112 => ?_)
            try have ti112 : i112.toInt = r_11.toInt := ti_l2i ei112 rfl (by omega) (by omega)
            refine pb_callV (pc := 154) (I := i_FileReader_readEntry) (qb := 2) (ci := 5) (nA := 3) (rest := []) (wr := [(tb, .inl (G.2.1, 12000, .inl tfb)), (tg, .inl (G.2.2.1, 17, .inl tfg)), (h, .inr (7, [.ref b])), (sp, .inr (3, [.ref tn, .ref tz, .ref tb, .ref tg, .int c])), (tn, .inl (G.2.1, 384, .inl tfn)), (tz, .inl (G.2.2.1, 16, .inl tfz))]) d_FileReader_readEntry_154 (g_Exp_run hl G q ex et ea eb ec ed ef er at_ en fl b N f ey xf xs tf ea1 ea2 eas eac eay eb1 eb2 ebs ebc eby ef1 ef2 efs efc efy ec1 ec2 ecs ecc ecy ed1 ed2 eds edc edy i111 i112 A (by first | assumption | omega (splitDisjunctions := false) | omega | decide) (by first | assumption | omega (splitDisjunctions := false) | omega | decide) (by first | assumption | omega (splitDisjunctions := false) | omega | decide) (by first | assumption | omega (splitDisjunctions := false) | omega | decide) (fun j h0 h1 => hA j h0 (by omega)) (by first | assumption | decide | omega) (by first | assumption | omega (splitDisjunctions := false) | omega | decide) (by first | assumption | decide | omega) (by first | assumption | omega (splitDisjunctions := false) | omega | decide) (by first | assumption | omega (splitDisjunctions := false) | omega | decide) (by first | assumption | omega (splitDisjunctions := false) | omega | decide) (by first | assumption | decide | omega) (by first | assumption | omega (splitDisjunctions := false) | omega | decide) (by first | assumption | decide | omega) (by first | assumption | omega (splitDisjunctions := false) | omega | decide) (by first | assumption | decide | omega) (by first | assumption | omega (splitDisjunctions := false) | omega | decide) F_f F_xf) rfl rfl [2, 25, 3, 4, 5, 6, 7, 8, 9, 10, 11, 12, 13, 14, 15, 16, 17, 18, 19, 20] [0, 1, 21, 22, 23, 24] (by decide) rfl rfl rfl (by decide) (by decide) k_630 rfl k_121 k_627 k_628 k_629 ⟨rfl, hy_Expander_run⟩ (by decide) rfl rfl (Nat.le_of_ble_eq_true rfl) (by decide) (fun v9 u114 ch113 => ?_)
            obtain ⟨r_115, a2__116, e2__117, f2__118, s2__119, xf_120, tf_121, efs_122, efc_123, efy_124, ecs_125, ecc_126, ecy_127, eds_128, edc_129, edy_130⟩ := u114
            obtain ⟨ech113, ch113⟩ := ch113
            have ech113 : v9 = some (.int r_115) := ech113
            subst ech113
            obtain ⟨fh131, fh132, fh133, fh134, fh135, fh136, fh137, fh138, fh139, fh140, fh141, fh142⟩ : (r_115.toInt < 0 ∨ r_115.toInt = s2__119.toInt) ∧ (0 ≤ s2__119.toInt) ∧ (s2__119.toInt ≤ 4000) ∧ (co_I efs_122.toInt efc_123 efy_124 19) ∧ (efs_122.toInt ≤ 19) ∧ (co_I ecs_125.toInt ecc_126 ecy_127 288) ∧ (ecs_125.toInt ≤ 286) ∧ (co_I eds_128.toInt edc_129 edy_130 32) ∧ (eds_128.toInt ≤ 30) ∧ (ex_f A od_ i111.toInt i112.toInt = oz_ f2__118.toInt a2__116.toInt s2__119.toInt (sq xf_120 0 s2__119.toInt)) ∧ (f2__118.toInt = 0 ∧ r_115.toInt = s2__119.toInt ∨ 0 < f2__118.toInt ∧ r_115.toInt = - f2__118.toInt) ∧ (sb_Fit xf_120) := ch113
            have xzF := fh140
            have xrF := fh141
            have xrG := fh131
            clear fh131 fh141
            rw [show i111.toInt = aw A (x.toInt + 42) 4 + 30 + aw A (x.toInt + 28) 2 by omega, show i112.toInt = aw A (x.toInt + 20) 4 by omega] at xzF
            obtain ⟨sX, esX⟩ : ∃ z : Int, z = s2__119.toInt := ⟨_, rfl⟩
            obtain ⟨fX, efX⟩ : ∃ z : Int, z = f2__118.toInt := ⟨_, rfl⟩
            obtain ⟨dX, edX⟩ : ∃ z : Int → Int32, z = sq xf_120 0 s2__119.toInt := ⟨_, rfl⟩
            rw [← edX, ← esX, ← efX] at xzF
            have bsP : hid_ (fX = 0 → bs_ A x.toInt sX dX) := hid_i (fun q9 => Or.inl ⟨by omega, _, by rw [q9] at xzF; exact xzF⟩)
            have bsN : hid_ (¬ fX = 0 → ∀ (s9 : Int) (d9 : Int → Int32), ¬ ok_ A x.toInt s9 d9) := hid_i (fun q9 => ok_nz (by omega) xzF q9)
            have dxE : ∀ k : Int, 0 ≤ k → k < sX → ∀ Y9 : Int, Y9 = 0 → gr xf_120 (Y9 + k) = dX k := fun k h0 h1 Y9 hY => by rw [edX]; exact sq_at0 hY h0 (by omega)
            refine pb_eq (pc' := 157) (lo' := [(14, .int 1), (13, .int i37), (11, .long j25), (10, .int r_18), (8, .long r_11), (6, .long r_4), (0, .ref h), (1, .int x), (2, .long lm), (4, .ref sp), (5, .ref q)]) (rest' := [.int r_115]) (ws' := [(tb, .inl (G.2.1, 12000, .inl tfb)), (tg, .inl (G.2.2.1, 17, .inl tfg)), (h, .inr (7, [.ref b])), (sp, .inr (3, [.ref tn, .ref tz, .ref tb, .ref tg, .int c])), (tn, .inl (G.2.1, 384, .inl tfn)), (tz, .inl (G.2.2.1, 16, .inl tfz)), (q, .inr (5, [.ref ex, .ref et, .ref ea, .ref eb, .ref ec, .ref ed, .ref ef, .ref b, .int a2__116, .int e2__117, .int f2__118])), (b, .inl (G.2.1, N, .inl f)), (ex, .inr (0, [.ref ey, .int s2__119])), (ey, .inl (G.2.1, 4000, .inl xf_120)), (et, .inl (G.2.2.1, 316, .inl tf_121)), (ea, .inr (1, [.ref ea1, .ref ea2, .int eas])), (ea1, .inl (G.2.2.1, 16, .inl eac)), (ea2, .inl (G.2.2.1, 288, .inl eay)), (eb, .inr (1, [.ref eb1, .ref eb2, .int ebs])), (eb1, .inl (G.2.2.1, 16, .inl ebc)), (eb2, .inl (G.2.2.1, 32, .inl eby)), (ef, .inr (1, [.ref ef1, .ref ef2, .int efs_122])), (ef1, .inl (G.2.2.1, 16, .inl efc_123)), (ef2, .inl (G.2.2.1, 19, .inl efy_124)), (ec, .inr (1, [.ref ec1, .ref ec2, .int ecs_125])), (ec1, .inl (G.2.2.1, 16, .inl ecc_126)), (ec2, .inl (G.2.2.1, 286, .inl ecy_127)), (ed, .inr (1, [.ref ed1, .ref ed2, .int eds_128])), (ed1, .inl (G.2.2.1, 16, .inl edc_129)), (ed2, .inl (G.2.2.1, 30, .inl edy_130))]) ?_
            refine pb_goto (pc := 157) (tgt := 163) d_FileReader_readEntry_157 (by decide) ?_
            refine pb_istore (pc := 163) (lo' := [(15, .int r_115), (14, .int 1), (13, .int i37), (11, .long j25), (10, .int r_18), (8, .long r_11), (6, .long r_4), (0, .ref h), (1, .int x), (2, .long lm), (4, .ref sp), (5, .ref q)]) d_FileReader_readEntry_163 (by decide) rfl ?_
            refine pb_iload (pc := 165) d_FileReader_readEntry_165 1 rfl ?_
            refine pb_if_eq (pc := 167) (tgt := 181) d_FileReader_readEntry_167 (by decide) (fun h9 => absurd h9 (by decide)) (fun _ => ?_)
            refine pb_aload (pc := 170) d_FileReader_readEntry_170 11 rfl ?_
            refine pb_getN (pc := 172) d_FileReader_readEntry_172 6 0 rfl rfl (by decide) in_Expander k_249 rfl ?_
            refine pb_getN (pc := 175) d_FileReader_readEntry_175 8 0 rfl rfl (by decide) in_Row k_159 rfl ?_
            refine pb_goto (pc := 178) (tgt := 185) d_FileReader_readEntry_178 (by decide) ?_
            refine pb_astore (pc := 185) (lo' := [(16, .ref ey), (15, .int r_115), (14, .int 1), (13, .int i37), (11, .long j25), (10, .int r_18), (8, .long r_11), (6, .long r_4), (0, .ref h), (1, .int x), (2, .long lm), (4, .ref sp), (5, .ref q)]) d_FileReader_readEntry_185 (by decide) rfl ?_
            refine pb_iload (pc := 187) d_FileReader_readEntry_187 2 rfl ?_
            refine pb_if_eq (pc := 189) (tgt := 196) d_FileReader_readEntry_189 (by decide) (fun h9 => absurd h9 (by decide)) (fun _ => ?_)
            refine pb_iconst (pc := 192) (v := 0) d_FileReader_readEntry_192 (by decide) ?_
            refine pb_goto (pc := 193) (tgt := 199) d_FileReader_readEntry_193 (by decide) ?_
            refine pb_istore (pc := 199) (lo' := [(17, .int 0), (16, .ref ey), (15, .int r_115), (14, .int 1), (13, .int i37), (11, .long j25), (10, .int r_18), (8, .long r_11), (6, .long r_4), (0, .ref h), (1, .int x), (2, .long lm), (4, .ref sp), (5, .ref q)]) d_FileReader_readEntry_199 (by decide) rfl ?_
            refine pb_iload (pc := 201) d_FileReader_readEntry_201 2 rfl ?_
            refine pb_i2l (pc := 203) d_FileReader_readEntry_203 rfl ?_
            refine pb_topl (fun j145 ej145 => ?_)
            have tj145 : j145.toInt = r_115.toInt := tl_i2l ej145 rfl
            refine pb_aload_n (pc := 204) d_FileReader_readEntry_204 9 rfl rfl ?_
            refine pb_get (pc := 205) d_FileReader_readEntry_205 2 0 rfl rfl (by decide) in_FileReader k_306 rfl ?_
            refine pb_iload_n (pc := 208) d_FileReader_readEntry_208 10 rfl rfl ?_
            refine pb_bipush (pc := 209) (v := 24) d_FileReader_readEntry_209 (by decide) ?_
            refine pb_iadd (pc := 211) d_FileReader_readEntry_211 ?_
            refine pb_topi (fun i146 ei146 => ?_)
            try have ti146 : i146.toInt = x.toInt + 24 := t2_add ei146 rfl (by decide) (by omega)
            refine pb_callSN (pc := 212) (I := i_FileReader_readEntry) (nA := 2) (rest := [.long j145]) (wr := [(tb, .inl (G.2.1, 12000, .inl tfb)), (tg, .inl (G.2.2.1, 17, .inl tfg)), (h, .inr (7, [.ref b])), (sp, .inr (3, [.ref tn, .ref tz, .ref tb, .ref tg, .int c])), (tn, .inl (G.2.1, 384, .inl tfn)), (tz, .inl (G.2.2.1, 16, .inl tfz)), (q, .inr (5, [.ref ex, .ref et, .ref ea, .ref eb, .ref ec, .ref ed, .ref ef, .ref b, .int a2__116, .int e2__117, .int f2__118])), (ex, .inr (0, [.ref ey, .int s2__119])), (ey, .inl (G.2.1, 4000, .inl xf_120)), (et, .inl (G.2.2.1, 316, .inl tf_121)), (ea, .inr (1, [.ref ea1, .ref ea2, .int eas])), (ea1, .inl (G.2.2.1, 16, .inl eac)), (ea2, .inl (G.2.2.1, 288, .inl eay)), (eb, .inr (1, [.ref eb1, .ref eb2, .int ebs])), (eb1, .inl (G.2.2.1, 16, .inl ebc)), (eb2, .inl (G.2.2.1, 32, .inl eby)), (ef, .inr (1, [.ref ef1, .ref ef2, .int efs_122])), (ef1, .inl (G.2.2.1, 16, .inl efc_123)), (ef2, .inl (G.2.2.1, 19, .inl efy_124)), (ec, .inr (1, [.ref ec1, .ref ec2, .int ecs_125])), (ec1, .inl (G.2.2.1, 16, .inl ecc_126)), (ec2, .inl (G.2.2.1, 286, .inl ecy_127)), (ed, .inr (1, [.ref ed1, .ref ed2, .int eds_128])), (ed1, .inl (G.2.2.1, 16, .inl edc_129)), (ed2, .inl (G.2.2.1, 30, .inl edy_130))]) d_FileReader_readEntry_212 (g_fourAt hl G b N f i146 (by first | assumption | omega (splitDisjunctions := false) | omega | decide) (by first | assumption | omega (splitDisjunctions := false) | omega | decide) (by first | assumption | omega (splitDisjunctions := false) | omega | decide) F_f) [7] [0, 1, 2, 3, 4, 5, 6, 8, 9, 10, 11, 12, 13, 14, 15, 16, 17, 18, 19, 20, 21, 22, 23, 24, 25] (by decide) rfl rfl rfl (by decide) (by decide) k_594 rfl k_118 k_592 k_593 hy_Book_fourAt (by decide) rfl rfl (Nat.le_of_ble_eq_true rfl) (by decide) (fun v9 u148 ch147 => ?_)
            obtain ⟨r_149, rfl⟩ : ∃ z9, z9 = u148 := ⟨_, rfl⟩
            obtain ⟨ech147, ch147⟩ := ch147
            have ech147 : v9 = some (.long r_149) := ech147
            subst ech147
            obtain ⟨fh150, fh151, fh152⟩ : (0 ≤ r_149.toInt) ∧ (r_149.toInt < 4294967296) ∧ (r_149.toInt = av f i146.toInt 4) := ch147
            have u24 : r_149.toInt = aw A (x.toInt + 24) 4 := by rw [fh152, show i146.toInt = x.toInt + 24 by omega]; exact av_A hA 4 (by omega) (by omega)
            refine pb_eq (pc' := 215) (lo' := [(17, .int 0), (16, .ref ey), (15, .int r_115), (14, .int 1), (13, .int i37), (11, .long j25), (10, .int r_18), (8, .long r_11), (6, .long r_4), (0, .ref h), (1, .int x), (2, .long lm), (4, .ref sp), (5, .ref q)]) (rest' := [.long r_149, .long j145]) (ws' := [(tb, .inl (G.2.1, 12000, .inl tfb)), (tg, .inl (G.2.2.1, 17, .inl tfg)), (h, .inr (7, [.ref b])), (sp, .inr (3, [.ref tn, .ref tz, .ref tb, .ref tg, .int c])), (tn, .inl (G.2.1, 384, .inl tfn)), (tz, .inl (G.2.2.1, 16, .inl tfz)), (q, .inr (5, [.ref ex, .ref et, .ref ea, .ref eb, .ref ec, .ref ed, .ref ef, .ref b, .int a2__116, .int e2__117, .int f2__118])), (ex, .inr (0, [.ref ey, .int s2__119])), (ey, .inl (G.2.1, 4000, .inl xf_120)), (et, .inl (G.2.2.1, 316, .inl tf_121)), (ea, .inr (1, [.ref ea1, .ref ea2, .int eas])), (ea1, .inl (G.2.2.1, 16, .inl eac)), (ea2, .inl (G.2.2.1, 288, .inl eay)), (eb, .inr (1, [.ref eb1, .ref eb2, .int ebs])), (eb1, .inl (G.2.2.1, 16, .inl ebc)), (eb2, .inl (G.2.2.1, 32, .inl eby)), (ef, .inr (1, [.ref ef1, .ref ef2, .int efs_122])), (ef1, .inl (G.2.2.1, 16, .inl efc_123)), (ef2, .inl (G.2.2.1, 19, .inl efy_124)), (ec, .inr (1, [.ref ec1, .ref ec2, .int ecs_125])), (ec1, .inl (G.2.2.1, 16, .inl ecc_126)), (ec2, .inl (G.2.2.1, 286, .inl ecy_127)), (ed, .inr (1, [.ref ed1, .ref ed2, .int eds_128])), (ed1, .inl (G.2.2.1, 16, .inl edc_129)), (ed2, .inl (G.2.2.1, 30, .inl edy_130)), (b, .inl (G.2.1, N, .inl f))]) ?_
            refine pb_lcmp (pc := 215) d_FileReader_readEntry_215 ?_
            refine pb_topi (fun i153 ei153 => ?_)
            have ti153 : (i153.toInt < 0 ↔ j145.toInt < r_149.toInt) ∧ (i153.toInt = 0 ↔ j145.toInt = r_149.toInt) ∧ (0 < i153.toInt ↔ r_149.toInt < j145.toInt) := tl_cmp ei153 rfl rfl
            obtain ⟨lc1, lc2, lc3⟩ := ti153
            refine pb_if_ne (pc := 216) (tgt := 243) d_FileReader_readEntry_216 (by decide) (fun w154 => ?_) (fun w154 => ?_)
            · have tw154 : ¬ i153.toInt = 0 := fun z9 => w154 ((ti_eq rfl (by decide)).mpr z9)
              refine pb_iconst (pc := 243) (v := 5) d_FileReader_readEntry_243 (by decide) ?_
              exact pb_iret (pc := 244) hQ d_FileReader_readEntry_244 rfl rfl (5, c, tfn, tfz, tfb, tfg, b, a2__116, e2__117, f2__118, s2__119, xf_120, tf_121, efs_122, efc_123, efy_124, ecs_125, ecc_126, ecy_127, eds_128, edc_129, edy_130) ⟨rfl, (by (try dsimp only); first | done | assumption | decide | omega), (by (try dsimp only); first | done | assumption | omega (splitDisjunctions := false) | omega | decide), (by (try dsimp only); first | done | assumption | omega (splitDisjunctions := false) | omega | decide), (by (try dsimp only); first | done | assumption | decide | omega), (by (try dsimp only); first | done | assumption | omega (splitDisjunctions := false) | omega | decide), (by (try dsimp only); first | done | assumption | decide | omega), (by (try dsimp only); first | done | assumption | omega (splitDisjunctions := false) | omega | decide), (by (try dsimp only); first | done | assumption | decide | omega), (by (try dsimp only); first | done | assumption | omega (splitDisjunctions := false) | omega | decide), (show hid_ (∃ W : VW_, en_R A lm.toInt x.toInt V (5 : Int32).toInt W ∧ ((5 : Int32).toInt = 0 → rC_ c.toInt tfn tfz tfb tfg W)) from (hid_i ⟨V, en_5 (by first | decide | omega) rrF nkF (by first | exact ok_x bsQ smF sdF cE (by omega) (by omega) | exact (if z9 : fX = 0 then ok_no (hid_o bsP z9) (fun q9 => absurd q9.1 (by omega)) else hid_o bsN z9)), fun q9 => absurd q9 (by first | decide | omega)⟩)), F_tfn, F_tfb, fh142⟩ [2, 25, 3, 4, 5, 0, 1, 6, 7, 8, 9, 10, 11, 12, 13, 14, 15, 16, 17, 18, 19, 20, 21, 22, 23, 24] (by decide) rfl rfl (by decide) (by decide)
            · have tw154 : i153.toInt = 0 := (ti_eq rfl (by decide)).mp w154
              have lc5 := lc2.mp (by assumption)
              clear lc1 lc2 lc3
              have fX0 : fX = 0 := by omega
              have bsQ := hid_o bsP fX0
              refine pb_aload (pc := 219) d_FileReader_readEntry_219 1 rfl ?_
              refine pb_iload (pc := 221) d_FileReader_readEntry_221 0 rfl ?_
              refine pb_iload (pc := 223) d_FileReader_readEntry_223 2 rfl ?_
              have mX : r_115.toInt = sX := by omega
              try clear xrF xrG
              have fr0 : 0 ≤ (0 : Int32).toInt := by omega
              refine pb_callSN (pc := 225) (I := i_FileReader_readEntry) (nA := 3) (rest := []) (wr := [(tb, .inl (G.2.1, 12000, .inl tfb)), (tg, .inl (G.2.2.1, 17, .inl tfg)), (h, .inr (7, [.ref b])), (sp, .inr (3, [.ref tn, .ref tz, .ref tb, .ref tg, .int c])), (tn, .inl (G.2.1, 384, .inl tfn)), (tz, .inl (G.2.2.1, 16, .inl tfz)), (q, .inr (5, [.ref ex, .ref et, .ref ea, .ref eb, .ref ec, .ref ed, .ref ef, .ref b, .int a2__116, .int e2__117, .int f2__118])), (ex, .inr (0, [.ref ey, .int s2__119])), (et, .inl (G.2.2.1, 316, .inl tf_121)), (ea, .inr (1, [.ref ea1, .ref ea2, .int eas])), (ea1, .inl (G.2.2.1, 16, .inl eac)), (ea2, .inl (G.2.2.1, 288, .inl eay)), (eb, .inr (1, [.ref eb1, .ref eb2, .int ebs])), (eb1, .inl (G.2.2.1, 16, .inl ebc)), (eb2, .inl (G.2.2.1, 32, .inl eby)), (ef, .inr (1, [.ref ef1, .ref ef2, .int efs_122])), (ef1, .inl (G.2.2.1, 16, .inl efc_123)), (ef2, .inl (G.2.2.1, 19, .inl efy_124)), (ec, .inr (1, [.ref ec1, .ref ec2, .int ecs_125])), (ec1, .inl (G.2.2.1, 16, .inl ecc_126)), (ec2, .inl (G.2.2.1, 286, .inl ecy_127)), (ed, .inr (1, [.ref ed1, .ref ed2, .int eds_128])), (ed1, .inl (G.2.2.1, 16, .inl edc_129)), (ed2, .inl (G.2.2.1, 30, .inl edy_130)), (b, .inl (G.2.1, N, .inl f))]) d_FileReader_readEntry_225 (g_sumOf hl G ey 4000 xf_120 0 r_115 (by first | assumption | omega (splitDisjunctions := false) | omega | decide) (by first | assumption | omega (splitDisjunctions := false) | omega | decide) (by first | assumption | omega (splitDisjunctions := false) | omega | decide) (by first | assumption | omega (splitDisjunctions := false) | omega | decide) fh142) [8] [0, 1, 2, 3, 4, 5, 6, 7, 9, 10, 11, 12, 13, 14, 15, 16, 17, 18, 19, 20, 21, 22, 23, 24, 25] (by decide) rfl rfl rfl (by decide) (by decide) k_559 rfl k_118 k_692 k_558 hy_Book_sumOf (by decide) rfl rfl (Nat.le_of_ble_eq_true rfl) (by decide) (fun v9 u156 ch155 => ?_)
              obtain ⟨r_157, rfl⟩ : ∃ z9, z9 = u156 := ⟨_, rfl⟩
              obtain ⟨ech155, ch155⟩ := ch155
              have ech155 : v9 = some (.int r_157) := ech155
              subst ech155
              have fh158 : r_157 = cr_n xf_120 (0 : Int32).toInt r_115.toInt.toNat ^^^ (-1) := ch155
              have smF := fh158
              rw [show r_115.toInt = sX by omega] at smF
              have sdF := fun (k : Int) (h0 : 0 ≤ k) (h1 : k < sX) => dxE k h0 h1 (0 : Int32).toInt (by omega)
              refine pb_eq (pc' := 228) (lo' := [(17, .int 0), (16, .ref ey), (15, .int r_115), (14, .int 1), (13, .int i37), (11, .long j25), (10, .int r_18), (8, .long r_11), (6, .long r_4), (0, .ref h), (1, .int x), (2, .long lm), (4, .ref sp), (5, .ref q)]) (rest' := [.int r_157]) (ws' := [(tb, .inl (G.2.1, 12000, .inl tfb)), (tg, .inl (G.2.2.1, 17, .inl tfg)), (h, .inr (7, [.ref b])), (sp, .inr (3, [.ref tn, .ref tz, .ref tb, .ref tg, .int c])), (tn, .inl (G.2.1, 384, .inl tfn)), (tz, .inl (G.2.2.1, 16, .inl tfz)), (q, .inr (5, [.ref ex, .ref et, .ref ea, .ref eb, .ref ec, .ref ed, .ref ef, .ref b, .int a2__116, .int e2__117, .int f2__118])), (ex, .inr (0, [.ref ey, .int s2__119])), (et, .inl (G.2.2.1, 316, .inl tf_121)), (ea, .inr (1, [.ref ea1, .ref ea2, .int eas])), (ea1, .inl (G.2.2.1, 16, .inl eac)), (ea2, .inl (G.2.2.1, 288, .inl eay)), (eb, .inr (1, [.ref eb1, .ref eb2, .int ebs])), (eb1, .inl (G.2.2.1, 16, .inl ebc)), (eb2, .inl (G.2.2.1, 32, .inl eby)), (ef, .inr (1, [.ref ef1, .ref ef2, .int efs_122])), (ef1, .inl (G.2.2.1, 16, .inl efc_123)), (ef2, .inl (G.2.2.1, 19, .inl efy_124)), (ec, .inr (1, [.ref ec1, .ref ec2, .int ecs_125])), (ec1, .inl (G.2.2.1, 16, .inl ecc_126)), (ec2, .inl (G.2.2.1, 286, .inl ecy_127)), (ed, .inr (1, [.ref ed1, .ref ed2, .int eds_128])), (ed1, .inl (G.2.2.1, 16, .inl edc_129)), (ed2, .inl (G.2.2.1, 30, .inl edy_130)), (b, .inl (G.2.1, N, .inl f)), (ey, .inl (G.2.1, 4000, .inl xf_120))]) ?_
              refine pb_aload_n (pc := 228) d_FileReader_readEntry_228 9 rfl rfl ?_
              refine pb_get (pc := 229) d_FileReader_readEntry_229 2 0 rfl rfl (by decide) in_FileReader k_306 rfl ?_
              refine pb_iload_n (pc := 232) d_FileReader_readEntry_232 10 rfl rfl ?_
              refine pb_bipush (pc := 233) (v := 16) d_FileReader_readEntry_233 (by decide) ?_
              refine pb_iadd (pc := 235) d_FileReader_readEntry_235 ?_
              refine pb_topi (fun i159 ei159 => ?_)
              try have ti159 : i159.toInt = x.toInt + 16 := t2_add ei159 rfl (by decide) (by omega)
              refine pb_callSN (pc := 236) (I := i_FileReader_readEntry) (nA := 2) (rest := [.int r_157]) (wr := [(tb, .inl (G.2.1, 12000, .inl tfb)), (tg, .inl (G.2.2.1, 17, .inl tfg)), (h, .inr (7, [.ref b])), (sp, .inr (3, [.ref tn, .ref tz, .ref tb, .ref tg, .int c])), (tn, .inl (G.2.1, 384, .inl tfn)), (tz, .inl (G.2.2.1, 16, .inl tfz)), (q, .inr (5, [.ref ex, .ref et, .ref ea, .ref eb, .ref ec, .ref ed, .ref ef, .ref b, .int a2__116, .int e2__117, .int f2__118])), (ex, .inr (0, [.ref ey, .int s2__119])), (et, .inl (G.2.2.1, 316, .inl tf_121)), (ea, .inr (1, [.ref ea1, .ref ea2, .int eas])), (ea1, .inl (G.2.2.1, 16, .inl eac)), (ea2, .inl (G.2.2.1, 288, .inl eay)), (eb, .inr (1, [.ref eb1, .ref eb2, .int ebs])), (eb1, .inl (G.2.2.1, 16, .inl ebc)), (eb2, .inl (G.2.2.1, 32, .inl eby)), (ef, .inr (1, [.ref ef1, .ref ef2, .int efs_122])), (ef1, .inl (G.2.2.1, 16, .inl efc_123)), (ef2, .inl (G.2.2.1, 19, .inl efy_124)), (ec, .inr (1, [.ref ec1, .ref ec2, .int ecs_125])), (ec1, .inl (G.2.2.1, 16, .inl ecc_126)), (ec2, .inl (G.2.2.1, 286, .inl ecy_127)), (ed, .inr (1, [.ref ed1, .ref ed2, .int eds_128])), (ed1, .inl (G.2.2.1, 16, .inl edc_129)), (ed2, .inl (G.2.2.1, 30, .inl edy_130)), (ey, .inl (G.2.1, 4000, .inl xf_120))]) d_FileReader_readEntry_236 (g_fourAt hl G b N f i159 (by first | assumption | omega (splitDisjunctions := false) | omega | decide) (by first | assumption | omega (splitDisjunctions := false) | omega | decide) (by first | assumption | omega (splitDisjunctions := false) | omega | decide) F_f) [24] [0, 1, 2, 3, 4, 5, 6, 7, 8, 9, 10, 11, 12, 13, 14, 15, 16, 17, 18, 19, 20, 21, 22, 23, 25] (by decide) rfl rfl rfl (by decide) (by decide) k_594 rfl k_118 k_592 k_593 hy_Book_fourAt (by decide) rfl rfl (Nat.le_of_ble_eq_true rfl) (by decide) (fun v9 u161 ch160 => ?_)
              obtain ⟨r_162, rfl⟩ : ∃ z9, z9 = u161 := ⟨_, rfl⟩
              obtain ⟨ech160, ch160⟩ := ch160
              have ech160 : v9 = some (.long r_162) := ech160
              subst ech160
              obtain ⟨fh163, fh164, fh165⟩ : (0 ≤ r_162.toInt) ∧ (r_162.toInt < 4294967296) ∧ (r_162.toInt = av f i159.toInt 4) := ch160
              have u16 : r_162.toInt = aw A (x.toInt + 16) 4 := by rw [fh165, show i159.toInt = x.toInt + 16 by omega]; exact av_A hA 4 (by omega) (by omega)
              refine pb_eq (pc' := 239) (lo' := [(17, .int 0), (16, .ref ey), (15, .int r_115), (14, .int 1), (13, .int i37), (11, .long j25), (10, .int r_18), (8, .long r_11), (6, .long r_4), (0, .ref h), (1, .int x), (2, .long lm), (4, .ref sp), (5, .ref q)]) (rest' := [.long r_162, .int r_157]) (ws' := [(tb, .inl (G.2.1, 12000, .inl tfb)), (tg, .inl (G.2.2.1, 17, .inl tfg)), (h, .inr (7, [.ref b])), (sp, .inr (3, [.ref tn, .ref tz, .ref tb, .ref tg, .int c])), (tn, .inl (G.2.1, 384, .inl tfn)), (tz, .inl (G.2.2.1, 16, .inl tfz)), (q, .inr (5, [.ref ex, .ref et, .ref ea, .ref eb, .ref ec, .ref ed, .ref ef, .ref b, .int a2__116, .int e2__117, .int f2__118])), (ex, .inr (0, [.ref ey, .int s2__119])), (et, .inl (G.2.2.1, 316, .inl tf_121)), (ea, .inr (1, [.ref ea1, .ref ea2, .int eas])), (ea1, .inl (G.2.2.1, 16, .inl eac)), (ea2, .inl (G.2.2.1, 288, .inl eay)), (eb, .inr (1, [.ref eb1, .ref eb2, .int ebs])), (eb1, .inl (G.2.2.1, 16, .inl ebc)), (eb2, .inl (G.2.2.1, 32, .inl eby)), (ef, .inr (1, [.ref ef1, .ref ef2, .int efs_122])), (ef1, .inl (G.2.2.1, 16, .inl efc_123)), (ef2, .inl (G.2.2.1, 19, .inl efy_124)), (ec, .inr (1, [.ref ec1, .ref ec2, .int ecs_125])), (ec1, .inl (G.2.2.1, 16, .inl ecc_126)), (ec2, .inl (G.2.2.1, 286, .inl ecy_127)), (ed, .inr (1, [.ref ed1, .ref ed2, .int eds_128])), (ed1, .inl (G.2.2.1, 16, .inl edc_129)), (ed2, .inl (G.2.2.1, 30, .inl edy_130)), (ey, .inl (G.2.1, 4000, .inl xf_120)), (b, .inl (G.2.1, N, .inl f))]) ?_
              refine pb_l2i (pc := 239) d_FileReader_readEntry_239 rfl ?_
              refine pb_topi (fun i166 ei166 => ?_)
              try have ti166 : i166.toInt = r_162.toInt := ti_l2i ei166 rfl (by omega) (by omega)
              have cE := l2i_E ei166 u16
              refine pb_icmp_eq (pc := 240) (tgt := 245) d_FileReader_readEntry_240 (by decide) (fun w167 => ?_) (fun w167 => ?_)
              · have tw167 : r_157.toInt = i166.toInt := (ti_eq rfl rfl).mp w167
                have okF := ok_y bsQ (by omega) smF sdF cE (by omega) (by omega)
                clear bsP bsN
                refine pb_aload (pc := 245) d_FileReader_readEntry_245 12 rfl ?_
                refine pb_iconst (pc := 247) (v := (-1)) d_FileReader_readEntry_247 (by decide) ?_
                refine pb_iload (pc := 248) d_FileReader_readEntry_248 2 rfl ?_
                refine pb_callV (pc := 250) (I := i_FileReader_readEntry) (qb := 3) (ci := 3) (nA := 2) (rest := []) (wr := [(tb, .inl (G.2.1, 12000, .inl tfb)), (h, .inr (7, [.ref b])), (tn, .inl (G.2.1, 384, .inl tfn)), (tz, .inl (G.2.2.1, 16, .inl tfz)), (q, .inr (5, [.ref ex, .ref et, .ref ea, .ref eb, .ref ec, .ref ed, .ref ef, .ref b, .int a2__116, .int e2__117, .int f2__118])), (ex, .inr (0, [.ref ey, .int s2__119])), (et, .inl (G.2.2.1, 316, .inl tf_121)), (ea, .inr (1, [.ref ea1, .ref ea2, .int eas])), (ea1, .inl (G.2.2.1, 16, .inl eac)), (ea2, .inl (G.2.2.1, 288, .inl eay)), (eb, .inr (1, [.ref eb1, .ref eb2, .int ebs])), (eb1, .inl (G.2.2.1, 16, .inl ebc)), (eb2, .inl (G.2.2.1, 32, .inl eby)), (ef, .inr (1, [.ref ef1, .ref ef2, .int efs_122])), (ef1, .inl (G.2.2.1, 16, .inl efc_123)), (ef2, .inl (G.2.2.1, 19, .inl efy_124)), (ec, .inr (1, [.ref ec1, .ref ec2, .int ecs_125])), (ec1, .inl (G.2.2.1, 16, .inl ecc_126)), (ec2, .inl (G.2.2.1, 286, .inl ecy_127)), (ed, .inr (1, [.ref ed1, .ref ed2, .int eds_128])), (ed1, .inl (G.2.2.1, 16, .inl edc_129)), (ed2, .inl (G.2.2.1, 30, .inl edy_130)), (ey, .inl (G.2.1, 4000, .inl xf_120)), (b, .inl (G.2.1, N, .inl f))]) d_FileReader_readEntry_250 (g_Shelf_hasRoom hl G sp tn tz tb tg c tfz tfg (-1) r_115 (by first | assumption | decide | omega) (by first | assumption | omega (splitDisjunctions := false) | omega | decide)) rfl rfl [3, 1] [0, 2, 4, 5, 6, 7, 8, 9, 10, 11, 12, 13, 14, 15, 16, 17, 18, 19, 20, 21, 22, 23, 24, 25] (by decide) rfl rfl rfl (by decide) (by decide) k_696 rfl k_127 k_693 k_694 k_695 ⟨rfl, hy_Shelf_hasRoom⟩ (by decide) rfl rfl (Nat.le_of_ble_eq_true rfl) (by decide) (fun v9 u169 ch168 => ?_)
                obtain ⟨r_170, rfl⟩ : ∃ z9, z9 = u169 := ⟨_, rfl⟩
                obtain ⟨ech168, ch168⟩ := ch168
                have ech168 : v9 = some (.int r_170) := ech168
                subst ech168
                obtain ⟨fh171, fh172, fh173⟩ : (r_170.toInt = 0 ∨ r_170.toInt = 1) ∧ (r_170.toInt = 1 → r_115.toInt ≤ 4000 ∧ ((0 ≤ ((-1) : Int32).toInt ∧ ((-1) : Int32).toInt < c.toInt ∧ gx tfg c.toInt - (gx tfg (((-1) : Int32).toInt + 1) - gx tfg ((-1) : Int32).toInt) + r_115.toInt ≤ 12000) ∨ (¬ (0 ≤ ((-1) : Int32).toInt ∧ ((-1) : Int32).toInt < c.toInt) ∧ c.toInt < 16 ∧ gx tfg c.toInt + r_115.toInt ≤ 12000))) ∧ (r_170.toInt = 0 → ¬ (r_115.toInt ≤ 4000 ∧ ((0 ≤ ((-1) : Int32).toInt ∧ ((-1) : Int32).toInt < c.toInt ∧ gx tfg c.toInt - (gx tfg (((-1) : Int32).toInt + 1) - gx tfg ((-1) : Int32).toInt) + r_115.toInt ≤ 12000) ∨ (¬ (0 ≤ ((-1) : Int32).toInt ∧ ((-1) : Int32).toInt < c.toInt) ∧ c.toInt < 16 ∧ gx tfg c.toInt + r_115.toInt ≤ 12000)))) := ch168
                have hrF := hid_i fh172
                have hrN := hid_i fh173
                have hrb := fh171
                clear fh171 fh172 fh173
                have rmI := hid_i (RM_C (m := sX) R I hsV fF)
                refine pb_eq (pc' := 253) (lo' := [(17, .int 0), (16, .ref ey), (15, .int r_115), (14, .int 1), (13, .int i37), (11, .long j25), (10, .int r_18), (8, .long r_11), (6, .long r_4), (0, .ref h), (1, .int x), (2, .long lm), (4, .ref sp), (5, .ref q)]) (rest' := [.int r_170]) (ws' := [(tb, .inl (G.2.1, 12000, .inl tfb)), (h, .inr (7, [.ref b])), (tn, .inl (G.2.1, 384, .inl tfn)), (tz, .inl (G.2.2.1, 16, .inl tfz)), (q, .inr (5, [.ref ex, .ref et, .ref ea, .ref eb, .ref ec, .ref ed, .ref ef, .ref b, .int a2__116, .int e2__117, .int f2__118])), (ex, .inr (0, [.ref ey, .int s2__119])), (et, .inl (G.2.2.1, 316, .inl tf_121)), (ea, .inr (1, [.ref ea1, .ref ea2, .int eas])), (ea1, .inl (G.2.2.1, 16, .inl eac)), (ea2, .inl (G.2.2.1, 288, .inl eay)), (eb, .inr (1, [.ref eb1, .ref eb2, .int ebs])), (eb1, .inl (G.2.2.1, 16, .inl ebc)), (eb2, .inl (G.2.2.1, 32, .inl eby)), (ef, .inr (1, [.ref ef1, .ref ef2, .int efs_122])), (ef1, .inl (G.2.2.1, 16, .inl efc_123)), (ef2, .inl (G.2.2.1, 19, .inl efy_124)), (ec, .inr (1, [.ref ec1, .ref ec2, .int ecs_125])), (ec1, .inl (G.2.2.1, 16, .inl ecc_126)), (ec2, .inl (G.2.2.1, 286, .inl ecy_127)), (ed, .inr (1, [.ref ed1, .ref ed2, .int eds_128])), (ed1, .inl (G.2.2.1, 16, .inl edc_129)), (ed2, .inl (G.2.2.1, 30, .inl edy_130)), (ey, .inl (G.2.1, 4000, .inl xf_120)), (b, .inl (G.2.1, N, .inl f)), (sp, .inr (3, [.ref tn, .ref tz, .ref tb, .ref tg, .int c])), (tg, .inl (G.2.2.1, 17, .inl tfg))]) ?_
                refine pb_if_ne (pc := 253) (tgt := 259) d_FileReader_readEntry_253 (by decide) (fun w174 => ?_) (fun w174 => ?_)
                · have tw174 : ¬ r_170.toInt = 0 := fun z9 => w174 ((ti_eq rfl (by decide)).mpr z9)
                  rename ¬ (_ : Int) = 0 => zq
                  have hr8 : sX ≤ 4000 ∧ c.toInt < 16 ∧ gx tfg c.toInt + sX ≤ 12000 := by have q8 := hid_o hrF (by omega); omega
                  clear zq hrb hrF hrN
                  refine pb_aload (pc := 259) d_FileReader_readEntry_259 12 rfl ?_
                  refine pb_aload_n (pc := 261) d_FileReader_readEntry_261 9 rfl rfl ?_
                  refine pb_get (pc := 262) d_FileReader_readEntry_262 1 0 rfl rfl (by decide) in_FileReader k_306 rfl ?_
                  refine pb_iload (pc := 265) d_FileReader_readEntry_265 4 rfl ?_
                  refine pb_iload (pc := 267) d_FileReader_readEntry_267 6 rfl ?_
                  refine pb_aload (pc := 269) d_FileReader_readEntry_269 1 rfl ?_
                  refine pb_iload (pc := 271) d_FileReader_readEntry_271 0 rfl ?_
                  refine pb_iload (pc := 273) d_FileReader_readEntry_273 2 rfl ?_
                  refine pb_callV (pc := 275) (I := i_FileReader_readEntry) (qb := 24) (ci := 3) (nA := 6) (rest := []) (wr := [(h, .inr (7, [.ref b])), (q, .inr (5, [.ref ex, .ref et, .ref ea, .ref eb, .ref ec, .ref ed, .ref ef, .ref b, .int a2__116, .int e2__117, .int f2__118])), (ex, .inr (0, [.ref ey, .int s2__119])), (et, .inl (G.2.2.1, 316, .inl tf_121)), (ea, .inr (1, [.ref ea1, .ref ea2, .int eas])), (ea1, .inl (G.2.2.1, 16, .inl eac)), (ea2, .inl (G.2.2.1, 288, .inl eay)), (eb, .inr (1, [.ref eb1, .ref eb2, .int ebs])), (eb1, .inl (G.2.2.1, 16, .inl ebc)), (eb2, .inl (G.2.2.1, 32, .inl eby)), (ef, .inr (1, [.ref ef1, .ref ef2, .int efs_122])), (ef1, .inl (G.2.2.1, 16, .inl efc_123)), (ef2, .inl (G.2.2.1, 19, .inl efy_124)), (ec, .inr (1, [.ref ec1, .ref ec2, .int ecs_125])), (ec1, .inl (G.2.2.1, 16, .inl ecc_126)), (ec2, .inl (G.2.2.1, 286, .inl ecy_127)), (ed, .inr (1, [.ref ed1, .ref ed2, .int eds_128])), (ed1, .inl (G.2.2.1, 16, .inl edc_129)), (ed2, .inl (G.2.2.1, 30, .inl edy_130))]) d_FileReader_readEntry_275 (g_Shelf_bringIn hl G sp tn tz tb tg c tfn tfz tfb tfg b N f ey 4000 xf_120 i37 r_18 0 r_115 V (by first | assumption | omega (splitDisjunctions := false) | omega | decide) (by first | assumption | decide | omega) (by first | assumption | omega (splitDisjunctions := false) | omega | decide) (by first | assumption | omega (splitDisjunctions := false) | omega | decide) (by first | assumption | omega (splitDisjunctions := false) | omega | decide) (by first | assumption | omega (splitDisjunctions := false) | omega | decide) (by first | assumption | omega (splitDisjunctions := false) | omega | decide) (by first | assumption | omega (splitDisjunctions := false) | omega | decide) (by first | assumption | omega (splitDisjunctions := false) | omega | decide) (by first | assumption | omega (splitDisjunctions := false) | omega | decide) (by first | assumption | omega (splitDisjunctions := false) | omega | decide) (by first | assumption | omega (splitDisjunctions := false) | omega | decide) (by first | assumption | omega (splitDisjunctions := false) | omega | decide) (by first | assumption | omega (splitDisjunctions := false) | omega | decide) F_tfn F_tfb F_f fh142) rfl rfl [24, 2, 3, 0, 25, 23, 22] [1, 4, 5, 6, 7, 8, 9, 10, 11, 12, 13, 14, 15, 16, 17, 18, 19, 20, 21] (by decide) rfl rfl rfl (by decide) (by decide) k_700 rfl k_127 k_697 k_698 k_699 ⟨rfl, hy_Shelf_bringIn⟩ (by decide) rfl rfl (Nat.le_of_ble_eq_true rfl) (by decide) (fun v9 u176 ch175 => ?_)
                  obtain ⟨c_177, fn_178, fz_179, fb_180, fg_181⟩ := u176
                  obtain ⟨ech175, ch175⟩ := ch175
                  have ech175 : v9 = none := ech175
                  subst ech175
                  obtain ⟨fh182, fh183, fh184, fh185, fh186, fh187⟩ : (sh_I c_177.toInt fz_179 fg_181) ∧ (c_177.toInt = c.toInt + 1) ∧ (gx fg_181 c_177.toInt = gx tfg c.toInt + r_115.toInt) ∧ (hid_ (∃ r : Int, 0 ≤ r ∧ r ≤ c.toInt ∧ (∀ j : Int, 0 ≤ j → j < r → lx_ (vN V j) (vZ V j) (fun k => gx f (i37.toInt + k)) r_18.toInt) ∧ (r < c.toInt → ¬ lx_ (vN V r) (vZ V r) (fun k => gx f (i37.toInt + k)) r_18.toInt) ∧ rC_ c_177.toInt fn_178 fz_179 fb_180 fg_181 (vin_ V r r_18.toInt (fun k => gx f (i37.toInt + k)) r_115.toInt (fun k => gr xf_120 ((0 : Int32).toInt + k))))) ∧ (sb_Fit fn_178) ∧ (sb_Fit fb_180) := ch175
                  have brF := fh185
                  rw [show r_18.toInt = aw A (x.toInt + 28) 2 by omega, show r_115.toInt = sX by omega] at brF
                  obtain ⟨W9, adF, rcF⟩ := AD_R R I hsV (by omega) nkF.2 (nm_A hA (show i37.toInt = x.toInt + 46 by omega) (by omega) (by omega)) (fun k h0 h1 => dxE k h0 h1 (0 : Int32).toInt (by omega)) (hid_o brF)
                  refine pb_eq (pc' := 278) (lo' := [(17, .int 0), (16, .ref ey), (15, .int r_115), (14, .int 1), (13, .int i37), (11, .long j25), (10, .int r_18), (8, .long r_11), (6, .long r_4), (0, .ref h), (1, .int x), (2, .long lm), (4, .ref sp), (5, .ref q)]) (rest' := []) (ws' := [(h, .inr (7, [.ref b])), (q, .inr (5, [.ref ex, .ref et, .ref ea, .ref eb, .ref ec, .ref ed, .ref ef, .ref b, .int a2__116, .int e2__117, .int f2__118])), (ex, .inr (0, [.ref ey, .int s2__119])), (et, .inl (G.2.2.1, 316, .inl tf_121)), (ea, .inr (1, [.ref ea1, .ref ea2, .int eas])), (ea1, .inl (G.2.2.1, 16, .inl eac)), (ea2, .inl (G.2.2.1, 288, .inl eay)), (eb, .inr (1, [.ref eb1, .ref eb2, .int ebs])), (eb1, .inl (G.2.2.1, 16, .inl ebc)), (eb2, .inl (G.2.2.1, 32, .inl eby)), (ef, .inr (1, [.ref ef1, .ref ef2, .int efs_122])), (ef1, .inl (G.2.2.1, 16, .inl efc_123)), (ef2, .inl (G.2.2.1, 19, .inl efy_124)), (ec, .inr (1, [.ref ec1, .ref ec2, .int ecs_125])), (ec1, .inl (G.2.2.1, 16, .inl ecc_126)), (ec2, .inl (G.2.2.1, 286, .inl ecy_127)), (ed, .inr (1, [.ref ed1, .ref ed2, .int eds_128])), (ed1, .inl (G.2.2.1, 16, .inl edc_129)), (ed2, .inl (G.2.2.1, 30, .inl edy_130)), (sp, .inr (3, [.ref tn, .ref tz, .ref tb, .ref tg, .int c_177])), (tn, .inl (G.2.1, 384, .inl fn_178)), (tz, .inl (G.2.2.1, 16, .inl fz_179)), (tb, .inl (G.2.1, 12000, .inl fb_180)), (tg, .inl (G.2.2.1, 17, .inl fg_181)), (b, .inl (G.2.1, N, .inl f)), (ey, .inl (G.2.1, 4000, .inl xf_120))]) ?_
                  refine pb_iconst (pc := 278) (v := 0) d_FileReader_readEntry_278 (by decide) ?_
                  exact pb_iret (pc := 279) hQ d_FileReader_readEntry_279 rfl rfl (0, c_177, fn_178, fz_179, fb_180, fg_181, b, a2__116, e2__117, f2__118, s2__119, xf_120, tf_121, efs_122, efc_123, efy_124, ecs_125, ecc_126, ecy_127, eds_128, edc_129, edy_130) ⟨rfl, (by (try dsimp only); first | done | assumption | decide | omega), (by (try dsimp only); first | done | assumption | omega (splitDisjunctions := false) | omega | decide), (by (try dsimp only); first | done | assumption | omega (splitDisjunctions := false) | omega | decide), (by (try dsimp only); first | done | assumption | decide | omega), (by (try dsimp only); first | done | assumption | omega (splitDisjunctions := false) | omega | decide), (by (try dsimp only); first | done | assumption | decide | omega), (by (try dsimp only); first | done | assumption | omega (splitDisjunctions := false) | omega | decide), (by (try dsimp only); first | done | assumption | decide | omega), (by (try dsimp only); first | done | assumption | omega (splitDisjunctions := false) | omega | decide), (show hid_ (∃ W : VW_, en_R A lm.toInt x.toInt V (0 : Int32).toInt W ∧ ((0 : Int32).toInt = 0 → rC_ c_177.toInt fn_178 fz_179 fb_180 fg_181 W)) from (hid_i ⟨W9, en_0 (by first | decide | omega) rrF nkF okF ((hid_o rmI).mpr ⟨hr8.1, Or.inr ⟨by omega, hr8.2⟩⟩) adF, fun _ => rcF⟩)), fh186, fh187, fh142⟩ [0, 24, 19, 20, 21, 22, 23, 1, 2, 25, 3, 4, 5, 6, 7, 8, 9, 10, 11, 12, 13, 14, 15, 16, 17, 18] (by decide) rfl rfl (by decide) (by decide)
                · have tw174 : r_170.toInt = 0 := (ti_eq rfl (by decide)).mp w174
                  refine pb_bipush (pc := 256) (v := 6) d_FileReader_readEntry_256 (by decide) ?_
                  exact pb_iret (pc := 258) hQ d_FileReader_readEntry_258 rfl rfl (6, c, tfn, tfz, tfb, tfg, b, a2__116, e2__117, f2__118, s2__119, xf_120, tf_121, efs_122, efc_123, efy_124, ecs_125, ecc_126, ecy_127, eds_128, edc_129, edy_130) ⟨rfl, (by (try dsimp only); first | done | assumption | decide | omega), (by (try dsimp only); first | done | assumption | omega (splitDisjunctions := false) | omega | decide), (by (try dsimp only); first | done | assumption | omega (splitDisjunctions := false) | omega | decide), (by (try dsimp only); first | done | assumption | decide | omega), (by (try dsimp only); first | done | assumption | omega (splitDisjunctions := false) | omega | decide), (by (try dsimp only); first | done | assumption | decide | omega), (by (try dsimp only); first | done | assumption | omega (splitDisjunctions := false) | omega | decide), (by (try dsimp only); first | done | assumption | decide | omega), (by (try dsimp only); first | done | assumption | omega (splitDisjunctions := false) | omega | decide), (show hid_ (∃ W : VW_, en_R A lm.toInt x.toInt V (6 : Int32).toInt W ∧ ((6 : Int32).toInt = 0 → rC_ c.toInt tfn tfz tfb tfg W)) from (hid_i ⟨V, en_6 (by first | decide | omega) rrF nkF okF (fun q9 => hid_o hrN (by omega) (by have q8 := (hid_o rmI).mp q9; omega)), fun q9 => absurd q9 (by first | decide | omega)⟩)), F_tfn, F_tfb, fh142⟩ [1, 23, 24, 2, 3, 0, 25, 4, 5, 22, 6, 7, 8, 9, 10, 11, 12, 13, 14, 15, 16, 17, 18, 19, 20, 21] (by decide) rfl rfl (by decide) (by decide)
              · have tw167 : ¬ r_157.toInt = i166.toInt := fun z9 => w167 ((ti_eq rfl rfl).mpr z9)
                refine pb_iconst (pc := 243) (v := 5) d_FileReader_readEntry_243 (by decide) ?_
                exact pb_iret (pc := 244) hQ d_FileReader_readEntry_244 rfl rfl (5, c, tfn, tfz, tfb, tfg, b, a2__116, e2__117, f2__118, s2__119, xf_120, tf_121, efs_122, efc_123, efy_124, ecs_125, ecc_126, ecy_127, eds_128, edc_129, edy_130) ⟨rfl, (by (try dsimp only); first | done | assumption | decide | omega), (by (try dsimp only); first | done | assumption | omega (splitDisjunctions := false) | omega | decide), (by (try dsimp only); first | done | assumption | omega (splitDisjunctions := false) | omega | decide), (by (try dsimp only); first | done | assumption | decide | omega), (by (try dsimp only); first | done | assumption | omega (splitDisjunctions := false) | omega | decide), (by (try dsimp only); first | done | assumption | decide | omega), (by (try dsimp only); first | done | assumption | omega (splitDisjunctions := false) | omega | decide), (by (try dsimp only); first | done | assumption | decide | omega), (by (try dsimp only); first | done | assumption | omega (splitDisjunctions := false) | omega | decide), (show hid_ (∃ W : VW_, en_R A lm.toInt x.toInt V (5 : Int32).toInt W ∧ ((5 : Int32).toInt = 0 → rC_ c.toInt tfn tfz tfb tfg W)) from (hid_i ⟨V, en_5 (by first | decide | omega) rrF nkF (by first | exact ok_x bsQ smF sdF cE (by omega) (by omega) | exact (if z9 : fX = 0 then ok_no (hid_o bsP z9) (fun q9 => absurd q9.1 (by omega)) else hid_o bsN z9)), fun q9 => absurd q9 (by first | decide | omega)⟩)), F_tfn, F_tfb, fh142⟩ [2, 25, 3, 4, 5, 0, 1, 6, 7, 24, 8, 9, 10, 11, 12, 13, 14, 15, 16, 17, 18, 19, 20, 21, 22, 23] (by decide) rfl rfl (by decide) (by decide)
        · have tw52 : ¬ r_48.toInt < 0 := fun z9 => w52 ((ti_lt rfl (by decide)).mpr z9)
          refine pb_iconst (pc := 112) (v := 4) d_FileReader_readEntry_112 (by decide) ?_
          exact pb_iret (pc := 113) hQ d_FileReader_readEntry_113 rfl rfl (4, c, tfn, tfz, tfb, tfg, er, at_, en, fl, xs, xf, tf, efs, efc, efy, ecs, ecc, ecy, eds, edc, edy) ⟨rfl, (by (try dsimp only); first | done | assumption | decide | omega), (by (try dsimp only); first | done | assumption | omega (splitDisjunctions := false) | omega | decide), (by (try dsimp only); first | done | assumption | omega (splitDisjunctions := false) | omega | decide), (by (try dsimp only); first | done | assumption | decide | omega), (by (try dsimp only); first | done | assumption | omega (splitDisjunctions := false) | omega | decide), (by (try dsimp only); first | done | assumption | decide | omega), (by (try dsimp only); first | done | assumption | omega (splitDisjunctions := false) | omega | decide), (by (try dsimp only); first | done | assumption | decide | omega), (by (try dsimp only); first | done | assumption | omega (splitDisjunctions := false) | omega | decide), (show hid_ (∃ W : VW_, en_R A lm.toInt x.toInt V (4 : Int32).toInt W ∧ ((4 : Int32).toInt = 0 → rC_ c.toInt tfn tfz tfb tfg W)) from (hid_i ⟨V, en_4 (by first | decide | omega) rrF (by first | exact nq_f rfl fF (by omega) | exact nq_i (by omega) (fun q9 => hid_o iN0 (by omega) ((iA_A hA (by omega) (by omega) (by omega)).mpr q9))), fun q9 => absurd q9 (by first | decide | omega)⟩)), F_tfn, F_tfb, F_xf⟩ [21, 25, 22, 23, 24, 0, 1, 2, 3, 4, 5, 6, 7, 8, 9, 10, 11, 12, 13, 14, 15, 16, 17, 18, 19, 20] (by decide) rfl rfl (by decide) (by decide)
    · have tw36 : r_32.toInt = 0 := (ti_eq rfl (by decide)).mp w36
      refine pb_iconst (pc := 74) (v := 3) d_FileReader_readEntry_74 (by decide) ?_
      exact pb_iret (pc := 75) hQ d_FileReader_readEntry_75 rfl rfl (3, c, tfn, tfz, tfb, tfg, er, at_, en, fl, xs, xf, tf, efs, efc, efy, ecs, ecc, ecy, eds, edc, edy) ⟨rfl, (by (try dsimp only); first | done | assumption | decide | omega), (by (try dsimp only); first | done | assumption | omega (splitDisjunctions := false) | omega | decide), (by (try dsimp only); first | done | assumption | omega (splitDisjunctions := false) | omega | decide), (by (try dsimp only); first | done | assumption | decide | omega), (by (try dsimp only); first | done | assumption | omega (splitDisjunctions := false) | omega | decide), (by (try dsimp only); first | done | assumption | decide | omega), (by (try dsimp only); first | done | assumption | omega (splitDisjunctions := false) | omega | decide), (by (try dsimp only); first | done | assumption | decide | omega), (by (try dsimp only); first | done | assumption | omega (splitDisjunctions := false) | omega | decide), (show hid_ (∃ W : VW_, en_R A lm.toInt x.toInt V (3 : Int32).toInt W ∧ ((3 : Int32).toInt = 0 → rC_ c.toInt tfn tfz tfb tfg W)) from (hid_i ⟨V, en_3 (by first | decide | omega) (by first | exact rr_n2 (by omega) (by omega) (hid_o rq0 (by omega)) | exact rr_n1 (by omega)), fun q9 => absurd q9 (by first | decide | omega)⟩)), F_tfn, F_tfb, F_xf⟩ [24, 25, 0, 1, 2, 3, 4, 5, 6, 7, 8, 9, 10, 11, 12, 13, 14, 15, 16, 17, 18, 19, 20, 21, 22, 23] (by decide) rfl rfl (by decide) (by decide)
