theorem tw_rng (f : Nat → Int32) (k : Int) : 0 ≤ tw f k ∧ tw f k ≤ 65535 := by
  have a := ti_and (z := gr f k &&& 255) (m := 255) (b := 255) 8 rfl (by decide) (by decide)
  have b := ti_and (z := gr f (k + 1) &&& 255) (m := 255) (b := 255) 8 rfl (by decide) (by decide)
  have c := ti_shl (z := (gr f (k + 1) &&& 255) <<< ((8 : Int32) &&& 31)) (b := 256) rfl rfl 8 (by decide) (by decide) b.1 (by omega)
  have d := ti_or (z := tw_r f k) (c := 65536) 16 rfl rfl rfl a.1 (by omega) (by omega) (by omega) (by decide)
  unfold tw
  omega
/-- the places of a directory's entries -/
def dp_n (f : Nat → Int32) (a : Int) : Nat → Int
  | 0 => a
  | k + 1 => dp_n f a k + (46 + tw f (dp_n f a k + 28))
def dp (f : Nat → Int32) (a k : Int) : Int := dp_n f a k.toNat
theorem dp_0 (f : Nat → Int32) (a : Int) : dp f a 0 = a := rfl
theorem dp_s {f : Nat → Int32} {a k m : Int} (h : 0 ≤ k) (hm : m = k + 1) : dp f a m = dp f a k + (46 + tw f (dp f a k + 28)) := by
  subst hm
  unfold dp
  rw [show (k + 1).toNat = k.toNat + 1 by omega, dp_n]
theorem dp_up (f : Nat → Int32) (a : Int) : ∀ (n : Nat) (k : Int), 0 ≤ k → dp f a k ≤ dp f a (k + n)
  | 0, k, _ => by rw [show k + ((0 : Nat) : Int) = k by omega]; exact Int.le_refl _
  | n + 1, k, h0 => by
    have h := dp_up f a n k h0
    have d := dp_s (f := f) (a := a) (k := k + n) (m := k + n + 1) (by omega) rfl
    have t := tw_rng f (dp f a (k + n) + 28)
    rw [show k + ((n + 1 : Nat) : Int) = k + n + 1 by omega]
    omega
theorem dp_le {f : Nat → Int32} {a j k : Int} (h0 : 0 ≤ j) (h1 : j ≤ k) : dp f a j ≤ dp f a k := by
  have h := dp_up f a (k - j).toNat j h0
  rwa [show j + ((k - j).toNat : Int) = k by omega] at h

theorem d_FileReader_isEnd_0 : decode prog_5_method_3_code 0 = .ok (.aload_n 0, 1) := by decide +kernel
theorem d_FileReader_isEnd_1 : decode prog_5_method_3_code 1 = .ok (.getfield 9, 3) := by decide +kernel
theorem d_FileReader_isEnd_4 : decode prog_5_method_3_code 4 = .ok (.iload_n 1, 1) := by decide +kernel
theorem d_FileReader_isEnd_5 : decode prog_5_method_3_code 5 = .ok (.invokestatic 28, 3) := by decide +kernel
theorem k_592 : (Jvm.Cond.methodLinkNest "PackageBook$FileReader" (28 : Nat) ({ cls := "PackageBook", name := "fourAt", desc := "([BI)J" } : Jvm.MethodName) "PackageBook") ∈ uN := uN_of 592 (by decide +kernel) (by decide +kernel)
theorem k_594 : (Jvm.Cond.code ({ cls := "PackageBook", name := "fourAt", desc := "([BI)J" } : Jvm.MethodName) prog_1_method_31_code (2 : Nat) (Option.some Jvm.ClassFile.FieldType.long)) ∈ uW := uW_of 594 (by decide +kernel) (by decide +kernel)
theorem k_593 : (Jvm.Cond.static ({ cls := "PackageBook", name := "fourAt", desc := "([BI)J" } : Jvm.MethodName)) ∈ uW := uW_of 593 (by decide +kernel) (by decide +kernel)
theorem hy_Book_fourAt : (y_Book_fourAt).cls ≠ "java/lang/invoke/MethodHandle" ∧ (y_Book_fourAt).cls ≠ "java/lang/invoke/VarHandle" ∧ (parseMethodDescriptor (y_Book_fourAt).desc).map (fun d => d.parameters.length) = some 2 := by decide +kernel
theorem d_FileReader_isEnd_8 : decode prog_5_method_3_code 8 = .ok (.ldc2_w 40, 3) := by decide +kernel
theorem k_598 : (Jvm.Cond.constantLong "PackageBook$FileReader" (40 : Nat) (101010256 : Int64)) ∈ uW := uW_of 598 (by decide +kernel) (by decide +kernel)
theorem d_FileReader_isEnd_11 : decode prog_5_method_3_code 11 = .ok (.lcmp, 1) := by decide +kernel
theorem d_FileReader_isEnd_12 : decode prog_5_method_3_code 12 = .ok (.ifCond .ne 61, 3) := by decide +kernel
theorem d_FileReader_isEnd_73 : decode prog_5_method_3_code 73 = .ok (.iconst 0, 1) := by decide +kernel
theorem d_FileReader_isEnd_74 : decode prog_5_method_3_code 74 = .ok (.ireturn, 1) := by decide +kernel
theorem d_FileReader_isEnd_15 : decode prog_5_method_3_code 15 = .ok (.aload_n 0, 1) := by decide +kernel
theorem d_FileReader_isEnd_16 : decode prog_5_method_3_code 16 = .ok (.getfield 9, 3) := by decide +kernel
theorem d_FileReader_isEnd_19 : decode prog_5_method_3_code 19 = .ok (.iload_n 1, 1) := by decide +kernel
theorem d_FileReader_isEnd_20 : decode prog_5_method_3_code 20 = .ok (.iconst 4, 1) := by decide +kernel
theorem d_FileReader_isEnd_21 : decode prog_5_method_3_code 21 = .ok (.iadd, 1) := by decide +kernel
theorem d_FileReader_isEnd_22 : decode prog_5_method_3_code 22 = .ok (.invokestatic 28, 3) := by decide +kernel
theorem d_FileReader_isEnd_25 : decode prog_5_method_3_code 25 = .ok (.lconst 0, 1) := by decide +kernel
theorem d_FileReader_isEnd_26 : decode prog_5_method_3_code 26 = .ok (.lcmp, 1) := by decide +kernel
theorem d_FileReader_isEnd_27 : decode prog_5_method_3_code 27 = .ok (.ifCond .ne 46, 3) := by decide +kernel
theorem d_FileReader_isEnd_30 : decode prog_5_method_3_code 30 = .ok (.aload_n 0, 1) := by decide +kernel
theorem d_FileReader_isEnd_31 : decode prog_5_method_3_code 31 = .ok (.getfield 9, 3) := by decide +kernel
theorem d_FileReader_isEnd_34 : decode prog_5_method_3_code 34 = .ok (.iload_n 1, 1) := by decide +kernel
theorem d_FileReader_isEnd_35 : decode prog_5_method_3_code 35 = .ok (.bipush 8, 2) := by decide +kernel
theorem d_FileReader_isEnd_37 : decode prog_5_method_3_code 37 = .ok (.iadd, 1) := by decide +kernel
theorem d_FileReader_isEnd_38 : decode prog_5_method_3_code 38 = .ok (.invokestatic 24, 3) := by decide +kernel
theorem k_599 : (Jvm.Cond.methodLinkNest "PackageBook$FileReader" (24 : Nat) ({ cls := "PackageBook", name := "twoAt", desc := "([BI)I" } : Jvm.MethodName) "PackageBook") ∈ uN := uN_of 599 (by decide +kernel) (by decide +kernel)
theorem d_FileReader_isEnd_41 : decode prog_5_method_3_code 41 = .ok (.aload_n 0, 1) := by decide +kernel
theorem d_FileReader_isEnd_42 : decode prog_5_method_3_code 42 = .ok (.getfield 9, 3) := by decide +kernel
theorem d_FileReader_isEnd_45 : decode prog_5_method_3_code 45 = .ok (.iload_n 1, 1) := by decide +kernel
theorem d_FileReader_isEnd_46 : decode prog_5_method_3_code 46 = .ok (.bipush 10, 2) := by decide +kernel
theorem d_FileReader_isEnd_48 : decode prog_5_method_3_code 48 = .ok (.iadd, 1) := by decide +kernel
theorem d_FileReader_isEnd_49 : decode prog_5_method_3_code 49 = .ok (.invokestatic 24, 3) := by decide +kernel
theorem d_FileReader_isEnd_52 : decode prog_5_method_3_code 52 = .ok (.if_icmp .ne 21, 3) := by decide +kernel
theorem d_FileReader_isEnd_55 : decode prog_5_method_3_code 55 = .ok (.aload_n 0, 1) := by decide +kernel
theorem d_FileReader_isEnd_56 : decode prog_5_method_3_code 56 = .ok (.getfield 9, 3) := by decide +kernel
theorem d_FileReader_isEnd_59 : decode prog_5_method_3_code 59 = .ok (.iload_n 1, 1) := by decide +kernel
theorem d_FileReader_isEnd_60 : decode prog_5_method_3_code 60 = .ok (.bipush 20, 2) := by decide +kernel
theorem d_FileReader_isEnd_62 : decode prog_5_method_3_code 62 = .ok (.iadd, 1) := by decide +kernel
theorem d_FileReader_isEnd_63 : decode prog_5_method_3_code 63 = .ok (.invokestatic 24, 3) := by decide +kernel
theorem d_FileReader_isEnd_66 : decode prog_5_method_3_code 66 = .ok (.ifCond .ne 7, 3) := by decide +kernel
theorem d_FileReader_isEnd_69 : decode prog_5_method_3_code 69 = .ok (.iconst 1, 1) := by decide +kernel
theorem d_FileReader_isEnd_70 : decode prog_5_method_3_code 70 = .ok (.goto 4, 3) := by decide +kernel
abbrev y_FileReader_isEnd : MethodName := ⟨"PackageBook$FileReader", "isEnd", "(I)Z"⟩
abbrev i_FileReader_isEnd : pb_I := (y_FileReader_isEnd, prog_5_method_3_code, 2, (some Jvm.ClassFile.FieldType.boolean), [], { frames := 2, cells := 0, slots := 0, locals := 42 })
set_option maxRecDepth 100000 in
set_option maxHeartbeats 4000000 in
theorem g_Rd_isEnd {l : Launch} (hl : l.stackTraces = false) (G : pb_G) (h : Nat) (b : Nat) (N : Nat) (f : Nat → Int32) (x : Int32) (h0 : 0 ≤ x.toInt) (h1 : x.toInt + 22 ≤ N) (hN : N ≤ 100000) (F_f : sb_Fit f) : Cn l G i_FileReader_isEnd [.ref h, .int x] [(h, .inr (7, [.ref b])), (b, .inl (G.2.1, N, .inl f))] (S := Int32) (fun rv_ u => rv_ = some (.int u) ∧ (u.toInt = 0 ∨ u.toInt = 1)) (fun u => [(h, .inr (7, [.ref b])), (b, .inl (G.2.1, N, .inl f))]) := by
  refine Cn.of hl (by decide +kernel) rfl (Nat.le_of_ble_eq_true rfl) (fun M hQ => ?_)
  refine pb_eq (pc' := 0) (lo' := [(0, .ref h), (1, .int x)]) (rest' := []) (ws' := [(h, .inr (7, [.ref b])), (b, .inl (G.2.1, N, .inl f))]) ?_
  have zl0 : (0 : Int32).toInt = 0 := by decide
  have zl1 : (1 : Int32).toInt = 1 := by decide
  refine pb_aload_n (pc := 0) d_FileReader_isEnd_0 0 rfl rfl ?_
  refine pb_get (pc := 1) d_FileReader_isEnd_1 0 0 rfl rfl (by decide) in_FileReader k_306 rfl ?_
  refine pb_iload_n (pc := 4) d_FileReader_isEnd_4 1 rfl rfl ?_
  refine pb_callSN (pc := 5) (I := i_FileReader_isEnd) (nA := 2) (rest := []) (wr := [(h, .inr (7, [.ref b]))]) d_FileReader_isEnd_5 (g_fourAt hl G b N f x (by first | assumption | omega (splitDisjunctions := false) | omega | decide) (by first | assumption | omega (splitDisjunctions := false) | omega | decide) (by first | assumption | omega (splitDisjunctions := false) | omega | decide) F_f) [1] [0] (by decide) rfl rfl rfl (by decide) (by decide) k_594 rfl k_118 k_592 k_593 hy_Book_fourAt (by decide) rfl rfl (Nat.le_of_ble_eq_true rfl) (by decide) (fun v9 u2 ch1 => ?_)
  obtain ⟨r_3, rfl⟩ : ∃ z9, z9 = u2 := ⟨_, rfl⟩
  obtain ⟨ech1, ch1⟩ := ch1
  have ech1 : v9 = some (.long r_3) := ech1
  subst ech1
  obtain ⟨fh4, fh5⟩ : (0 ≤ r_3.toInt) ∧ (r_3.toInt < 4294967296) := ch1
  refine pb_eq (pc' := 8) (lo' := [(0, .ref h), (1, .int x)]) (rest' := [.long r_3]) (ws' := [(h, .inr (7, [.ref b])), (b, .inl (G.2.1, N, .inl f))]) ?_
  refine pb_ldc2 (pc := 8) (v := 101010256) d_FileReader_isEnd_8 k_598 ?_
  refine pb_lcmp (pc := 11) d_FileReader_isEnd_11 ?_
  refine pb_topi (fun i6 ei6 => ?_)
  have ti6 : (i6.toInt < 0 ↔ r_3.toInt < 101010256) ∧ (i6.toInt = 0 ↔ r_3.toInt = 101010256) ∧ (0 < i6.toInt ↔ 101010256 < r_3.toInt) := tl_cmp ei6 rfl (by decide)
  refine pb_if_ne (pc := 12) (tgt := 73) d_FileReader_isEnd_12 (by decide) (fun w7 => ?_) (fun w7 => ?_)
  · have tw7 : ¬ i6.toInt = 0 := fun z9 => w7 ((ti_eq rfl (by decide)).mpr z9)
    refine pb_iconst (pc := 73) (v := 0) d_FileReader_isEnd_73 (by decide) ?_
    exact pb_iret (pc := 74) hQ d_FileReader_isEnd_74 rfl rfl (0) ⟨rfl, (by (try dsimp only); first | done | assumption | omega (splitDisjunctions := false) | omega | decide)⟩ [0, 1] (by decide) rfl rfl (by decide) (by decide)
  · have tw7 : i6.toInt = 0 := (ti_eq rfl (by decide)).mp w7
    refine pb_aload_n (pc := 15) d_FileReader_isEnd_15 0 rfl rfl ?_
    refine pb_get (pc := 16) d_FileReader_isEnd_16 0 0 rfl rfl (by decide) in_FileReader k_306 rfl ?_
    refine pb_iload_n (pc := 19) d_FileReader_isEnd_19 1 rfl rfl ?_
    refine pb_iconst (pc := 20) (v := 4) d_FileReader_isEnd_20 (by decide) ?_
    refine pb_iadd (pc := 21) d_FileReader_isEnd_21 ?_
    refine pb_topi (fun i8 ei8 => ?_)
    try have ti8 : i8.toInt = x.toInt + 4 := t2_add ei8 rfl (by decide) (by omega)
    refine pb_callSN (pc := 22) (I := i_FileReader_isEnd) (nA := 2) (rest := []) (wr := [(h, .inr (7, [.ref b]))]) d_FileReader_isEnd_22 (g_fourAt hl G b N f i8 (by first | assumption | omega (splitDisjunctions := false) | omega | decide) (by first | assumption | omega (splitDisjunctions := false) | omega | decide) (by first | assumption | omega (splitDisjunctions := false) | omega | decide) F_f) [1] [0] (by decide) rfl rfl rfl (by decide) (by decide) k_594 rfl k_118 k_592 k_593 hy_Book_fourAt (by decide) rfl rfl (Nat.le_of_ble_eq_true rfl) (by decide) (fun v9 u10 ch9 => ?_)
    obtain ⟨r_11, rfl⟩ : ∃ z9, z9 = u10 := ⟨_, rfl⟩
    obtain ⟨ech9, ch9⟩ := ch9
    have ech9 : v9 = some (.long r_11) := ech9
    subst ech9
    obtain ⟨fh12, fh13⟩ : (0 ≤ r_11.toInt) ∧ (r_11.toInt < 4294967296) := ch9
    refine pb_eq (pc' := 25) (lo' := [(0, .ref h), (1, .int x)]) (rest' := [.long r_11]) (ws' := [(h, .inr (7, [.ref b])), (b, .inl (G.2.1, N, .inl f))]) ?_
    refine pb_lconst (pc := 25) (v := 0) d_FileReader_isEnd_25 (by decide) ?_
    refine pb_lcmp (pc := 26) d_FileReader_isEnd_26 ?_
    refine pb_topi (fun i14 ei14 => ?_)
    have ti14 : (i14.toInt < 0 ↔ r_11.toInt < 0) ∧ (i14.toInt = 0 ↔ r_11.toInt = 0) ∧ (0 < i14.toInt ↔ 0 < r_11.toInt) := tl_cmp ei14 rfl (by decide)
    refine pb_if_ne (pc := 27) (tgt := 73) d_FileReader_isEnd_27 (by decide) (fun w15 => ?_) (fun w15 => ?_)
    · have tw15 : ¬ i14.toInt = 0 := fun z9 => w15 ((ti_eq rfl (by decide)).mpr z9)
      refine pb_iconst (pc := 73) (v := 0) d_FileReader_isEnd_73 (by decide) ?_
      exact pb_iret (pc := 74) hQ d_FileReader_isEnd_74 rfl rfl (0) ⟨rfl, (by (try dsimp only); first | done | assumption | omega (splitDisjunctions := false) | omega | decide)⟩ [0, 1] (by decide) rfl rfl (by decide) (by decide)
    · have tw15 : i14.toInt = 0 := (ti_eq rfl (by decide)).mp w15
      refine pb_aload_n (pc := 30) d_FileReader_isEnd_30 0 rfl rfl ?_
      refine pb_get (pc := 31) d_FileReader_isEnd_31 0 0 rfl rfl (by decide) in_FileReader k_306 rfl ?_
      refine pb_iload_n (pc := 34) d_FileReader_isEnd_34 1 rfl rfl ?_
      refine pb_bipush (pc := 35) (v := 8) d_FileReader_isEnd_35 (by decide) ?_
      refine pb_iadd (pc := 37) d_FileReader_isEnd_37 ?_
      refine pb_topi (fun i16 ei16 => ?_)
      try have ti16 : i16.toInt = x.toInt + 8 := t2_add ei16 rfl (by decide) (by omega)
      refine pb_callSN (pc := 38) (I := i_FileReader_isEnd) (nA := 2) (rest := []) (wr := [(h, .inr (7, [.ref b]))]) d_FileReader_isEnd_38 (g_twoAt hl G b N f i16 (by first | assumption | omega (splitDisjunctions := false) | omega | decide) (by first | assumption | omega (splitDisjunctions := false) | omega | decide) (by first | assumption | omega (splitDisjunctions := false) | omega | decide) F_f) [1] [0] (by decide) rfl rfl rfl (by decide) (by decide) k_597 rfl k_118 k_599 k_596 hy_Book_twoAt (by decide) rfl rfl (Nat.le_of_ble_eq_true rfl) (by decide) (fun v9 u18 ch17 => ?_)
      obtain ⟨r_19, rfl⟩ : ∃ z9, z9 = u18 := ⟨_, rfl⟩
      obtain ⟨ech17, ch17⟩ := ch17
      have ech17 : v9 = some (.int r_19) := ech17
      subst ech17
      obtain ⟨fh20, fh21, fh22⟩ : (0 ≤ r_19.toInt) ∧ (r_19.toInt ≤ 65535) ∧ (r_19.toInt = tw f i16.toInt) := ch17
      refine pb_eq (pc' := 41) (lo' := [(0, .ref h), (1, .int x)]) (rest' := [.int r_19]) (ws' := [(h, .inr (7, [.ref b])), (b, .inl (G.2.1, N, .inl f))]) ?_
      refine pb_aload_n (pc := 41) d_FileReader_isEnd_41 0 rfl rfl ?_
      refine pb_get (pc := 42) d_FileReader_isEnd_42 0 0 rfl rfl (by decide) in_FileReader k_306 rfl ?_
      refine pb_iload_n (pc := 45) d_FileReader_isEnd_45 1 rfl rfl ?_
      refine pb_bipush (pc := 46) (v := 10) d_FileReader_isEnd_46 (by decide) ?_
      refine pb_iadd (pc := 48) d_FileReader_isEnd_48 ?_
      refine pb_topi (fun i23 ei23 => ?_)
      try have ti23 : i23.toInt = x.toInt + 10 := t2_add ei23 rfl (by decide) (by omega)
      refine pb_callSN (pc := 49) (I := i_FileReader_isEnd) (nA := 2) (rest := [.int r_19]) (wr := [(h, .inr (7, [.ref b]))]) d_FileReader_isEnd_49 (g_twoAt hl G b N f i23 (by first | assumption | omega (splitDisjunctions := false) | omega | decide) (by first | assumption | omega (splitDisjunctions := false) | omega | decide) (by first | assumption | omega (splitDisjunctions := false) | omega | decide) F_f) [1] [0] (by decide) rfl rfl rfl (by decide) (by decide) k_597 rfl k_118 k_599 k_596 hy_Book_twoAt (by decide) rfl rfl (Nat.le_of_ble_eq_true rfl) (by decide) (fun v9 u25 ch24 => ?_)
      obtain ⟨r_26, rfl⟩ : ∃ z9, z9 = u25 := ⟨_, rfl⟩
      obtain ⟨ech24, ch24⟩ := ch24
      have ech24 : v9 = some (.int r_26) := ech24
      subst ech24
      obtain ⟨fh27, fh28, fh29⟩ : (0 ≤ r_26.toInt) ∧ (r_26.toInt ≤ 65535) ∧ (r_26.toInt = tw f i23.toInt) := ch24
      refine pb_eq (pc' := 52) (lo' := [(0, .ref h), (1, .int x)]) (rest' := [.int r_26, .int r_19]) (ws' := [(h, .inr (7, [.ref b])), (b, .inl (G.2.1, N, .inl f))]) ?_
      refine pb_icmp_ne (pc := 52) (tgt := 73) d_FileReader_isEnd_52 (by decide) (fun w30 => ?_) (fun w30 => ?_)
      · have tw30 : ¬ r_19.toInt = r_26.toInt := fun z9 => w30 ((ti_eq rfl rfl).mpr z9)
        refine pb_iconst (pc := 73) (v := 0) d_FileReader_isEnd_73 (by decide) ?_
        exact pb_iret (pc := 74) hQ d_FileReader_isEnd_74 rfl rfl (0) ⟨rfl, (by (try dsimp only); first | done | assumption | omega (splitDisjunctions := false) | omega | decide)⟩ [0, 1] (by decide) rfl rfl (by decide) (by decide)
      · have tw30 : r_19.toInt = r_26.toInt := (ti_eq rfl rfl).mp w30
        refine pb_aload_n (pc := 55) d_FileReader_isEnd_55 0 rfl rfl ?_
        refine pb_get (pc := 56) d_FileReader_isEnd_56 0 0 rfl rfl (by decide) in_FileReader k_306 rfl ?_
        refine pb_iload_n (pc := 59) d_FileReader_isEnd_59 1 rfl rfl ?_
        refine pb_bipush (pc := 60) (v := 20) d_FileReader_isEnd_60 (by decide) ?_
        refine pb_iadd (pc := 62) d_FileReader_isEnd_62 ?_
        refine pb_topi (fun i31 ei31 => ?_)
        try have ti31 : i31.toInt = x.toInt + 20 := t2_add ei31 rfl (by decide) (by omega)
        refine pb_callSN (pc := 63) (I := i_FileReader_isEnd) (nA := 2) (rest := []) (wr := [(h, .inr (7, [.ref b]))]) d_FileReader_isEnd_63 (g_twoAt hl G b N f i31 (by first | assumption | omega (splitDisjunctions := false) | omega | decide) (by first | assumption | omega (splitDisjunctions := false) | omega | decide) (by first | assumption | omega (splitDisjunctions := false) | omega | decide) F_f) [1] [0] (by decide) rfl rfl rfl (by decide) (by decide) k_597 rfl k_118 k_599 k_596 hy_Book_twoAt (by decide) rfl rfl (Nat.le_of_ble_eq_true rfl) (by decide) (fun v9 u33 ch32 => ?_)
        obtain ⟨r_34, rfl⟩ : ∃ z9, z9 = u33 := ⟨_, rfl⟩
        obtain ⟨ech32, ch32⟩ := ch32
        have ech32 : v9 = some (.int r_34) := ech32
        subst ech32
        obtain ⟨fh35, fh36, fh37⟩ : (0 ≤ r_34.toInt) ∧ (r_34.toInt ≤ 65535) ∧ (r_34.toInt = tw f i31.toInt) := ch32
        refine pb_eq (pc' := 66) (lo' := [(0, .ref h), (1, .int x)]) (rest' := [.int r_34]) (ws' := [(h, .inr (7, [.ref b])), (b, .inl (G.2.1, N, .inl f))]) ?_
        refine pb_if_ne (pc := 66) (tgt := 73) d_FileReader_isEnd_66 (by decide) (fun w38 => ?_) (fun w38 => ?_)
        · have tw38 : ¬ r_34.toInt = 0 := fun z9 => w38 ((ti_eq rfl (by decide)).mpr z9)
          refine pb_iconst (pc := 73) (v := 0) d_FileReader_isEnd_73 (by decide) ?_
          exact pb_iret (pc := 74) hQ d_FileReader_isEnd_74 rfl rfl (0) ⟨rfl, (by (try dsimp only); first | done | assumption | omega (splitDisjunctions := false) | omega | decide)⟩ [0, 1] (by decide) rfl rfl (by decide) (by decide)
        · have tw38 : r_34.toInt = 0 := (ti_eq rfl (by decide)).mp w38
          refine pb_iconst (pc := 69) (v := 1) d_FileReader_isEnd_69 (by decide) ?_
          refine pb_goto (pc := 70) (tgt := 74) d_FileReader_isEnd_70 (by decide) ?_
          exact pb_iret (pc := 74) hQ d_FileReader_isEnd_74 rfl rfl (1) ⟨rfl, (by (try dsimp only); first | done | assumption | omega (splitDisjunctions := false) | omega | decide)⟩ [0, 1] (by decide) rfl rfl (by decide) (by decide)

theorem d_FileReader_isEntry_0 : decode prog_5_method_5_code 0 = .ok (.aload_n 0, 1) := by decide +kernel
theorem d_FileReader_isEntry_1 : decode prog_5_method_5_code 1 = .ok (.getfield 9, 3) := by decide +kernel
theorem d_FileReader_isEntry_4 : decode prog_5_method_5_code 4 = .ok (.iload_n 1, 1) := by decide +kernel
theorem d_FileReader_isEntry_5 : decode prog_5_method_5_code 5 = .ok (.bipush 10, 2) := by decide +kernel
theorem d_FileReader_isEntry_7 : decode prog_5_method_5_code 7 = .ok (.iadd, 1) := by decide +kernel
theorem d_FileReader_isEntry_8 : decode prog_5_method_5_code 8 = .ok (.invokestatic 24, 3) := by decide +kernel
theorem d_FileReader_isEntry_11 : decode prog_5_method_5_code 11 = .ok (.istore_n 2, 1) := by decide +kernel
theorem d_FileReader_isEntry_12 : decode prog_5_method_5_code 12 = .ok (.aload_n 0, 1) := by decide +kernel
theorem d_FileReader_isEntry_13 : decode prog_5_method_5_code 13 = .ok (.getfield 9, 3) := by decide +kernel
theorem d_FileReader_isEntry_16 : decode prog_5_method_5_code 16 = .ok (.iload_n 1, 1) := by decide +kernel
theorem d_FileReader_isEntry_17 : decode prog_5_method_5_code 17 = .ok (.invokestatic 28, 3) := by decide +kernel
theorem d_FileReader_isEntry_20 : decode prog_5_method_5_code 20 = .ok (.ldc2_w 45, 3) := by decide +kernel
theorem k_608 : (Jvm.Cond.constantLong "PackageBook$FileReader" (45 : Nat) (33639248 : Int64)) ∈ uW := uW_of 608 (by decide +kernel) (by decide +kernel)
theorem d_FileReader_isEntry_23 : decode prog_5_method_5_code 23 = .ok (.lcmp, 1) := by decide +kernel
theorem d_FileReader_isEntry_24 : decode prog_5_method_5_code 24 = .ok (.ifCond .ne 110, 3) := by decide +kernel
theorem d_FileReader_isEntry_134 : decode prog_5_method_5_code 134 = .ok (.iconst 0, 1) := by decide +kernel
theorem d_FileReader_isEntry_135 : decode prog_5_method_5_code 135 = .ok (.ireturn, 1) := by decide +kernel
theorem d_FileReader_isEntry_27 : decode prog_5_method_5_code 27 = .ok (.aload_n 0, 1) := by decide +kernel
theorem d_FileReader_isEntry_28 : decode prog_5_method_5_code 28 = .ok (.getfield 9, 3) := by decide +kernel
theorem d_FileReader_isEntry_31 : decode prog_5_method_5_code 31 = .ok (.iload_n 1, 1) := by decide +kernel
theorem d_FileReader_isEntry_32 : decode prog_5_method_5_code 32 = .ok (.iconst 4, 1) := by decide +kernel
theorem d_FileReader_isEntry_33 : decode prog_5_method_5_code 33 = .ok (.iadd, 1) := by decide +kernel
theorem d_FileReader_isEntry_34 : decode prog_5_method_5_code 34 = .ok (.invokestatic 24, 3) := by decide +kernel
theorem d_FileReader_isEntry_37 : decode prog_5_method_5_code 37 = .ok (.bipush 20, 2) := by decide +kernel
theorem d_FileReader_isEntry_39 : decode prog_5_method_5_code 39 = .ok (.if_icmp .ne 95, 3) := by decide +kernel
theorem d_FileReader_isEntry_42 : decode prog_5_method_5_code 42 = .ok (.aload_n 0, 1) := by decide +kernel
theorem d_FileReader_isEntry_43 : decode prog_5_method_5_code 43 = .ok (.getfield 9, 3) := by decide +kernel
theorem d_FileReader_isEntry_46 : decode prog_5_method_5_code 46 = .ok (.iload_n 1, 1) := by decide +kernel
theorem d_FileReader_isEntry_47 : decode prog_5_method_5_code 47 = .ok (.bipush 6, 2) := by decide +kernel
theorem d_FileReader_isEntry_49 : decode prog_5_method_5_code 49 = .ok (.iadd, 1) := by decide +kernel
theorem d_FileReader_isEntry_50 : decode prog_5_method_5_code 50 = .ok (.invokestatic 24, 3) := by decide +kernel
theorem d_FileReader_isEntry_53 : decode prog_5_method_5_code 53 = .ok (.bipush 20, 2) := by decide +kernel
theorem d_FileReader_isEntry_55 : decode prog_5_method_5_code 55 = .ok (.if_icmp .ne 79, 3) := by decide +kernel
theorem d_FileReader_isEntry_58 : decode prog_5_method_5_code 58 = .ok (.aload_n 0, 1) := by decide +kernel
theorem d_FileReader_isEntry_59 : decode prog_5_method_5_code 59 = .ok (.getfield 9, 3) := by decide +kernel
theorem d_FileReader_isEntry_62 : decode prog_5_method_5_code 62 = .ok (.iload_n 1, 1) := by decide +kernel
theorem d_FileReader_isEntry_63 : decode prog_5_method_5_code 63 = .ok (.bipush 8, 2) := by decide +kernel
theorem d_FileReader_isEntry_65 : decode prog_5_method_5_code 65 = .ok (.iadd, 1) := by decide +kernel
theorem d_FileReader_isEntry_66 : decode prog_5_method_5_code 66 = .ok (.invokestatic 24, 3) := by decide +kernel
theorem d_FileReader_isEntry_69 : decode prog_5_method_5_code 69 = .ok (.ifCond .ne 65, 3) := by decide +kernel
theorem d_FileReader_isEntry_72 : decode prog_5_method_5_code 72 = .ok (.iload_n 2, 1) := by decide +kernel
theorem d_FileReader_isEntry_73 : decode prog_5_method_5_code 73 = .ok (.ifCond .eq 9, 3) := by decide +kernel
theorem d_FileReader_isEntry_82 : decode prog_5_method_5_code 82 = .ok (.aload_n 0, 1) := by decide +kernel
theorem d_FileReader_isEntry_83 : decode prog_5_method_5_code 83 = .ok (.getfield 9, 3) := by decide +kernel
theorem d_FileReader_isEntry_86 : decode prog_5_method_5_code 86 = .ok (.iload_n 1, 1) := by decide +kernel
theorem d_FileReader_isEntry_87 : decode prog_5_method_5_code 87 = .ok (.bipush 30, 2) := by decide +kernel
theorem d_FileReader_isEntry_89 : decode prog_5_method_5_code 89 = .ok (.iadd, 1) := by decide +kernel
theorem d_FileReader_isEntry_90 : decode prog_5_method_5_code 90 = .ok (.invokestatic 28, 3) := by decide +kernel
theorem d_FileReader_isEntry_93 : decode prog_5_method_5_code 93 = .ok (.lconst 0, 1) := by decide +kernel
theorem d_FileReader_isEntry_94 : decode prog_5_method_5_code 94 = .ok (.lcmp, 1) := by decide +kernel
theorem d_FileReader_isEntry_95 : decode prog_5_method_5_code 95 = .ok (.ifCond .ne 39, 3) := by decide +kernel
theorem d_FileReader_isEntry_98 : decode prog_5_method_5_code 98 = .ok (.aload_n 0, 1) := by decide +kernel
theorem d_FileReader_isEntry_99 : decode prog_5_method_5_code 99 = .ok (.getfield 9, 3) := by decide +kernel
theorem d_FileReader_isEntry_102 : decode prog_5_method_5_code 102 = .ok (.iload_n 1, 1) := by decide +kernel
theorem d_FileReader_isEntry_103 : decode prog_5_method_5_code 103 = .ok (.bipush 34, 2) := by decide +kernel
theorem d_FileReader_isEntry_105 : decode prog_5_method_5_code 105 = .ok (.iadd, 1) := by decide +kernel
theorem d_FileReader_isEntry_106 : decode prog_5_method_5_code 106 = .ok (.invokestatic 28, 3) := by decide +kernel
theorem d_FileReader_isEntry_109 : decode prog_5_method_5_code 109 = .ok (.lconst 0, 1) := by decide +kernel
theorem d_FileReader_isEntry_110 : decode prog_5_method_5_code 110 = .ok (.lcmp, 1) := by decide +kernel
theorem d_FileReader_isEntry_111 : decode prog_5_method_5_code 111 = .ok (.ifCond .ne 23, 3) := by decide +kernel
theorem d_FileReader_isEntry_114 : decode prog_5_method_5_code 114 = .ok (.aload_n 0, 1) := by decide +kernel
theorem d_FileReader_isEntry_115 : decode prog_5_method_5_code 115 = .ok (.getfield 9, 3) := by decide +kernel
theorem d_FileReader_isEntry_118 : decode prog_5_method_5_code 118 = .ok (.iload_n 1, 1) := by decide +kernel
theorem d_FileReader_isEntry_119 : decode prog_5_method_5_code 119 = .ok (.bipush 38, 2) := by decide +kernel
theorem d_FileReader_isEntry_121 : decode prog_5_method_5_code 121 = .ok (.iadd, 1) := by decide +kernel
theorem d_FileReader_isEntry_122 : decode prog_5_method_5_code 122 = .ok (.invokestatic 28, 3) := by decide +kernel
theorem d_FileReader_isEntry_125 : decode prog_5_method_5_code 125 = .ok (.lconst 0, 1) := by decide +kernel
theorem d_FileReader_isEntry_126 : decode prog_5_method_5_code 126 = .ok (.lcmp, 1) := by decide +kernel
theorem d_FileReader_isEntry_127 : decode prog_5_method_5_code 127 = .ok (.ifCond .ne 7, 3) := by decide +kernel
theorem d_FileReader_isEntry_130 : decode prog_5_method_5_code 130 = .ok (.iconst 1, 1) := by decide +kernel
theorem d_FileReader_isEntry_131 : decode prog_5_method_5_code 131 = .ok (.goto 4, 3) := by decide +kernel
theorem d_FileReader_isEntry_76 : decode prog_5_method_5_code 76 = .ok (.iload_n 2, 1) := by decide +kernel
theorem d_FileReader_isEntry_77 : decode prog_5_method_5_code 77 = .ok (.bipush 8, 2) := by decide +kernel
theorem d_FileReader_isEntry_79 : decode prog_5_method_5_code 79 = .ok (.if_icmp .ne 55, 3) := by decide +kernel
abbrev y_FileReader_isEntry : MethodName := ⟨"PackageBook$FileReader", "isEntry", "(I)Z"⟩
abbrev i_FileReader_isEntry : pb_I := (y_FileReader_isEntry, prog_5_method_5_code, 3, (some Jvm.ClassFile.FieldType.boolean), [], { frames := 2, cells := 0, slots := 0, locals := 42 })
set_option maxRecDepth 100000 in
set_option maxHeartbeats 4000000 in
theorem g_Rd_isEntry {l : Launch} (hl : l.stackTraces = false) (G : pb_G) (h : Nat) (b : Nat) (N : Nat) (f : Nat → Int32) (x : Int32) (h0 : 0 ≤ x.toInt) (h1 : x.toInt + 46 ≤ N) (hN : N ≤ 100000) (F_f : sb_Fit f) : Cn l G i_FileReader_isEntry [.ref h, .int x] [(h, .inr (7, [.ref b])), (b, .inl (G.2.1, N, .inl f))] (S := Int32) (fun rv_ u => rv_ = some (.int u) ∧ (u.toInt = 0 ∨ u.toInt = 1)) (fun u => [(h, .inr (7, [.ref b])), (b, .inl (G.2.1, N, .inl f))]) := by
  refine Cn.of hl (by decide +kernel) rfl (Nat.le_of_ble_eq_true rfl) (fun M hQ => ?_)
  refine pb_eq (pc' := 0) (lo' := [(0, .ref h), (1, .int x)]) (rest' := []) (ws' := [(h, .inr (7, [.ref b])), (b, .inl (G.2.1, N, .inl f))]) ?_
  have zl0 : (0 : Int32).toInt = 0 := by decide
  have zl1 : (1 : Int32).toInt = 1 := by decide
  refine pb_aload_n (pc := 0) d_FileReader_isEntry_0 0 rfl rfl ?_
  refine pb_get (pc := 1) d_FileReader_isEntry_1 0 0 rfl rfl (by decide) in_FileReader k_306 rfl ?_
  refine pb_iload_n (pc := 4) d_FileReader_isEntry_4 1 rfl rfl ?_
  refine pb_bipush (pc := 5) (v := 10) d_FileReader_isEntry_5 (by decide) ?_
  refine pb_iadd (pc := 7) d_FileReader_isEntry_7 ?_
  refine pb_topi (fun i1 ei1 => ?_)
  try have ti1 : i1.toInt = x.toInt + 10 := t2_add ei1 rfl (by decide) (by omega)
  refine pb_callSN (pc := 8) (I := i_FileReader_isEntry) (nA := 2) (rest := []) (wr := [(h, .inr (7, [.ref b]))]) d_FileReader_isEntry_8 (g_twoAt hl G b N f i1 (by first | assumption | omega (splitDisjunctions := false) | omega | decide) (by first | assumption | omega (splitDisjunctions := false) | omega | decide) (by first | assumption | omega (splitDisjunctions := false) | omega | decide) F_f) [1] [0] (by decide) rfl rfl rfl (by decide) (by decide) k_597 rfl k_118 k_599 k_596 hy_Book_twoAt (by decide) rfl rfl (Nat.le_of_ble_eq_true rfl) (by decide) (fun v9 u3 ch2 => ?_)
  obtain ⟨r_4, rfl⟩ : ∃ z9, z9 = u3 := ⟨_, rfl⟩
  obtain ⟨ech2, ch2⟩ := ch2
  have ech2 : v9 = some (.int r_4) := ech2
  subst ech2
  obtain ⟨fh5, fh6, fh7⟩ : (0 ≤ r_4.toInt) ∧ (r_4.toInt ≤ 65535) ∧ (r_4.toInt = tw f i1.toInt) := ch2
  refine pb_eq (pc' := 11) (lo' := [(0, .ref h), (1, .int x)]) (rest' := [.int r_4]) (ws' := [(h, .inr (7, [.ref b])), (b, .inl (G.2.1, N, .inl f))]) ?_
  refine pb_istore_n (pc := 11) (lo' := [(2, .int r_4), (0, .ref h), (1, .int x)]) d_FileReader_isEntry_11 rfl (by decide) rfl ?_
  refine pb_aload_n (pc := 12) d_FileReader_isEntry_12 1 rfl rfl ?_
  refine pb_get (pc := 13) d_FileReader_isEntry_13 0 0 rfl rfl (by decide) in_FileReader k_306 rfl ?_
  refine pb_iload_n (pc := 16) d_FileReader_isEntry_16 2 rfl rfl ?_
  refine pb_callSN (pc := 17) (I := i_FileReader_isEntry) (nA := 2) (rest := []) (wr := [(h, .inr (7, [.ref b]))]) d_FileReader_isEntry_17 (g_fourAt hl G b N f x (by first | assumption | omega (splitDisjunctions := false) | omega | decide) (by first | assumption | omega (splitDisjunctions := false) | omega | decide) (by first | assumption | omega (splitDisjunctions := false) | omega | decide) F_f) [1] [0] (by decide) rfl rfl rfl (by decide) (by decide) k_594 rfl k_118 k_592 k_593 hy_Book_fourAt (by decide) rfl rfl (Nat.le_of_ble_eq_true rfl) (by decide) (fun v9 u9 ch8 => ?_)
  obtain ⟨r_10, rfl⟩ : ∃ z9, z9 = u9 := ⟨_, rfl⟩
  obtain ⟨ech8, ch8⟩ := ch8
  have ech8 : v9 = some (.long r_10) := ech8
  subst ech8
  obtain ⟨fh11, fh12⟩ : (0 ≤ r_10.toInt) ∧ (r_10.toInt < 4294967296) := ch8
  refine pb_eq (pc' := 20) (lo' := [(2, .int r_4), (0, .ref h), (1, .int x)]) (rest' := [.long r_10]) (ws' := [(h, .inr (7, [.ref b])), (b, .inl (G.2.1, N, .inl f))]) ?_
  refine pb_ldc2 (pc := 20) (v := 33639248) d_FileReader_isEntry_20 k_608 ?_
  refine pb_lcmp (pc := 23) d_FileReader_isEntry_23 ?_
  refine pb_topi (fun i13 ei13 => ?_)
  have ti13 : (i13.toInt < 0 ↔ r_10.toInt < 33639248) ∧ (i13.toInt = 0 ↔ r_10.toInt = 33639248) ∧ (0 < i13.toInt ↔ 33639248 < r_10.toInt) := tl_cmp ei13 rfl (by decide)
  refine pb_if_ne (pc := 24) (tgt := 134) d_FileReader_isEntry_24 (by decide) (fun w14 => ?_) (fun w14 => ?_)
  · have tw14 : ¬ i13.toInt = 0 := fun z9 => w14 ((ti_eq rfl (by decide)).mpr z9)
    refine pb_iconst (pc := 134) (v := 0) d_FileReader_isEntry_134 (by decide) ?_
    exact pb_iret (pc := 135) hQ d_FileReader_isEntry_135 rfl rfl (0) ⟨rfl, (by (try dsimp only); first | done | assumption | omega (splitDisjunctions := false) | omega | decide)⟩ [0, 1] (by decide) rfl rfl (by decide) (by decide)
  · have tw14 : i13.toInt = 0 := (ti_eq rfl (by decide)).mp w14
    refine pb_aload_n (pc := 27) d_FileReader_isEntry_27 1 rfl rfl ?_
    refine pb_get (pc := 28) d_FileReader_isEntry_28 0 0 rfl rfl (by decide) in_FileReader k_306 rfl ?_
    refine pb_iload_n (pc := 31) d_FileReader_isEntry_31 2 rfl rfl ?_
    refine pb_iconst (pc := 32) (v := 4) d_FileReader_isEntry_32 (by decide) ?_
    refine pb_iadd (pc := 33) d_FileReader_isEntry_33 ?_
    refine pb_topi (fun i15 ei15 => ?_)
    try have ti15 : i15.toInt = x.toInt + 4 := t2_add ei15 rfl (by decide) (by omega)
    refine pb_callSN (pc := 34) (I := i_FileReader_isEntry) (nA := 2) (rest := []) (wr := [(h, .inr (7, [.ref b]))]) d_FileReader_isEntry_34 (g_twoAt hl G b N f i15 (by first | assumption | omega (splitDisjunctions := false) | omega | decide) (by first | assumption | omega (splitDisjunctions := false) | omega | decide) (by first | assumption | omega (splitDisjunctions := false) | omega | decide) F_f) [1] [0] (by decide) rfl rfl rfl (by decide) (by decide) k_597 rfl k_118 k_599 k_596 hy_Book_twoAt (by decide) rfl rfl (Nat.le_of_ble_eq_true rfl) (by decide) (fun v9 u17 ch16 => ?_)
    obtain ⟨r_18, rfl⟩ : ∃ z9, z9 = u17 := ⟨_, rfl⟩
    obtain ⟨ech16, ch16⟩ := ch16
    have ech16 : v9 = some (.int r_18) := ech16
    subst ech16
    obtain ⟨fh19, fh20, fh21⟩ : (0 ≤ r_18.toInt) ∧ (r_18.toInt ≤ 65535) ∧ (r_18.toInt = tw f i15.toInt) := ch16
    refine pb_eq (pc' := 37) (lo' := [(2, .int r_4), (0, .ref h), (1, .int x)]) (rest' := [.int r_18]) (ws' := [(h, .inr (7, [.ref b])), (b, .inl (G.2.1, N, .inl f))]) ?_
    refine pb_bipush (pc := 37) (v := 20) d_FileReader_isEntry_37 (by decide) ?_
    refine pb_icmp_ne (pc := 39) (tgt := 134) d_FileReader_isEntry_39 (by decide) (fun w22 => ?_) (fun w22 => ?_)
    · have tw22 : ¬ r_18.toInt = 20 := fun z9 => w22 ((ti_eq rfl (by decide)).mpr z9)
      refine pb_iconst (pc := 134) (v := 0) d_FileReader_isEntry_134 (by decide) ?_
      exact pb_iret (pc := 135) hQ d_FileReader_isEntry_135 rfl rfl (0) ⟨rfl, (by (try dsimp only); first | done | assumption | omega (splitDisjunctions := false) | omega | decide)⟩ [0, 1] (by decide) rfl rfl (by decide) (by decide)
    · have tw22 : r_18.toInt = 20 := (ti_eq rfl (by decide)).mp w22
      refine pb_aload_n (pc := 42) d_FileReader_isEntry_42 1 rfl rfl ?_
      refine pb_get (pc := 43) d_FileReader_isEntry_43 0 0 rfl rfl (by decide) in_FileReader k_306 rfl ?_
      refine pb_iload_n (pc := 46) d_FileReader_isEntry_46 2 rfl rfl ?_
      refine pb_bipush (pc := 47) (v := 6) d_FileReader_isEntry_47 (by decide) ?_
      refine pb_iadd (pc := 49) d_FileReader_isEntry_49 ?_
      refine pb_topi (fun i23 ei23 => ?_)
      try have ti23 : i23.toInt = x.toInt + 6 := t2_add ei23 rfl (by decide) (by omega)
      refine pb_callSN (pc := 50) (I := i_FileReader_isEntry) (nA := 2) (rest := []) (wr := [(h, .inr (7, [.ref b]))]) d_FileReader_isEntry_50 (g_twoAt hl G b N f i23 (by first | assumption | omega (splitDisjunctions := false) | omega | decide) (by first | assumption | omega (splitDisjunctions := false) | omega | decide) (by first | assumption | omega (splitDisjunctions := false) | omega | decide) F_f) [1] [0] (by decide) rfl rfl rfl (by decide) (by decide) k_597 rfl k_118 k_599 k_596 hy_Book_twoAt (by decide) rfl rfl (Nat.le_of_ble_eq_true rfl) (by decide) (fun v9 u25 ch24 => ?_)
      obtain ⟨r_26, rfl⟩ : ∃ z9, z9 = u25 := ⟨_, rfl⟩
      obtain ⟨ech24, ch24⟩ := ch24
      have ech24 : v9 = some (.int r_26) := ech24
      subst ech24
      obtain ⟨fh27, fh28, fh29⟩ : (0 ≤ r_26.toInt) ∧ (r_26.toInt ≤ 65535) ∧ (r_26.toInt = tw f i23.toInt) := ch24
      refine pb_eq (pc' := 53) (lo' := [(2, .int r_4), (0, .ref h), (1, .int x)]) (rest' := [.int r_26]) (ws' := [(h, .inr (7, [.ref b])), (b, .inl (G.2.1, N, .inl f))]) ?_
      refine pb_bipush (pc := 53) (v := 20) d_FileReader_isEntry_53 (by decide) ?_
      refine pb_icmp_ne (pc := 55) (tgt := 134) d_FileReader_isEntry_55 (by decide) (fun w30 => ?_) (fun w30 => ?_)
      · have tw30 : ¬ r_26.toInt = 20 := fun z9 => w30 ((ti_eq rfl (by decide)).mpr z9)
        refine pb_iconst (pc := 134) (v := 0) d_FileReader_isEntry_134 (by decide) ?_
        exact pb_iret (pc := 135) hQ d_FileReader_isEntry_135 rfl rfl (0) ⟨rfl, (by (try dsimp only); first | done | assumption | omega (splitDisjunctions := false) | omega | decide)⟩ [0, 1] (by decide) rfl rfl (by decide) (by decide)
      · have tw30 : r_26.toInt = 20 := (ti_eq rfl (by decide)).mp w30
        refine pb_aload_n (pc := 58) d_FileReader_isEntry_58 1 rfl rfl ?_
        refine pb_get (pc := 59) d_FileReader_isEntry_59 0 0 rfl rfl (by decide) in_FileReader k_306 rfl ?_
        refine pb_iload_n (pc := 62) d_FileReader_isEntry_62 2 rfl rfl ?_
        refine pb_bipush (pc := 63) (v := 8) d_FileReader_isEntry_63 (by decide) ?_
        refine pb_iadd (pc := 65) d_FileReader_isEntry_65 ?_
        refine pb_topi (fun i31 ei31 => ?_)
        try have ti31 : i31.toInt = x.toInt + 8 := t2_add ei31 rfl (by decide) (by omega)
        refine pb_callSN (pc := 66) (I := i_FileReader_isEntry) (nA := 2) (rest := []) (wr := [(h, .inr (7, [.ref b]))]) d_FileReader_isEntry_66 (g_twoAt hl G b N f i31 (by first | assumption | omega (splitDisjunctions := false) | omega | decide) (by first | assumption | omega (splitDisjunctions := false) | omega | decide) (by first | assumption | omega (splitDisjunctions := false) | omega | decide) F_f) [1] [0] (by decide) rfl rfl rfl (by decide) (by decide) k_597 rfl k_118 k_599 k_596 hy_Book_twoAt (by decide) rfl rfl (Nat.le_of_ble_eq_true rfl) (by decide) (fun v9 u33 ch32 => ?_)
        obtain ⟨r_34, rfl⟩ : ∃ z9, z9 = u33 := ⟨_, rfl⟩
        obtain ⟨ech32, ch32⟩ := ch32
        have ech32 : v9 = some (.int r_34) := ech32
        subst ech32
        obtain ⟨fh35, fh36, fh37⟩ : (0 ≤ r_34.toInt) ∧ (r_34.toInt ≤ 65535) ∧ (r_34.toInt = tw f i31.toInt) := ch32
        refine pb_eq (pc' := 69) (lo' := [(2, .int r_4), (0, .ref h), (1, .int x)]) (rest' := [.int r_34]) (ws' := [(h, .inr (7, [.ref b])), (b, .inl (G.2.1, N, .inl f))]) ?_
        refine pb_if_ne (pc := 69) (tgt := 134) d_FileReader_isEntry_69 (by decide) (fun w38 => ?_) (fun w38 => ?_)
        · have tw38 : ¬ r_34.toInt = 0 := fun z9 => w38 ((ti_eq rfl (by decide)).mpr z9)
          refine pb_iconst (pc := 134) (v := 0) d_FileReader_isEntry_134 (by decide) ?_
          exact pb_iret (pc := 135) hQ d_FileReader_isEntry_135 rfl rfl (0) ⟨rfl, (by (try dsimp only); first | done | assumption | omega (splitDisjunctions := false) | omega | decide)⟩ [0, 1] (by decide) rfl rfl (by decide) (by decide)
        · have tw38 : r_34.toInt = 0 := (ti_eq rfl (by decide)).mp w38
          refine pb_iload_n (pc := 72) d_FileReader_isEntry_72 0 rfl rfl ?_
          refine pb_if_eq (pc := 73) (tgt := 82) d_FileReader_isEntry_73 (by decide) (fun w39 => ?_) (fun w39 => ?_)
          · have tw39 : r_4.toInt = 0 := (ti_eq rfl (by decide)).mp w39
            refine pb_aload_n (pc := 82) d_FileReader_isEntry_82 1 rfl rfl ?_
            refine pb_get (pc := 83) d_FileReader_isEntry_83 0 0 rfl rfl (by decide) in_FileReader k_306 rfl ?_
            refine pb_iload_n (pc := 86) d_FileReader_isEntry_86 2 rfl rfl ?_
            refine pb_bipush (pc := 87) (v := 30) d_FileReader_isEntry_87 (by decide) ?_
            refine pb_iadd (pc := 89) d_FileReader_isEntry_89 ?_
            refine pb_topi (fun i40 ei40 => ?_)
            try have ti40 : i40.toInt = x.toInt + 30 := t2_add ei40 rfl (by decide) (by omega)
            refine pb_callSN (pc := 90) (I := i_FileReader_isEntry) (nA := 2) (rest := []) (wr := [(h, .inr (7, [.ref b]))]) d_FileReader_isEntry_90 (g_fourAt hl G b N f i40 (by first | assumption | omega (splitDisjunctions := false) | omega | decide) (by first | assumption | omega (splitDisjunctions := false) | omega | decide) (by first | assumption | omega (splitDisjunctions := false) | omega | decide) F_f) [1] [0] (by decide) rfl rfl rfl (by decide) (by decide) k_594 rfl k_118 k_592 k_593 hy_Book_fourAt (by decide) rfl rfl (Nat.le_of_ble_eq_true rfl) (by decide) (fun v9 u42 ch41 => ?_)
            obtain ⟨r_43, rfl⟩ : ∃ z9, z9 = u42 := ⟨_, rfl⟩
            obtain ⟨ech41, ch41⟩ := ch41
            have ech41 : v9 = some (.long r_43) := ech41
            subst ech41
            obtain ⟨fh44, fh45⟩ : (0 ≤ r_43.toInt) ∧ (r_43.toInt < 4294967296) := ch41
            refine pb_eq (pc' := 93) (lo' := [(2, .int r_4), (0, .ref h), (1, .int x)]) (rest' := [.long r_43]) (ws' := [(h, .inr (7, [.ref b])), (b, .inl (G.2.1, N, .inl f))]) ?_
            refine pb_lconst (pc := 93) (v := 0) d_FileReader_isEntry_93 (by decide) ?_
            refine pb_lcmp (pc := 94) d_FileReader_isEntry_94 ?_
            refine pb_topi (fun i46 ei46 => ?_)
            have ti46 : (i46.toInt < 0 ↔ r_43.toInt < 0) ∧ (i46.toInt = 0 ↔ r_43.toInt = 0) ∧ (0 < i46.toInt ↔ 0 < r_43.toInt) := tl_cmp ei46 rfl (by decide)
            refine pb_if_ne (pc := 95) (tgt := 134) d_FileReader_isEntry_95 (by decide) (fun w47 => ?_) (fun w47 => ?_)
            · have tw47 : ¬ i46.toInt = 0 := fun z9 => w47 ((ti_eq rfl (by decide)).mpr z9)
              refine pb_iconst (pc := 134) (v := 0) d_FileReader_isEntry_134 (by decide) ?_
              exact pb_iret (pc := 135) hQ d_FileReader_isEntry_135 rfl rfl (0) ⟨rfl, (by (try dsimp only); first | done | assumption | omega (splitDisjunctions := false) | omega | decide)⟩ [0, 1] (by decide) rfl rfl (by decide) (by decide)
            · have tw47 : i46.toInt = 0 := (ti_eq rfl (by decide)).mp w47
              refine pb_aload_n (pc := 98) d_FileReader_isEntry_98 1 rfl rfl ?_
              refine pb_get (pc := 99) d_FileReader_isEntry_99 0 0 rfl rfl (by decide) in_FileReader k_306 rfl ?_
              refine pb_iload_n (pc := 102) d_FileReader_isEntry_102 2 rfl rfl ?_
              refine pb_bipush (pc := 103) (v := 34) d_FileReader_isEntry_103 (by decide) ?_
              refine pb_iadd (pc := 105) d_FileReader_isEntry_105 ?_
              refine pb_topi (fun i48 ei48 => ?_)
              try have ti48 : i48.toInt = x.toInt + 34 := t2_add ei48 rfl (by decide) (by omega)
              refine pb_callSN (pc := 106) (I := i_FileReader_isEntry) (nA := 2) (rest := []) (wr := [(h, .inr (7, [.ref b]))]) d_FileReader_isEntry_106 (g_fourAt hl G b N f i48 (by first | assumption | omega (splitDisjunctions := false) | omega | decide) (by first | assumption | omega (splitDisjunctions := false) | omega | decide) (by first | assumption | omega (splitDisjunctions := false) | omega | decide) F_f) [1] [0] (by decide) rfl rfl rfl (by decide) (by decide) k_594 rfl k_118 k_592 k_593 hy_Book_fourAt (by decide) rfl rfl (Nat.le_of_ble_eq_true rfl) (by decide) (fun v9 u50 ch49 => ?_)
              obtain ⟨r_51, rfl⟩ : ∃ z9, z9 = u50 := ⟨_, rfl⟩
              obtain ⟨ech49, ch49⟩ := ch49
              have ech49 : v9 = some (.long r_51) := ech49
              subst ech49
              obtain ⟨fh52, fh53⟩ : (0 ≤ r_51.toInt) ∧ (r_51.toInt < 4294967296) := ch49
              refine pb_eq (pc' := 109) (lo' := [(2, .int r_4), (0, .ref h), (1, .int x)]) (rest' := [.long r_51]) (ws' := [(h, .inr (7, [.ref b])), (b, .inl (G.2.1, N, .inl f))]) ?_
              refine pb_lconst (pc := 109) (v := 0) d_FileReader_isEntry_109 (by decide) ?_
              refine pb_lcmp (pc := 110) d_FileReader_isEntry_110 ?_
              refine pb_topi (fun i54 ei54 => ?_)
              have ti54 : (i54.toInt < 0 ↔ r_51.toInt < 0) ∧ (i54.toInt = 0 ↔ r_51.toInt = 0) ∧ (0 < i54.toInt ↔ 0 < r_51.toInt) := tl_cmp ei54 rfl (by decide)
              refine pb_if_ne (pc := 111) (tgt := 134) d_FileReader_isEntry_111 (by decide) (fun w55 => ?_) (fun w55 => ?_)
              · have tw55 : ¬ i54.toInt = 0 := fun z9 => w55 ((ti_eq rfl (by decide)).mpr z9)
                refine pb_iconst (pc := 134) (v := 0) d_FileReader_isEntry_134 (by decide) ?_
                exact pb_iret (pc := 135) hQ d_FileReader_isEntry_135 rfl rfl (0) ⟨rfl, (by (try dsimp only); first | done | assumption | omega (splitDisjunctions := false) | omega | decide)⟩ [0, 1] (by decide) rfl rfl (by decide) (by decide)
              · have tw55 : i54.toInt = 0 := (ti_eq rfl (by decide)).mp w55
                refine pb_aload_n (pc := 114) d_FileReader_isEntry_114 1 rfl rfl ?_
                refine pb_get (pc := 115) d_FileReader_isEntry_115 0 0 rfl rfl (by decide) in_FileReader k_306 rfl ?_
                refine pb_iload_n (pc := 118) d_FileReader_isEntry_118 2 rfl rfl ?_
                refine pb_bipush (pc := 119) (v := 38) d_FileReader_isEntry_119 (by decide) ?_
                refine pb_iadd (pc := 121) d_FileReader_isEntry_121 ?_
                refine pb_topi (fun i56 ei56 => ?_)
                try have ti56 : i56.toInt = x.toInt + 38 := t2_add ei56 rfl (by decide) (by omega)
                refine pb_callSN (pc := 122) (I := i_FileReader_isEntry) (nA := 2) (rest := []) (wr := [(h, .inr (7, [.ref b]))]) d_FileReader_isEntry_122 (g_fourAt hl G b N f i56 (by first | assumption | omega (splitDisjunctions := false) | omega | decide) (by first | assumption | omega (splitDisjunctions := false) | omega | decide) (by first | assumption | omega (splitDisjunctions := false) | omega | decide) F_f) [1] [0] (by decide) rfl rfl rfl (by decide) (by decide) k_594 rfl k_118 k_592 k_593 hy_Book_fourAt (by decide) rfl rfl (Nat.le_of_ble_eq_true rfl) (by decide) (fun v9 u58 ch57 => ?_)
                obtain ⟨r_59, rfl⟩ : ∃ z9, z9 = u58 := ⟨_, rfl⟩
                obtain ⟨ech57, ch57⟩ := ch57
                have ech57 : v9 = some (.long r_59) := ech57
                subst ech57
                obtain ⟨fh60, fh61⟩ : (0 ≤ r_59.toInt) ∧ (r_59.toInt < 4294967296) := ch57
                refine pb_eq (pc' := 125) (lo' := [(2, .int r_4), (0, .ref h), (1, .int x)]) (rest' := [.long r_59]) (ws' := [(h, .inr (7, [.ref b])), (b, .inl (G.2.1, N, .inl f))]) ?_
                refine pb_lconst (pc := 125) (v := 0) d_FileReader_isEntry_125 (by decide) ?_
                refine pb_lcmp (pc := 126) d_FileReader_isEntry_126 ?_
                refine pb_topi (fun i62 ei62 => ?_)
                have ti62 : (i62.toInt < 0 ↔ r_59.toInt < 0) ∧ (i62.toInt = 0 ↔ r_59.toInt = 0) ∧ (0 < i62.toInt ↔ 0 < r_59.toInt) := tl_cmp ei62 rfl (by decide)
                refine pb_if_ne (pc := 127) (tgt := 134) d_FileReader_isEntry_127 (by decide) (fun w63 => ?_) (fun w63 => ?_)
                · have tw63 : ¬ i62.toInt = 0 := fun z9 => w63 ((ti_eq rfl (by decide)).mpr z9)
                  refine pb_iconst (pc := 134) (v := 0) d_FileReader_isEntry_134 (by decide) ?_
                  exact pb_iret (pc := 135) hQ d_FileReader_isEntry_135 rfl rfl (0) ⟨rfl, (by (try dsimp only); first | done | assumption | omega (splitDisjunctions := false) | omega | decide)⟩ [0, 1] (by decide) rfl rfl (by decide) (by decide)
                · have tw63 : i62.toInt = 0 := (ti_eq rfl (by decide)).mp w63
                  refine pb_iconst (pc := 130) (v := 1) d_FileReader_isEntry_130 (by decide) ?_
                  refine pb_goto (pc := 131) (tgt := 135) d_FileReader_isEntry_131 (by decide) ?_
                  exact pb_iret (pc := 135) hQ d_FileReader_isEntry_135 rfl rfl (1) ⟨rfl, (by (try dsimp only); first | done | assumption | omega (splitDisjunctions := false) | omega | decide)⟩ [0, 1] (by decide) rfl rfl (by decide) (by decide)
          · have tw39 : ¬ r_4.toInt = 0 := fun z9 => w39 ((ti_eq rfl (by decide)).mpr z9)
            refine pb_iload_n (pc := 76) d_FileReader_isEntry_76 0 rfl rfl ?_
            refine pb_bipush (pc := 77) (v := 8) d_FileReader_isEntry_77 (by decide) ?_
            refine pb_icmp_ne (pc := 79) (tgt := 134) d_FileReader_isEntry_79 (by decide) (fun w64 => ?_) (fun w64 => ?_)
            · have tw64 : ¬ r_4.toInt = 8 := fun z9 => w64 ((ti_eq rfl (by decide)).mpr z9)
              refine pb_iconst (pc := 134) (v := 0) d_FileReader_isEntry_134 (by decide) ?_
              exact pb_iret (pc := 135) hQ d_FileReader_isEntry_135 rfl rfl (0) ⟨rfl, (by (try dsimp only); first | done | assumption | omega (splitDisjunctions := false) | omega | decide)⟩ [0, 1] (by decide) rfl rfl (by decide) (by decide)
            · have tw64 : r_4.toInt = 8 := (ti_eq rfl (by decide)).mp w64
              refine pb_aload_n (pc := 82) d_FileReader_isEntry_82 1 rfl rfl ?_
              refine pb_get (pc := 83) d_FileReader_isEntry_83 0 0 rfl rfl (by decide) in_FileReader k_306 rfl ?_
              refine pb_iload_n (pc := 86) d_FileReader_isEntry_86 2 rfl rfl ?_
              refine pb_bipush (pc := 87) (v := 30) d_FileReader_isEntry_87 (by decide) ?_
              refine pb_iadd (pc := 89) d_FileReader_isEntry_89 ?_
              refine pb_topi (fun i65 ei65 => ?_)
              try have ti65 : i65.toInt = x.toInt + 30 := t2_add ei65 rfl (by decide) (by omega)
              refine pb_callSN (pc := 90) (I := i_FileReader_isEntry) (nA := 2) (rest := []) (wr := [(h, .inr (7, [.ref b]))]) d_FileReader_isEntry_90 (g_fourAt hl G b N f i65 (by first | assumption | omega (splitDisjunctions := false) | omega | decide) (by first | assumption | omega (splitDisjunctions := false) | omega | decide) (by first | assumption | omega (splitDisjunctions := false) | omega | decide) F_f) [1] [0] (by decide) rfl rfl rfl (by decide) (by decide) k_594 rfl k_118 k_592 k_593 hy_Book_fourAt (by decide) rfl rfl (Nat.le_of_ble_eq_true rfl) (by decide) (fun v9 u67 ch66 => ?_)
              obtain ⟨r_68, rfl⟩ : ∃ z9, z9 = u67 := ⟨_, rfl⟩
              obtain ⟨ech66, ch66⟩ := ch66
              have ech66 : v9 = some (.long r_68) := ech66
              subst ech66
              obtain ⟨fh69, fh70⟩ : (0 ≤ r_68.toInt) ∧ (r_68.toInt < 4294967296) := ch66
              refine pb_eq (pc' := 93) (lo' := [(2, .int r_4), (0, .ref h), (1, .int x)]) (rest' := [.long r_68]) (ws' := [(h, .inr (7, [.ref b])), (b, .inl (G.2.1, N, .inl f))]) ?_
              refine pb_lconst (pc := 93) (v := 0) d_FileReader_isEntry_93 (by decide) ?_
              refine pb_lcmp (pc := 94) d_FileReader_isEntry_94 ?_
              refine pb_topi (fun i71 ei71 => ?_)
              have ti71 : (i71.toInt < 0 ↔ r_68.toInt < 0) ∧ (i71.toInt = 0 ↔ r_68.toInt = 0) ∧ (0 < i71.toInt ↔ 0 < r_68.toInt) := tl_cmp ei71 rfl (by decide)
              refine pb_if_ne (pc := 95) (tgt := 134) d_FileReader_isEntry_95 (by decide) (fun w72 => ?_) (fun w72 => ?_)
              · have tw72 : ¬ i71.toInt = 0 := fun z9 => w72 ((ti_eq rfl (by decide)).mpr z9)
                refine pb_iconst (pc := 134) (v := 0) d_FileReader_isEntry_134 (by decide) ?_
                exact pb_iret (pc := 135) hQ d_FileReader_isEntry_135 rfl rfl (0) ⟨rfl, (by (try dsimp only); first | done | assumption | omega (splitDisjunctions := false) | omega | decide)⟩ [0, 1] (by decide) rfl rfl (by decide) (by decide)
              · have tw72 : i71.toInt = 0 := (ti_eq rfl (by decide)).mp w72
                refine pb_aload_n (pc := 98) d_FileReader_isEntry_98 1 rfl rfl ?_
                refine pb_get (pc := 99) d_FileReader_isEntry_99 0 0 rfl rfl (by decide) in_FileReader k_306 rfl ?_
                refine pb_iload_n (pc := 102) d_FileReader_isEntry_102 2 rfl rfl ?_
                refine pb_bipush (pc := 103) (v := 34) d_FileReader_isEntry_103 (by decide) ?_
                refine pb_iadd (pc := 105) d_FileReader_isEntry_105 ?_
                refine pb_topi (fun i73 ei73 => ?_)
                try have ti73 : i73.toInt = x.toInt + 34 := t2_add ei73 rfl (by decide) (by omega)
                refine pb_callSN (pc := 106) (I := i_FileReader_isEntry) (nA := 2) (rest := []) (wr := [(h, .inr (7, [.ref b]))]) d_FileReader_isEntry_106 (g_fourAt hl G b N f i73 (by first | assumption | omega (splitDisjunctions := false) | omega | decide) (by first | assumption | omega (splitDisjunctions := false) | omega | decide) (by first | assumption | omega (splitDisjunctions := false) | omega | decide) F_f) [1] [0] (by decide) rfl rfl rfl (by decide) (by decide) k_594 rfl k_118 k_592 k_593 hy_Book_fourAt (by decide) rfl rfl (Nat.le_of_ble_eq_true rfl) (by decide) (fun v9 u75 ch74 => ?_)
                obtain ⟨r_76, rfl⟩ : ∃ z9, z9 = u75 := ⟨_, rfl⟩
                obtain ⟨ech74, ch74⟩ := ch74
                have ech74 : v9 = some (.long r_76) := ech74
                subst ech74
                obtain ⟨fh77, fh78⟩ : (0 ≤ r_76.toInt) ∧ (r_76.toInt < 4294967296) := ch74
                refine pb_eq (pc' := 109) (lo' := [(2, .int r_4), (0, .ref h), (1, .int x)]) (rest' := [.long r_76]) (ws' := [(h, .inr (7, [.ref b])), (b, .inl (G.2.1, N, .inl f))]) ?_
                refine pb_lconst (pc := 109) (v := 0) d_FileReader_isEntry_109 (by decide) ?_
                refine pb_lcmp (pc := 110) d_FileReader_isEntry_110 ?_
                refine pb_topi (fun i79 ei79 => ?_)
                have ti79 : (i79.toInt < 0 ↔ r_76.toInt < 0) ∧ (i79.toInt = 0 ↔ r_76.toInt = 0) ∧ (0 < i79.toInt ↔ 0 < r_76.toInt) := tl_cmp ei79 rfl (by decide)
                refine pb_if_ne (pc := 111) (tgt := 134) d_FileReader_isEntry_111 (by decide) (fun w80 => ?_) (fun w80 => ?_)
                · have tw80 : ¬ i79.toInt = 0 := fun z9 => w80 ((ti_eq rfl (by decide)).mpr z9)
                  refine pb_iconst (pc := 134) (v := 0) d_FileReader_isEntry_134 (by decide) ?_
                  exact pb_iret (pc := 135) hQ d_FileReader_isEntry_135 rfl rfl (0) ⟨rfl, (by (try dsimp only); first | done | assumption | omega (splitDisjunctions := false) | omega | decide)⟩ [0, 1] (by decide) rfl rfl (by decide) (by decide)
                · have tw80 : i79.toInt = 0 := (ti_eq rfl (by decide)).mp w80
                  refine pb_aload_n (pc := 114) d_FileReader_isEntry_114 1 rfl rfl ?_
                  refine pb_get (pc := 115) d_FileReader_isEntry_115 0 0 rfl rfl (by decide) in_FileReader k_306 rfl ?_
                  refine pb_iload_n (pc := 118) d_FileReader_isEntry_118 2 rfl rfl ?_
                  refine pb_bipush (pc := 119) (v := 38) d_FileReader_isEntry_119 (by decide) ?_
                  refine pb_iadd (pc := 121) d_FileReader_isEntry_121 ?_
                  refine pb_topi (fun i81 ei81 => ?_)
                  try have ti81 : i81.toInt = x.toInt + 38 := t2_add ei81 rfl (by decide) (by omega)
                  refine pb_callSN (pc := 122) (I := i_FileReader_isEntry) (nA := 2) (rest := []) (wr := [(h, .inr (7, [.ref b]))]) d_FileReader_isEntry_122 (g_fourAt hl G b N f i81 (by first | assumption | omega (splitDisjunctions := false) | omega | decide) (by first | assumption | omega (splitDisjunctions := false) | omega | decide) (by first | assumption | omega (splitDisjunctions := false) | omega | decide) F_f) [1] [0] (by decide) rfl rfl rfl (by decide) (by decide) k_594 rfl k_118 k_592 k_593 hy_Book_fourAt (by decide) rfl rfl (Nat.le_of_ble_eq_true rfl) (by decide) (fun v9 u83 ch82 => ?_)
                  obtain ⟨r_84, rfl⟩ : ∃ z9, z9 = u83 := ⟨_, rfl⟩
                  obtain ⟨ech82, ch82⟩ := ch82
                  have ech82 : v9 = some (.long r_84) := ech82
                  subst ech82
                  obtain ⟨fh85, fh86⟩ : (0 ≤ r_84.toInt) ∧ (r_84.toInt < 4294967296) := ch82
                  refine pb_eq (pc' := 125) (lo' := [(2, .int r_4), (0, .ref h), (1, .int x)]) (rest' := [.long r_84]) (ws' := [(h, .inr (7, [.ref b])), (b, .inl (G.2.1, N, .inl f))]) ?_
                  refine pb_lconst (pc := 125) (v := 0) d_FileReader_isEntry_125 (by decide) ?_
                  refine pb_lcmp (pc := 126) d_FileReader_isEntry_126 ?_
                  refine pb_topi (fun i87 ei87 => ?_)
                  have ti87 : (i87.toInt < 0 ↔ r_84.toInt < 0) ∧ (i87.toInt = 0 ↔ r_84.toInt = 0) ∧ (0 < i87.toInt ↔ 0 < r_84.toInt) := tl_cmp ei87 rfl (by decide)
                  refine pb_if_ne (pc := 127) (tgt := 134) d_FileReader_isEntry_127 (by decide) (fun w88 => ?_) (fun w88 => ?_)
                  · have tw88 : ¬ i87.toInt = 0 := fun z9 => w88 ((ti_eq rfl (by decide)).mpr z9)
                    refine pb_iconst (pc := 134) (v := 0) d_FileReader_isEntry_134 (by decide) ?_
                    exact pb_iret (pc := 135) hQ d_FileReader_isEntry_135 rfl rfl (0) ⟨rfl, (by (try dsimp only); first | done | assumption | omega (splitDisjunctions := false) | omega | decide)⟩ [0, 1] (by decide) rfl rfl (by decide) (by decide)
                  · have tw88 : i87.toInt = 0 := (ti_eq rfl (by decide)).mp w88
                    refine pb_iconst (pc := 130) (v := 1) d_FileReader_isEntry_130 (by decide) ?_
                    refine pb_goto (pc := 131) (tgt := 135) d_FileReader_isEntry_131 (by decide) ?_
                    exact pb_iret (pc := 135) hQ d_FileReader_isEntry_135 rfl rfl (1) ⟨rfl, (by (try dsimp only); first | done | assumption | omega (splitDisjunctions := false) | omega | decide)⟩ [0, 1] (by decide) rfl rfl (by decide) (by decide)

theorem d_FileReader_isRecordOf_0 : decode prog_5_method_7_code 0 = .ok (.aload_n 0, 1) := by decide +kernel
theorem d_FileReader_isRecordOf_1 : decode prog_5_method_7_code 1 = .ok (.getfield 9, 3) := by decide +kernel
theorem d_FileReader_isRecordOf_4 : decode prog_5_method_7_code 4 = .ok (.iload_n 2, 1) := by decide +kernel
theorem d_FileReader_isRecordOf_5 : decode prog_5_method_7_code 5 = .ok (.invokestatic 28, 3) := by decide +kernel
theorem d_FileReader_isRecordOf_8 : decode prog_5_method_7_code 8 = .ok (.ldc2_w 85, 3) := by decide +kernel
theorem k_618 : (Jvm.Cond.constantLong "PackageBook$FileReader" (85 : Nat) (67324752 : Int64)) ∈ uW := uW_of 618 (by decide +kernel) (by decide +kernel)
theorem d_FileReader_isRecordOf_11 : decode prog_5_method_7_code 11 = .ok (.lcmp, 1) := by decide +kernel
theorem d_FileReader_isRecordOf_12 : decode prog_5_method_7_code 12 = .ok (.ifCond .ne 53, 3) := by decide +kernel
theorem d_FileReader_isRecordOf_65 : decode prog_5_method_7_code 65 = .ok (.iconst 0, 1) := by decide +kernel
theorem d_FileReader_isRecordOf_66 : decode prog_5_method_7_code 66 = .ok (.ireturn, 1) := by decide +kernel
theorem d_FileReader_isRecordOf_15 : decode prog_5_method_7_code 15 = .ok (.aload_n 0, 1) := by decide +kernel
theorem d_FileReader_isRecordOf_16 : decode prog_5_method_7_code 16 = .ok (.getfield 9, 3) := by decide +kernel
theorem d_FileReader_isRecordOf_19 : decode prog_5_method_7_code 19 = .ok (.iload_n 1, 1) := by decide +kernel
theorem d_FileReader_isRecordOf_20 : decode prog_5_method_7_code 20 = .ok (.bipush 6, 2) := by decide +kernel
theorem d_FileReader_isRecordOf_22 : decode prog_5_method_7_code 22 = .ok (.iadd, 1) := by decide +kernel
theorem d_FileReader_isRecordOf_23 : decode prog_5_method_7_code 23 = .ok (.aload_n 0, 1) := by decide +kernel
theorem d_FileReader_isRecordOf_24 : decode prog_5_method_7_code 24 = .ok (.getfield 9, 3) := by decide +kernel
theorem d_FileReader_isRecordOf_27 : decode prog_5_method_7_code 27 = .ok (.iload_n 2, 1) := by decide +kernel
theorem d_FileReader_isRecordOf_28 : decode prog_5_method_7_code 28 = .ok (.iconst 4, 1) := by decide +kernel
theorem d_FileReader_isRecordOf_29 : decode prog_5_method_7_code 29 = .ok (.iadd, 1) := by decide +kernel
theorem d_FileReader_isRecordOf_30 : decode prog_5_method_7_code 30 = .ok (.bipush 26, 2) := by decide +kernel
theorem d_FileReader_isRecordOf_32 : decode prog_5_method_7_code 32 = .ok (.invokestatic 87, 3) := by decide +kernel
theorem k_619 : (Jvm.Cond.methodLinkNest "PackageBook$FileReader" (87 : Nat) ({ cls := "PackageBook", name := "isSame", desc := "([BI[BII)Z" } : Jvm.MethodName) "PackageBook") ∈ uN := uN_of 619 (by decide +kernel) (by decide +kernel)
theorem d_FileReader_isRecordOf_35 : decode prog_5_method_7_code 35 = .ok (.ifCond .eq 30, 3) := by decide +kernel
theorem d_FileReader_isRecordOf_38 : decode prog_5_method_7_code 38 = .ok (.aload_n 0, 1) := by decide +kernel
theorem d_FileReader_isRecordOf_39 : decode prog_5_method_7_code 39 = .ok (.getfield 9, 3) := by decide +kernel
theorem d_FileReader_isRecordOf_42 : decode prog_5_method_7_code 42 = .ok (.iload_n 1, 1) := by decide +kernel
theorem d_FileReader_isRecordOf_43 : decode prog_5_method_7_code 43 = .ok (.bipush 46, 2) := by decide +kernel
theorem d_FileReader_isRecordOf_45 : decode prog_5_method_7_code 45 = .ok (.iadd, 1) := by decide +kernel
theorem d_FileReader_isRecordOf_46 : decode prog_5_method_7_code 46 = .ok (.aload_n 0, 1) := by decide +kernel
theorem d_FileReader_isRecordOf_47 : decode prog_5_method_7_code 47 = .ok (.getfield 9, 3) := by decide +kernel
theorem d_FileReader_isRecordOf_50 : decode prog_5_method_7_code 50 = .ok (.iload_n 2, 1) := by decide +kernel
theorem d_FileReader_isRecordOf_51 : decode prog_5_method_7_code 51 = .ok (.bipush 30, 2) := by decide +kernel
theorem d_FileReader_isRecordOf_53 : decode prog_5_method_7_code 53 = .ok (.iadd, 1) := by decide +kernel
theorem d_FileReader_isRecordOf_54 : decode prog_5_method_7_code 54 = .ok (.iload_n 3, 1) := by decide +kernel
theorem d_FileReader_isRecordOf_55 : decode prog_5_method_7_code 55 = .ok (.invokestatic 87, 3) := by decide +kernel
theorem d_FileReader_isRecordOf_58 : decode prog_5_method_7_code 58 = .ok (.ifCond .eq 7, 3) := by decide +kernel
theorem d_FileReader_isRecordOf_61 : decode prog_5_method_7_code 61 = .ok (.iconst 1, 1) := by decide +kernel
theorem d_FileReader_isRecordOf_62 : decode prog_5_method_7_code 62 = .ok (.goto 4, 3) := by decide +kernel
abbrev y_FileReader_isRecordOf : MethodName := ⟨"PackageBook$FileReader", "isRecordOf", "(III)Z"⟩
abbrev i_FileReader_isRecordOf : pb_I := (y_FileReader_isRecordOf, prog_5_method_7_code, 4, (some Jvm.ClassFile.FieldType.boolean), [], { frames := 2, cells := 0, slots := 0, locals := 42 })
set_option maxRecDepth 100000 in
set_option maxHeartbeats 4000000 in
theorem g_Rd_isRecordOf {l : Launch} (hl : l.stackTraces = false) (G : pb_G) (h : Nat) (b : Nat) (N : Nat) (f : Nat → Int32) (x : Int32) (y : Int32) (n : Int32) (h0 : 0 ≤ x.toInt) (h1 : x.toInt + 46 + n.toInt ≤ N) (h2 : 0 ≤ y.toInt) (h3 : y.toInt + 30 + n.toInt ≤ N) (h4 : 0 ≤ n.toInt) (hN : N ≤ 100000) (F_f : sb_Fit f) : Cn l G i_FileReader_isRecordOf [.ref h, .int x, .int y, .int n] [(h, .inr (7, [.ref b])), (b, .inl (G.2.1, N, .inl f))] (S := Int32) (fun rv_ u => rv_ = some (.int u) ∧ (u.toInt = 0 ∨ u.toInt = 1)) (fun u => [(h, .inr (7, [.ref b])), (b, .inl (G.2.1, N, .inl f))]) := by
  refine Cn.of hl (by decide +kernel) rfl (Nat.le_of_ble_eq_true rfl) (fun M hQ => ?_)
  refine pb_eq (pc' := 0) (lo' := [(0, .ref h), (1, .int x), (2, .int y), (3, .int n)]) (rest' := []) (ws' := [(h, .inr (7, [.ref b])), (b, .inl (G.2.1, N, .inl f))]) ?_
  have zl0 : (0 : Int32).toInt = 0 := by decide
  have zl1 : (1 : Int32).toInt = 1 := by decide
  have zl26 : (26 : Int32).toInt = 26 := by decide
  refine pb_aload_n (pc := 0) d_FileReader_isRecordOf_0 0 rfl rfl ?_
  refine pb_get (pc := 1) d_FileReader_isRecordOf_1 0 0 rfl rfl (by decide) in_FileReader k_306 rfl ?_
  refine pb_iload_n (pc := 4) d_FileReader_isRecordOf_4 2 rfl rfl ?_
  refine pb_callSN (pc := 5) (I := i_FileReader_isRecordOf) (nA := 2) (rest := []) (wr := [(h, .inr (7, [.ref b]))]) d_FileReader_isRecordOf_5 (g_fourAt hl G b N f y (by first | assumption | omega (splitDisjunctions := false) | omega | decide) (by first | assumption | omega (splitDisjunctions := false) | omega | decide) (by first | assumption | omega (splitDisjunctions := false) | omega | decide) F_f) [1] [0] (by decide) rfl rfl rfl (by decide) (by decide) k_594 rfl k_118 k_592 k_593 hy_Book_fourAt (by decide) rfl rfl (Nat.le_of_ble_eq_true rfl) (by decide) (fun v9 u2 ch1 => ?_)
  obtain ⟨r_3, rfl⟩ : ∃ z9, z9 = u2 := ⟨_, rfl⟩
  obtain ⟨ech1, ch1⟩ := ch1
  have ech1 : v9 = some (.long r_3) := ech1
  subst ech1
  obtain ⟨fh4, fh5⟩ : (0 ≤ r_3.toInt) ∧ (r_3.toInt < 4294967296) := ch1
  refine pb_eq (pc' := 8) (lo' := [(0, .ref h), (1, .int x), (2, .int y), (3, .int n)]) (rest' := [.long r_3]) (ws' := [(h, .inr (7, [.ref b])), (b, .inl (G.2.1, N, .inl f))]) ?_
  refine pb_ldc2 (pc := 8) (v := 67324752) d_FileReader_isRecordOf_8 k_618 ?_
  refine pb_lcmp (pc := 11) d_FileReader_isRecordOf_11 ?_
  refine pb_topi (fun i6 ei6 => ?_)
  have ti6 : (i6.toInt < 0 ↔ r_3.toInt < 67324752) ∧ (i6.toInt = 0 ↔ r_3.toInt = 67324752) ∧ (0 < i6.toInt ↔ 67324752 < r_3.toInt) := tl_cmp ei6 rfl (by decide)
  refine pb_if_ne (pc := 12) (tgt := 65) d_FileReader_isRecordOf_12 (by decide) (fun w7 => ?_) (fun w7 => ?_)
  · have tw7 : ¬ i6.toInt = 0 := fun z9 => w7 ((ti_eq rfl (by decide)).mpr z9)
    refine pb_iconst (pc := 65) (v := 0) d_FileReader_isRecordOf_65 (by decide) ?_
    exact pb_iret (pc := 66) hQ d_FileReader_isRecordOf_66 rfl rfl (0) ⟨rfl, (by (try dsimp only); first | done | assumption | omega (splitDisjunctions := false) | omega | decide)⟩ [0, 1] (by decide) rfl rfl (by decide) (by decide)
  · have tw7 : i6.toInt = 0 := (ti_eq rfl (by decide)).mp w7
    refine pb_aload_n (pc := 15) d_FileReader_isRecordOf_15 0 rfl rfl ?_
    refine pb_get (pc := 16) d_FileReader_isRecordOf_16 0 0 rfl rfl (by decide) in_FileReader k_306 rfl ?_
    refine pb_iload_n (pc := 19) d_FileReader_isRecordOf_19 1 rfl rfl ?_
    refine pb_bipush (pc := 20) (v := 6) d_FileReader_isRecordOf_20 (by decide) ?_
    refine pb_iadd (pc := 22) d_FileReader_isRecordOf_22 ?_
    refine pb_topi (fun i8 ei8 => ?_)
    try have ti8 : i8.toInt = x.toInt + 6 := t2_add ei8 rfl (by decide) (by omega)
    refine pb_aload_n (pc := 23) d_FileReader_isRecordOf_23 0 rfl rfl ?_
    refine pb_get (pc := 24) d_FileReader_isRecordOf_24 0 0 rfl rfl (by decide) in_FileReader k_306 rfl ?_
    refine pb_iload_n (pc := 27) d_FileReader_isRecordOf_27 2 rfl rfl ?_
    refine pb_iconst (pc := 28) (v := 4) d_FileReader_isRecordOf_28 (by decide) ?_
    refine pb_iadd (pc := 29) d_FileReader_isRecordOf_29 ?_
    refine pb_topi (fun i9 ei9 => ?_)
    try have ti9 : i9.toInt = y.toInt + 4 := t2_add ei9 rfl (by decide) (by omega)
    refine pb_bipush (pc := 30) (v := 26) d_FileReader_isRecordOf_30 (by decide) ?_
    refine pb_callSN (pc := 32) (I := i_FileReader_isRecordOf) (nA := 5) (rest := []) (wr := [(h, .inr (7, [.ref b]))]) d_FileReader_isRecordOf_32 (g_isSame1 hl G b N f i8 i9 26 (by first | assumption | omega (splitDisjunctions := false) | omega | decide) (by first | assumption | omega (splitDisjunctions := false) | omega | decide) (by first | assumption | omega (splitDisjunctions := false) | omega | decide) (by first | assumption | omega (splitDisjunctions := false) | omega | decide) (by first | assumption | omega (splitDisjunctions := false) | omega | decide) (by first | assumption | omega (splitDisjunctions := false) | omega | decide) F_f) [1] [0] (by decide) rfl rfl rfl (by decide) (by decide) k_465 rfl k_118 k_619 k_464 hy_Book_isSame (by decide) rfl rfl (Nat.le_of_ble_eq_true rfl) (by decide) (fun v9 u11 ch10 => ?_)
    obtain ⟨r_12, rfl⟩ : ∃ z9, z9 = u11 := ⟨_, rfl⟩
    obtain ⟨ech10, ch10⟩ := ch10
    have ech10 : v9 = some (.int r_12) := ech10
    subst ech10
    have fh13 : r_12.toInt = 0 ∨ r_12.toInt = 1 := ch10
    refine pb_eq (pc' := 35) (lo' := [(0, .ref h), (1, .int x), (2, .int y), (3, .int n)]) (rest' := [.int r_12]) (ws' := [(h, .inr (7, [.ref b])), (b, .inl (G.2.1, N, .inl f))]) ?_
    refine pb_if_eq (pc := 35) (tgt := 65) d_FileReader_isRecordOf_35 (by decide) (fun w14 => ?_) (fun w14 => ?_)
    · have tw14 : r_12.toInt = 0 := (ti_eq rfl (by decide)).mp w14
      refine pb_iconst (pc := 65) (v := 0) d_FileReader_isRecordOf_65 (by decide) ?_
      exact pb_iret (pc := 66) hQ d_FileReader_isRecordOf_66 rfl rfl (0) ⟨rfl, (by (try dsimp only); first | done | assumption | omega (splitDisjunctions := false) | omega | decide)⟩ [0, 1] (by decide) rfl rfl (by decide) (by decide)
    · have tw14 : ¬ r_12.toInt = 0 := fun z9 => w14 ((ti_eq rfl (by decide)).mpr z9)
      refine pb_aload_n (pc := 38) d_FileReader_isRecordOf_38 0 rfl rfl ?_
      refine pb_get (pc := 39) d_FileReader_isRecordOf_39 0 0 rfl rfl (by decide) in_FileReader k_306 rfl ?_
      refine pb_iload_n (pc := 42) d_FileReader_isRecordOf_42 1 rfl rfl ?_
      refine pb_bipush (pc := 43) (v := 46) d_FileReader_isRecordOf_43 (by decide) ?_
      refine pb_iadd (pc := 45) d_FileReader_isRecordOf_45 ?_
      refine pb_topi (fun i15 ei15 => ?_)
      try have ti15 : i15.toInt = x.toInt + 46 := t2_add ei15 rfl (by decide) (by omega)
      refine pb_aload_n (pc := 46) d_FileReader_isRecordOf_46 0 rfl rfl ?_
      refine pb_get (pc := 47) d_FileReader_isRecordOf_47 0 0 rfl rfl (by decide) in_FileReader k_306 rfl ?_
      refine pb_iload_n (pc := 50) d_FileReader_isRecordOf_50 2 rfl rfl ?_
      refine pb_bipush (pc := 51) (v := 30) d_FileReader_isRecordOf_51 (by decide) ?_
      refine pb_iadd (pc := 53) d_FileReader_isRecordOf_53 ?_
      refine pb_topi (fun i16 ei16 => ?_)
      try have ti16 : i16.toInt = y.toInt + 30 := t2_add ei16 rfl (by decide) (by omega)
      refine pb_iload_n (pc := 54) d_FileReader_isRecordOf_54 3 rfl rfl ?_
      refine pb_callSN (pc := 55) (I := i_FileReader_isRecordOf) (nA := 5) (rest := []) (wr := [(h, .inr (7, [.ref b]))]) d_FileReader_isRecordOf_55 (g_isSame1 hl G b N f i15 i16 n (by first | assumption | omega (splitDisjunctions := false) | omega | decide) (by first | assumption | omega (splitDisjunctions := false) | omega | decide) (by first | assumption | omega (splitDisjunctions := false) | omega | decide) (by first | assumption | omega (splitDisjunctions := false) | omega | decide) (by first | assumption | omega (splitDisjunctions := false) | omega | decide) (by first | assumption | omega (splitDisjunctions := false) | omega | decide) F_f) [1] [0] (by decide) rfl rfl rfl (by decide) (by decide) k_465 rfl k_118 k_619 k_464 hy_Book_isSame (by decide) rfl rfl (Nat.le_of_ble_eq_true rfl) (by decide) (fun v9 u18 ch17 => ?_)
      obtain ⟨r_19, rfl⟩ : ∃ z9, z9 = u18 := ⟨_, rfl⟩
      obtain ⟨ech17, ch17⟩ := ch17
      have ech17 : v9 = some (.int r_19) := ech17
      subst ech17
      have fh20 : r_19.toInt = 0 ∨ r_19.toInt = 1 := ch17
      refine pb_eq (pc' := 58) (lo' := [(0, .ref h), (1, .int x), (2, .int y), (3, .int n)]) (rest' := [.int r_19]) (ws' := [(h, .inr (7, [.ref b])), (b, .inl (G.2.1, N, .inl f))]) ?_
      refine pb_if_eq (pc := 58) (tgt := 65) d_FileReader_isRecordOf_58 (by decide) (fun w21 => ?_) (fun w21 => ?_)
      · have tw21 : r_19.toInt = 0 := (ti_eq rfl (by decide)).mp w21
        refine pb_iconst (pc := 65) (v := 0) d_FileReader_isRecordOf_65 (by decide) ?_
        exact pb_iret (pc := 66) hQ d_FileReader_isRecordOf_66 rfl rfl (0) ⟨rfl, (by (try dsimp only); first | done | assumption | omega (splitDisjunctions := false) | omega | decide)⟩ [0, 1] (by decide) rfl rfl (by decide) (by decide)
      · have tw21 : ¬ r_19.toInt = 0 := fun z9 => w21 ((ti_eq rfl (by decide)).mpr z9)
        refine pb_iconst (pc := 61) (v := 1) d_FileReader_isRecordOf_61 (by decide) ?_
        refine pb_goto (pc := 62) (tgt := 66) d_FileReader_isRecordOf_62 (by decide) ?_
        exact pb_iret (pc := 66) hQ d_FileReader_isRecordOf_66 rfl rfl (1) ⟨rfl, (by (try dsimp only); first | done | assumption | omega (splitDisjunctions := false) | omega | decide)⟩ [0, 1] (by decide) rfl rfl (by decide) (by decide)

theorem d_FileReader_isDirectory_0 : decode prog_5_method_4_code 0 = .ok (.iload_n 1, 1) := by decide +kernel
theorem d_FileReader_isDirectory_1 : decode prog_5_method_4_code 1 = .ok (.istore 4, 2) := by decide +kernel
theorem d_FileReader_isDirectory_3 : decode prog_5_method_4_code 3 = .ok (.iconst 0, 1) := by decide +kernel
theorem d_FileReader_isDirectory_4 : decode prog_5_method_4_code 4 = .ok (.istore 5, 2) := by decide +kernel
theorem d_FileReader_isDirectory_6 : decode prog_5_method_4_code 6 = .ok (.iload 5, 2) := by decide +kernel
theorem d_FileReader_isDirectory_8 : decode prog_5_method_4_code 8 = .ok (.iload_n 3, 1) := by decide +kernel
theorem d_FileReader_isDirectory_9 : decode prog_5_method_4_code 9 = .ok (.if_icmp .ge 49, 3) := by decide +kernel
theorem d_FileReader_isDirectory_58 : decode prog_5_method_4_code 58 = .ok (.iload 4, 2) := by decide +kernel
theorem d_FileReader_isDirectory_60 : decode prog_5_method_4_code 60 = .ok (.iload_n 2, 1) := by decide +kernel
theorem d_FileReader_isDirectory_61 : decode prog_5_method_4_code 61 = .ok (.if_icmp .ne 7, 3) := by decide +kernel
theorem d_FileReader_isDirectory_68 : decode prog_5_method_4_code 68 = .ok (.iconst 0, 1) := by decide +kernel
theorem d_FileReader_isDirectory_69 : decode prog_5_method_4_code 69 = .ok (.ireturn, 1) := by decide +kernel
theorem d_FileReader_isDirectory_64 : decode prog_5_method_4_code 64 = .ok (.iconst 1, 1) := by decide +kernel
theorem d_FileReader_isDirectory_65 : decode prog_5_method_4_code 65 = .ok (.goto 4, 3) := by decide +kernel
theorem d_FileReader_isDirectory_12 : decode prog_5_method_4_code 12 = .ok (.iload_n 2, 1) := by decide +kernel
theorem d_FileReader_isDirectory_13 : decode prog_5_method_4_code 13 = .ok (.iload 4, 2) := by decide +kernel
theorem d_FileReader_isDirectory_15 : decode prog_5_method_4_code 15 = .ok (.isub, 1) := by decide +kernel
theorem d_FileReader_isDirectory_16 : decode prog_5_method_4_code 16 = .ok (.bipush 46, 2) := by decide +kernel
theorem d_FileReader_isDirectory_18 : decode prog_5_method_4_code 18 = .ok (.if_icmp .lt 12, 3) := by decide +kernel
theorem d_FileReader_isDirectory_30 : decode prog_5_method_4_code 30 = .ok (.iconst 0, 1) := by decide +kernel
theorem d_FileReader_isDirectory_31 : decode prog_5_method_4_code 31 = .ok (.ireturn, 1) := by decide +kernel
theorem d_FileReader_isDirectory_21 : decode prog_5_method_4_code 21 = .ok (.aload_n 0, 1) := by decide +kernel
theorem d_FileReader_isDirectory_22 : decode prog_5_method_4_code 22 = .ok (.iload 4, 2) := by decide +kernel
theorem d_FileReader_isDirectory_24 : decode prog_5_method_4_code 24 = .ok (.invokevirtual 42, 3) := by decide +kernel
theorem k_604 : (Jvm.Cond.methodLink "PackageBook$FileReader" (42 : Nat) ({ cls := "PackageBook$FileReader", name := "isEntry", desc := "(I)Z" } : Jvm.MethodName)) ∈ uW := uW_of 604 (by decide +kernel) (by decide +kernel)
theorem k_607 : (Jvm.Cond.code ({ cls := "PackageBook$FileReader", name := "isEntry", desc := "(I)Z" } : Jvm.MethodName) prog_5_method_5_code (3 : Nat) (Option.some Jvm.ClassFile.FieldType.boolean)) ∈ uW := uW_of 607 (by decide +kernel) (by decide +kernel)
theorem k_606 : (Jvm.Cond.instanceMethod ({ cls := "PackageBook$FileReader", name := "isEntry", desc := "(I)Z" } : Jvm.MethodName)) ∈ uW := uW_of 606 (by decide +kernel) (by decide +kernel)
theorem k_14 : Cond.selects "PackageBook$FileReader" ⟨"PackageBook$FileReader", "isEntry", "(I)Z"⟩ ⟨"PackageBook$FileReader", "isEntry", "(I)Z"⟩ ∈ uW := uW_of 14 (by decide +kernel) (by decide +kernel)
theorem hy_FileReader_isEntry : (y_FileReader_isEntry).cls ≠ "java/lang/invoke/MethodHandle" ∧ (y_FileReader_isEntry).cls ≠ "java/lang/invoke/VarHandle" ∧ (parseMethodDescriptor (y_FileReader_isEntry).desc).map (fun d => d.parameters.length) = some 1 := by decide +kernel
theorem d_FileReader_isDirectory_27 : decode prog_5_method_4_code 27 = .ok (.ifCond .ne 5, 3) := by decide +kernel
theorem d_FileReader_isDirectory_32 : decode prog_5_method_4_code 32 = .ok (.iload 4, 2) := by decide +kernel
theorem d_FileReader_isDirectory_34 : decode prog_5_method_4_code 34 = .ok (.bipush 46, 2) := by decide +kernel
theorem d_FileReader_isDirectory_36 : decode prog_5_method_4_code 36 = .ok (.aload_n 0, 1) := by decide +kernel
theorem d_FileReader_isDirectory_37 : decode prog_5_method_4_code 37 = .ok (.getfield 9, 3) := by decide +kernel
theorem d_FileReader_isDirectory_40 : decode prog_5_method_4_code 40 = .ok (.iload 4, 2) := by decide +kernel
theorem d_FileReader_isDirectory_42 : decode prog_5_method_4_code 42 = .ok (.bipush 28, 2) := by decide +kernel
theorem d_FileReader_isDirectory_44 : decode prog_5_method_4_code 44 = .ok (.iadd, 1) := by decide +kernel
theorem d_FileReader_isDirectory_45 : decode prog_5_method_4_code 45 = .ok (.invokestatic 24, 3) := by decide +kernel
theorem d_FileReader_isDirectory_48 : decode prog_5_method_4_code 48 = .ok (.iadd, 1) := by decide +kernel
theorem d_FileReader_isDirectory_49 : decode prog_5_method_4_code 49 = .ok (.iadd, 1) := by decide +kernel
theorem d_FileReader_isDirectory_50 : decode prog_5_method_4_code 50 = .ok (.istore 4, 2) := by decide +kernel
theorem d_FileReader_isDirectory_52 : decode prog_5_method_4_code 52 = .ok (.iinc 5 1, 3) := by decide +kernel
theorem d_FileReader_isDirectory_55 : decode prog_5_method_4_code 55 = .ok (.goto (-49), 3) := by decide +kernel
abbrev y_FileReader_isDirectory : MethodName := ⟨"PackageBook$FileReader", "isDirectory", "(III)Z"⟩
abbrev i_FileReader_isDirectory : pb_I := (y_FileReader_isDirectory, prog_5_method_4_code, 6, (some Jvm.ClassFile.FieldType.boolean), [], { frames := 3, cells := 0, slots := 0, locals := 64 })
set_option maxRecDepth 100000 in
set_option maxHeartbeats 4000000 in
theorem g_Rd_isDirectory {l : Launch} (hl : l.stackTraces = false) (G : pb_G) (h : Nat) (b : Nat) (N : Nat) (f : Nat → Int32) (x : Int32) (e : Int32) (n : Int32) (D : Int) (hD : x.toInt = D) (h0 : 0 ≤ x.toInt) (h1 : e.toInt ≤ N) (h2 : 0 ≤ n.toInt) (h3 : x.toInt ≤ e.toInt) (hN : N ≤ 100000) (F_f : sb_Fit f) : Cn l G i_FileReader_isDirectory [.ref h, .int x, .int e, .int n] [(h, .inr (7, [.ref b])), (b, .inl (G.2.1, N, .inl f))] (S := Int32) (fun rv_ u => rv_ = some (.int u) ∧ (u.toInt = 0 ∨ u.toInt = 1) ∧ (u.toInt = 1 → dp f D n.toInt = e.toInt ∧ ∀ j : Int, 0 ≤ j → j < n.toInt → dp f D j + 46 ≤ e.toInt)) (fun u => [(h, .inr (7, [.ref b])), (b, .inl (G.2.1, N, .inl f))]) := by
  refine Cn.of hl (by decide +kernel) rfl (Nat.le_of_ble_eq_true rfl) (fun M hQ => ?_)
  refine pb_eq (pc' := 0) (lo' := [(0, .ref h), (1, .int x), (2, .int e), (3, .int n)]) (rest' := []) (ws' := [(h, .inr (7, [.ref b])), (b, .inl (G.2.1, N, .inl f))]) ?_
  have zl0 : (0 : Int32).toInt = 0 := by decide
  have zl1 : (1 : Int32).toInt = 1 := by decide
  have zl46 : (46 : Int32).toInt = 46 := by decide
  have rn := ti_rng n
  refine pb_iload_n (pc := 0) d_FileReader_isDirectory_0 1 rfl rfl ?_
  refine pb_istore (pc := 1) (lo' := [(4, .int x), (0, .ref h), (1, .int x), (2, .int e), (3, .int n)]) d_FileReader_isDirectory_1 (by decide) rfl ?_
  refine pb_iconst (pc := 3) (v := 0) d_FileReader_isDirectory_3 (by decide) ?_
  refine pb_istore (pc := 4) (lo' := [(5, .int 0), (4, .int x), (0, .ref h), (1, .int x), (2, .int e), (3, .int n)]) d_FileReader_isDirectory_4 (by decide) rfl ?_
  have hL6_1 : ∀ (N9 : Nat) (k : Int32) (a : Int32), (0 ≤ k.toInt) → (k.toInt ≤ n.toInt) → (a.toInt = dp f D k.toInt) → (D ≤ a.toInt) → (a.toInt ≤ e.toInt + 65600) → (∀ j : Int, 0 ≤ j → j < k.toInt → dp f D j + 46 ≤ e.toInt) → ((n.toInt - k.toInt).toNat) < N9 → pb_P l G M i_FileReader_isDirectory 6 [(5, .int k), (4, .int a), (0, .ref h), (1, .int x), (2, .int e), (3, .int n)] [] [(h, .inr (7, [.ref b])), (b, .inl (G.2.1, N, .inl f))] 0 0 := by
    intro N9
    induction N9 with
    | zero => intro k a hk hk2 ha ha1 ha2 hj hm9; exact absurd hm9 (Nat.not_lt_zero _)
    | succ N9 ih6 =>
      intro k a hk hk2 ha ha1 ha2 hj hm9
      refine pb_iload (pc := 6) d_FileReader_isDirectory_6 0 rfl ?_
      refine pb_iload_n (pc := 8) d_FileReader_isDirectory_8 5 rfl rfl ?_
      refine pb_icmp_ge (pc := 9) (tgt := 58) d_FileReader_isDirectory_9 (by decide) (fun w2 => ?_) (fun w2 => ?_)
      · have tw2 : n.toInt ≤ k.toInt := (ti_le rfl rfl).mp w2
        refine pb_iload (pc := 58) d_FileReader_isDirectory_58 1 rfl ?_
        refine pb_iload_n (pc := 60) d_FileReader_isDirectory_60 4 rfl rfl ?_
        refine pb_icmp_ne (pc := 61) (tgt := 68) d_FileReader_isDirectory_61 (by decide) (fun w3 => ?_) (fun w3 => ?_)
        · have tw3 : ¬ a.toInt = e.toInt := fun z9 => w3 ((ti_eq rfl rfl).mpr z9)
          refine pb_iconst (pc := 68) (v := 0) d_FileReader_isDirectory_68 (by decide) ?_
          exact pb_iret (pc := 69) hQ d_FileReader_isDirectory_69 rfl rfl (0) ⟨rfl, (by (try dsimp only); first | done | assumption | omega (splitDisjunctions := false) | omega | decide), (show (0 : Int32).toInt = 1 → dp f D n.toInt = e.toInt ∧ ∀ j : Int, 0 ≤ j → j < n.toInt → dp f D j + 46 ≤ e.toInt from (by first | exact fun h9 => absurd h9 (by omega) | exact fun _ => by have hkn : k.toInt = n.toInt := (by omega); rw [hkn] at ha hj; exact ⟨by omega, hj⟩))⟩ [0, 1] (by decide) rfl rfl (by decide) (by decide)
        · have tw3 : a.toInt = e.toInt := (ti_eq rfl rfl).mp w3
          refine pb_iconst (pc := 64) (v := 1) d_FileReader_isDirectory_64 (by decide) ?_
          refine pb_goto (pc := 65) (tgt := 69) d_FileReader_isDirectory_65 (by decide) ?_
          exact pb_iret (pc := 69) hQ d_FileReader_isDirectory_69 rfl rfl (1) ⟨rfl, (by (try dsimp only); first | done | assumption | omega (splitDisjunctions := false) | omega | decide), (show (1 : Int32).toInt = 1 → dp f D n.toInt = e.toInt ∧ ∀ j : Int, 0 ≤ j → j < n.toInt → dp f D j + 46 ≤ e.toInt from (by first | exact fun h9 => absurd h9 (by omega) | exact fun _ => by have hkn : k.toInt = n.toInt := (by omega); rw [hkn] at ha hj; exact ⟨by omega, hj⟩))⟩ [0, 1] (by decide) rfl rfl (by decide) (by decide)
      · have tw2 : ¬ n.toInt ≤ k.toInt := fun z9 => w2 ((ti_le rfl rfl).mpr z9)
        refine pb_iload_n (pc := 12) d_FileReader_isDirectory_12 4 rfl rfl ?_
        refine pb_iload (pc := 13) d_FileReader_isDirectory_13 1 rfl ?_
        refine pb_isub (pc := 15) d_FileReader_isDirectory_15 ?_
        refine pb_topi (fun i4 ei4 => ?_)
        try have ti4 : i4.toInt = e.toInt - a.toInt := t2_sub ei4 rfl rfl (by omega)
        refine pb_bipush (pc := 16) (v := 46) d_FileReader_isDirectory_16 (by decide) ?_
        refine pb_icmp_lt (pc := 18) (tgt := 30) d_FileReader_isDirectory_18 (by decide) (fun w5 => ?_) (fun w5 => ?_)
        · have tw5 : i4.toInt < 46 := (ti_lt rfl (by decide)).mp w5
          refine pb_iconst (pc := 30) (v := 0) d_FileReader_isDirectory_30 (by decide) ?_
          exact pb_iret (pc := 31) hQ d_FileReader_isDirectory_31 rfl rfl (0) ⟨rfl, (by (try dsimp only); first | done | assumption | omega (splitDisjunctions := false) | omega | decide), (show (0 : Int32).toInt = 1 → dp f D n.toInt = e.toInt ∧ ∀ j : Int, 0 ≤ j → j < n.toInt → dp f D j + 46 ≤ e.toInt from (fun h9 => absurd h9 (by omega)))⟩ [0, 1] (by decide) rfl rfl (by decide) (by decide)
        · have tw5 : ¬ i4.toInt < 46 := fun z9 => w5 ((ti_lt rfl (by decide)).mpr z9)
          refine pb_aload_n (pc := 21) d_FileReader_isDirectory_21 2 rfl rfl ?_
          refine pb_iload (pc := 22) d_FileReader_isDirectory_22 1 rfl ?_
          refine pb_callV (pc := 24) (I := i_FileReader_isDirectory) (qb := 0) (ci := 7) (nA := 1) (rest := []) (wr := []) d_FileReader_isDirectory_24 (g_Rd_isEntry hl G h b N f a (by first | assumption | omega (splitDisjunctions := false) | omega | decide) (by first | assumption | omega (splitDisjunctions := false) | omega | decide) (by first | assumption | omega (splitDisjunctions := false) | omega | decide) F_f) rfl rfl [0, 1] [] (by decide) rfl rfl rfl (by decide) (by decide) k_607 rfl k_124 k_604 k_606 k_14 ⟨rfl, hy_FileReader_isEntry⟩ (by decide) rfl rfl (Nat.le_of_ble_eq_true rfl) (by decide) (fun v9 u7 ch6 => ?_)
          obtain ⟨r_8, rfl⟩ : ∃ z9, z9 = u7 := ⟨_, rfl⟩
          obtain ⟨ech6, ch6⟩ := ch6
          have ech6 : v9 = some (.int r_8) := ech6
          subst ech6
          have fh9 : r_8.toInt = 0 ∨ r_8.toInt = 1 := ch6
          refine pb_eq (pc' := 27) (lo' := [(5, .int k), (4, .int a), (0, .ref h), (1, .int x), (2, .int e), (3, .int n)]) (rest' := [.int r_8]) (ws' := [(h, .inr (7, [.ref b])), (b, .inl (G.2.1, N, .inl f))]) ?_
          refine pb_if_ne (pc := 27) (tgt := 32) d_FileReader_isDirectory_27 (by decide) (fun w10 => ?_) (fun w10 => ?_)
          · have tw10 : ¬ r_8.toInt = 0 := fun z9 => w10 ((ti_eq rfl (by decide)).mpr z9)
            refine pb_iload (pc := 32) d_FileReader_isDirectory_32 1 rfl ?_
            refine pb_bipush (pc := 34) (v := 46) d_FileReader_isDirectory_34 (by decide) ?_
            refine pb_aload_n (pc := 36) d_FileReader_isDirectory_36 2 rfl rfl ?_
            refine pb_get (pc := 37) d_FileReader_isDirectory_37 0 0 rfl rfl (by decide) in_FileReader k_306 rfl ?_
            refine pb_iload (pc := 40) d_FileReader_isDirectory_40 1 rfl ?_
            refine pb_bipush (pc := 42) (v := 28) d_FileReader_isDirectory_42 (by decide) ?_
            refine pb_iadd (pc := 44) d_FileReader_isDirectory_44 ?_
            refine pb_topi (fun i11 ei11 => ?_)
            try have ti11 : i11.toInt = a.toInt + 28 := t2_add ei11 rfl (by decide) (by omega)
            refine pb_callSN (pc := 45) (I := i_FileReader_isDirectory) (nA := 2) (rest := [.int 46, .int a]) (wr := [(h, .inr (7, [.ref b]))]) d_FileReader_isDirectory_45 (g_twoAt hl G b N f i11 (by first | assumption | omega (splitDisjunctions := false) | omega | decide) (by first | assumption | omega (splitDisjunctions := false) | omega | decide) (by first | assumption | omega (splitDisjunctions := false) | omega | decide) F_f) [1] [0] (by decide) rfl rfl rfl (by decide) (by decide) k_597 rfl k_118 k_599 k_596 hy_Book_twoAt (by decide) rfl rfl (Nat.le_of_ble_eq_true rfl) (by decide) (fun v9 u13 ch12 => ?_)
            obtain ⟨r_14, rfl⟩ : ∃ z9, z9 = u13 := ⟨_, rfl⟩
            obtain ⟨ech12, ch12⟩ := ch12
            have ech12 : v9 = some (.int r_14) := ech12
            subst ech12
            obtain ⟨fh15, fh16, fh17⟩ : (0 ≤ r_14.toInt) ∧ (r_14.toInt ≤ 65535) ∧ (r_14.toInt = tw f i11.toInt) := ch12
            have d1 := dp_s (f := f) (a := D) (k := k.toInt) (m := k.toInt + 1) hk rfl
            rw [← ha] at d1
            rw [show i11.toInt = a.toInt + 28 by omega] at fh17
            refine pb_eq (pc' := 48) (lo' := [(5, .int k), (4, .int a), (0, .ref h), (1, .int x), (2, .int e), (3, .int n)]) (rest' := [.int r_14, .int 46, .int a]) (ws' := [(h, .inr (7, [.ref b])), (b, .inl (G.2.1, N, .inl f))]) ?_
            have d3 := tw_rng f (a.toInt + 28)
            refine pb_iadd (pc := 48) d_FileReader_isDirectory_48 ?_
            refine pb_topi (fun i18 ei18 => ?_)
            try have ti18 : i18.toInt = 46 + r_14.toInt := t2_add ei18 (by decide) rfl (by omega)
            refine pb_iadd (pc := 49) d_FileReader_isDirectory_49 ?_
            refine pb_topi (fun i19 ei19 => ?_)
            try have ti19 : i19.toInt = a.toInt + i18.toInt := t2_add ei19 rfl rfl (by omega)
            refine pb_istore (pc := 50) (lo' := [(4, .int i19), (5, .int k), (0, .ref h), (1, .int x), (2, .int e), (3, .int n)]) d_FileReader_isDirectory_50 (by decide) rfl ?_
            refine pb_iincN (pc := 52) (c := 1) d_FileReader_isDirectory_52 1 rfl (by decide) (by decide) (fun i20 ei20 => ?_)
            have ti20 : i20.toInt = k.toInt + 1 := t2_add ei20 rfl (by decide) (by omega)
            refine pb_eq (pc' := 55) (lo' := [(5, .int i20), (4, .int i19), (0, .ref h), (1, .int x), (2, .int e), (3, .int n)]) (rest' := []) (ws' := [(h, .inr (7, [.ref b])), (b, .inl (G.2.1, N, .inl f))]) ?_
            refine pb_goto (pc := 55) (tgt := 6) d_FileReader_isDirectory_55 (by decide) ?_
            exact ih6 i20 i19 (by first | assumption | omega (splitDisjunctions := false) | omega | decide) (by first | assumption | omega (splitDisjunctions := false) | omega | decide) (by rw [show i20.toInt = k.toInt + 1 by omega, d1]; omega) (by first | assumption | omega (splitDisjunctions := false) | omega | decide) (by first | assumption | omega (splitDisjunctions := false) | omega | decide) (fun j h0 h1 => if w : j < k.toInt then hj j h0 w else by rw [show j = k.toInt by omega, ← ha]; omega) (by omega)
          · have tw10 : r_8.toInt = 0 := (ti_eq rfl (by decide)).mp w10
            refine pb_iconst (pc := 30) (v := 0) d_FileReader_isDirectory_30 (by decide) ?_
            exact pb_iret (pc := 31) hQ d_FileReader_isDirectory_31 rfl rfl (0) ⟨rfl, (by (try dsimp only); first | done | assumption | omega (splitDisjunctions := false) | omega | decide), (show (0 : Int32).toInt = 1 → dp f D n.toInt = e.toInt ∧ ∀ j : Int, 0 ≤ j → j < n.toInt → dp f D j + 46 ≤ e.toInt from (fun h9 => absurd h9 (by omega)))⟩ [0, 1] (by decide) rfl rfl (by decide) (by decide)
  exact hL6_1 _ 0 x (by first | assumption | omega (splitDisjunctions := false) | omega | decide) (by first | assumption | omega (splitDisjunctions := false) | omega | decide) (by rw [zl0, dp_0]; omega) (by first | assumption | omega (splitDisjunctions := false) | omega | decide) (by first | assumption | omega (splitDisjunctions := false) | omega | decide) (fun j h0 h1 => absurd h1 (by omega)) (Nat.lt_succ_self _)

theorem d_FileReader_readEntry_0 : decode prog_5_method_6_code 0 = .ok (.aload_n 0, 1) := by decide +kernel
theorem d_FileReader_readEntry_1 : decode prog_5_method_6_code 1 = .ok (.getfield 9, 3) := by decide +kernel
theorem d_FileReader_readEntry_4 : decode prog_5_method_6_code 4 = .ok (.iload_n 1, 1) := by decide +kernel
theorem d_FileReader_readEntry_5 : decode prog_5_method_6_code 5 = .ok (.bipush 42, 2) := by decide +kernel
theorem d_FileReader_readEntry_7 : decode prog_5_method_6_code 7 = .ok (.iadd, 1) := by decide +kernel
theorem d_FileReader_readEntry_8 : decode prog_5_method_6_code 8 = .ok (.invokestatic 28, 3) := by decide +kernel
theorem d_FileReader_readEntry_11 : decode prog_5_method_6_code 11 = .ok (.lstore 6, 2) := by decide +kernel
theorem d_FileReader_readEntry_13 : decode prog_5_method_6_code 13 = .ok (.aload_n 0, 1) := by decide +kernel
theorem d_FileReader_readEntry_14 : decode prog_5_method_6_code 14 = .ok (.getfield 9, 3) := by decide +kernel
theorem d_FileReader_readEntry_17 : decode prog_5_method_6_code 17 = .ok (.iload_n 1, 1) := by decide +kernel
theorem d_FileReader_readEntry_18 : decode prog_5_method_6_code 18 = .ok (.bipush 20, 2) := by decide +kernel
theorem d_FileReader_readEntry_20 : decode prog_5_method_6_code 20 = .ok (.iadd, 1) := by decide +kernel
theorem d_FileReader_readEntry_21 : decode prog_5_method_6_code 21 = .ok (.invokestatic 28, 3) := by decide +kernel
theorem d_FileReader_readEntry_24 : decode prog_5_method_6_code 24 = .ok (.lstore 8, 2) := by decide +kernel
theorem d_FileReader_readEntry_26 : decode prog_5_method_6_code 26 = .ok (.aload_n 0, 1) := by decide +kernel
theorem d_FileReader_readEntry_27 : decode prog_5_method_6_code 27 = .ok (.getfield 9, 3) := by decide +kernel
theorem d_FileReader_readEntry_30 : decode prog_5_method_6_code 30 = .ok (.iload_n 1, 1) := by decide +kernel
theorem d_FileReader_readEntry_31 : decode prog_5_method_6_code 31 = .ok (.bipush 28, 2) := by decide +kernel
theorem d_FileReader_readEntry_33 : decode prog_5_method_6_code 33 = .ok (.iadd, 1) := by decide +kernel
theorem d_FileReader_readEntry_34 : decode prog_5_method_6_code 34 = .ok (.invokestatic 24, 3) := by decide +kernel
theorem d_FileReader_readEntry_37 : decode prog_5_method_6_code 37 = .ok (.istore 10, 2) := by decide +kernel
theorem d_FileReader_readEntry_39 : decode prog_5_method_6_code 39 = .ok (.lload 6, 2) := by decide +kernel
theorem d_FileReader_readEntry_41 : decode prog_5_method_6_code 41 = .ok (.ldc2_w 47, 3) := by decide +kernel
theorem k_613 : (Jvm.Cond.constantLong "PackageBook$FileReader" (47 : Nat) (30 : Int64)) ∈ uW := uW_of 613 (by decide +kernel) (by decide +kernel)
theorem d_FileReader_readEntry_44 : decode prog_5_method_6_code 44 = .ok (.ladd, 1) := by decide +kernel
theorem d_FileReader_readEntry_45 : decode prog_5_method_6_code 45 = .ok (.iload 10, 2) := by decide +kernel
theorem d_FileReader_readEntry_47 : decode prog_5_method_6_code 47 = .ok (.i2l, 1) := by decide +kernel
theorem d_FileReader_readEntry_48 : decode prog_5_method_6_code 48 = .ok (.ladd, 1) := by decide +kernel
theorem d_FileReader_readEntry_49 : decode prog_5_method_6_code 49 = .ok (.lstore 11, 2) := by decide +kernel
theorem d_FileReader_readEntry_51 : decode prog_5_method_6_code 51 = .ok (.lload 11, 2) := by decide +kernel
theorem d_FileReader_readEntry_53 : decode prog_5_method_6_code 53 = .ok (.lload 8, 2) := by decide +kernel
theorem d_FileReader_readEntry_55 : decode prog_5_method_6_code 55 = .ok (.ladd, 1) := by decide +kernel
theorem d_FileReader_readEntry_56 : decode prog_5_method_6_code 56 = .ok (.lload_n 2, 1) := by decide +kernel
theorem d_FileReader_readEntry_57 : decode prog_5_method_6_code 57 = .ok (.lcmp, 1) := by decide +kernel
theorem d_FileReader_readEntry_58 : decode prog_5_method_6_code 58 = .ok (.ifCond .gt 16, 3) := by decide +kernel
theorem d_FileReader_readEntry_74 : decode prog_5_method_6_code 74 = .ok (.iconst 3, 1) := by decide +kernel
theorem d_FileReader_readEntry_75 : decode prog_5_method_6_code 75 = .ok (.ireturn, 1) := by decide +kernel
theorem d_FileReader_readEntry_61 : decode prog_5_method_6_code 61 = .ok (.aload_n 0, 1) := by decide +kernel
theorem d_FileReader_readEntry_62 : decode prog_5_method_6_code 62 = .ok (.iload_n 1, 1) := by decide +kernel
theorem d_FileReader_readEntry_63 : decode prog_5_method_6_code 63 = .ok (.lload 6, 2) := by decide +kernel
theorem d_FileReader_readEntry_65 : decode prog_5_method_6_code 65 = .ok (.l2i, 1) := by decide +kernel
theorem d_FileReader_readEntry_66 : decode prog_5_method_6_code 66 = .ok (.iload 10, 2) := by decide +kernel
theorem d_FileReader_readEntry_68 : decode prog_5_method_6_code 68 = .ok (.invokevirtual 49, 3) := by decide +kernel
theorem k_614 : (Jvm.Cond.methodLink "PackageBook$FileReader" (49 : Nat) ({ cls := "PackageBook$FileReader", name := "isRecordOf", desc := "(III)Z" } : Jvm.MethodName)) ∈ uW := uW_of 614 (by decide +kernel) (by decide +kernel)
theorem k_617 : (Jvm.Cond.code ({ cls := "PackageBook$FileReader", name := "isRecordOf", desc := "(III)Z" } : Jvm.MethodName) prog_5_method_7_code (4 : Nat) (Option.some Jvm.ClassFile.FieldType.boolean)) ∈ uW := uW_of 617 (by decide +kernel) (by decide +kernel)
theorem k_616 : (Jvm.Cond.instanceMethod ({ cls := "PackageBook$FileReader", name := "isRecordOf", desc := "(III)Z" } : Jvm.MethodName)) ∈ uW := uW_of 616 (by decide +kernel) (by decide +kernel)
theorem k_16 : Cond.selects "PackageBook$FileReader" ⟨"PackageBook$FileReader", "isRecordOf", "(III)Z"⟩ ⟨"PackageBook$FileReader", "isRecordOf", "(III)Z"⟩ ∈ uW := uW_of 16 (by decide +kernel) (by decide +kernel)
theorem hy_FileReader_isRecordOf : (y_FileReader_isRecordOf).cls ≠ "java/lang/invoke/MethodHandle" ∧ (y_FileReader_isRecordOf).cls ≠ "java/lang/invoke/VarHandle" ∧ (parseMethodDescriptor (y_FileReader_isRecordOf).desc).map (fun d => d.parameters.length) = some 3 := by decide +kernel
theorem d_FileReader_readEntry_71 : decode prog_5_method_6_code 71 = .ok (.ifCond .ne 5, 3) := by decide +kernel
theorem d_FileReader_readEntry_76 : decode prog_5_method_6_code 76 = .ok (.iload_n 1, 1) := by decide +kernel
theorem d_FileReader_readEntry_77 : decode prog_5_method_6_code 77 = .ok (.bipush 46, 2) := by decide +kernel
theorem d_FileReader_readEntry_79 : decode prog_5_method_6_code 79 = .ok (.iadd, 1) := by decide +kernel
theorem d_FileReader_readEntry_80 : decode prog_5_method_6_code 80 = .ok (.istore 13, 2) := by decide +kernel
theorem d_FileReader_readEntry_82 : decode prog_5_method_6_code 82 = .ok (.aload_n 0, 1) := by decide +kernel
theorem d_FileReader_readEntry_83 : decode prog_5_method_6_code 83 = .ok (.getfield 9, 3) := by decide +kernel
theorem d_FileReader_readEntry_86 : decode prog_5_method_6_code 86 = .ok (.iload 13, 2) := by decide +kernel
theorem d_FileReader_readEntry_88 : decode prog_5_method_6_code 88 = .ok (.iload 10, 2) := by decide +kernel
theorem d_FileReader_readEntry_90 : decode prog_5_method_6_code 90 = .ok (.invokestatic 52, 3) := by decide +kernel
theorem k_620 : (Jvm.Cond.methodLinkNest "PackageBook$FileReader" (52 : Nat) ({ cls := "PackageBook", name := "isName", desc := "([BII)Z" } : Jvm.MethodName) "PackageBook") ∈ uN := uN_of 620 (by decide +kernel) (by decide +kernel)
theorem k_622 : (Jvm.Cond.code ({ cls := "PackageBook", name := "isName", desc := "([BII)Z" } : Jvm.MethodName) prog_1_method_26_code (6 : Nat) (Option.some Jvm.ClassFile.FieldType.boolean)) ∈ uW := uW_of 622 (by decide +kernel) (by decide +kernel)
theorem k_621 : (Jvm.Cond.static ({ cls := "PackageBook", name := "isName", desc := "([BII)Z" } : Jvm.MethodName)) ∈ uW := uW_of 621 (by decide +kernel) (by decide +kernel)
theorem hy_Book_isName : (y_Book_isName).cls ≠ "java/lang/invoke/MethodHandle" ∧ (y_Book_isName).cls ≠ "java/lang/invoke/VarHandle" ∧ (parseMethodDescriptor (y_Book_isName).desc).map (fun d => d.parameters.length) = some 3 := by decide +kernel
theorem d_FileReader_readEntry_93 : decode prog_5_method_6_code 93 = .ok (.ifCond .eq 19, 3) := by decide +kernel
theorem d_FileReader_readEntry_112 : decode prog_5_method_6_code 112 = .ok (.iconst 4, 1) := by decide +kernel
theorem d_FileReader_readEntry_113 : decode prog_5_method_6_code 113 = .ok (.ireturn, 1) := by decide +kernel
theorem d_FileReader_readEntry_96 : decode prog_5_method_6_code 96 = .ok (.aload 4, 2) := by decide +kernel
theorem d_FileReader_readEntry_98 : decode prog_5_method_6_code 98 = .ok (.aload_n 0, 1) := by decide +kernel
theorem d_FileReader_readEntry_99 : decode prog_5_method_6_code 99 = .ok (.getfield 9, 3) := by decide +kernel
theorem d_FileReader_readEntry_102 : decode prog_5_method_6_code 102 = .ok (.iload 13, 2) := by decide +kernel
theorem d_FileReader_readEntry_104 : decode prog_5_method_6_code 104 = .ok (.iload 10, 2) := by decide +kernel
theorem d_FileReader_readEntry_106 : decode prog_5_method_6_code 106 = .ok (.invokevirtual 56, 3) := by decide +kernel
theorem k_626 : (Jvm.Cond.methodLink "PackageBook$FileReader" (56 : Nat) ({ cls := "PackageBook$Shelf", name := "find", desc := "([BII)I" } : Jvm.MethodName)) ∈ uW := uW_of 626 (by decide +kernel) (by decide +kernel)
theorem d_FileReader_readEntry_109 : decode prog_5_method_6_code 109 = .ok (.ifCond .lt 5, 3) := by decide +kernel
theorem d_FileReader_readEntry_114 : decode prog_5_method_6_code 114 = .ok (.aload_n 0, 1) := by decide +kernel
theorem d_FileReader_readEntry_115 : decode prog_5_method_6_code 115 = .ok (.getfield 9, 3) := by decide +kernel
theorem d_FileReader_readEntry_118 : decode prog_5_method_6_code 118 = .ok (.iload_n 1, 1) := by decide +kernel
theorem d_FileReader_readEntry_119 : decode prog_5_method_6_code 119 = .ok (.bipush 10, 2) := by decide +kernel
theorem d_FileReader_readEntry_121 : decode prog_5_method_6_code 121 = .ok (.iadd, 1) := by decide +kernel
theorem d_FileReader_readEntry_122 : decode prog_5_method_6_code 122 = .ok (.invokestatic 24, 3) := by decide +kernel
theorem d_FileReader_readEntry_125 : decode prog_5_method_6_code 125 = .ok (.bipush 8, 2) := by decide +kernel
theorem d_FileReader_readEntry_127 : decode prog_5_method_6_code 127 = .ok (.if_icmp .ne 7, 3) := by decide +kernel
theorem d_FileReader_readEntry_134 : decode prog_5_method_6_code 134 = .ok (.iconst 0, 1) := by decide +kernel
theorem d_FileReader_readEntry_135 : decode prog_5_method_6_code 135 = .ok (.istore 14, 2) := by decide +kernel
theorem d_FileReader_readEntry_137 : decode prog_5_method_6_code 137 = .ok (.iload 14, 2) := by decide +kernel
theorem d_FileReader_readEntry_139 : decode prog_5_method_6_code 139 = .ok (.ifCond .eq 21, 3) := by decide +kernel
theorem d_FileReader_readEntry_160 : decode prog_5_method_6_code 160 = .ok (.lload 8, 2) := by decide +kernel
theorem d_FileReader_readEntry_162 : decode prog_5_method_6_code 162 = .ok (.l2i, 1) := by decide +kernel
theorem d_FileReader_readEntry_163 : decode prog_5_method_6_code 163 = .ok (.istore 15, 2) := by decide +kernel
theorem d_FileReader_readEntry_165 : decode prog_5_method_6_code 165 = .ok (.iload 14, 2) := by decide +kernel
theorem d_FileReader_readEntry_167 : decode prog_5_method_6_code 167 = .ok (.ifCond .eq 14, 3) := by decide +kernel
theorem d_FileReader_readEntry_181 : decode prog_5_method_6_code 181 = .ok (.aload_n 0, 1) := by decide +kernel
theorem d_FileReader_readEntry_182 : decode prog_5_method_6_code 182 = .ok (.getfield 9, 3) := by decide +kernel
theorem d_FileReader_readEntry_185 : decode prog_5_method_6_code 185 = .ok (.astore 16, 2) := by decide +kernel
theorem d_FileReader_readEntry_187 : decode prog_5_method_6_code 187 = .ok (.iload 14, 2) := by decide +kernel
theorem d_FileReader_readEntry_189 : decode prog_5_method_6_code 189 = .ok (.ifCond .eq 7, 3) := by decide +kernel
theorem d_FileReader_readEntry_196 : decode prog_5_method_6_code 196 = .ok (.lload 11, 2) := by decide +kernel
theorem d_FileReader_readEntry_198 : decode prog_5_method_6_code 198 = .ok (.l2i, 1) := by decide +kernel
theorem d_FileReader_readEntry_199 : decode prog_5_method_6_code 199 = .ok (.istore 17, 2) := by decide +kernel
theorem d_FileReader_readEntry_201 : decode prog_5_method_6_code 201 = .ok (.iload 15, 2) := by decide +kernel
theorem d_FileReader_readEntry_203 : decode prog_5_method_6_code 203 = .ok (.i2l, 1) := by decide +kernel
theorem d_FileReader_readEntry_204 : decode prog_5_method_6_code 204 = .ok (.aload_n 0, 1) := by decide +kernel
theorem d_FileReader_readEntry_205 : decode prog_5_method_6_code 205 = .ok (.getfield 9, 3) := by decide +kernel
theorem d_FileReader_readEntry_208 : decode prog_5_method_6_code 208 = .ok (.iload_n 1, 1) := by decide +kernel
theorem d_FileReader_readEntry_209 : decode prog_5_method_6_code 209 = .ok (.bipush 24, 2) := by decide +kernel
theorem d_FileReader_readEntry_211 : decode prog_5_method_6_code 211 = .ok (.iadd, 1) := by decide +kernel
theorem d_FileReader_readEntry_212 : decode prog_5_method_6_code 212 = .ok (.invokestatic 28, 3) := by decide +kernel
theorem d_FileReader_readEntry_215 : decode prog_5_method_6_code 215 = .ok (.lcmp, 1) := by decide +kernel
theorem d_FileReader_readEntry_216 : decode prog_5_method_6_code 216 = .ok (.ifCond .ne 27, 3) := by decide +kernel
theorem d_FileReader_readEntry_243 : decode prog_5_method_6_code 243 = .ok (.iconst 5, 1) := by decide +kernel
theorem d_FileReader_readEntry_244 : decode prog_5_method_6_code 244 = .ok (.ireturn, 1) := by decide +kernel
theorem d_FileReader_readEntry_219 : decode prog_5_method_6_code 219 = .ok (.aload 16, 2) := by decide +kernel
theorem d_FileReader_readEntry_221 : decode prog_5_method_6_code 221 = .ok (.iload 17, 2) := by decide +kernel
theorem d_FileReader_readEntry_223 : decode prog_5_method_6_code 223 = .ok (.iload 15, 2) := by decide +kernel
theorem d_FileReader_readEntry_225 : decode prog_5_method_6_code 225 = .ok (.invokestatic 74, 3) := by decide +kernel
theorem k_692 : (Jvm.Cond.methodLinkNest "PackageBook$FileReader" (74 : Nat) ({ cls := "PackageBook", name := "sumOf", desc := "([BII)I" } : Jvm.MethodName) "PackageBook") ∈ uN := uN_of 692 (by decide +kernel) (by decide +kernel)
theorem d_FileReader_readEntry_228 : decode prog_5_method_6_code 228 = .ok (.aload_n 0, 1) := by decide +kernel
theorem d_FileReader_readEntry_229 : decode prog_5_method_6_code 229 = .ok (.getfield 9, 3) := by decide +kernel
theorem d_FileReader_readEntry_232 : decode prog_5_method_6_code 232 = .ok (.iload_n 1, 1) := by decide +kernel
theorem d_FileReader_readEntry_233 : decode prog_5_method_6_code 233 = .ok (.bipush 16, 2) := by decide +kernel
theorem d_FileReader_readEntry_235 : decode prog_5_method_6_code 235 = .ok (.iadd, 1) := by decide +kernel
theorem d_FileReader_readEntry_236 : decode prog_5_method_6_code 236 = .ok (.invokestatic 28, 3) := by decide +kernel
theorem d_FileReader_readEntry_239 : decode prog_5_method_6_code 239 = .ok (.l2i, 1) := by decide +kernel
theorem d_FileReader_readEntry_240 : decode prog_5_method_6_code 240 = .ok (.if_icmp .eq 5, 3) := by decide +kernel
theorem d_FileReader_readEntry_245 : decode prog_5_method_6_code 245 = .ok (.aload 4, 2) := by decide +kernel
theorem d_FileReader_readEntry_247 : decode prog_5_method_6_code 247 = .ok (.iconst (-1), 1) := by decide +kernel
theorem d_FileReader_readEntry_248 : decode prog_5_method_6_code 248 = .ok (.iload 15, 2) := by decide +kernel
theorem d_FileReader_readEntry_250 : decode prog_5_method_6_code 250 = .ok (.invokevirtual 77, 3) := by decide +kernel
theorem k_693 : (Jvm.Cond.methodLink "PackageBook$FileReader" (77 : Nat) ({ cls := "PackageBook$Shelf", name := "hasRoom", desc := "(II)Z" } : Jvm.MethodName)) ∈ uW := uW_of 693 (by decide +kernel) (by decide +kernel)
theorem k_696 : (Jvm.Cond.code ({ cls := "PackageBook$Shelf", name := "hasRoom", desc := "(II)Z" } : Jvm.MethodName) prog_10_method_7_code (4 : Nat) (Option.some Jvm.ClassFile.FieldType.boolean)) ∈ uW := uW_of 696 (by decide +kernel) (by decide +kernel)
theorem k_694 : (Jvm.Cond.instanceMethod ({ cls := "PackageBook$Shelf", name := "hasRoom", desc := "(II)Z" } : Jvm.MethodName)) ∈ uW := uW_of 694 (by decide +kernel) (by decide +kernel)
theorem k_695 : (Jvm.Cond.selects "PackageBook$Shelf" ({ cls := "PackageBook$Shelf", name := "hasRoom", desc := "(II)Z" } : Jvm.MethodName) ({ cls := "PackageBook$Shelf", name := "hasRoom", desc := "(II)Z" } : Jvm.MethodName)) ∈ uW := uW_of 695 (by decide +kernel) (by decide +kernel)
theorem hy_Shelf_hasRoom : (y_Shelf_hasRoom).cls ≠ "java/lang/invoke/MethodHandle" ∧ (y_Shelf_hasRoom).cls ≠ "java/lang/invoke/VarHandle" ∧ (parseMethodDescriptor (y_Shelf_hasRoom).desc).map (fun d => d.parameters.length) = some 2 := by decide +kernel
theorem d_FileReader_readEntry_253 : decode prog_5_method_6_code 253 = .ok (.ifCond .ne 6, 3) := by decide +kernel
theorem d_FileReader_readEntry_259 : decode prog_5_method_6_code 259 = .ok (.aload 4, 2) := by decide +kernel
theorem d_FileReader_readEntry_261 : decode prog_5_method_6_code 261 = .ok (.aload_n 0, 1) := by decide +kernel
theorem d_FileReader_readEntry_262 : decode prog_5_method_6_code 262 = .ok (.getfield 9, 3) := by decide +kernel
theorem d_FileReader_readEntry_265 : decode prog_5_method_6_code 265 = .ok (.iload 13, 2) := by decide +kernel
theorem d_FileReader_readEntry_267 : decode prog_5_method_6_code 267 = .ok (.iload 10, 2) := by decide +kernel
theorem d_FileReader_readEntry_269 : decode prog_5_method_6_code 269 = .ok (.aload 16, 2) := by decide +kernel
theorem d_FileReader_readEntry_271 : decode prog_5_method_6_code 271 = .ok (.iload 17, 2) := by decide +kernel
theorem d_FileReader_readEntry_273 : decode prog_5_method_6_code 273 = .ok (.iload 15, 2) := by decide +kernel
theorem d_FileReader_readEntry_275 : decode prog_5_method_6_code 275 = .ok (.invokevirtual 81, 3) := by decide +kernel
theorem k_697 : (Jvm.Cond.methodLink "PackageBook$FileReader" (81 : Nat) ({ cls := "PackageBook$Shelf", name := "bringIn", desc := "([BII[BII)V" } : Jvm.MethodName)) ∈ uW := uW_of 697 (by decide +kernel) (by decide +kernel)
theorem k_700 : (Jvm.Cond.code ({ cls := "PackageBook$Shelf", name := "bringIn", desc := "([BII[BII)V" } : Jvm.MethodName) prog_10_method_9_code (10 : Nat) (Option.none : Option Jvm.ClassFile.FieldType)) ∈ uW := uW_of 700 (by decide +kernel) (by decide +kernel)
theorem k_698 : (Jvm.Cond.instanceMethod ({ cls := "PackageBook$Shelf", name := "bringIn", desc := "([BII[BII)V" } : Jvm.MethodName)) ∈ uW := uW_of 698 (by decide +kernel) (by decide +kernel)
theorem k_699 : (Jvm.Cond.selects "PackageBook$Shelf" ({ cls := "PackageBook$Shelf", name := "bringIn", desc := "([BII[BII)V" } : Jvm.MethodName) ({ cls := "PackageBook$Shelf", name := "bringIn", desc := "([BII[BII)V" } : Jvm.MethodName)) ∈ uW := uW_of 699 (by decide +kernel) (by decide +kernel)
theorem hy_Shelf_bringIn : (y_Shelf_bringIn).cls ≠ "java/lang/invoke/MethodHandle" ∧ (y_Shelf_bringIn).cls ≠ "java/lang/invoke/VarHandle" ∧ (parseMethodDescriptor (y_Shelf_bringIn).desc).map (fun d => d.parameters.length) = some 6 := by decide +kernel
theorem d_FileReader_readEntry_278 : decode prog_5_method_6_code 278 = .ok (.iconst 0, 1) := by decide +kernel
theorem d_FileReader_readEntry_279 : decode prog_5_method_6_code 279 = .ok (.ireturn, 1) := by decide +kernel
theorem d_FileReader_readEntry_256 : decode prog_5_method_6_code 256 = .ok (.bipush 6, 2) := by decide +kernel
theorem d_FileReader_readEntry_258 : decode prog_5_method_6_code 258 = .ok (.ireturn, 1) := by decide +kernel
theorem d_FileReader_readEntry_130 : decode prog_5_method_6_code 130 = .ok (.iconst 1, 1) := by decide +kernel
theorem d_FileReader_readEntry_131 : decode prog_5_method_6_code 131 = .ok (.goto 4, 3) := by decide +kernel
theorem d_FileReader_readEntry_142 : decode prog_5_method_6_code 142 = .ok (.aload 5, 2) := by decide +kernel
theorem d_FileReader_readEntry_144 : decode prog_5_method_6_code 144 = .ok (.aload_n 0, 1) := by decide +kernel
theorem d_FileReader_readEntry_145 : decode prog_5_method_6_code 145 = .ok (.getfield 9, 3) := by decide +kernel
theorem d_FileReader_readEntry_148 : decode prog_5_method_6_code 148 = .ok (.lload 11, 2) := by decide +kernel
theorem d_FileReader_readEntry_150 : decode prog_5_method_6_code 150 = .ok (.l2i, 1) := by decide +kernel
theorem d_FileReader_readEntry_151 : decode prog_5_method_6_code 151 = .ok (.lload 8, 2) := by decide +kernel
theorem d_FileReader_readEntry_153 : decode prog_5_method_6_code 153 = .ok (.l2i, 1) := by decide +kernel
theorem d_FileReader_readEntry_154 : decode prog_5_method_6_code 154 = .ok (.invokevirtual 60, 3) := by decide +kernel
theorem k_627 : (Jvm.Cond.methodLink "PackageBook$FileReader" (60 : Nat) ({ cls := "PackageBook$Expander", name := "run", desc := "([BII)I" } : Jvm.MethodName)) ∈ uW := uW_of 627 (by decide +kernel) (by decide +kernel)
theorem k_630 : (Jvm.Cond.code ({ cls := "PackageBook$Expander", name := "run", desc := "([BII)I" } : Jvm.MethodName) prog_3_method_3_code (7 : Nat) (Option.some Jvm.ClassFile.FieldType.int)) ∈ uW := uW_of 630 (by decide +kernel) (by decide +kernel)
theorem k_628 : (Jvm.Cond.instanceMethod ({ cls := "PackageBook$Expander", name := "run", desc := "([BII)I" } : Jvm.MethodName)) ∈ uW := uW_of 628 (by decide +kernel) (by decide +kernel)
theorem k_629 : (Jvm.Cond.selects "PackageBook$Expander" ({ cls := "PackageBook$Expander", name := "run", desc := "([BII)I" } : Jvm.MethodName) ({ cls := "PackageBook$Expander", name := "run", desc := "([BII)I" } : Jvm.MethodName)) ∈ uW := uW_of 629 (by decide +kernel) (by decide +kernel)
theorem hy_Expander_run : (y_Expander_run).cls ≠ "java/lang/invoke/MethodHandle" ∧ (y_Expander_run).cls ≠ "java/lang/invoke/VarHandle" ∧ (parseMethodDescriptor (y_Expander_run).desc).map (fun d => d.parameters.length) = some 3 := by decide +kernel
theorem d_FileReader_readEntry_157 : decode prog_5_method_6_code 157 = .ok (.goto 6, 3) := by decide +kernel
theorem d_FileReader_readEntry_170 : decode prog_5_method_6_code 170 = .ok (.aload 5, 2) := by decide +kernel
theorem d_FileReader_readEntry_172 : decode prog_5_method_6_code 172 = .ok (.getfield 65, 3) := by decide +kernel
theorem k_249 : (Jvm.Cond.fieldLinkNest "PackageBook$FileReader" (65 : Nat) "PackageBook$Expander" "expanded" "LPackageBook$Row;" "PackageBook") ∈ uN := uN_of 249 (by decide +kernel) (by decide +kernel)
theorem d_FileReader_readEntry_175 : decode prog_5_method_6_code 175 = .ok (.getfield 69, 3) := by decide +kernel
theorem k_159 : (Jvm.Cond.fieldLinkNest "PackageBook$FileReader" (69 : Nat) "PackageBook$Row" "bytes" "[B" "PackageBook") ∈ uN := uN_of 159 (by decide +kernel) (by decide +kernel)
theorem d_FileReader_readEntry_178 : decode prog_5_method_6_code 178 = .ok (.goto 7, 3) := by decide +kernel
theorem d_FileReader_readEntry_192 : decode prog_5_method_6_code 192 = .ok (.iconst 0, 1) := by decide +kernel
theorem d_FileReader_readEntry_193 : decode prog_5_method_6_code 193 = .ok (.goto 6, 3) := by decide +kernel
abbrev y_FileReader_readEntry : MethodName := ⟨"PackageBook$FileReader", "readEntry", "(IJLPackageBook$Shelf;LPackageBook$Expander;)I"⟩
abbrev i_FileReader_readEntry : pb_I := (y_FileReader_readEntry, prog_5_method_6_code, 18, (some Jvm.ClassFile.FieldType.int), [], { frames := 4, cells := 0, slots := 0, locals := 103 })
set_option maxRecDepth 100000 in
set_option maxHeartbeats 4000000 in
theorem g_Rd_readEntry {l : Launch} (hl : l.stackTraces = false) (G : pb_G) (h : Nat) (b : Nat) (N : Nat) (f : Nat → Int32) (sp : Nat) (tn : Nat) (tz : Nat) (tb : Nat) (tg : Nat) (c : Int32) (tfn : Nat → Int32) (tfz : Nat → Int32) (tfb : Nat → Int32) (tfg : Nat → Int32) (q : Nat) (ex : Nat) (et : Nat) (ea : Nat) (eb : Nat) (ec : Nat) (ed : Nat) (ef : Nat) (er : Nat) (at_ : Int32) (en : Int32) (fl : Int32) (ey : Nat) (xf : Nat → Int32) (xs : Int32) (tf : Nat → Int32) (ea1 : Nat) (ea2 : Nat) (eas : Int32) (eac : Nat → Int32) (eay : Nat → Int32) (eb1 : Nat) (eb2 : Nat) (ebs : Int32) (ebc : Nat → Int32) (eby : Nat → Int32) (ef1 : Nat) (ef2 : Nat) (efs : Int32) (efc : Nat → Int32) (efy : Nat → Int32) (ec1 : Nat) (ec2 : Nat) (ecs : Int32) (ecc : Nat → Int32) (ecy : Nat → Int32) (ed1 : Nat) (ed2 : Nat) (eds : Int32) (edc : Nat → Int32) (edy : Nat → Int32) (x : Int32) (lm : Int64) (I : sh_I c.toInt tfz tfg) (Ia : co_I eas.toInt eac eay 288) (Ma : eas.toInt ≤ 288) (Ib : co_I ebs.toInt ebc eby 32) (Mb : ebs.toInt ≤ 32) (Fa : cs_R eas.toInt eac eay fx_1 288) (Fb : cs_R ebs.toInt ebc eby fx_2 32) (If : co_I efs.toInt efc efy 19) (Mf : efs.toInt ≤ 19) (Ic : co_I ecs.toInt ecc ecy 288) (Mc : ecs.toInt ≤ 286) (Id : co_I eds.toInt edc edy 32) (Md : eds.toInt ≤ 30) (a0_ : 0 ≤ xs.toInt) (a1_ : xs.toInt ≤ 4000) (h0 : 0 ≤ x.toInt) (h1 : x.toInt + (46 + tw f (x.toInt + 28)) ≤ N) (h2 : lm.toInt ≤ N) (hN : N ≤ 100000) (F_f : sb_Fit f) (F_tfn : sb_Fit tfn) (F_tfb : sb_Fit tfb) (F_xf : sb_Fit xf) : Cn l G i_FileReader_readEntry [.ref h, .int x, .long lm, .ref sp, .ref q] [(h, .inr (7, [.ref b])), (b, .inl (G.2.1, N, .inl f)), (sp, .inr (3, [.ref tn, .ref tz, .ref tb, .ref tg, .int c])), (tn, .inl (G.2.1, 384, .inl tfn)), (tz, .inl (G.2.2.1, 16, .inl tfz)), (tb, .inl (G.2.1, 12000, .inl tfb)), (tg, .inl (G.2.2.1, 17, .inl tfg)), (q, .inr (5, [.ref ex, .ref et, .ref ea, .ref eb, .ref ec, .ref ed, .ref ef, .ref er, .int at_, .int en, .int fl])), (ex, .inr (0, [.ref ey, .int xs])), (ey, .inl (G.2.1, 4000, .inl xf)), (et, .inl (G.2.2.1, 316, .inl tf)), (ea, .inr (1, [.ref ea1, .ref ea2, .int eas])), (ea1, .inl (G.2.2.1, 16, .inl eac)), (ea2, .inl (G.2.2.1, 288, .inl eay)), (eb, .inr (1, [.ref eb1, .ref eb2, .int ebs])), (eb1, .inl (G.2.2.1, 16, .inl ebc)), (eb2, .inl (G.2.2.1, 32, .inl eby)), (ef, .inr (1, [.ref ef1, .ref ef2, .int efs])), (ef1, .inl (G.2.2.1, 16, .inl efc)), (ef2, .inl (G.2.2.1, 19, .inl efy)), (ec, .inr (1, [.ref ec1, .ref ec2, .int ecs])), (ec1, .inl (G.2.2.1, 16, .inl ecc)), (ec2, .inl (G.2.2.1, 286, .inl ecy)), (ed, .inr (1, [.ref ed1, .ref ed2, .int eds])), (ed1, .inl (G.2.2.1, 16, .inl edc)), (ed2, .inl (G.2.2.1, 30, .inl edy))] (S := Int32 × Int32 × (Nat → Int32) × (Nat → Int32) × (Nat → Int32) × (Nat → Int32) × Nat × Int32 × Int32 × Int32 × Int32 × (Nat → Int32) × (Nat → Int32) × Int32 × (Nat → Int32) × (Nat → Int32) × Int32 × (Nat → Int32) × (Nat → Int32) × Int32 × (Nat → Int32) × (Nat → Int32)) (fun rv_ u => rv_ = some (.int u.1) ∧ (sh_I u.2.1.toInt u.2.2.2.1 u.2.2.2.2.2.1) ∧ (0 ≤ u.2.2.2.2.2.2.2.2.2.2.1.toInt) ∧ (u.2.2.2.2.2.2.2.2.2.2.1.toInt ≤ 4000) ∧ (co_I u.2.2.2.2.2.2.2.2.2.2.2.2.2.1.toInt u.2.2.2.2.2.2.2.2.2.2.2.2.2.2.1 u.2.2.2.2.2.2.2.2.2.2.2.2.2.2.2.1 19) ∧ (u.2.2.2.2.2.2.2.2.2.2.2.2.2.1.toInt ≤ 19) ∧ (co_I u.2.2.2.2.2.2.2.2.2.2.2.2.2.2.2.2.1.toInt u.2.2.2.2.2.2.2.2.2.2.2.2.2.2.2.2.2.1 u.2.2.2.2.2.2.2.2.2.2.2.2.2.2.2.2.2.2.1 288) ∧ (u.2.2.2.2.2.2.2.2.2.2.2.2.2.2.2.2.1.toInt ≤ 286) ∧ (co_I u.2.2.2.2.2.2.2.2.2.2.2.2.2.2.2.2.2.2.2.1.toInt u.2.2.2.2.2.2.2.2.2.2.2.2.2.2.2.2.2.2.2.2.1 u.2.2.2.2.2.2.2.2.2.2.2.2.2.2.2.2.2.2.2.2.2 32) ∧ (u.2.2.2.2.2.2.2.2.2.2.2.2.2.2.2.2.2.2.2.1.toInt ≤ 30) ∧ (sb_Fit u.2.2.1) ∧ (sb_Fit u.2.2.2.2.1) ∧ (sb_Fit u.2.2.2.2.2.2.2.2.2.2.2.1)) (fun u => [(h, .inr (7, [.ref b])), (b, .inl (G.2.1, N, .inl f)), (sp, .inr (3, [.ref tn, .ref tz, .ref tb, .ref tg, .int u.2.1])), (tn, .inl (G.2.1, 384, .inl u.2.2.1)), (tz, .inl (G.2.2.1, 16, .inl u.2.2.2.1)), (tb, .inl (G.2.1, 12000, .inl u.2.2.2.2.1)), (tg, .inl (G.2.2.1, 17, .inl u.2.2.2.2.2.1)), (q, .inr (5, [.ref ex, .ref et, .ref ea, .ref eb, .ref ec, .ref ed, .ref ef, .ref u.2.2.2.2.2.2.1, .int u.2.2.2.2.2.2.2.1, .int u.2.2.2.2.2.2.2.2.1, .int u.2.2.2.2.2.2.2.2.2.1])), (ex, .inr (0, [.ref ey, .int u.2.2.2.2.2.2.2.2.2.2.1])), (ey, .inl (G.2.1, 4000, .inl u.2.2.2.2.2.2.2.2.2.2.2.1)), (et, .inl (G.2.2.1, 316, .inl u.2.2.2.2.2.2.2.2.2.2.2.2.1)), (ea, .inr (1, [.ref ea1, .ref ea2, .int eas])), (ea1, .inl (G.2.2.1, 16, .inl eac)), (ea2, .inl (G.2.2.1, 288, .inl eay)), (eb, .inr (1, [.ref eb1, .ref eb2, .int ebs])), (eb1, .inl (G.2.2.1, 16, .inl ebc)), (eb2, .inl (G.2.2.1, 32, .inl eby)), (ef, .inr (1, [.ref ef1, .ref ef2, .int u.2.2.2.2.2.2.2.2.2.2.2.2.2.1])), (ef1, .inl (G.2.2.1, 16, .inl u.2.2.2.2.2.2.2.2.2.2.2.2.2.2.1)), (ef2, .inl (G.2.2.1, 19, .inl u.2.2.2.2.2.2.2.2.2.2.2.2.2.2.2.1)), (ec, .inr (1, [.ref ec1, .ref ec2, .int u.2.2.2.2.2.2.2.2.2.2.2.2.2.2.2.2.1])), (ec1, .inl (G.2.2.1, 16, .inl u.2.2.2.2.2.2.2.2.2.2.2.2.2.2.2.2.2.1)), (ec2, .inl (G.2.2.1, 286, .inl u.2.2.2.2.2.2.2.2.2.2.2.2.2.2.2.2.2.2.1)), (ed, .inr (1, [.ref ed1, .ref ed2, .int u.2.2.2.2.2.2.2.2.2.2.2.2.2.2.2.2.2.2.2.1])), (ed1, .inl (G.2.2.1, 16, .inl u.2.2.2.2.2.2.2.2.2.2.2.2.2.2.2.2.2.2.2.2.1)), (ed2, .inl (G.2.2.1, 30, .inl u.2.2.2.2.2.2.2.2.2.2.2.2.2.2.2.2.2.2.2.2.2))]) := by
  refine Cn.of hl (by decide +kernel) rfl (Nat.le_of_ble_eq_true rfl) (fun M hQ => ?_)
  refine pb_eq (pc' := 0) (lo' := [(0, .ref h), (1, .int x), (2, .long lm), (4, .ref sp), (5, .ref q)]) (rest' := []) (ws' := [(h, .inr (7, [.ref b])), (b, .inl (G.2.1, N, .inl f)), (sp, .inr (3, [.ref tn, .ref tz, .ref tb, .ref tg, .int c])), (tn, .inl (G.2.1, 384, .inl tfn)), (tz, .inl (G.2.2.1, 16, .inl tfz)), (tb, .inl (G.2.1, 12000, .inl tfb)), (tg, .inl (G.2.2.1, 17, .inl tfg)), (q, .inr (5, [.ref ex, .ref et, .ref ea, .ref eb, .ref ec, .ref ed, .ref ef, .ref er, .int at_, .int en, .int fl])), (ex, .inr (0, [.ref ey, .int xs])), (ey, .inl (G.2.1, 4000, .inl xf)), (et, .inl (G.2.2.1, 316, .inl tf)), (ea, .inr (1, [.ref ea1, .ref ea2, .int eas])), (ea1, .inl (G.2.2.1, 16, .inl eac)), (ea2, .inl (G.2.2.1, 288, .inl eay)), (eb, .inr (1, [.ref eb1, .ref eb2, .int ebs])), (eb1, .inl (G.2.2.1, 16, .inl ebc)), (eb2, .inl (G.2.2.1, 32, .inl eby)), (ef, .inr (1, [.ref ef1, .ref ef2, .int efs])), (ef1, .inl (G.2.2.1, 16, .inl efc)), (ef2, .inl (G.2.2.1, 19, .inl efy)), (ec, .inr (1, [.ref ec1, .ref ec2, .int ecs])), (ec1, .inl (G.2.2.1, 16, .inl ecc)), (ec2, .inl (G.2.2.1, 286, .inl ecy)), (ed, .inr (1, [.ref ed1, .ref ed2, .int eds])), (ed1, .inl (G.2.2.1, 16, .inl edc)), (ed2, .inl (G.2.2.1, 30, .inl edy))]) ?_
  have zm1 : ((-1) : Int32).toInt = (-1) := by decide
  have zl0 : (0 : Int32).toInt = 0 := by decide
  have zl1 : (1 : Int32).toInt = 1 := by decide
  have zl3 : (3 : Int32).toInt = 3 := by decide
  have zl4 : (4 : Int32).toInt = 4 := by decide
  have zl5 : (5 : Int32).toInt = 5 := by decide
  have zl6 : (6 : Int32).toInt = 6 := by decide
  have tq := tw_rng f (x.toInt + 28)
  refine pb_aload_n (pc := 0) d_FileReader_readEntry_0 0 rfl rfl ?_
  refine pb_get (pc := 1) d_FileReader_readEntry_1 0 0 rfl rfl (by decide) in_FileReader k_306 rfl ?_
  refine pb_iload_n (pc := 4) d_FileReader_readEntry_4 1 rfl rfl ?_
  refine pb_bipush (pc := 5) (v := 42) d_FileReader_readEntry_5 (by decide) ?_
  refine pb_iadd (pc := 7) d_FileReader_readEntry_7 ?_
  refine pb_topi (fun i1 ei1 => ?_)
  try have ti1 : i1.toInt = x.toInt + 42 := t2_add ei1 rfl (by decide) (by omega)
  refine pb_callSN (pc := 8) (I := i_FileReader_readEntry) (nA := 2) (rest := []) (wr := [(h, .inr (7, [.ref b])), (sp, .inr (3, [.ref tn, .ref tz, .ref tb, .ref tg, .int c])), (tn, .inl (G.2.1, 384, .inl tfn)), (tz, .inl (G.2.2.1, 16, .inl tfz)), (tb, .inl (G.2.1, 12000, .inl tfb)), (tg, .inl (G.2.2.1, 17, .inl tfg)), (q, .inr (5, [.ref ex, .ref et, .ref ea, .ref eb, .ref ec, .ref ed, .ref ef, .ref er, .int at_, .int en, .int fl])), (ex, .inr (0, [.ref ey, .int xs])), (ey, .inl (G.2.1, 4000, .inl xf)), (et, .inl (G.2.2.1, 316, .inl tf)), (ea, .inr (1, [.ref ea1, .ref ea2, .int eas])), (ea1, .inl (G.2.2.1, 16, .inl eac)), (ea2, .inl (G.2.2.1, 288, .inl eay)), (eb, .inr (1, [.ref eb1, .ref eb2, .int ebs])), (eb1, .inl (G.2.2.1, 16, .inl ebc)), (eb2, .inl (G.2.2.1, 32, .inl eby)), (ef, .inr (1, [.ref ef1, .ref ef2, .int efs])), (ef1, .inl (G.2.2.1, 16, .inl efc)), (ef2, .inl (G.2.2.1, 19, .inl efy)), (ec, .inr (1, [.ref ec1, .ref ec2, .int ecs])), (ec1, .inl (G.2.2.1, 16, .inl ecc)), (ec2, .inl (G.2.2.1, 286, .inl ecy)), (ed, .inr (1, [.ref ed1, .ref ed2, .int eds])), (ed1, .inl (G.2.2.1, 16, .inl edc)), (ed2, .inl (G.2.2.1, 30, .inl edy))]) d_FileReader_readEntry_8 (g_fourAt hl G b N f i1 (by first | assumption | omega (splitDisjunctions := false) | omega | decide) (by first | assumption | omega (splitDisjunctions := false) | omega | decide) (by first | assumption | omega (splitDisjunctions := false) | omega | decide) F_f) [1] [0, 2, 3, 4, 5, 6, 7, 8, 9, 10, 11, 12, 13, 14, 15, 16, 17, 18, 19, 20, 21, 22, 23, 24, 25] (by decide) rfl rfl rfl (by decide) (by decide) k_594 rfl k_118 k_592 k_593 hy_Book_fourAt (by decide) rfl rfl (Nat.le_of_ble_eq_true rfl) (by decide) (fun v9 u3 ch2 => ?_)
  obtain ⟨r_4, rfl⟩ : ∃ z9, z9 = u3 := ⟨_, rfl⟩
  obtain ⟨ech2, ch2⟩ := ch2
  have ech2 : v9 = some (.long r_4) := ech2
  subst ech2
  obtain ⟨fh5, fh6⟩ : (0 ≤ r_4.toInt) ∧ (r_4.toInt < 4294967296) := ch2
  refine pb_eq (pc' := 11) (lo' := [(0, .ref h), (1, .int x), (2, .long lm), (4, .ref sp), (5, .ref q)]) (rest' := [.long r_4]) (ws' := [(h, .inr (7, [.ref b])), (sp, .inr (3, [.ref tn, .ref tz, .ref tb, .ref tg, .int c])), (tn, .inl (G.2.1, 384, .inl tfn)), (tz, .inl (G.2.2.1, 16, .inl tfz)), (tb, .inl (G.2.1, 12000, .inl tfb)), (tg, .inl (G.2.2.1, 17, .inl tfg)), (q, .inr (5, [.ref ex, .ref et, .ref ea, .ref eb, .ref ec, .ref ed, .ref ef, .ref er, .int at_, .int en, .int fl])), (ex, .inr (0, [.ref ey, .int xs])), (ey, .inl (G.2.1, 4000, .inl xf)), (et, .inl (G.2.2.1, 316, .inl tf)), (ea, .inr (1, [.ref ea1, .ref ea2, .int eas])), (ea1, .inl (G.2.2.1, 16, .inl eac)), (ea2, .inl (G.2.2.1, 288, .inl eay)), (eb, .inr (1, [.ref eb1, .ref eb2, .int ebs])), (eb1, .inl (G.2.2.1, 16, .inl ebc)), (eb2, .inl (G.2.2.1, 32, .inl eby)), (ef, .inr (1, [.ref ef1, .ref ef2, .int efs])), (ef1, .inl (G.2.2.1, 16, .inl efc)), (ef2, .inl (G.2.2.1, 19, .inl efy)), (ec, .inr (1, [.ref ec1, .ref ec2, .int ecs])), (ec1, .inl (G.2.2.1, 16, .inl ecc)), (ec2, .inl (G.2.2.1, 286, .inl ecy)), (ed, .inr (1, [.ref ed1, .ref ed2, .int eds])), (ed1, .inl (G.2.2.1, 16, .inl edc)), (ed2, .inl (G.2.2.1, 30, .inl edy)), (b, .inl (G.2.1, N, .inl f))]) ?_
  refine pb_lstore (pc := 11) (lo' := [(6, .long r_4), (0, .ref h), (1, .int x), (2, .long lm), (4, .ref sp), (5, .ref q)]) d_FileReader_readEntry_11 (by decide) rfl ?_
  refine pb_aload_n (pc := 13) d_FileReader_readEntry_13 1 rfl rfl ?_
  refine pb_get (pc := 14) d_FileReader_readEntry_14 0 0 rfl rfl (by decide) in_FileReader k_306 rfl ?_
  refine pb_iload_n (pc := 17) d_FileReader_readEntry_17 2 rfl rfl ?_
  refine pb_bipush (pc := 18) (v := 20) d_FileReader_readEntry_18 (by decide) ?_
  refine pb_iadd (pc := 20) d_FileReader_readEntry_20 ?_
  refine pb_topi (fun i7 ei7 => ?_)
  try have ti7 : i7.toInt = x.toInt + 20 := t2_add ei7 rfl (by decide) (by omega)
  refine pb_callSN (pc := 21) (I := i_FileReader_readEntry) (nA := 2) (rest := []) (wr := [(h, .inr (7, [.ref b])), (sp, .inr (3, [.ref tn, .ref tz, .ref tb, .ref tg, .int c])), (tn, .inl (G.2.1, 384, .inl tfn)), (tz, .inl (G.2.2.1, 16, .inl tfz)), (tb, .inl (G.2.1, 12000, .inl tfb)), (tg, .inl (G.2.2.1, 17, .inl tfg)), (q, .inr (5, [.ref ex, .ref et, .ref ea, .ref eb, .ref ec, .ref ed, .ref ef, .ref er, .int at_, .int en, .int fl])), (ex, .inr (0, [.ref ey, .int xs])), (ey, .inl (G.2.1, 4000, .inl xf)), (et, .inl (G.2.2.1, 316, .inl tf)), (ea, .inr (1, [.ref ea1, .ref ea2, .int eas])), (ea1, .inl (G.2.2.1, 16, .inl eac)), (ea2, .inl (G.2.2.1, 288, .inl eay)), (eb, .inr (1, [.ref eb1, .ref eb2, .int ebs])), (eb1, .inl (G.2.2.1, 16, .inl ebc)), (eb2, .inl (G.2.2.1, 32, .inl eby)), (ef, .inr (1, [.ref ef1, .ref ef2, .int efs])), (ef1, .inl (G.2.2.1, 16, .inl efc)), (ef2, .inl (G.2.2.1, 19, .inl efy)), (ec, .inr (1, [.ref ec1, .ref ec2, .int ecs])), (ec1, .inl (G.2.2.1, 16, .inl ecc)), (ec2, .inl (G.2.2.1, 286, .inl ecy)), (ed, .inr (1, [.ref ed1, .ref ed2, .int eds])), (ed1, .inl (G.2.2.1, 16, .inl edc)), (ed2, .inl (G.2.2.1, 30, .inl edy))]) d_FileReader_readEntry_21 (g_fourAt hl G b N f i7 (by first | assumption | omega (splitDisjunctions := false) | omega | decide) (by first | assumption | omega (splitDisjunctions := false) | omega | decide) (by first | assumption | omega (splitDisjunctions := false) | omega | decide) F_f) [25] [0, 1, 2, 3, 4, 5, 6, 7, 8, 9, 10, 11, 12, 13, 14, 15, 16, 17, 18, 19, 20, 21, 22, 23, 24] (by decide) rfl rfl rfl (by decide) (by decide) k_594 rfl k_118 k_592 k_593 hy_Book_fourAt (by decide) rfl rfl (Nat.le_of_ble_eq_true rfl) (by decide) (fun v9 u9 ch8 => ?_)
  obtain ⟨r_10, rfl⟩ : ∃ z9, z9 = u9 := ⟨_, rfl⟩
  obtain ⟨ech8, ch8⟩ := ch8
  have ech8 : v9 = some (.long r_10) := ech8
  subst ech8
  obtain ⟨fh11, fh12⟩ : (0 ≤ r_10.toInt) ∧ (r_10.toInt < 4294967296) := ch8
  refine pb_eq (pc' := 24) (lo' := [(6, .long r_4), (0, .ref h), (1, .int x), (2, .long lm), (4, .ref sp), (5, .ref q)]) (rest' := [.long r_10]) (ws' := [(h, .inr (7, [.ref b])), (sp, .inr (3, [.ref tn, .ref tz, .ref tb, .ref tg, .int c])), (tn, .inl (G.2.1, 384, .inl tfn)), (tz, .inl (G.2.2.1, 16, .inl tfz)), (tb, .inl (G.2.1, 12000, .inl tfb)), (tg, .inl (G.2.2.1, 17, .inl tfg)), (q, .inr (5, [.ref ex, .ref et, .ref ea, .ref eb, .ref ec, .ref ed, .ref ef, .ref er, .int at_, .int en, .int fl])), (ex, .inr (0, [.ref ey, .int xs])), (ey, .inl (G.2.1, 4000, .inl xf)), (et, .inl (G.2.2.1, 316, .inl tf)), (ea, .inr (1, [.ref ea1, .ref ea2, .int eas])), (ea1, .inl (G.2.2.1, 16, .inl eac)), (ea2, .inl (G.2.2.1, 288, .inl eay)), (eb, .inr (1, [.ref eb1, .ref eb2, .int ebs])), (eb1, .inl (G.2.2.1, 16, .inl ebc)), (eb2, .inl (G.2.2.1, 32, .inl eby)), (ef, .inr (1, [.ref ef1, .ref ef2, .int efs])), (ef1, .inl (G.2.2.1, 16, .inl efc)), (ef2, .inl (G.2.2.1, 19, .inl efy)), (ec, .inr (1, [.ref ec1, .ref ec2, .int ecs])), (ec1, .inl (G.2.2.1, 16, .inl ecc)), (ec2, .inl (G.2.2.1, 286, .inl ecy)), (ed, .inr (1, [.ref ed1, .ref ed2, .int eds])), (ed1, .inl (G.2.2.1, 16, .inl edc)), (ed2, .inl (G.2.2.1, 30, .inl edy)), (b, .inl (G.2.1, N, .inl f))]) ?_
  refine pb_lstore (pc := 24) (lo' := [(8, .long r_10), (6, .long r_4), (0, .ref h), (1, .int x), (2, .long lm), (4, .ref sp), (5, .ref q)]) d_FileReader_readEntry_24 (by decide) rfl ?_
  refine pb_aload_n (pc := 26) d_FileReader_readEntry_26 2 rfl rfl ?_
  refine pb_get (pc := 27) d_FileReader_readEntry_27 0 0 rfl rfl (by decide) in_FileReader k_306 rfl ?_
  refine pb_iload_n (pc := 30) d_FileReader_readEntry_30 3 rfl rfl ?_
  refine pb_bipush (pc := 31) (v := 28) d_FileReader_readEntry_31 (by decide) ?_
  refine pb_iadd (pc := 33) d_FileReader_readEntry_33 ?_
  refine pb_topi (fun i13 ei13 => ?_)
  try have ti13 : i13.toInt = x.toInt + 28 := t2_add ei13 rfl (by decide) (by omega)
  refine pb_callSN (pc := 34) (I := i_FileReader_readEntry) (nA := 2) (rest := []) (wr := [(h, .inr (7, [.ref b])), (sp, .inr (3, [.ref tn, .ref tz, .ref tb, .ref tg, .int c])), (tn, .inl (G.2.1, 384, .inl tfn)), (tz, .inl (G.2.2.1, 16, .inl tfz)), (tb, .inl (G.2.1, 12000, .inl tfb)), (tg, .inl (G.2.2.1, 17, .inl tfg)), (q, .inr (5, [.ref ex, .ref et, .ref ea, .ref eb, .ref ec, .ref ed, .ref ef, .ref er, .int at_, .int en, .int fl])), (ex, .inr (0, [.ref ey, .int xs])), (ey, .inl (G.2.1, 4000, .inl xf)), (et, .inl (G.2.2.1, 316, .inl tf)), (ea, .inr (1, [.ref ea1, .ref ea2, .int eas])), (ea1, .inl (G.2.2.1, 16, .inl eac)), (ea2, .inl (G.2.2.1, 288, .inl eay)), (eb, .inr (1, [.ref eb1, .ref eb2, .int ebs])), (eb1, .inl (G.2.2.1, 16, .inl ebc)), (eb2, .inl (G.2.2.1, 32, .inl eby)), (ef, .inr (1, [.ref ef1, .ref ef2, .int efs])), (ef1, .inl (G.2.2.1, 16, .inl efc)), (ef2, .inl (G.2.2.1, 19, .inl efy)), (ec, .inr (1, [.ref ec1, .ref ec2, .int ecs])), (ec1, .inl (G.2.2.1, 16, .inl ecc)), (ec2, .inl (G.2.2.1, 286, .inl ecy)), (ed, .inr (1, [.ref ed1, .ref ed2, .int eds])), (ed1, .inl (G.2.2.1, 16, .inl edc)), (ed2, .inl (G.2.2.1, 30, .inl edy))]) d_FileReader_readEntry_34 (g_twoAt hl G b N f i13 (by first | assumption | omega (splitDisjunctions := false) | omega | decide) (by first | assumption | omega (splitDisjunctions := false) | omega | decide) (by first | assumption | omega (splitDisjunctions := false) | omega | decide) F_f) [25] [0, 1, 2, 3, 4, 5, 6, 7, 8, 9, 10, 11, 12, 13, 14, 15, 16, 17, 18, 19, 20, 21, 22, 23, 24] (by decide) rfl rfl rfl (by decide) (by decide) k_597 rfl k_118 k_599 k_596 hy_Book_twoAt (by decide) rfl rfl (Nat.le_of_ble_eq_true rfl) (by decide) (fun v9 u15 ch14 => ?_)
  obtain ⟨r_16, rfl⟩ : ∃ z9, z9 = u15 := ⟨_, rfl⟩
  obtain ⟨ech14, ch14⟩ := ch14
  have ech14 : v9 = some (.int r_16) := ech14
  subst ech14
  obtain ⟨fh17, fh18, fh19⟩ : (0 ≤ r_16.toInt) ∧ (r_16.toInt ≤ 65535) ∧ (r_16.toInt = tw f i13.toInt) := ch14
  rw [show i13.toInt = x.toInt + 28 by omega] at fh19
  refine pb_eq (pc' := 37) (lo' := [(8, .long r_10), (6, .long r_4), (0, .ref h), (1, .int x), (2, .long lm), (4, .ref sp), (5, .ref q)]) (rest' := [.int r_16]) (ws' := [(h, .inr (7, [.ref b])), (sp, .inr (3, [.ref tn, .ref tz, .ref tb, .ref tg, .int c])), (tn, .inl (G.2.1, 384, .inl tfn)), (tz, .inl (G.2.2.1, 16, .inl tfz)), (tb, .inl (G.2.1, 12000, .inl tfb)), (tg, .inl (G.2.2.1, 17, .inl tfg)), (q, .inr (5, [.ref ex, .ref et, .ref ea, .ref eb, .ref ec, .ref ed, .ref ef, .ref er, .int at_, .int en, .int fl])), (ex, .inr (0, [.ref ey, .int xs])), (ey, .inl (G.2.1, 4000, .inl xf)), (et, .inl (G.2.2.1, 316, .inl tf)), (ea, .inr (1, [.ref ea1, .ref ea2, .int eas])), (ea1, .inl (G.2.2.1, 16, .inl eac)), (ea2, .inl (G.2.2.1, 288, .inl eay)), (eb, .inr (1, [.ref eb1, .ref eb2, .int ebs])), (eb1, .inl (G.2.2.1, 16, .inl ebc)), (eb2, .inl (G.2.2.1, 32, .inl eby)), (ef, .inr (1, [.ref ef1, .ref ef2, .int efs])), (ef1, .inl (G.2.2.1, 16, .inl efc)), (ef2, .inl (G.2.2.1, 19, .inl efy)), (ec, .inr (1, [.ref ec1, .ref ec2, .int ecs])), (ec1, .inl (G.2.2.1, 16, .inl ecc)), (ec2, .inl (G.2.2.1, 286, .inl ecy)), (ed, .inr (1, [.ref ed1, .ref ed2, .int eds])), (ed1, .inl (G.2.2.1, 16, .inl edc)), (ed2, .inl (G.2.2.1, 30, .inl edy)), (b, .inl (G.2.1, N, .inl f))]) ?_
  refine pb_istore (pc := 37) (lo' := [(10, .int r_16), (8, .long r_10), (6, .long r_4), (0, .ref h), (1, .int x), (2, .long lm), (4, .ref sp), (5, .ref q)]) d_FileReader_readEntry_37 (by decide) rfl ?_
  refine pb_lload (pc := 39) d_FileReader_readEntry_39 2 rfl ?_
  refine pb_ldc2 (pc := 41) (v := 30) d_FileReader_readEntry_41 k_613 ?_
  refine pb_ladd (pc := 44) d_FileReader_readEntry_44 ?_
  refine pb_topl (fun j20 ej20 => ?_)
  try have tj20 : j20.toInt = r_4.toInt + 30 := tl_add ej20 rfl (by decide) (by omega) (by omega)
  refine pb_iload (pc := 45) d_FileReader_readEntry_45 0 rfl ?_
  refine pb_i2l (pc := 47) d_FileReader_readEntry_47 rfl ?_
  refine pb_topl (fun j21 ej21 => ?_)
  have tj21 : j21.toInt = r_16.toInt := tl_i2l ej21 rfl
  refine pb_ladd (pc := 48) d_FileReader_readEntry_48 ?_
  refine pb_topl (fun j22 ej22 => ?_)
  try have tj22 : j22.toInt = j20.toInt + j21.toInt := tl_add ej22 rfl rfl (by omega) (by omega)
  refine pb_lstore (pc := 49) (lo' := [(11, .long j22), (10, .int r_16), (8, .long r_10), (6, .long r_4), (0, .ref h), (1, .int x), (2, .long lm), (4, .ref sp), (5, .ref q)]) d_FileReader_readEntry_49 (by decide) rfl ?_
  refine pb_lload (pc := 51) d_FileReader_readEntry_51 0 rfl ?_
  refine pb_lload (pc := 53) d_FileReader_readEntry_53 2 rfl ?_
  refine pb_ladd (pc := 55) d_FileReader_readEntry_55 ?_
  refine pb_topl (fun j23 ej23 => ?_)
  try have tj23 : j23.toInt = j22.toInt + r_10.toInt := tl_add ej23 rfl rfl (by omega) (by omega)
  refine pb_lload_n (pc := 56) d_FileReader_readEntry_56 6 rfl rfl ?_
  refine pb_lcmp (pc := 57) d_FileReader_readEntry_57 ?_
  refine pb_topi (fun i24 ei24 => ?_)
  have ti24 : (i24.toInt < 0 ↔ j23.toInt < lm.toInt) ∧ (i24.toInt = 0 ↔ j23.toInt = lm.toInt) ∧ (0 < i24.toInt ↔ lm.toInt < j23.toInt) := tl_cmp ei24 rfl rfl
  refine pb_if_gt (pc := 58) (tgt := 74) d_FileReader_readEntry_58 (by decide) (fun w25 => ?_) (fun w25 => ?_)
  · have tw25 : 0 < i24.toInt := (ti_lt (by decide) rfl).mp w25
    refine pb_iconst (pc := 74) (v := 3) d_FileReader_readEntry_74 (by decide) ?_
    exact pb_iret (pc := 75) hQ d_FileReader_readEntry_75 rfl rfl (3, c, tfn, tfz, tfb, tfg, er, at_, en, fl, xs, xf, tf, efs, efc, efy, ecs, ecc, ecy, eds, edc, edy) ⟨rfl, (by (try dsimp only); first | done | assumption | decide | omega), (by (try dsimp only); first | done | assumption | omega (splitDisjunctions := false) | omega | decide), (by (try dsimp only); first | done | assumption | omega (splitDisjunctions := false) | omega | decide), (by (try dsimp only); first | done | assumption | decide | omega), (by (try dsimp only); first | done | assumption | omega (splitDisjunctions := false) | omega | decide), (by (try dsimp only); first | done | assumption | decide | omega), (by (try dsimp only); first | done | assumption | omega (splitDisjunctions := false) | omega | decide), (by (try dsimp only); first | done | assumption | decide | omega), (by (try dsimp only); first | done | assumption | omega (splitDisjunctions := false) | omega | decide), F_tfn, F_tfb, F_xf⟩ [0, 25, 1, 2, 3, 4, 5, 6, 7, 8, 9, 10, 11, 12, 13, 14, 15, 16, 17, 18, 19, 20, 21, 22, 23, 24] (by decide) rfl rfl (by decide) (by decide)
  · have tw25 : ¬ 0 < i24.toInt := fun z9 => w25 ((ti_lt (by decide) rfl).mpr z9)
    refine pb_aload_n (pc := 61) d_FileReader_readEntry_61 4 rfl rfl ?_
    refine pb_iload_n (pc := 62) d_FileReader_readEntry_62 5 rfl rfl ?_
    refine pb_lload (pc := 63) d_FileReader_readEntry_63 3 rfl ?_
    refine pb_l2i (pc := 65) d_FileReader_readEntry_65 rfl ?_
    refine pb_topi (fun i26 ei26 => ?_)
    try have ti26 : i26.toInt = r_4.toInt := ti_l2i ei26 rfl (by omega) (by omega)
    refine pb_iload (pc := 66) d_FileReader_readEntry_66 1 rfl ?_
    refine pb_callV (pc := 68) (I := i_FileReader_readEntry) (qb := 0) (ci := 7) (nA := 3) (rest := []) (wr := [(sp, .inr (3, [.ref tn, .ref tz, .ref tb, .ref tg, .int c])), (tn, .inl (G.2.1, 384, .inl tfn)), (tz, .inl (G.2.2.1, 16, .inl tfz)), (tb, .inl (G.2.1, 12000, .inl tfb)), (tg, .inl (G.2.2.1, 17, .inl tfg)), (q, .inr (5, [.ref ex, .ref et, .ref ea, .ref eb, .ref ec, .ref ed, .ref ef, .ref er, .int at_, .int en, .int fl])), (ex, .inr (0, [.ref ey, .int xs])), (ey, .inl (G.2.1, 4000, .inl xf)), (et, .inl (G.2.2.1, 316, .inl tf)), (ea, .inr (1, [.ref ea1, .ref ea2, .int eas])), (ea1, .inl (G.2.2.1, 16, .inl eac)), (ea2, .inl (G.2.2.1, 288, .inl eay)), (eb, .inr (1, [.ref eb1, .ref eb2, .int ebs])), (eb1, .inl (G.2.2.1, 16, .inl ebc)), (eb2, .inl (G.2.2.1, 32, .inl eby)), (ef, .inr (1, [.ref ef1, .ref ef2, .int efs])), (ef1, .inl (G.2.2.1, 16, .inl efc)), (ef2, .inl (G.2.2.1, 19, .inl efy)), (ec, .inr (1, [.ref ec1, .ref ec2, .int ecs])), (ec1, .inl (G.2.2.1, 16, .inl ecc)), (ec2, .inl (G.2.2.1, 286, .inl ecy)), (ed, .inr (1, [.ref ed1, .ref ed2, .int eds])), (ed1, .inl (G.2.2.1, 16, .inl edc)), (ed2, .inl (G.2.2.1, 30, .inl edy))]) d_FileReader_readEntry_68 (g_Rd_isRecordOf hl G h b N f x i26 r_16 (by first | assumption | omega (splitDisjunctions := false) | omega | decide) (by first | assumption | omega (splitDisjunctions := false) | omega | decide) (by first | assumption | omega (splitDisjunctions := false) | omega | decide) (by first | assumption | omega (splitDisjunctions := false) | omega | decide) (by first | assumption | omega (splitDisjunctions := false) | omega | decide) (by first | assumption | omega (splitDisjunctions := false) | omega | decide) F_f) rfl rfl [0, 25] [1, 2, 3, 4, 5, 6, 7, 8, 9, 10, 11, 12, 13, 14, 15, 16, 17, 18, 19, 20, 21, 22, 23, 24] (by decide) rfl rfl rfl (by decide) (by decide) k_617 rfl k_124 k_614 k_616 k_16 ⟨rfl, hy_FileReader_isRecordOf⟩ (by decide) rfl rfl (Nat.le_of_ble_eq_true rfl) (by decide) (fun v9 u28 ch27 => ?_)
    obtain ⟨r_29, rfl⟩ : ∃ z9, z9 = u28 := ⟨_, rfl⟩
    obtain ⟨ech27, ch27⟩ := ch27
    have ech27 : v9 = some (.int r_29) := ech27
    subst ech27
    have fh30 : r_29.toInt = 0 ∨ r_29.toInt = 1 := ch27
    refine pb_eq (pc' := 71) (lo' := [(11, .long j22), (10, .int r_16), (8, .long r_10), (6, .long r_4), (0, .ref h), (1, .int x), (2, .long lm), (4, .ref sp), (5, .ref q)]) (rest' := [.int r_29]) (ws' := [(sp, .inr (3, [.ref tn, .ref tz, .ref tb, .ref tg, .int c])), (tn, .inl (G.2.1, 384, .inl tfn)), (tz, .inl (G.2.2.1, 16, .inl tfz)), (tb, .inl (G.2.1, 12000, .inl tfb)), (tg, .inl (G.2.2.1, 17, .inl tfg)), (q, .inr (5, [.ref ex, .ref et, .ref ea, .ref eb, .ref ec, .ref ed, .ref ef, .ref er, .int at_, .int en, .int fl])), (ex, .inr (0, [.ref ey, .int xs])), (ey, .inl (G.2.1, 4000, .inl xf)), (et, .inl (G.2.2.1, 316, .inl tf)), (ea, .inr (1, [.ref ea1, .ref ea2, .int eas])), (ea1, .inl (G.2.2.1, 16, .inl eac)), (ea2, .inl (G.2.2.1, 288, .inl eay)), (eb, .inr (1, [.ref eb1, .ref eb2, .int ebs])), (eb1, .inl (G.2.2.1, 16, .inl ebc)), (eb2, .inl (G.2.2.1, 32, .inl eby)), (ef, .inr (1, [.ref ef1, .ref ef2, .int efs])), (ef1, .inl (G.2.2.1, 16, .inl efc)), (ef2, .inl (G.2.2.1, 19, .inl efy)), (ec, .inr (1, [.ref ec1, .ref ec2, .int ecs])), (ec1, .inl (G.2.2.1, 16, .inl ecc)), (ec2, .inl (G.2.2.1, 286, .inl ecy)), (ed, .inr (1, [.ref ed1, .ref ed2, .int eds])), (ed1, .inl (G.2.2.1, 16, .inl edc)), (ed2, .inl (G.2.2.1, 30, .inl edy)), (h, .inr (7, [.ref b])), (b, .inl (G.2.1, N, .inl f))]) ?_
    refine pb_if_ne (pc := 71) (tgt := 76) d_FileReader_readEntry_71 (by decide) (fun w31 => ?_) (fun w31 => ?_)
    · have tw31 : ¬ r_29.toInt = 0 := fun z9 => w31 ((ti_eq rfl (by decide)).mpr z9)
      refine pb_iload_n (pc := 76) d_FileReader_readEntry_76 5 rfl rfl ?_
      refine pb_bipush (pc := 77) (v := 46) d_FileReader_readEntry_77 (by decide) ?_
      refine pb_iadd (pc := 79) d_FileReader_readEntry_79 ?_
      refine pb_topi (fun i32 ei32 => ?_)
      try have ti32 : i32.toInt = x.toInt + 46 := t2_add ei32 rfl (by decide) (by omega)
      refine pb_istore (pc := 80) (lo' := [(13, .int i32), (11, .long j22), (10, .int r_16), (8, .long r_10), (6, .long r_4), (0, .ref h), (1, .int x), (2, .long lm), (4, .ref sp), (5, .ref q)]) d_FileReader_readEntry_80 (by decide) rfl ?_
      refine pb_aload_n (pc := 82) d_FileReader_readEntry_82 5 rfl rfl ?_
      refine pb_get (pc := 83) d_FileReader_readEntry_83 24 0 rfl rfl (by decide) in_FileReader k_306 rfl ?_
      refine pb_iload (pc := 86) d_FileReader_readEntry_86 0 rfl ?_
      refine pb_iload (pc := 88) d_FileReader_readEntry_88 2 rfl ?_
      refine pb_callSN (pc := 90) (I := i_FileReader_readEntry) (nA := 3) (rest := []) (wr := [(sp, .inr (3, [.ref tn, .ref tz, .ref tb, .ref tg, .int c])), (tn, .inl (G.2.1, 384, .inl tfn)), (tz, .inl (G.2.2.1, 16, .inl tfz)), (tb, .inl (G.2.1, 12000, .inl tfb)), (tg, .inl (G.2.2.1, 17, .inl tfg)), (q, .inr (5, [.ref ex, .ref et, .ref ea, .ref eb, .ref ec, .ref ed, .ref ef, .ref er, .int at_, .int en, .int fl])), (ex, .inr (0, [.ref ey, .int xs])), (ey, .inl (G.2.1, 4000, .inl xf)), (et, .inl (G.2.2.1, 316, .inl tf)), (ea, .inr (1, [.ref ea1, .ref ea2, .int eas])), (ea1, .inl (G.2.2.1, 16, .inl eac)), (ea2, .inl (G.2.2.1, 288, .inl eay)), (eb, .inr (1, [.ref eb1, .ref eb2, .int ebs])), (eb1, .inl (G.2.2.1, 16, .inl ebc)), (eb2, .inl (G.2.2.1, 32, .inl eby)), (ef, .inr (1, [.ref ef1, .ref ef2, .int efs])), (ef1, .inl (G.2.2.1, 16, .inl efc)), (ef2, .inl (G.2.2.1, 19, .inl efy)), (ec, .inr (1, [.ref ec1, .ref ec2, .int ecs])), (ec1, .inl (G.2.2.1, 16, .inl ecc)), (ec2, .inl (G.2.2.1, 286, .inl ecy)), (ed, .inr (1, [.ref ed1, .ref ed2, .int eds])), (ed1, .inl (G.2.2.1, 16, .inl edc)), (ed2, .inl (G.2.2.1, 30, .inl edy)), (h, .inr (7, [.ref b]))]) d_FileReader_readEntry_90 (g_isName hl G b N f i32 r_16 (by first | assumption | omega (splitDisjunctions := false) | omega | decide) (by first | assumption | omega (splitDisjunctions := false) | omega | decide) (by first | assumption | omega (splitDisjunctions := false) | omega | decide) (by first | assumption | omega (splitDisjunctions := false) | omega | decide) F_f) [25] [0, 1, 2, 3, 4, 5, 6, 7, 8, 9, 10, 11, 12, 13, 14, 15, 16, 17, 18, 19, 20, 21, 22, 23, 24] (by decide) rfl rfl rfl (by decide) (by decide) k_622 rfl k_118 k_620 k_621 hy_Book_isName (by decide) rfl rfl (Nat.le_of_ble_eq_true rfl) (by decide) (fun v9 u34 ch33 => ?_)
      obtain ⟨r_35, rfl⟩ : ∃ z9, z9 = u34 := ⟨_, rfl⟩
      obtain ⟨ech33, ch33⟩ := ch33
      have ech33 : v9 = some (.int r_35) := ech33
      subst ech33
      obtain ⟨fh36, fh37⟩ : (r_35.toInt = 0 ∨ r_35.toInt = 1) ∧ (r_35.toInt = 1 → 1 ≤ r_16.toInt ∧ r_16.toInt ≤ 24) := ch33
      refine pb_eq (pc' := 93) (lo' := [(13, .int i32), (11, .long j22), (10, .int r_16), (8, .long r_10), (6, .long r_4), (0, .ref h), (1, .int x), (2, .long lm), (4, .ref sp), (5, .ref q)]) (rest' := [.int r_35]) (ws' := [(sp, .inr (3, [.ref tn, .ref tz, .ref tb, .ref tg, .int c])), (tn, .inl (G.2.1, 384, .inl tfn)), (tz, .inl (G.2.2.1, 16, .inl tfz)), (tb, .inl (G.2.1, 12000, .inl tfb)), (tg, .inl (G.2.2.1, 17, .inl tfg)), (q, .inr (5, [.ref ex, .ref et, .ref ea, .ref eb, .ref ec, .ref ed, .ref ef, .ref er, .int at_, .int en, .int fl])), (ex, .inr (0, [.ref ey, .int xs])), (ey, .inl (G.2.1, 4000, .inl xf)), (et, .inl (G.2.2.1, 316, .inl tf)), (ea, .inr (1, [.ref ea1, .ref ea2, .int eas])), (ea1, .inl (G.2.2.1, 16, .inl eac)), (ea2, .inl (G.2.2.1, 288, .inl eay)), (eb, .inr (1, [.ref eb1, .ref eb2, .int ebs])), (eb1, .inl (G.2.2.1, 16, .inl ebc)), (eb2, .inl (G.2.2.1, 32, .inl eby)), (ef, .inr (1, [.ref ef1, .ref ef2, .int efs])), (ef1, .inl (G.2.2.1, 16, .inl efc)), (ef2, .inl (G.2.2.1, 19, .inl efy)), (ec, .inr (1, [.ref ec1, .ref ec2, .int ecs])), (ec1, .inl (G.2.2.1, 16, .inl ecc)), (ec2, .inl (G.2.2.1, 286, .inl ecy)), (ed, .inr (1, [.ref ed1, .ref ed2, .int eds])), (ed1, .inl (G.2.2.1, 16, .inl edc)), (ed2, .inl (G.2.2.1, 30, .inl edy)), (h, .inr (7, [.ref b])), (b, .inl (G.2.1, N, .inl f))]) ?_
      refine pb_if_eq (pc := 93) (tgt := 112) d_FileReader_readEntry_93 (by decide) (fun w38 => ?_) (fun w38 => ?_)
      · have tw38 : r_35.toInt = 0 := (ti_eq rfl (by decide)).mp w38
        refine pb_iconst (pc := 112) (v := 4) d_FileReader_readEntry_112 (by decide) ?_
        exact pb_iret (pc := 113) hQ d_FileReader_readEntry_113 rfl rfl (4, c, tfn, tfz, tfb, tfg, er, at_, en, fl, xs, xf, tf, efs, efc, efy, ecs, ecc, ecy, eds, edc, edy) ⟨rfl, (by (try dsimp only); first | done | assumption | decide | omega), (by (try dsimp only); first | done | assumption | omega (splitDisjunctions := false) | omega | decide), (by (try dsimp only); first | done | assumption | omega (splitDisjunctions := false) | omega | decide), (by (try dsimp only); first | done | assumption | decide | omega), (by (try dsimp only); first | done | assumption | omega (splitDisjunctions := false) | omega | decide), (by (try dsimp only); first | done | assumption | decide | omega), (by (try dsimp only); first | done | assumption | omega (splitDisjunctions := false) | omega | decide), (by (try dsimp only); first | done | assumption | decide | omega), (by (try dsimp only); first | done | assumption | omega (splitDisjunctions := false) | omega | decide), F_tfn, F_tfb, F_xf⟩ [24, 25, 0, 1, 2, 3, 4, 5, 6, 7, 8, 9, 10, 11, 12, 13, 14, 15, 16, 17, 18, 19, 20, 21, 22, 23] (by decide) rfl rfl (by decide) (by decide)
      · have tw38 : ¬ r_35.toInt = 0 := fun z9 => w38 ((ti_eq rfl (by decide)).mpr z9)
        refine pb_aload (pc := 96) d_FileReader_readEntry_96 8 rfl ?_
        refine pb_aload_n (pc := 98) d_FileReader_readEntry_98 5 rfl rfl ?_
        refine pb_get (pc := 99) d_FileReader_readEntry_99 24 0 rfl rfl (by decide) in_FileReader k_306 rfl ?_
        refine pb_iload (pc := 102) d_FileReader_readEntry_102 0 rfl ?_
        refine pb_iload (pc := 104) d_FileReader_readEntry_104 2 rfl ?_
        refine pb_callV (pc := 106) (I := i_FileReader_readEntry) (qb := 0) (ci := 3) (nA := 3) (rest := []) (wr := [(tb, .inl (G.2.1, 12000, .inl tfb)), (tg, .inl (G.2.2.1, 17, .inl tfg)), (q, .inr (5, [.ref ex, .ref et, .ref ea, .ref eb, .ref ec, .ref ed, .ref ef, .ref er, .int at_, .int en, .int fl])), (ex, .inr (0, [.ref ey, .int xs])), (ey, .inl (G.2.1, 4000, .inl xf)), (et, .inl (G.2.2.1, 316, .inl tf)), (ea, .inr (1, [.ref ea1, .ref ea2, .int eas])), (ea1, .inl (G.2.2.1, 16, .inl eac)), (ea2, .inl (G.2.2.1, 288, .inl eay)), (eb, .inr (1, [.ref eb1, .ref eb2, .int ebs])), (eb1, .inl (G.2.2.1, 16, .inl ebc)), (eb2, .inl (G.2.2.1, 32, .inl eby)), (ef, .inr (1, [.ref ef1, .ref ef2, .int efs])), (ef1, .inl (G.2.2.1, 16, .inl efc)), (ef2, .inl (G.2.2.1, 19, .inl efy)), (ec, .inr (1, [.ref ec1, .ref ec2, .int ecs])), (ec1, .inl (G.2.2.1, 16, .inl ecc)), (ec2, .inl (G.2.2.1, 286, .inl ecy)), (ed, .inr (1, [.ref ed1, .ref ed2, .int eds])), (ed1, .inl (G.2.2.1, 16, .inl edc)), (ed2, .inl (G.2.2.1, 30, .inl edy)), (h, .inr (7, [.ref b]))]) d_FileReader_readEntry_106 (g_Shelf_find hl G sp tn tz tb tg c tfn tfz b N f tfg i32 r_16 (by first | assumption | decide | omega) (by first | assumption | omega (splitDisjunctions := false) | omega | decide) (by first | assumption | omega (splitDisjunctions := false) | omega | decide) (by first | assumption | omega (splitDisjunctions := false) | omega | decide) F_tfn F_f) rfl rfl [0, 1, 2, 25] [3, 4, 5, 6, 7, 8, 9, 10, 11, 12, 13, 14, 15, 16, 17, 18, 19, 20, 21, 22, 23, 24] (by decide) rfl rfl rfl (by decide) (by decide) k_462 rfl k_127 k_626 k_460 k_461 ⟨rfl, hy_Shelf_find⟩ (by decide) rfl rfl (Nat.le_of_ble_eq_true rfl) (by decide) (fun v9 u40 ch39 => ?_)
        obtain ⟨r_41, rfl⟩ : ∃ z9, z9 = u40 := ⟨_, rfl⟩
        obtain ⟨ech39, ch39⟩ := ch39
        have ech39 : v9 = some (.int r_41) := ech39
        subst ech39
        obtain ⟨fh42, fh43⟩ : (-1 ≤ r_41.toInt) ∧ (r_41.toInt < c.toInt) := ch39
        refine pb_eq (pc' := 109) (lo' := [(13, .int i32), (11, .long j22), (10, .int r_16), (8, .long r_10), (6, .long r_4), (0, .ref h), (1, .int x), (2, .long lm), (4, .ref sp), (5, .ref q)]) (rest' := [.int r_41]) (ws' := [(tb, .inl (G.2.1, 12000, .inl tfb)), (tg, .inl (G.2.2.1, 17, .inl tfg)), (q, .inr (5, [.ref ex, .ref et, .ref ea, .ref eb, .ref ec, .ref ed, .ref ef, .ref er, .int at_, .int en, .int fl])), (ex, .inr (0, [.ref ey, .int xs])), (ey, .inl (G.2.1, 4000, .inl xf)), (et, .inl (G.2.2.1, 316, .inl tf)), (ea, .inr (1, [.ref ea1, .ref ea2, .int eas])), (ea1, .inl (G.2.2.1, 16, .inl eac)), (ea2, .inl (G.2.2.1, 288, .inl eay)), (eb, .inr (1, [.ref eb1, .ref eb2, .int ebs])), (eb1, .inl (G.2.2.1, 16, .inl ebc)), (eb2, .inl (G.2.2.1, 32, .inl eby)), (ef, .inr (1, [.ref ef1, .ref ef2, .int efs])), (ef1, .inl (G.2.2.1, 16, .inl efc)), (ef2, .inl (G.2.2.1, 19, .inl efy)), (ec, .inr (1, [.ref ec1, .ref ec2, .int ecs])), (ec1, .inl (G.2.2.1, 16, .inl ecc)), (ec2, .inl (G.2.2.1, 286, .inl ecy)), (ed, .inr (1, [.ref ed1, .ref ed2, .int eds])), (ed1, .inl (G.2.2.1, 16, .inl edc)), (ed2, .inl (G.2.2.1, 30, .inl edy)), (h, .inr (7, [.ref b])), (sp, .inr (3, [.ref tn, .ref tz, .ref tb, .ref tg, .int c])), (tn, .inl (G.2.1, 384, .inl tfn)), (tz, .inl (G.2.2.1, 16, .inl tfz)), (b, .inl (G.2.1, N, .inl f))]) ?_
        refine pb_if_lt (pc := 109) (tgt := 114) d_FileReader_readEntry_109 (by decide) (fun w44 => ?_) (fun w44 => ?_)
        · have tw44 : r_41.toInt < 0 := (ti_lt rfl (by decide)).mp w44
          refine pb_aload_n (pc := 114) d_FileReader_readEntry_114 5 rfl rfl ?_
          refine pb_get (pc := 115) d_FileReader_readEntry_115 21 0 rfl rfl (by decide) in_FileReader k_306 rfl ?_
          refine pb_iload_n (pc := 118) d_FileReader_readEntry_118 6 rfl rfl ?_
          refine pb_bipush (pc := 119) (v := 10) d_FileReader_readEntry_119 (by decide) ?_
          refine pb_iadd (pc := 121) d_FileReader_readEntry_121 ?_
          refine pb_topi (fun i45 ei45 => ?_)
          try have ti45 : i45.toInt = x.toInt + 10 := t2_add ei45 rfl (by decide) (by omega)
          refine pb_callSN (pc := 122) (I := i_FileReader_readEntry) (nA := 2) (rest := []) (wr := [(tb, .inl (G.2.1, 12000, .inl tfb)), (tg, .inl (G.2.2.1, 17, .inl tfg)), (q, .inr (5, [.ref ex, .ref et, .ref ea, .ref eb, .ref ec, .ref ed, .ref ef, .ref er, .int at_, .int en, .int fl])), (ex, .inr (0, [.ref ey, .int xs])), (ey, .inl (G.2.1, 4000, .inl xf)), (et, .inl (G.2.2.1, 316, .inl tf)), (ea, .inr (1, [.ref ea1, .ref ea2, .int eas])), (ea1, .inl (G.2.2.1, 16, .inl eac)), (ea2, .inl (G.2.2.1, 288, .inl eay)), (eb, .inr (1, [.ref eb1, .ref eb2, .int ebs])), (eb1, .inl (G.2.2.1, 16, .inl ebc)), (eb2, .inl (G.2.2.1, 32, .inl eby)), (ef, .inr (1, [.ref ef1, .ref ef2, .int efs])), (ef1, .inl (G.2.2.1, 16, .inl efc)), (ef2, .inl (G.2.2.1, 19, .inl efy)), (ec, .inr (1, [.ref ec1, .ref ec2, .int ecs])), (ec1, .inl (G.2.2.1, 16, .inl ecc)), (ec2, .inl (G.2.2.1, 286, .inl ecy)), (ed, .inr (1, [.ref ed1, .ref ed2, .int eds])), (ed1, .inl (G.2.2.1, 16, .inl edc)), (ed2, .inl (G.2.2.1, 30, .inl edy)), (h, .inr (7, [.ref b])), (sp, .inr (3, [.ref tn, .ref tz, .ref tb, .ref tg, .int c])), (tn, .inl (G.2.1, 384, .inl tfn)), (tz, .inl (G.2.2.1, 16, .inl tfz))]) d_FileReader_readEntry_122 (g_twoAt hl G b N f i45 (by first | assumption | omega (splitDisjunctions := false) | omega | decide) (by first | assumption | omega (splitDisjunctions := false) | omega | decide) (by first | assumption | omega (splitDisjunctions := false) | omega | decide) F_f) [25] [0, 1, 2, 3, 4, 5, 6, 7, 8, 9, 10, 11, 12, 13, 14, 15, 16, 17, 18, 19, 20, 21, 22, 23, 24] (by decide) rfl rfl rfl (by decide) (by decide) k_597 rfl k_118 k_599 k_596 hy_Book_twoAt (by decide) rfl rfl (Nat.le_of_ble_eq_true rfl) (by decide) (fun v9 u47 ch46 => ?_)
          obtain ⟨r_48, rfl⟩ : ∃ z9, z9 = u47 := ⟨_, rfl⟩
          obtain ⟨ech46, ch46⟩ := ch46
          have ech46 : v9 = some (.int r_48) := ech46
          subst ech46
          obtain ⟨fh49, fh50, fh51⟩ : (0 ≤ r_48.toInt) ∧ (r_48.toInt ≤ 65535) ∧ (r_48.toInt = tw f i45.toInt) := ch46
          refine pb_eq (pc' := 125) (lo' := [(13, .int i32), (11, .long j22), (10, .int r_16), (8, .long r_10), (6, .long r_4), (0, .ref h), (1, .int x), (2, .long lm), (4, .ref sp), (5, .ref q)]) (rest' := [.int r_48]) (ws' := [(tb, .inl (G.2.1, 12000, .inl tfb)), (tg, .inl (G.2.2.1, 17, .inl tfg)), (q, .inr (5, [.ref ex, .ref et, .ref ea, .ref eb, .ref ec, .ref ed, .ref ef, .ref er, .int at_, .int en, .int fl])), (ex, .inr (0, [.ref ey, .int xs])), (ey, .inl (G.2.1, 4000, .inl xf)), (et, .inl (G.2.2.1, 316, .inl tf)), (ea, .inr (1, [.ref ea1, .ref ea2, .int eas])), (ea1, .inl (G.2.2.1, 16, .inl eac)), (ea2, .inl (G.2.2.1, 288, .inl eay)), (eb, .inr (1, [.ref eb1, .ref eb2, .int ebs])), (eb1, .inl (G.2.2.1, 16, .inl ebc)), (eb2, .inl (G.2.2.1, 32, .inl eby)), (ef, .inr (1, [.ref ef1, .ref ef2, .int efs])), (ef1, .inl (G.2.2.1, 16, .inl efc)), (ef2, .inl (G.2.2.1, 19, .inl efy)), (ec, .inr (1, [.ref ec1, .ref ec2, .int ecs])), (ec1, .inl (G.2.2.1, 16, .inl ecc)), (ec2, .inl (G.2.2.1, 286, .inl ecy)), (ed, .inr (1, [.ref ed1, .ref ed2, .int eds])), (ed1, .inl (G.2.2.1, 16, .inl edc)), (ed2, .inl (G.2.2.1, 30, .inl edy)), (h, .inr (7, [.ref b])), (sp, .inr (3, [.ref tn, .ref tz, .ref tb, .ref tg, .int c])), (tn, .inl (G.2.1, 384, .inl tfn)), (tz, .inl (G.2.2.1, 16, .inl tfz)), (b, .inl (G.2.1, N, .inl f))]) ?_
          refine pb_bipush (pc := 125) (v := 8) d_FileReader_readEntry_125 (by decide) ?_
          refine pb_icmp_ne (pc := 127) (tgt := 134) d_FileReader_readEntry_127 (by decide) (fun w52 => ?_) (fun w52 => ?_)
          · have tw52 : ¬ r_48.toInt = 8 := fun z9 => w52 ((ti_eq rfl (by decide)).mpr z9)
            refine pb_iconst (pc := 134) (v := 0) d_FileReader_readEntry_134 (by decide) ?_
            refine pb_istore (pc := 135) (lo' := [(14, .int 0), (13, .int i32), (11, .long j22), (10, .int r_16), (8, .long r_10), (6, .long r_4), (0, .ref h), (1, .int x), (2, .long lm), (4, .ref sp), (5, .ref q)]) d_FileReader_readEntry_135 (by decide) rfl ?_
            refine pb_iload (pc := 137) d_FileReader_readEntry_137 0 rfl ?_
            refine pb_if_eq (pc := 139) (tgt := 160) d_FileReader_readEntry_139 (by decide) (fun _ => ?_) (fun h9 => absurd h9 (by decide))
            refine pb_lload (pc := 160) d_FileReader_readEntry_160 4 rfl ?_
            refine pb_l2i (pc := 162) d_FileReader_readEntry_162 rfl ?_
            refine pb_topi (fun i54 ei54 => ?_)
            try have ti54 : i54.toInt = r_10.toInt := ti_l2i ei54 rfl (by omega) (by omega)
            refine pb_istore (pc := 163) (lo' := [(15, .int i54), (14, .int 0), (13, .int i32), (11, .long j22), (10, .int r_16), (8, .long r_10), (6, .long r_4), (0, .ref h), (1, .int x), (2, .long lm), (4, .ref sp), (5, .ref q)]) d_FileReader_readEntry_163 (by decide) rfl ?_
            refine pb_iload (pc := 165) d_FileReader_readEntry_165 1 rfl ?_
            refine pb_if_eq (pc := 167) (tgt := 181) d_FileReader_readEntry_167 (by decide) (fun _ => ?_) (fun h9 => absurd h9 (by decide))
            refine pb_aload_n (pc := 181) d_FileReader_readEntry_181 7 rfl rfl ?_
            refine pb_get (pc := 182) d_FileReader_readEntry_182 21 0 rfl rfl (by decide) in_FileReader k_306 rfl ?_
            refine pb_astore (pc := 185) (lo' := [(16, .ref b), (15, .int i54), (14, .int 0), (13, .int i32), (11, .long j22), (10, .int r_16), (8, .long r_10), (6, .long r_4), (0, .ref h), (1, .int x), (2, .long lm), (4, .ref sp), (5, .ref q)]) d_FileReader_readEntry_185 (by decide) rfl ?_
            refine pb_iload (pc := 187) d_FileReader_readEntry_187 2 rfl ?_
            refine pb_if_eq (pc := 189) (tgt := 196) d_FileReader_readEntry_189 (by decide) (fun _ => ?_) (fun h9 => absurd h9 (by decide))
            refine pb_lload (pc := 196) d_FileReader_readEntry_196 4 rfl ?_
            refine pb_l2i (pc := 198) d_FileReader_readEntry_198 rfl ?_
            refine pb_topi (fun i57 ei57 => ?_)
            try have ti57 : i57.toInt = j22.toInt := ti_l2i ei57 rfl (by omega) (by omega)
            refine pb_istore (pc := 199) (lo' := [(17, .int i57), (16, .ref b), (15, .int i54), (14, .int 0), (13, .int i32), (11, .long j22), (10, .int r_16), (8, .long r_10), (6, .long r_4), (0, .ref h), (1, .int x), (2, .long lm), (4, .ref sp), (5, .ref q)]) d_FileReader_readEntry_199 (by decide) rfl ?_
            refine pb_iload (pc := 201) d_FileReader_readEntry_201 2 rfl ?_
            refine pb_i2l (pc := 203) d_FileReader_readEntry_203 rfl ?_
            refine pb_topl (fun j58 ej58 => ?_)
            have tj58 : j58.toInt = i54.toInt := tl_i2l ej58 rfl
            refine pb_aload_n (pc := 204) d_FileReader_readEntry_204 9 rfl rfl ?_
            refine pb_get (pc := 205) d_FileReader_readEntry_205 21 0 rfl rfl (by decide) in_FileReader k_306 rfl ?_
            refine pb_iload_n (pc := 208) d_FileReader_readEntry_208 10 rfl rfl ?_
            refine pb_bipush (pc := 209) (v := 24) d_FileReader_readEntry_209 (by decide) ?_
            refine pb_iadd (pc := 211) d_FileReader_readEntry_211 ?_
            refine pb_topi (fun i59 ei59 => ?_)
            try have ti59 : i59.toInt = x.toInt + 24 := t2_add ei59 rfl (by decide) (by omega)
            refine pb_callSN (pc := 212) (I := i_FileReader_readEntry) (nA := 2) (rest := [.long j58]) (wr := [(tb, .inl (G.2.1, 12000, .inl tfb)), (tg, .inl (G.2.2.1, 17, .inl tfg)), (q, .inr (5, [.ref ex, .ref et, .ref ea, .ref eb, .ref ec, .ref ed, .ref ef, .ref er, .int at_, .int en, .int fl])), (ex, .inr (0, [.ref ey, .int xs])), (ey, .inl (G.2.1, 4000, .inl xf)), (et, .inl (G.2.2.1, 316, .inl tf)), (ea, .inr (1, [.ref ea1, .ref ea2, .int eas])), (ea1, .inl (G.2.2.1, 16, .inl eac)), (ea2, .inl (G.2.2.1, 288, .inl eay)), (eb, .inr (1, [.ref eb1, .ref eb2, .int ebs])), (eb1, .inl (G.2.2.1, 16, .inl ebc)), (eb2, .inl (G.2.2.1, 32, .inl eby)), (ef, .inr (1, [.ref ef1, .ref ef2, .int efs])), (ef1, .inl (G.2.2.1, 16, .inl efc)), (ef2, .inl (G.2.2.1, 19, .inl efy)), (ec, .inr (1, [.ref ec1, .ref ec2, .int ecs])), (ec1, .inl (G.2.2.1, 16, .inl ecc)), (ec2, .inl (G.2.2.1, 286, .inl ecy)), (ed, .inr (1, [.ref ed1, .ref ed2, .int eds])), (ed1, .inl (G.2.2.1, 16, .inl edc)), (ed2, .inl (G.2.2.1, 30, .inl edy)), (h, .inr (7, [.ref b])), (sp, .inr (3, [.ref tn, .ref tz, .ref tb, .ref tg, .int c])), (tn, .inl (G.2.1, 384, .inl tfn)), (tz, .inl (G.2.2.1, 16, .inl tfz))]) d_FileReader_readEntry_212 (g_fourAt hl G b N f i59 (by first | assumption | omega (splitDisjunctions := false) | omega | decide) (by first | assumption | omega (splitDisjunctions := false) | omega | decide) (by first | assumption | omega (splitDisjunctions := false) | omega | decide) F_f) [25] [0, 1, 2, 3, 4, 5, 6, 7, 8, 9, 10, 11, 12, 13, 14, 15, 16, 17, 18, 19, 20, 21, 22, 23, 24] (by decide) rfl rfl rfl (by decide) (by decide) k_594 rfl k_118 k_592 k_593 hy_Book_fourAt (by decide) rfl rfl (Nat.le_of_ble_eq_true rfl) (by decide) (fun v9 u61 ch60 => ?_)
            obtain ⟨r_62, rfl⟩ : ∃ z9, z9 = u61 := ⟨_, rfl⟩
            obtain ⟨ech60, ch60⟩ := ch60
            have ech60 : v9 = some (.long r_62) := ech60
            subst ech60
            obtain ⟨fh63, fh64⟩ : (0 ≤ r_62.toInt) ∧ (r_62.toInt < 4294967296) := ch60
            refine pb_eq (pc' := 215) (lo' := [(17, .int i57), (16, .ref b), (15, .int i54), (14, .int 0), (13, .int i32), (11, .long j22), (10, .int r_16), (8, .long r_10), (6, .long r_4), (0, .ref h), (1, .int x), (2, .long lm), (4, .ref sp), (5, .ref q)]) (rest' := [.long r_62, .long j58]) (ws' := [(tb, .inl (G.2.1, 12000, .inl tfb)), (tg, .inl (G.2.2.1, 17, .inl tfg)), (q, .inr (5, [.ref ex, .ref et, .ref ea, .ref eb, .ref ec, .ref ed, .ref ef, .ref er, .int at_, .int en, .int fl])), (ex, .inr (0, [.ref ey, .int xs])), (ey, .inl (G.2.1, 4000, .inl xf)), (et, .inl (G.2.2.1, 316, .inl tf)), (ea, .inr (1, [.ref ea1, .ref ea2, .int eas])), (ea1, .inl (G.2.2.1, 16, .inl eac)), (ea2, .inl (G.2.2.1, 288, .inl eay)), (eb, .inr (1, [.ref eb1, .ref eb2, .int ebs])), (eb1, .inl (G.2.2.1, 16, .inl ebc)), (eb2, .inl (G.2.2.1, 32, .inl eby)), (ef, .inr (1, [.ref ef1, .ref ef2, .int efs])), (ef1, .inl (G.2.2.1, 16, .inl efc)), (ef2, .inl (G.2.2.1, 19, .inl efy)), (ec, .inr (1, [.ref ec1, .ref ec2, .int ecs])), (ec1, .inl (G.2.2.1, 16, .inl ecc)), (ec2, .inl (G.2.2.1, 286, .inl ecy)), (ed, .inr (1, [.ref ed1, .ref ed2, .int eds])), (ed1, .inl (G.2.2.1, 16, .inl edc)), (ed2, .inl (G.2.2.1, 30, .inl edy)), (h, .inr (7, [.ref b])), (sp, .inr (3, [.ref tn, .ref tz, .ref tb, .ref tg, .int c])), (tn, .inl (G.2.1, 384, .inl tfn)), (tz, .inl (G.2.2.1, 16, .inl tfz)), (b, .inl (G.2.1, N, .inl f))]) ?_
            refine pb_lcmp (pc := 215) d_FileReader_readEntry_215 ?_
            refine pb_topi (fun i65 ei65 => ?_)
            have ti65 : (i65.toInt < 0 ↔ j58.toInt < r_62.toInt) ∧ (i65.toInt = 0 ↔ j58.toInt = r_62.toInt) ∧ (0 < i65.toInt ↔ r_62.toInt < j58.toInt) := tl_cmp ei65 rfl rfl
            refine pb_if_ne (pc := 216) (tgt := 243) d_FileReader_readEntry_216 (by decide) (fun w66 => ?_) (fun w66 => ?_)
            · have tw66 : ¬ i65.toInt = 0 := fun z9 => w66 ((ti_eq rfl (by decide)).mpr z9)
              refine pb_iconst (pc := 243) (v := 5) d_FileReader_readEntry_243 (by decide) ?_
              exact pb_iret (pc := 244) hQ d_FileReader_readEntry_244 rfl rfl (5, c, tfn, tfz, tfb, tfg, er, at_, en, fl, xs, xf, tf, efs, efc, efy, ecs, ecc, ecy, eds, edc, edy) ⟨rfl, (by (try dsimp only); first | done | assumption | decide | omega), (by (try dsimp only); first | done | assumption | omega (splitDisjunctions := false) | omega | decide), (by (try dsimp only); first | done | assumption | omega (splitDisjunctions := false) | omega | decide), (by (try dsimp only); first | done | assumption | decide | omega), (by (try dsimp only); first | done | assumption | omega (splitDisjunctions := false) | omega | decide), (by (try dsimp only); first | done | assumption | decide | omega), (by (try dsimp only); first | done | assumption | omega (splitDisjunctions := false) | omega | decide), (by (try dsimp only); first | done | assumption | decide | omega), (by (try dsimp only); first | done | assumption | omega (splitDisjunctions := false) | omega | decide), F_tfn, F_tfb, F_xf⟩ [21, 25, 22, 23, 24, 0, 1, 2, 3, 4, 5, 6, 7, 8, 9, 10, 11, 12, 13, 14, 15, 16, 17, 18, 19, 20] (by decide) rfl rfl (by decide) (by decide)
            · have tw66 : i65.toInt = 0 := (ti_eq rfl (by decide)).mp w66
              refine pb_aload (pc := 219) d_FileReader_readEntry_219 1 rfl ?_
              refine pb_iload (pc := 221) d_FileReader_readEntry_221 0 rfl ?_
              refine pb_iload (pc := 223) d_FileReader_readEntry_223 2 rfl ?_
              refine pb_callSN (pc := 225) (I := i_FileReader_readEntry) (nA := 3) (rest := []) (wr := [(tb, .inl (G.2.1, 12000, .inl tfb)), (tg, .inl (G.2.2.1, 17, .inl tfg)), (q, .inr (5, [.ref ex, .ref et, .ref ea, .ref eb, .ref ec, .ref ed, .ref ef, .ref er, .int at_, .int en, .int fl])), (ex, .inr (0, [.ref ey, .int xs])), (ey, .inl (G.2.1, 4000, .inl xf)), (et, .inl (G.2.2.1, 316, .inl tf)), (ea, .inr (1, [.ref ea1, .ref ea2, .int eas])), (ea1, .inl (G.2.2.1, 16, .inl eac)), (ea2, .inl (G.2.2.1, 288, .inl eay)), (eb, .inr (1, [.ref eb1, .ref eb2, .int ebs])), (eb1, .inl (G.2.2.1, 16, .inl ebc)), (eb2, .inl (G.2.2.1, 32, .inl eby)), (ef, .inr (1, [.ref ef1, .ref ef2, .int efs])), (ef1, .inl (G.2.2.1, 16, .inl efc)), (ef2, .inl (G.2.2.1, 19, .inl efy)), (ec, .inr (1, [.ref ec1, .ref ec2, .int ecs])), (ec1, .inl (G.2.2.1, 16, .inl ecc)), (ec2, .inl (G.2.2.1, 286, .inl ecy)), (ed, .inr (1, [.ref ed1, .ref ed2, .int eds])), (ed1, .inl (G.2.2.1, 16, .inl edc)), (ed2, .inl (G.2.2.1, 30, .inl edy)), (h, .inr (7, [.ref b])), (sp, .inr (3, [.ref tn, .ref tz, .ref tb, .ref tg, .int c])), (tn, .inl (G.2.1, 384, .inl tfn)), (tz, .inl (G.2.2.1, 16, .inl tfz))]) d_FileReader_readEntry_225 (g_sumOf hl G b N f i57 i54 (by first | assumption | omega (splitDisjunctions := false) | omega | decide) (by first | assumption | omega (splitDisjunctions := false) | omega | decide) (by first | assumption | omega (splitDisjunctions := false) | omega | decide) (by first | assumption | omega (splitDisjunctions := false) | omega | decide) F_f) [25] [0, 1, 2, 3, 4, 5, 6, 7, 8, 9, 10, 11, 12, 13, 14, 15, 16, 17, 18, 19, 20, 21, 22, 23, 24] (by decide) rfl rfl rfl (by decide) (by decide) k_559 rfl k_118 k_692 k_558 hy_Book_sumOf (by decide) rfl rfl (Nat.le_of_ble_eq_true rfl) (by decide) (fun v9 u68 ch67 => ?_)
              obtain ⟨r_69, rfl⟩ : ∃ z9, z9 = u68 := ⟨_, rfl⟩
              obtain ⟨ech67, ch67⟩ := ch67
              have ech67 : v9 = some (.int r_69) := ech67
              subst ech67
              have fh70 : r_69 = cr_n f i57.toInt i54.toInt.toNat ^^^ (-1) := ch67
              refine pb_eq (pc' := 228) (lo' := [(17, .int i57), (16, .ref b), (15, .int i54), (14, .int 0), (13, .int i32), (11, .long j22), (10, .int r_16), (8, .long r_10), (6, .long r_4), (0, .ref h), (1, .int x), (2, .long lm), (4, .ref sp), (5, .ref q)]) (rest' := [.int r_69]) (ws' := [(tb, .inl (G.2.1, 12000, .inl tfb)), (tg, .inl (G.2.2.1, 17, .inl tfg)), (q, .inr (5, [.ref ex, .ref et, .ref ea, .ref eb, .ref ec, .ref ed, .ref ef, .ref er, .int at_, .int en, .int fl])), (ex, .inr (0, [.ref ey, .int xs])), (ey, .inl (G.2.1, 4000, .inl xf)), (et, .inl (G.2.2.1, 316, .inl tf)), (ea, .inr (1, [.ref ea1, .ref ea2, .int eas])), (ea1, .inl (G.2.2.1, 16, .inl eac)), (ea2, .inl (G.2.2.1, 288, .inl eay)), (eb, .inr (1, [.ref eb1, .ref eb2, .int ebs])), (eb1, .inl (G.2.2.1, 16, .inl ebc)), (eb2, .inl (G.2.2.1, 32, .inl eby)), (ef, .inr (1, [.ref ef1, .ref ef2, .int efs])), (ef1, .inl (G.2.2.1, 16, .inl efc)), (ef2, .inl (G.2.2.1, 19, .inl efy)), (ec, .inr (1, [.ref ec1, .ref ec2, .int ecs])), (ec1, .inl (G.2.2.1, 16, .inl ecc)), (ec2, .inl (G.2.2.1, 286, .inl ecy)), (ed, .inr (1, [.ref ed1, .ref ed2, .int eds])), (ed1, .inl (G.2.2.1, 16, .inl edc)), (ed2, .inl (G.2.2.1, 30, .inl edy)), (h, .inr (7, [.ref b])), (sp, .inr (3, [.ref tn, .ref tz, .ref tb, .ref tg, .int c])), (tn, .inl (G.2.1, 384, .inl tfn)), (tz, .inl (G.2.2.1, 16, .inl tfz)), (b, .inl (G.2.1, N, .inl f))]) ?_
              refine pb_aload_n (pc := 228) d_FileReader_readEntry_228 9 rfl rfl ?_
              refine pb_get (pc := 229) d_FileReader_readEntry_229 21 0 rfl rfl (by decide) in_FileReader k_306 rfl ?_
              refine pb_iload_n (pc := 232) d_FileReader_readEntry_232 10 rfl rfl ?_
              refine pb_bipush (pc := 233) (v := 16) d_FileReader_readEntry_233 (by decide) ?_
              refine pb_iadd (pc := 235) d_FileReader_readEntry_235 ?_
              refine pb_topi (fun i71 ei71 => ?_)
              try have ti71 : i71.toInt = x.toInt + 16 := t2_add ei71 rfl (by decide) (by omega)
              refine pb_callSN (pc := 236) (I := i_FileReader_readEntry) (nA := 2) (rest := [.int r_69]) (wr := [(tb, .inl (G.2.1, 12000, .inl tfb)), (tg, .inl (G.2.2.1, 17, .inl tfg)), (q, .inr (5, [.ref ex, .ref et, .ref ea, .ref eb, .ref ec, .ref ed, .ref ef, .ref er, .int at_, .int en, .int fl])), (ex, .inr (0, [.ref ey, .int xs])), (ey, .inl (G.2.1, 4000, .inl xf)), (et, .inl (G.2.2.1, 316, .inl tf)), (ea, .inr (1, [.ref ea1, .ref ea2, .int eas])), (ea1, .inl (G.2.2.1, 16, .inl eac)), (ea2, .inl (G.2.2.1, 288, .inl eay)), (eb, .inr (1, [.ref eb1, .ref eb2, .int ebs])), (eb1, .inl (G.2.2.1, 16, .inl ebc)), (eb2, .inl (G.2.2.1, 32, .inl eby)), (ef, .inr (1, [.ref ef1, .ref ef2, .int efs])), (ef1, .inl (G.2.2.1, 16, .inl efc)), (ef2, .inl (G.2.2.1, 19, .inl efy)), (ec, .inr (1, [.ref ec1, .ref ec2, .int ecs])), (ec1, .inl (G.2.2.1, 16, .inl ecc)), (ec2, .inl (G.2.2.1, 286, .inl ecy)), (ed, .inr (1, [.ref ed1, .ref ed2, .int eds])), (ed1, .inl (G.2.2.1, 16, .inl edc)), (ed2, .inl (G.2.2.1, 30, .inl edy)), (h, .inr (7, [.ref b])), (sp, .inr (3, [.ref tn, .ref tz, .ref tb, .ref tg, .int c])), (tn, .inl (G.2.1, 384, .inl tfn)), (tz, .inl (G.2.2.1, 16, .inl tfz))]) d_FileReader_readEntry_236 (g_fourAt hl G b N f i71 (by first | assumption | omega (splitDisjunctions := false) | omega | decide) (by first | assumption | omega (splitDisjunctions := false) | omega | decide) (by first | assumption | omega (splitDisjunctions := false) | omega | decide) F_f) [25] [0, 1, 2, 3, 4, 5, 6, 7, 8, 9, 10, 11, 12, 13, 14, 15, 16, 17, 18, 19, 20, 21, 22, 23, 24] (by decide) rfl rfl rfl (by decide) (by decide) k_594 rfl k_118 k_592 k_593 hy_Book_fourAt (by decide) rfl rfl (Nat.le_of_ble_eq_true rfl) (by decide) (fun v9 u73 ch72 => ?_)
              obtain ⟨r_74, rfl⟩ : ∃ z9, z9 = u73 := ⟨_, rfl⟩
              obtain ⟨ech72, ch72⟩ := ch72
              have ech72 : v9 = some (.long r_74) := ech72
              subst ech72
              obtain ⟨fh75, fh76⟩ : (0 ≤ r_74.toInt) ∧ (r_74.toInt < 4294967296) := ch72
              refine pb_eq (pc' := 239) (lo' := [(17, .int i57), (16, .ref b), (15, .int i54), (14, .int 0), (13, .int i32), (11, .long j22), (10, .int r_16), (8, .long r_10), (6, .long r_4), (0, .ref h), (1, .int x), (2, .long lm), (4, .ref sp), (5, .ref q)]) (rest' := [.long r_74, .int r_69]) (ws' := [(tb, .inl (G.2.1, 12000, .inl tfb)), (tg, .inl (G.2.2.1, 17, .inl tfg)), (q, .inr (5, [.ref ex, .ref et, .ref ea, .ref eb, .ref ec, .ref ed, .ref ef, .ref er, .int at_, .int en, .int fl])), (ex, .inr (0, [.ref ey, .int xs])), (ey, .inl (G.2.1, 4000, .inl xf)), (et, .inl (G.2.2.1, 316, .inl tf)), (ea, .inr (1, [.ref ea1, .ref ea2, .int eas])), (ea1, .inl (G.2.2.1, 16, .inl eac)), (ea2, .inl (G.2.2.1, 288, .inl eay)), (eb, .inr (1, [.ref eb1, .ref eb2, .int ebs])), (eb1, .inl (G.2.2.1, 16, .inl ebc)), (eb2, .inl (G.2.2.1, 32, .inl eby)), (ef, .inr (1, [.ref ef1, .ref ef2, .int efs])), (ef1, .inl (G.2.2.1, 16, .inl efc)), (ef2, .inl (G.2.2.1, 19, .inl efy)), (ec, .inr (1, [.ref ec1, .ref ec2, .int ecs])), (ec1, .inl (G.2.2.1, 16, .inl ecc)), (ec2, .inl (G.2.2.1, 286, .inl ecy)), (ed, .inr (1, [.ref ed1, .ref ed2, .int eds])), (ed1, .inl (G.2.2.1, 16, .inl edc)), (ed2, .inl (G.2.2.1, 30, .inl edy)), (h, .inr (7, [.ref b])), (sp, .inr (3, [.ref tn, .ref tz, .ref tb, .ref tg, .int c])), (tn, .inl (G.2.1, 384, .inl tfn)), (tz, .inl (G.2.2.1, 16, .inl tfz)), (b, .inl (G.2.1, N, .inl f))]) ?_
              refine pb_l2i (pc := 239) d_FileReader_readEntry_239 rfl ?_
              refine pb_topi (fun i77 ei77 => ?_)
              try have ti77 : i77.toInt = r_74.toInt := ti_l2i ei77 rfl (by omega) (by omega)
              refine pb_icmp_eq (pc := 240) (tgt := 245) d_FileReader_readEntry_240 (by decide) (fun w78 => ?_) (fun w78 => ?_)
              · have tw78 : r_69.toInt = i77.toInt := (ti_eq rfl rfl).mp w78
                refine pb_aload (pc := 245) d_FileReader_readEntry_245 12 rfl ?_
                refine pb_iconst (pc := 247) (v := (-1)) d_FileReader_readEntry_247 (by decide) ?_
                refine pb_iload (pc := 248) d_FileReader_readEntry_248 2 rfl ?_
                refine pb_callV (pc := 250) (I := i_FileReader_readEntry) (qb := 22) (ci := 3) (nA := 2) (rest := []) (wr := [(tb, .inl (G.2.1, 12000, .inl tfb)), (q, .inr (5, [.ref ex, .ref et, .ref ea, .ref eb, .ref ec, .ref ed, .ref ef, .ref er, .int at_, .int en, .int fl])), (ex, .inr (0, [.ref ey, .int xs])), (ey, .inl (G.2.1, 4000, .inl xf)), (et, .inl (G.2.2.1, 316, .inl tf)), (ea, .inr (1, [.ref ea1, .ref ea2, .int eas])), (ea1, .inl (G.2.2.1, 16, .inl eac)), (ea2, .inl (G.2.2.1, 288, .inl eay)), (eb, .inr (1, [.ref eb1, .ref eb2, .int ebs])), (eb1, .inl (G.2.2.1, 16, .inl ebc)), (eb2, .inl (G.2.2.1, 32, .inl eby)), (ef, .inr (1, [.ref ef1, .ref ef2, .int efs])), (ef1, .inl (G.2.2.1, 16, .inl efc)), (ef2, .inl (G.2.2.1, 19, .inl efy)), (ec, .inr (1, [.ref ec1, .ref ec2, .int ecs])), (ec1, .inl (G.2.2.1, 16, .inl ecc)), (ec2, .inl (G.2.2.1, 286, .inl ecy)), (ed, .inr (1, [.ref ed1, .ref ed2, .int eds])), (ed1, .inl (G.2.2.1, 16, .inl edc)), (ed2, .inl (G.2.2.1, 30, .inl edy)), (h, .inr (7, [.ref b])), (tn, .inl (G.2.1, 384, .inl tfn)), (tz, .inl (G.2.2.1, 16, .inl tfz)), (b, .inl (G.2.1, N, .inl f))]) d_FileReader_readEntry_250 (g_Shelf_hasRoom hl G sp tn tz tb tg c tfz tfg (-1) i54 (by first | assumption | decide | omega) (by first | assumption | omega (splitDisjunctions := false) | omega | decide)) rfl rfl [22, 1] [0, 2, 3, 4, 5, 6, 7, 8, 9, 10, 11, 12, 13, 14, 15, 16, 17, 18, 19, 20, 21, 23, 24, 25] (by decide) rfl rfl rfl (by decide) (by decide) k_696 rfl k_127 k_693 k_694 k_695 ⟨rfl, hy_Shelf_hasRoom⟩ (by decide) rfl rfl (Nat.le_of_ble_eq_true rfl) (by decide) (fun v9 u80 ch79 => ?_)
                obtain ⟨r_81, rfl⟩ : ∃ z9, z9 = u80 := ⟨_, rfl⟩
                obtain ⟨ech79, ch79⟩ := ch79
                have ech79 : v9 = some (.int r_81) := ech79
                subst ech79
                obtain ⟨fh82, fh83⟩ : (r_81.toInt = 0 ∨ r_81.toInt = 1) ∧ (r_81.toInt = 1 → i54.toInt ≤ 4000 ∧ ((0 ≤ ((-1) : Int32).toInt ∧ ((-1) : Int32).toInt < c.toInt ∧ gx tfg c.toInt - (gx tfg (((-1) : Int32).toInt + 1) - gx tfg ((-1) : Int32).toInt) + i54.toInt ≤ 12000) ∨ (¬ (0 ≤ ((-1) : Int32).toInt ∧ ((-1) : Int32).toInt < c.toInt) ∧ c.toInt < 16 ∧ gx tfg c.toInt + i54.toInt ≤ 12000))) := ch79
                refine pb_eq (pc' := 253) (lo' := [(17, .int i57), (16, .ref b), (15, .int i54), (14, .int 0), (13, .int i32), (11, .long j22), (10, .int r_16), (8, .long r_10), (6, .long r_4), (0, .ref h), (1, .int x), (2, .long lm), (4, .ref sp), (5, .ref q)]) (rest' := [.int r_81]) (ws' := [(tb, .inl (G.2.1, 12000, .inl tfb)), (q, .inr (5, [.ref ex, .ref et, .ref ea, .ref eb, .ref ec, .ref ed, .ref ef, .ref er, .int at_, .int en, .int fl])), (ex, .inr (0, [.ref ey, .int xs])), (ey, .inl (G.2.1, 4000, .inl xf)), (et, .inl (G.2.2.1, 316, .inl tf)), (ea, .inr (1, [.ref ea1, .ref ea2, .int eas])), (ea1, .inl (G.2.2.1, 16, .inl eac)), (ea2, .inl (G.2.2.1, 288, .inl eay)), (eb, .inr (1, [.ref eb1, .ref eb2, .int ebs])), (eb1, .inl (G.2.2.1, 16, .inl ebc)), (eb2, .inl (G.2.2.1, 32, .inl eby)), (ef, .inr (1, [.ref ef1, .ref ef2, .int efs])), (ef1, .inl (G.2.2.1, 16, .inl efc)), (ef2, .inl (G.2.2.1, 19, .inl efy)), (ec, .inr (1, [.ref ec1, .ref ec2, .int ecs])), (ec1, .inl (G.2.2.1, 16, .inl ecc)), (ec2, .inl (G.2.2.1, 286, .inl ecy)), (ed, .inr (1, [.ref ed1, .ref ed2, .int eds])), (ed1, .inl (G.2.2.1, 16, .inl edc)), (ed2, .inl (G.2.2.1, 30, .inl edy)), (h, .inr (7, [.ref b])), (tn, .inl (G.2.1, 384, .inl tfn)), (tz, .inl (G.2.2.1, 16, .inl tfz)), (b, .inl (G.2.1, N, .inl f)), (sp, .inr (3, [.ref tn, .ref tz, .ref tb, .ref tg, .int c])), (tg, .inl (G.2.2.1, 17, .inl tfg))]) ?_
                refine pb_if_ne (pc := 253) (tgt := 259) d_FileReader_readEntry_253 (by decide) (fun w84 => ?_) (fun w84 => ?_)
                · have tw84 : ¬ r_81.toInt = 0 := fun z9 => w84 ((ti_eq rfl (by decide)).mpr z9)
                  refine pb_aload (pc := 259) d_FileReader_readEntry_259 12 rfl ?_
                  refine pb_aload_n (pc := 261) d_FileReader_readEntry_261 9 rfl rfl ?_
                  refine pb_get (pc := 262) d_FileReader_readEntry_262 20 0 rfl rfl (by decide) in_FileReader k_306 rfl ?_
                  refine pb_iload (pc := 265) d_FileReader_readEntry_265 4 rfl ?_
                  refine pb_iload (pc := 267) d_FileReader_readEntry_267 6 rfl ?_
                  refine pb_aload (pc := 269) d_FileReader_readEntry_269 1 rfl ?_
                  refine pb_iload (pc := 271) d_FileReader_readEntry_271 0 rfl ?_
                  refine pb_iload (pc := 273) d_FileReader_readEntry_273 2 rfl ?_
                  refine pb_callV (pc := 275) (I := i_FileReader_readEntry) (qb := 24) (ci := 3) (nA := 6) (rest := []) (wr := [(q, .inr (5, [.ref ex, .ref et, .ref ea, .ref eb, .ref ec, .ref ed, .ref ef, .ref er, .int at_, .int en, .int fl])), (ex, .inr (0, [.ref ey, .int xs])), (ey, .inl (G.2.1, 4000, .inl xf)), (et, .inl (G.2.2.1, 316, .inl tf)), (ea, .inr (1, [.ref ea1, .ref ea2, .int eas])), (ea1, .inl (G.2.2.1, 16, .inl eac)), (ea2, .inl (G.2.2.1, 288, .inl eay)), (eb, .inr (1, [.ref eb1, .ref eb2, .int ebs])), (eb1, .inl (G.2.2.1, 16, .inl ebc)), (eb2, .inl (G.2.2.1, 32, .inl eby)), (ef, .inr (1, [.ref ef1, .ref ef2, .int efs])), (ef1, .inl (G.2.2.1, 16, .inl efc)), (ef2, .inl (G.2.2.1, 19, .inl efy)), (ec, .inr (1, [.ref ec1, .ref ec2, .int ecs])), (ec1, .inl (G.2.2.1, 16, .inl ecc)), (ec2, .inl (G.2.2.1, 286, .inl ecy)), (ed, .inr (1, [.ref ed1, .ref ed2, .int eds])), (ed1, .inl (G.2.2.1, 16, .inl edc)), (ed2, .inl (G.2.2.1, 30, .inl edy)), (h, .inr (7, [.ref b]))]) d_FileReader_readEntry_275 (g_Shelf_bringIn1 hl G sp tn tz tb tg c tfn tfz tfb tfg b N f i32 r_16 i57 i54 (by first | assumption | decide | omega) (by first | assumption | omega (splitDisjunctions := false) | omega | decide) (by first | assumption | omega (splitDisjunctions := false) | omega | decide) (by first | assumption | omega (splitDisjunctions := false) | omega | decide) (by first | assumption | omega (splitDisjunctions := false) | omega | decide) (by first | assumption | omega (splitDisjunctions := false) | omega | decide) (by first | assumption | omega (splitDisjunctions := false) | omega | decide) (by first | assumption | omega (splitDisjunctions := false) | omega | decide) (by first | assumption | omega (splitDisjunctions := false) | omega | decide) (by first | assumption | omega (splitDisjunctions := false) | omega | decide) (by first | assumption | omega (splitDisjunctions := false) | omega | decide) (by first | assumption | omega (splitDisjunctions := false) | omega | decide) (by first | assumption | omega (splitDisjunctions := false) | omega | decide) F_tfn F_tfb F_f) rfl rfl [24, 21, 22, 0, 25, 23] [1, 2, 3, 4, 5, 6, 7, 8, 9, 10, 11, 12, 13, 14, 15, 16, 17, 18, 19, 20] (by decide) rfl rfl rfl (by decide) (by decide) k_700 rfl k_127 k_697 k_698 k_699 ⟨rfl, hy_Shelf_bringIn⟩ (by decide) rfl rfl (Nat.le_of_ble_eq_true rfl) (by decide) (fun v9 u86 ch85 => ?_)
                  obtain ⟨c_87, fn_88, fz_89, fb_90, fg_91⟩ := u86
                  obtain ⟨ech85, ch85⟩ := ch85
                  have ech85 : v9 = none := ech85
                  subst ech85
                  obtain ⟨fh92, fh93, fh94, fh95, fh96⟩ : (sh_I c_87.toInt fz_89 fg_91) ∧ (c_87.toInt = c.toInt + 1) ∧ (gx fg_91 c_87.toInt = gx tfg c.toInt + i54.toInt) ∧ (sb_Fit fn_88) ∧ (sb_Fit fb_90) := ch85
                  refine pb_eq (pc' := 278) (lo' := [(17, .int i57), (16, .ref b), (15, .int i54), (14, .int 0), (13, .int i32), (11, .long j22), (10, .int r_16), (8, .long r_10), (6, .long r_4), (0, .ref h), (1, .int x), (2, .long lm), (4, .ref sp), (5, .ref q)]) (rest' := []) (ws' := [(q, .inr (5, [.ref ex, .ref et, .ref ea, .ref eb, .ref ec, .ref ed, .ref ef, .ref er, .int at_, .int en, .int fl])), (ex, .inr (0, [.ref ey, .int xs])), (ey, .inl (G.2.1, 4000, .inl xf)), (et, .inl (G.2.2.1, 316, .inl tf)), (ea, .inr (1, [.ref ea1, .ref ea2, .int eas])), (ea1, .inl (G.2.2.1, 16, .inl eac)), (ea2, .inl (G.2.2.1, 288, .inl eay)), (eb, .inr (1, [.ref eb1, .ref eb2, .int ebs])), (eb1, .inl (G.2.2.1, 16, .inl ebc)), (eb2, .inl (G.2.2.1, 32, .inl eby)), (ef, .inr (1, [.ref ef1, .ref ef2, .int efs])), (ef1, .inl (G.2.2.1, 16, .inl efc)), (ef2, .inl (G.2.2.1, 19, .inl efy)), (ec, .inr (1, [.ref ec1, .ref ec2, .int ecs])), (ec1, .inl (G.2.2.1, 16, .inl ecc)), (ec2, .inl (G.2.2.1, 286, .inl ecy)), (ed, .inr (1, [.ref ed1, .ref ed2, .int eds])), (ed1, .inl (G.2.2.1, 16, .inl edc)), (ed2, .inl (G.2.2.1, 30, .inl edy)), (h, .inr (7, [.ref b])), (sp, .inr (3, [.ref tn, .ref tz, .ref tb, .ref tg, .int c_87])), (tn, .inl (G.2.1, 384, .inl fn_88)), (tz, .inl (G.2.2.1, 16, .inl fz_89)), (tb, .inl (G.2.1, 12000, .inl fb_90)), (tg, .inl (G.2.2.1, 17, .inl fg_91)), (b, .inl (G.2.1, N, .inl f))]) ?_
                  refine pb_iconst (pc := 278) (v := 0) d_FileReader_readEntry_278 (by decide) ?_
                  exact pb_iret (pc := 279) hQ d_FileReader_readEntry_279 rfl rfl (0, c_87, fn_88, fz_89, fb_90, fg_91, er, at_, en, fl, xs, xf, tf, efs, efc, efy, ecs, ecc, ecy, eds, edc, edy) ⟨rfl, (by (try dsimp only); first | done | assumption | decide | omega), (by (try dsimp only); first | done | assumption | omega (splitDisjunctions := false) | omega | decide), (by (try dsimp only); first | done | assumption | omega (splitDisjunctions := false) | omega | decide), (by (try dsimp only); first | done | assumption | decide | omega), (by (try dsimp only); first | done | assumption | omega (splitDisjunctions := false) | omega | decide), (by (try dsimp only); first | done | assumption | decide | omega), (by (try dsimp only); first | done | assumption | omega (splitDisjunctions := false) | omega | decide), (by (try dsimp only); first | done | assumption | decide | omega), (by (try dsimp only); first | done | assumption | omega (splitDisjunctions := false) | omega | decide), fh95, fh96, F_xf⟩ [19, 25, 20, 21, 22, 23, 24, 0, 1, 2, 3, 4, 5, 6, 7, 8, 9, 10, 11, 12, 13, 14, 15, 16, 17, 18] (by decide) rfl rfl (by decide) (by decide)
                · have tw84 : r_81.toInt = 0 := (ti_eq rfl (by decide)).mp w84
                  refine pb_bipush (pc := 256) (v := 6) d_FileReader_readEntry_256 (by decide) ?_
                  exact pb_iret (pc := 258) hQ d_FileReader_readEntry_258 rfl rfl (6, c, tfn, tfz, tfb, tfg, er, at_, en, fl, xs, xf, tf, efs, efc, efy, ecs, ecc, ecy, eds, edc, edy) ⟨rfl, (by (try dsimp only); first | done | assumption | decide | omega), (by (try dsimp only); first | done | assumption | omega (splitDisjunctions := false) | omega | decide), (by (try dsimp only); first | done | assumption | omega (splitDisjunctions := false) | omega | decide), (by (try dsimp only); first | done | assumption | decide | omega), (by (try dsimp only); first | done | assumption | omega (splitDisjunctions := false) | omega | decide), (by (try dsimp only); first | done | assumption | decide | omega), (by (try dsimp only); first | done | assumption | omega (splitDisjunctions := false) | omega | decide), (by (try dsimp only); first | done | assumption | decide | omega), (by (try dsimp only); first | done | assumption | omega (splitDisjunctions := false) | omega | decide), F_tfn, F_tfb, F_xf⟩ [20, 23, 24, 21, 22, 0, 25, 1, 2, 3, 4, 5, 6, 7, 8, 9, 10, 11, 12, 13, 14, 15, 16, 17, 18, 19] (by decide) rfl rfl (by decide) (by decide)
              · have tw78 : ¬ r_69.toInt = i77.toInt := fun z9 => w78 ((ti_eq rfl rfl).mpr z9)
                refine pb_iconst (pc := 243) (v := 5) d_FileReader_readEntry_243 (by decide) ?_
                exact pb_iret (pc := 244) hQ d_FileReader_readEntry_244 rfl rfl (5, c, tfn, tfz, tfb, tfg, er, at_, en, fl, xs, xf, tf, efs, efc, efy, ecs, ecc, ecy, eds, edc, edy) ⟨rfl, (by (try dsimp only); first | done | assumption | decide | omega), (by (try dsimp only); first | done | assumption | omega (splitDisjunctions := false) | omega | decide), (by (try dsimp only); first | done | assumption | omega (splitDisjunctions := false) | omega | decide), (by (try dsimp only); first | done | assumption | decide | omega), (by (try dsimp only); first | done | assumption | omega (splitDisjunctions := false) | omega | decide), (by (try dsimp only); first | done | assumption | decide | omega), (by (try dsimp only); first | done | assumption | omega (splitDisjunctions := false) | omega | decide), (by (try dsimp only); first | done | assumption | decide | omega), (by (try dsimp only); first | done | assumption | omega (splitDisjunctions := false) | omega | decide), F_tfn, F_tfb, F_xf⟩ [21, 25, 22, 23, 24, 0, 1, 2, 3, 4, 5, 6, 7, 8, 9, 10, 11, 12, 13, 14, 15, 16, 17, 18, 19, 20] (by decide) rfl rfl (by decide) (by decide)
          · have tw52 : r_48.toInt = 8 := (ti_eq rfl (by decide)).mp w52
            refine pb_iconst (pc := 130) (v := 1) d_FileReader_readEntry_130 (by decide) ?_
            refine pb_goto (pc := 131) (tgt := 135) d_FileReader_readEntry_131 (by decide) ?_
            refine pb_istore (pc := 135) (lo' := [(14, .int 1), (13, .int i32), (11, .long j22), (10, .int r_16), (8, .long r_10), (6, .long r_4), (0, .ref h), (1, .int x), (2, .long lm), (4, .ref sp), (5, .ref q)]) d_FileReader_readEntry_135 (by decide) rfl ?_
            refine pb_iload (pc := 137) d_FileReader_readEntry_137 0 rfl ?_
            refine pb_if_eq (pc := 139) (tgt := 160) d_FileReader_readEntry_139 (by decide) (fun h9 => absurd h9 (by decide)) (fun _ => ?_)
            refine pb_aload (pc := 142) d_FileReader_readEntry_142 10 rfl ?_
            refine pb_aload_n (pc := 144) d_FileReader_readEntry_144 6 rfl rfl ?_
            refine pb_get (pc := 145) d_FileReader_readEntry_145 21 0 rfl rfl (by decide) in_FileReader k_306 rfl ?_
            refine pb_lload (pc := 148) d_FileReader_readEntry_148 2 rfl ?_
            refine pb_l2i (pc := 150) d_FileReader_readEntry_150 rfl ?_
            refine pb_topi (fun i98 ei98 => ?_)
            try have ti98 : i98.toInt = j22.toInt := ti_l2i ei98 rfl (by omega) (by omega)
            refine pb_lload (pc := 151) d_FileReader_readEntry_151 4 rfl ?_
            refine pb_l2i (pc := 153) d_FileReader_readEntry_153 rfl ?_
            refine pb_topi (fun i99 ei99 => ?_)
            try have ti99 : i99.toInt = r_10.toInt := ti_l2i ei99 rfl (by omega) (by omega)
            refine pb_callV (pc := 154) (I := i_FileReader_readEntry) (qb := 2) (ci := 5) (nA := 3) (rest := []) (wr := [(tb, .inl (G.2.1, 12000, .inl tfb)), (tg, .inl (G.2.2.1, 17, .inl tfg)), (h, .inr (7, [.ref b])), (sp, .inr (3, [.ref tn, .ref tz, .ref tb, .ref tg, .int c])), (tn, .inl (G.2.1, 384, .inl tfn)), (tz, .inl (G.2.2.1, 16, .inl tfz))]) d_FileReader_readEntry_154 (g_Exp_run hl G q ex et ea eb ec ed ef er at_ en fl b N f ey xf xs tf ea1 ea2 eas eac eay eb1 eb2 ebs ebc eby ef1 ef2 efs efc efy ec1 ec2 ecs ecc ecy ed1 ed2 eds edc edy i98 i99 (gr f) (by first | assumption | omega (splitDisjunctions := false) | omega | decide) (by first | assumption | omega (splitDisjunctions := false) | omega | decide) (by first | assumption | omega (splitDisjunctions := false) | omega | decide) (by first | assumption | omega (splitDisjunctions := false) | omega | decide) (fun j _ _ => rfl) (by first | assumption | decide | omega) (by first | assumption | omega (splitDisjunctions := false) | omega | decide) (by first | assumption | decide | omega) (by first | assumption | omega (splitDisjunctions := false) | omega | decide) (by first | assumption | omega (splitDisjunctions := false) | omega | decide) (by first | assumption | omega (splitDisjunctions := false) | omega | decide) (by first | assumption | decide | omega) (by first | assumption | omega (splitDisjunctions := false) | omega | decide) (by first | assumption | decide | omega) (by first | assumption | omega (splitDisjunctions := false) | omega | decide) (by first | assumption | decide | omega) (by first | assumption | omega (splitDisjunctions := false) | omega | decide) F_f F_xf) rfl rfl [2, 25, 3, 4, 5, 6, 7, 8, 9, 10, 11, 12, 13, 14, 15, 16, 17, 18, 19, 20] [0, 1, 21, 22, 23, 24] (by decide) rfl rfl rfl (by decide) (by decide) k_630 rfl k_121 k_627 k_628 k_629 ⟨rfl, hy_Expander_run⟩ (by decide) rfl rfl (Nat.le_of_ble_eq_true rfl) (by decide) (fun v9 u101 ch100 => ?_)
            obtain ⟨r_102, a2__103, e2__104, f2__105, s2__106, xf_107, tf_108, efs_109, efc_110, efy_111, ecs_112, ecc_113, ecy_114, eds_115, edc_116, edy_117⟩ := u101
            obtain ⟨ech100, ch100⟩ := ch100
            have ech100 : v9 = some (.int r_102) := ech100
            subst ech100
            obtain ⟨fh118, fh119, fh120, fh121, fh122, fh123, fh124, fh125, fh126, fh127, fh128, fh129⟩ : (r_102.toInt < 0 ∨ r_102.toInt = s2__106.toInt) ∧ (0 ≤ s2__106.toInt) ∧ (s2__106.toInt ≤ 4000) ∧ (co_I efs_109.toInt efc_110 efy_111 19) ∧ (efs_109.toInt ≤ 19) ∧ (co_I ecs_112.toInt ecc_113 ecy_114 288) ∧ (ecs_112.toInt ≤ 286) ∧ (co_I eds_115.toInt edc_116 edy_117 32) ∧ (eds_115.toInt ≤ 30) ∧ (ex_f (gr f) od_ i98.toInt i99.toInt = oz_ f2__105.toInt a2__103.toInt s2__106.toInt (sq xf_107 0 s2__106.toInt)) ∧ (f2__105.toInt = 0 ∧ r_102.toInt = s2__106.toInt ∨ 0 < f2__105.toInt ∧ r_102.toInt = - f2__105.toInt) ∧ (sb_Fit xf_107) := ch100
            refine pb_eq (pc' := 157) (lo' := [(14, .int 1), (13, .int i32), (11, .long j22), (10, .int r_16), (8, .long r_10), (6, .long r_4), (0, .ref h), (1, .int x), (2, .long lm), (4, .ref sp), (5, .ref q)]) (rest' := [.int r_102]) (ws' := [(tb, .inl (G.2.1, 12000, .inl tfb)), (tg, .inl (G.2.2.1, 17, .inl tfg)), (h, .inr (7, [.ref b])), (sp, .inr (3, [.ref tn, .ref tz, .ref tb, .ref tg, .int c])), (tn, .inl (G.2.1, 384, .inl tfn)), (tz, .inl (G.2.2.1, 16, .inl tfz)), (q, .inr (5, [.ref ex, .ref et, .ref ea, .ref eb, .ref ec, .ref ed, .ref ef, .ref b, .int a2__103, .int e2__104, .int f2__105])), (b, .inl (G.2.1, N, .inl f)), (ex, .inr (0, [.ref ey, .int s2__106])), (ey, .inl (G.2.1, 4000, .inl xf_107)), (et, .inl (G.2.2.1, 316, .inl tf_108)), (ea, .inr (1, [.ref ea1, .ref ea2, .int eas])), (ea1, .inl (G.2.2.1, 16, .inl eac)), (ea2, .inl (G.2.2.1, 288, .inl eay)), (eb, .inr (1, [.ref eb1, .ref eb2, .int ebs])), (eb1, .inl (G.2.2.1, 16, .inl ebc)), (eb2, .inl (G.2.2.1, 32, .inl eby)), (ef, .inr (1, [.ref ef1, .ref ef2, .int efs_109])), (ef1, .inl (G.2.2.1, 16, .inl efc_110)), (ef2, .inl (G.2.2.1, 19, .inl efy_111)), (ec, .inr (1, [.ref ec1, .ref ec2, .int ecs_112])), (ec1, .inl (G.2.2.1, 16, .inl ecc_113)), (ec2, .inl (G.2.2.1, 286, .inl ecy_114)), (ed, .inr (1, [.ref ed1, .ref ed2, .int eds_115])), (ed1, .inl (G.2.2.1, 16, .inl edc_116)), (ed2, .inl (G.2.2.1, 30, .inl edy_117))]) ?_
            refine pb_goto (pc := 157) (tgt := 163) d_FileReader_readEntry_157 (by decide) ?_
            refine pb_istore (pc := 163) (lo' := [(15, .int r_102), (14, .int 1), (13, .int i32), (11, .long j22), (10, .int r_16), (8, .long r_10), (6, .long r_4), (0, .ref h), (1, .int x), (2, .long lm), (4, .ref sp), (5, .ref q)]) d_FileReader_readEntry_163 (by decide) rfl ?_
            refine pb_iload (pc := 165) d_FileReader_readEntry_165 1 rfl ?_
            refine pb_if_eq (pc := 167) (tgt := 181) d_FileReader_readEntry_167 (by decide) (fun h9 => absurd h9 (by decide)) (fun _ => ?_)
            refine pb_aload (pc := 170) d_FileReader_readEntry_170 11 rfl ?_
            refine pb_getN (pc := 172) d_FileReader_readEntry_172 6 0 rfl rfl (by decide) in_Expander k_249 rfl ?_
            refine pb_getN (pc := 175) d_FileReader_readEntry_175 8 0 rfl rfl (by decide) in_Row k_159 rfl ?_
            refine pb_goto (pc := 178) (tgt := 185) d_FileReader_readEntry_178 (by decide) ?_
            refine pb_astore (pc := 185) (lo' := [(16, .ref ey), (15, .int r_102), (14, .int 1), (13, .int i32), (11, .long j22), (10, .int r_16), (8, .long r_10), (6, .long r_4), (0, .ref h), (1, .int x), (2, .long lm), (4, .ref sp), (5, .ref q)]) d_FileReader_readEntry_185 (by decide) rfl ?_
            refine pb_iload (pc := 187) d_FileReader_readEntry_187 2 rfl ?_
            refine pb_if_eq (pc := 189) (tgt := 196) d_FileReader_readEntry_189 (by decide) (fun h9 => absurd h9 (by decide)) (fun _ => ?_)
            refine pb_iconst (pc := 192) (v := 0) d_FileReader_readEntry_192 (by decide) ?_
            refine pb_goto (pc := 193) (tgt := 199) d_FileReader_readEntry_193 (by decide) ?_
            refine pb_istore (pc := 199) (lo' := [(17, .int 0), (16, .ref ey), (15, .int r_102), (14, .int 1), (13, .int i32), (11, .long j22), (10, .int r_16), (8, .long r_10), (6, .long r_4), (0, .ref h), (1, .int x), (2, .long lm), (4, .ref sp), (5, .ref q)]) d_FileReader_readEntry_199 (by decide) rfl ?_
            refine pb_iload (pc := 201) d_FileReader_readEntry_201 2 rfl ?_
            refine pb_i2l (pc := 203) d_FileReader_readEntry_203 rfl ?_
            refine pb_topl (fun j132 ej132 => ?_)
            have tj132 : j132.toInt = r_102.toInt := tl_i2l ej132 rfl
            refine pb_aload_n (pc := 204) d_FileReader_readEntry_204 9 rfl rfl ?_
            refine pb_get (pc := 205) d_FileReader_readEntry_205 2 0 rfl rfl (by decide) in_FileReader k_306 rfl ?_
            refine pb_iload_n (pc := 208) d_FileReader_readEntry_208 10 rfl rfl ?_
            refine pb_bipush (pc := 209) (v := 24) d_FileReader_readEntry_209 (by decide) ?_
            refine pb_iadd (pc := 211) d_FileReader_readEntry_211 ?_
            refine pb_topi (fun i133 ei133 => ?_)
            try have ti133 : i133.toInt = x.toInt + 24 := t2_add ei133 rfl (by decide) (by omega)
            refine pb_callSN (pc := 212) (I := i_FileReader_readEntry) (nA := 2) (rest := [.long j132]) (wr := [(tb, .inl (G.2.1, 12000, .inl tfb)), (tg, .inl (G.2.2.1, 17, .inl tfg)), (h, .inr (7, [.ref b])), (sp, .inr (3, [.ref tn, .ref tz, .ref tb, .ref tg, .int c])), (tn, .inl (G.2.1, 384, .inl tfn)), (tz, .inl (G.2.2.1, 16, .inl tfz)), (q, .inr (5, [.ref ex, .ref et, .ref ea, .ref eb, .ref ec, .ref ed, .ref ef, .ref b, .int a2__103, .int e2__104, .int f2__105])), (ex, .inr (0, [.ref ey, .int s2__106])), (ey, .inl (G.2.1, 4000, .inl xf_107)), (et, .inl (G.2.2.1, 316, .inl tf_108)), (ea, .inr (1, [.ref ea1, .ref ea2, .int eas])), (ea1, .inl (G.2.2.1, 16, .inl eac)), (ea2, .inl (G.2.2.1, 288, .inl eay)), (eb, .inr (1, [.ref eb1, .ref eb2, .int ebs])), (eb1, .inl (G.2.2.1, 16, .inl ebc)), (eb2, .inl (G.2.2.1, 32, .inl eby)), (ef, .inr (1, [.ref ef1, .ref ef2, .int efs_109])), (ef1, .inl (G.2.2.1, 16, .inl efc_110)), (ef2, .inl (G.2.2.1, 19, .inl efy_111)), (ec, .inr (1, [.ref ec1, .ref ec2, .int ecs_112])), (ec1, .inl (G.2.2.1, 16, .inl ecc_113)), (ec2, .inl (G.2.2.1, 286, .inl ecy_114)), (ed, .inr (1, [.ref ed1, .ref ed2, .int eds_115])), (ed1, .inl (G.2.2.1, 16, .inl edc_116)), (ed2, .inl (G.2.2.1, 30, .inl edy_117))]) d_FileReader_readEntry_212 (g_fourAt hl G b N f i133 (by first | assumption | omega (splitDisjunctions := false) | omega | decide) (by first | assumption | omega (splitDisjunctions := false) | omega | decide) (by first | assumption | omega (splitDisjunctions := false) | omega | decide) F_f) [7] [0, 1, 2, 3, 4, 5, 6, 8, 9, 10, 11, 12, 13, 14, 15, 16, 17, 18, 19, 20, 21, 22, 23, 24, 25] (by decide) rfl rfl rfl (by decide) (by decide) k_594 rfl k_118 k_592 k_593 hy_Book_fourAt (by decide) rfl rfl (Nat.le_of_ble_eq_true rfl) (by decide) (fun v9 u135 ch134 => ?_)
            obtain ⟨r_136, rfl⟩ : ∃ z9, z9 = u135 := ⟨_, rfl⟩
            obtain ⟨ech134, ch134⟩ := ch134
            have ech134 : v9 = some (.long r_136) := ech134
            subst ech134
            obtain ⟨fh137, fh138⟩ : (0 ≤ r_136.toInt) ∧ (r_136.toInt < 4294967296) := ch134
            refine pb_eq (pc' := 215) (lo' := [(17, .int 0), (16, .ref ey), (15, .int r_102), (14, .int 1), (13, .int i32), (11, .long j22), (10, .int r_16), (8, .long r_10), (6, .long r_4), (0, .ref h), (1, .int x), (2, .long lm), (4, .ref sp), (5, .ref q)]) (rest' := [.long r_136, .long j132]) (ws' := [(tb, .inl (G.2.1, 12000, .inl tfb)), (tg, .inl (G.2.2.1, 17, .inl tfg)), (h, .inr (7, [.ref b])), (sp, .inr (3, [.ref tn, .ref tz, .ref tb, .ref tg, .int c])), (tn, .inl (G.2.1, 384, .inl tfn)), (tz, .inl (G.2.2.1, 16, .inl tfz)), (q, .inr (5, [.ref ex, .ref et, .ref ea, .ref eb, .ref ec, .ref ed, .ref ef, .ref b, .int a2__103, .int e2__104, .int f2__105])), (ex, .inr (0, [.ref ey, .int s2__106])), (ey, .inl (G.2.1, 4000, .inl xf_107)), (et, .inl (G.2.2.1, 316, .inl tf_108)), (ea, .inr (1, [.ref ea1, .ref ea2, .int eas])), (ea1, .inl (G.2.2.1, 16, .inl eac)), (ea2, .inl (G.2.2.1, 288, .inl eay)), (eb, .inr (1, [.ref eb1, .ref eb2, .int ebs])), (eb1, .inl (G.2.2.1, 16, .inl ebc)), (eb2, .inl (G.2.2.1, 32, .inl eby)), (ef, .inr (1, [.ref ef1, .ref ef2, .int efs_109])), (ef1, .inl (G.2.2.1, 16, .inl efc_110)), (ef2, .inl (G.2.2.1, 19, .inl efy_111)), (ec, .inr (1, [.ref ec1, .ref ec2, .int ecs_112])), (ec1, .inl (G.2.2.1, 16, .inl ecc_113)), (ec2, .inl (G.2.2.1, 286, .inl ecy_114)), (ed, .inr (1, [.ref ed1, .ref ed2, .int eds_115])), (ed1, .inl (G.2.2.1, 16, .inl edc_116)), (ed2, .inl (G.2.2.1, 30, .inl edy_117)), (b, .inl (G.2.1, N, .inl f))]) ?_
            refine pb_lcmp (pc := 215) d_FileReader_readEntry_215 ?_
            refine pb_topi (fun i139 ei139 => ?_)
            have ti139 : (i139.toInt < 0 ↔ j132.toInt < r_136.toInt) ∧ (i139.toInt = 0 ↔ j132.toInt = r_136.toInt) ∧ (0 < i139.toInt ↔ r_136.toInt < j132.toInt) := tl_cmp ei139 rfl rfl
            refine pb_if_ne (pc := 216) (tgt := 243) d_FileReader_readEntry_216 (by decide) (fun w140 => ?_) (fun w140 => ?_)
            · have tw140 : ¬ i139.toInt = 0 := fun z9 => w140 ((ti_eq rfl (by decide)).mpr z9)
              refine pb_iconst (pc := 243) (v := 5) d_FileReader_readEntry_243 (by decide) ?_
              exact pb_iret (pc := 244) hQ d_FileReader_readEntry_244 rfl rfl (5, c, tfn, tfz, tfb, tfg, b, a2__103, e2__104, f2__105, s2__106, xf_107, tf_108, efs_109, efc_110, efy_111, ecs_112, ecc_113, ecy_114, eds_115, edc_116, edy_117) ⟨rfl, (by (try dsimp only); first | done | assumption | decide | omega), (by (try dsimp only); first | done | assumption | omega (splitDisjunctions := false) | omega | decide), (by (try dsimp only); first | done | assumption | omega (splitDisjunctions := false) | omega | decide), (by (try dsimp only); first | done | assumption | decide | omega), (by (try dsimp only); first | done | assumption | omega (splitDisjunctions := false) | omega | decide), (by (try dsimp only); first | done | assumption | decide | omega), (by (try dsimp only); first | done | assumption | omega (splitDisjunctions := false) | omega | decide), (by (try dsimp only); first | done | assumption | decide | omega), (by (try dsimp only); first | done | assumption | omega (splitDisjunctions := false) | omega | decide), F_tfn, F_tfb, fh129⟩ [2, 25, 3, 4, 5, 0, 1, 6, 7, 8, 9, 10, 11, 12, 13, 14, 15, 16, 17, 18, 19, 20, 21, 22, 23, 24] (by decide) rfl rfl (by decide) (by decide)
            · have tw140 : i139.toInt = 0 := (ti_eq rfl (by decide)).mp w140
              refine pb_aload (pc := 219) d_FileReader_readEntry_219 1 rfl ?_
              refine pb_iload (pc := 221) d_FileReader_readEntry_221 0 rfl ?_
              refine pb_iload (pc := 223) d_FileReader_readEntry_223 2 rfl ?_
              refine pb_callSN (pc := 225) (I := i_FileReader_readEntry) (nA := 3) (rest := []) (wr := [(tb, .inl (G.2.1, 12000, .inl tfb)), (tg, .inl (G.2.2.1, 17, .inl tfg)), (h, .inr (7, [.ref b])), (sp, .inr (3, [.ref tn, .ref tz, .ref tb, .ref tg, .int c])), (tn, .inl (G.2.1, 384, .inl tfn)), (tz, .inl (G.2.2.1, 16, .inl tfz)), (q, .inr (5, [.ref ex, .ref et, .ref ea, .ref eb, .ref ec, .ref ed, .ref ef, .ref b, .int a2__103, .int e2__104, .int f2__105])), (ex, .inr (0, [.ref ey, .int s2__106])), (et, .inl (G.2.2.1, 316, .inl tf_108)), (ea, .inr (1, [.ref ea1, .ref ea2, .int eas])), (ea1, .inl (G.2.2.1, 16, .inl eac)), (ea2, .inl (G.2.2.1, 288, .inl eay)), (eb, .inr (1, [.ref eb1, .ref eb2, .int ebs])), (eb1, .inl (G.2.2.1, 16, .inl ebc)), (eb2, .inl (G.2.2.1, 32, .inl eby)), (ef, .inr (1, [.ref ef1, .ref ef2, .int efs_109])), (ef1, .inl (G.2.2.1, 16, .inl efc_110)), (ef2, .inl (G.2.2.1, 19, .inl efy_111)), (ec, .inr (1, [.ref ec1, .ref ec2, .int ecs_112])), (ec1, .inl (G.2.2.1, 16, .inl ecc_113)), (ec2, .inl (G.2.2.1, 286, .inl ecy_114)), (ed, .inr (1, [.ref ed1, .ref ed2, .int eds_115])), (ed1, .inl (G.2.2.1, 16, .inl edc_116)), (ed2, .inl (G.2.2.1, 30, .inl edy_117)), (b, .inl (G.2.1, N, .inl f))]) d_FileReader_readEntry_225 (g_sumOf hl G ey 4000 xf_107 0 r_102 (by first | assumption | omega (splitDisjunctions := false) | omega | decide) (by first | assumption | omega (splitDisjunctions := false) | omega | decide) (by first | assumption | omega (splitDisjunctions := false) | omega | decide) (by first | assumption | omega (splitDisjunctions := false) | omega | decide) fh129) [8] [0, 1, 2, 3, 4, 5, 6, 7, 9, 10, 11, 12, 13, 14, 15, 16, 17, 18, 19, 20, 21, 22, 23, 24, 25] (by decide) rfl rfl rfl (by decide) (by decide) k_559 rfl k_118 k_692 k_558 hy_Book_sumOf (by decide) rfl rfl (Nat.le_of_ble_eq_true rfl) (by decide) (fun v9 u142 ch141 => ?_)
              obtain ⟨r_143, rfl⟩ : ∃ z9, z9 = u142 := ⟨_, rfl⟩
              obtain ⟨ech141, ch141⟩ := ch141
              have ech141 : v9 = some (.int r_143) := ech141
              subst ech141
              have fh144 : r_143 = cr_n xf_107 (0 : Int32).toInt r_102.toInt.toNat ^^^ (-1) := ch141
              refine pb_eq (pc' := 228) (lo' := [(17, .int 0), (16, .ref ey), (15, .int r_102), (14, .int 1), (13, .int i32), (11, .long j22), (10, .int r_16), (8, .long r_10), (6, .long r_4), (0, .ref h), (1, .int x), (2, .long lm), (4, .ref sp), (5, .ref q)]) (rest' := [.int r_143]) (ws' := [(tb, .inl (G.2.1, 12000, .inl tfb)), (tg, .inl (G.2.2.1, 17, .inl tfg)), (h, .inr (7, [.ref b])), (sp, .inr (3, [.ref tn, .ref tz, .ref tb, .ref tg, .int c])), (tn, .inl (G.2.1, 384, .inl tfn)), (tz, .inl (G.2.2.1, 16, .inl tfz)), (q, .inr (5, [.ref ex, .ref et, .ref ea, .ref eb, .ref ec, .ref ed, .ref ef, .ref b, .int a2__103, .int e2__104, .int f2__105])), (ex, .inr (0, [.ref ey, .int s2__106])), (et, .inl (G.2.2.1, 316, .inl tf_108)), (ea, .inr (1, [.ref ea1, .ref ea2, .int eas])), (ea1, .inl (G.2.2.1, 16, .inl eac)), (ea2, .inl (G.2.2.1, 288, .inl eay)), (eb, .inr (1, [.ref eb1, .ref eb2, .int ebs])), (eb1, .inl (G.2.2.1, 16, .inl ebc)), (eb2, .inl (G.2.2.1, 32, .inl eby)), (ef, .inr (1, [.ref ef1, .ref ef2, .int efs_109])), (ef1, .inl (G.2.2.1, 16, .inl efc_110)), (ef2, .inl (G.2.2.1, 19, .inl efy_111)), (ec, .inr (1, [.ref ec1, .ref ec2, .int ecs_112])), (ec1, .inl (G.2.2.1, 16, .inl ecc_113)), (ec2, .inl (G.2.2.1, 286, .inl ecy_114)), (ed, .inr (1, [.ref ed1, .ref ed2, .int eds_115])), (ed1, .inl (G.2.2.1, 16, .inl edc_116)), (ed2, .inl (G.2.2.1, 30, .inl edy_117)), (b, .inl (G.2.1, N, .inl f)), (ey, .inl (G.2.1, 4000, .inl xf_107))]) ?_
              refine pb_aload_n (pc := 228) d_FileReader_readEntry_228 9 rfl rfl ?_
              refine pb_get (pc := 229) d_FileReader_readEntry_229 2 0 rfl rfl (by decide) in_FileReader k_306 rfl ?_
              refine pb_iload_n (pc := 232) d_FileReader_readEntry_232 10 rfl rfl ?_
              refine pb_bipush (pc := 233) (v := 16) d_FileReader_readEntry_233 (by decide) ?_
              refine pb_iadd (pc := 235) d_FileReader_readEntry_235 ?_
              refine pb_topi (fun i145 ei145 => ?_)
              try have ti145 : i145.toInt = x.toInt + 16 := t2_add ei145 rfl (by decide) (by omega)
              refine pb_callSN (pc := 236) (I := i_FileReader_readEntry) (nA := 2) (rest := [.int r_143]) (wr := [(tb, .inl (G.2.1, 12000, .inl tfb)), (tg, .inl (G.2.2.1, 17, .inl tfg)), (h, .inr (7, [.ref b])), (sp, .inr (3, [.ref tn, .ref tz, .ref tb, .ref tg, .int c])), (tn, .inl (G.2.1, 384, .inl tfn)), (tz, .inl (G.2.2.1, 16, .inl tfz)), (q, .inr (5, [.ref ex, .ref et, .ref ea, .ref eb, .ref ec, .ref ed, .ref ef, .ref b, .int a2__103, .int e2__104, .int f2__105])), (ex, .inr (0, [.ref ey, .int s2__106])), (et, .inl (G.2.2.1, 316, .inl tf_108)), (ea, .inr (1, [.ref ea1, .ref ea2, .int eas])), (ea1, .inl (G.2.2.1, 16, .inl eac)), (ea2, .inl (G.2.2.1, 288, .inl eay)), (eb, .inr (1, [.ref eb1, .ref eb2, .int ebs])), (eb1, .inl (G.2.2.1, 16, .inl ebc)), (eb2, .inl (G.2.2.1, 32, .inl eby)), (ef, .inr (1, [.ref ef1, .ref ef2, .int efs_109])), (ef1, .inl (G.2.2.1, 16, .inl efc_110)), (ef2, .inl (G.2.2.1, 19, .inl efy_111)), (ec, .inr (1, [.ref ec1, .ref ec2, .int ecs_112])), (ec1, .inl (G.2.2.1, 16, .inl ecc_113)), (ec2, .inl (G.2.2.1, 286, .inl ecy_114)), (ed, .inr (1, [.ref ed1, .ref ed2, .int eds_115])), (ed1, .inl (G.2.2.1, 16, .inl edc_116)), (ed2, .inl (G.2.2.1, 30, .inl edy_117)), (ey, .inl (G.2.1, 4000, .inl xf_107))]) d_FileReader_readEntry_236 (g_fourAt hl G b N f i145 (by first | assumption | omega (splitDisjunctions := false) | omega | decide) (by first | assumption | omega (splitDisjunctions := false) | omega | decide) (by first | assumption | omega (splitDisjunctions := false) | omega | decide) F_f) [24] [0, 1, 2, 3, 4, 5, 6, 7, 8, 9, 10, 11, 12, 13, 14, 15, 16, 17, 18, 19, 20, 21, 22, 23, 25] (by decide) rfl rfl rfl (by decide) (by decide) k_594 rfl k_118 k_592 k_593 hy_Book_fourAt (by decide) rfl rfl (Nat.le_of_ble_eq_true rfl) (by decide) (fun v9 u147 ch146 => ?_)
              obtain ⟨r_148, rfl⟩ : ∃ z9, z9 = u147 := ⟨_, rfl⟩
              obtain ⟨ech146, ch146⟩ := ch146
              have ech146 : v9 = some (.long r_148) := ech146
              subst ech146
              obtain ⟨fh149, fh150⟩ : (0 ≤ r_148.toInt) ∧ (r_148.toInt < 4294967296) := ch146
              refine pb_eq (pc' := 239) (lo' := [(17, .int 0), (16, .ref ey), (15, .int r_102), (14, .int 1), (13, .int i32), (11, .long j22), (10, .int r_16), (8, .long r_10), (6, .long r_4), (0, .ref h), (1, .int x), (2, .long lm), (4, .ref sp), (5, .ref q)]) (rest' := [.long r_148, .int r_143]) (ws' := [(tb, .inl (G.2.1, 12000, .inl tfb)), (tg, .inl (G.2.2.1, 17, .inl tfg)), (h, .inr (7, [.ref b])), (sp, .inr (3, [.ref tn, .ref tz, .ref tb, .ref tg, .int c])), (tn, .inl (G.2.1, 384, .inl tfn)), (tz, .inl (G.2.2.1, 16, .inl tfz)), (q, .inr (5, [.ref ex, .ref et, .ref ea, .ref eb, .ref ec, .ref ed, .ref ef, .ref b, .int a2__103, .int e2__104, .int f2__105])), (ex, .inr (0, [.ref ey, .int s2__106])), (et, .inl (G.2.2.1, 316, .inl tf_108)), (ea, .inr (1, [.ref ea1, .ref ea2, .int eas])), (ea1, .inl (G.2.2.1, 16, .inl eac)), (ea2, .inl (G.2.2.1, 288, .inl eay)), (eb, .inr (1, [.ref eb1, .ref eb2, .int ebs])), (eb1, .inl (G.2.2.1, 16, .inl ebc)), (eb2, .inl (G.2.2.1, 32, .inl eby)), (ef, .inr (1, [.ref ef1, .ref ef2, .int efs_109])), (ef1, .inl (G.2.2.1, 16, .inl efc_110)), (ef2, .inl (G.2.2.1, 19, .inl efy_111)), (ec, .inr (1, [.ref ec1, .ref ec2, .int ecs_112])), (ec1, .inl (G.2.2.1, 16, .inl ecc_113)), (ec2, .inl (G.2.2.1, 286, .inl ecy_114)), (ed, .inr (1, [.ref ed1, .ref ed2, .int eds_115])), (ed1, .inl (G.2.2.1, 16, .inl edc_116)), (ed2, .inl (G.2.2.1, 30, .inl edy_117)), (ey, .inl (G.2.1, 4000, .inl xf_107)), (b, .inl (G.2.1, N, .inl f))]) ?_
              refine pb_l2i (pc := 239) d_FileReader_readEntry_239 rfl ?_
              refine pb_topi (fun i151 ei151 => ?_)
              try have ti151 : i151.toInt = r_148.toInt := ti_l2i ei151 rfl (by omega) (by omega)
              refine pb_icmp_eq (pc := 240) (tgt := 245) d_FileReader_readEntry_240 (by decide) (fun w152 => ?_) (fun w152 => ?_)
              · have tw152 : r_143.toInt = i151.toInt := (ti_eq rfl rfl).mp w152
                refine pb_aload (pc := 245) d_FileReader_readEntry_245 12 rfl ?_
                refine pb_iconst (pc := 247) (v := (-1)) d_FileReader_readEntry_247 (by decide) ?_
                refine pb_iload (pc := 248) d_FileReader_readEntry_248 2 rfl ?_
                refine pb_callV (pc := 250) (I := i_FileReader_readEntry) (qb := 3) (ci := 3) (nA := 2) (rest := []) (wr := [(tb, .inl (G.2.1, 12000, .inl tfb)), (h, .inr (7, [.ref b])), (tn, .inl (G.2.1, 384, .inl tfn)), (tz, .inl (G.2.2.1, 16, .inl tfz)), (q, .inr (5, [.ref ex, .ref et, .ref ea, .ref eb, .ref ec, .ref ed, .ref ef, .ref b, .int a2__103, .int e2__104, .int f2__105])), (ex, .inr (0, [.ref ey, .int s2__106])), (et, .inl (G.2.2.1, 316, .inl tf_108)), (ea, .inr (1, [.ref ea1, .ref ea2, .int eas])), (ea1, .inl (G.2.2.1, 16, .inl eac)), (ea2, .inl (G.2.2.1, 288, .inl eay)), (eb, .inr (1, [.ref eb1, .ref eb2, .int ebs])), (eb1, .inl (G.2.2.1, 16, .inl ebc)), (eb2, .inl (G.2.2.1, 32, .inl eby)), (ef, .inr (1, [.ref ef1, .ref ef2, .int efs_109])), (ef1, .inl (G.2.2.1, 16, .inl efc_110)), (ef2, .inl (G.2.2.1, 19, .inl efy_111)), (ec, .inr (1, [.ref ec1, .ref ec2, .int ecs_112])), (ec1, .inl (G.2.2.1, 16, .inl ecc_113)), (ec2, .inl (G.2.2.1, 286, .inl ecy_114)), (ed, .inr (1, [.ref ed1, .ref ed2, .int eds_115])), (ed1, .inl (G.2.2.1, 16, .inl edc_116)), (ed2, .inl (G.2.2.1, 30, .inl edy_117)), (ey, .inl (G.2.1, 4000, .inl xf_107)), (b, .inl (G.2.1, N, .inl f))]) d_FileReader_readEntry_250 (g_Shelf_hasRoom hl G sp tn tz tb tg c tfz tfg (-1) r_102 (by first | assumption | decide | omega) (by first | assumption | omega (splitDisjunctions := false) | omega | decide)) rfl rfl [3, 1] [0, 2, 4, 5, 6, 7, 8, 9, 10, 11, 12, 13, 14, 15, 16, 17, 18, 19, 20, 21, 22, 23, 24, 25] (by decide) rfl rfl rfl (by decide) (by decide) k_696 rfl k_127 k_693 k_694 k_695 ⟨rfl, hy_Shelf_hasRoom⟩ (by decide) rfl rfl (Nat.le_of_ble_eq_true rfl) (by decide) (fun v9 u154 ch153 => ?_)
                obtain ⟨r_155, rfl⟩ : ∃ z9, z9 = u154 := ⟨_, rfl⟩
                obtain ⟨ech153, ch153⟩ := ch153
                have ech153 : v9 = some (.int r_155) := ech153
                subst ech153
                obtain ⟨fh156, fh157⟩ : (r_155.toInt = 0 ∨ r_155.toInt = 1) ∧ (r_155.toInt = 1 → r_102.toInt ≤ 4000 ∧ ((0 ≤ ((-1) : Int32).toInt ∧ ((-1) : Int32).toInt < c.toInt ∧ gx tfg c.toInt - (gx tfg (((-1) : Int32).toInt + 1) - gx tfg ((-1) : Int32).toInt) + r_102.toInt ≤ 12000) ∨ (¬ (0 ≤ ((-1) : Int32).toInt ∧ ((-1) : Int32).toInt < c.toInt) ∧ c.toInt < 16 ∧ gx tfg c.toInt + r_102.toInt ≤ 12000))) := ch153
                refine pb_eq (pc' := 253) (lo' := [(17, .int 0), (16, .ref ey), (15, .int r_102), (14, .int 1), (13, .int i32), (11, .long j22), (10, .int r_16), (8, .long r_10), (6, .long r_4), (0, .ref h), (1, .int x), (2, .long lm), (4, .ref sp), (5, .ref q)]) (rest' := [.int r_155]) (ws' := [(tb, .inl (G.2.1, 12000, .inl tfb)), (h, .inr (7, [.ref b])), (tn, .inl (G.2.1, 384, .inl tfn)), (tz, .inl (G.2.2.1, 16, .inl tfz)), (q, .inr (5, [.ref ex, .ref et, .ref ea, .ref eb, .ref ec, .ref ed, .ref ef, .ref b, .int a2__103, .int e2__104, .int f2__105])), (ex, .inr (0, [.ref ey, .int s2__106])), (et, .inl (G.2.2.1, 316, .inl tf_108)), (ea, .inr (1, [.ref ea1, .ref ea2, .int eas])), (ea1, .inl (G.2.2.1, 16, .inl eac)), (ea2, .inl (G.2.2.1, 288, .inl eay)), (eb, .inr (1, [.ref eb1, .ref eb2, .int ebs])), (eb1, .inl (G.2.2.1, 16, .inl ebc)), (eb2, .inl (G.2.2.1, 32, .inl eby)), (ef, .inr (1, [.ref ef1, .ref ef2, .int efs_109])), (ef1, .inl (G.2.2.1, 16, .inl efc_110)), (ef2, .inl (G.2.2.1, 19, .inl efy_111)), (ec, .inr (1, [.ref ec1, .ref ec2, .int ecs_112])), (ec1, .inl (G.2.2.1, 16, .inl ecc_113)), (ec2, .inl (G.2.2.1, 286, .inl ecy_114)), (ed, .inr (1, [.ref ed1, .ref ed2, .int eds_115])), (ed1, .inl (G.2.2.1, 16, .inl edc_116)), (ed2, .inl (G.2.2.1, 30, .inl edy_117)), (ey, .inl (G.2.1, 4000, .inl xf_107)), (b, .inl (G.2.1, N, .inl f)), (sp, .inr (3, [.ref tn, .ref tz, .ref tb, .ref tg, .int c])), (tg, .inl (G.2.2.1, 17, .inl tfg))]) ?_
                refine pb_if_ne (pc := 253) (tgt := 259) d_FileReader_readEntry_253 (by decide) (fun w158 => ?_) (fun w158 => ?_)
                · have tw158 : ¬ r_155.toInt = 0 := fun z9 => w158 ((ti_eq rfl (by decide)).mpr z9)
                  refine pb_aload (pc := 259) d_FileReader_readEntry_259 12 rfl ?_
                  refine pb_aload_n (pc := 261) d_FileReader_readEntry_261 9 rfl rfl ?_
                  refine pb_get (pc := 262) d_FileReader_readEntry_262 1 0 rfl rfl (by decide) in_FileReader k_306 rfl ?_
                  refine pb_iload (pc := 265) d_FileReader_readEntry_265 4 rfl ?_
                  refine pb_iload (pc := 267) d_FileReader_readEntry_267 6 rfl ?_
                  refine pb_aload (pc := 269) d_FileReader_readEntry_269 1 rfl ?_
                  refine pb_iload (pc := 271) d_FileReader_readEntry_271 0 rfl ?_
                  refine pb_iload (pc := 273) d_FileReader_readEntry_273 2 rfl ?_
                  refine pb_callV (pc := 275) (I := i_FileReader_readEntry) (qb := 24) (ci := 3) (nA := 6) (rest := []) (wr := [(h, .inr (7, [.ref b])), (q, .inr (5, [.ref ex, .ref et, .ref ea, .ref eb, .ref ec, .ref ed, .ref ef, .ref b, .int a2__103, .int e2__104, .int f2__105])), (ex, .inr (0, [.ref ey, .int s2__106])), (et, .inl (G.2.2.1, 316, .inl tf_108)), (ea, .inr (1, [.ref ea1, .ref ea2, .int eas])), (ea1, .inl (G.2.2.1, 16, .inl eac)), (ea2, .inl (G.2.2.1, 288, .inl eay)), (eb, .inr (1, [.ref eb1, .ref eb2, .int ebs])), (eb1, .inl (G.2.2.1, 16, .inl ebc)), (eb2, .inl (G.2.2.1, 32, .inl eby)), (ef, .inr (1, [.ref ef1, .ref ef2, .int efs_109])), (ef1, .inl (G.2.2.1, 16, .inl efc_110)), (ef2, .inl (G.2.2.1, 19, .inl efy_111)), (ec, .inr (1, [.ref ec1, .ref ec2, .int ecs_112])), (ec1, .inl (G.2.2.1, 16, .inl ecc_113)), (ec2, .inl (G.2.2.1, 286, .inl ecy_114)), (ed, .inr (1, [.ref ed1, .ref ed2, .int eds_115])), (ed1, .inl (G.2.2.1, 16, .inl edc_116)), (ed2, .inl (G.2.2.1, 30, .inl edy_117))]) d_FileReader_readEntry_275 (g_Shelf_bringIn hl G sp tn tz tb tg c tfn tfz tfb tfg b N f ey 4000 xf_107 i32 r_16 0 r_102 (by first | assumption | decide | omega) (by first | assumption | omega (splitDisjunctions := false) | omega | decide) (by first | assumption | omega (splitDisjunctions := false) | omega | decide) (by first | assumption | omega (splitDisjunctions := false) | omega | decide) (by first | assumption | omega (splitDisjunctions := false) | omega | decide) (by first | assumption | omega (splitDisjunctions := false) | omega | decide) (by first | assumption | omega (splitDisjunctions := false) | omega | decide) (by first | assumption | omega (splitDisjunctions := false) | omega | decide) (by first | assumption | omega (splitDisjunctions := false) | omega | decide) (by first | assumption | omega (splitDisjunctions := false) | omega | decide) (by first | assumption | omega (splitDisjunctions := false) | omega | decide) (by first | assumption | omega (splitDisjunctions := false) | omega | decide) (by first | assumption | omega (splitDisjunctions := false) | omega | decide) F_tfn F_tfb F_f fh129) rfl rfl [24, 2, 3, 0, 25, 23, 22] [1, 4, 5, 6, 7, 8, 9, 10, 11, 12, 13, 14, 15, 16, 17, 18, 19, 20, 21] (by decide) rfl rfl rfl (by decide) (by decide) k_700 rfl k_127 k_697 k_698 k_699 ⟨rfl, hy_Shelf_bringIn⟩ (by decide) rfl rfl (Nat.le_of_ble_eq_true rfl) (by decide) (fun v9 u160 ch159 => ?_)
                  obtain ⟨c_161, fn_162, fz_163, fb_164, fg_165⟩ := u160
                  obtain ⟨ech159, ch159⟩ := ch159
                  have ech159 : v9 = none := ech159
                  subst ech159
                  obtain ⟨fh166, fh167, fh168, fh169, fh170⟩ : (sh_I c_161.toInt fz_163 fg_165) ∧ (c_161.toInt = c.toInt + 1) ∧ (gx fg_165 c_161.toInt = gx tfg c.toInt + r_102.toInt) ∧ (sb_Fit fn_162) ∧ (sb_Fit fb_164) := ch159
                  refine pb_eq (pc' := 278) (lo' := [(17, .int 0), (16, .ref ey), (15, .int r_102), (14, .int 1), (13, .int i32), (11, .long j22), (10, .int r_16), (8, .long r_10), (6, .long r_4), (0, .ref h), (1, .int x), (2, .long lm), (4, .ref sp), (5, .ref q)]) (rest' := []) (ws' := [(h, .inr (7, [.ref b])), (q, .inr (5, [.ref ex, .ref et, .ref ea, .ref eb, .ref ec, .ref ed, .ref ef, .ref b, .int a2__103, .int e2__104, .int f2__105])), (ex, .inr (0, [.ref ey, .int s2__106])), (et, .inl (G.2.2.1, 316, .inl tf_108)), (ea, .inr (1, [.ref ea1, .ref ea2, .int eas])), (ea1, .inl (G.2.2.1, 16, .inl eac)), (ea2, .inl (G.2.2.1, 288, .inl eay)), (eb, .inr (1, [.ref eb1, .ref eb2, .int ebs])), (eb1, .inl (G.2.2.1, 16, .inl ebc)), (eb2, .inl (G.2.2.1, 32, .inl eby)), (ef, .inr (1, [.ref ef1, .ref ef2, .int efs_109])), (ef1, .inl (G.2.2.1, 16, .inl efc_110)), (ef2, .inl (G.2.2.1, 19, .inl efy_111)), (ec, .inr (1, [.ref ec1, .ref ec2, .int ecs_112])), (ec1, .inl (G.2.2.1, 16, .inl ecc_113)), (ec2, .inl (G.2.2.1, 286, .inl ecy_114)), (ed, .inr (1, [.ref ed1, .ref ed2, .int eds_115])), (ed1, .inl (G.2.2.1, 16, .inl edc_116)), (ed2, .inl (G.2.2.1, 30, .inl edy_117)), (sp, .inr (3, [.ref tn, .ref tz, .ref tb, .ref tg, .int c_161])), (tn, .inl (G.2.1, 384, .inl fn_162)), (tz, .inl (G.2.2.1, 16, .inl fz_163)), (tb, .inl (G.2.1, 12000, .inl fb_164)), (tg, .inl (G.2.2.1, 17, .inl fg_165)), (b, .inl (G.2.1, N, .inl f)), (ey, .inl (G.2.1, 4000, .inl xf_107))]) ?_
                  refine pb_iconst (pc := 278) (v := 0) d_FileReader_readEntry_278 (by decide) ?_
                  exact pb_iret (pc := 279) hQ d_FileReader_readEntry_279 rfl rfl (0, c_161, fn_162, fz_163, fb_164, fg_165, b, a2__103, e2__104, f2__105, s2__106, xf_107, tf_108, efs_109, efc_110, efy_111, ecs_112, ecc_113, ecy_114, eds_115, edc_116, edy_117) ⟨rfl, (by (try dsimp only); first | done | assumption | decide | omega), (by (try dsimp only); first | done | assumption | omega (splitDisjunctions := false) | omega | decide), (by (try dsimp only); first | done | assumption | omega (splitDisjunctions := false) | omega | decide), (by (try dsimp only); first | done | assumption | decide | omega), (by (try dsimp only); first | done | assumption | omega (splitDisjunctions := false) | omega | decide), (by (try dsimp only); first | done | assumption | decide | omega), (by (try dsimp only); first | done | assumption | omega (splitDisjunctions := false) | omega | decide), (by (try dsimp only); first | done | assumption | decide | omega), (by (try dsimp only); first | done | assumption | omega (splitDisjunctions := false) | omega | decide), fh169, fh170, fh129⟩ [0, 24, 19, 20, 21, 22, 23, 1, 2, 25, 3, 4, 5, 6, 7, 8, 9, 10, 11, 12, 13, 14, 15, 16, 17, 18] (by decide) rfl rfl (by decide) (by decide)
                · have tw158 : r_155.toInt = 0 := (ti_eq rfl (by decide)).mp w158
                  refine pb_bipush (pc := 256) (v := 6) d_FileReader_readEntry_256 (by decide) ?_
                  exact pb_iret (pc := 258) hQ d_FileReader_readEntry_258 rfl rfl (6, c, tfn, tfz, tfb, tfg, b, a2__103, e2__104, f2__105, s2__106, xf_107, tf_108, efs_109, efc_110, efy_111, ecs_112, ecc_113, ecy_114, eds_115, edc_116, edy_117) ⟨rfl, (by (try dsimp only); first | done | assumption | decide | omega), (by (try dsimp only); first | done | assumption | omega (splitDisjunctions := false) | omega | decide), (by (try dsimp only); first | done | assumption | omega (splitDisjunctions := false) | omega | decide), (by (try dsimp only); first | done | assumption | decide | omega), (by (try dsimp only); first | done | assumption | omega (splitDisjunctions := false) | omega | decide), (by (try dsimp only); first | done | assumption | decide | omega), (by (try dsimp only); first | done | assumption | omega (splitDisjunctions := false) | omega | decide), (by (try dsimp only); first | done | assumption | decide | omega), (by (try dsimp only); first | done | assumption | omega (splitDisjunctions := false) | omega | decide), F_tfn, F_tfb, fh129⟩ [1, 23, 24, 2, 3, 0, 25, 4, 5, 22, 6, 7, 8, 9, 10, 11, 12, 13, 14, 15, 16, 17, 18, 19, 20, 21] (by decide) rfl rfl (by decide) (by decide)
              · have tw152 : ¬ r_143.toInt = i151.toInt := fun z9 => w152 ((ti_eq rfl rfl).mpr z9)
                refine pb_iconst (pc := 243) (v := 5) d_FileReader_readEntry_243 (by decide) ?_
                exact pb_iret (pc := 244) hQ d_FileReader_readEntry_244 rfl rfl (5, c, tfn, tfz, tfb, tfg, b, a2__103, e2__104, f2__105, s2__106, xf_107, tf_108, efs_109, efc_110, efy_111, ecs_112, ecc_113, ecy_114, eds_115, edc_116, edy_117) ⟨rfl, (by (try dsimp only); first | done | assumption | decide | omega), (by (try dsimp only); first | done | assumption | omega (splitDisjunctions := false) | omega | decide), (by (try dsimp only); first | done | assumption | omega (splitDisjunctions := false) | omega | decide), (by (try dsimp only); first | done | assumption | decide | omega), (by (try dsimp only); first | done | assumption | omega (splitDisjunctions := false) | omega | decide), (by (try dsimp only); first | done | assumption | decide | omega), (by (try dsimp only); first | done | assumption | omega (splitDisjunctions := false) | omega | decide), (by (try dsimp only); first | done | assumption | decide | omega), (by (try dsimp only); first | done | assumption | omega (splitDisjunctions := false) | omega | decide), F_tfn, F_tfb, fh129⟩ [2, 25, 3, 4, 5, 0, 1, 6, 7, 24, 8, 9, 10, 11, 12, 13, 14, 15, 16, 17, 18, 19, 20, 21, 22, 23] (by decide) rfl rfl (by decide) (by decide)
        · have tw44 : ¬ r_41.toInt < 0 := fun z9 => w44 ((ti_lt rfl (by decide)).mpr z9)
          refine pb_iconst (pc := 112) (v := 4) d_FileReader_readEntry_112 (by decide) ?_
          exact pb_iret (pc := 113) hQ d_FileReader_readEntry_113 rfl rfl (4, c, tfn, tfz, tfb, tfg, er, at_, en, fl, xs, xf, tf, efs, efc, efy, ecs, ecc, ecy, eds, edc, edy) ⟨rfl, (by (try dsimp only); first | done | assumption | decide | omega), (by (try dsimp only); first | done | assumption | omega (splitDisjunctions := false) | omega | decide), (by (try dsimp only); first | done | assumption | omega (splitDisjunctions := false) | omega | decide), (by (try dsimp only); first | done | assumption | decide | omega), (by (try dsimp only); first | done | assumption | omega (splitDisjunctions := false) | omega | decide), (by (try dsimp only); first | done | assumption | decide | omega), (by (try dsimp only); first | done | assumption | omega (splitDisjunctions := false) | omega | decide), (by (try dsimp only); first | done | assumption | decide | omega), (by (try dsimp only); first | done | assumption | omega (splitDisjunctions := false) | omega | decide), F_tfn, F_tfb, F_xf⟩ [21, 25, 22, 23, 24, 0, 1, 2, 3, 4, 5, 6, 7, 8, 9, 10, 11, 12, 13, 14, 15, 16, 17, 18, 19, 20] (by decide) rfl rfl (by decide) (by decide)
    · have tw31 : r_29.toInt = 0 := (ti_eq rfl (by decide)).mp w31
      refine pb_iconst (pc := 74) (v := 3) d_FileReader_readEntry_74 (by decide) ?_
      exact pb_iret (pc := 75) hQ d_FileReader_readEntry_75 rfl rfl (3, c, tfn, tfz, tfb, tfg, er, at_, en, fl, xs, xf, tf, efs, efc, efy, ecs, ecc, ecy, eds, edc, edy) ⟨rfl, (by (try dsimp only); first | done | assumption | decide | omega), (by (try dsimp only); first | done | assumption | omega (splitDisjunctions := false) | omega | decide), (by (try dsimp only); first | done | assumption | omega (splitDisjunctions := false) | omega | decide), (by (try dsimp only); first | done | assumption | decide | omega), (by (try dsimp only); first | done | assumption | omega (splitDisjunctions := false) | omega | decide), (by (try dsimp only); first | done | assumption | decide | omega), (by (try dsimp only); first | done | assumption | omega (splitDisjunctions := false) | omega | decide), (by (try dsimp only); first | done | assumption | decide | omega), (by (try dsimp only); first | done | assumption | omega (splitDisjunctions := false) | omega | decide), F_tfn, F_tfb, F_xf⟩ [24, 25, 0, 1, 2, 3, 4, 5, 6, 7, 8, 9, 10, 11, 12, 13, 14, 15, 16, 17, 18, 19, 20, 21, 22, 23] (by decide) rfl rfl (by decide) (by decide)
