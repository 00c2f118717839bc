/-! ROWS OF NUMBERS -/
theorem omg_7c8a06b1f5 {x0 : Int} {x1 : Int} {x2 : Nat} {x3 : Int} (a0 : ((Int.toNat (x0 - x1)) < (x2 + (1 : Nat)))) (a1 : (¬ (x0 ≤ x1))) (a2 : (x3 = (x1 + (1 : Int)))) : ((Int.toNat (x0 - x3)) < x2) := by omega
theorem omg_d9c3f42b32 {x0 : Int} (a0 : ((x0 = (0 : Int)) ∨ (x0 = (1 : Int)))) (a1 : (¬ (x0 = (0 : Int)))) : (x0 = (1 : Int)) := by omega
theorem omg_d2f4b98d7b {x0 : Int} {x1 : Nat} {x2 : Int} (a0 : ((Int.toNat ((8 : Int) - x0)) < (x1 + (1 : Nat)))) (a1 : (¬ ((8 : Int) ≤ x0))) (a2 : (x2 = (x0 + (1 : Int)))) : ((Int.toNat ((8 : Int) - x2)) < x1) := by omega
theorem d_Book_isSame_0 : decode prog_1_method_28_code 0 = .ok (.iconst 0, 1) := by decide +kernel
theorem d_Book_isSame_1 : decode prog_1_method_28_code 1 = .ok (.istore 5, 2) := by decide +kernel
theorem d_Book_isSame_3 : decode prog_1_method_28_code 3 = .ok (.iload 5, 2) := by decide +kernel
theorem d_Book_isSame_5 : decode prog_1_method_28_code 5 = .ok (.iload 4, 2) := by decide +kernel
theorem d_Book_isSame_7 : decode prog_1_method_28_code 7 = .ok (.if_icmp .ge 26, 3) := by decide +kernel
theorem d_Book_isSame_33 : decode prog_1_method_28_code 33 = .ok (.iconst 1, 1) := by decide +kernel
theorem d_Book_isSame_34 : decode prog_1_method_28_code 34 = .ok (.ireturn, 1) := by decide +kernel
theorem d_Book_isSame_10 : decode prog_1_method_28_code 10 = .ok (.aload_n 0, 1) := by decide +kernel
theorem d_Book_isSame_11 : decode prog_1_method_28_code 11 = .ok (.iload_n 1, 1) := by decide +kernel
theorem d_Book_isSame_12 : decode prog_1_method_28_code 12 = .ok (.iload 5, 2) := by decide +kernel
theorem d_Book_isSame_14 : decode prog_1_method_28_code 14 = .ok (.iadd, 1) := by decide +kernel
theorem d_Book_isSame_15 : decode prog_1_method_28_code 15 = .ok (.baload, 1) := by decide +kernel
theorem d_Book_isSame_16 : decode prog_1_method_28_code 16 = .ok (.aload_n 2, 1) := by decide +kernel
theorem d_Book_isSame_17 : decode prog_1_method_28_code 17 = .ok (.iload_n 3, 1) := by decide +kernel
theorem d_Book_isSame_18 : decode prog_1_method_28_code 18 = .ok (.iload 5, 2) := by decide +kernel
theorem d_Book_isSame_20 : decode prog_1_method_28_code 20 = .ok (.iadd, 1) := by decide +kernel
theorem d_Book_isSame_21 : decode prog_1_method_28_code 21 = .ok (.baload, 1) := by decide +kernel
theorem d_Book_isSame_22 : decode prog_1_method_28_code 22 = .ok (.if_icmp .eq 5, 3) := by decide +kernel
theorem d_Book_isSame_27 : decode prog_1_method_28_code 27 = .ok (.iinc 5 1, 3) := by decide +kernel
theorem d_Book_isSame_30 : decode prog_1_method_28_code 30 = .ok (.goto (-27), 3) := by decide +kernel
theorem d_Book_isSame_25 : decode prog_1_method_28_code 25 = .ok (.iconst 0, 1) := by decide +kernel
theorem d_Book_isSame_26 : decode prog_1_method_28_code 26 = .ok (.ireturn, 1) := by decide +kernel
abbrev y_Book_isSame : MethodName := ⟨"PackageBook", "isSame", "([BI[BII)Z"⟩
abbrev i_Book_isSame : pb_I := (y_Book_isSame, prog_1_method_28_code, 6, (some Jvm.ClassFile.FieldType.boolean), [], { frames := 0, cells := 0, slots := 0, locals := 0 })
set_option maxRecDepth 100000 in
set_option maxHeartbeats 4000000 in
theorem g_isSame {l : Launch} (hl : l.stackTraces = false) (G : pb_G) (a : Nat) (b : Nat) (Na : Nat) (Nb : Nat) (f : Nat → Int32) (g : Nat → Int32) (x : Int32) (y : Int32) (n : Int32) (h0 : 0 ≤ x.toInt) (h1 : 0 ≤ y.toInt) (h2 : x.toInt + n.toInt ≤ Na) (h3 : y.toInt + n.toInt ≤ Nb) (h4 : Na ≤ 1000000) (h5 : Nb ≤ 1000000) (F_f : sb_Fit f) (F_g : sb_Fit g) : Cn l G i_Book_isSame [.ref a, .int x, .ref b, .int y, .int n] [(a, .inl (G.2.1, Na, .inl f)), (b, .inl (G.2.1, Nb, .inl g))] (S := Int32) (fun rv_ u => rv_ = some (.int u) ∧ (u.toInt = 0 ∨ u.toInt = 1) ∧ (u.toInt = 1 → ∀ j : Int, 0 ≤ j → j < n.toInt → gx f (x.toInt + j) = gx g (y.toInt + j)) ∧ (u.toInt = 0 → ¬ (∀ j : Int, 0 ≤ j → j < n.toInt → gx f (x.toInt + j) = gx g (y.toInt + j)))) (fun u => [(a, .inl (G.2.1, Na, .inl f)), (b, .inl (G.2.1, Nb, .inl g))]) := by
  refine Cn.of hl (by decide +kernel) rfl (Nat.le_of_ble_eq_true rfl) (fun M hQ => ?_)
  refine pb_eq (pc' := 0) (lo' := [(0, .ref a), (1, .int x), (2, .ref b), (3, .int y), (4, .int n)]) (rest' := []) (ws' := [(a, .inl (G.2.1, Na, .inl f)), (b, .inl (G.2.1, Nb, .inl g))]) ?_
  have zl0 : (0 : Int32).toInt = 0 := by decide
  have zl1 : (1 : Int32).toInt = 1 := by decide
  refine pb_iconst (pc := 0) (v := 0) d_Book_isSame_0 (by decide) ?_
  refine pb_istore (pc := 1) (lo' := [(5, .int 0), (0, .ref a), (1, .int x), (2, .ref b), (3, .int y), (4, .int n)]) d_Book_isSame_1 (by decide) rfl ?_
  have hL3_1 : ∀ (N9 : Nat) (k : Int32), (0 ≤ k.toInt) → (∀ j : Int, 0 ≤ j → j < k.toInt → gx f (x.toInt + j) = gx g (y.toInt + j)) → ((n.toInt - k.toInt).toNat) < N9 → pb_P l G M i_Book_isSame 3 [(5, .int k), (0, .ref a), (1, .int x), (2, .ref b), (3, .int y), (4, .int n)] [] [(a, .inl (G.2.1, Na, .inl f)), (b, .inl (G.2.1, Nb, .inl g))] 0 0 := by
    intro N9
    induction N9 with
    | zero => intro k hk hg hm9; exact absurd hm9 (Nat.not_lt_zero _)
    | succ N9 ih3 =>
      intro k hk hg hm9
      refine pb_iload (pc := 3) d_Book_isSame_3 0 rfl ?_
      refine pb_iload (pc := 5) d_Book_isSame_5 5 rfl ?_
      refine pb_icmp_ge (pc := 7) (tgt := 33) d_Book_isSame_7 (by decide) (fun w2 => ?_) (fun w2 => ?_)
      · have tw2 : n.toInt ≤ k.toInt := (ti_le rfl rfl).mp w2
        refine pb_iconst (pc := 33) (v := 1) d_Book_isSame_33 (by decide) ?_
        exact pb_iret (pc := 34) hQ d_Book_isSame_34 rfl rfl (1) ⟨rfl, (by (try dsimp only); first | done | (with_reducible assumption) | omega (splitDisjunctions := false) | assumption | omega | decide), (show (1 : Int32).toInt = 1 → ∀ j : Int, 0 ≤ j → j < n.toInt → gx f (x.toInt + j) = gx g (y.toInt + j) from (fun _ j h0 h1 => hg j h0 (by omega))), (show (1 : Int32).toInt = 0 → ¬ (∀ j : Int, 0 ≤ j → j < n.toInt → gx f (x.toInt + j) = gx g (y.toInt + j)) from (fun q9 => absurd q9 (by omega)))⟩ [0, 1] (by decide) rfl rfl (by decide) (by decide)
      · have tw2 : ¬ n.toInt ≤ k.toInt := fun z9 => w2 ((ti_le rfl rfl).mpr z9)
        refine pb_aload_n (pc := 10) d_Book_isSame_10 1 rfl rfl ?_
        refine pb_iload_n (pc := 11) d_Book_isSame_11 2 rfl rfl ?_
        refine pb_iload (pc := 12) d_Book_isSame_12 0 rfl ?_
        refine pb_iadd (pc := 14) d_Book_isSame_14 ?_
        refine pb_topi (fun i3 ei3 => ?_)
        try have ti3 : i3.toInt = x.toInt + k.toInt := ti_add ei3 rfl rfl (by omega) (by omega)
        refine pb_bald (pc := 15) d_Book_isSame_15 0 rfl (vp_in_iff.mpr (by constructor <;> omega)) ?_
        refine pb_topi (fun i4 ei4 => ?_)
        have xi4 : i4 = gr f (x.toInt + k.toInt) := gr_ld ei4 (by omega)
        have yi4 : i4.toInt = gx f (x.toInt + k.toInt) := congrArg Int32.toInt xi4
        have ti4 : -128 ≤ i4.toInt ∧ i4.toInt ≤ 127 := ti_fit (F_f _) ei4
        refine pb_aload_n (pc := 16) d_Book_isSame_16 3 rfl rfl ?_
        refine pb_iload_n (pc := 17) d_Book_isSame_17 4 rfl rfl ?_
        refine pb_iload (pc := 18) d_Book_isSame_18 0 rfl ?_
        refine pb_iadd (pc := 20) d_Book_isSame_20 ?_
        refine pb_topi (fun i5 ei5 => ?_)
        try have ti5 : i5.toInt = y.toInt + k.toInt := ti_add ei5 rfl rfl (by omega) (by omega)
        refine pb_bald (pc := 21) d_Book_isSame_21 1 rfl (vp_in_iff.mpr (by constructor <;> omega)) ?_
        refine pb_topi (fun i6 ei6 => ?_)
        have xi6 : i6 = gr g (y.toInt + k.toInt) := gr_ld ei6 (by omega)
        have yi6 : i6.toInt = gx g (y.toInt + k.toInt) := congrArg Int32.toInt xi6
        have ti6 : -128 ≤ i6.toInt ∧ i6.toInt ≤ 127 := ti_fit (F_g _) ei6
        refine pb_icmp_eq (pc := 22) (tgt := 27) d_Book_isSame_22 (by decide) (fun w7 => ?_) (fun w7 => ?_)
        · have tw7 : i4.toInt = i6.toInt := (ti_eq rfl rfl).mp w7
          refine pb_iincN (pc := 27) (c := 1) d_Book_isSame_27 0 rfl (by decide) (by decide) (fun i8 ei8 => ?_)
          have ti8 : i8.toInt = k.toInt + 1 := ti_add ei8 rfl (by decide) (by omega) (by omega)
          refine pb_eq (pc' := 30) (lo' := [(5, .int i8), (0, .ref a), (1, .int x), (2, .ref b), (3, .int y), (4, .int n)]) (rest' := []) (ws' := [(a, .inl (G.2.1, Na, .inl f)), (b, .inl (G.2.1, Nb, .inl g))]) ?_
          refine pb_goto (pc := 30) (tgt := 3) d_Book_isSame_30 (by decide) ?_
          exact ih3 i8 (by first | (with_reducible assumption) | omega (splitDisjunctions := false) | assumption | omega | decide) (lp_st hg (by omega) (by omega)) (by (exact omg_7c8a06b1f5 hm9 tw2 ti8))
        · have tw7 : ¬ i4.toInt = i6.toInt := fun z9 => w7 ((ti_eq rfl rfl).mpr z9)
          refine pb_iconst (pc := 25) (v := 0) d_Book_isSame_25 (by decide) ?_
          exact pb_iret (pc := 26) hQ d_Book_isSame_26 rfl rfl (0) ⟨rfl, (by (try dsimp only); first | done | (with_reducible assumption) | omega (splitDisjunctions := false) | assumption | omega | decide), (show (0 : Int32).toInt = 1 → ∀ j : Int, 0 ≤ j → j < n.toInt → gx f (x.toInt + j) = gx g (y.toInt + j) from (fun q9 => absurd q9 (by omega))), (show (0 : Int32).toInt = 0 → ¬ (∀ j : Int, 0 ≤ j → j < n.toInt → gx f (x.toInt + j) = gx g (y.toInt + j)) from (fun _ q9 => absurd (q9 k.toInt hk (by omega)) (by omega)))⟩ [0, 1] (by decide) rfl rfl (by decide) (by decide)
  exact hL3_1 _ 0 (by first | (with_reducible assumption) | omega (splitDisjunctions := false) | assumption | omega | decide) (fun j h0 h1 => absurd h1 (by omega)) (Nat.lt_succ_self _)

set_option maxRecDepth 100000 in
set_option maxHeartbeats 4000000 in
theorem g_isSame1 {l : Launch} (hl : l.stackTraces = false) (G : pb_G) (a : Nat) (Na : Nat) (f : Nat → Int32) (x : Int32) (y : Int32) (n : Int32) (h0 : 0 ≤ x.toInt) (h1 : 0 ≤ y.toInt) (h2 : x.toInt + n.toInt ≤ Na) (h3 : y.toInt + n.toInt ≤ Na) (h4 : Na ≤ 1000000) (h5 : Na ≤ 1000000) (F_f : sb_Fit f) : Cn l G i_Book_isSame [.ref a, .int x, .ref a, .int y, .int n] [(a, .inl (G.2.1, Na, .inl f))] (S := Int32) (fun rv_ u => rv_ = some (.int u) ∧ (u.toInt = 0 ∨ u.toInt = 1) ∧ (u.toInt = 1 → ∀ j : Int, 0 ≤ j → j < n.toInt → gx f (x.toInt + j) = gx f (y.toInt + j)) ∧ (u.toInt = 0 → ¬ (∀ j : Int, 0 ≤ j → j < n.toInt → gx f (x.toInt + j) = gx f (y.toInt + j)))) (fun u => [(a, .inl (G.2.1, Na, .inl f))]) := by
  refine Cn.of hl (by decide +kernel) rfl (Nat.le_of_ble_eq_true rfl) (fun M hQ => ?_)
  refine pb_eq (pc' := 0) (lo' := [(0, .ref a), (1, .int x), (2, .ref a), (3, .int y), (4, .int n)]) (rest' := []) (ws' := [(a, .inl (G.2.1, Na, .inl f))]) ?_
  have zl0 : (0 : Int32).toInt = 0 := by decide
  have zl1 : (1 : Int32).toInt = 1 := by decide
  refine pb_iconst (pc := 0) (v := 0) d_Book_isSame_0 (by decide) ?_
  refine pb_istore (pc := 1) (lo' := [(5, .int 0), (0, .ref a), (1, .int x), (2, .ref a), (3, .int y), (4, .int n)]) d_Book_isSame_1 (by decide) rfl ?_
  have hL3_1 : ∀ (N9 : Nat) (k : Int32), (0 ≤ k.toInt) → (∀ j : Int, 0 ≤ j → j < k.toInt → gx f (x.toInt + j) = gx f (y.toInt + j)) → ((n.toInt - k.toInt).toNat) < N9 → pb_P l G M i_Book_isSame 3 [(5, .int k), (0, .ref a), (1, .int x), (2, .ref a), (3, .int y), (4, .int n)] [] [(a, .inl (G.2.1, Na, .inl f))] 0 0 := by
    intro N9
    induction N9 with
    | zero => intro k hk hg hm9; exact absurd hm9 (Nat.not_lt_zero _)
    | succ N9 ih3 =>
      intro k hk hg hm9
      refine pb_iload (pc := 3) d_Book_isSame_3 0 rfl ?_
      refine pb_iload (pc := 5) d_Book_isSame_5 5 rfl ?_
      refine pb_icmp_ge (pc := 7) (tgt := 33) d_Book_isSame_7 (by decide) (fun w2 => ?_) (fun w2 => ?_)
      · have tw2 : n.toInt ≤ k.toInt := (ti_le rfl rfl).mp w2
        refine pb_iconst (pc := 33) (v := 1) d_Book_isSame_33 (by decide) ?_
        exact pb_iret (pc := 34) hQ d_Book_isSame_34 rfl rfl (1) ⟨rfl, (by (try dsimp only); first | done | (with_reducible assumption) | omega (splitDisjunctions := false) | assumption | omega | decide), (show (1 : Int32).toInt = 1 → ∀ j : Int, 0 ≤ j → j < n.toInt → gx f (x.toInt + j) = gx f (y.toInt + j) from (fun _ j h0 h1 => hg j h0 (by omega))), (show (1 : Int32).toInt = 0 → ¬ (∀ j : Int, 0 ≤ j → j < n.toInt → gx f (x.toInt + j) = gx f (y.toInt + j)) from (fun q9 => absurd q9 (by omega)))⟩ [0] (by decide) rfl rfl (by decide) (by decide)
      · have tw2 : ¬ n.toInt ≤ k.toInt := fun z9 => w2 ((ti_le rfl rfl).mpr z9)
        refine pb_aload_n (pc := 10) d_Book_isSame_10 1 rfl rfl ?_
        refine pb_iload_n (pc := 11) d_Book_isSame_11 2 rfl rfl ?_
        refine pb_iload (pc := 12) d_Book_isSame_12 0 rfl ?_
        refine pb_iadd (pc := 14) d_Book_isSame_14 ?_
        refine pb_topi (fun i3 ei3 => ?_)
        try have ti3 : i3.toInt = x.toInt + k.toInt := ti_add ei3 rfl rfl (by omega) (by omega)
        refine pb_bald (pc := 15) d_Book_isSame_15 0 rfl (vp_in_iff.mpr (by constructor <;> omega)) ?_
        refine pb_topi (fun i4 ei4 => ?_)
        have xi4 : i4 = gr f (x.toInt + k.toInt) := gr_ld ei4 (by omega)
        have yi4 : i4.toInt = gx f (x.toInt + k.toInt) := congrArg Int32.toInt xi4
        have ti4 : -128 ≤ i4.toInt ∧ i4.toInt ≤ 127 := ti_fit (F_f _) ei4
        refine pb_aload_n (pc := 16) d_Book_isSame_16 3 rfl rfl ?_
        refine pb_iload_n (pc := 17) d_Book_isSame_17 4 rfl rfl ?_
        refine pb_iload (pc := 18) d_Book_isSame_18 0 rfl ?_
        refine pb_iadd (pc := 20) d_Book_isSame_20 ?_
        refine pb_topi (fun i5 ei5 => ?_)
        try have ti5 : i5.toInt = y.toInt + k.toInt := ti_add ei5 rfl rfl (by omega) (by omega)
        refine pb_bald (pc := 21) d_Book_isSame_21 0 rfl (vp_in_iff.mpr (by constructor <;> omega)) ?_
        refine pb_topi (fun i6 ei6 => ?_)
        have xi6 : i6 = gr f (y.toInt + k.toInt) := gr_ld ei6 (by omega)
        have yi6 : i6.toInt = gx f (y.toInt + k.toInt) := congrArg Int32.toInt xi6
        have ti6 : -128 ≤ i6.toInt ∧ i6.toInt ≤ 127 := ti_fit (F_f _) ei6
        refine pb_icmp_eq (pc := 22) (tgt := 27) d_Book_isSame_22 (by decide) (fun w7 => ?_) (fun w7 => ?_)
        · have tw7 : i4.toInt = i6.toInt := (ti_eq rfl rfl).mp w7
          refine pb_iincN (pc := 27) (c := 1) d_Book_isSame_27 0 rfl (by decide) (by decide) (fun i8 ei8 => ?_)
          have ti8 : i8.toInt = k.toInt + 1 := ti_add ei8 rfl (by decide) (by omega) (by omega)
          refine pb_eq (pc' := 30) (lo' := [(5, .int i8), (0, .ref a), (1, .int x), (2, .ref a), (3, .int y), (4, .int n)]) (rest' := []) (ws' := [(a, .inl (G.2.1, Na, .inl f))]) ?_
          refine pb_goto (pc := 30) (tgt := 3) d_Book_isSame_30 (by decide) ?_
          exact ih3 i8 (by first | (with_reducible assumption) | omega (splitDisjunctions := false) | assumption | omega | decide) (lp_st hg (by omega) (by omega)) (by (exact omg_7c8a06b1f5 hm9 tw2 ti8))
        · have tw7 : ¬ i4.toInt = i6.toInt := fun z9 => w7 ((ti_eq rfl rfl).mpr z9)
          refine pb_iconst (pc := 25) (v := 0) d_Book_isSame_25 (by decide) ?_
          exact pb_iret (pc := 26) hQ d_Book_isSame_26 rfl rfl (0) ⟨rfl, (by (try dsimp only); first | done | (with_reducible assumption) | omega (splitDisjunctions := false) | assumption | omega | decide), (show (0 : Int32).toInt = 1 → ∀ j : Int, 0 ≤ j → j < n.toInt → gx f (x.toInt + j) = gx f (y.toInt + j) from (fun q9 => absurd q9 (by omega))), (show (0 : Int32).toInt = 0 → ¬ (∀ j : Int, 0 ≤ j → j < n.toInt → gx f (x.toInt + j) = gx f (y.toInt + j)) from (fun _ q9 => absurd (q9 k.toInt hk (by omega)) (by omega)))⟩ [0] (by decide) rfl rfl (by decide) (by decide)
  exact hL3_1 _ 0 (by first | (with_reducible assumption) | omega (splitDisjunctions := false) | assumption | omega | decide) (fun j h0 h1 => absurd h1 (by omega)) (Nat.lt_succ_self _)

theorem d_Book_isPiece_0 : decode prog_1_method_27_code 0 = .ok (.iconst 0, 1) := by decide +kernel
theorem d_Book_isPiece_1 : decode prog_1_method_27_code 1 = .ok (.istore_n 3, 1) := by decide +kernel
theorem d_Book_isPiece_2 : decode prog_1_method_27_code 2 = .ok (.iload_n 1, 1) := by decide +kernel
theorem d_Book_isPiece_3 : decode prog_1_method_27_code 3 = .ok (.istore 4, 2) := by decide +kernel
theorem d_Book_isPiece_5 : decode prog_1_method_27_code 5 = .ok (.iload 4, 2) := by decide +kernel
theorem d_Book_isPiece_7 : decode prog_1_method_27_code 7 = .ok (.iload_n 2, 1) := by decide +kernel
theorem d_Book_isPiece_8 : decode prog_1_method_27_code 8 = .ok (.if_icmp .ge 65, 3) := by decide +kernel
theorem d_Book_isPiece_73 : decode prog_1_method_27_code 73 = .ok (.iload_n 2, 1) := by decide +kernel
theorem d_Book_isPiece_74 : decode prog_1_method_27_code 74 = .ok (.iload_n 1, 1) := by decide +kernel
theorem d_Book_isPiece_75 : decode prog_1_method_27_code 75 = .ok (.if_icmp .le 19, 3) := by decide +kernel
theorem d_Book_isPiece_94 : decode prog_1_method_27_code 94 = .ok (.iconst 0, 1) := by decide +kernel
theorem d_Book_isPiece_95 : decode prog_1_method_27_code 95 = .ok (.ireturn, 1) := by decide +kernel
theorem d_Book_isPiece_78 : decode prog_1_method_27_code 78 = .ok (.iload_n 3, 1) := by decide +kernel
theorem d_Book_isPiece_79 : decode prog_1_method_27_code 79 = .ok (.iload_n 2, 1) := by decide +kernel
theorem d_Book_isPiece_80 : decode prog_1_method_27_code 80 = .ok (.iload_n 1, 1) := by decide +kernel
theorem d_Book_isPiece_81 : decode prog_1_method_27_code 81 = .ok (.isub, 1) := by decide +kernel
theorem d_Book_isPiece_82 : decode prog_1_method_27_code 82 = .ok (.if_icmp .lt 8, 3) := by decide +kernel
theorem d_Book_isPiece_90 : decode prog_1_method_27_code 90 = .ok (.iconst 1, 1) := by decide +kernel
theorem d_Book_isPiece_91 : decode prog_1_method_27_code 91 = .ok (.goto 4, 3) := by decide +kernel
theorem d_Book_isPiece_85 : decode prog_1_method_27_code 85 = .ok (.iload_n 3, 1) := by decide +kernel
theorem d_Book_isPiece_86 : decode prog_1_method_27_code 86 = .ok (.iconst 2, 1) := by decide +kernel
theorem d_Book_isPiece_87 : decode prog_1_method_27_code 87 = .ok (.if_icmp .le 7, 3) := by decide +kernel
theorem d_Book_isPiece_11 : decode prog_1_method_27_code 11 = .ok (.aload_n 0, 1) := by decide +kernel
theorem d_Book_isPiece_12 : decode prog_1_method_27_code 12 = .ok (.iload 4, 2) := by decide +kernel
theorem d_Book_isPiece_14 : decode prog_1_method_27_code 14 = .ok (.baload, 1) := by decide +kernel
theorem d_Book_isPiece_15 : decode prog_1_method_27_code 15 = .ok (.istore 5, 2) := by decide +kernel
theorem d_Book_isPiece_17 : decode prog_1_method_27_code 17 = .ok (.iload 5, 2) := by decide +kernel
theorem d_Book_isPiece_19 : decode prog_1_method_27_code 19 = .ok (.bipush 46, 2) := by decide +kernel
theorem d_Book_isPiece_21 : decode prog_1_method_27_code 21 = .ok (.if_icmp .ne 9, 3) := by decide +kernel
theorem d_Book_isPiece_30 : decode prog_1_method_27_code 30 = .ok (.iload 5, 2) := by decide +kernel
theorem d_Book_isPiece_32 : decode prog_1_method_27_code 32 = .ok (.bipush 97, 2) := by decide +kernel
theorem d_Book_isPiece_34 : decode prog_1_method_27_code 34 = .ok (.if_icmp .lt 10, 3) := by decide +kernel
theorem d_Book_isPiece_44 : decode prog_1_method_27_code 44 = .ok (.iload 5, 2) := by decide +kernel
theorem d_Book_isPiece_46 : decode prog_1_method_27_code 46 = .ok (.bipush 48, 2) := by decide +kernel
theorem d_Book_isPiece_48 : decode prog_1_method_27_code 48 = .ok (.if_icmp .lt 10, 3) := by decide +kernel
theorem d_Book_isPiece_58 : decode prog_1_method_27_code 58 = .ok (.iload 5, 2) := by decide +kernel
theorem d_Book_isPiece_60 : decode prog_1_method_27_code 60 = .ok (.bipush 95, 2) := by decide +kernel
theorem d_Book_isPiece_62 : decode prog_1_method_27_code 62 = .ok (.if_icmp .eq 5, 3) := by decide +kernel
theorem d_Book_isPiece_67 : decode prog_1_method_27_code 67 = .ok (.iinc 4 1, 3) := by decide +kernel
theorem d_Book_isPiece_70 : decode prog_1_method_27_code 70 = .ok (.goto (-65), 3) := by decide +kernel
theorem d_Book_isPiece_65 : decode prog_1_method_27_code 65 = .ok (.iconst 0, 1) := by decide +kernel
theorem d_Book_isPiece_66 : decode prog_1_method_27_code 66 = .ok (.ireturn, 1) := by decide +kernel
theorem d_Book_isPiece_51 : decode prog_1_method_27_code 51 = .ok (.iload 5, 2) := by decide +kernel
theorem d_Book_isPiece_53 : decode prog_1_method_27_code 53 = .ok (.bipush 57, 2) := by decide +kernel
theorem d_Book_isPiece_55 : decode prog_1_method_27_code 55 = .ok (.if_icmp .le 12, 3) := by decide +kernel
theorem d_Book_isPiece_37 : decode prog_1_method_27_code 37 = .ok (.iload 5, 2) := by decide +kernel
theorem d_Book_isPiece_39 : decode prog_1_method_27_code 39 = .ok (.bipush 122, 2) := by decide +kernel
theorem d_Book_isPiece_41 : decode prog_1_method_27_code 41 = .ok (.if_icmp .le 26, 3) := by decide +kernel
theorem d_Book_isPiece_24 : decode prog_1_method_27_code 24 = .ok (.iinc 3 1, 3) := by decide +kernel
theorem d_Book_isPiece_27 : decode prog_1_method_27_code 27 = .ok (.goto 40, 3) := by decide +kernel
abbrev y_Book_isPiece : MethodName := ⟨"PackageBook", "isPiece", "([BII)Z"⟩
abbrev i_Book_isPiece : pb_I := (y_Book_isPiece, prog_1_method_27_code, 6, (some Jvm.ClassFile.FieldType.boolean), [], { frames := 0, cells := 0, slots := 0, locals := 0 })
set_option maxRecDepth 100000 in
set_option maxHeartbeats 4000000 in
theorem g_isPiece {l : Launch} (hl : l.stackTraces = false) (G : pb_G) (a : Nat) (Na : Nat) (f : Nat → Int32) (x : Int32) (e : Int32) (h0 : 0 ≤ x.toInt) (h1 : e.toInt ≤ Na) (h2 : Na ≤ 1000000) (h3 : x.toInt ≤ 1000000) (F_f : sb_Fit f) : Cn l G i_Book_isPiece [.ref a, .int x, .int e] [(a, .inl (G.2.1, Na, .inl f))] (S := Int32) (fun rv_ u => rv_ = some (.int u) ∧ (u.toInt = 0 ∨ u.toInt = 1) ∧ (u.toInt = 1 → pe_ (gx f) x.toInt e.toInt) ∧ (u.toInt = 0 → ¬ pe_ (gx f) x.toInt e.toInt)) (fun u => [(a, .inl (G.2.1, Na, .inl f))]) := by
  refine Cn.of hl (by decide +kernel) rfl (Nat.le_of_ble_eq_true rfl) (fun M hQ => ?_)
  refine pb_eq (pc' := 0) (lo' := [(0, .ref a), (1, .int x), (2, .int e)]) (rest' := []) (ws' := [(a, .inl (G.2.1, Na, .inl f))]) ?_
  have zl0 : (0 : Int32).toInt = 0 := by decide
  have zl1 : (1 : Int32).toInt = 1 := by decide
  have zl2 : (2 : Int32).toInt = 2 := by decide
  have zl46 : (46 : Int32).toInt = 46 := by decide
  have zl48 : (48 : Int32).toInt = 48 := by decide
  have zl57 : (57 : Int32).toInt = 57 := by decide
  have zl95 : (95 : Int32).toInt = 95 := by decide
  have zl97 : (97 : Int32).toInt = 97 := by decide
  have zl122 : (122 : Int32).toInt = 122 := by decide
  refine pb_iconst (pc := 0) (v := 0) d_Book_isPiece_0 (by decide) ?_
  refine pb_istore_n (pc := 1) (lo' := [(3, .int 0), (0, .ref a), (1, .int x), (2, .int e)]) d_Book_isPiece_1 rfl (by decide) rfl ?_
  refine pb_iload_n (pc := 2) d_Book_isPiece_2 2 rfl rfl ?_
  refine pb_istore (pc := 3) (lo' := [(4, .int x), (3, .int 0), (0, .ref a), (1, .int x), (2, .int e)]) d_Book_isPiece_3 (by decide) rfl ?_
  have hL5_1 : ∀ (N9 : Nat) (k : Int32) (d : Int32), (x.toInt ≤ k.toInt) → (0 ≤ d.toInt) → (d.toInt ≤ k.toInt - x.toInt) → (k.toInt ≤ e.toInt ∨ k.toInt = x.toInt) → (∀ j : Int, x.toInt ≤ j → j < k.toInt → ch_ (gx f j)) → (d.toInt = k.toInt - x.toInt → ∀ j : Int, x.toInt ≤ j → j < k.toInt → gx f j = 46) → ((∀ j : Int, x.toInt ≤ j → j < k.toInt → gx f j = 46) → d.toInt = k.toInt - x.toInt) → ((e.toInt - k.toInt).toNat) < N9 → pb_P l G M i_Book_isPiece 5 [(4, .int k), (3, .int d), (0, .ref a), (1, .int x), (2, .int e)] [] [(a, .inl (G.2.1, Na, .inl f))] 0 0 := by
    intro N9
    induction N9 with
    | zero => intro k d hk hd hd2 hk2 hc hy hn hm9; exact absurd hm9 (Nat.not_lt_zero _)
    | succ N9 ih5 =>
      intro k d hk hd hd2 hk2 hc hy hn hm9
      refine pb_iload (pc := 5) d_Book_isPiece_5 0 rfl ?_
      refine pb_iload_n (pc := 7) d_Book_isPiece_7 4 rfl rfl ?_
      refine pb_icmp_ge (pc := 8) (tgt := 73) d_Book_isPiece_8 (by decide) (fun w2 => ?_) (fun w2 => ?_)
      · have tw2 : e.toInt ≤ k.toInt := (ti_le rfl rfl).mp w2
        refine pb_iload_n (pc := 73) d_Book_isPiece_73 4 rfl rfl ?_
        refine pb_iload_n (pc := 74) d_Book_isPiece_74 3 rfl rfl ?_
        refine pb_icmp_le (pc := 75) (tgt := 94) d_Book_isPiece_75 (by decide) (fun w3 => ?_) (fun w3 => ?_)
        · have tw3 : e.toInt ≤ x.toInt := (ti_le rfl rfl).mp w3
          refine pb_iconst (pc := 94) (v := 0) d_Book_isPiece_94 (by decide) ?_
          exact pb_iret (pc := 95) hQ d_Book_isPiece_95 rfl rfl (0) ⟨rfl, (by (try dsimp only); first | done | (with_reducible assumption) | omega (splitDisjunctions := false) | assumption | omega | decide), (show (0 : Int32).toInt = 1 → pe_ (gx f) x.toInt e.toInt from (by first | exact fun q9 => absurd q9 (by omega) | exact fun _ => pe_y (d := d.toInt) (by omega) (fun j h0 h1 => hc j h0 (by omega)) (fun q9 => by have q8 := hn (fun j h0 h1 => q9 j h0 (by omega)); omega) (by omega))), (show (0 : Int32).toInt = 0 → ¬ pe_ (gx f) x.toInt e.toInt from (by first | exact fun q9 => absurd q9 (by omega) | exact fun _ => pe_n (d := d.toInt) (fun q9 j h0 h1 => hy (by omega) j h0 (by omega)) (by omega) (fun _ => by omega)))⟩ [0] (by decide) rfl rfl (by decide) (by decide)
        · have tw3 : ¬ e.toInt ≤ x.toInt := fun z9 => w3 ((ti_le rfl rfl).mpr z9)
          refine pb_iload_n (pc := 78) d_Book_isPiece_78 1 rfl rfl ?_
          refine pb_iload_n (pc := 79) d_Book_isPiece_79 4 rfl rfl ?_
          refine pb_iload_n (pc := 80) d_Book_isPiece_80 3 rfl rfl ?_
          refine pb_isub (pc := 81) d_Book_isPiece_81 ?_
          refine pb_topi (fun i4 ei4 => ?_)
          try have ti4 : i4.toInt = e.toInt - x.toInt := ti_sub ei4 rfl rfl (by omega) (by omega)
          refine pb_icmp_lt (pc := 82) (tgt := 90) d_Book_isPiece_82 (by decide) (fun w5 => ?_) (fun w5 => ?_)
          · have tw5 : d.toInt < i4.toInt := (ti_lt rfl rfl).mp w5
            refine pb_iconst (pc := 90) (v := 1) d_Book_isPiece_90 (by decide) ?_
            refine pb_goto (pc := 91) (tgt := 95) d_Book_isPiece_91 (by decide) ?_
            exact pb_iret (pc := 95) hQ d_Book_isPiece_95 rfl rfl (1) ⟨rfl, (by (try dsimp only); first | done | (with_reducible assumption) | omega (splitDisjunctions := false) | assumption | omega | decide), (show (1 : Int32).toInt = 1 → pe_ (gx f) x.toInt e.toInt from (by first | exact fun q9 => absurd q9 (by omega) | exact fun _ => pe_y (d := d.toInt) (by omega) (fun j h0 h1 => hc j h0 (by omega)) (fun q9 => by have q8 := hn (fun j h0 h1 => q9 j h0 (by omega)); omega) (by omega))), (show (1 : Int32).toInt = 0 → ¬ pe_ (gx f) x.toInt e.toInt from (by first | exact fun q9 => absurd q9 (by omega) | exact fun _ => pe_n (d := d.toInt) (fun q9 j h0 h1 => hy (by omega) j h0 (by omega)) (by omega) (fun _ => by omega)))⟩ [0] (by decide) rfl rfl (by decide) (by decide)
          · have tw5 : ¬ d.toInt < i4.toInt := fun z9 => w5 ((ti_lt rfl rfl).mpr z9)
            refine pb_iload_n (pc := 85) d_Book_isPiece_85 1 rfl rfl ?_
            refine pb_iconst (pc := 86) (v := 2) d_Book_isPiece_86 (by decide) ?_
            refine pb_icmp_le (pc := 87) (tgt := 94) d_Book_isPiece_87 (by decide) (fun w6 => ?_) (fun w6 => ?_)
            · have tw6 : d.toInt ≤ 2 := (ti_le rfl (by decide)).mp w6
              refine pb_iconst (pc := 94) (v := 0) d_Book_isPiece_94 (by decide) ?_
              exact pb_iret (pc := 95) hQ d_Book_isPiece_95 rfl rfl (0) ⟨rfl, (by (try dsimp only); first | done | (with_reducible assumption) | omega (splitDisjunctions := false) | assumption | omega | decide), (show (0 : Int32).toInt = 1 → pe_ (gx f) x.toInt e.toInt from (by first | exact fun q9 => absurd q9 (by omega) | exact fun _ => pe_y (d := d.toInt) (by omega) (fun j h0 h1 => hc j h0 (by omega)) (fun q9 => by have q8 := hn (fun j h0 h1 => q9 j h0 (by omega)); omega) (by omega))), (show (0 : Int32).toInt = 0 → ¬ pe_ (gx f) x.toInt e.toInt from (by first | exact fun q9 => absurd q9 (by omega) | exact fun _ => pe_n (d := d.toInt) (fun q9 j h0 h1 => hy (by omega) j h0 (by omega)) (by omega) (fun _ => by omega)))⟩ [0] (by decide) rfl rfl (by decide) (by decide)
            · have tw6 : ¬ d.toInt ≤ 2 := fun z9 => w6 ((ti_le rfl (by decide)).mpr z9)
              refine pb_iconst (pc := 90) (v := 1) d_Book_isPiece_90 (by decide) ?_
              refine pb_goto (pc := 91) (tgt := 95) d_Book_isPiece_91 (by decide) ?_
              exact pb_iret (pc := 95) hQ d_Book_isPiece_95 rfl rfl (1) ⟨rfl, (by (try dsimp only); first | done | (with_reducible assumption) | omega (splitDisjunctions := false) | assumption | omega | decide), (show (1 : Int32).toInt = 1 → pe_ (gx f) x.toInt e.toInt from (by first | exact fun q9 => absurd q9 (by omega) | exact fun _ => pe_y (d := d.toInt) (by omega) (fun j h0 h1 => hc j h0 (by omega)) (fun q9 => by have q8 := hn (fun j h0 h1 => q9 j h0 (by omega)); omega) (by omega))), (show (1 : Int32).toInt = 0 → ¬ pe_ (gx f) x.toInt e.toInt from (by first | exact fun q9 => absurd q9 (by omega) | exact fun _ => pe_n (d := d.toInt) (fun q9 j h0 h1 => hy (by omega) j h0 (by omega)) (by omega) (fun _ => by omega)))⟩ [0] (by decide) rfl rfl (by decide) (by decide)
      · have tw2 : ¬ e.toInt ≤ k.toInt := fun z9 => w2 ((ti_le rfl rfl).mpr z9)
        refine pb_aload_n (pc := 11) d_Book_isPiece_11 2 rfl rfl ?_
        refine pb_iload (pc := 12) d_Book_isPiece_12 0 rfl ?_
        refine pb_bald (pc := 14) d_Book_isPiece_14 0 rfl (vp_in_iff.mpr (by constructor <;> omega)) ?_
        refine pb_topi (fun i7 ei7 => ?_)
        have xi7 : i7 = gr f (k.toInt) := gr_ld ei7 (by omega)
        have yi7 : i7.toInt = gx f (k.toInt) := congrArg Int32.toInt xi7
        have ti7 : -128 ≤ i7.toInt ∧ i7.toInt ≤ 127 := ti_fit (F_f _) ei7
        refine pb_istore (pc := 15) (lo' := [(5, .int i7), (4, .int k), (3, .int d), (0, .ref a), (1, .int x), (2, .int e)]) d_Book_isPiece_15 (by decide) rfl ?_
        refine pb_iload (pc := 17) d_Book_isPiece_17 0 rfl ?_
        refine pb_bipush (pc := 19) (v := 46) d_Book_isPiece_19 (by decide) ?_
        refine pb_icmp_ne (pc := 21) (tgt := 30) d_Book_isPiece_21 (by decide) (fun w8 => ?_) (fun w8 => ?_)
        · have tw8 : ¬ i7.toInt = 46 := fun z9 => w8 ((ti_eq rfl (by decide)).mpr z9)
          refine pb_iload (pc := 30) d_Book_isPiece_30 0 rfl ?_
          refine pb_bipush (pc := 32) (v := 97) d_Book_isPiece_32 (by decide) ?_
          refine pb_icmp_lt (pc := 34) (tgt := 44) d_Book_isPiece_34 (by decide) (fun w9 => ?_) (fun w9 => ?_)
          · have tw9 : i7.toInt < 97 := (ti_lt rfl (by decide)).mp w9
            refine pb_iload (pc := 44) d_Book_isPiece_44 0 rfl ?_
            refine pb_bipush (pc := 46) (v := 48) d_Book_isPiece_46 (by decide) ?_
            refine pb_icmp_lt (pc := 48) (tgt := 58) d_Book_isPiece_48 (by decide) (fun w10 => ?_) (fun w10 => ?_)
            · have tw10 : i7.toInt < 48 := (ti_lt rfl (by decide)).mp w10
              refine pb_iload (pc := 58) d_Book_isPiece_58 0 rfl ?_
              refine pb_bipush (pc := 60) (v := 95) d_Book_isPiece_60 (by decide) ?_
              refine pb_icmp_eq (pc := 62) (tgt := 67) d_Book_isPiece_62 (by decide) (fun w11 => ?_) (fun w11 => ?_)
              · have tw11 : i7.toInt = 95 := (ti_eq rfl (by decide)).mp w11
                refine pb_iincN (pc := 67) (c := 1) d_Book_isPiece_67 1 rfl (by decide) (by decide) (fun i12 ei12 => ?_)
                have ti12 : i12.toInt = k.toInt + 1 := ti_add ei12 rfl (by decide) (by omega) (by omega)
                refine pb_eq (pc' := 70) (lo' := [(4, .int i12), (5, .int i7), (3, .int d), (0, .ref a), (1, .int x), (2, .int e)]) (rest' := []) (ws' := [(a, .inl (G.2.1, Na, .inl f))]) ?_
                refine pb_goto (pc := 70) (tgt := 5) d_Book_isPiece_70 (by decide) ?_
                refine pb_re (ws' := [(a, .inl (G.2.1, Na, .inl f))]) (lo' := [(4, .int i12), (3, .int d), (0, .ref a), (1, .int x), (2, .int e)]) [0] [0, 2, 3, 4, 5] (by decide) rfl rfl rfl ?_
                exact ih5 i12 d (by first | (with_reducible assumption) | omega (splitDisjunctions := false) | assumption | omega | decide) (by first | (with_reducible assumption) | omega (splitDisjunctions := false) | assumption | omega | decide) (by first | (with_reducible assumption) | omega (splitDisjunctions := false) | assumption | omega | decide) (by first | (with_reducible assumption) | omega (splitDisjunctions := false) | assumption | omega | decide) (lq_st hc (by omega) (by unfold ch_; omega)) (dt_y hy (by omega) (by omega) (by omega)) (dt_n hn (by omega) (by omega) (by omega)) (by omega)
              · have tw11 : ¬ i7.toInt = 95 := fun z9 => w11 ((ti_eq rfl (by decide)).mpr z9)
                refine pb_iconst (pc := 65) (v := 0) d_Book_isPiece_65 (by decide) ?_
                exact pb_iret (pc := 66) hQ d_Book_isPiece_66 rfl rfl (0) ⟨rfl, (by (try dsimp only); first | done | (with_reducible assumption) | omega (splitDisjunctions := false) | assumption | omega | decide), (show (0 : Int32).toInt = 1 → pe_ (gx f) x.toInt e.toInt from (fun q9 => absurd q9 (by omega))), (show (0 : Int32).toInt = 0 → ¬ pe_ (gx f) x.toInt e.toInt from (fun _ => pe_c hk (by omega) (by unfold ch_; omega)))⟩ [0] (by decide) rfl rfl (by decide) (by decide)
            · have tw10 : ¬ i7.toInt < 48 := fun z9 => w10 ((ti_lt rfl (by decide)).mpr z9)
              refine pb_iload (pc := 51) d_Book_isPiece_51 0 rfl ?_
              refine pb_bipush (pc := 53) (v := 57) d_Book_isPiece_53 (by decide) ?_
              refine pb_icmp_le (pc := 55) (tgt := 67) d_Book_isPiece_55 (by decide) (fun w13 => ?_) (fun w13 => ?_)
              · have tw13 : i7.toInt ≤ 57 := (ti_le rfl (by decide)).mp w13
                refine pb_iincN (pc := 67) (c := 1) d_Book_isPiece_67 1 rfl (by decide) (by decide) (fun i14 ei14 => ?_)
                have ti14 : i14.toInt = k.toInt + 1 := ti_add ei14 rfl (by decide) (by omega) (by omega)
                refine pb_eq (pc' := 70) (lo' := [(4, .int i14), (5, .int i7), (3, .int d), (0, .ref a), (1, .int x), (2, .int e)]) (rest' := []) (ws' := [(a, .inl (G.2.1, Na, .inl f))]) ?_
                refine pb_goto (pc := 70) (tgt := 5) d_Book_isPiece_70 (by decide) ?_
                refine pb_re (ws' := [(a, .inl (G.2.1, Na, .inl f))]) (lo' := [(4, .int i14), (3, .int d), (0, .ref a), (1, .int x), (2, .int e)]) [0] [0, 2, 3, 4, 5] (by decide) rfl rfl rfl ?_
                exact ih5 i14 d (by first | (with_reducible assumption) | omega (splitDisjunctions := false) | assumption | omega | decide) (by first | (with_reducible assumption) | omega (splitDisjunctions := false) | assumption | omega | decide) (by first | (with_reducible assumption) | omega (splitDisjunctions := false) | assumption | omega | decide) (by first | (with_reducible assumption) | omega (splitDisjunctions := false) | assumption | omega | decide) (lq_st hc (by omega) (by unfold ch_; omega)) (dt_y hy (by omega) (by omega) (by omega)) (dt_n hn (by omega) (by omega) (by omega)) (by (exact omg_7c8a06b1f5 hm9 tw2 ti14))
              · have tw13 : ¬ i7.toInt ≤ 57 := fun z9 => w13 ((ti_le rfl (by decide)).mpr z9)
                refine pb_iload (pc := 58) d_Book_isPiece_58 0 rfl ?_
                refine pb_bipush (pc := 60) (v := 95) d_Book_isPiece_60 (by decide) ?_
                refine pb_icmp_eq (pc := 62) (tgt := 67) d_Book_isPiece_62 (by decide) (fun w15 => ?_) (fun w15 => ?_)
                · have tw15 : i7.toInt = 95 := (ti_eq rfl (by decide)).mp w15
                  refine pb_iincN (pc := 67) (c := 1) d_Book_isPiece_67 1 rfl (by decide) (by decide) (fun i16 ei16 => ?_)
                  have ti16 : i16.toInt = k.toInt + 1 := ti_add ei16 rfl (by decide) (by omega) (by omega)
                  refine pb_eq (pc' := 70) (lo' := [(4, .int i16), (5, .int i7), (3, .int d), (0, .ref a), (1, .int x), (2, .int e)]) (rest' := []) (ws' := [(a, .inl (G.2.1, Na, .inl f))]) ?_
                  refine pb_goto (pc := 70) (tgt := 5) d_Book_isPiece_70 (by decide) ?_
                  refine pb_re (ws' := [(a, .inl (G.2.1, Na, .inl f))]) (lo' := [(4, .int i16), (3, .int d), (0, .ref a), (1, .int x), (2, .int e)]) [0] [0, 2, 3, 4, 5] (by decide) rfl rfl rfl ?_
                  exact ih5 i16 d (by first | (with_reducible assumption) | omega (splitDisjunctions := false) | assumption | omega | decide) (by first | (with_reducible assumption) | omega (splitDisjunctions := false) | assumption | omega | decide) (by first | (with_reducible assumption) | omega (splitDisjunctions := false) | assumption | omega | decide) (by first | (with_reducible assumption) | omega (splitDisjunctions := false) | assumption | omega | decide) (lq_st hc (by omega) (by unfold ch_; omega)) (dt_y hy (by omega) (by omega) (by omega)) (dt_n hn (by omega) (by omega) (by omega)) (by (exact omg_7c8a06b1f5 hm9 tw2 ti16))
                · have tw15 : ¬ i7.toInt = 95 := fun z9 => w15 ((ti_eq rfl (by decide)).mpr z9)
                  refine pb_iconst (pc := 65) (v := 0) d_Book_isPiece_65 (by decide) ?_
                  exact pb_iret (pc := 66) hQ d_Book_isPiece_66 rfl rfl (0) ⟨rfl, (by (try dsimp only); first | done | (with_reducible assumption) | omega (splitDisjunctions := false) | assumption | omega | decide), (show (0 : Int32).toInt = 1 → pe_ (gx f) x.toInt e.toInt from (fun q9 => absurd q9 (by omega))), (show (0 : Int32).toInt = 0 → ¬ pe_ (gx f) x.toInt e.toInt from (fun _ => pe_c hk (by omega) (by unfold ch_; omega)))⟩ [0] (by decide) rfl rfl (by decide) (by decide)
          · have tw9 : ¬ i7.toInt < 97 := fun z9 => w9 ((ti_lt rfl (by decide)).mpr z9)
            refine pb_iload (pc := 37) d_Book_isPiece_37 0 rfl ?_
            refine pb_bipush (pc := 39) (v := 122) d_Book_isPiece_39 (by decide) ?_
            refine pb_icmp_le (pc := 41) (tgt := 67) d_Book_isPiece_41 (by decide) (fun w17 => ?_) (fun w17 => ?_)
            · have tw17 : i7.toInt ≤ 122 := (ti_le rfl (by decide)).mp w17
              refine pb_iincN (pc := 67) (c := 1) d_Book_isPiece_67 1 rfl (by decide) (by decide) (fun i18 ei18 => ?_)
              have ti18 : i18.toInt = k.toInt + 1 := ti_add ei18 rfl (by decide) (by omega) (by omega)
              refine pb_eq (pc' := 70) (lo' := [(4, .int i18), (5, .int i7), (3, .int d), (0, .ref a), (1, .int x), (2, .int e)]) (rest' := []) (ws' := [(a, .inl (G.2.1, Na, .inl f))]) ?_
              refine pb_goto (pc := 70) (tgt := 5) d_Book_isPiece_70 (by decide) ?_
              refine pb_re (ws' := [(a, .inl (G.2.1, Na, .inl f))]) (lo' := [(4, .int i18), (3, .int d), (0, .ref a), (1, .int x), (2, .int e)]) [0] [0, 2, 3, 4, 5] (by decide) rfl rfl rfl ?_
              exact ih5 i18 d (by first | (with_reducible assumption) | omega (splitDisjunctions := false) | assumption | omega | decide) (by first | (with_reducible assumption) | omega (splitDisjunctions := false) | assumption | omega | decide) (by first | (with_reducible assumption) | omega (splitDisjunctions := false) | assumption | omega | decide) (by first | (with_reducible assumption) | omega (splitDisjunctions := false) | assumption | omega | decide) (lq_st hc (by omega) (by unfold ch_; omega)) (dt_y hy (by omega) (by omega) (by omega)) (dt_n hn (by omega) (by omega) (by omega)) (by (exact omg_7c8a06b1f5 hm9 tw2 ti18))
            · have tw17 : ¬ i7.toInt ≤ 122 := fun z9 => w17 ((ti_le rfl (by decide)).mpr z9)
              refine pb_iload (pc := 44) d_Book_isPiece_44 0 rfl ?_
              refine pb_bipush (pc := 46) (v := 48) d_Book_isPiece_46 (by decide) ?_
              refine pb_icmp_lt (pc := 48) (tgt := 58) d_Book_isPiece_48 (by decide) (fun w19 => ?_) (fun w19 => ?_)
              · have tw19 : i7.toInt < 48 := (ti_lt rfl (by decide)).mp w19
                refine pb_iload (pc := 58) d_Book_isPiece_58 0 rfl ?_
                refine pb_bipush (pc := 60) (v := 95) d_Book_isPiece_60 (by decide) ?_
                refine pb_icmp_eq (pc := 62) (tgt := 67) d_Book_isPiece_62 (by decide) (fun w20 => ?_) (fun w20 => ?_)
                · have tw20 : i7.toInt = 95 := (ti_eq rfl (by decide)).mp w20
                  refine pb_iincN (pc := 67) (c := 1) d_Book_isPiece_67 1 rfl (by decide) (by decide) (fun i21 ei21 => ?_)
                  have ti21 : i21.toInt = k.toInt + 1 := ti_add ei21 rfl (by decide) (by omega) (by omega)
                  refine pb_eq (pc' := 70) (lo' := [(4, .int i21), (5, .int i7), (3, .int d), (0, .ref a), (1, .int x), (2, .int e)]) (rest' := []) (ws' := [(a, .inl (G.2.1, Na, .inl f))]) ?_
                  refine pb_goto (pc := 70) (tgt := 5) d_Book_isPiece_70 (by decide) ?_
                  refine pb_re (ws' := [(a, .inl (G.2.1, Na, .inl f))]) (lo' := [(4, .int i21), (3, .int d), (0, .ref a), (1, .int x), (2, .int e)]) [0] [0, 2, 3, 4, 5] (by decide) rfl rfl rfl ?_
                  exact ih5 i21 d (by first | (with_reducible assumption) | omega (splitDisjunctions := false) | assumption | omega | decide) (by first | (with_reducible assumption) | omega (splitDisjunctions := false) | assumption | omega | decide) (by first | (with_reducible assumption) | omega (splitDisjunctions := false) | assumption | omega | decide) (by first | (with_reducible assumption) | omega (splitDisjunctions := false) | assumption | omega | decide) (lq_st hc (by omega) (by unfold ch_; omega)) (dt_y hy (by omega) (by omega) (by omega)) (dt_n hn (by omega) (by omega) (by omega)) (by omega)
                · have tw20 : ¬ i7.toInt = 95 := fun z9 => w20 ((ti_eq rfl (by decide)).mpr z9)
                  refine pb_iconst (pc := 65) (v := 0) d_Book_isPiece_65 (by decide) ?_
                  exact pb_iret (pc := 66) hQ d_Book_isPiece_66 rfl rfl (0) ⟨rfl, (by (try dsimp only); first | done | (with_reducible assumption) | omega (splitDisjunctions := false) | assumption | omega | decide), (show (0 : Int32).toInt = 1 → pe_ (gx f) x.toInt e.toInt from (fun q9 => absurd q9 (by omega))), (show (0 : Int32).toInt = 0 → ¬ pe_ (gx f) x.toInt e.toInt from (fun _ => pe_c hk (by omega) (by unfold ch_; omega)))⟩ [0] (by decide) rfl rfl (by decide) (by decide)
              · have tw19 : ¬ i7.toInt < 48 := fun z9 => w19 ((ti_lt rfl (by decide)).mpr z9)
                refine pb_iload (pc := 51) d_Book_isPiece_51 0 rfl ?_
                refine pb_bipush (pc := 53) (v := 57) d_Book_isPiece_53 (by decide) ?_
                refine pb_icmp_le (pc := 55) (tgt := 67) d_Book_isPiece_55 (by decide) (fun w22 => ?_) (fun w22 => ?_)
                · have tw22 : i7.toInt ≤ 57 := (ti_le rfl (by decide)).mp w22
                  refine pb_iincN (pc := 67) (c := 1) d_Book_isPiece_67 1 rfl (by decide) (by decide) (fun i23 ei23 => ?_)
                  have ti23 : i23.toInt = k.toInt + 1 := ti_add ei23 rfl (by decide) (by omega) (by omega)
                  refine pb_eq (pc' := 70) (lo' := [(4, .int i23), (5, .int i7), (3, .int d), (0, .ref a), (1, .int x), (2, .int e)]) (rest' := []) (ws' := [(a, .inl (G.2.1, Na, .inl f))]) ?_
                  refine pb_goto (pc := 70) (tgt := 5) d_Book_isPiece_70 (by decide) ?_
                  refine pb_re (ws' := [(a, .inl (G.2.1, Na, .inl f))]) (lo' := [(4, .int i23), (3, .int d), (0, .ref a), (1, .int x), (2, .int e)]) [0] [0, 2, 3, 4, 5] (by decide) rfl rfl rfl ?_
                  exact ih5 i23 d (by first | (with_reducible assumption) | omega (splitDisjunctions := false) | assumption | omega | decide) (by first | (with_reducible assumption) | omega (splitDisjunctions := false) | assumption | omega | decide) (by first | (with_reducible assumption) | omega (splitDisjunctions := false) | assumption | omega | decide) (by first | (with_reducible assumption) | omega (splitDisjunctions := false) | assumption | omega | decide) (lq_st hc (by omega) (by unfold ch_; omega)) (dt_y hy (by omega) (by omega) (by omega)) (dt_n hn (by omega) (by omega) (by omega)) (by omega)
                · have tw22 : ¬ i7.toInt ≤ 57 := fun z9 => w22 ((ti_le rfl (by decide)).mpr z9)
                  refine pb_iload (pc := 58) d_Book_isPiece_58 0 rfl ?_
                  refine pb_bipush (pc := 60) (v := 95) d_Book_isPiece_60 (by decide) ?_
                  refine pb_icmp_eq (pc := 62) (tgt := 67) d_Book_isPiece_62 (by decide) (fun w24 => ?_) (fun w24 => ?_)
                  · have tw24 : i7.toInt = 95 := (ti_eq rfl (by decide)).mp w24
                    refine pb_iincN (pc := 67) (c := 1) d_Book_isPiece_67 1 rfl (by decide) (by decide) (fun i25 ei25 => ?_)
                    have ti25 : i25.toInt = k.toInt + 1 := ti_add ei25 rfl (by decide) (by omega) (by omega)
                    refine pb_eq (pc' := 70) (lo' := [(4, .int i25), (5, .int i7), (3, .int d), (0, .ref a), (1, .int x), (2, .int e)]) (rest' := []) (ws' := [(a, .inl (G.2.1, Na, .inl f))]) ?_
                    refine pb_goto (pc := 70) (tgt := 5) d_Book_isPiece_70 (by decide) ?_
                    refine pb_re (ws' := [(a, .inl (G.2.1, Na, .inl f))]) (lo' := [(4, .int i25), (3, .int d), (0, .ref a), (1, .int x), (2, .int e)]) [0] [0, 2, 3, 4, 5] (by decide) rfl rfl rfl ?_
                    exact ih5 i25 d (by first | (with_reducible assumption) | omega (splitDisjunctions := false) | assumption | omega | decide) (by first | (with_reducible assumption) | omega (splitDisjunctions := false) | assumption | omega | decide) (by first | (with_reducible assumption) | omega (splitDisjunctions := false) | assumption | omega | decide) (by first | (with_reducible assumption) | omega (splitDisjunctions := false) | assumption | omega | decide) (lq_st hc (by omega) (by unfold ch_; omega)) (dt_y hy (by omega) (by omega) (by omega)) (dt_n hn (by omega) (by omega) (by omega)) (by omega)
                  · have tw24 : ¬ i7.toInt = 95 := fun z9 => w24 ((ti_eq rfl (by decide)).mpr z9)
                    refine pb_iconst (pc := 65) (v := 0) d_Book_isPiece_65 (by decide) ?_
                    exact pb_iret (pc := 66) hQ d_Book_isPiece_66 rfl rfl (0) ⟨rfl, (by (try dsimp only); first | done | (with_reducible assumption) | omega (splitDisjunctions := false) | assumption | omega | decide), (show (0 : Int32).toInt = 1 → pe_ (gx f) x.toInt e.toInt from (fun q9 => absurd q9 (by omega))), (show (0 : Int32).toInt = 0 → ¬ pe_ (gx f) x.toInt e.toInt from (fun _ => pe_c hk (by omega) (by unfold ch_; omega)))⟩ [0] (by decide) rfl rfl (by decide) (by decide)
        · have tw8 : i7.toInt = 46 := (ti_eq rfl (by decide)).mp w8
          refine pb_iincN (pc := 24) (c := 1) d_Book_isPiece_24 2 rfl (by decide) (by decide) (fun i26 ei26 => ?_)
          have ti26 : i26.toInt = d.toInt + 1 := ti_add ei26 rfl (by decide) (by omega) (by omega)
          refine pb_eq (pc' := 27) (lo' := [(3, .int i26), (5, .int i7), (4, .int k), (0, .ref a), (1, .int x), (2, .int e)]) (rest' := []) (ws' := [(a, .inl (G.2.1, Na, .inl f))]) ?_
          refine pb_goto (pc := 27) (tgt := 67) d_Book_isPiece_27 (by decide) ?_
          refine pb_iincN (pc := 67) (c := 1) d_Book_isPiece_67 2 rfl (by decide) (by decide) (fun i27 ei27 => ?_)
          have ti27 : i27.toInt = k.toInt + 1 := ti_add ei27 rfl (by decide) (by omega) (by omega)
          refine pb_eq (pc' := 70) (lo' := [(4, .int i27), (3, .int i26), (5, .int i7), (0, .ref a), (1, .int x), (2, .int e)]) (rest' := []) (ws' := [(a, .inl (G.2.1, Na, .inl f))]) ?_
          refine pb_goto (pc := 70) (tgt := 5) d_Book_isPiece_70 (by decide) ?_
          refine pb_re (ws' := [(a, .inl (G.2.1, Na, .inl f))]) (lo' := [(4, .int i27), (3, .int i26), (0, .ref a), (1, .int x), (2, .int e)]) [0] [0, 1, 3, 4, 5] (by decide) rfl rfl rfl ?_
          exact ih5 i27 i26 (by first | (with_reducible assumption) | omega (splitDisjunctions := false) | assumption | omega | decide) (by first | (with_reducible assumption) | omega (splitDisjunctions := false) | assumption | omega | decide) (by first | (with_reducible assumption) | omega (splitDisjunctions := false) | assumption | omega | decide) (by first | (with_reducible assumption) | omega (splitDisjunctions := false) | assumption | omega | decide) (lq_st hc (by omega) (by unfold ch_; omega)) (dt_y hy (by omega) (by omega) (by omega)) (dt_n hn (by omega) (by omega) (by omega)) (by (exact omg_7c8a06b1f5 hm9 tw2 ti27))
  exact hL5_1 _ x 0 (by first | (with_reducible assumption) | omega (splitDisjunctions := false) | assumption | omega | decide) (by first | (with_reducible assumption) | omega (splitDisjunctions := false) | assumption | omega | decide) (by first | (with_reducible assumption) | omega (splitDisjunctions := false) | assumption | omega | decide) (by first | (with_reducible assumption) | omega (splitDisjunctions := false) | assumption | omega | decide) (fun j h0 h1 => absurd h1 (by omega)) (fun _ j h0 h1 => absurd h1 (by omega)) (fun _ => by omega) (Nat.lt_succ_self _)

theorem d_Book_isName_0 : decode prog_1_method_26_code 0 = .ok (.iload_n 2, 1) := by decide +kernel
theorem d_Book_isName_1 : decode prog_1_method_26_code 1 = .ok (.iconst 1, 1) := by decide +kernel
theorem d_Book_isName_2 : decode prog_1_method_26_code 2 = .ok (.if_icmp .lt 9, 3) := by decide +kernel
theorem d_Book_isName_11 : decode prog_1_method_26_code 11 = .ok (.iconst 0, 1) := by decide +kernel
theorem d_Book_isName_12 : decode prog_1_method_26_code 12 = .ok (.ireturn, 1) := by decide +kernel
theorem d_Book_isName_5 : decode prog_1_method_26_code 5 = .ok (.iload_n 2, 1) := by decide +kernel
theorem d_Book_isName_6 : decode prog_1_method_26_code 6 = .ok (.bipush 24, 2) := by decide +kernel
theorem d_Book_isName_8 : decode prog_1_method_26_code 8 = .ok (.if_icmp .le 5, 3) := by decide +kernel
theorem d_Book_isName_13 : decode prog_1_method_26_code 13 = .ok (.iload_n 1, 1) := by decide +kernel
theorem d_Book_isName_14 : decode prog_1_method_26_code 14 = .ok (.iload_n 2, 1) := by decide +kernel
theorem d_Book_isName_15 : decode prog_1_method_26_code 15 = .ok (.iadd, 1) := by decide +kernel
theorem d_Book_isName_16 : decode prog_1_method_26_code 16 = .ok (.istore_n 3, 1) := by decide +kernel
theorem d_Book_isName_17 : decode prog_1_method_26_code 17 = .ok (.iload_n 1, 1) := by decide +kernel
theorem d_Book_isName_18 : decode prog_1_method_26_code 18 = .ok (.istore 4, 2) := by decide +kernel
theorem d_Book_isName_20 : decode prog_1_method_26_code 20 = .ok (.iload_n 1, 1) := by decide +kernel
theorem d_Book_isName_21 : decode prog_1_method_26_code 21 = .ok (.istore 5, 2) := by decide +kernel
theorem d_Book_isName_23 : decode prog_1_method_26_code 23 = .ok (.iload 5, 2) := by decide +kernel
theorem d_Book_isName_25 : decode prog_1_method_26_code 25 = .ok (.iload_n 3, 1) := by decide +kernel
theorem d_Book_isName_26 : decode prog_1_method_26_code 26 = .ok (.if_icmp .ge 37, 3) := by decide +kernel
theorem d_Book_isName_63 : decode prog_1_method_26_code 63 = .ok (.aload_n 0, 1) := by decide +kernel
theorem d_Book_isName_64 : decode prog_1_method_26_code 64 = .ok (.iload 4, 2) := by decide +kernel
theorem d_Book_isName_66 : decode prog_1_method_26_code 66 = .ok (.iload_n 3, 1) := by decide +kernel
theorem d_Book_isName_67 : decode prog_1_method_26_code 67 = .ok (.invokestatic 262, 3) := by decide +kernel
theorem k_623 : (Jvm.Cond.methodLink "PackageBook" (262 : Nat) ({ cls := "PackageBook", name := "isPiece", desc := "([BII)Z" } : Jvm.MethodName)) ∈ uW := uW_of 623 (by decide +kernel) (by decide +kernel)
theorem k_118 : (Jvm.Cond.initialized "PackageBook") ∈ uW := uW_of 118 (by decide +kernel) (by decide +kernel)
theorem k_625 : (Jvm.Cond.code ({ cls := "PackageBook", name := "isPiece", desc := "([BII)Z" } : Jvm.MethodName) prog_1_method_27_code (6 : Nat) (Option.some Jvm.ClassFile.FieldType.boolean)) ∈ uW := uW_of 625 (by decide +kernel) (by decide +kernel)
theorem k_624 : (Jvm.Cond.static ({ cls := "PackageBook", name := "isPiece", desc := "([BII)Z" } : Jvm.MethodName)) ∈ uW := uW_of 624 (by decide +kernel) (by decide +kernel)
theorem hy_Book_isPiece : (y_Book_isPiece).cls ≠ "java/lang/invoke/MethodHandle" ∧ (y_Book_isPiece).cls ≠ "java/lang/invoke/VarHandle" ∧ (parseMethodDescriptor (y_Book_isPiece).desc).map (fun d => d.parameters.length) = some 3 := by decide +kernel
theorem d_Book_isName_70 : decode prog_1_method_26_code 70 = .ok (.ireturn, 1) := by decide +kernel
theorem d_Book_isName_29 : decode prog_1_method_26_code 29 = .ok (.aload_n 0, 1) := by decide +kernel
theorem d_Book_isName_30 : decode prog_1_method_26_code 30 = .ok (.iload 5, 2) := by decide +kernel
theorem d_Book_isName_32 : decode prog_1_method_26_code 32 = .ok (.baload, 1) := by decide +kernel
theorem d_Book_isName_33 : decode prog_1_method_26_code 33 = .ok (.bipush 47, 2) := by decide +kernel
theorem d_Book_isName_35 : decode prog_1_method_26_code 35 = .ok (.if_icmp .ne 22, 3) := by decide +kernel
theorem d_Book_isName_57 : decode prog_1_method_26_code 57 = .ok (.iinc 5 1, 3) := by decide +kernel
theorem d_Book_isName_60 : decode prog_1_method_26_code 60 = .ok (.goto (-37), 3) := by decide +kernel
theorem d_Book_isName_38 : decode prog_1_method_26_code 38 = .ok (.aload_n 0, 1) := by decide +kernel
theorem d_Book_isName_39 : decode prog_1_method_26_code 39 = .ok (.iload 4, 2) := by decide +kernel
theorem d_Book_isName_41 : decode prog_1_method_26_code 41 = .ok (.iload 5, 2) := by decide +kernel
theorem d_Book_isName_43 : decode prog_1_method_26_code 43 = .ok (.invokestatic 262, 3) := by decide +kernel
theorem d_Book_isName_46 : decode prog_1_method_26_code 46 = .ok (.ifCond .ne 5, 3) := by decide +kernel
theorem d_Book_isName_51 : decode prog_1_method_26_code 51 = .ok (.iload 5, 2) := by decide +kernel
theorem d_Book_isName_53 : decode prog_1_method_26_code 53 = .ok (.iconst 1, 1) := by decide +kernel
theorem d_Book_isName_54 : decode prog_1_method_26_code 54 = .ok (.iadd, 1) := by decide +kernel
theorem d_Book_isName_55 : decode prog_1_method_26_code 55 = .ok (.istore 4, 2) := by decide +kernel
theorem d_Book_isName_49 : decode prog_1_method_26_code 49 = .ok (.iconst 0, 1) := by decide +kernel
theorem d_Book_isName_50 : decode prog_1_method_26_code 50 = .ok (.ireturn, 1) := by decide +kernel
abbrev y_Book_isName : MethodName := ⟨"PackageBook", "isName", "([BII)Z"⟩
abbrev i_Book_isName : pb_I := (y_Book_isName, prog_1_method_26_code, 6, (some Jvm.ClassFile.FieldType.boolean), [], { frames := 1, cells := 0, slots := 0, locals := 25 })
set_option maxRecDepth 100000 in
set_option maxHeartbeats 4000000 in
theorem g_isName {l : Launch} (hl : l.stackTraces = false) (G : pb_G) (a : Nat) (Na : Nat) (f : Nat → Int32) (x : Int32) (n : Int32) (h0 : 0 ≤ x.toInt) (h1 : 1 ≤ n.toInt → n.toInt ≤ 24 → x.toInt + n.toInt ≤ Na) (h2 : Na ≤ 1000000) (h3 : x.toInt ≤ 1000000) (F_f : sb_Fit f) : Cn l G i_Book_isName [.ref a, .int x, .int n] [(a, .inl (G.2.1, Na, .inl f))] (S := Int32) (fun rv_ u => rv_ = some (.int u) ∧ (u.toInt = 0 ∨ u.toInt = 1) ∧ (u.toInt = 1 → 1 ≤ n.toInt ∧ n.toInt ≤ 24) ∧ (u.toInt = 1 → iA_ (gx f) x.toInt n.toInt) ∧ (u.toInt = 0 → ¬ iA_ (gx f) x.toInt n.toInt)) (fun u => [(a, .inl (G.2.1, Na, .inl f))]) := by
  refine Cn.of hl (by decide +kernel) rfl (Nat.le_of_ble_eq_true rfl) (fun M hQ => ?_)
  refine pb_eq (pc' := 0) (lo' := [(0, .ref a), (1, .int x), (2, .int n)]) (rest' := []) (ws' := [(a, .inl (G.2.1, Na, .inl f))]) ?_
  have zl0 : (0 : Int32).toInt = 0 := by decide
  have zl1 : (1 : Int32).toInt = 1 := by decide
  have zl24 : (24 : Int32).toInt = 24 := by decide
  have zl47 : (47 : Int32).toInt = 47 := by decide
  refine pb_iload_n (pc := 0) d_Book_isName_0 2 rfl rfl ?_
  refine pb_iconst (pc := 1) (v := 1) d_Book_isName_1 (by decide) ?_
  refine pb_icmp_lt (pc := 2) (tgt := 11) d_Book_isName_2 (by decide) (fun w1 => ?_) (fun w1 => ?_)
  · have tw1 : n.toInt < 1 := (ti_lt rfl (by decide)).mp w1
    refine pb_iconst (pc := 11) (v := 0) d_Book_isName_11 (by decide) ?_
    exact pb_iret (pc := 12) hQ d_Book_isName_12 rfl rfl (0) ⟨rfl, (by (try dsimp only); first | done | (with_reducible assumption) | omega (splitDisjunctions := false) | assumption | omega | decide), (by (try dsimp only); first | done | (with_reducible assumption) | omega (splitDisjunctions := false) | assumption | omega | decide), (show (0 : Int32).toInt = 1 → iA_ (gx f) x.toInt n.toInt from (fun q9 => absurd q9 (by omega))), (show (0 : Int32).toInt = 0 → ¬ iA_ (gx f) x.toInt n.toInt from (fun _ => iA_out (by omega)))⟩ [0] (by decide) rfl rfl (by decide) (by decide)
  · have tw1 : ¬ n.toInt < 1 := fun z9 => w1 ((ti_lt rfl (by decide)).mpr z9)
    refine pb_iload_n (pc := 5) d_Book_isName_5 2 rfl rfl ?_
    refine pb_bipush (pc := 6) (v := 24) d_Book_isName_6 (by decide) ?_
    refine pb_icmp_le (pc := 8) (tgt := 13) d_Book_isName_8 (by decide) (fun w2 => ?_) (fun w2 => ?_)
    · have tw2 : n.toInt ≤ 24 := (ti_le rfl (by decide)).mp w2
      refine pb_iload_n (pc := 13) d_Book_isName_13 1 rfl rfl ?_
      refine pb_iload_n (pc := 14) d_Book_isName_14 2 rfl rfl ?_
      refine pb_iadd (pc := 15) d_Book_isName_15 ?_
      refine pb_topi (fun i3 ei3 => ?_)
      try have ti3 : i3.toInt = x.toInt + n.toInt := ti_add ei3 rfl rfl (by omega) (by omega)
      refine pb_istore_n (pc := 16) (lo' := [(3, .int i3), (0, .ref a), (1, .int x), (2, .int n)]) d_Book_isName_16 rfl (by decide) rfl ?_
      refine pb_iload_n (pc := 17) d_Book_isName_17 2 rfl rfl ?_
      refine pb_istore (pc := 18) (lo' := [(4, .int x), (3, .int i3), (0, .ref a), (1, .int x), (2, .int n)]) d_Book_isName_18 (by decide) rfl ?_
      refine pb_iload_n (pc := 20) d_Book_isName_20 3 rfl rfl ?_
      refine pb_istore (pc := 21) (lo' := [(5, .int x), (4, .int x), (3, .int i3), (0, .ref a), (1, .int x), (2, .int n)]) d_Book_isName_21 (by decide) rfl ?_
      have hL23_4 : ∀ (N9 : Nat) (k : Int32) (bg : Int32) (en : Int32), (x.toInt ≤ k.toInt) → (x.toInt ≤ bg.toInt) → (bg.toInt ≤ k.toInt) → (en.toInt = x.toInt + n.toInt) → (k.toInt ≤ en.toInt) → (1 ≤ n.toInt) → (n.toInt ≤ 24) → (iB_ (gx f) x.toInt n.toInt bg.toInt) → (bg.toInt = x.toInt ∨ gx f (bg.toInt - 1) = 47) → (∀ j : Int, bg.toInt ≤ j → j < k.toInt → ¬ gx f j = 47) → ((en.toInt - k.toInt).toNat) < N9 → pb_P l G M i_Book_isName 23 [(5, .int k), (4, .int bg), (3, .int en), (0, .ref a), (1, .int x), (2, .int n)] [] [(a, .inl (G.2.1, Na, .inl f))] 0 0 := by
        intro N9
        induction N9 with
        | zero => intro k bg en hk hb hb2 he hk2 n1_ n2_ hB hb3 h47 hm9; exact absurd hm9 (Nat.not_lt_zero _)
        | succ N9 ih23 =>
          intro k bg en hk hb hb2 he hk2 n1_ n2_ hB hb3 h47 hm9
          refine pb_iload (pc := 23) d_Book_isName_23 0 rfl ?_
          refine pb_iload_n (pc := 25) d_Book_isName_25 2 rfl rfl ?_
          refine pb_icmp_ge (pc := 26) (tgt := 63) d_Book_isName_26 (by decide) (fun w5 => ?_) (fun w5 => ?_)
          · have tw5 : en.toInt ≤ k.toInt := (ti_le rfl rfl).mp w5
            refine pb_aload_n (pc := 63) d_Book_isName_63 3 rfl rfl ?_
            refine pb_iload (pc := 64) d_Book_isName_64 1 rfl ?_
            refine pb_iload_n (pc := 66) d_Book_isName_66 2 rfl rfl ?_
            refine pb_callS (pc := 67) (I := i_Book_isName) (nA := 3) (rest := []) (wr := []) d_Book_isName_67 (g_isPiece hl G a Na f bg en (by first | (with_reducible assumption) | omega (splitDisjunctions := false) | assumption | omega | decide) (by first | (with_reducible assumption) | omega (splitDisjunctions := false) | assumption | omega | decide) (by first | (with_reducible assumption) | omega (splitDisjunctions := false) | assumption | omega | decide) (by first | (with_reducible assumption) | omega (splitDisjunctions := false) | assumption | omega | decide) F_f) [0] [] (by decide) rfl rfl rfl (by decide) (by decide) k_625 rfl k_118 k_623 k_624 hy_Book_isPiece (by decide) rfl rfl (Nat.le_of_ble_eq_true rfl) (by decide) (fun v9 u7 ch6 => ?_)
            obtain ⟨r_8, rfl⟩ : ∃ z9, z9 = u7 := ⟨_, rfl⟩
            obtain ⟨ech6, ch6⟩ := ch6
            have ech6 : v9 = some (.int r_8) := ech6
            subst ech6
            obtain ⟨fh9, fh10, fh11⟩ : (r_8.toInt = 0 ∨ r_8.toInt = 1) ∧ (r_8.toInt = 1 → pe_ (gx f) bg.toInt en.toInt) ∧ (r_8.toInt = 0 → ¬ pe_ (gx f) bg.toInt en.toInt) := ch6
            have pF1 := fh10
            have pF0 := fh11
            refine pb_eq (pc' := 70) (lo' := [(5, .int k), (4, .int bg), (3, .int en), (0, .ref a), (1, .int x), (2, .int n)]) (rest' := [.int r_8]) (ws' := [(a, .inl (G.2.1, Na, .inl f))]) ?_
            exact pb_iret (pc := 70) hQ d_Book_isName_70 rfl (nar_b (by omega)) (r_8) ⟨rfl, (by (try dsimp only); first | done | (with_reducible assumption) | omega (splitDisjunctions := false) | assumption | omega | decide), (by (try dsimp only); first | done | (with_reducible assumption) | omega (splitDisjunctions := false) | assumption | omega | decide), (show r_8.toInt = 1 → iA_ (gx f) x.toInt n.toInt from (fun q9 => iA_of (iB_s hB (by omega) hb3 (by omega) (fun j h0 h1 => h47 j h0 (by omega)) (by omega) (pF1 q9) rfl) (by omega) (by omega) (by omega))), (show r_8.toInt = 0 → ¬ iA_ (gx f) x.toInt n.toInt from (fun q9 => iA_no (by omega) hb3 (by omega) (by omega) (fun j h0 h1 => h47 j h0 (by omega)) (Or.inl (by omega)) (pF0 q9)))⟩ [0] (by decide) rfl rfl (by decide) (by decide)
          · have tw5 : ¬ en.toInt ≤ k.toInt := fun z9 => w5 ((ti_le rfl rfl).mpr z9)
            refine pb_aload_n (pc := 29) d_Book_isName_29 3 rfl rfl ?_
            refine pb_iload (pc := 30) d_Book_isName_30 0 rfl ?_
            refine pb_bald (pc := 32) d_Book_isName_32 0 rfl (vp_in_iff.mpr (by constructor <;> omega)) ?_
            refine pb_topi (fun i12 ei12 => ?_)
            have xi12 : i12 = gr f (k.toInt) := gr_ld ei12 (by omega)
            have yi12 : i12.toInt = gx f (k.toInt) := congrArg Int32.toInt xi12
            have ti12 : -128 ≤ i12.toInt ∧ i12.toInt ≤ 127 := ti_fit (F_f _) ei12
            refine pb_bipush (pc := 33) (v := 47) d_Book_isName_33 (by decide) ?_
            refine pb_icmp_ne (pc := 35) (tgt := 57) d_Book_isName_35 (by decide) (fun w13 => ?_) (fun w13 => ?_)
            · have tw13 : ¬ i12.toInt = 47 := fun z9 => w13 ((ti_eq rfl (by decide)).mpr z9)
              refine pb_iincN (pc := 57) (c := 1) d_Book_isName_57 0 rfl (by decide) (by decide) (fun i14 ei14 => ?_)
              have ti14 : i14.toInt = k.toInt + 1 := ti_add ei14 rfl (by decide) (by omega) (by omega)
              refine pb_eq (pc' := 60) (lo' := [(5, .int i14), (4, .int bg), (3, .int en), (0, .ref a), (1, .int x), (2, .int n)]) (rest' := []) (ws' := [(a, .inl (G.2.1, Na, .inl f))]) ?_
              refine pb_goto (pc := 60) (tgt := 23) d_Book_isName_60 (by decide) ?_
              exact ih23 i14 bg en (by first | (with_reducible assumption) | omega (splitDisjunctions := false) | assumption | omega | decide) (by first | (with_reducible assumption) | omega (splitDisjunctions := false) | assumption | omega | decide) (by first | (with_reducible assumption) | omega (splitDisjunctions := false) | assumption | omega | decide) (by first | (with_reducible assumption) | omega (splitDisjunctions := false) | assumption | omega | decide) (by first | (with_reducible assumption) | omega (splitDisjunctions := false) | assumption | omega | decide) (by first | (with_reducible assumption) | omega (splitDisjunctions := false) | assumption | omega | decide) (by first | (with_reducible assumption) | omega (splitDisjunctions := false) | assumption | omega | decide) (by first | exact hB | exact iB_s hB (by omega) hb3 (by omega) h47 (by omega) (pF1 (by omega)) (by omega)) (by first | exact hb3 | exact Or.inr (by rw [show bg.toInt - 1 = k.toInt by omega]; omega)) (by first | exact lq_st h47 (by omega) (by omega) | exact fun j h0 h1 => absurd h1 (by omega)) (by (exact omg_7c8a06b1f5 hm9 tw5 ti14))
            · have tw13 : i12.toInt = 47 := (ti_eq rfl (by decide)).mp w13
              refine pb_aload_n (pc := 38) d_Book_isName_38 3 rfl rfl ?_
              refine pb_iload (pc := 39) d_Book_isName_39 1 rfl ?_
              refine pb_iload (pc := 41) d_Book_isName_41 0 rfl ?_
              refine pb_callS (pc := 43) (I := i_Book_isName) (nA := 3) (rest := []) (wr := []) d_Book_isName_43 (g_isPiece hl G a Na f bg k (by first | (with_reducible assumption) | omega (splitDisjunctions := false) | assumption | omega | decide) (by first | (with_reducible assumption) | omega (splitDisjunctions := false) | assumption | omega | decide) (by first | (with_reducible assumption) | omega (splitDisjunctions := false) | assumption | omega | decide) (by first | (with_reducible assumption) | omega (splitDisjunctions := false) | assumption | omega | decide) F_f) [0] [] (by decide) rfl rfl rfl (by decide) (by decide) k_625 rfl k_118 k_623 k_624 hy_Book_isPiece (by decide) rfl rfl (Nat.le_of_ble_eq_true rfl) (by decide) (fun v9 u16 ch15 => ?_)
              obtain ⟨r_17, rfl⟩ : ∃ z9, z9 = u16 := ⟨_, rfl⟩
              obtain ⟨ech15, ch15⟩ := ch15
              have ech15 : v9 = some (.int r_17) := ech15
              subst ech15
              obtain ⟨fh18, fh19, fh20⟩ : (r_17.toInt = 0 ∨ r_17.toInt = 1) ∧ (r_17.toInt = 1 → pe_ (gx f) bg.toInt k.toInt) ∧ (r_17.toInt = 0 → ¬ pe_ (gx f) bg.toInt k.toInt) := ch15
              have pF1 := fh19
              have pF0 := fh20
              refine pb_eq (pc' := 46) (lo' := [(5, .int k), (4, .int bg), (3, .int en), (0, .ref a), (1, .int x), (2, .int n)]) (rest' := [.int r_17]) (ws' := [(a, .inl (G.2.1, Na, .inl f))]) ?_
              refine pb_if_ne (pc := 46) (tgt := 51) d_Book_isName_46 (by decide) (fun w21 => ?_) (fun w21 => ?_)
              · have tw21 : ¬ r_17.toInt = 0 := fun z9 => w21 ((ti_eq rfl (by decide)).mpr z9)
                refine pb_iload (pc := 51) d_Book_isName_51 0 rfl ?_
                refine pb_iconst (pc := 53) (v := 1) d_Book_isName_53 (by decide) ?_
                refine pb_iadd (pc := 54) d_Book_isName_54 ?_
                refine pb_topi (fun i22 ei22 => ?_)
                try have ti22 : i22.toInt = k.toInt + 1 := ti_add ei22 rfl (by decide) (by omega) (by omega)
                refine pb_istore (pc := 55) (lo' := [(4, .int i22), (5, .int k), (3, .int en), (0, .ref a), (1, .int x), (2, .int n)]) d_Book_isName_55 (by decide) rfl ?_
                refine pb_iincN (pc := 57) (c := 1) d_Book_isName_57 1 rfl (by decide) (by decide) (fun i23 ei23 => ?_)
                have ti23 : i23.toInt = k.toInt + 1 := ti_add ei23 rfl (by decide) (by omega) (by omega)
                refine pb_eq (pc' := 60) (lo' := [(5, .int i23), (4, .int i22), (3, .int en), (0, .ref a), (1, .int x), (2, .int n)]) (rest' := []) (ws' := [(a, .inl (G.2.1, Na, .inl f))]) ?_
                refine pb_goto (pc := 60) (tgt := 23) d_Book_isName_60 (by decide) ?_
                exact ih23 i23 i22 en (by first | (with_reducible assumption) | omega (splitDisjunctions := false) | assumption | omega | decide) (by first | (with_reducible assumption) | omega (splitDisjunctions := false) | assumption | omega | decide) (by first | (with_reducible assumption) | omega (splitDisjunctions := false) | assumption | omega | decide) (by first | (with_reducible assumption) | omega (splitDisjunctions := false) | assumption | omega | decide) (by first | (with_reducible assumption) | omega (splitDisjunctions := false) | assumption | omega | decide) (by first | (with_reducible assumption) | omega (splitDisjunctions := false) | assumption | omega | decide) (by first | (with_reducible assumption) | omega (splitDisjunctions := false) | assumption | omega | decide) (by first | exact hB | exact iB_s hB (by omega) hb3 (by omega) h47 (by omega) (pF1 (by (exact omg_d9c3f42b32 fh18 tw21))) (by omega)) (by first | exact hb3 | exact Or.inr (by rw [show i22.toInt - 1 = k.toInt by omega]; omega)) (by first | exact lq_st h47 (by omega) (by omega) | exact fun j h0 h1 => absurd h1 (by omega)) (by (exact omg_7c8a06b1f5 hm9 tw5 ti23))
              · have tw21 : r_17.toInt = 0 := (ti_eq rfl (by decide)).mp w21
                refine pb_iconst (pc := 49) (v := 0) d_Book_isName_49 (by decide) ?_
                exact pb_iret (pc := 50) hQ d_Book_isName_50 rfl rfl (0) ⟨rfl, (by (try dsimp only); first | done | (with_reducible assumption) | omega (splitDisjunctions := false) | assumption | omega | decide), (by (try dsimp only); first | done | (with_reducible assumption) | omega (splitDisjunctions := false) | assumption | omega | decide), (show (0 : Int32).toInt = 1 → iA_ (gx f) x.toInt n.toInt from (fun q9 => absurd q9 (by omega))), (show (0 : Int32).toInt = 0 → ¬ iA_ (gx f) x.toInt n.toInt from (fun _ => iA_no (by omega) hb3 (by omega) (by omega) h47 (Or.inr (by omega)) (pF0 (by omega))))⟩ [0] (by decide) rfl rfl (by decide) (by decide)
      exact hL23_4 _ x x i3 (by first | (with_reducible assumption) | omega (splitDisjunctions := false) | assumption | omega | decide) (by first | (with_reducible assumption) | omega (splitDisjunctions := false) | assumption | omega | decide) (by first | (with_reducible assumption) | omega (splitDisjunctions := false) | assumption | omega | decide) (by first | (with_reducible assumption) | omega (splitDisjunctions := false) | assumption | omega | decide) (by first | (with_reducible assumption) | omega (splitDisjunctions := false) | assumption | omega | decide) (by first | (with_reducible assumption) | omega (splitDisjunctions := false) | assumption | omega | decide) (by first | (with_reducible assumption) | omega (splitDisjunctions := false) | assumption | omega | decide) (iB_0 rfl) (by first | (with_reducible assumption) | omega (splitDisjunctions := false) | assumption | omega | decide) (fun j h0 h1 => absurd h1 (by omega)) (Nat.lt_succ_self _)
    · have tw2 : ¬ n.toInt ≤ 24 := fun z9 => w2 ((ti_le rfl (by decide)).mpr z9)
      refine pb_iconst (pc := 11) (v := 0) d_Book_isName_11 (by decide) ?_
      exact pb_iret (pc := 12) hQ d_Book_isName_12 rfl rfl (0) ⟨rfl, (by (try dsimp only); first | done | (with_reducible assumption) | omega (splitDisjunctions := false) | assumption | omega | decide), (by (try dsimp only); first | done | (with_reducible assumption) | omega (splitDisjunctions := false) | assumption | omega | decide), (show (0 : Int32).toInt = 1 → iA_ (gx f) x.toInt n.toInt from (fun q9 => absurd q9 (by omega))), (show (0 : Int32).toInt = 0 → ¬ iA_ (gx f) x.toInt n.toInt from (fun _ => iA_out (by omega)))⟩ [0] (by decide) rfl rfl (by decide) (by decide)

theorem d_Book_sumOf_0 : decode prog_1_method_29_code 0 = .ok (.iconst (-1), 1) := by decide +kernel
theorem d_Book_sumOf_1 : decode prog_1_method_29_code 1 = .ok (.istore_n 3, 1) := by decide +kernel
theorem d_Book_sumOf_2 : decode prog_1_method_29_code 2 = .ok (.iload_n 1, 1) := by decide +kernel
theorem d_Book_sumOf_3 : decode prog_1_method_29_code 3 = .ok (.istore 4, 2) := by decide +kernel
theorem d_Book_sumOf_5 : decode prog_1_method_29_code 5 = .ok (.iload 4, 2) := by decide +kernel
theorem d_Book_sumOf_7 : decode prog_1_method_29_code 7 = .ok (.iload_n 1, 1) := by decide +kernel
theorem d_Book_sumOf_8 : decode prog_1_method_29_code 8 = .ok (.iload_n 2, 1) := by decide +kernel
theorem d_Book_sumOf_9 : decode prog_1_method_29_code 9 = .ok (.iadd, 1) := by decide +kernel
theorem d_Book_sumOf_10 : decode prog_1_method_29_code 10 = .ok (.if_icmp .ge 59, 3) := by decide +kernel
theorem d_Book_sumOf_69 : decode prog_1_method_29_code 69 = .ok (.iload_n 3, 1) := by decide +kernel
theorem d_Book_sumOf_70 : decode prog_1_method_29_code 70 = .ok (.iconst (-1), 1) := by decide +kernel
theorem d_Book_sumOf_71 : decode prog_1_method_29_code 71 = .ok (.ixor, 1) := by decide +kernel
theorem d_Book_sumOf_72 : decode prog_1_method_29_code 72 = .ok (.ireturn, 1) := by decide +kernel
theorem d_Book_sumOf_13 : decode prog_1_method_29_code 13 = .ok (.iload_n 3, 1) := by decide +kernel
theorem d_Book_sumOf_14 : decode prog_1_method_29_code 14 = .ok (.aload_n 0, 1) := by decide +kernel
theorem d_Book_sumOf_15 : decode prog_1_method_29_code 15 = .ok (.iload 4, 2) := by decide +kernel
theorem d_Book_sumOf_17 : decode prog_1_method_29_code 17 = .ok (.baload, 1) := by decide +kernel
theorem d_Book_sumOf_18 : decode prog_1_method_29_code 18 = .ok (.sipush 255, 3) := by decide +kernel
theorem d_Book_sumOf_21 : decode prog_1_method_29_code 21 = .ok (.iand, 1) := by decide +kernel
theorem d_Book_sumOf_22 : decode prog_1_method_29_code 22 = .ok (.ixor, 1) := by decide +kernel
theorem d_Book_sumOf_23 : decode prog_1_method_29_code 23 = .ok (.istore_n 3, 1) := by decide +kernel
theorem d_Book_sumOf_24 : decode prog_1_method_29_code 24 = .ok (.iconst 0, 1) := by decide +kernel
theorem d_Book_sumOf_25 : decode prog_1_method_29_code 25 = .ok (.istore 5, 2) := by decide +kernel
theorem d_Book_sumOf_27 : decode prog_1_method_29_code 27 = .ok (.iload 5, 2) := by decide +kernel
theorem d_Book_sumOf_29 : decode prog_1_method_29_code 29 = .ok (.bipush 8, 2) := by decide +kernel
theorem d_Book_sumOf_31 : decode prog_1_method_29_code 31 = .ok (.if_icmp .ge 32, 3) := by decide +kernel
theorem d_Book_sumOf_63 : decode prog_1_method_29_code 63 = .ok (.iinc 4 1, 3) := by decide +kernel
theorem d_Book_sumOf_66 : decode prog_1_method_29_code 66 = .ok (.goto (-61), 3) := by decide +kernel
theorem d_Book_sumOf_34 : decode prog_1_method_29_code 34 = .ok (.iload_n 3, 1) := by decide +kernel
theorem d_Book_sumOf_35 : decode prog_1_method_29_code 35 = .ok (.iconst 1, 1) := by decide +kernel
theorem d_Book_sumOf_36 : decode prog_1_method_29_code 36 = .ok (.iand, 1) := by decide +kernel
theorem d_Book_sumOf_37 : decode prog_1_method_29_code 37 = .ok (.istore 6, 2) := by decide +kernel
theorem d_Book_sumOf_39 : decode prog_1_method_29_code 39 = .ok (.iload_n 3, 1) := by decide +kernel
theorem d_Book_sumOf_40 : decode prog_1_method_29_code 40 = .ok (.iconst 1, 1) := by decide +kernel
theorem d_Book_sumOf_41 : decode prog_1_method_29_code 41 = .ok (.iushr, 1) := by decide +kernel
theorem d_Book_sumOf_42 : decode prog_1_method_29_code 42 = .ok (.iload 6, 2) := by decide +kernel
theorem d_Book_sumOf_44 : decode prog_1_method_29_code 44 = .ok (.iconst 1, 1) := by decide +kernel
theorem d_Book_sumOf_45 : decode prog_1_method_29_code 45 = .ok (.if_icmp .ne 9, 3) := by decide +kernel
theorem d_Book_sumOf_54 : decode prog_1_method_29_code 54 = .ok (.iconst 0, 1) := by decide +kernel
theorem d_Book_sumOf_55 : decode prog_1_method_29_code 55 = .ok (.ixor, 1) := by decide +kernel
theorem d_Book_sumOf_56 : decode prog_1_method_29_code 56 = .ok (.istore_n 3, 1) := by decide +kernel
theorem d_Book_sumOf_57 : decode prog_1_method_29_code 57 = .ok (.iinc 5 1, 3) := by decide +kernel
theorem d_Book_sumOf_60 : decode prog_1_method_29_code 60 = .ok (.goto (-33), 3) := by decide +kernel
theorem d_Book_sumOf_48 : decode prog_1_method_29_code 48 = .ok (.ldc_w 265, 3) := by decide +kernel
theorem k_560 : (Jvm.Cond.constant "PackageBook" (265 : Nat) (-306674912 : Int32)) ∈ uW := uW_of 560 (by decide +kernel) (by decide +kernel)
theorem d_Book_sumOf_51 : decode prog_1_method_29_code 51 = .ok (.goto 4, 3) := by decide +kernel
abbrev y_Book_sumOf : MethodName := ⟨"PackageBook", "sumOf", "([BII)I"⟩
abbrev i_Book_sumOf : pb_I := (y_Book_sumOf, prog_1_method_29_code, 7, (some Jvm.ClassFile.FieldType.int), [], { frames := 0, cells := 0, slots := 0, locals := 0 })
set_option maxRecDepth 100000 in
set_option maxHeartbeats 4000000 in
theorem g_sumOf {l : Launch} (hl : l.stackTraces = false) (G : pb_G) (a : Nat) (Na : Nat) (f : Nat → Int32) (x : Int32) (n : Int32) (h0 : 0 ≤ x.toInt) (h1 : 0 ≤ n.toInt) (h2 : x.toInt + n.toInt ≤ Na) (h3 : Na ≤ 1000000) (F_f : sb_Fit f) : Cn l G i_Book_sumOf [.ref a, .int x, .int n] [(a, .inl (G.2.1, Na, .inl f))] (S := Int32) (fun rv_ u => rv_ = some (.int u) ∧ (u = cr_n f x.toInt n.toInt.toNat ^^^ (-1))) (fun u => [(a, .inl (G.2.1, Na, .inl f))]) := by
  refine Cn.of hl (by decide +kernel) rfl (Nat.le_of_ble_eq_true rfl) (fun M hQ => ?_)
  refine pb_eq (pc' := 0) (lo' := [(0, .ref a), (1, .int x), (2, .int n)]) (rest' := []) (ws' := [(a, .inl (G.2.1, Na, .inl f))]) ?_
  have zm1 : ((-1) : Int32).toInt = (-1) := by decide
  have zl0 : (0 : Int32).toInt = 0 := by decide
  have zl1 : (1 : Int32).toInt = 1 := by decide
  have zl8 : (8 : Int32).toInt = 8 := by decide
  have zl255 : (255 : Int32).toInt = 255 := by decide
  refine pb_iconst (pc := 0) (v := (-1)) d_Book_sumOf_0 (by decide) ?_
  refine pb_istore_n (pc := 1) (lo' := [(3, .int (-1)), (0, .ref a), (1, .int x), (2, .int n)]) d_Book_sumOf_1 rfl (by decide) rfl ?_
  refine pb_iload_n (pc := 2) d_Book_sumOf_2 2 rfl rfl ?_
  refine pb_istore (pc := 3) (lo' := [(4, .int x), (3, .int (-1)), (0, .ref a), (1, .int x), (2, .int n)]) d_Book_sumOf_3 (by decide) rfl ?_
  have hL5_1 : ∀ (N9 : Nat) (k : Int32) (s : Int32), (x.toInt ≤ k.toInt) → (k.toInt ≤ x.toInt + n.toInt) → (s = cr_n f x.toInt (k.toInt - x.toInt).toNat) → ((x.toInt + n.toInt - k.toInt).toNat) < N9 → pb_P l G M i_Book_sumOf 5 [(4, .int k), (3, .int s), (0, .ref a), (1, .int x), (2, .int n)] [] [(a, .inl (G.2.1, Na, .inl f))] 0 0 := by
    intro N9
    induction N9 with
    | zero => intro k s hk hk2 hs hm9; exact absurd hm9 (Nat.not_lt_zero _)
    | succ N9 ih5 =>
      intro k s hk hk2 hs hm9
      refine pb_iload (pc := 5) d_Book_sumOf_5 0 rfl ?_
      refine pb_iload_n (pc := 7) d_Book_sumOf_7 3 rfl rfl ?_
      refine pb_iload_n (pc := 8) d_Book_sumOf_8 4 rfl rfl ?_
      refine pb_iadd (pc := 9) d_Book_sumOf_9 ?_
      refine pb_topi (fun i2 ei2 => ?_)
      try have ti2 : i2.toInt = x.toInt + n.toInt := ti_add ei2 rfl rfl (by omega) (by omega)
      refine pb_icmp_ge (pc := 10) (tgt := 69) d_Book_sumOf_10 (by decide) (fun w3 => ?_) (fun w3 => ?_)
      · have tw3 : i2.toInt ≤ k.toInt := (ti_le rfl rfl).mp w3
        refine pb_iload_n (pc := 69) d_Book_sumOf_69 1 rfl rfl ?_
        refine pb_iconst (pc := 70) (v := (-1)) d_Book_sumOf_70 (by decide) ?_
        refine pb_ixor (pc := 71) d_Book_sumOf_71 ?_
        refine pb_topi (fun i4 ei4 => ?_)
        exact pb_iret (pc := 72) hQ d_Book_sumOf_72 rfl rfl (i4) ⟨rfl, (show i4 = cr_n f x.toInt n.toInt.toNat ^^^ (-1) from (cr_ret hs (by omega) (by assumption)))⟩ [0] (by decide) rfl rfl (by decide) (by decide)
      · have tw3 : ¬ i2.toInt ≤ k.toInt := fun z9 => w3 ((ti_le rfl rfl).mpr z9)
        refine pb_iload_n (pc := 13) d_Book_sumOf_13 1 rfl rfl ?_
        refine pb_aload_n (pc := 14) d_Book_sumOf_14 2 rfl rfl ?_
        refine pb_iload (pc := 15) d_Book_sumOf_15 0 rfl ?_
        refine pb_bald (pc := 17) d_Book_sumOf_17 0 rfl (vp_in_iff.mpr (by constructor <;> omega)) ?_
        refine pb_topi (fun i5 ei5 => ?_)
        have xi5 : i5 = gr f (k.toInt) := gr_ld ei5 (by omega)
        have yi5 : i5.toInt = gx f (k.toInt) := congrArg Int32.toInt xi5
        have ti5 : -128 ≤ i5.toInt ∧ i5.toInt ≤ 127 := ti_fit (F_f _) ei5
        refine pb_sipush (pc := 18) (v := 255) d_Book_sumOf_18 (by decide) ?_
        refine pb_iand (pc := 21) d_Book_sumOf_21 ?_
        refine pb_topi (fun i6 ei6 => ?_)
        have ti6 : 0 ≤ i6.toInt ∧ i6.toInt ≤ 255 := ti_and 8 ei6 (by decide) (by decide)
        refine pb_ixor (pc := 22) d_Book_sumOf_22 ?_
        refine pb_topi (fun i7 ei7 => ?_)
        refine pb_istore_n (pc := 23) (lo' := [(3, .int i7), (4, .int k), (0, .ref a), (1, .int x), (2, .int n)]) d_Book_sumOf_23 rfl (by decide) rfl ?_
        refine pb_iconst (pc := 24) (v := 0) d_Book_sumOf_24 (by decide) ?_
        refine pb_istore (pc := 25) (lo' := [(5, .int 0), (3, .int i7), (4, .int k), (0, .ref a), (1, .int x), (2, .int n)]) d_Book_sumOf_25 (by decide) rfl ?_
        have hL27_8 : ∀ (N9 : Nat) (b : Int32) (s2 : Int32), (0 ≤ b.toInt) → (b.toInt ≤ 8) → (s2 = cr_i b.toInt.toNat (s ^^^ (gr f k.toInt &&& 255))) → ((8 - b.toInt).toNat) < N9 → pb_P l G M i_Book_sumOf 27 [(5, .int b), (3, .int s2), (4, .int k), (0, .ref a), (1, .int x), (2, .int n)] [] [(a, .inl (G.2.1, Na, .inl f))] 0 0 := by
          intro N9
          induction N9 with
          | zero => intro b s2 hb hb8 hs2 hm9; exact absurd hm9 (Nat.not_lt_zero _)
          | succ N9 ih27 =>
            intro b s2 hb hb8 hs2 hm9
            refine pb_iload (pc := 27) d_Book_sumOf_27 0 rfl ?_
            refine pb_bipush (pc := 29) (v := 8) d_Book_sumOf_29 (by decide) ?_
            refine pb_icmp_ge (pc := 31) (tgt := 63) d_Book_sumOf_31 (by decide) (fun w9 => ?_) (fun w9 => ?_)
            · have tw9 : 8 ≤ b.toInt := (ti_le (by decide) rfl).mp w9
              refine pb_iincN (pc := 63) (c := 1) d_Book_sumOf_63 2 rfl (by decide) (by decide) (fun i10 ei10 => ?_)
              have ti10 : i10.toInt = k.toInt + 1 := ti_add ei10 rfl (by decide) (by omega) (by omega)
              refine pb_eq (pc' := 66) (lo' := [(4, .int i10), (5, .int b), (3, .int s2), (0, .ref a), (1, .int x), (2, .int n)]) (rest' := []) (ws' := [(a, .inl (G.2.1, Na, .inl f))]) ?_
              refine pb_goto (pc := 66) (tgt := 5) d_Book_sumOf_66 (by decide) ?_
              refine pb_re (ws' := [(a, .inl (G.2.1, Na, .inl f))]) (lo' := [(4, .int i10), (3, .int s2), (0, .ref a), (1, .int x), (2, .int n)]) [0] [0, 2, 3, 4, 5] (by decide) rfl rfl rfl ?_
              exact ih5 i10 s2 (by first | (with_reducible assumption) | omega (splitDisjunctions := false) | assumption | omega | decide) (by first | (with_reducible assumption) | omega (splitDisjunctions := false) | assumption | omega | decide) (cr_nx hs hs2 (by omega) (by omega) (by omega)) (by omega)
            · have tw9 : ¬ 8 ≤ b.toInt := fun z9 => w9 ((ti_le (by decide) rfl).mpr z9)
              refine pb_iload_n (pc := 34) d_Book_sumOf_34 1 rfl rfl ?_
              refine pb_iconst (pc := 35) (v := 1) d_Book_sumOf_35 (by decide) ?_
              refine pb_iand (pc := 36) d_Book_sumOf_36 ?_
              refine pb_topi (fun i11 ei11 => ?_)
              have ti11 : 0 ≤ i11.toInt ∧ i11.toInt ≤ 1 := ti_and 1 ei11 (by decide) (by decide)
              refine pb_istore (pc := 37) (lo' := [(6, .int i11), (5, .int b), (3, .int s2), (4, .int k), (0, .ref a), (1, .int x), (2, .int n)]) d_Book_sumOf_37 (by decide) rfl ?_
              refine pb_iload_n (pc := 39) d_Book_sumOf_39 2 rfl rfl ?_
              refine pb_iconst (pc := 40) (v := 1) d_Book_sumOf_40 (by decide) ?_
              refine pb_iushr (pc := 41) d_Book_sumOf_41 rfl ?_
              refine pb_topi (fun i12 ei12 => ?_)
              refine pb_iload (pc := 42) d_Book_sumOf_42 0 rfl ?_
              refine pb_iconst (pc := 44) (v := 1) d_Book_sumOf_44 (by decide) ?_
              refine pb_icmp_ne (pc := 45) (tgt := 54) d_Book_sumOf_45 (by decide) (fun w13 => ?_) (fun w13 => ?_)
              · have tw13 : ¬ i11.toInt = 1 := fun z9 => w13 ((ti_eq rfl (by decide)).mpr z9)
                refine pb_iconst (pc := 54) (v := 0) d_Book_sumOf_54 (by decide) ?_
                refine pb_ixor (pc := 55) d_Book_sumOf_55 ?_
                refine pb_topi (fun i14 ei14 => ?_)
                refine pb_istore_n (pc := 56) (lo' := [(3, .int i14), (6, .int i11), (5, .int b), (4, .int k), (0, .ref a), (1, .int x), (2, .int n)]) d_Book_sumOf_56 rfl (by decide) rfl ?_
                refine pb_iincN (pc := 57) (c := 1) d_Book_sumOf_57 2 rfl (by decide) (by decide) (fun i15 ei15 => ?_)
                have ti15 : i15.toInt = b.toInt + 1 := ti_add ei15 rfl (by decide) (by omega) (by omega)
                refine pb_eq (pc' := 60) (lo' := [(5, .int i15), (3, .int i14), (6, .int i11), (4, .int k), (0, .ref a), (1, .int x), (2, .int n)]) (rest' := []) (ws' := [(a, .inl (G.2.1, Na, .inl f))]) ?_
                refine pb_goto (pc := 60) (tgt := 27) d_Book_sumOf_60 (by decide) ?_
                refine pb_re (ws' := [(a, .inl (G.2.1, Na, .inl f))]) (lo' := [(5, .int i15), (3, .int i14), (4, .int k), (0, .ref a), (1, .int x), (2, .int n)]) [0] [0, 1, 3, 4, 5, 6] (by decide) rfl rfl rfl ?_
                exact ih27 i15 i14 (by first | (with_reducible assumption) | omega (splitDisjunctions := false) | assumption | omega | decide) (by first | (with_reducible assumption) | omega (splitDisjunctions := false) | assumption | omega | decide) (cr_st hs2 (by omega) (by omega) (by first | exact cr_e1 (by assumption) (by omega) (by assumption) (by assumption) | exact cr_e0 (by assumption) (by omega) (by assumption) (by assumption))) (by (exact omg_d2f4b98d7b hm9 tw9 ti15))
              · have tw13 : i11.toInt = 1 := (ti_eq rfl (by decide)).mp w13
                refine pb_ldc_w (pc := 48) (v := (-306674912)) d_Book_sumOf_48 k_560 ?_
                refine pb_goto (pc := 51) (tgt := 55) d_Book_sumOf_51 (by decide) ?_
                refine pb_ixor (pc := 55) d_Book_sumOf_55 ?_
                refine pb_topi (fun i16 ei16 => ?_)
                refine pb_istore_n (pc := 56) (lo' := [(3, .int i16), (6, .int i11), (5, .int b), (4, .int k), (0, .ref a), (1, .int x), (2, .int n)]) d_Book_sumOf_56 rfl (by decide) rfl ?_
                refine pb_iincN (pc := 57) (c := 1) d_Book_sumOf_57 2 rfl (by decide) (by decide) (fun i17 ei17 => ?_)
                have ti17 : i17.toInt = b.toInt + 1 := ti_add ei17 rfl (by decide) (by omega) (by omega)
                refine pb_eq (pc' := 60) (lo' := [(5, .int i17), (3, .int i16), (6, .int i11), (4, .int k), (0, .ref a), (1, .int x), (2, .int n)]) (rest' := []) (ws' := [(a, .inl (G.2.1, Na, .inl f))]) ?_
                refine pb_goto (pc := 60) (tgt := 27) d_Book_sumOf_60 (by decide) ?_
                refine pb_re (ws' := [(a, .inl (G.2.1, Na, .inl f))]) (lo' := [(5, .int i17), (3, .int i16), (4, .int k), (0, .ref a), (1, .int x), (2, .int n)]) [0] [0, 1, 3, 4, 5, 6] (by decide) rfl rfl rfl ?_
                exact ih27 i17 i16 (by first | (with_reducible assumption) | omega (splitDisjunctions := false) | assumption | omega | decide) (by first | (with_reducible assumption) | omega (splitDisjunctions := false) | assumption | omega | decide) (cr_st hs2 (by omega) (by omega) (by first | exact cr_e1 (by assumption) (by omega) (by assumption) (by assumption) | exact cr_e0 (by assumption) (by omega) (by assumption) (by assumption))) (by (exact omg_d2f4b98d7b hm9 tw9 ti17))
        exact hL27_8 _ 0 i7 (by first | (with_reducible assumption) | omega (splitDisjunctions := false) | assumption | omega | decide) (by first | (with_reducible assumption) | omega (splitDisjunctions := false) | assumption | omega | decide) (cr_z (by assumption) (by assumption) (by assumption) zl0) (Nat.lt_succ_self _)
  exact hL5_1 _ x (-1) (by first | (with_reducible assumption) | omega (splitDisjunctions := false) | assumption | omega | decide) (by first | (with_reducible assumption) | omega (splitDisjunctions := false) | assumption | omega | decide) (by rw [show x.toInt - x.toInt = 0 by omega]; rfl) (Nat.lt_succ_self _)

/-- the two bytes at a place, as a number -/
def tw_r (f : Nat → Int32) (k : Int) : Int32 := (gr f k &&& 255) ||| ((gr f (k + 1) &&& 255) <<< ((8 : Int32) &&& 31))
def tw (f : Nat → Int32) (k : Int) : Int := (tw_r f k).toInt

theorem d_Book_twoAt_0 : decode prog_1_method_30_code 0 = .ok (.aload_n 0, 1) := by decide +kernel
theorem d_Book_twoAt_1 : decode prog_1_method_30_code 1 = .ok (.iload_n 1, 1) := by decide +kernel
theorem d_Book_twoAt_2 : decode prog_1_method_30_code 2 = .ok (.baload, 1) := by decide +kernel
theorem d_Book_twoAt_3 : decode prog_1_method_30_code 3 = .ok (.sipush 255, 3) := by decide +kernel
theorem d_Book_twoAt_6 : decode prog_1_method_30_code 6 = .ok (.iand, 1) := by decide +kernel
theorem d_Book_twoAt_7 : decode prog_1_method_30_code 7 = .ok (.aload_n 0, 1) := by decide +kernel
theorem d_Book_twoAt_8 : decode prog_1_method_30_code 8 = .ok (.iload_n 1, 1) := by decide +kernel
theorem d_Book_twoAt_9 : decode prog_1_method_30_code 9 = .ok (.iconst 1, 1) := by decide +kernel
theorem d_Book_twoAt_10 : decode prog_1_method_30_code 10 = .ok (.iadd, 1) := by decide +kernel
theorem d_Book_twoAt_11 : decode prog_1_method_30_code 11 = .ok (.baload, 1) := by decide +kernel
theorem d_Book_twoAt_12 : decode prog_1_method_30_code 12 = .ok (.sipush 255, 3) := by decide +kernel
theorem d_Book_twoAt_15 : decode prog_1_method_30_code 15 = .ok (.iand, 1) := by decide +kernel
theorem d_Book_twoAt_16 : decode prog_1_method_30_code 16 = .ok (.bipush 8, 2) := by decide +kernel
theorem d_Book_twoAt_18 : decode prog_1_method_30_code 18 = .ok (.ishl, 1) := by decide +kernel
theorem d_Book_twoAt_19 : decode prog_1_method_30_code 19 = .ok (.ior, 1) := by decide +kernel
theorem d_Book_twoAt_20 : decode prog_1_method_30_code 20 = .ok (.ireturn, 1) := by decide +kernel
abbrev y_Book_twoAt : MethodName := ⟨"PackageBook", "twoAt", "([BI)I"⟩
abbrev i_Book_twoAt : pb_I := (y_Book_twoAt, prog_1_method_30_code, 2, (some Jvm.ClassFile.FieldType.int), [], { frames := 0, cells := 0, slots := 0, locals := 0 })
set_option maxRecDepth 100000 in
set_option maxHeartbeats 4000000 in
theorem g_twoAt {l : Launch} (hl : l.stackTraces = false) (G : pb_G) (a : Nat) (Na : Nat) (f : Nat → Int32) (x : Int32) (h0 : 0 ≤ x.toInt) (h1 : x.toInt + 2 ≤ Na) (h2 : Na ≤ 1000000) (F_f : sb_Fit f) : Cn l G i_Book_twoAt [.ref a, .int x] [(a, .inl (G.2.1, Na, .inl f))] (S := Int32) (fun rv_ u => rv_ = some (.int u) ∧ (0 ≤ u.toInt) ∧ (u.toInt ≤ 65535) ∧ (u.toInt = tw f x.toInt) ∧ (u.toInt = av f x.toInt 2)) (fun u => [(a, .inl (G.2.1, Na, .inl f))]) := by
  refine Cn.of hl (by decide +kernel) rfl (Nat.le_of_ble_eq_true rfl) (fun M hQ => ?_)
  refine pb_eq (pc' := 0) (lo' := [(0, .ref a), (1, .int x)]) (rest' := []) (ws' := [(a, .inl (G.2.1, Na, .inl f))]) ?_
  have zl0 : (0 : Int32).toInt = 0 := by decide
  have zl1 : (1 : Int32).toInt = 1 := by decide
  have zl8 : (8 : Int32).toInt = 8 := by decide
  have zl255 : (255 : Int32).toInt = 255 := by decide
  refine pb_aload_n (pc := 0) d_Book_twoAt_0 0 rfl rfl ?_
  refine pb_iload_n (pc := 1) d_Book_twoAt_1 1 rfl rfl ?_
  refine pb_bald (pc := 2) d_Book_twoAt_2 0 rfl (vp_in_iff.mpr (by constructor <;> omega)) ?_
  refine pb_topi (fun i1 ei1 => ?_)
  have xi1 : i1 = gr f (x.toInt) := gr_ld ei1 (by omega)
  have yi1 : i1.toInt = gx f (x.toInt) := congrArg Int32.toInt xi1
  have ti1 : -128 ≤ i1.toInt ∧ i1.toInt ≤ 127 := ti_fit (F_f _) ei1
  refine pb_sipush (pc := 3) (v := 255) d_Book_twoAt_3 (by decide) ?_
  refine pb_iand (pc := 6) d_Book_twoAt_6 ?_
  refine pb_topi (fun i2 ei2 => ?_)
  have ti2 : 0 ≤ i2.toInt ∧ i2.toInt ≤ 255 := ti_and 8 ei2 (by decide) (by decide)
  refine pb_aload_n (pc := 7) d_Book_twoAt_7 0 rfl rfl ?_
  refine pb_iload_n (pc := 8) d_Book_twoAt_8 1 rfl rfl ?_
  refine pb_iconst (pc := 9) (v := 1) d_Book_twoAt_9 (by decide) ?_
  refine pb_iadd (pc := 10) d_Book_twoAt_10 ?_
  refine pb_topi (fun i3 ei3 => ?_)
  try have ti3 : i3.toInt = x.toInt + 1 := ti_add ei3 rfl (by decide) (by omega) (by omega)
  refine pb_bald (pc := 11) d_Book_twoAt_11 0 rfl (vp_in_iff.mpr (by constructor <;> omega)) ?_
  refine pb_topi (fun i4 ei4 => ?_)
  have xi4 : i4 = gr f (x.toInt + 1) := gr_ld ei4 (by omega)
  have yi4 : i4.toInt = gx f (x.toInt + 1) := congrArg Int32.toInt xi4
  have ti4 : -128 ≤ i4.toInt ∧ i4.toInt ≤ 127 := ti_fit (F_f _) ei4
  refine pb_sipush (pc := 12) (v := 255) d_Book_twoAt_12 (by decide) ?_
  refine pb_iand (pc := 15) d_Book_twoAt_15 ?_
  refine pb_topi (fun i5 ei5 => ?_)
  have ti5 : 0 ≤ i5.toInt ∧ i5.toInt ≤ 255 := ti_and 8 ei5 (by decide) (by decide)
  refine pb_bipush (pc := 16) (v := 8) d_Book_twoAt_16 (by decide) ?_
  refine pb_ishl (pc := 18) d_Book_twoAt_18 ?_
  refine pb_topi (fun i6 ei6 => ?_)
  try have ti6 : i6.toInt = i5.toInt * 256 := ti_shl ei6 rfl 8 (by decide) (by decide) (by omega) (by omega)
  refine pb_ior (pc := 19) d_Book_twoAt_19 ?_
  refine pb_topi (fun i7 ei7 => ?_)
  have ti7 : 0 ≤ i7.toInt ∧ i7.toInt < 65536 := ti_or 16 ei7 rfl rfl (by omega) (by omega) (by omega) (by omega) (by decide)
  exact pb_iret (pc := 20) hQ d_Book_twoAt_20 rfl rfl (i7) ⟨rfl, (by (try dsimp only); first | done | (with_reducible assumption) | omega (splitDisjunctions := false) | assumption | omega | decide), (by (try dsimp only); first | done | (with_reducible assumption) | omega (splitDisjunctions := false) | assumption | omega | decide), (show i7.toInt = tw f x.toInt from (by unfold tw; exact congrArg Int32.toInt (by simp only [xi1, ei2, ei3, xi4, ei5, ei6, ei7, tw_r]))), (show i7.toInt = av f x.toInt 2 from (tw_avE (by assumption) (by assumption) (by assumption) (by assumption) (by assumption) (by assumption)))⟩ [0] (by decide) rfl rfl (by decide) (by decide)

theorem d_Book_fourAt_0 : decode prog_1_method_31_code 0 = .ok (.aload_n 0, 1) := by decide +kernel
theorem d_Book_fourAt_1 : decode prog_1_method_31_code 1 = .ok (.iload_n 1, 1) := by decide +kernel
theorem d_Book_fourAt_2 : decode prog_1_method_31_code 2 = .ok (.invokestatic 266, 3) := by decide +kernel
theorem k_595 : (Jvm.Cond.methodLink "PackageBook" (266 : Nat) ({ cls := "PackageBook", name := "twoAt", desc := "([BI)I" } : Jvm.MethodName)) ∈ uW := uW_of 595 (by decide +kernel) (by decide +kernel)
theorem k_597 : (Jvm.Cond.code ({ cls := "PackageBook", name := "twoAt", desc := "([BI)I" } : Jvm.MethodName) prog_1_method_30_code (2 : Nat) (Option.some Jvm.ClassFile.FieldType.int)) ∈ uW := uW_of 597 (by decide +kernel) (by decide +kernel)
theorem k_596 : (Jvm.Cond.static ({ cls := "PackageBook", name := "twoAt", desc := "([BI)I" } : Jvm.MethodName)) ∈ uW := uW_of 596 (by decide +kernel) (by decide +kernel)
theorem hy_Book_twoAt : (y_Book_twoAt).cls ≠ "java/lang/invoke/MethodHandle" ∧ (y_Book_twoAt).cls ≠ "java/lang/invoke/VarHandle" ∧ (parseMethodDescriptor (y_Book_twoAt).desc).map (fun d => d.parameters.length) = some 2 := by decide +kernel
theorem d_Book_fourAt_5 : decode prog_1_method_31_code 5 = .ok (.i2l, 1) := by decide +kernel
theorem d_Book_fourAt_6 : decode prog_1_method_31_code 6 = .ok (.aload_n 0, 1) := by decide +kernel
theorem d_Book_fourAt_7 : decode prog_1_method_31_code 7 = .ok (.iload_n 1, 1) := by decide +kernel
theorem d_Book_fourAt_8 : decode prog_1_method_31_code 8 = .ok (.iconst 2, 1) := by decide +kernel
theorem d_Book_fourAt_9 : decode prog_1_method_31_code 9 = .ok (.iadd, 1) := by decide +kernel
theorem d_Book_fourAt_10 : decode prog_1_method_31_code 10 = .ok (.invokestatic 266, 3) := by decide +kernel
theorem d_Book_fourAt_13 : decode prog_1_method_31_code 13 = .ok (.i2l, 1) := by decide +kernel
theorem d_Book_fourAt_14 : decode prog_1_method_31_code 14 = .ok (.bipush 16, 2) := by decide +kernel
theorem d_Book_fourAt_16 : decode prog_1_method_31_code 16 = .ok (.lshl, 1) := by decide +kernel
theorem d_Book_fourAt_17 : decode prog_1_method_31_code 17 = .ok (.lor, 1) := by decide +kernel
theorem d_Book_fourAt_18 : decode prog_1_method_31_code 18 = .ok (.lreturn, 1) := by decide +kernel
abbrev y_Book_fourAt : MethodName := ⟨"PackageBook", "fourAt", "([BI)J"⟩
abbrev i_Book_fourAt : pb_I := (y_Book_fourAt, prog_1_method_31_code, 2, (some Jvm.ClassFile.FieldType.long), [], { frames := 1, cells := 0, slots := 0, locals := 21 })
set_option maxRecDepth 100000 in
set_option maxHeartbeats 4000000 in
theorem g_fourAt {l : Launch} (hl : l.stackTraces = false) (G : pb_G) (a : Nat) (Na : Nat) (f : Nat → Int32) (x : Int32) (h0 : 0 ≤ x.toInt) (h1 : x.toInt + 4 ≤ Na) (h2 : Na ≤ 1000000) (F_f : sb_Fit f) : Cn l G i_Book_fourAt [.ref a, .int x] [(a, .inl (G.2.1, Na, .inl f))] (S := Int64) (fun rv_ u => rv_ = some (.long u) ∧ (0 ≤ u.toInt) ∧ (u.toInt < 4294967296) ∧ (u.toInt = av f x.toInt 4)) (fun u => [(a, .inl (G.2.1, Na, .inl f))]) := by
  refine Cn.of hl (by decide +kernel) rfl (Nat.le_of_ble_eq_true rfl) (fun M hQ => ?_)
  refine pb_eq (pc' := 0) (lo' := [(0, .ref a), (1, .int x)]) (rest' := []) (ws' := [(a, .inl (G.2.1, Na, .inl f))]) ?_
  have zl0 : (0 : Int32).toInt = 0 := by decide
  have zl1 : (1 : Int32).toInt = 1 := by decide
  have zl2 : (2 : Int32).toInt = 2 := by decide
  have zl16 : (16 : Int32).toInt = 16 := by decide
  refine pb_aload_n (pc := 0) d_Book_fourAt_0 0 rfl rfl ?_
  refine pb_iload_n (pc := 1) d_Book_fourAt_1 1 rfl rfl ?_
  refine pb_callS (pc := 2) (I := i_Book_fourAt) (nA := 2) (rest := []) (wr := []) d_Book_fourAt_2 (g_twoAt hl G a Na f x (by first | (with_reducible assumption) | omega (splitDisjunctions := false) | assumption | omega | decide) (by first | (with_reducible assumption) | omega (splitDisjunctions := false) | assumption | omega | decide) (by first | (with_reducible assumption) | omega (splitDisjunctions := false) | assumption | omega | decide) F_f) [0] [] (by decide) rfl rfl rfl (by decide) (by decide) k_597 rfl k_118 k_595 k_596 hy_Book_twoAt (by decide) rfl rfl (Nat.le_of_ble_eq_true rfl) (by decide) (fun v9 u2 ch1 => ?_)
  obtain ⟨r_3, rfl⟩ : ∃ z9, z9 = u2 := ⟨_, rfl⟩
  obtain ⟨ech1, ch1⟩ := ch1
  have ech1 : v9 = some (.int r_3) := ech1
  subst ech1
  obtain ⟨fh4, fh5, fh6, fh7⟩ : (0 ≤ r_3.toInt) ∧ (r_3.toInt ≤ 65535) ∧ (r_3.toInt = tw f x.toInt) ∧ (r_3.toInt = av f x.toInt 2) := ch1
  have u1F := fh7
  have u1R := fh5
  have u1Z := fh4
  refine pb_eq (pc' := 5) (lo' := [(0, .ref a), (1, .int x)]) (rest' := [.int r_3]) (ws' := [(a, .inl (G.2.1, Na, .inl f))]) ?_
  refine pb_i2l (pc := 5) d_Book_fourAt_5 rfl ?_
  refine pb_topl (fun j8 ej8 => ?_)
  have tj8 : j8.toInt = r_3.toInt := tl_i2l ej8 rfl
  refine pb_aload_n (pc := 6) d_Book_fourAt_6 0 rfl rfl ?_
  refine pb_iload_n (pc := 7) d_Book_fourAt_7 1 rfl rfl ?_
  refine pb_iconst (pc := 8) (v := 2) d_Book_fourAt_8 (by decide) ?_
  refine pb_iadd (pc := 9) d_Book_fourAt_9 ?_
  refine pb_topi (fun i9 ei9 => ?_)
  try have ti9 : i9.toInt = x.toInt + 2 := ti_add ei9 rfl (by decide) (by omega) (by omega)
  refine pb_callS (pc := 10) (I := i_Book_fourAt) (nA := 2) (rest := [.long j8]) (wr := []) d_Book_fourAt_10 (g_twoAt hl G a Na f i9 (by first | (with_reducible assumption) | omega (splitDisjunctions := false) | assumption | omega | decide) (by first | (with_reducible assumption) | omega (splitDisjunctions := false) | assumption | omega | decide) (by first | (with_reducible assumption) | omega (splitDisjunctions := false) | assumption | omega | decide) F_f) [0] [] (by decide) rfl rfl rfl (by decide) (by decide) k_597 rfl k_118 k_595 k_596 hy_Book_twoAt (by decide) rfl rfl (Nat.le_of_ble_eq_true rfl) (by decide) (fun v9 u11 ch10 => ?_)
  obtain ⟨r_12, rfl⟩ : ∃ z9, z9 = u11 := ⟨_, rfl⟩
  obtain ⟨ech10, ch10⟩ := ch10
  have ech10 : v9 = some (.int r_12) := ech10
  subst ech10
  obtain ⟨fh13, fh14, fh15, fh16⟩ : (0 ≤ r_12.toInt) ∧ (r_12.toInt ≤ 65535) ∧ (r_12.toInt = tw f i9.toInt) ∧ (r_12.toInt = av f i9.toInt 2) := ch10
  have u2F := fh16
  rw [show i9.toInt = x.toInt + 2 by omega] at u2F
  have u2Z := fh13
  refine pb_eq (pc' := 13) (lo' := [(0, .ref a), (1, .int x)]) (rest' := [.int r_12, .long j8]) (ws' := [(a, .inl (G.2.1, Na, .inl f))]) ?_
  refine pb_i2l (pc := 13) d_Book_fourAt_13 rfl ?_
  refine pb_topl (fun j17 ej17 => ?_)
  have tj17 : j17.toInt = r_12.toInt := tl_i2l ej17 rfl
  refine pb_bipush (pc := 14) (v := 16) d_Book_fourAt_14 (by decide) ?_
  refine pb_lshl (pc := 16) d_Book_fourAt_16 rfl ?_
  refine pb_topl (fun j18 ej18 => ?_)
  try have tj18 : j18.toInt = j17.toInt * 65536 := tl_shl ej18 rfl 16 (by decide) (by omega) (by omega)
  refine pb_lor (pc := 17) d_Book_fourAt_17 ?_
  refine pb_topl (fun j19 ej19 => ?_)
  have tj19 : 0 ≤ j19.toInt ∧ j19.toInt < 4294967296 := tl_or 32 ej19 rfl rfl (by omega) (by omega) (by omega) (by omega) (by decide)
  exact pb_lret (pc := 18) hQ d_Book_fourAt_18 rfl (j19) ⟨rfl, (by (try dsimp only); first | done | (with_reducible assumption) | omega (splitDisjunctions := false) | assumption | omega | decide), (by (try dsimp only); first | done | (with_reducible assumption) | omega (splitDisjunctions := false) | assumption | omega | decide), (show j19.toInt = av f x.toInt 4 from (by have q9 := tl_orv (c := 65536) 16 (show _ = _ ||| _ by assumption) (by omega) (by omega) (by decide) u1Z (by omega) u2Z; rw [q9, av4_2]; omega))⟩ [0] (by decide) rfl rfl (by decide) (by decide)
