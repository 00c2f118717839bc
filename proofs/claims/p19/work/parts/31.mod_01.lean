/-! ROWS OF NUMBERS -/
theorem omg_1d140a567a {x0 : Int} {x1 : Int} (a0 : (x0 ≤ (8 : Int))) (a1 : ((0 : Int) ≤ x1)) (a2 : (¬ (x0 ≤ x1))) : (((-(2147483648 : Int)) ≤ (x1 + (1 : Int))) ∧ ((x1 + (1 : Int)) < (2147483648 : Int))) := by omega
theorem d_Mod_enter_0 : decode prog_12_method_50_code 0 = .ok (.iconst 0, 1) := by decide +kernel
theorem d_Mod_enter_1 : decode prog_12_method_50_code 1 = .ok (.istore 4, 2) := by decide +kernel
theorem d_Mod_enter_3 : decode prog_12_method_50_code 3 = .ok (.iload 4, 2) := by decide +kernel
theorem d_Mod_enter_5 : decode prog_12_method_50_code 5 = .ok (.iload_n 3, 1) := by decide +kernel
theorem d_Mod_enter_6 : decode prog_12_method_50_code 6 = .ok (.if_icmp .ge 37, 3) := by decide +kernel
theorem d_Mod_enter_43 : decode prog_12_method_50_code 43 = .ok (.return_, 1) := by decide +kernel
theorem d_Mod_enter_9 : decode prog_12_method_50_code 9 = .ok (.aload_n 0, 1) := by decide +kernel
theorem d_Mod_enter_10 : decode prog_12_method_50_code 10 = .ok (.getfield 60, 3) := by decide +kernel
theorem k_1167 : (Jvm.Cond.fieldLink "PackageBookModel" (60 : Nat) "PackageBookModel" "directory" "[B") ∈ uW := uW_of 1167 (by decide +kernel) (by decide +kernel)
theorem d_Mod_enter_13 : decode prog_12_method_50_code 13 = .ok (.aload_n 0, 1) := by decide +kernel
theorem d_Mod_enter_14 : decode prog_12_method_50_code 14 = .ok (.getfield 272, 3) := by decide +kernel
theorem k_1166 : (Jvm.Cond.fieldLink "PackageBookModel" (272 : Nat) "PackageBookModel" "directorySize" "I") ∈ uW := uW_of 1166 (by decide +kernel) (by decide +kernel)
theorem d_Mod_enter_17 : decode prog_12_method_50_code 17 = .ok (.lload_n 1, 1) := by decide +kernel
theorem d_Mod_enter_18 : decode prog_12_method_50_code 18 = .ok (.bipush 8, 2) := by decide +kernel
theorem d_Mod_enter_20 : decode prog_12_method_50_code 20 = .ok (.iload 4, 2) := by decide +kernel
theorem d_Mod_enter_22 : decode prog_12_method_50_code 22 = .ok (.imul, 1) := by decide +kernel
theorem d_Mod_enter_23 : decode prog_12_method_50_code 23 = .ok (.lshr, 1) := by decide +kernel
theorem d_Mod_enter_24 : decode prog_12_method_50_code 24 = .ok (.l2i, 1) := by decide +kernel
theorem d_Mod_enter_25 : decode prog_12_method_50_code 25 = .ok (.i2b, 1) := by decide +kernel
theorem d_Mod_enter_26 : decode prog_12_method_50_code 26 = .ok (.bastore, 1) := by decide +kernel
theorem d_Mod_enter_27 : decode prog_12_method_50_code 27 = .ok (.aload_n 0, 1) := by decide +kernel
theorem d_Mod_enter_28 : decode prog_12_method_50_code 28 = .ok (.dup, 1) := by decide +kernel
theorem d_Mod_enter_29 : decode prog_12_method_50_code 29 = .ok (.getfield 272, 3) := by decide +kernel
theorem d_Mod_enter_32 : decode prog_12_method_50_code 32 = .ok (.iconst 1, 1) := by decide +kernel
theorem d_Mod_enter_33 : decode prog_12_method_50_code 33 = .ok (.iadd, 1) := by decide +kernel
theorem d_Mod_enter_34 : decode prog_12_method_50_code 34 = .ok (.putfield 272, 3) := by decide +kernel
theorem d_Mod_enter_37 : decode prog_12_method_50_code 37 = .ok (.iinc 4 1, 3) := by decide +kernel
theorem d_Mod_enter_40 : decode prog_12_method_50_code 40 = .ok (.goto (-37), 3) := by decide +kernel
abbrev y_Mod_enter : MethodName := ⟨"PackageBookModel", "enter", "(JI)V"⟩
abbrev i_Mod_enter : pb_I := (y_Mod_enter, prog_12_method_50_code, 5, (Option.none : Option Jvm.ClassFile.FieldType), [], { frames := 0, cells := 0, slots := 0, locals := 0 })
set_option maxRecDepth 100000 in
set_option maxHeartbeats 4000000 in
theorem g_Mod_enter {l : Launch} (hl : l.stackTraces = false) (G : pb_G) (h : Nat) (m_rels : Nat) (m_openRels : Nat) (m_closeRels : Nat) (m_openRel : Nat) (m_closeRel : Nat) (m_comment : Nat) (m_ends : Nat) (m_order : Nat) (m_tape : Nat) (m_count : Nat) (m_nameSize : Nat) (m_names : Nat) (m_size : Nat) (m_data : Nat) (m_looked : Nat) (m_file : Nat) (m_directory : Nat) (m_out : Nat) (m_row : Nat) (m_made : Nat) (m_length : Nat) (m_pressed : Nat) (m_mark : Nat) (m_idSize : Nat) (m_ids : Nat) (m_goalSize : Nat) (m_goals : Nat) (m_value : Nat) (m_faults : Nat) (m_reached : Nat) (v_thrown : Int32) (v_taped : Int32) (v_lookedSize : Int32) (v_fileSize : Int32) (v_directorySize : Int32) (v_outSize : Int32) (v_rowSize : Int32) (v_bitAt : Int32) (v_bitEnd : Int32) (v_why : Int32) (v_madeSize : Int32) (v_firstCount : Int32) (v_secondCount : Int32) (v_heldBits : Int32) (v_heldCount : Int32) (v_pressedSize : Int32) (v_at : Int32) (v_bad : Int32) (v_markSize : Int32) (v_relationCount : Int32) (v_valueSize : Int32) (v_faultCount : Int32) (a_directory : Nat → Int32) (w : Int64) (n : Int32) (h0 : 0 ≤ v_directorySize.toInt) (h1 : 0 ≤ n.toInt) (h2 : v_directorySize.toInt + n.toInt ≤ 2000) (h3 : n.toInt ≤ 8) (F_a_directory : sb_Fit a_directory) : Cn l G i_Mod_enter [.ref h, .long w, .int n] [(h, .inr (10, [.ref m_rels, .ref m_openRels, .ref m_closeRels, .ref m_openRel, .ref m_closeRel, .ref m_comment, .ref m_ends, .ref m_order, .int v_thrown, .int v_taped, .ref m_tape, .ref m_count, .ref m_nameSize, .ref m_names, .ref m_size, .ref m_data, .int v_lookedSize, .ref m_looked, .int v_fileSize, .ref m_file, .int v_directorySize, .ref m_directory, .int v_outSize, .ref m_out, .int v_rowSize, .ref m_row, .int v_bitAt, .int v_bitEnd, .int v_why, .int v_madeSize, .ref m_made, .ref m_length, .int v_firstCount, .int v_secondCount, .int v_heldBits, .int v_heldCount, .int v_pressedSize, .ref m_pressed, .int v_at, .int v_bad, .int v_markSize, .ref m_mark, .int v_relationCount, .ref m_idSize, .ref m_ids, .ref m_goalSize, .ref m_goals, .int v_valueSize, .ref m_value, .int v_faultCount, .ref m_faults, .ref m_reached])), (m_directory, .inl (G.2.1, 2000, .inl a_directory))] (S := Int32 × (Nat → Int32)) (fun rv_ u => rv_ = none ∧ (u.1.toInt = v_directorySize.toInt + n.toInt) ∧ (ap_ a_directory v_directorySize.toInt u.2 u.1.toInt (nk_ w.toInt n.toInt.toNat)) ∧ (sb_Fit u.2)) (fun u => [(h, .inr (10, [.ref m_rels, .ref m_openRels, .ref m_closeRels, .ref m_openRel, .ref m_closeRel, .ref m_comment, .ref m_ends, .ref m_order, .int v_thrown, .int v_taped, .ref m_tape, .ref m_count, .ref m_nameSize, .ref m_names, .ref m_size, .ref m_data, .int v_lookedSize, .ref m_looked, .int v_fileSize, .ref m_file, .int u.1, .ref m_directory, .int v_outSize, .ref m_out, .int v_rowSize, .ref m_row, .int v_bitAt, .int v_bitEnd, .int v_why, .int v_madeSize, .ref m_made, .ref m_length, .int v_firstCount, .int v_secondCount, .int v_heldBits, .int v_heldCount, .int v_pressedSize, .ref m_pressed, .int v_at, .int v_bad, .int v_markSize, .ref m_mark, .int v_relationCount, .ref m_idSize, .ref m_ids, .ref m_goalSize, .ref m_goals, .int v_valueSize, .ref m_value, .int v_faultCount, .ref m_faults, .ref m_reached])), (m_directory, .inl (G.2.1, 2000, .inl u.2))]) := by
  refine Cn.of hl (by decide +kernel) rfl (Nat.le_of_ble_eq_true rfl) (fun M hQ => ?_)
  refine pb_eq (pc' := 0) (lo' := [(0, .ref h), (1, .long w), (3, .int n)]) (rest' := []) (ws' := [(h, .inr (10, [.ref m_rels, .ref m_openRels, .ref m_closeRels, .ref m_openRel, .ref m_closeRel, .ref m_comment, .ref m_ends, .ref m_order, .int v_thrown, .int v_taped, .ref m_tape, .ref m_count, .ref m_nameSize, .ref m_names, .ref m_size, .ref m_data, .int v_lookedSize, .ref m_looked, .int v_fileSize, .ref m_file, .int v_directorySize, .ref m_directory, .int v_outSize, .ref m_out, .int v_rowSize, .ref m_row, .int v_bitAt, .int v_bitEnd, .int v_why, .int v_madeSize, .ref m_made, .ref m_length, .int v_firstCount, .int v_secondCount, .int v_heldBits, .int v_heldCount, .int v_pressedSize, .ref m_pressed, .int v_at, .int v_bad, .int v_markSize, .ref m_mark, .int v_relationCount, .ref m_idSize, .ref m_ids, .ref m_goalSize, .ref m_goals, .int v_valueSize, .ref m_value, .int v_faultCount, .ref m_faults, .ref m_reached])), (m_directory, .inl (G.2.1, 2000, .inl a_directory))]) ?_
  have zl0 : (0 : Int32).toInt = 0 := by decide
  have zl1 : (1 : Int32).toInt = 1 := by decide
  have zl8 : (8 : Int32).toInt = 8 := by decide
  refine pb_iconst (pc := 0) (v := 0) d_Mod_enter_0 (by decide) ?_
  refine pb_istore (pc := 1) (lo' := [(4, .int 0), (0, .ref h), (1, .long w), (3, .int n)]) d_Mod_enter_1 (by decide) rfl ?_
  have hL3_1 : ∀ (N9 : Nat) (k : Int32) (t : Int32) (g : Nat → Int32), (sb_Fit g) → (0 ≤ k.toInt) → (k.toInt ≤ n.toInt) → (t.toInt = v_directorySize.toInt + k.toInt) → (ap_ a_directory v_directorySize.toInt g t.toInt (nk_ w.toInt k.toInt.toNat)) → ((n.toInt - k.toInt).toNat) < N9 → pb_P l G M i_Mod_enter 3 [(4, .int k), (0, .ref h), (1, .long w), (3, .int n)] [] [(h, .inr (10, [.ref m_rels, .ref m_openRels, .ref m_closeRels, .ref m_openRel, .ref m_closeRel, .ref m_comment, .ref m_ends, .ref m_order, .int v_thrown, .int v_taped, .ref m_tape, .ref m_count, .ref m_nameSize, .ref m_names, .ref m_size, .ref m_data, .int v_lookedSize, .ref m_looked, .int v_fileSize, .ref m_file, .int t, .ref m_directory, .int v_outSize, .ref m_out, .int v_rowSize, .ref m_row, .int v_bitAt, .int v_bitEnd, .int v_why, .int v_madeSize, .ref m_made, .ref m_length, .int v_firstCount, .int v_secondCount, .int v_heldBits, .int v_heldCount, .int v_pressedSize, .ref m_pressed, .int v_at, .int v_bad, .int v_markSize, .ref m_mark, .int v_relationCount, .ref m_idSize, .ref m_ids, .ref m_goalSize, .ref m_goals, .int v_valueSize, .ref m_value, .int v_faultCount, .ref m_faults, .ref m_reached])), (m_directory, .inl (G.2.1, 2000, .inl g))] 0 0 := by
    intro N9
    induction N9 with
    | zero => intro k t g F_g k0 k1 k2 ka hm9; exact absurd hm9 (Nat.not_lt_zero _)
    | succ N9 ih3 =>
      intro k t g F_g k0 k1 k2 ka hm9
      refine pb_iload (pc := 3) d_Mod_enter_3 0 rfl ?_
      refine pb_iload_n (pc := 5) d_Mod_enter_5 3 rfl rfl ?_
      refine pb_icmp_ge (pc := 6) (tgt := 43) d_Mod_enter_6 (by decide) (fun w2 => ?_) (fun w2 => ?_)
      · have tw2 : n.toInt ≤ k.toInt := (ti_le rfl rfl).mp w2
        exact pb_vret (pc := 43) hQ d_Mod_enter_43 rfl (t, g) ⟨rfl, (by (try dsimp only); first | done | (with_reducible assumption) | omega (splitDisjunctions := false) | assumption | omega | decide), (show ap_ a_directory v_directorySize.toInt g t.toInt (nk_ w.toInt n.toInt.toNat) from (by rw [show n.toInt = k.toInt by omega]; exact ka)), F_g⟩ [0, 1] (by decide) rfl rfl (by decide) (by decide)
      · have tw2 : ¬ n.toInt ≤ k.toInt := fun z9 => w2 ((ti_le rfl rfl).mpr z9)
        refine pb_aload_n (pc := 9) d_Mod_enter_9 1 rfl rfl ?_
        refine pb_get (pc := 10) d_Mod_enter_10 0 21 rfl rfl (by decide) in_Mod k_1167 rfl ?_
        refine pb_aload_n (pc := 13) d_Mod_enter_13 1 rfl rfl ?_
        refine pb_get (pc := 14) d_Mod_enter_14 0 20 rfl rfl (by decide) in_Mod k_1166 rfl ?_
        refine pb_lload_n (pc := 17) d_Mod_enter_17 2 rfl rfl ?_
        refine pb_bipush (pc := 18) (v := 8) d_Mod_enter_18 (by decide) ?_
        refine pb_iload (pc := 20) d_Mod_enter_20 0 rfl ?_
        refine pb_imul (pc := 22) d_Mod_enter_22 ?_
        refine pb_topi (fun i3 ei3 => ?_)
        try have ti3 : i3.toInt = 8 * k.toInt := ti_mul ei3 (by decide) rfl (by omega) (by omega)
        refine pb_lshr (pc := 23) d_Mod_enter_23 rfl ?_
        refine pb_topl (fun j4 ej4 => ?_)
        refine pb_l2i (pc := 24) d_Mod_enter_24 rfl ?_
        refine pb_topi (fun i5 ei5 => ?_)
        try have ti5 : i5.toInt = j4.toInt := ti_l2i ei5 rfl (by omega) (by omega)
        refine pb_i2b (pc := 25) d_Mod_enter_25 rfl ?_
        refine pb_topi (fun i6 ei6 => ?_)
        have ti6 : -128 ≤ i6.toInt ∧ i6.toInt ≤ 127 := ti_i2b ei6
        refine pb_bast (pc := 26) (ws' := [(h, .inr (10, [.ref m_rels, .ref m_openRels, .ref m_closeRels, .ref m_openRel, .ref m_closeRel, .ref m_comment, .ref m_ends, .ref m_order, .int v_thrown, .int v_taped, .ref m_tape, .ref m_count, .ref m_nameSize, .ref m_names, .ref m_size, .ref m_data, .int v_lookedSize, .ref m_looked, .int v_fileSize, .ref m_file, .int t, .ref m_directory, .int v_outSize, .ref m_out, .int v_rowSize, .ref m_row, .int v_bitAt, .int v_bitEnd, .int v_why, .int v_madeSize, .ref m_made, .ref m_length, .int v_firstCount, .int v_secondCount, .int v_heldBits, .int v_heldCount, .int v_pressedSize, .ref m_pressed, .int v_at, .int v_bad, .int v_markSize, .ref m_mark, .int v_relationCount, .ref m_idSize, .ref m_ids, .ref m_goalSize, .ref m_goals, .int v_valueSize, .ref m_value, .int v_faultCount, .ref m_faults, .ref m_reached])), (m_directory, .inl (G.2.1, 2000, .inl (upd g ((t : Int32).toNatClampNeg) (vp_nar .byte i6))))]) d_Mod_enter_26 1 rfl (vp_in_iff.mpr (by omega)) rfl ?_
        refine pb_aload_n (pc := 27) d_Mod_enter_27 1 rfl rfl ?_
        refine pb_dup (pc := 28) d_Mod_enter_28 rfl ?_
        refine pb_get (pc := 29) d_Mod_enter_29 0 20 rfl rfl (by decide) in_Mod k_1166 rfl ?_
        refine pb_iconst (pc := 32) (v := 1) d_Mod_enter_32 (by decide) ?_
        refine pb_iadd (pc := 33) d_Mod_enter_33 ?_
        refine pb_topi (fun i7 ei7 => ?_)
        try have ti7 : i7.toInt = t.toInt + 1 := t2_add ei7 rfl (by decide) (by omega)
        refine pb_put (pc := 34) (ty := .int) (ws' := [(h, .inr (10, [.ref m_rels, .ref m_openRels, .ref m_closeRels, .ref m_openRel, .ref m_closeRel, .ref m_comment, .ref m_ends, .ref m_order, .int v_thrown, .int v_taped, .ref m_tape, .ref m_count, .ref m_nameSize, .ref m_names, .ref m_size, .ref m_data, .int v_lookedSize, .ref m_looked, .int v_fileSize, .ref m_file, .int i7, .ref m_directory, .int v_outSize, .ref m_out, .int v_rowSize, .ref m_row, .int v_bitAt, .int v_bitEnd, .int v_why, .int v_madeSize, .ref m_made, .ref m_length, .int v_firstCount, .int v_secondCount, .int v_heldBits, .int v_heldCount, .int v_pressedSize, .ref m_pressed, .int v_at, .int v_bad, .int v_markSize, .ref m_mark, .int v_relationCount, .ref m_idSize, .ref m_ids, .ref m_goalSize, .ref m_goals, .int v_valueSize, .ref m_value, .int v_faultCount, .ref m_faults, .ref m_reached])), (m_directory, .inl (G.2.1, 2000, .inl (upd g ((t : Int32).toNatClampNeg) (vp_nar .byte i6))))]) d_Mod_enter_34 0 20 t_Mod t_Mod_ok n_Mod rfl rfl (by decide) in_Mod k_1166 rfl (by decide +kernel) rfl rfl (Nat.le_of_ble_eq_true rfl) rfl ?_
        refine pb_iincN (pc := 37) (c := 1) d_Mod_enter_37 0 rfl (by decide) (by decide) (fun i8 ei8 => ?_)
        have ti8 : i8.toInt = k.toInt + 1 := t2_add ei8 rfl (by decide) (by first | (exact omg_1d140a567a h3 k0 tw2) | (have r90 := ti_rng k; have r91 := ti_rng i8; have r92 := ti_rng n; omega))
        refine pb_eq (pc' := 40) (lo' := [(4, .int i8), (0, .ref h), (1, .long w), (3, .int n)]) (rest' := []) (ws' := [(h, .inr (10, [.ref m_rels, .ref m_openRels, .ref m_closeRels, .ref m_openRel, .ref m_closeRel, .ref m_comment, .ref m_ends, .ref m_order, .int v_thrown, .int v_taped, .ref m_tape, .ref m_count, .ref m_nameSize, .ref m_names, .ref m_size, .ref m_data, .int v_lookedSize, .ref m_looked, .int v_fileSize, .ref m_file, .int i7, .ref m_directory, .int v_outSize, .ref m_out, .int v_rowSize, .ref m_row, .int v_bitAt, .int v_bitEnd, .int v_why, .int v_madeSize, .ref m_made, .ref m_length, .int v_firstCount, .int v_secondCount, .int v_heldBits, .int v_heldCount, .int v_pressedSize, .ref m_pressed, .int v_at, .int v_bad, .int v_markSize, .ref m_mark, .int v_relationCount, .ref m_idSize, .ref m_ids, .ref m_goalSize, .ref m_goals, .int v_valueSize, .ref m_value, .int v_faultCount, .ref m_faults, .ref m_reached])), (m_directory, .inl (G.2.1, 2000, .inl (upd g ((t : Int32).toNatClampNeg) (vp_nar .byte i6))))]) ?_
        refine pb_goto (pc := 40) (tgt := 3) d_Mod_enter_40 (by decide) ?_
        exact ih3 i8 i7 (upd g ((t : Int32).toNatClampNeg) (vp_nar .byte i6)) (sb_fitU F_g (fit_nar _)) (by first | (with_reducible assumption) | omega (splitDisjunctions := false) | assumption | omega | decide) (by first | (with_reducible assumption) | omega (splitDisjunctions := false) | assumption | omega | decide) (by first | (with_reducible assumption) | omega (splitDisjunctions := false) | assumption | omega | decide) (ap_nk h0 ka k0 (by omega) (fun j hj => gr_updb rfl j (by omega) hj) (tp_m2 (by assumption) (by assumption) (by assumption) (by omega)) (by omega) (by omega)) (by (exact omg_7c8a06b1f5 hm9 tw2 ti8))
  exact hL3_1 _ 0 v_directorySize a_directory F_a_directory (by first | (with_reducible assumption) | omega (splitDisjunctions := false) | assumption | omega | decide) (by first | (with_reducible assumption) | omega (splitDisjunctions := false) | assumption | omega | decide) (by first | (with_reducible assumption) | omega (splitDisjunctions := false) | assumption | omega | decide) (by rw [show (0 : Int32).toInt.toNat = 0 by omega]; exact ap_nil rfl) (Nat.lt_succ_self _)
