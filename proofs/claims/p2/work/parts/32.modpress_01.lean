theorem d_Mod_putDistance_0 : decode prog_12_method_27_code 0 = .ok (.bipush 29, 2) := by decide +kernel
theorem d_Mod_putDistance_2 : decode prog_12_method_27_code 2 = .ok (.istore_n 2, 1) := by decide +kernel
theorem d_Mod_putDistance_3 : decode prog_12_method_27_code 3 = .ok (.iload_n 2, 1) := by decide +kernel
theorem d_Mod_putDistance_4 : decode prog_12_method_27_code 4 = .ok (.invokestatic 178, 3) := by decide +kernel
theorem k_1412 : (Jvm.Cond.methodLink "PackageBookModel" (178 : Nat) ({ cls := "PackageBookModel", name := "leastDistance", desc := "(I)I" } : Jvm.MethodName)) ∈ uW := uW_of 1412 (by decide +kernel) (by decide +kernel)
theorem k_1414 : (Jvm.Cond.code ({ cls := "PackageBookModel", name := "leastDistance", desc := "(I)I" } : Jvm.MethodName) prog_12_method_25_code (1 : Nat) (Option.some Jvm.ClassFile.FieldType.int)) ∈ uW := uW_of 1414 (by decide +kernel) (by decide +kernel)
theorem k_1413 : (Jvm.Cond.static ({ cls := "PackageBookModel", name := "leastDistance", desc := "(I)I" } : Jvm.MethodName)) ∈ uW := uW_of 1413 (by decide +kernel) (by decide +kernel)
theorem d_Mod_putDistance_7 : decode prog_12_method_27_code 7 = .ok (.iload_n 1, 1) := by decide +kernel
theorem d_Mod_putDistance_8 : decode prog_12_method_27_code 8 = .ok (.if_icmp .le 9, 3) := by decide +kernel
theorem d_Mod_putDistance_17 : decode prog_12_method_27_code 17 = .ok (.aload_n 0, 1) := by decide +kernel
theorem d_Mod_putDistance_18 : decode prog_12_method_27_code 18 = .ok (.iload_n 2, 1) := by decide +kernel
theorem d_Mod_putDistance_19 : decode prog_12_method_27_code 19 = .ok (.iconst 5, 1) := by decide +kernel
theorem d_Mod_putDistance_20 : decode prog_12_method_27_code 20 = .ok (.invokevirtual 166, 3) := by decide +kernel
theorem d_Mod_putDistance_23 : decode prog_12_method_27_code 23 = .ok (.iload_n 2, 1) := by decide +kernel
theorem d_Mod_putDistance_24 : decode prog_12_method_27_code 24 = .ok (.iconst 4, 1) := by decide +kernel
theorem d_Mod_putDistance_25 : decode prog_12_method_27_code 25 = .ok (.if_icmp .lt 18, 3) := by decide +kernel
theorem d_Mod_putDistance_43 : decode prog_12_method_27_code 43 = .ok (.return_, 1) := by decide +kernel
theorem d_Mod_putDistance_28 : decode prog_12_method_27_code 28 = .ok (.aload_n 0, 1) := by decide +kernel
theorem d_Mod_putDistance_29 : decode prog_12_method_27_code 29 = .ok (.iload_n 1, 1) := by decide +kernel
theorem d_Mod_putDistance_30 : decode prog_12_method_27_code 30 = .ok (.iload_n 2, 1) := by decide +kernel
theorem d_Mod_putDistance_31 : decode prog_12_method_27_code 31 = .ok (.invokestatic 178, 3) := by decide +kernel
theorem d_Mod_putDistance_34 : decode prog_12_method_27_code 34 = .ok (.isub, 1) := by decide +kernel
theorem d_Mod_putDistance_35 : decode prog_12_method_27_code 35 = .ok (.iload_n 2, 1) := by decide +kernel
theorem d_Mod_putDistance_36 : decode prog_12_method_27_code 36 = .ok (.iconst 2, 1) := by decide +kernel
theorem d_Mod_putDistance_37 : decode prog_12_method_27_code 37 = .ok (.idiv, 1) := by decide +kernel
theorem d_Mod_putDistance_38 : decode prog_12_method_27_code 38 = .ok (.iconst 1, 1) := by decide +kernel
theorem d_Mod_putDistance_39 : decode prog_12_method_27_code 39 = .ok (.isub, 1) := by decide +kernel
theorem d_Mod_putDistance_40 : decode prog_12_method_27_code 40 = .ok (.invokevirtual 175, 3) := by decide +kernel
theorem d_Mod_putDistance_11 : decode prog_12_method_27_code 11 = .ok (.iinc 2 (-1), 3) := by decide +kernel
theorem d_Mod_putDistance_14 : decode prog_12_method_27_code 14 = .ok (.goto (-11), 3) := by decide +kernel
abbrev y_Mod_putDistance : MethodName := ⟨"PackageBookModel", "putDistance", "(I)V"⟩
abbrev i_Mod_putDistance : pb_I := (y_Mod_putDistance, prog_12_method_27_code, 3, (Option.none : Option Jvm.ClassFile.FieldType), [], { frames := 2, cells := 0, slots := 0, locals := 44 })
set_option maxRecDepth 100000 in
set_option maxHeartbeats 4000000 in
theorem g_Mod_putDistance {l : Launch} (hl : l.stackTraces = false) (G : pb_G) (h : Nat) (m_rels : Nat) (m_openRels : Nat) (m_closeRels : Nat) (m_openRel : Nat) (m_closeRel : Nat) (m_comment : Nat) (m_ends : Nat) (m_order : Nat) (m_tape : Nat) (m_count : Nat) (m_nameSize : Nat) (m_names : Nat) (m_size : Nat) (m_data : Nat) (m_looked : Nat) (m_file : Nat) (m_directory : Nat) (m_out : Nat) (m_row : Nat) (m_made : Nat) (m_length : Nat) (m_pressed : Nat) (m_mark : Nat) (m_idSize : Nat) (m_ids : Nat) (m_goalSize : Nat) (m_goals : Nat) (m_value : Nat) (m_faults : Nat) (m_reached : Nat) (v_thrown : Int32) (v_taped : Int32) (v_lookedSize : Int32) (v_fileSize : Int32) (v_directorySize : Int32) (v_outSize : Int32) (v_rowSize : Int32) (v_bitAt : Int32) (v_bitEnd : Int32) (v_why : Int32) (v_madeSize : Int32) (v_firstCount : Int32) (v_secondCount : Int32) (v_heldBits : Int32) (v_heldCount : Int32) (v_pressedSize : Int32) (v_at : Int32) (v_bad : Int32) (v_markSize : Int32) (v_relationCount : Int32) (v_valueSize : Int32) (v_faultCount : Int32) (a_pressed : Nat → Int32) (n : Int32) (b0 : 0 ≤ v_heldCount.toInt) (b1 : v_heldCount.toInt < 8) (b2 : 0 ≤ v_pressedSize.toInt) (n0 : 1 ≤ n.toInt) (n1 : n.toInt ≤ 4000) (b3 : (8 * v_pressedSize.toInt + v_heldCount.toInt) + 15 ≤ 40000) (F_a_pressed : sb_Fit a_pressed) : Cn l G i_Mod_putDistance [.ref h, .int n] [(h, .inr (10, [.ref m_rels, .ref m_openRels, .ref m_closeRels, .ref m_openRel, .ref m_closeRel, .ref m_comment, .ref m_ends, .ref m_order, .int v_thrown, .int v_taped, .ref m_tape, .ref m_count, .ref m_nameSize, .ref m_names, .ref m_size, .ref m_data, .int v_lookedSize, .ref m_looked, .int v_fileSize, .ref m_file, .int v_directorySize, .ref m_directory, .int v_outSize, .ref m_out, .int v_rowSize, .ref m_row, .int v_bitAt, .int v_bitEnd, .int v_why, .int v_madeSize, .ref m_made, .ref m_length, .int v_firstCount, .int v_secondCount, .int v_heldBits, .int v_heldCount, .int v_pressedSize, .ref m_pressed, .int v_at, .int v_bad, .int v_markSize, .ref m_mark, .int v_relationCount, .ref m_idSize, .ref m_ids, .ref m_goalSize, .ref m_goals, .int v_valueSize, .ref m_value, .int v_faultCount, .ref m_faults, .ref m_reached])), (m_pressed, .inl (G.2.1, 5000, .inl a_pressed))] (S := Int32 × Int32 × Int32 × (Nat → Int32)) (fun v u => v = none ∧ (0 ≤ u.2.1.toInt) ∧ (u.2.1.toInt < 8) ∧ (0 ≤ u.2.2.1.toInt) ∧ (8 * u.2.2.1.toInt + u.2.1.toInt ≤ (8 * v_pressedSize.toInt + v_heldCount.toInt) + 15) ∧ ((8 * v_pressedSize.toInt + v_heldCount.toInt) ≤ 8 * u.2.2.1.toInt + u.2.1.toInt) ∧ (sb_Fit u.2.2.2)) (fun u => [(h, .inr (10, [.ref m_rels, .ref m_openRels, .ref m_closeRels, .ref m_openRel, .ref m_closeRel, .ref m_comment, .ref m_ends, .ref m_order, .int v_thrown, .int v_taped, .ref m_tape, .ref m_count, .ref m_nameSize, .ref m_names, .ref m_size, .ref m_data, .int v_lookedSize, .ref m_looked, .int v_fileSize, .ref m_file, .int v_directorySize, .ref m_directory, .int v_outSize, .ref m_out, .int v_rowSize, .ref m_row, .int v_bitAt, .int v_bitEnd, .int v_why, .int v_madeSize, .ref m_made, .ref m_length, .int v_firstCount, .int v_secondCount, .int u.1, .int u.2.1, .int u.2.2.1, .ref m_pressed, .int v_at, .int v_bad, .int v_markSize, .ref m_mark, .int v_relationCount, .ref m_idSize, .ref m_ids, .ref m_goalSize, .ref m_goals, .int v_valueSize, .ref m_value, .int v_faultCount, .ref m_faults, .ref m_reached])), (m_pressed, .inl (G.2.1, 5000, .inl u.2.2.2))]) := by
  refine Cn.of hl (by decide +kernel) rfl (Nat.le_of_ble_eq_true rfl) (fun M hQ => ?_)
  refine pb_eq (pc' := 0) (lo' := [(0, .ref h), (1, .int n)]) (rest' := []) (ws' := [(h, .inr (10, [.ref m_rels, .ref m_openRels, .ref m_closeRels, .ref m_openRel, .ref m_closeRel, .ref m_comment, .ref m_ends, .ref m_order, .int v_thrown, .int v_taped, .ref m_tape, .ref m_count, .ref m_nameSize, .ref m_names, .ref m_size, .ref m_data, .int v_lookedSize, .ref m_looked, .int v_fileSize, .ref m_file, .int v_directorySize, .ref m_directory, .int v_outSize, .ref m_out, .int v_rowSize, .ref m_row, .int v_bitAt, .int v_bitEnd, .int v_why, .int v_madeSize, .ref m_made, .ref m_length, .int v_firstCount, .int v_secondCount, .int v_heldBits, .int v_heldCount, .int v_pressedSize, .ref m_pressed, .int v_at, .int v_bad, .int v_markSize, .ref m_mark, .int v_relationCount, .ref m_idSize, .ref m_ids, .ref m_goalSize, .ref m_goals, .int v_valueSize, .ref m_value, .int v_faultCount, .ref m_faults, .ref m_reached])), (m_pressed, .inl (G.2.1, 5000, .inl a_pressed))]) ?_
  have zl0 : (0 : Int32).toInt = 0 := by decide
  have zl1 : (1 : Int32).toInt = 1 := by decide
  have zl5 : (5 : Int32).toInt = 5 := by decide
  have zl29 : (29 : Int32).toInt = 29 := by decide
  refine pb_bipush (pc := 0) (v := 29) d_Mod_putDistance_0 (by decide) ?_
  refine pb_istore_n (pc := 2) (lo' := [(2, .int 29), (0, .ref h), (1, .int n)]) d_Mod_putDistance_2 rfl (by decide) rfl ?_
  have hL3_1 : ∀ (N9 : Nat) (k : Int32), (0 ≤ k.toInt) → (k.toInt ≤ 29) → (k.toInt.toNat) < N9 → pb_P l G M i_Mod_putDistance 3 [(2, .int k), (0, .ref h), (1, .int n)] [] [(h, .inr (10, [.ref m_rels, .ref m_openRels, .ref m_closeRels, .ref m_openRel, .ref m_closeRel, .ref m_comment, .ref m_ends, .ref m_order, .int v_thrown, .int v_taped, .ref m_tape, .ref m_count, .ref m_nameSize, .ref m_names, .ref m_size, .ref m_data, .int v_lookedSize, .ref m_looked, .int v_fileSize, .ref m_file, .int v_directorySize, .ref m_directory, .int v_outSize, .ref m_out, .int v_rowSize, .ref m_row, .int v_bitAt, .int v_bitEnd, .int v_why, .int v_madeSize, .ref m_made, .ref m_length, .int v_firstCount, .int v_secondCount, .int v_heldBits, .int v_heldCount, .int v_pressedSize, .ref m_pressed, .int v_at, .int v_bad, .int v_markSize, .ref m_mark, .int v_relationCount, .ref m_idSize, .ref m_ids, .ref m_goalSize, .ref m_goals, .int v_valueSize, .ref m_value, .int v_faultCount, .ref m_faults, .ref m_reached])), (m_pressed, .inl (G.2.1, 5000, .inl a_pressed))] 0 0 := by
    intro N9
    induction N9 with
    | zero => intro k k0 k1 hm9; exact absurd hm9 (Nat.not_lt_zero _)
    | succ N9 ih3 =>
      intro k k0 k1 hm9
      refine pb_iload_n (pc := 3) d_Mod_putDistance_3 0 rfl rfl ?_
      refine pb_callS (pc := 4) (nA := 1) (rest := []) (wr := [(h, .inr (10, [.ref m_rels, .ref m_openRels, .ref m_closeRels, .ref m_openRel, .ref m_closeRel, .ref m_comment, .ref m_ends, .ref m_order, .int v_thrown, .int v_taped, .ref m_tape, .ref m_count, .ref m_nameSize, .ref m_names, .ref m_size, .ref m_data, .int v_lookedSize, .ref m_looked, .int v_fileSize, .ref m_file, .int v_directorySize, .ref m_directory, .int v_outSize, .ref m_out, .int v_rowSize, .ref m_row, .int v_bitAt, .int v_bitEnd, .int v_why, .int v_madeSize, .ref m_made, .ref m_length, .int v_firstCount, .int v_secondCount, .int v_heldBits, .int v_heldCount, .int v_pressedSize, .ref m_pressed, .int v_at, .int v_bad, .int v_markSize, .ref m_mark, .int v_relationCount, .ref m_idSize, .ref m_ids, .ref m_goalSize, .ref m_goals, .int v_valueSize, .ref m_value, .int v_faultCount, .ref m_faults, .ref m_reached])), (m_pressed, .inl (G.2.1, 5000, .inl a_pressed))]) d_Mod_putDistance_4 (g_Mod_leastDistance hl G k (by first | omega | assumption | decide) (by first | omega | assumption | decide)) [] [0, 1] (by decide) rfl rfl rfl (by decide) (by decide) k_1414 rfl k_128 k_1412 k_1413 (by decide +kernel) (by decide) rfl rfl (Nat.le_of_ble_eq_true rfl) (by decide) (fun v9 u3 ch2 => ?_)
      obtain ⟨r_4, rfl⟩ : ∃ z9, z9 = u3 := ⟨_, rfl⟩
      obtain ⟨ech2, ch2⟩ := ch2
      have ech2 : v9 = some (.int r_4) := ech2
      subst ech2
      obtain ⟨fh5, fh6, fh7, fh8⟩ : (1 ≤ r_4.toInt) ∧ (k.toInt = 0 → r_4.toInt = 1) ∧ (24 ≤ k.toInt → 4097 ≤ r_4.toInt) ∧ (r_4.toInt ≤ 65536) := ch2
      refine pb_eq (pc' := 7) (lo' := [(2, .int k), (0, .ref h), (1, .int n)]) (rest' := [.int r_4]) (ws' := [(h, .inr (10, [.ref m_rels, .ref m_openRels, .ref m_closeRels, .ref m_openRel, .ref m_closeRel, .ref m_comment, .ref m_ends, .ref m_order, .int v_thrown, .int v_taped, .ref m_tape, .ref m_count, .ref m_nameSize, .ref m_names, .ref m_size, .ref m_data, .int v_lookedSize, .ref m_looked, .int v_fileSize, .ref m_file, .int v_directorySize, .ref m_directory, .int v_outSize, .ref m_out, .int v_rowSize, .ref m_row, .int v_bitAt, .int v_bitEnd, .int v_why, .int v_madeSize, .ref m_made, .ref m_length, .int v_firstCount, .int v_secondCount, .int v_heldBits, .int v_heldCount, .int v_pressedSize, .ref m_pressed, .int v_at, .int v_bad, .int v_markSize, .ref m_mark, .int v_relationCount, .ref m_idSize, .ref m_ids, .ref m_goalSize, .ref m_goals, .int v_valueSize, .ref m_value, .int v_faultCount, .ref m_faults, .ref m_reached])), (m_pressed, .inl (G.2.1, 5000, .inl a_pressed))]) ?_
      refine pb_iload_n (pc := 7) d_Mod_putDistance_7 2 rfl rfl ?_
      refine pb_icmp_le (pc := 8) (tgt := 17) d_Mod_putDistance_8 (by decide) (fun w9 => ?_) (fun w9 => ?_)
      · have tw9 : r_4.toInt ≤ n.toInt := (ti_le rfl rfl).mp w9
        refine pb_aload_n (pc := 17) d_Mod_putDistance_17 1 rfl rfl ?_
        refine pb_iload_n (pc := 18) d_Mod_putDistance_18 0 rfl rfl ?_
        refine pb_iconst (pc := 19) (v := 5) d_Mod_putDistance_19 (by decide) ?_
        refine pb_callV (pc := 20) (qb := 0) (ci := 10) (nA := 2) (rest := []) (wr := []) d_Mod_putDistance_20 (g_Mod_putCode hl G h m_rels m_openRels m_closeRels m_openRel m_closeRel m_comment m_ends m_order m_tape m_count m_nameSize m_names m_size m_data m_looked m_file m_directory m_out m_row m_made m_length m_pressed m_mark m_idSize m_ids m_goalSize m_goals m_value m_faults m_reached v_thrown v_taped v_lookedSize v_fileSize v_directorySize v_outSize v_rowSize v_bitAt v_bitEnd v_why v_madeSize v_firstCount v_secondCount v_heldBits v_heldCount v_pressedSize v_at v_bad v_markSize v_relationCount v_valueSize v_faultCount a_pressed k 5 (by first | omega | assumption | decide) (by first | omega | assumption | decide) (by first | omega | assumption | decide) (by first | omega | assumption | decide) (by first | omega | assumption | decide) F_a_pressed) rfl rfl [0, 1] [] (by decide) rfl rfl rfl (by decide) (by decide) k_1400 rfl k_128 k_1397 k_1399 k_64 (by decide +kernel) (by decide) rfl rfl (Nat.le_of_ble_eq_true rfl) (by decide) (fun v9 u11 ch10 => ?_)
        obtain ⟨hb_12, hc_13, ps_14, g_15⟩ := u11
        obtain ⟨ech10, ch10⟩ := ch10
        have ech10 : v9 = none := ech10
        subst ech10
        obtain ⟨fh16, fh17, fh18, fh19, fh20⟩ : (0 ≤ hc_13.toInt) ∧ (hc_13.toInt < 8) ∧ (0 ≤ ps_14.toInt) ∧ (8 * ps_14.toInt + hc_13.toInt = (8 * v_pressedSize.toInt + v_heldCount.toInt) + (5 : Int32).toInt) ∧ (sb_Fit g_15) := ch10
        refine pb_eq (pc' := 23) (lo' := [(2, .int k), (0, .ref h), (1, .int n)]) (rest' := []) (ws' := [(h, .inr (10, [.ref m_rels, .ref m_openRels, .ref m_closeRels, .ref m_openRel, .ref m_closeRel, .ref m_comment, .ref m_ends, .ref m_order, .int v_thrown, .int v_taped, .ref m_tape, .ref m_count, .ref m_nameSize, .ref m_names, .ref m_size, .ref m_data, .int v_lookedSize, .ref m_looked, .int v_fileSize, .ref m_file, .int v_directorySize, .ref m_directory, .int v_outSize, .ref m_out, .int v_rowSize, .ref m_row, .int v_bitAt, .int v_bitEnd, .int v_why, .int v_madeSize, .ref m_made, .ref m_length, .int v_firstCount, .int v_secondCount, .int hb_12, .int hc_13, .int ps_14, .ref m_pressed, .int v_at, .int v_bad, .int v_markSize, .ref m_mark, .int v_relationCount, .ref m_idSize, .ref m_ids, .ref m_goalSize, .ref m_goals, .int v_valueSize, .ref m_value, .int v_faultCount, .ref m_faults, .ref m_reached])), (m_pressed, .inl (G.2.1, 5000, .inl g_15))]) ?_
        refine pb_iload_n (pc := 23) d_Mod_putDistance_23 0 rfl rfl ?_
        refine pb_iconst (pc := 24) (v := 4) d_Mod_putDistance_24 (by decide) ?_
        refine pb_icmp_lt (pc := 25) (tgt := 43) d_Mod_putDistance_25 (by decide) (fun w21 => ?_) (fun w21 => ?_)
        · have tw21 : k.toInt < 4 := (ti_lt rfl (by decide)).mp w21
          exact pb_vret (pc := 43) hQ d_Mod_putDistance_43 rfl (hb_12, hc_13, ps_14, g_15) ⟨rfl, (by (try dsimp only); first | omega | assumption | decide), (by (try dsimp only); first | omega | assumption | decide), (by (try dsimp only); first | omega | assumption | decide), (by (try dsimp only); first | omega | assumption | decide), (by (try dsimp only); first | omega | assumption | decide), fh20⟩ [0, 1] (by decide) rfl rfl (by decide) (by decide)
        · have tw21 : ¬ k.toInt < 4 := fun z9 => w21 ((ti_lt rfl (by decide)).mpr z9)
          refine pb_aload_n (pc := 28) d_Mod_putDistance_28 1 rfl rfl ?_
          refine pb_iload_n (pc := 29) d_Mod_putDistance_29 2 rfl rfl ?_
          refine pb_iload_n (pc := 30) d_Mod_putDistance_30 0 rfl rfl ?_
          refine pb_callS (pc := 31) (nA := 1) (rest := [.int n, .ref h]) (wr := [(h, .inr (10, [.ref m_rels, .ref m_openRels, .ref m_closeRels, .ref m_openRel, .ref m_closeRel, .ref m_comment, .ref m_ends, .ref m_order, .int v_thrown, .int v_taped, .ref m_tape, .ref m_count, .ref m_nameSize, .ref m_names, .ref m_size, .ref m_data, .int v_lookedSize, .ref m_looked, .int v_fileSize, .ref m_file, .int v_directorySize, .ref m_directory, .int v_outSize, .ref m_out, .int v_rowSize, .ref m_row, .int v_bitAt, .int v_bitEnd, .int v_why, .int v_madeSize, .ref m_made, .ref m_length, .int v_firstCount, .int v_secondCount, .int hb_12, .int hc_13, .int ps_14, .ref m_pressed, .int v_at, .int v_bad, .int v_markSize, .ref m_mark, .int v_relationCount, .ref m_idSize, .ref m_ids, .ref m_goalSize, .ref m_goals, .int v_valueSize, .ref m_value, .int v_faultCount, .ref m_faults, .ref m_reached])), (m_pressed, .inl (G.2.1, 5000, .inl g_15))]) d_Mod_putDistance_31 (g_Mod_leastDistance hl G k (by first | omega | assumption | decide) (by first | omega | assumption | decide)) [] [0, 1] (by decide) rfl rfl rfl (by decide) (by decide) k_1414 rfl k_128 k_1412 k_1413 (by decide +kernel) (by decide) rfl rfl (Nat.le_of_ble_eq_true rfl) (by decide) (fun v9 u23 ch22 => ?_)
          obtain ⟨r_24, rfl⟩ : ∃ z9, z9 = u23 := ⟨_, rfl⟩
          obtain ⟨ech22, ch22⟩ := ch22
          have ech22 : v9 = some (.int r_24) := ech22
          subst ech22
          obtain ⟨fh25, fh26, fh27, fh28⟩ : (1 ≤ r_24.toInt) ∧ (k.toInt = 0 → r_24.toInt = 1) ∧ (24 ≤ k.toInt → 4097 ≤ r_24.toInt) ∧ (r_24.toInt ≤ 65536) := ch22
          refine pb_eq (pc' := 34) (lo' := [(2, .int k), (0, .ref h), (1, .int n)]) (rest' := [.int r_24, .int n, .ref h]) (ws' := [(h, .inr (10, [.ref m_rels, .ref m_openRels, .ref m_closeRels, .ref m_openRel, .ref m_closeRel, .ref m_comment, .ref m_ends, .ref m_order, .int v_thrown, .int v_taped, .ref m_tape, .ref m_count, .ref m_nameSize, .ref m_names, .ref m_size, .ref m_data, .int v_lookedSize, .ref m_looked, .int v_fileSize, .ref m_file, .int v_directorySize, .ref m_directory, .int v_outSize, .ref m_out, .int v_rowSize, .ref m_row, .int v_bitAt, .int v_bitEnd, .int v_why, .int v_madeSize, .ref m_made, .ref m_length, .int v_firstCount, .int v_secondCount, .int hb_12, .int hc_13, .int ps_14, .ref m_pressed, .int v_at, .int v_bad, .int v_markSize, .ref m_mark, .int v_relationCount, .ref m_idSize, .ref m_ids, .ref m_goalSize, .ref m_goals, .int v_valueSize, .ref m_value, .int v_faultCount, .ref m_faults, .ref m_reached])), (m_pressed, .inl (G.2.1, 5000, .inl g_15))]) ?_
          refine pb_isub (pc := 34) d_Mod_putDistance_34 ?_
          refine pb_topi (fun i29 ei29 => ?_)
          try have ti29 : i29.toInt = n.toInt - r_24.toInt := t2_sub ei29 rfl rfl (by omega)
          refine pb_iload_n (pc := 35) d_Mod_putDistance_35 0 rfl rfl ?_
          refine pb_iconst (pc := 36) (v := 2) d_Mod_putDistance_36 (by decide) ?_
          refine pb_idiv (pc := 37) d_Mod_putDistance_37 (by decide) ?_
          refine pb_topi (fun i30 ei30 => ?_)
          try have ti30 : i30.toInt = k.toInt / 2 := ti_div 2 ei30 rfl (by decide) (by omega) (by decide)
          refine pb_iconst (pc := 38) (v := 1) d_Mod_putDistance_38 (by decide) ?_
          refine pb_isub (pc := 39) d_Mod_putDistance_39 ?_
          refine pb_topi (fun i31 ei31 => ?_)
          try have ti31 : i31.toInt = i30.toInt - 1 := t2_sub ei31 rfl (by decide) (by omega)
          refine pb_callV (pc := 40) (qb := 0) (ci := 10) (nA := 2) (rest := []) (wr := []) d_Mod_putDistance_40 (g_Mod_putNumber hl G h m_rels m_openRels m_closeRels m_openRel m_closeRel m_comment m_ends m_order m_tape m_count m_nameSize m_names m_size m_data m_looked m_file m_directory m_out m_row m_made m_length m_pressed m_mark m_idSize m_ids m_goalSize m_goals m_value m_faults m_reached v_thrown v_taped v_lookedSize v_fileSize v_directorySize v_outSize v_rowSize v_bitAt v_bitEnd v_why v_madeSize v_firstCount v_secondCount hb_12 hc_13 ps_14 v_at v_bad v_markSize v_relationCount v_valueSize v_faultCount g_15 i29 i31 (by first | omega | assumption | decide) (by first | omega | assumption | decide) (by first | omega | assumption | decide) (by first | omega | assumption | decide) (by first | omega | assumption | decide) fh20) rfl rfl [0, 1] [] (by decide) rfl rfl rfl (by decide) (by decide) k_1385 rfl k_128 k_1382 k_1384 k_61 (by decide +kernel) (by decide) rfl rfl (Nat.le_of_ble_eq_true rfl) (by decide) (fun v9 u33 ch32 => ?_)
          obtain ⟨hb_34, hc_35, ps_36, g_37⟩ := u33
          obtain ⟨ech32, ch32⟩ := ch32
          have ech32 : v9 = none := ech32
          subst ech32
          obtain ⟨fh38, fh39, fh40, fh41, fh42⟩ : (0 ≤ hc_35.toInt) ∧ (hc_35.toInt < 8) ∧ (0 ≤ ps_36.toInt) ∧ (8 * ps_36.toInt + hc_35.toInt = (8 * ps_14.toInt + hc_13.toInt) + i31.toInt) ∧ (sb_Fit g_37) := ch32
          refine pb_eq (pc' := 43) (lo' := [(2, .int k), (0, .ref h), (1, .int n)]) (rest' := []) (ws' := [(h, .inr (10, [.ref m_rels, .ref m_openRels, .ref m_closeRels, .ref m_openRel, .ref m_closeRel, .ref m_comment, .ref m_ends, .ref m_order, .int v_thrown, .int v_taped, .ref m_tape, .ref m_count, .ref m_nameSize, .ref m_names, .ref m_size, .ref m_data, .int v_lookedSize, .ref m_looked, .int v_fileSize, .ref m_file, .int v_directorySize, .ref m_directory, .int v_outSize, .ref m_out, .int v_rowSize, .ref m_row, .int v_bitAt, .int v_bitEnd, .int v_why, .int v_madeSize, .ref m_made, .ref m_length, .int v_firstCount, .int v_secondCount, .int hb_34, .int hc_35, .int ps_36, .ref m_pressed, .int v_at, .int v_bad, .int v_markSize, .ref m_mark, .int v_relationCount, .ref m_idSize, .ref m_ids, .ref m_goalSize, .ref m_goals, .int v_valueSize, .ref m_value, .int v_faultCount, .ref m_faults, .ref m_reached])), (m_pressed, .inl (G.2.1, 5000, .inl g_37))]) ?_
          exact pb_vret (pc := 43) hQ d_Mod_putDistance_43 rfl (hb_34, hc_35, ps_36, g_37) ⟨rfl, (by (try dsimp only); first | omega | assumption | decide), (by (try dsimp only); first | omega | assumption | decide), (by (try dsimp only); first | omega | assumption | decide), (by (try dsimp only); first | omega | assumption | decide), (by (try dsimp only); first | omega | assumption | decide), fh42⟩ [0, 1] (by decide) rfl rfl (by decide) (by decide)
      · have tw9 : ¬ r_4.toInt ≤ n.toInt := fun z9 => w9 ((ti_le rfl rfl).mpr z9)
        refine pb_iincN (pc := 11) (c := (-1)) d_Mod_putDistance_11 0 rfl (by decide) (by decide) (fun i43 ei43 => ?_)
        have ti43 : i43.toInt = k.toInt + (-1) := t2_add ei43 rfl (by decide) (by first | omega | (have r90 := ti_rng k; have r91 := ti_rng i43; have r92 := ti_rng n; omega))
        refine pb_eq (pc' := 14) (lo' := [(2, .int i43), (0, .ref h), (1, .int n)]) (rest' := []) (ws' := [(h, .inr (10, [.ref m_rels, .ref m_openRels, .ref m_closeRels, .ref m_openRel, .ref m_closeRel, .ref m_comment, .ref m_ends, .ref m_order, .int v_thrown, .int v_taped, .ref m_tape, .ref m_count, .ref m_nameSize, .ref m_names, .ref m_size, .ref m_data, .int v_lookedSize, .ref m_looked, .int v_fileSize, .ref m_file, .int v_directorySize, .ref m_directory, .int v_outSize, .ref m_out, .int v_rowSize, .ref m_row, .int v_bitAt, .int v_bitEnd, .int v_why, .int v_madeSize, .ref m_made, .ref m_length, .int v_firstCount, .int v_secondCount, .int v_heldBits, .int v_heldCount, .int v_pressedSize, .ref m_pressed, .int v_at, .int v_bad, .int v_markSize, .ref m_mark, .int v_relationCount, .ref m_idSize, .ref m_ids, .ref m_goalSize, .ref m_goals, .int v_valueSize, .ref m_value, .int v_faultCount, .ref m_faults, .ref m_reached])), (m_pressed, .inl (G.2.1, 5000, .inl a_pressed))]) ?_
        refine pb_goto (pc := 14) (tgt := 3) d_Mod_putDistance_14 (by decide) ?_
        exact ih3 i43 (by first | omega | assumption | decide) (by first | omega | assumption | decide) (by omega)
  exact hL3_1 _ 29 (by first | omega | assumption | decide) (by first | omega | assumption | decide) (Nat.lt_succ_self _)

theorem d_Mod_same_0 : decode prog_12_method_28_code 0 = .ok (.iconst 0, 1) := by decide +kernel
theorem d_Mod_same_1 : decode prog_12_method_28_code 1 = .ok (.istore 4, 2) := by decide +kernel
theorem d_Mod_same_3 : decode prog_12_method_28_code 3 = .ok (.iload 4, 2) := by decide +kernel
theorem d_Mod_same_5 : decode prog_12_method_28_code 5 = .ok (.sipush 258, 3) := by decide +kernel
theorem d_Mod_same_8 : decode prog_12_method_28_code 8 = .ok (.if_icmp .ge 32, 3) := by decide +kernel
theorem d_Mod_same_40 : decode prog_12_method_28_code 40 = .ok (.iload 4, 2) := by decide +kernel
theorem d_Mod_same_42 : decode prog_12_method_28_code 42 = .ok (.ireturn, 1) := by decide +kernel
theorem d_Mod_same_11 : decode prog_12_method_28_code 11 = .ok (.iload_n 2, 1) := by decide +kernel
theorem d_Mod_same_12 : decode prog_12_method_28_code 12 = .ok (.iload 4, 2) := by decide +kernel
theorem d_Mod_same_14 : decode prog_12_method_28_code 14 = .ok (.iadd, 1) := by decide +kernel
theorem d_Mod_same_15 : decode prog_12_method_28_code 15 = .ok (.iload_n 3, 1) := by decide +kernel
theorem d_Mod_same_16 : decode prog_12_method_28_code 16 = .ok (.if_icmp .ge 24, 3) := by decide +kernel
theorem d_Mod_same_19 : decode prog_12_method_28_code 19 = .ok (.aload_n 0, 1) := by decide +kernel
theorem d_Mod_same_20 : decode prog_12_method_28_code 20 = .ok (.iload_n 1, 1) := by decide +kernel
theorem d_Mod_same_21 : decode prog_12_method_28_code 21 = .ok (.iload 4, 2) := by decide +kernel
theorem d_Mod_same_23 : decode prog_12_method_28_code 23 = .ok (.iadd, 1) := by decide +kernel
theorem d_Mod_same_24 : decode prog_12_method_28_code 24 = .ok (.baload, 1) := by decide +kernel
theorem d_Mod_same_25 : decode prog_12_method_28_code 25 = .ok (.aload_n 0, 1) := by decide +kernel
theorem d_Mod_same_26 : decode prog_12_method_28_code 26 = .ok (.iload_n 2, 1) := by decide +kernel
theorem d_Mod_same_27 : decode prog_12_method_28_code 27 = .ok (.iload 4, 2) := by decide +kernel
theorem d_Mod_same_29 : decode prog_12_method_28_code 29 = .ok (.iadd, 1) := by decide +kernel
theorem d_Mod_same_30 : decode prog_12_method_28_code 30 = .ok (.baload, 1) := by decide +kernel
theorem d_Mod_same_31 : decode prog_12_method_28_code 31 = .ok (.if_icmp .ne 9, 3) := by decide +kernel
theorem d_Mod_same_34 : decode prog_12_method_28_code 34 = .ok (.iinc 4 1, 3) := by decide +kernel
theorem d_Mod_same_37 : decode prog_12_method_28_code 37 = .ok (.goto (-34), 3) := by decide +kernel
abbrev y_Mod_same : MethodName := ⟨"PackageBookModel", "same", "([BIII)I"⟩
abbrev i_Mod_same : pb_I := (y_Mod_same, prog_12_method_28_code, 5, (some Jvm.ClassFile.FieldType.int), [], { frames := 0, cells := 0, slots := 0, locals := 0 })
set_option maxRecDepth 100000 in
set_option maxHeartbeats 4000000 in
theorem g_Mod_same {l : Launch} (hl : l.stackTraces = false) (G : pb_G) (a : Nat) (Na : Nat) (f : Nat → Int32) (x : Int32) (y : Int32) (e : Int32) (h0 : 0 ≤ x.toInt) (h1 : x.toInt ≤ y.toInt) (h2 : e.toInt ≤ Na) (h3 : Na ≤ 1000000) (h4 : y.toInt ≤ 1000000) (F_f : sb_Fit f) : Cn l G i_Mod_same [.ref a, .int x, .int y, .int e] [(a, .inl (G.2.1, Na, .inl f))] (S := Int32) (fun v u => v = some (.int u) ∧ (0 ≤ u.toInt) ∧ (u.toInt ≤ 258) ∧ (y.toInt ≤ e.toInt → y.toInt + u.toInt ≤ e.toInt)) (fun u => [(a, .inl (G.2.1, Na, .inl f))]) := by
  refine Cn.of hl (by decide +kernel) rfl (Nat.le_of_ble_eq_true rfl) (fun M hQ => ?_)
  refine pb_eq (pc' := 0) (lo' := [(0, .ref a), (1, .int x), (2, .int y), (3, .int e)]) (rest' := []) (ws' := [(a, .inl (G.2.1, Na, .inl f))]) ?_
  have zl0 : (0 : Int32).toInt = 0 := by decide
  have zl1 : (1 : Int32).toInt = 1 := by decide
  refine pb_iconst (pc := 0) (v := 0) d_Mod_same_0 (by decide) ?_
  refine pb_istore (pc := 1) (lo' := [(4, .int 0), (0, .ref a), (1, .int x), (2, .int y), (3, .int e)]) d_Mod_same_1 (by decide) rfl ?_
  have hL3_1 : ∀ (N9 : Nat) (k : Int32), (0 ≤ k.toInt) → (k.toInt ≤ 258) → (y.toInt ≤ e.toInt → y.toInt + k.toInt ≤ e.toInt) → ((258 - k.toInt).toNat) < N9 → pb_P l G M i_Mod_same 3 [(4, .int k), (0, .ref a), (1, .int x), (2, .int y), (3, .int e)] [] [(a, .inl (G.2.1, Na, .inl f))] 0 0 := by
    intro N9
    induction N9 with
    | zero => intro k k0 k1 k2 hm9; exact absurd hm9 (Nat.not_lt_zero _)
    | succ N9 ih3 =>
      intro k k0 k1 k2 hm9
      refine pb_iload (pc := 3) d_Mod_same_3 0 rfl ?_
      refine pb_sipush (pc := 5) (v := 258) d_Mod_same_5 (by decide) ?_
      refine pb_icmp_ge (pc := 8) (tgt := 40) d_Mod_same_8 (by decide) (fun w2 => ?_) (fun w2 => ?_)
      · have tw2 : 258 ≤ k.toInt := (ti_le (by decide) rfl).mp w2
        refine pb_iload (pc := 40) d_Mod_same_40 0 rfl ?_
        exact pb_iret (pc := 42) hQ d_Mod_same_42 rfl rfl (k) ⟨rfl, (by (try dsimp only); first | omega | assumption | decide), (by (try dsimp only); first | omega | assumption | decide), (by (try dsimp only); first | omega | assumption | decide)⟩ [0] (by decide) rfl rfl (by decide) (by decide)
      · have tw2 : ¬ 258 ≤ k.toInt := fun z9 => w2 ((ti_le (by decide) rfl).mpr z9)
        refine pb_iload_n (pc := 11) d_Mod_same_11 3 rfl rfl ?_
        refine pb_iload (pc := 12) d_Mod_same_12 0 rfl ?_
        refine pb_iadd (pc := 14) d_Mod_same_14 ?_
        refine pb_topi (fun i3 ei3 => ?_)
        try have ti3 : i3.toInt = y.toInt + k.toInt := t2_add ei3 rfl rfl (by omega)
        refine pb_iload_n (pc := 15) d_Mod_same_15 4 rfl rfl ?_
        refine pb_icmp_ge (pc := 16) (tgt := 40) d_Mod_same_16 (by decide) (fun w4 => ?_) (fun w4 => ?_)
        · have tw4 : e.toInt ≤ i3.toInt := (ti_le rfl rfl).mp w4
          refine pb_iload (pc := 40) d_Mod_same_40 0 rfl ?_
          exact pb_iret (pc := 42) hQ d_Mod_same_42 rfl rfl (k) ⟨rfl, (by (try dsimp only); first | omega | assumption | decide), (by (try dsimp only); first | omega | assumption | decide), (by (try dsimp only); first | omega | assumption | decide)⟩ [0] (by decide) rfl rfl (by decide) (by decide)
        · have tw4 : ¬ e.toInt ≤ i3.toInt := fun z9 => w4 ((ti_le rfl rfl).mpr z9)
          refine pb_aload_n (pc := 19) d_Mod_same_19 1 rfl rfl ?_
          refine pb_iload_n (pc := 20) d_Mod_same_20 2 rfl rfl ?_
          refine pb_iload (pc := 21) d_Mod_same_21 0 rfl ?_
          refine pb_iadd (pc := 23) d_Mod_same_23 ?_
          refine pb_topi (fun i5 ei5 => ?_)
          try have ti5 : i5.toInt = x.toInt + k.toInt := t2_add ei5 rfl rfl (by omega)
          refine pb_bald (pc := 24) d_Mod_same_24 0 rfl (vp_in_iff.mpr (by omega)) ?_
          refine pb_topi (fun i6 ei6 => ?_)
          have ti6 : -128 ≤ i6.toInt ∧ i6.toInt ≤ 127 := ti_fit (F_f _) ei6
          refine pb_aload_n (pc := 25) d_Mod_same_25 1 rfl rfl ?_
          refine pb_iload_n (pc := 26) d_Mod_same_26 3 rfl rfl ?_
          refine pb_iload (pc := 27) d_Mod_same_27 0 rfl ?_
          refine pb_iadd (pc := 29) d_Mod_same_29 ?_
          refine pb_topi (fun i7 ei7 => ?_)
          try have ti7 : i7.toInt = y.toInt + k.toInt := t2_add ei7 rfl rfl (by omega)
          refine pb_bald (pc := 30) d_Mod_same_30 0 rfl (vp_in_iff.mpr (by omega)) ?_
          refine pb_topi (fun i8 ei8 => ?_)
          have ti8 : -128 ≤ i8.toInt ∧ i8.toInt ≤ 127 := ti_fit (F_f _) ei8
          refine pb_icmp_ne (pc := 31) (tgt := 40) d_Mod_same_31 (by decide) (fun w9 => ?_) (fun w9 => ?_)
          · have tw9 : ¬ i6.toInt = i8.toInt := fun z9 => w9 ((ti_eq rfl rfl).mpr z9)
            refine pb_iload (pc := 40) d_Mod_same_40 0 rfl ?_
            exact pb_iret (pc := 42) hQ d_Mod_same_42 rfl rfl (k) ⟨rfl, (by (try dsimp only); first | omega | assumption | decide), (by (try dsimp only); first | omega | assumption | decide), (by (try dsimp only); first | omega | assumption | decide)⟩ [0] (by decide) rfl rfl (by decide) (by decide)
          · have tw9 : i6.toInt = i8.toInt := (ti_eq rfl rfl).mp w9
            refine pb_iincN (pc := 34) (c := 1) d_Mod_same_34 0 rfl (by decide) (by decide) (fun i10 ei10 => ?_)
            have ti10 : i10.toInt = k.toInt + 1 := t2_add ei10 rfl (by decide) (by first | omega | (have r90 := ti_rng k; have r91 := ti_rng i10; have r92 := ti_rng x; have r93 := ti_rng y; have r94 := ti_rng e; omega))
            refine pb_eq (pc' := 37) (lo' := [(4, .int i10), (0, .ref a), (1, .int x), (2, .int y), (3, .int e)]) (rest' := []) (ws' := [(a, .inl (G.2.1, Na, .inl f))]) ?_
            refine pb_goto (pc := 37) (tgt := 3) d_Mod_same_37 (by decide) ?_
            exact ih3 i10 (by first | omega | assumption | decide) (by first | omega | assumption | decide) (by first | omega | assumption | decide) (by omega)
  exact hL3_1 _ 0 (by first | omega | assumption | decide) (by first | omega | assumption | decide) (by first | omega | assumption | decide) (Nat.lt_succ_self _)

theorem d_Mod_pressRow_0 : decode prog_12_method_29_code 0 = .ok (.aload_n 0, 1) := by decide +kernel
theorem d_Mod_pressRow_1 : decode prog_12_method_29_code 1 = .ok (.iconst 0, 1) := by decide +kernel
theorem d_Mod_pressRow_2 : decode prog_12_method_29_code 2 = .ok (.putfield 159, 3) := by decide +kernel
theorem d_Mod_pressRow_5 : decode prog_12_method_29_code 5 = .ok (.aload_n 0, 1) := by decide +kernel
theorem d_Mod_pressRow_6 : decode prog_12_method_29_code 6 = .ok (.iconst 0, 1) := by decide +kernel
theorem d_Mod_pressRow_7 : decode prog_12_method_29_code 7 = .ok (.putfield 153, 3) := by decide +kernel
theorem d_Mod_pressRow_10 : decode prog_12_method_29_code 10 = .ok (.aload_n 0, 1) := by decide +kernel
theorem d_Mod_pressRow_11 : decode prog_12_method_29_code 11 = .ok (.iconst 0, 1) := by decide +kernel
theorem d_Mod_pressRow_12 : decode prog_12_method_29_code 12 = .ok (.putfield 156, 3) := by decide +kernel
theorem d_Mod_pressRow_15 : decode prog_12_method_29_code 15 = .ok (.aload_n 0, 1) := by decide +kernel
theorem d_Mod_pressRow_16 : decode prog_12_method_29_code 16 = .ok (.iconst 3, 1) := by decide +kernel
theorem d_Mod_pressRow_17 : decode prog_12_method_29_code 17 = .ok (.iconst 3, 1) := by decide +kernel
theorem d_Mod_pressRow_18 : decode prog_12_method_29_code 18 = .ok (.invokevirtual 175, 3) := by decide +kernel
theorem d_Mod_pressRow_21 : decode prog_12_method_29_code 21 = .ok (.iload_n 2, 1) := by decide +kernel
theorem d_Mod_pressRow_22 : decode prog_12_method_29_code 22 = .ok (.istore 4, 2) := by decide +kernel
theorem d_Mod_pressRow_24 : decode prog_12_method_29_code 24 = .ok (.iload_n 2, 1) := by decide +kernel
theorem d_Mod_pressRow_25 : decode prog_12_method_29_code 25 = .ok (.iload_n 3, 1) := by decide +kernel
theorem d_Mod_pressRow_26 : decode prog_12_method_29_code 26 = .ok (.iadd, 1) := by decide +kernel
theorem d_Mod_pressRow_27 : decode prog_12_method_29_code 27 = .ok (.istore 5, 2) := by decide +kernel
theorem d_Mod_pressRow_29 : decode prog_12_method_29_code 29 = .ok (.iload 4, 2) := by decide +kernel
theorem d_Mod_pressRow_31 : decode prog_12_method_29_code 31 = .ok (.iload 5, 2) := by decide +kernel
theorem d_Mod_pressRow_33 : decode prog_12_method_29_code 33 = .ok (.if_icmp .ge 133, 3) := by decide +kernel
theorem d_Mod_pressRow_166 : decode prog_12_method_29_code 166 = .ok (.aload_n 0, 1) := by decide +kernel
theorem d_Mod_pressRow_167 : decode prog_12_method_29_code 167 = .ok (.sipush 256, 3) := by decide +kernel
theorem d_Mod_pressRow_170 : decode prog_12_method_29_code 170 = .ok (.invokevirtual 172, 3) := by decide +kernel
theorem d_Mod_pressRow_173 : decode prog_12_method_29_code 173 = .ok (.aload_n 0, 1) := by decide +kernel
theorem d_Mod_pressRow_174 : decode prog_12_method_29_code 174 = .ok (.getfield 156, 3) := by decide +kernel
theorem d_Mod_pressRow_177 : decode prog_12_method_29_code 177 = .ok (.ifCond .le 11, 3) := by decide +kernel
theorem d_Mod_pressRow_188 : decode prog_12_method_29_code 188 = .ok (.return_, 1) := by decide +kernel
theorem d_Mod_pressRow_180 : decode prog_12_method_29_code 180 = .ok (.aload_n 0, 1) := by decide +kernel
theorem d_Mod_pressRow_181 : decode prog_12_method_29_code 181 = .ok (.iconst 0, 1) := by decide +kernel
theorem d_Mod_pressRow_182 : decode prog_12_method_29_code 182 = .ok (.invokevirtual 162, 3) := by decide +kernel
theorem d_Mod_pressRow_185 : decode prog_12_method_29_code 185 = .ok (.goto (-12), 3) := by decide +kernel
theorem d_Mod_pressRow_36 : decode prog_12_method_29_code 36 = .ok (.iconst 0, 1) := by decide +kernel
theorem d_Mod_pressRow_37 : decode prog_12_method_29_code 37 = .ok (.istore 6, 2) := by decide +kernel
theorem d_Mod_pressRow_39 : decode prog_12_method_29_code 39 = .ok (.iload_n 2, 1) := by decide +kernel
theorem d_Mod_pressRow_40 : decode prog_12_method_29_code 40 = .ok (.istore 7, 2) := by decide +kernel
theorem d_Mod_pressRow_42 : decode prog_12_method_29_code 42 = .ok (.iload_n 2, 1) := by decide +kernel
theorem d_Mod_pressRow_43 : decode prog_12_method_29_code 43 = .ok (.istore 8, 2) := by decide +kernel
theorem d_Mod_pressRow_45 : decode prog_12_method_29_code 45 = .ok (.iload 8, 2) := by decide +kernel
theorem d_Mod_pressRow_47 : decode prog_12_method_29_code 47 = .ok (.iload 4, 2) := by decide +kernel
theorem d_Mod_pressRow_49 : decode prog_12_method_29_code 49 = .ok (.if_icmp .ge 68, 3) := by decide +kernel
theorem d_Mod_pressRow_117 : decode prog_12_method_29_code 117 = .ok (.iload 6, 2) := by decide +kernel
theorem d_Mod_pressRow_119 : decode prog_12_method_29_code 119 = .ok (.iconst 3, 1) := by decide +kernel
theorem d_Mod_pressRow_120 : decode prog_12_method_29_code 120 = .ok (.if_icmp .ge 21, 3) := by decide +kernel
theorem d_Mod_pressRow_141 : decode prog_12_method_29_code 141 = .ok (.aload_n 0, 1) := by decide +kernel
theorem d_Mod_pressRow_142 : decode prog_12_method_29_code 142 = .ok (.iload 6, 2) := by decide +kernel
theorem d_Mod_pressRow_144 : decode prog_12_method_29_code 144 = .ok (.invokevirtual 185, 3) := by decide +kernel
theorem k_1401 : (Jvm.Cond.methodLink "PackageBookModel" (185 : Nat) ({ cls := "PackageBookModel", name := "putLength", desc := "(I)V" } : Jvm.MethodName)) ∈ uW := uW_of 1401 (by decide +kernel) (by decide +kernel)
theorem k_1404 : (Jvm.Cond.code ({ cls := "PackageBookModel", name := "putLength", desc := "(I)V" } : Jvm.MethodName) prog_12_method_26_code (3 : Nat) (Option.none : Option Jvm.ClassFile.FieldType)) ∈ uW := uW_of 1404 (by decide +kernel) (by decide +kernel)
theorem k_1403 : (Jvm.Cond.instanceMethod ({ cls := "PackageBookModel", name := "putLength", desc := "(I)V" } : Jvm.MethodName)) ∈ uW := uW_of 1403 (by decide +kernel) (by decide +kernel)
theorem k_65 : Cond.selects "PackageBookModel" ⟨"PackageBookModel", "putLength", "(I)V"⟩ ⟨"PackageBookModel", "putLength", "(I)V"⟩ ∈ uW := uW_of 65 (by decide +kernel) (by decide +kernel)
theorem d_Mod_pressRow_147 : decode prog_12_method_29_code 147 = .ok (.aload_n 0, 1) := by decide +kernel
theorem d_Mod_pressRow_148 : decode prog_12_method_29_code 148 = .ok (.iload 4, 2) := by decide +kernel
theorem d_Mod_pressRow_150 : decode prog_12_method_29_code 150 = .ok (.iload 7, 2) := by decide +kernel
theorem d_Mod_pressRow_152 : decode prog_12_method_29_code 152 = .ok (.isub, 1) := by decide +kernel
theorem d_Mod_pressRow_153 : decode prog_12_method_29_code 153 = .ok (.invokevirtual 188, 3) := by decide +kernel
theorem k_1408 : (Jvm.Cond.methodLink "PackageBookModel" (188 : Nat) ({ cls := "PackageBookModel", name := "putDistance", desc := "(I)V" } : Jvm.MethodName)) ∈ uW := uW_of 1408 (by decide +kernel) (by decide +kernel)
theorem k_1411 : (Jvm.Cond.code ({ cls := "PackageBookModel", name := "putDistance", desc := "(I)V" } : Jvm.MethodName) prog_12_method_27_code (3 : Nat) (Option.none : Option Jvm.ClassFile.FieldType)) ∈ uW := uW_of 1411 (by decide +kernel) (by decide +kernel)
theorem k_1410 : (Jvm.Cond.instanceMethod ({ cls := "PackageBookModel", name := "putDistance", desc := "(I)V" } : Jvm.MethodName)) ∈ uW := uW_of 1410 (by decide +kernel) (by decide +kernel)
theorem k_66 : Cond.selects "PackageBookModel" ⟨"PackageBookModel", "putDistance", "(I)V"⟩ ⟨"PackageBookModel", "putDistance", "(I)V"⟩ ∈ uW := uW_of 66 (by decide +kernel) (by decide +kernel)
theorem d_Mod_pressRow_156 : decode prog_12_method_29_code 156 = .ok (.iload 4, 2) := by decide +kernel
theorem d_Mod_pressRow_158 : decode prog_12_method_29_code 158 = .ok (.iload 6, 2) := by decide +kernel
theorem d_Mod_pressRow_160 : decode prog_12_method_29_code 160 = .ok (.iadd, 1) := by decide +kernel
theorem d_Mod_pressRow_161 : decode prog_12_method_29_code 161 = .ok (.istore 4, 2) := by decide +kernel
theorem d_Mod_pressRow_163 : decode prog_12_method_29_code 163 = .ok (.goto (-134), 3) := by decide +kernel
theorem d_Mod_pressRow_123 : decode prog_12_method_29_code 123 = .ok (.aload_n 0, 1) := by decide +kernel
theorem d_Mod_pressRow_124 : decode prog_12_method_29_code 124 = .ok (.aload_n 1, 1) := by decide +kernel
theorem d_Mod_pressRow_125 : decode prog_12_method_29_code 125 = .ok (.iload 4, 2) := by decide +kernel
theorem d_Mod_pressRow_127 : decode prog_12_method_29_code 127 = .ok (.baload, 1) := by decide +kernel
theorem d_Mod_pressRow_128 : decode prog_12_method_29_code 128 = .ok (.sipush 255, 3) := by decide +kernel
theorem d_Mod_pressRow_131 : decode prog_12_method_29_code 131 = .ok (.iand, 1) := by decide +kernel
theorem d_Mod_pressRow_132 : decode prog_12_method_29_code 132 = .ok (.invokevirtual 172, 3) := by decide +kernel
theorem d_Mod_pressRow_135 : decode prog_12_method_29_code 135 = .ok (.iinc 4 1, 3) := by decide +kernel
theorem d_Mod_pressRow_138 : decode prog_12_method_29_code 138 = .ok (.goto 25, 3) := by decide +kernel
theorem d_Mod_pressRow_95 : decode prog_12_method_29_code 95 = .ok (.iload 9, 2) := by decide +kernel
theorem d_Mod_pressRow_97 : decode prog_12_method_29_code 97 = .ok (.iload 6, 2) := by decide +kernel
theorem d_Mod_pressRow_99 : decode prog_12_method_29_code 99 = .ok (.if_icmp .le 8, 3) := by decide +kernel
theorem d_Mod_pressRow_107 : decode prog_12_method_29_code 107 = .ok (.iload 6, 2) := by decide +kernel
theorem d_Mod_pressRow_109 : decode prog_12_method_29_code 109 = .ok (.istore 6, 2) := by decide +kernel
theorem d_Mod_pressRow_111 : decode prog_12_method_29_code 111 = .ok (.iinc 8 1, 3) := by decide +kernel
theorem d_Mod_pressRow_114 : decode prog_12_method_29_code 114 = .ok (.goto (-69), 3) := by decide +kernel
theorem d_Mod_pressRow_102 : decode prog_12_method_29_code 102 = .ok (.iload 9, 2) := by decide +kernel
theorem d_Mod_pressRow_104 : decode prog_12_method_29_code 104 = .ok (.goto 5, 3) := by decide +kernel
theorem d_Mod_pressRow_79 : decode prog_12_method_29_code 79 = .ok (.iload 9, 2) := by decide +kernel
theorem d_Mod_pressRow_81 : decode prog_12_method_29_code 81 = .ok (.iload 6, 2) := by decide +kernel
theorem d_Mod_pressRow_83 : decode prog_12_method_29_code 83 = .ok (.if_icmp .lt 8, 3) := by decide +kernel
theorem d_Mod_pressRow_91 : decode prog_12_method_29_code 91 = .ok (.iload 7, 2) := by decide +kernel
theorem d_Mod_pressRow_93 : decode prog_12_method_29_code 93 = .ok (.istore 7, 2) := by decide +kernel
theorem d_Mod_pressRow_86 : decode prog_12_method_29_code 86 = .ok (.iload 8, 2) := by decide +kernel
theorem d_Mod_pressRow_88 : decode prog_12_method_29_code 88 = .ok (.goto 5, 3) := by decide +kernel
theorem d_Mod_pressRow_52 : decode prog_12_method_29_code 52 = .ok (.aload_n 1, 1) := by decide +kernel
theorem d_Mod_pressRow_53 : decode prog_12_method_29_code 53 = .ok (.iload 8, 2) := by decide +kernel
theorem d_Mod_pressRow_55 : decode prog_12_method_29_code 55 = .ok (.baload, 1) := by decide +kernel
theorem d_Mod_pressRow_56 : decode prog_12_method_29_code 56 = .ok (.aload_n 1, 1) := by decide +kernel
theorem d_Mod_pressRow_57 : decode prog_12_method_29_code 57 = .ok (.iload 4, 2) := by decide +kernel
theorem d_Mod_pressRow_59 : decode prog_12_method_29_code 59 = .ok (.baload, 1) := by decide +kernel
theorem d_Mod_pressRow_60 : decode prog_12_method_29_code 60 = .ok (.if_icmp .ne 16, 3) := by decide +kernel
theorem d_Mod_pressRow_76 : decode prog_12_method_29_code 76 = .ok (.iconst 0, 1) := by decide +kernel
theorem d_Mod_pressRow_77 : decode prog_12_method_29_code 77 = .ok (.istore 9, 2) := by decide +kernel
theorem d_Mod_pressRow_63 : decode prog_12_method_29_code 63 = .ok (.aload_n 1, 1) := by decide +kernel
theorem d_Mod_pressRow_64 : decode prog_12_method_29_code 64 = .ok (.iload 8, 2) := by decide +kernel
theorem d_Mod_pressRow_66 : decode prog_12_method_29_code 66 = .ok (.iload 4, 2) := by decide +kernel
theorem d_Mod_pressRow_68 : decode prog_12_method_29_code 68 = .ok (.iload 5, 2) := by decide +kernel
theorem d_Mod_pressRow_70 : decode prog_12_method_29_code 70 = .ok (.invokestatic 181, 3) := by decide +kernel
theorem k_1390 : (Jvm.Cond.methodLink "PackageBookModel" (181 : Nat) ({ cls := "PackageBookModel", name := "same", desc := "([BIII)I" } : Jvm.MethodName)) ∈ uW := uW_of 1390 (by decide +kernel) (by decide +kernel)
theorem k_1392 : (Jvm.Cond.code ({ cls := "PackageBookModel", name := "same", desc := "([BIII)I" } : Jvm.MethodName) prog_12_method_28_code (5 : Nat) (Option.some Jvm.ClassFile.FieldType.int)) ∈ uW := uW_of 1392 (by decide +kernel) (by decide +kernel)
theorem k_1391 : (Jvm.Cond.static ({ cls := "PackageBookModel", name := "same", desc := "([BIII)I" } : Jvm.MethodName)) ∈ uW := uW_of 1391 (by decide +kernel) (by decide +kernel)
theorem d_Mod_pressRow_73 : decode prog_12_method_29_code 73 = .ok (.goto 4, 3) := by decide +kernel
abbrev y_Mod_pressRow : MethodName := ⟨"PackageBookModel", "pressRow", "([BII)V"⟩
abbrev i_Mod_pressRow : pb_I := (y_Mod_pressRow, prog_12_method_29_code, 10, (Option.none : Option Jvm.ClassFile.FieldType), [], { frames := 4, cells := 0, slots := 0, locals := 87 })
set_option maxRecDepth 100000 in
set_option maxHeartbeats 4000000 in
theorem g_Mod_pressRow {l : Launch} (hl : l.stackTraces = false) (G : pb_G) (h : Nat) (m_rels : Nat) (m_openRels : Nat) (m_closeRels : Nat) (m_openRel : Nat) (m_closeRel : Nat) (m_comment : Nat) (m_ends : Nat) (m_order : Nat) (m_tape : Nat) (m_count : Nat) (m_nameSize : Nat) (m_names : Nat) (m_size : Nat) (m_data : Nat) (m_looked : Nat) (m_file : Nat) (m_directory : Nat) (m_out : Nat) (m_row : Nat) (m_made : Nat) (m_length : Nat) (m_pressed : Nat) (m_mark : Nat) (m_idSize : Nat) (m_ids : Nat) (m_goalSize : Nat) (m_goals : Nat) (m_value : Nat) (m_faults : Nat) (m_reached : Nat) (v_thrown : Int32) (v_taped : Int32) (v_lookedSize : Int32) (v_fileSize : Int32) (v_directorySize : Int32) (v_outSize : Int32) (v_rowSize : Int32) (v_bitAt : Int32) (v_bitEnd : Int32) (v_why : Int32) (v_madeSize : Int32) (v_firstCount : Int32) (v_secondCount : Int32) (v_heldBits : Int32) (v_heldCount : Int32) (v_pressedSize : Int32) (v_at : Int32) (v_bad : Int32) (v_markSize : Int32) (v_relationCount : Int32) (v_valueSize : Int32) (v_faultCount : Int32) (a_pressed : Nat → Int32) (a : Nat) (Na : Nat) (f : Nat → Int32) (x : Int32) (n : Int32) (h0 : 0 ≤ x.toInt) (h1 : 0 ≤ n.toInt) (h2 : n.toInt ≤ 4000) (h3 : x.toInt + n.toInt ≤ Na) (h4 : Na ≤ 1000000) (F_a_pressed : sb_Fit a_pressed) (F_f : sb_Fit f) : Cn l G i_Mod_pressRow [.ref h, .ref a, .int x, .int n] [(h, .inr (10, [.ref m_rels, .ref m_openRels, .ref m_closeRels, .ref m_openRel, .ref m_closeRel, .ref m_comment, .ref m_ends, .ref m_order, .int v_thrown, .int v_taped, .ref m_tape, .ref m_count, .ref m_nameSize, .ref m_names, .ref m_size, .ref m_data, .int v_lookedSize, .ref m_looked, .int v_fileSize, .ref m_file, .int v_directorySize, .ref m_directory, .int v_outSize, .ref m_out, .int v_rowSize, .ref m_row, .int v_bitAt, .int v_bitEnd, .int v_why, .int v_madeSize, .ref m_made, .ref m_length, .int v_firstCount, .int v_secondCount, .int v_heldBits, .int v_heldCount, .int v_pressedSize, .ref m_pressed, .int v_at, .int v_bad, .int v_markSize, .ref m_mark, .int v_relationCount, .ref m_idSize, .ref m_ids, .ref m_goalSize, .ref m_goals, .int v_valueSize, .ref m_value, .int v_faultCount, .ref m_faults, .ref m_reached])), (m_pressed, .inl (G.2.1, 5000, .inl a_pressed)), (a, .inl (G.2.1, Na, .inl f))] (S := Int32 × Int32 × Int32 × (Nat → Int32)) (fun v u => v = none ∧ (u.2.1.toInt = 0) ∧ (0 ≤ u.2.2.1.toInt) ∧ (u.2.2.1.toInt ≤ 5000) ∧ (sb_Fit u.2.2.2)) (fun u => [(h, .inr (10, [.ref m_rels, .ref m_openRels, .ref m_closeRels, .ref m_openRel, .ref m_closeRel, .ref m_comment, .ref m_ends, .ref m_order, .int v_thrown, .int v_taped, .ref m_tape, .ref m_count, .ref m_nameSize, .ref m_names, .ref m_size, .ref m_data, .int v_lookedSize, .ref m_looked, .int v_fileSize, .ref m_file, .int v_directorySize, .ref m_directory, .int v_outSize, .ref m_out, .int v_rowSize, .ref m_row, .int v_bitAt, .int v_bitEnd, .int v_why, .int v_madeSize, .ref m_made, .ref m_length, .int v_firstCount, .int v_secondCount, .int u.1, .int u.2.1, .int u.2.2.1, .ref m_pressed, .int v_at, .int v_bad, .int v_markSize, .ref m_mark, .int v_relationCount, .ref m_idSize, .ref m_ids, .ref m_goalSize, .ref m_goals, .int v_valueSize, .ref m_value, .int v_faultCount, .ref m_faults, .ref m_reached])), (m_pressed, .inl (G.2.1, 5000, .inl u.2.2.2)), (a, .inl (G.2.1, Na, .inl f))]) := by
  refine Cn.of hl (by decide +kernel) rfl (Nat.le_of_ble_eq_true rfl) (fun M hQ => ?_)
  refine pb_eq (pc' := 0) (lo' := [(0, .ref h), (1, .ref a), (2, .int x), (3, .int n)]) (rest' := []) (ws' := [(h, .inr (10, [.ref m_rels, .ref m_openRels, .ref m_closeRels, .ref m_openRel, .ref m_closeRel, .ref m_comment, .ref m_ends, .ref m_order, .int v_thrown, .int v_taped, .ref m_tape, .ref m_count, .ref m_nameSize, .ref m_names, .ref m_size, .ref m_data, .int v_lookedSize, .ref m_looked, .int v_fileSize, .ref m_file, .int v_directorySize, .ref m_directory, .int v_outSize, .ref m_out, .int v_rowSize, .ref m_row, .int v_bitAt, .int v_bitEnd, .int v_why, .int v_madeSize, .ref m_made, .ref m_length, .int v_firstCount, .int v_secondCount, .int v_heldBits, .int v_heldCount, .int v_pressedSize, .ref m_pressed, .int v_at, .int v_bad, .int v_markSize, .ref m_mark, .int v_relationCount, .ref m_idSize, .ref m_ids, .ref m_goalSize, .ref m_goals, .int v_valueSize, .ref m_value, .int v_faultCount, .ref m_faults, .ref m_reached])), (m_pressed, .inl (G.2.1, 5000, .inl a_pressed)), (a, .inl (G.2.1, Na, .inl f))]) ?_
  have zl0 : (0 : Int32).toInt = 0 := by decide
  have zl1 : (1 : Int32).toInt = 1 := by decide
  have zl3 : (3 : Int32).toInt = 3 := by decide
  have zl256 : (256 : Int32).toInt = 256 := by decide
  refine pb_aload_n (pc := 0) d_Mod_pressRow_0 0 rfl rfl ?_
  refine pb_iconst (pc := 1) (v := 0) d_Mod_pressRow_1 (by decide) ?_
  refine pb_put (pc := 2) (ty := .int) (ws' := [(h, .inr (10, [.ref m_rels, .ref m_openRels, .ref m_closeRels, .ref m_openRel, .ref m_closeRel, .ref m_comment, .ref m_ends, .ref m_order, .int v_thrown, .int v_taped, .ref m_tape, .ref m_count, .ref m_nameSize, .ref m_names, .ref m_size, .ref m_data, .int v_lookedSize, .ref m_looked, .int v_fileSize, .ref m_file, .int v_directorySize, .ref m_directory, .int v_outSize, .ref m_out, .int v_rowSize, .ref m_row, .int v_bitAt, .int v_bitEnd, .int v_why, .int v_madeSize, .ref m_made, .ref m_length, .int v_firstCount, .int v_secondCount, .int v_heldBits, .int v_heldCount, .int 0, .ref m_pressed, .int v_at, .int v_bad, .int v_markSize, .ref m_mark, .int v_relationCount, .ref m_idSize, .ref m_ids, .ref m_goalSize, .ref m_goals, .int v_valueSize, .ref m_value, .int v_faultCount, .ref m_faults, .ref m_reached])), (m_pressed, .inl (G.2.1, 5000, .inl a_pressed)), (a, .inl (G.2.1, Na, .inl f))]) d_Mod_pressRow_2 0 36 t_Mod t_Mod_ok n_Mod rfl rfl (by decide) in_Mod k_1182 rfl (by decide +kernel) rfl rfl (Nat.le_of_ble_eq_true rfl) rfl ?_
  refine pb_aload_n (pc := 5) d_Mod_pressRow_5 0 rfl rfl ?_
  refine pb_iconst (pc := 6) (v := 0) d_Mod_pressRow_6 (by decide) ?_
  refine pb_put (pc := 7) (ty := .int) (ws' := [(h, .inr (10, [.ref m_rels, .ref m_openRels, .ref m_closeRels, .ref m_openRel, .ref m_closeRel, .ref m_comment, .ref m_ends, .ref m_order, .int v_thrown, .int v_taped, .ref m_tape, .ref m_count, .ref m_nameSize, .ref m_names, .ref m_size, .ref m_data, .int v_lookedSize, .ref m_looked, .int v_fileSize, .ref m_file, .int v_directorySize, .ref m_directory, .int v_outSize, .ref m_out, .int v_rowSize, .ref m_row, .int v_bitAt, .int v_bitEnd, .int v_why, .int v_madeSize, .ref m_made, .ref m_length, .int v_firstCount, .int v_secondCount, .int 0, .int v_heldCount, .int 0, .ref m_pressed, .int v_at, .int v_bad, .int v_markSize, .ref m_mark, .int v_relationCount, .ref m_idSize, .ref m_ids, .ref m_goalSize, .ref m_goals, .int v_valueSize, .ref m_value, .int v_faultCount, .ref m_faults, .ref m_reached])), (m_pressed, .inl (G.2.1, 5000, .inl a_pressed)), (a, .inl (G.2.1, Na, .inl f))]) d_Mod_pressRow_7 0 34 t_Mod t_Mod_ok n_Mod rfl rfl (by decide) in_Mod k_1180 rfl (by decide +kernel) rfl rfl (Nat.le_of_ble_eq_true rfl) rfl ?_
  refine pb_aload_n (pc := 10) d_Mod_pressRow_10 0 rfl rfl ?_
  refine pb_iconst (pc := 11) (v := 0) d_Mod_pressRow_11 (by decide) ?_
  refine pb_put (pc := 12) (ty := .int) (ws' := [(h, .inr (10, [.ref m_rels, .ref m_openRels, .ref m_closeRels, .ref m_openRel, .ref m_closeRel, .ref m_comment, .ref m_ends, .ref m_order, .int v_thrown, .int v_taped, .ref m_tape, .ref m_count, .ref m_nameSize, .ref m_names, .ref m_size, .ref m_data, .int v_lookedSize, .ref m_looked, .int v_fileSize, .ref m_file, .int v_directorySize, .ref m_directory, .int v_outSize, .ref m_out, .int v_rowSize, .ref m_row, .int v_bitAt, .int v_bitEnd, .int v_why, .int v_madeSize, .ref m_made, .ref m_length, .int v_firstCount, .int v_secondCount, .int 0, .int 0, .int 0, .ref m_pressed, .int v_at, .int v_bad, .int v_markSize, .ref m_mark, .int v_relationCount, .ref m_idSize, .ref m_ids, .ref m_goalSize, .ref m_goals, .int v_valueSize, .ref m_value, .int v_faultCount, .ref m_faults, .ref m_reached])), (m_pressed, .inl (G.2.1, 5000, .inl a_pressed)), (a, .inl (G.2.1, Na, .inl f))]) d_Mod_pressRow_12 0 35 t_Mod t_Mod_ok n_Mod rfl rfl (by decide) in_Mod k_1181 rfl (by decide +kernel) rfl rfl (Nat.le_of_ble_eq_true rfl) rfl ?_
  refine pb_aload_n (pc := 15) d_Mod_pressRow_15 0 rfl rfl ?_
  refine pb_iconst (pc := 16) (v := 3) d_Mod_pressRow_16 (by decide) ?_
  refine pb_iconst (pc := 17) (v := 3) d_Mod_pressRow_17 (by decide) ?_
  refine pb_callV (pc := 18) (qb := 0) (ci := 10) (nA := 2) (rest := []) (wr := [(a, .inl (G.2.1, Na, .inl f))]) d_Mod_pressRow_18 (g_Mod_putNumber hl G h m_rels m_openRels m_closeRels m_openRel m_closeRel m_comment m_ends m_order m_tape m_count m_nameSize m_names m_size m_data m_looked m_file m_directory m_out m_row m_made m_length m_pressed m_mark m_idSize m_ids m_goalSize m_goals m_value m_faults m_reached v_thrown v_taped v_lookedSize v_fileSize v_directorySize v_outSize v_rowSize v_bitAt v_bitEnd v_why v_madeSize v_firstCount v_secondCount 0 0 0 v_at v_bad v_markSize v_relationCount v_valueSize v_faultCount a_pressed 3 3 (by first | omega | assumption | decide) (by first | omega | assumption | decide) (by first | omega | assumption | decide) (by first | omega | assumption | decide) (by first | omega | assumption | decide) F_a_pressed) rfl rfl [0, 1] [2] (by decide) rfl rfl rfl (by decide) (by decide) k_1385 rfl k_128 k_1382 k_1384 k_61 (by decide +kernel) (by decide) rfl rfl (Nat.le_of_ble_eq_true rfl) (by decide) (fun v9 u2 ch1 => ?_)
  obtain ⟨hb_3, hc_4, ps_5, g_6⟩ := u2
  obtain ⟨ech1, ch1⟩ := ch1
  have ech1 : v9 = none := ech1
  subst ech1
  obtain ⟨fh7, fh8, fh9, fh10, fh11⟩ : (0 ≤ hc_4.toInt) ∧ (hc_4.toInt < 8) ∧ (0 ≤ ps_5.toInt) ∧ (8 * ps_5.toInt + hc_4.toInt = (8 * (0 : Int32).toInt + (0 : Int32).toInt) + (3 : Int32).toInt) ∧ (sb_Fit g_6) := ch1
  refine pb_eq (pc' := 21) (lo' := [(0, .ref h), (1, .ref a), (2, .int x), (3, .int n)]) (rest' := []) (ws' := [(a, .inl (G.2.1, Na, .inl f)), (h, .inr (10, [.ref m_rels, .ref m_openRels, .ref m_closeRels, .ref m_openRel, .ref m_closeRel, .ref m_comment, .ref m_ends, .ref m_order, .int v_thrown, .int v_taped, .ref m_tape, .ref m_count, .ref m_nameSize, .ref m_names, .ref m_size, .ref m_data, .int v_lookedSize, .ref m_looked, .int v_fileSize, .ref m_file, .int v_directorySize, .ref m_directory, .int v_outSize, .ref m_out, .int v_rowSize, .ref m_row, .int v_bitAt, .int v_bitEnd, .int v_why, .int v_madeSize, .ref m_made, .ref m_length, .int v_firstCount, .int v_secondCount, .int hb_3, .int hc_4, .int ps_5, .ref m_pressed, .int v_at, .int v_bad, .int v_markSize, .ref m_mark, .int v_relationCount, .ref m_idSize, .ref m_ids, .ref m_goalSize, .ref m_goals, .int v_valueSize, .ref m_value, .int v_faultCount, .ref m_faults, .ref m_reached])), (m_pressed, .inl (G.2.1, 5000, .inl g_6))]) ?_
  refine pb_iload_n (pc := 21) d_Mod_pressRow_21 2 rfl rfl ?_
  refine pb_istore (pc := 22) (lo' := [(4, .int x), (0, .ref h), (1, .ref a), (2, .int x), (3, .int n)]) d_Mod_pressRow_22 (by decide) rfl ?_
  refine pb_iload_n (pc := 24) d_Mod_pressRow_24 3 rfl rfl ?_
  refine pb_iload_n (pc := 25) d_Mod_pressRow_25 4 rfl rfl ?_
  refine pb_iadd (pc := 26) d_Mod_pressRow_26 ?_
  refine pb_topi (fun i12 ei12 => ?_)
  try have ti12 : i12.toInt = x.toInt + n.toInt := t2_add ei12 rfl rfl (by omega)
  refine pb_istore (pc := 27) (lo' := [(5, .int i12), (4, .int x), (0, .ref h), (1, .ref a), (2, .int x), (3, .int n)]) d_Mod_pressRow_27 (by decide) rfl ?_
  have hL29_13 : ∀ (N9 : Nat) (k : Int32) (e : Int32) (hb_ : Int32) (hc_ : Int32) (ps_ : Int32) (g_ : Nat → Int32), (sb_Fit g_) → (x.toInt ≤ k.toInt) → (k.toInt ≤ e.toInt) → (e.toInt = x.toInt + n.toInt) → (0 ≤ hc_.toInt) → (hc_.toInt < 8) → (0 ≤ ps_.toInt) → (3 * (8 * ps_.toInt + hc_.toInt) ≤ 9 + 29 * (k.toInt - x.toInt)) → ((e.toInt - k.toInt).toNat) < N9 → pb_P l G M i_Mod_pressRow 29 [(4, .int k), (5, .int e), (0, .ref h), (1, .ref a), (2, .int x), (3, .int n)] [] [(h, .inr (10, [.ref m_rels, .ref m_openRels, .ref m_closeRels, .ref m_openRel, .ref m_closeRel, .ref m_comment, .ref m_ends, .ref m_order, .int v_thrown, .int v_taped, .ref m_tape, .ref m_count, .ref m_nameSize, .ref m_names, .ref m_size, .ref m_data, .int v_lookedSize, .ref m_looked, .int v_fileSize, .ref m_file, .int v_directorySize, .ref m_directory, .int v_outSize, .ref m_out, .int v_rowSize, .ref m_row, .int v_bitAt, .int v_bitEnd, .int v_why, .int v_madeSize, .ref m_made, .ref m_length, .int v_firstCount, .int v_secondCount, .int hb_, .int hc_, .int ps_, .ref m_pressed, .int v_at, .int v_bad, .int v_markSize, .ref m_mark, .int v_relationCount, .ref m_idSize, .ref m_ids, .ref m_goalSize, .ref m_goals, .int v_valueSize, .ref m_value, .int v_faultCount, .ref m_faults, .ref m_reached])), (m_pressed, .inl (G.2.1, 5000, .inl g_)), (a, .inl (G.2.1, Na, .inl f))] 0 0 := by
    intro N9
    induction N9 with
    | zero => intro k e hb_ hc_ ps_ g_ F_g_ k0 k1 k2 q0 q1 q2 q3 hm9; exact absurd hm9 (Nat.not_lt_zero _)
    | succ N9 ih29 =>
      intro k e hb_ hc_ ps_ g_ F_g_ k0 k1 k2 q0 q1 q2 q3 hm9
      refine pb_iload (pc := 29) d_Mod_pressRow_29 0 rfl ?_
      refine pb_iload (pc := 31) d_Mod_pressRow_31 1 rfl ?_
      refine pb_icmp_ge (pc := 33) (tgt := 166) d_Mod_pressRow_33 (by decide) (fun w14 => ?_) (fun w14 => ?_)
      · have tw14 : e.toInt ≤ k.toInt := (ti_le rfl rfl).mp w14
        refine pb_aload_n (pc := 166) d_Mod_pressRow_166 2 rfl rfl ?_
        refine pb_sipush (pc := 167) (v := 256) d_Mod_pressRow_167 (by decide) ?_
        refine pb_callV (pc := 170) (qb := 0) (ci := 10) (nA := 1) (rest := []) (wr := [(a, .inl (G.2.1, Na, .inl f))]) d_Mod_pressRow_170 (g_Mod_putSymbol hl G h m_rels m_openRels m_closeRels m_openRel m_closeRel m_comment m_ends m_order m_tape m_count m_nameSize m_names m_size m_data m_looked m_file m_directory m_out m_row m_made m_length m_pressed m_mark m_idSize m_ids m_goalSize m_goals m_value m_faults m_reached v_thrown v_taped v_lookedSize v_fileSize v_directorySize v_outSize v_rowSize v_bitAt v_bitEnd v_why v_madeSize v_firstCount v_secondCount hb_ hc_ ps_ v_at v_bad v_markSize v_relationCount v_valueSize v_faultCount g_ 256 (by first | omega | assumption | decide) (by first | omega | assumption | decide) (by first | omega | assumption | decide) (by first | omega | assumption | decide) F_g_) rfl rfl [0, 1] [2] (by decide) rfl rfl rfl (by decide) (by decide) k_1396 rfl k_128 k_1393 k_1395 k_63 (by decide +kernel) (by decide) rfl rfl (Nat.le_of_ble_eq_true rfl) (by decide) (fun v9 u16 ch15 => ?_)
        obtain ⟨hb_17, hc_18, ps_19, g_20⟩ := u16
        obtain ⟨ech15, ch15⟩ := ch15
        have ech15 : v9 = none := ech15
        subst ech15
        obtain ⟨fh21, fh22, fh23, fh24, fh25, fh26⟩ : (0 ≤ hc_18.toInt) ∧ (hc_18.toInt < 8) ∧ (0 ≤ ps_19.toInt) ∧ (8 * ps_19.toInt + hc_18.toInt ≤ (8 * ps_.toInt + hc_.toInt) + 9) ∧ ((8 * ps_.toInt + hc_.toInt) ≤ 8 * ps_19.toInt + hc_18.toInt) ∧ (sb_Fit g_20) := ch15
        refine pb_eq (pc' := 173) (lo' := [(4, .int k), (5, .int e), (0, .ref h), (1, .ref a), (2, .int x), (3, .int n)]) (rest' := []) (ws' := [(a, .inl (G.2.1, Na, .inl f)), (h, .inr (10, [.ref m_rels, .ref m_openRels, .ref m_closeRels, .ref m_openRel, .ref m_closeRel, .ref m_comment, .ref m_ends, .ref m_order, .int v_thrown, .int v_taped, .ref m_tape, .ref m_count, .ref m_nameSize, .ref m_names, .ref m_size, .ref m_data, .int v_lookedSize, .ref m_looked, .int v_fileSize, .ref m_file, .int v_directorySize, .ref m_directory, .int v_outSize, .ref m_out, .int v_rowSize, .ref m_row, .int v_bitAt, .int v_bitEnd, .int v_why, .int v_madeSize, .ref m_made, .ref m_length, .int v_firstCount, .int v_secondCount, .int hb_17, .int hc_18, .int ps_19, .ref m_pressed, .int v_at, .int v_bad, .int v_markSize, .ref m_mark, .int v_relationCount, .ref m_idSize, .ref m_ids, .ref m_goalSize, .ref m_goals, .int v_valueSize, .ref m_value, .int v_faultCount, .ref m_faults, .ref m_reached])), (m_pressed, .inl (G.2.1, 5000, .inl g_20))]) ?_
        have hL173_27 : ∀ (N9 : Nat) (hb_9 : Int32) (hc_9 : Int32) (ps_9 : Int32) (g_9 : Nat → Int32), (sb_Fit g_9) → (0 ≤ hc_9.toInt) → (hc_9.toInt < 8) → (0 ≤ ps_9.toInt) → (8 * ps_9.toInt + hc_9.toInt ≤ 39000) → (hc_9.toInt = 0 ∨ 8 * ps_9.toInt ≤ 38900) → (((8 - hc_9.toInt) % 8).toNat) < N9 → pb_P l G M i_Mod_pressRow 173 [(0, .ref h)] [] [(h, .inr (10, [.ref m_rels, .ref m_openRels, .ref m_closeRels, .ref m_openRel, .ref m_closeRel, .ref m_comment, .ref m_ends, .ref m_order, .int v_thrown, .int v_taped, .ref m_tape, .ref m_count, .ref m_nameSize, .ref m_names, .ref m_size, .ref m_data, .int v_lookedSize, .ref m_looked, .int v_fileSize, .ref m_file, .int v_directorySize, .ref m_directory, .int v_outSize, .ref m_out, .int v_rowSize, .ref m_row, .int v_bitAt, .int v_bitEnd, .int v_why, .int v_madeSize, .ref m_made, .ref m_length, .int v_firstCount, .int v_secondCount, .int hb_9, .int hc_9, .int ps_9, .ref m_pressed, .int v_at, .int v_bad, .int v_markSize, .ref m_mark, .int v_relationCount, .ref m_idSize, .ref m_ids, .ref m_goalSize, .ref m_goals, .int v_valueSize, .ref m_value, .int v_faultCount, .ref m_faults, .ref m_reached])), (m_pressed, .inl (G.2.1, 5000, .inl g_9)), (a, .inl (G.2.1, Na, .inl f))] 0 0 := by
          intro N9
          induction N9 with
          | zero => intro hb_9 hc_9 ps_9 g_9 F_g_9 z0 z1 z2 z3 z4 hm9; exact absurd hm9 (Nat.not_lt_zero _)
          | succ N9 ih173 =>
            intro hb_9 hc_9 ps_9 g_9 F_g_9 z0 z1 z2 z3 z4 hm9
            refine pb_aload_n (pc := 173) d_Mod_pressRow_173 0 rfl rfl ?_
            refine pb_get (pc := 174) d_Mod_pressRow_174 0 35 rfl rfl (by decide) in_Mod k_1181 rfl ?_
            refine pb_if_le (pc := 177) (tgt := 188) d_Mod_pressRow_177 (by decide) (fun w28 => ?_) (fun w28 => ?_)
            · have tw28 : hc_9.toInt ≤ 0 := (ti_le rfl (by decide)).mp w28
              exact pb_vret (pc := 188) hQ d_Mod_pressRow_188 rfl (hb_9, hc_9, ps_9, g_9) ⟨rfl, (by (try dsimp only); first | omega | assumption | decide), (by (try dsimp only); first | omega | assumption | decide), (by (try dsimp only); first | omega | assumption | decide), F_g_9⟩ [0, 1, 2] (by decide) rfl rfl (by decide) (by decide)
            · have tw28 : ¬ hc_9.toInt ≤ 0 := fun z9 => w28 ((ti_le rfl (by decide)).mpr z9)
              refine pb_aload_n (pc := 180) d_Mod_pressRow_180 0 rfl rfl ?_
              refine pb_iconst (pc := 181) (v := 0) d_Mod_pressRow_181 (by decide) ?_
              refine pb_callV (pc := 182) (qb := 0) (ci := 10) (nA := 1) (rest := []) (wr := [(a, .inl (G.2.1, Na, .inl f))]) d_Mod_pressRow_182 (g_Mod_putBit hl G h m_rels m_openRels m_closeRels m_openRel m_closeRel m_comment m_ends m_order m_tape m_count m_nameSize m_names m_size m_data m_looked m_file m_directory m_out m_row m_made m_length m_pressed m_mark m_idSize m_ids m_goalSize m_goals m_value m_faults m_reached v_thrown v_taped v_lookedSize v_fileSize v_directorySize v_outSize v_rowSize v_bitAt v_bitEnd v_why v_madeSize v_firstCount v_secondCount hb_9 hc_9 ps_9 v_at v_bad v_markSize v_relationCount v_valueSize v_faultCount g_9 0 (by first | omega | assumption | decide) (by first | omega | assumption | decide) (by first | omega | assumption | decide) (by first | omega | assumption | decide) F_g_9) rfl rfl [0, 1] [2] (by decide) rfl rfl rfl (by decide) (by decide) k_1389 rfl k_128 k_1386 k_1388 k_62 (by decide +kernel) (by decide) rfl rfl (Nat.le_of_ble_eq_true rfl) (by decide) (fun v9 u30 ch29 => ?_)
              obtain ⟨hb_31, hc_32, ps_33, g_34⟩ := u30
              obtain ⟨ech29, ch29⟩ := ch29
              have ech29 : v9 = none := ech29
              subst ech29
              obtain ⟨fh35, fh36, fh37, fh38, fh39⟩ : (0 ≤ hc_32.toInt) ∧ (hc_32.toInt < 8) ∧ (0 ≤ ps_33.toInt) ∧ (8 * ps_33.toInt + hc_32.toInt = (8 * ps_9.toInt + hc_9.toInt) + 1) ∧ (sb_Fit g_34) := ch29
              refine pb_eq (pc' := 185) (lo' := [(0, .ref h)]) (rest' := []) (ws' := [(a, .inl (G.2.1, Na, .inl f)), (h, .inr (10, [.ref m_rels, .ref m_openRels, .ref m_closeRels, .ref m_openRel, .ref m_closeRel, .ref m_comment, .ref m_ends, .ref m_order, .int v_thrown, .int v_taped, .ref m_tape, .ref m_count, .ref m_nameSize, .ref m_names, .ref m_size, .ref m_data, .int v_lookedSize, .ref m_looked, .int v_fileSize, .ref m_file, .int v_directorySize, .ref m_directory, .int v_outSize, .ref m_out, .int v_rowSize, .ref m_row, .int v_bitAt, .int v_bitEnd, .int v_why, .int v_madeSize, .ref m_made, .ref m_length, .int v_firstCount, .int v_secondCount, .int hb_31, .int hc_32, .int ps_33, .ref m_pressed, .int v_at, .int v_bad, .int v_markSize, .ref m_mark, .int v_relationCount, .ref m_idSize, .ref m_ids, .ref m_goalSize, .ref m_goals, .int v_valueSize, .ref m_value, .int v_faultCount, .ref m_faults, .ref m_reached])), (m_pressed, .inl (G.2.1, 5000, .inl g_34))]) ?_
              refine pb_goto (pc := 185) (tgt := 173) d_Mod_pressRow_185 (by decide) ?_
              refine pb_re (ws' := [(h, .inr (10, [.ref m_rels, .ref m_openRels, .ref m_closeRels, .ref m_openRel, .ref m_closeRel, .ref m_comment, .ref m_ends, .ref m_order, .int v_thrown, .int v_taped, .ref m_tape, .ref m_count, .ref m_nameSize, .ref m_names, .ref m_size, .ref m_data, .int v_lookedSize, .ref m_looked, .int v_fileSize, .ref m_file, .int v_directorySize, .ref m_directory, .int v_outSize, .ref m_out, .int v_rowSize, .ref m_row, .int v_bitAt, .int v_bitEnd, .int v_why, .int v_madeSize, .ref m_made, .ref m_length, .int v_firstCount, .int v_secondCount, .int hb_31, .int hc_32, .int ps_33, .ref m_pressed, .int v_at, .int v_bad, .int v_markSize, .ref m_mark, .int v_relationCount, .ref m_idSize, .ref m_ids, .ref m_goalSize, .ref m_goals, .int v_valueSize, .ref m_value, .int v_faultCount, .ref m_faults, .ref m_reached])), (m_pressed, .inl (G.2.1, 5000, .inl g_34)), (a, .inl (G.2.1, Na, .inl f))]) (lo' := [(0, .ref h)]) [1, 2, 0] [0] (by decide) rfl rfl rfl ?_
              exact ih173 hb_31 hc_32 ps_33 g_34 fh39 (by first | omega | assumption | decide) (by first | omega | assumption | decide) (by first | omega | assumption | decide) (by first | omega | assumption | decide) (by first | omega | assumption | decide) (by omega)
        refine pb_re (ws' := [(h, .inr (10, [.ref m_rels, .ref m_openRels, .ref m_closeRels, .ref m_openRel, .ref m_closeRel, .ref m_comment, .ref m_ends, .ref m_order, .int v_thrown, .int v_taped, .ref m_tape, .ref m_count, .ref m_nameSize, .ref m_names, .ref m_size, .ref m_data, .int v_lookedSize, .ref m_looked, .int v_fileSize, .ref m_file, .int v_directorySize, .ref m_directory, .int v_outSize, .ref m_out, .int v_rowSize, .ref m_row, .int v_bitAt, .int v_bitEnd, .int v_why, .int v_madeSize, .ref m_made, .ref m_length, .int v_firstCount, .int v_secondCount, .int hb_17, .int hc_18, .int ps_19, .ref m_pressed, .int v_at, .int v_bad, .int v_markSize, .ref m_mark, .int v_relationCount, .ref m_idSize, .ref m_ids, .ref m_goalSize, .ref m_goals, .int v_valueSize, .ref m_value, .int v_faultCount, .ref m_faults, .ref m_reached])), (m_pressed, .inl (G.2.1, 5000, .inl g_20)), (a, .inl (G.2.1, Na, .inl f))]) (lo' := [(0, .ref h)]) [1, 2, 0] [2] (by decide) rfl rfl rfl ?_
        exact hL173_27 _ hb_17 hc_18 ps_19 g_20 fh26 (by first | omega | assumption | decide) (by first | omega | assumption | decide) (by first | omega | assumption | decide) (by first | omega | assumption | decide) (by first | omega | assumption | decide) (Nat.lt_succ_self _)
      · have tw14 : ¬ e.toInt ≤ k.toInt := fun z9 => w14 ((ti_le rfl rfl).mpr z9)
        refine pb_iconst (pc := 36) (v := 0) d_Mod_pressRow_36 (by decide) ?_
        refine pb_istore (pc := 37) (lo' := [(6, .int 0), (4, .int k), (5, .int e), (0, .ref h), (1, .ref a), (2, .int x), (3, .int n)]) d_Mod_pressRow_37 (by decide) rfl ?_
        refine pb_iload_n (pc := 39) d_Mod_pressRow_39 5 rfl rfl ?_
        refine pb_istore (pc := 40) (lo' := [(7, .int x), (6, .int 0), (4, .int k), (5, .int e), (0, .ref h), (1, .ref a), (2, .int x), (3, .int n)]) d_Mod_pressRow_40 (by decide) rfl ?_
        refine pb_iload_n (pc := 42) d_Mod_pressRow_42 6 rfl rfl ?_
        refine pb_istore (pc := 43) (lo' := [(8, .int x), (7, .int x), (6, .int 0), (4, .int k), (5, .int e), (0, .ref h), (1, .ref a), (2, .int x), (3, .int n)]) d_Mod_pressRow_43 (by decide) rfl ?_
        have hL45_40 : ∀ (N9 : Nat) (mo_ : Int32) (wh : Int32) (i : Int32), (x.toInt ≤ i.toInt) → (i.toInt ≤ k.toInt) → (0 ≤ mo_.toInt) → (k.toInt + mo_.toInt ≤ e.toInt) → (0 < mo_.toInt → x.toInt ≤ wh.toInt ∧ wh.toInt < k.toInt) → ((k.toInt - i.toInt).toNat) < N9 → pb_P l G M i_Mod_pressRow 45 [(6, .int mo_), (7, .int wh), (8, .int i), (4, .int k), (5, .int e), (0, .ref h), (1, .ref a), (2, .int x), (3, .int n)] [] [(h, .inr (10, [.ref m_rels, .ref m_openRels, .ref m_closeRels, .ref m_openRel, .ref m_closeRel, .ref m_comment, .ref m_ends, .ref m_order, .int v_thrown, .int v_taped, .ref m_tape, .ref m_count, .ref m_nameSize, .ref m_names, .ref m_size, .ref m_data, .int v_lookedSize, .ref m_looked, .int v_fileSize, .ref m_file, .int v_directorySize, .ref m_directory, .int v_outSize, .ref m_out, .int v_rowSize, .ref m_row, .int v_bitAt, .int v_bitEnd, .int v_why, .int v_madeSize, .ref m_made, .ref m_length, .int v_firstCount, .int v_secondCount, .int hb_, .int hc_, .int ps_, .ref m_pressed, .int v_at, .int v_bad, .int v_markSize, .ref m_mark, .int v_relationCount, .ref m_idSize, .ref m_ids, .ref m_goalSize, .ref m_goals, .int v_valueSize, .ref m_value, .int v_faultCount, .ref m_faults, .ref m_reached])), (m_pressed, .inl (G.2.1, 5000, .inl g_)), (a, .inl (G.2.1, Na, .inl f))] 0 0 := by
          intro N9
          induction N9 with
          | zero => intro mo_ wh i i0 i1 i2 i3 i4 hm9; exact absurd hm9 (Nat.not_lt_zero _)
          | succ N9 ih45 =>
            intro mo_ wh i i0 i1 i2 i3 i4 hm9
            refine pb_iload (pc := 45) d_Mod_pressRow_45 2 rfl ?_
            refine pb_iload (pc := 47) d_Mod_pressRow_47 3 rfl ?_
            refine pb_icmp_ge (pc := 49) (tgt := 117) d_Mod_pressRow_49 (by decide) (fun w41 => ?_) (fun w41 => ?_)
            · have tw41 : k.toInt ≤ i.toInt := (ti_le rfl rfl).mp w41
              refine pb_iload (pc := 117) d_Mod_pressRow_117 0 rfl ?_
              refine pb_iconst (pc := 119) (v := 3) d_Mod_pressRow_119 (by decide) ?_
              refine pb_icmp_ge (pc := 120) (tgt := 141) d_Mod_pressRow_120 (by decide) (fun w42 => ?_) (fun w42 => ?_)
              · have tw42 : 3 ≤ mo_.toInt := (ti_le (by decide) rfl).mp w42
                refine pb_aload_n (pc := 141) d_Mod_pressRow_141 5 rfl rfl ?_
                refine pb_iload (pc := 142) d_Mod_pressRow_142 0 rfl ?_
                refine pb_callV (pc := 144) (qb := 0) (ci := 10) (nA := 1) (rest := []) (wr := [(a, .inl (G.2.1, Na, .inl f))]) d_Mod_pressRow_144 (g_Mod_putLength hl G h m_rels m_openRels m_closeRels m_openRel m_closeRel m_comment m_ends m_order m_tape m_count m_nameSize m_names m_size m_data m_looked m_file m_directory m_out m_row m_made m_length m_pressed m_mark m_idSize m_ids m_goalSize m_goals m_value m_faults m_reached v_thrown v_taped v_lookedSize v_fileSize v_directorySize v_outSize v_rowSize v_bitAt v_bitEnd v_why v_madeSize v_firstCount v_secondCount hb_ hc_ ps_ v_at v_bad v_markSize v_relationCount v_valueSize v_faultCount g_ mo_ (by first | omega | assumption | decide) (by first | omega | assumption | decide) (by first | omega | assumption | decide) (by first | omega | assumption | decide) (by first | omega | assumption | decide) F_g_) rfl rfl [0, 1] [2] (by decide) rfl rfl rfl (by decide) (by decide) k_1404 rfl k_128 k_1401 k_1403 k_65 (by decide +kernel) (by decide) rfl rfl (Nat.le_of_ble_eq_true rfl) (by decide) (fun v9 u44 ch43 => ?_)
                obtain ⟨hb_45, hc_46, ps_47, g_48⟩ := u44
                obtain ⟨ech43, ch43⟩ := ch43
                have ech43 : v9 = none := ech43
                subst ech43
                obtain ⟨fh49, fh50, fh51, fh52, fh53, fh54⟩ : (0 ≤ hc_46.toInt) ∧ (hc_46.toInt < 8) ∧ (0 ≤ ps_47.toInt) ∧ (8 * ps_47.toInt + hc_46.toInt ≤ (8 * ps_.toInt + hc_.toInt) + 14) ∧ ((8 * ps_.toInt + hc_.toInt) ≤ 8 * ps_47.toInt + hc_46.toInt) ∧ (sb_Fit g_48) := ch43
                refine pb_eq (pc' := 147) (lo' := [(6, .int mo_), (7, .int wh), (8, .int i), (4, .int k), (5, .int e), (0, .ref h), (1, .ref a), (2, .int x), (3, .int n)]) (rest' := []) (ws' := [(a, .inl (G.2.1, Na, .inl f)), (h, .inr (10, [.ref m_rels, .ref m_openRels, .ref m_closeRels, .ref m_openRel, .ref m_closeRel, .ref m_comment, .ref m_ends, .ref m_order, .int v_thrown, .int v_taped, .ref m_tape, .ref m_count, .ref m_nameSize, .ref m_names, .ref m_size, .ref m_data, .int v_lookedSize, .ref m_looked, .int v_fileSize, .ref m_file, .int v_directorySize, .ref m_directory, .int v_outSize, .ref m_out, .int v_rowSize, .ref m_row, .int v_bitAt, .int v_bitEnd, .int v_why, .int v_madeSize, .ref m_made, .ref m_length, .int v_firstCount, .int v_secondCount, .int hb_45, .int hc_46, .int ps_47, .ref m_pressed, .int v_at, .int v_bad, .int v_markSize, .ref m_mark, .int v_relationCount, .ref m_idSize, .ref m_ids, .ref m_goalSize, .ref m_goals, .int v_valueSize, .ref m_value, .int v_faultCount, .ref m_faults, .ref m_reached])), (m_pressed, .inl (G.2.1, 5000, .inl g_48))]) ?_
                refine pb_aload_n (pc := 147) d_Mod_pressRow_147 5 rfl rfl ?_
                refine pb_iload (pc := 148) d_Mod_pressRow_148 3 rfl ?_
                refine pb_iload (pc := 150) d_Mod_pressRow_150 1 rfl ?_
                refine pb_isub (pc := 152) d_Mod_pressRow_152 ?_
                refine pb_topi (fun i55 ei55 => ?_)
                try have ti55 : i55.toInt = k.toInt - wh.toInt := t2_sub ei55 rfl rfl (by omega)
                refine pb_callV (pc := 153) (qb := 1) (ci := 10) (nA := 1) (rest := []) (wr := [(a, .inl (G.2.1, Na, .inl f))]) d_Mod_pressRow_153 (g_Mod_putDistance hl G h m_rels m_openRels m_closeRels m_openRel m_closeRel m_comment m_ends m_order m_tape m_count m_nameSize m_names m_size m_data m_looked m_file m_directory m_out m_row m_made m_length m_pressed m_mark m_idSize m_ids m_goalSize m_goals m_value m_faults m_reached v_thrown v_taped v_lookedSize v_fileSize v_directorySize v_outSize v_rowSize v_bitAt v_bitEnd v_why v_madeSize v_firstCount v_secondCount hb_45 hc_46 ps_47 v_at v_bad v_markSize v_relationCount v_valueSize v_faultCount g_48 i55 (by first | omega | assumption | decide) (by first | omega | assumption | decide) (by first | omega | assumption | decide) (by first | omega | assumption | decide) (by first | omega | assumption | decide) (by first | omega | assumption | decide) fh54) rfl rfl [1, 2] [0] (by decide) rfl rfl rfl (by decide) (by decide) k_1411 rfl k_128 k_1408 k_1410 k_66 (by decide +kernel) (by decide) rfl rfl (Nat.le_of_ble_eq_true rfl) (by decide) (fun v9 u57 ch56 => ?_)
                obtain ⟨hb_58, hc_59, ps_60, g_61⟩ := u57
                obtain ⟨ech56, ch56⟩ := ch56
                have ech56 : v9 = none := ech56
                subst ech56
                obtain ⟨fh62, fh63, fh64, fh65, fh66, fh67⟩ : (0 ≤ hc_59.toInt) ∧ (hc_59.toInt < 8) ∧ (0 ≤ ps_60.toInt) ∧ (8 * ps_60.toInt + hc_59.toInt ≤ (8 * ps_47.toInt + hc_46.toInt) + 15) ∧ ((8 * ps_47.toInt + hc_46.toInt) ≤ 8 * ps_60.toInt + hc_59.toInt) ∧ (sb_Fit g_61) := ch56
                refine pb_eq (pc' := 156) (lo' := [(6, .int mo_), (7, .int wh), (8, .int i), (4, .int k), (5, .int e), (0, .ref h), (1, .ref a), (2, .int x), (3, .int n)]) (rest' := []) (ws' := [(a, .inl (G.2.1, Na, .inl f)), (h, .inr (10, [.ref m_rels, .ref m_openRels, .ref m_closeRels, .ref m_openRel, .ref m_closeRel, .ref m_comment, .ref m_ends, .ref m_order, .int v_thrown, .int v_taped, .ref m_tape, .ref m_count, .ref m_nameSize, .ref m_names, .ref m_size, .ref m_data, .int v_lookedSize, .ref m_looked, .int v_fileSize, .ref m_file, .int v_directorySize, .ref m_directory, .int v_outSize, .ref m_out, .int v_rowSize, .ref m_row, .int v_bitAt, .int v_bitEnd, .int v_why, .int v_madeSize, .ref m_made, .ref m_length, .int v_firstCount, .int v_secondCount, .int hb_58, .int hc_59, .int ps_60, .ref m_pressed, .int v_at, .int v_bad, .int v_markSize, .ref m_mark, .int v_relationCount, .ref m_idSize, .ref m_ids, .ref m_goalSize, .ref m_goals, .int v_valueSize, .ref m_value, .int v_faultCount, .ref m_faults, .ref m_reached])), (m_pressed, .inl (G.2.1, 5000, .inl g_61))]) ?_
                refine pb_iload (pc := 156) d_Mod_pressRow_156 3 rfl ?_
                refine pb_iload (pc := 158) d_Mod_pressRow_158 0 rfl ?_
                refine pb_iadd (pc := 160) d_Mod_pressRow_160 ?_
                refine pb_topi (fun i68 ei68 => ?_)
                try have ti68 : i68.toInt = k.toInt + mo_.toInt := t2_add ei68 rfl rfl (by omega)
                refine pb_istore (pc := 161) (lo' := [(4, .int i68), (6, .int mo_), (7, .int wh), (8, .int i), (5, .int e), (0, .ref h), (1, .ref a), (2, .int x), (3, .int n)]) d_Mod_pressRow_161 (by decide) rfl ?_
                refine pb_goto (pc := 163) (tgt := 29) d_Mod_pressRow_163 (by decide) ?_
                refine pb_re (ws' := [(h, .inr (10, [.ref m_rels, .ref m_openRels, .ref m_closeRels, .ref m_openRel, .ref m_closeRel, .ref m_comment, .ref m_ends, .ref m_order, .int v_thrown, .int v_taped, .ref m_tape, .ref m_count, .ref m_nameSize, .ref m_names, .ref m_size, .ref m_data, .int v_lookedSize, .ref m_looked, .int v_fileSize, .ref m_file, .int v_directorySize, .ref m_directory, .int v_outSize, .ref m_out, .int v_rowSize, .ref m_row, .int v_bitAt, .int v_bitEnd, .int v_why, .int v_madeSize, .ref m_made, .ref m_length, .int v_firstCount, .int v_secondCount, .int hb_58, .int hc_59, .int ps_60, .ref m_pressed, .int v_at, .int v_bad, .int v_markSize, .ref m_mark, .int v_relationCount, .ref m_idSize, .ref m_ids, .ref m_goalSize, .ref m_goals, .int v_valueSize, .ref m_value, .int v_faultCount, .ref m_faults, .ref m_reached])), (m_pressed, .inl (G.2.1, 5000, .inl g_61)), (a, .inl (G.2.1, Na, .inl f))]) (lo' := [(4, .int i68), (5, .int e), (0, .ref h), (1, .ref a), (2, .int x), (3, .int n)]) [1, 2, 0] [0, 4, 5, 6, 7, 8] (by decide) rfl rfl rfl ?_
                exact ih29 i68 e hb_58 hc_59 ps_60 g_61 fh67 (by first | omega | assumption | decide) (by first | omega | assumption | decide) (by first | omega | assumption | decide) (by first | omega | assumption | decide) (by first | omega | assumption | decide) (by first | omega | assumption | decide) (by first | omega | assumption | decide) (by omega)
              · have tw42 : ¬ 3 ≤ mo_.toInt := fun z9 => w42 ((ti_le (by decide) rfl).mpr z9)
                refine pb_aload_n (pc := 123) d_Mod_pressRow_123 5 rfl rfl ?_
                refine pb_aload_n (pc := 124) d_Mod_pressRow_124 6 rfl rfl ?_
                refine pb_iload (pc := 125) d_Mod_pressRow_125 3 rfl ?_
                refine pb_bald (pc := 127) d_Mod_pressRow_127 2 rfl (vp_in_iff.mpr (by omega)) ?_
                refine pb_topi (fun i69 ei69 => ?_)
                have ti69 : -128 ≤ i69.toInt ∧ i69.toInt ≤ 127 := ti_fit (F_f _) ei69
                refine pb_sipush (pc := 128) (v := 255) d_Mod_pressRow_128 (by decide) ?_
                refine pb_iand (pc := 131) d_Mod_pressRow_131 ?_
                refine pb_topi (fun i70 ei70 => ?_)
                have ti70 : 0 ≤ i70.toInt ∧ i70.toInt ≤ 255 := ti_and 8 ei70 (by decide) (by decide)
                refine pb_callV (pc := 132) (qb := 0) (ci := 10) (nA := 1) (rest := []) (wr := [(a, .inl (G.2.1, Na, .inl f))]) d_Mod_pressRow_132 (g_Mod_putSymbol hl G h m_rels m_openRels m_closeRels m_openRel m_closeRel m_comment m_ends m_order m_tape m_count m_nameSize m_names m_size m_data m_looked m_file m_directory m_out m_row m_made m_length m_pressed m_mark m_idSize m_ids m_goalSize m_goals m_value m_faults m_reached v_thrown v_taped v_lookedSize v_fileSize v_directorySize v_outSize v_rowSize v_bitAt v_bitEnd v_why v_madeSize v_firstCount v_secondCount hb_ hc_ ps_ v_at v_bad v_markSize v_relationCount v_valueSize v_faultCount g_ i70 (by first | omega | assumption | decide) (by first | omega | assumption | decide) (by first | omega | assumption | decide) (by first | omega | assumption | decide) F_g_) rfl rfl [0, 1] [2] (by decide) rfl rfl rfl (by decide) (by decide) k_1396 rfl k_128 k_1393 k_1395 k_63 (by decide +kernel) (by decide) rfl rfl (Nat.le_of_ble_eq_true rfl) (by decide) (fun v9 u72 ch71 => ?_)
                obtain ⟨hb_73, hc_74, ps_75, g_76⟩ := u72
                obtain ⟨ech71, ch71⟩ := ch71
                have ech71 : v9 = none := ech71
                subst ech71
                obtain ⟨fh77, fh78, fh79, fh80, fh81, fh82⟩ : (0 ≤ hc_74.toInt) ∧ (hc_74.toInt < 8) ∧ (0 ≤ ps_75.toInt) ∧ (8 * ps_75.toInt + hc_74.toInt ≤ (8 * ps_.toInt + hc_.toInt) + 9) ∧ ((8 * ps_.toInt + hc_.toInt) ≤ 8 * ps_75.toInt + hc_74.toInt) ∧ (sb_Fit g_76) := ch71
                refine pb_eq (pc' := 135) (lo' := [(6, .int mo_), (7, .int wh), (8, .int i), (4, .int k), (5, .int e), (0, .ref h), (1, .ref a), (2, .int x), (3, .int n)]) (rest' := []) (ws' := [(a, .inl (G.2.1, Na, .inl f)), (h, .inr (10, [.ref m_rels, .ref m_openRels, .ref m_closeRels, .ref m_openRel, .ref m_closeRel, .ref m_comment, .ref m_ends, .ref m_order, .int v_thrown, .int v_taped, .ref m_tape, .ref m_count, .ref m_nameSize, .ref m_names, .ref m_size, .ref m_data, .int v_lookedSize, .ref m_looked, .int v_fileSize, .ref m_file, .int v_directorySize, .ref m_directory, .int v_outSize, .ref m_out, .int v_rowSize, .ref m_row, .int v_bitAt, .int v_bitEnd, .int v_why, .int v_madeSize, .ref m_made, .ref m_length, .int v_firstCount, .int v_secondCount, .int hb_73, .int hc_74, .int ps_75, .ref m_pressed, .int v_at, .int v_bad, .int v_markSize, .ref m_mark, .int v_relationCount, .ref m_idSize, .ref m_ids, .ref m_goalSize, .ref m_goals, .int v_valueSize, .ref m_value, .int v_faultCount, .ref m_faults, .ref m_reached])), (m_pressed, .inl (G.2.1, 5000, .inl g_76))]) ?_
                refine pb_iincN (pc := 135) (c := 1) d_Mod_pressRow_135 3 rfl (by decide) (by decide) (fun i83 ei83 => ?_)
                have ti83 : i83.toInt = k.toInt + 1 := t2_add ei83 rfl (by decide) (by first | omega | (have r90 := ti_rng k; have r91 := ti_rng i83; have r92 := ti_rng mo_; have r93 := ti_rng wh; have r94 := ti_rng i; have r95 := ti_rng e; have r96 := ti_rng x; have r97 := ti_rng n; omega))
                refine pb_eq (pc' := 138) (lo' := [(4, .int i83), (6, .int mo_), (7, .int wh), (8, .int i), (5, .int e), (0, .ref h), (1, .ref a), (2, .int x), (3, .int n)]) (rest' := []) (ws' := [(a, .inl (G.2.1, Na, .inl f)), (h, .inr (10, [.ref m_rels, .ref m_openRels, .ref m_closeRels, .ref m_openRel, .ref m_closeRel, .ref m_comment, .ref m_ends, .ref m_order, .int v_thrown, .int v_taped, .ref m_tape, .ref m_count, .ref m_nameSize, .ref m_names, .ref m_size, .ref m_data, .int v_lookedSize, .ref m_looked, .int v_fileSize, .ref m_file, .int v_directorySize, .ref m_directory, .int v_outSize, .ref m_out, .int v_rowSize, .ref m_row, .int v_bitAt, .int v_bitEnd, .int v_why, .int v_madeSize, .ref m_made, .ref m_length, .int v_firstCount, .int v_secondCount, .int hb_73, .int hc_74, .int ps_75, .ref m_pressed, .int v_at, .int v_bad, .int v_markSize, .ref m_mark, .int v_relationCount, .ref m_idSize, .ref m_ids, .ref m_goalSize, .ref m_goals, .int v_valueSize, .ref m_value, .int v_faultCount, .ref m_faults, .ref m_reached])), (m_pressed, .inl (G.2.1, 5000, .inl g_76))]) ?_
                refine pb_goto (pc := 138) (tgt := 163) d_Mod_pressRow_138 (by decide) ?_
                refine pb_goto (pc := 163) (tgt := 29) d_Mod_pressRow_163 (by decide) ?_
                refine pb_re (ws' := [(h, .inr (10, [.ref m_rels, .ref m_openRels, .ref m_closeRels, .ref m_openRel, .ref m_closeRel, .ref m_comment, .ref m_ends, .ref m_order, .int v_thrown, .int v_taped, .ref m_tape, .ref m_count, .ref m_nameSize, .ref m_names, .ref m_size, .ref m_data, .int v_lookedSize, .ref m_looked, .int v_fileSize, .ref m_file, .int v_directorySize, .ref m_directory, .int v_outSize, .ref m_out, .int v_rowSize, .ref m_row, .int v_bitAt, .int v_bitEnd, .int v_why, .int v_madeSize, .ref m_made, .ref m_length, .int v_firstCount, .int v_secondCount, .int hb_73, .int hc_74, .int ps_75, .ref m_pressed, .int v_at, .int v_bad, .int v_markSize, .ref m_mark, .int v_relationCount, .ref m_idSize, .ref m_ids, .ref m_goalSize, .ref m_goals, .int v_valueSize, .ref m_value, .int v_faultCount, .ref m_faults, .ref m_reached])), (m_pressed, .inl (G.2.1, 5000, .inl g_76)), (a, .inl (G.2.1, Na, .inl f))]) (lo' := [(4, .int i83), (5, .int e), (0, .ref h), (1, .ref a), (2, .int x), (3, .int n)]) [1, 2, 0] [0, 4, 5, 6, 7, 8] (by decide) rfl rfl rfl ?_
                exact ih29 i83 e hb_73 hc_74 ps_75 g_76 fh82 (by first | omega | assumption | decide) (by first | omega | assumption | decide) (by first | omega | assumption | decide) (by first | omega | assumption | decide) (by first | omega | assumption | decide) (by first | omega | assumption | decide) (by first | omega | assumption | decide) (by omega)
            · have tw41 : ¬ k.toInt ≤ i.toInt := fun z9 => w41 ((ti_le rfl rfl).mpr z9)
              have hJ79_84 : ∀ (m : Int32), (0 ≤ m.toInt) → (k.toInt + m.toInt ≤ e.toInt) → pb_P l G M i_Mod_pressRow 79 [(9, .int m), (6, .int mo_), (7, .int wh), (8, .int i), (4, .int k), (5, .int e), (0, .ref h), (1, .ref a), (2, .int x), (3, .int n)] [] [(h, .inr (10, [.ref m_rels, .ref m_openRels, .ref m_closeRels, .ref m_openRel, .ref m_closeRel, .ref m_comment, .ref m_ends, .ref m_order, .int v_thrown, .int v_taped, .ref m_tape, .ref m_count, .ref m_nameSize, .ref m_names, .ref m_size, .ref m_data, .int v_lookedSize, .ref m_looked, .int v_fileSize, .ref m_file, .int v_directorySize, .ref m_directory, .int v_outSize, .ref m_out, .int v_rowSize, .ref m_row, .int v_bitAt, .int v_bitEnd, .int v_why, .int v_madeSize, .ref m_made, .ref m_length, .int v_firstCount, .int v_secondCount, .int hb_, .int hc_, .int ps_, .ref m_pressed, .int v_at, .int v_bad, .int v_markSize, .ref m_mark, .int v_relationCount, .ref m_idSize, .ref m_ids, .ref m_goalSize, .ref m_goals, .int v_valueSize, .ref m_value, .int v_faultCount, .ref m_faults, .ref m_reached])), (m_pressed, .inl (G.2.1, 5000, .inl g_)), (a, .inl (G.2.1, Na, .inl f))] 0 0 := by
                intro m j0 j1
                have hJ95_85 : ∀ (wh2 : Int32), (mo_.toInt ≤ m.toInt → wh2.toInt = i.toInt) → (m.toInt < mo_.toInt → wh2.toInt = wh.toInt) → pb_P l G M i_Mod_pressRow 95 [(9, .int m), (6, .int mo_), (7, .int wh2), (8, .int i), (4, .int k), (5, .int e), (0, .ref h), (1, .ref a), (2, .int x), (3, .int n)] [] [(h, .inr (10, [.ref m_rels, .ref m_openRels, .ref m_closeRels, .ref m_openRel, .ref m_closeRel, .ref m_comment, .ref m_ends, .ref m_order, .int v_thrown, .int v_taped, .ref m_tape, .ref m_count, .ref m_nameSize, .ref m_names, .ref m_size, .ref m_data, .int v_lookedSize, .ref m_looked, .int v_fileSize, .ref m_file, .int v_directorySize, .ref m_directory, .int v_outSize, .ref m_out, .int v_rowSize, .ref m_row, .int v_bitAt, .int v_bitEnd, .int v_why, .int v_madeSize, .ref m_made, .ref m_length, .int v_firstCount, .int v_secondCount, .int hb_, .int hc_, .int ps_, .ref m_pressed, .int v_at, .int v_bad, .int v_markSize, .ref m_mark, .int v_relationCount, .ref m_idSize, .ref m_ids, .ref m_goalSize, .ref m_goals, .int v_valueSize, .ref m_value, .int v_faultCount, .ref m_faults, .ref m_reached])), (m_pressed, .inl (G.2.1, 5000, .inl g_)), (a, .inl (G.2.1, Na, .inl f))] 0 0 := by
                  intro wh2 l0 l1
                  refine pb_iload (pc := 95) d_Mod_pressRow_95 0 rfl ?_
                  refine pb_iload (pc := 97) d_Mod_pressRow_97 1 rfl ?_
                  refine pb_icmp_le (pc := 99) (tgt := 107) d_Mod_pressRow_99 (by decide) (fun w86 => ?_) (fun w86 => ?_)
                  · have tw86 : m.toInt ≤ mo_.toInt := (ti_le rfl rfl).mp w86
                    refine pb_iload (pc := 107) d_Mod_pressRow_107 1 rfl ?_
                    refine pb_istore (pc := 109) (lo' := [(6, .int mo_), (9, .int m), (7, .int wh2), (8, .int i), (4, .int k), (5, .int e), (0, .ref h), (1, .ref a), (2, .int x), (3, .int n)]) d_Mod_pressRow_109 (by decide) rfl ?_
                    refine pb_iincN (pc := 111) (c := 1) d_Mod_pressRow_111 3 rfl (by decide) (by decide) (fun i87 ei87 => ?_)
                    have ti87 : i87.toInt = i.toInt + 1 := t2_add ei87 rfl (by decide) (by first | omega | (have r90 := ti_rng i; have r91 := ti_rng i87; have r92 := ti_rng mo_; have r93 := ti_rng m; have r94 := ti_rng wh2; have r95 := ti_rng k; have r96 := ti_rng e; have r97 := ti_rng x; have r98 := ti_rng n; omega))
                    refine pb_eq (pc' := 114) (lo' := [(8, .int i87), (6, .int mo_), (9, .int m), (7, .int wh2), (4, .int k), (5, .int e), (0, .ref h), (1, .ref a), (2, .int x), (3, .int n)]) (rest' := []) (ws' := [(h, .inr (10, [.ref m_rels, .ref m_openRels, .ref m_closeRels, .ref m_openRel, .ref m_closeRel, .ref m_comment, .ref m_ends, .ref m_order, .int v_thrown, .int v_taped, .ref m_tape, .ref m_count, .ref m_nameSize, .ref m_names, .ref m_size, .ref m_data, .int v_lookedSize, .ref m_looked, .int v_fileSize, .ref m_file, .int v_directorySize, .ref m_directory, .int v_outSize, .ref m_out, .int v_rowSize, .ref m_row, .int v_bitAt, .int v_bitEnd, .int v_why, .int v_madeSize, .ref m_made, .ref m_length, .int v_firstCount, .int v_secondCount, .int hb_, .int hc_, .int ps_, .ref m_pressed, .int v_at, .int v_bad, .int v_markSize, .ref m_mark, .int v_relationCount, .ref m_idSize, .ref m_ids, .ref m_goalSize, .ref m_goals, .int v_valueSize, .ref m_value, .int v_faultCount, .ref m_faults, .ref m_reached])), (m_pressed, .inl (G.2.1, 5000, .inl g_)), (a, .inl (G.2.1, Na, .inl f))]) ?_
                    refine pb_goto (pc := 114) (tgt := 45) d_Mod_pressRow_114 (by decide) ?_
                    refine pb_re (ws' := [(h, .inr (10, [.ref m_rels, .ref m_openRels, .ref m_closeRels, .ref m_openRel, .ref m_closeRel, .ref m_comment, .ref m_ends, .ref m_order, .int v_thrown, .int v_taped, .ref m_tape, .ref m_count, .ref m_nameSize, .ref m_names, .ref m_size, .ref m_data, .int v_lookedSize, .ref m_looked, .int v_fileSize, .ref m_file, .int v_directorySize, .ref m_directory, .int v_outSize, .ref m_out, .int v_rowSize, .ref m_row, .int v_bitAt, .int v_bitEnd, .int v_why, .int v_madeSize, .ref m_made, .ref m_length, .int v_firstCount, .int v_secondCount, .int hb_, .int hc_, .int ps_, .ref m_pressed, .int v_at, .int v_bad, .int v_markSize, .ref m_mark, .int v_relationCount, .ref m_idSize, .ref m_ids, .ref m_goalSize, .ref m_goals, .int v_valueSize, .ref m_value, .int v_faultCount, .ref m_faults, .ref m_reached])), (m_pressed, .inl (G.2.1, 5000, .inl g_)), (a, .inl (G.2.1, Na, .inl f))]) (lo' := [(6, .int mo_), (7, .int wh2), (8, .int i87), (4, .int k), (5, .int e), (0, .ref h), (1, .ref a), (2, .int x), (3, .int n)]) [0, 1, 2] [1, 3, 0, 4, 5, 6, 7, 8, 9] (by decide) rfl rfl rfl ?_
                    exact ih45 mo_ wh2 i87 (by first | omega | assumption | decide) (by first | omega | assumption | decide) (by first | omega | assumption | decide) (by first | omega | assumption | decide) (by first | omega | assumption | decide) (by omega)
                  · have tw86 : ¬ m.toInt ≤ mo_.toInt := fun z9 => w86 ((ti_le rfl rfl).mpr z9)
                    refine pb_iload (pc := 102) d_Mod_pressRow_102 0 rfl ?_
                    refine pb_goto (pc := 104) (tgt := 109) d_Mod_pressRow_104 (by decide) ?_
                    refine pb_istore (pc := 109) (lo' := [(6, .int m), (9, .int m), (7, .int wh2), (8, .int i), (4, .int k), (5, .int e), (0, .ref h), (1, .ref a), (2, .int x), (3, .int n)]) d_Mod_pressRow_109 (by decide) rfl ?_
                    refine pb_iincN (pc := 111) (c := 1) d_Mod_pressRow_111 3 rfl (by decide) (by decide) (fun i88 ei88 => ?_)
                    have ti88 : i88.toInt = i.toInt + 1 := t2_add ei88 rfl (by decide) (by first | omega | (have r90 := ti_rng i; have r91 := ti_rng i88; have r92 := ti_rng m; have r93 := ti_rng wh2; have r94 := ti_rng k; have r95 := ti_rng e; have r96 := ti_rng x; have r97 := ti_rng n; omega))
                    refine pb_eq (pc' := 114) (lo' := [(8, .int i88), (6, .int m), (9, .int m), (7, .int wh2), (4, .int k), (5, .int e), (0, .ref h), (1, .ref a), (2, .int x), (3, .int n)]) (rest' := []) (ws' := [(h, .inr (10, [.ref m_rels, .ref m_openRels, .ref m_closeRels, .ref m_openRel, .ref m_closeRel, .ref m_comment, .ref m_ends, .ref m_order, .int v_thrown, .int v_taped, .ref m_tape, .ref m_count, .ref m_nameSize, .ref m_names, .ref m_size, .ref m_data, .int v_lookedSize, .ref m_looked, .int v_fileSize, .ref m_file, .int v_directorySize, .ref m_directory, .int v_outSize, .ref m_out, .int v_rowSize, .ref m_row, .int v_bitAt, .int v_bitEnd, .int v_why, .int v_madeSize, .ref m_made, .ref m_length, .int v_firstCount, .int v_secondCount, .int hb_, .int hc_, .int ps_, .ref m_pressed, .int v_at, .int v_bad, .int v_markSize, .ref m_mark, .int v_relationCount, .ref m_idSize, .ref m_ids, .ref m_goalSize, .ref m_goals, .int v_valueSize, .ref m_value, .int v_faultCount, .ref m_faults, .ref m_reached])), (m_pressed, .inl (G.2.1, 5000, .inl g_)), (a, .inl (G.2.1, Na, .inl f))]) ?_
                    refine pb_goto (pc := 114) (tgt := 45) d_Mod_pressRow_114 (by decide) ?_
                    refine pb_re (ws' := [(h, .inr (10, [.ref m_rels, .ref m_openRels, .ref m_closeRels, .ref m_openRel, .ref m_closeRel, .ref m_comment, .ref m_ends, .ref m_order, .int v_thrown, .int v_taped, .ref m_tape, .ref m_count, .ref m_nameSize, .ref m_names, .ref m_size, .ref m_data, .int v_lookedSize, .ref m_looked, .int v_fileSize, .ref m_file, .int v_directorySize, .ref m_directory, .int v_outSize, .ref m_out, .int v_rowSize, .ref m_row, .int v_bitAt, .int v_bitEnd, .int v_why, .int v_madeSize, .ref m_made, .ref m_length, .int v_firstCount, .int v_secondCount, .int hb_, .int hc_, .int ps_, .ref m_pressed, .int v_at, .int v_bad, .int v_markSize, .ref m_mark, .int v_relationCount, .ref m_idSize, .ref m_ids, .ref m_goalSize, .ref m_goals, .int v_valueSize, .ref m_value, .int v_faultCount, .ref m_faults, .ref m_reached])), (m_pressed, .inl (G.2.1, 5000, .inl g_)), (a, .inl (G.2.1, Na, .inl f))]) (lo' := [(6, .int m), (7, .int wh2), (8, .int i88), (4, .int k), (5, .int e), (0, .ref h), (1, .ref a), (2, .int x), (3, .int n)]) [0, 1, 2] [1, 3, 0, 4, 5, 6, 7, 8, 9] (by decide) rfl rfl rfl ?_
                    exact ih45 m wh2 i88 (by first | omega | assumption | decide) (by first | omega | assumption | decide) (by first | omega | assumption | decide) (by first | omega | assumption | decide) (by first | omega | assumption | decide) (by omega)
                refine pb_iload (pc := 79) d_Mod_pressRow_79 0 rfl ?_
                refine pb_iload (pc := 81) d_Mod_pressRow_81 1 rfl ?_
                refine pb_icmp_lt (pc := 83) (tgt := 91) d_Mod_pressRow_83 (by decide) (fun w89 => ?_) (fun w89 => ?_)
                · have tw89 : m.toInt < mo_.toInt := (ti_lt rfl rfl).mp w89
                  refine pb_iload (pc := 91) d_Mod_pressRow_91 2 rfl ?_
                  refine pb_istore (pc := 93) (lo' := [(7, .int wh), (9, .int m), (6, .int mo_), (8, .int i), (4, .int k), (5, .int e), (0, .ref h), (1, .ref a), (2, .int x), (3, .int n)]) d_Mod_pressRow_93 (by decide) rfl ?_
                  refine pb_re (ws' := [(h, .inr (10, [.ref m_rels, .ref m_openRels, .ref m_closeRels, .ref m_openRel, .ref m_closeRel, .ref m_comment, .ref m_ends, .ref m_order, .int v_thrown, .int v_taped, .ref m_tape, .ref m_count, .ref m_nameSize, .ref m_names, .ref m_size, .ref m_data, .int v_lookedSize, .ref m_looked, .int v_fileSize, .ref m_file, .int v_directorySize, .ref m_directory, .int v_outSize, .ref m_out, .int v_rowSize, .ref m_row, .int v_bitAt, .int v_bitEnd, .int v_why, .int v_madeSize, .ref m_made, .ref m_length, .int v_firstCount, .int v_secondCount, .int hb_, .int hc_, .int ps_, .ref m_pressed, .int v_at, .int v_bad, .int v_markSize, .ref m_mark, .int v_relationCount, .ref m_idSize, .ref m_ids, .ref m_goalSize, .ref m_goals, .int v_valueSize, .ref m_value, .int v_faultCount, .ref m_faults, .ref m_reached])), (m_pressed, .inl (G.2.1, 5000, .inl g_)), (a, .inl (G.2.1, Na, .inl f))]) (lo' := [(9, .int m), (6, .int mo_), (7, .int wh), (8, .int i), (4, .int k), (5, .int e), (0, .ref h), (1, .ref a), (2, .int x), (3, .int n)]) [0, 1, 2] [1, 2, 0, 3, 4, 5, 6, 7, 8, 9] (by decide) rfl rfl rfl ?_
                  exact hJ95_85 wh (by first | omega | assumption | decide) (by first | omega | assumption | decide)
                · have tw89 : ¬ m.toInt < mo_.toInt := fun z9 => w89 ((ti_lt rfl rfl).mpr z9)
                  refine pb_iload (pc := 86) d_Mod_pressRow_86 3 rfl ?_
                  refine pb_goto (pc := 88) (tgt := 93) d_Mod_pressRow_88 (by decide) ?_
                  refine pb_istore (pc := 93) (lo' := [(7, .int i), (9, .int m), (6, .int mo_), (8, .int i), (4, .int k), (5, .int e), (0, .ref h), (1, .ref a), (2, .int x), (3, .int n)]) d_Mod_pressRow_93 (by decide) rfl ?_
                  refine pb_re (ws' := [(h, .inr (10, [.ref m_rels, .ref m_openRels, .ref m_closeRels, .ref m_openRel, .ref m_closeRel, .ref m_comment, .ref m_ends, .ref m_order, .int v_thrown, .int v_taped, .ref m_tape, .ref m_count, .ref m_nameSize, .ref m_names, .ref m_size, .ref m_data, .int v_lookedSize, .ref m_looked, .int v_fileSize, .ref m_file, .int v_directorySize, .ref m_directory, .int v_outSize, .ref m_out, .int v_rowSize, .ref m_row, .int v_bitAt, .int v_bitEnd, .int v_why, .int v_madeSize, .ref m_made, .ref m_length, .int v_firstCount, .int v_secondCount, .int hb_, .int hc_, .int ps_, .ref m_pressed, .int v_at, .int v_bad, .int v_markSize, .ref m_mark, .int v_relationCount, .ref m_idSize, .ref m_ids, .ref m_goalSize, .ref m_goals, .int v_valueSize, .ref m_value, .int v_faultCount, .ref m_faults, .ref m_reached])), (m_pressed, .inl (G.2.1, 5000, .inl g_)), (a, .inl (G.2.1, Na, .inl f))]) (lo' := [(9, .int m), (6, .int mo_), (7, .int i), (8, .int i), (4, .int k), (5, .int e), (0, .ref h), (1, .ref a), (2, .int x), (3, .int n)]) [0, 1, 2] [1, 2, 0, 3, 4, 5, 6, 7, 8, 9] (by decide) rfl rfl rfl ?_
                  exact hJ95_85 i (by first | omega | assumption | decide) (by first | omega | assumption | decide)
              refine pb_aload_n (pc := 52) d_Mod_pressRow_52 6 rfl rfl ?_
              refine pb_iload (pc := 53) d_Mod_pressRow_53 2 rfl ?_
              refine pb_bald (pc := 55) d_Mod_pressRow_55 2 rfl (vp_in_iff.mpr (by omega)) ?_
              refine pb_topi (fun i90 ei90 => ?_)
              have ti90 : -128 ≤ i90.toInt ∧ i90.toInt ≤ 127 := ti_fit (F_f _) ei90
              refine pb_aload_n (pc := 56) d_Mod_pressRow_56 6 rfl rfl ?_
              refine pb_iload (pc := 57) d_Mod_pressRow_57 3 rfl ?_
              refine pb_bald (pc := 59) d_Mod_pressRow_59 2 rfl (vp_in_iff.mpr (by omega)) ?_
              refine pb_topi (fun i91 ei91 => ?_)
              have ti91 : -128 ≤ i91.toInt ∧ i91.toInt ≤ 127 := ti_fit (F_f _) ei91
              refine pb_icmp_ne (pc := 60) (tgt := 76) d_Mod_pressRow_60 (by decide) (fun w92 => ?_) (fun w92 => ?_)
              · have tw92 : ¬ i90.toInt = i91.toInt := fun z9 => w92 ((ti_eq rfl rfl).mpr z9)
                refine pb_iconst (pc := 76) (v := 0) d_Mod_pressRow_76 (by decide) ?_
                refine pb_istore (pc := 77) (lo' := [(9, .int 0), (6, .int mo_), (7, .int wh), (8, .int i), (4, .int k), (5, .int e), (0, .ref h), (1, .ref a), (2, .int x), (3, .int n)]) d_Mod_pressRow_77 (by decide) rfl ?_
                exact hJ79_84 0 (by first | omega | assumption | decide) (by first | omega | assumption | decide)
              · have tw92 : i90.toInt = i91.toInt := (ti_eq rfl rfl).mp w92
                refine pb_aload_n (pc := 63) d_Mod_pressRow_63 6 rfl rfl ?_
                refine pb_iload (pc := 64) d_Mod_pressRow_64 2 rfl ?_
                refine pb_iload (pc := 66) d_Mod_pressRow_66 3 rfl ?_
                refine pb_iload (pc := 68) d_Mod_pressRow_68 4 rfl ?_
                refine pb_callS (pc := 70) (nA := 4) (rest := []) (wr := [(h, .inr (10, [.ref m_rels, .ref m_openRels, .ref m_closeRels, .ref m_openRel, .ref m_closeRel, .ref m_comment, .ref m_ends, .ref m_order, .int v_thrown, .int v_taped, .ref m_tape, .ref m_count, .ref m_nameSize, .ref m_names, .ref m_size, .ref m_data, .int v_lookedSize, .ref m_looked, .int v_fileSize, .ref m_file, .int v_directorySize, .ref m_directory, .int v_outSize, .ref m_out, .int v_rowSize, .ref m_row, .int v_bitAt, .int v_bitEnd, .int v_why, .int v_madeSize, .ref m_made, .ref m_length, .int v_firstCount, .int v_secondCount, .int hb_, .int hc_, .int ps_, .ref m_pressed, .int v_at, .int v_bad, .int v_markSize, .ref m_mark, .int v_relationCount, .ref m_idSize, .ref m_ids, .ref m_goalSize, .ref m_goals, .int v_valueSize, .ref m_value, .int v_faultCount, .ref m_faults, .ref m_reached])), (m_pressed, .inl (G.2.1, 5000, .inl g_))]) d_Mod_pressRow_70 (g_Mod_same hl G a Na f i k e (by first | omega | assumption | decide) (by first | omega | assumption | decide) (by first | omega | assumption | decide) (by first | omega | assumption | decide) (by first | omega | assumption | decide) F_f) [2] [0, 1] (by decide) rfl rfl rfl (by decide) (by decide) k_1392 rfl k_128 k_1390 k_1391 (by decide +kernel) (by decide) rfl rfl (Nat.le_of_ble_eq_true rfl) (by decide) (fun v9 u94 ch93 => ?_)
                obtain ⟨r_95, rfl⟩ : ∃ z9, z9 = u94 := ⟨_, rfl⟩
                obtain ⟨ech93, ch93⟩ := ch93
                have ech93 : v9 = some (.int r_95) := ech93
                subst ech93
                obtain ⟨fh96, fh97, fh98⟩ : (0 ≤ r_95.toInt) ∧ (r_95.toInt ≤ 258) ∧ (k.toInt ≤ e.toInt → k.toInt + r_95.toInt ≤ e.toInt) := ch93
                refine pb_eq (pc' := 73) (lo' := [(6, .int mo_), (7, .int wh), (8, .int i), (4, .int k), (5, .int e), (0, .ref h), (1, .ref a), (2, .int x), (3, .int n)]) (rest' := [.int r_95]) (ws' := [(h, .inr (10, [.ref m_rels, .ref m_openRels, .ref m_closeRels, .ref m_openRel, .ref m_closeRel, .ref m_comment, .ref m_ends, .ref m_order, .int v_thrown, .int v_taped, .ref m_tape, .ref m_count, .ref m_nameSize, .ref m_names, .ref m_size, .ref m_data, .int v_lookedSize, .ref m_looked, .int v_fileSize, .ref m_file, .int v_directorySize, .ref m_directory, .int v_outSize, .ref m_out, .int v_rowSize, .ref m_row, .int v_bitAt, .int v_bitEnd, .int v_why, .int v_madeSize, .ref m_made, .ref m_length, .int v_firstCount, .int v_secondCount, .int hb_, .int hc_, .int ps_, .ref m_pressed, .int v_at, .int v_bad, .int v_markSize, .ref m_mark, .int v_relationCount, .ref m_idSize, .ref m_ids, .ref m_goalSize, .ref m_goals, .int v_valueSize, .ref m_value, .int v_faultCount, .ref m_faults, .ref m_reached])), (m_pressed, .inl (G.2.1, 5000, .inl g_)), (a, .inl (G.2.1, Na, .inl f))]) ?_
                refine pb_goto (pc := 73) (tgt := 77) d_Mod_pressRow_73 (by decide) ?_
                refine pb_istore (pc := 77) (lo' := [(9, .int r_95), (6, .int mo_), (7, .int wh), (8, .int i), (4, .int k), (5, .int e), (0, .ref h), (1, .ref a), (2, .int x), (3, .int n)]) d_Mod_pressRow_77 (by decide) rfl ?_
                exact hJ79_84 r_95 (by first | omega | assumption | decide) (by first | omega | assumption | decide)
        refine pb_re (ws' := [(h, .inr (10, [.ref m_rels, .ref m_openRels, .ref m_closeRels, .ref m_openRel, .ref m_closeRel, .ref m_comment, .ref m_ends, .ref m_order, .int v_thrown, .int v_taped, .ref m_tape, .ref m_count, .ref m_nameSize, .ref m_names, .ref m_size, .ref m_data, .int v_lookedSize, .ref m_looked, .int v_fileSize, .ref m_file, .int v_directorySize, .ref m_directory, .int v_outSize, .ref m_out, .int v_rowSize, .ref m_row, .int v_bitAt, .int v_bitEnd, .int v_why, .int v_madeSize, .ref m_made, .ref m_length, .int v_firstCount, .int v_secondCount, .int hb_, .int hc_, .int ps_, .ref m_pressed, .int v_at, .int v_bad, .int v_markSize, .ref m_mark, .int v_relationCount, .ref m_idSize, .ref m_ids, .ref m_goalSize, .ref m_goals, .int v_valueSize, .ref m_value, .int v_faultCount, .ref m_faults, .ref m_reached])), (m_pressed, .inl (G.2.1, 5000, .inl g_)), (a, .inl (G.2.1, Na, .inl f))]) (lo' := [(6, .int 0), (7, .int x), (8, .int x), (4, .int k), (5, .int e), (0, .ref h), (1, .ref a), (2, .int x), (3, .int n)]) [0, 1, 2] [2, 1, 0, 3, 4, 5, 6, 7, 8] (by decide) rfl rfl rfl ?_
        exact hL45_40 _ 0 x x (by first | omega | assumption | decide) (by first | omega | assumption | decide) (by first | omega | assumption | decide) (by first | omega | assumption | decide) (by first | omega | assumption | decide) (Nat.lt_succ_self _)
  refine pb_re (ws' := [(h, .inr (10, [.ref m_rels, .ref m_openRels, .ref m_closeRels, .ref m_openRel, .ref m_closeRel, .ref m_comment, .ref m_ends, .ref m_order, .int v_thrown, .int v_taped, .ref m_tape, .ref m_count, .ref m_nameSize, .ref m_names, .ref m_size, .ref m_data, .int v_lookedSize, .ref m_looked, .int v_fileSize, .ref m_file, .int v_directorySize, .ref m_directory, .int v_outSize, .ref m_out, .int v_rowSize, .ref m_row, .int v_bitAt, .int v_bitEnd, .int v_why, .int v_madeSize, .ref m_made, .ref m_length, .int v_firstCount, .int v_secondCount, .int hb_3, .int hc_4, .int ps_5, .ref m_pressed, .int v_at, .int v_bad, .int v_markSize, .ref m_mark, .int v_relationCount, .ref m_idSize, .ref m_ids, .ref m_goalSize, .ref m_goals, .int v_valueSize, .ref m_value, .int v_faultCount, .ref m_faults, .ref m_reached])), (m_pressed, .inl (G.2.1, 5000, .inl g_6)), (a, .inl (G.2.1, Na, .inl f))]) (lo' := [(4, .int x), (5, .int i12), (0, .ref h), (1, .ref a), (2, .int x), (3, .int n)]) [1, 2, 0] [1, 0, 2, 3, 4, 5] (by decide) rfl rfl rfl ?_
  exact hL29_13 _ x i12 hb_3 hc_4 ps_5 g_6 fh11 (by first | omega | assumption | decide) (by first | omega | assumption | decide) (by first | omega | assumption | decide) (by first | omega | assumption | decide) (by first | omega | assumption | decide) (by first | omega | assumption | decide) (by first | omega | assumption | decide) (Nat.lt_succ_self _)
