theorem d_Mod_tellFixed_0 : decode prog_12_method_39_code 0 = .ok (.iconst 0, 1) := by decide +kernel
theorem d_Mod_tellFixed_1 : decode prog_12_method_39_code 1 = .ok (.istore_n 1, 1) := by decide +kernel
theorem d_Mod_tellFixed_2 : decode prog_12_method_39_code 2 = .ok (.iload_n 1, 1) := by decide +kernel
theorem d_Mod_tellFixed_3 : decode prog_12_method_39_code 3 = .ok (.sipush 288, 3) := by decide +kernel
theorem d_Mod_tellFixed_6 : decode prog_12_method_39_code 6 = .ok (.if_icmp .ge 53, 3) := by decide +kernel
theorem d_Mod_tellFixed_59 : decode prog_12_method_39_code 59 = .ok (.iconst 0, 1) := by decide +kernel
theorem d_Mod_tellFixed_60 : decode prog_12_method_39_code 60 = .ok (.istore_n 1, 1) := by decide +kernel
theorem d_Mod_tellFixed_61 : decode prog_12_method_39_code 61 = .ok (.iload_n 1, 1) := by decide +kernel
theorem d_Mod_tellFixed_62 : decode prog_12_method_39_code 62 = .ok (.bipush 32, 2) := by decide +kernel
theorem d_Mod_tellFixed_64 : decode prog_12_method_39_code 64 = .ok (.if_icmp .ge 20, 3) := by decide +kernel
theorem d_Mod_tellFixed_84 : decode prog_12_method_39_code 84 = .ok (.aload_n 0, 1) := by decide +kernel
theorem d_Mod_tellFixed_85 : decode prog_12_method_39_code 85 = .ok (.sipush 288, 3) := by decide +kernel
theorem d_Mod_tellFixed_88 : decode prog_12_method_39_code 88 = .ok (.putfield 227, 3) := by decide +kernel
theorem k_1178 : (Jvm.Cond.fieldLink "PackageBookModel" (227 : Nat) "PackageBookModel" "firstCount" "I") ∈ uW := uW_of 1178 (by decide +kernel) (by decide +kernel)
theorem d_Mod_tellFixed_91 : decode prog_12_method_39_code 91 = .ok (.aload_n 0, 1) := by decide +kernel
theorem d_Mod_tellFixed_92 : decode prog_12_method_39_code 92 = .ok (.bipush 32, 2) := by decide +kernel
theorem d_Mod_tellFixed_94 : decode prog_12_method_39_code 94 = .ok (.putfield 230, 3) := by decide +kernel
theorem k_1179 : (Jvm.Cond.fieldLink "PackageBookModel" (230 : Nat) "PackageBookModel" "secondCount" "I") ∈ uW := uW_of 1179 (by decide +kernel) (by decide +kernel)
theorem d_Mod_tellFixed_97 : decode prog_12_method_39_code 97 = .ok (.return_, 1) := by decide +kernel
theorem d_Mod_tellFixed_67 : decode prog_12_method_39_code 67 = .ok (.aload_n 0, 1) := by decide +kernel
theorem d_Mod_tellFixed_68 : decode prog_12_method_39_code 68 = .ok (.getfield 72, 3) := by decide +kernel
theorem d_Mod_tellFixed_71 : decode prog_12_method_39_code 71 = .ok (.sipush 300, 3) := by decide +kernel
theorem d_Mod_tellFixed_74 : decode prog_12_method_39_code 74 = .ok (.iload_n 1, 1) := by decide +kernel
theorem d_Mod_tellFixed_75 : decode prog_12_method_39_code 75 = .ok (.iadd, 1) := by decide +kernel
theorem d_Mod_tellFixed_76 : decode prog_12_method_39_code 76 = .ok (.iconst 5, 1) := by decide +kernel
theorem d_Mod_tellFixed_77 : decode prog_12_method_39_code 77 = .ok (.iastore, 1) := by decide +kernel
theorem d_Mod_tellFixed_78 : decode prog_12_method_39_code 78 = .ok (.iinc 1 1, 3) := by decide +kernel
theorem d_Mod_tellFixed_81 : decode prog_12_method_39_code 81 = .ok (.goto (-20), 3) := by decide +kernel
theorem d_Mod_tellFixed_9 : decode prog_12_method_39_code 9 = .ok (.aload_n 0, 1) := by decide +kernel
theorem d_Mod_tellFixed_10 : decode prog_12_method_39_code 10 = .ok (.getfield 72, 3) := by decide +kernel
theorem d_Mod_tellFixed_13 : decode prog_12_method_39_code 13 = .ok (.iload_n 1, 1) := by decide +kernel
theorem d_Mod_tellFixed_14 : decode prog_12_method_39_code 14 = .ok (.iload_n 1, 1) := by decide +kernel
theorem d_Mod_tellFixed_15 : decode prog_12_method_39_code 15 = .ok (.sipush 144, 3) := by decide +kernel
theorem d_Mod_tellFixed_18 : decode prog_12_method_39_code 18 = .ok (.if_icmp .ge 8, 3) := by decide +kernel
theorem d_Mod_tellFixed_26 : decode prog_12_method_39_code 26 = .ok (.iload_n 1, 1) := by decide +kernel
theorem d_Mod_tellFixed_27 : decode prog_12_method_39_code 27 = .ok (.sipush 256, 3) := by decide +kernel
theorem d_Mod_tellFixed_30 : decode prog_12_method_39_code 30 = .ok (.if_icmp .ge 8, 3) := by decide +kernel
theorem d_Mod_tellFixed_38 : decode prog_12_method_39_code 38 = .ok (.iload_n 1, 1) := by decide +kernel
theorem d_Mod_tellFixed_39 : decode prog_12_method_39_code 39 = .ok (.sipush 280, 3) := by decide +kernel
theorem d_Mod_tellFixed_42 : decode prog_12_method_39_code 42 = .ok (.if_icmp .ge 8, 3) := by decide +kernel
theorem d_Mod_tellFixed_50 : decode prog_12_method_39_code 50 = .ok (.bipush 8, 2) := by decide +kernel
theorem d_Mod_tellFixed_52 : decode prog_12_method_39_code 52 = .ok (.iastore, 1) := by decide +kernel
theorem d_Mod_tellFixed_53 : decode prog_12_method_39_code 53 = .ok (.iinc 1 1, 3) := by decide +kernel
theorem d_Mod_tellFixed_56 : decode prog_12_method_39_code 56 = .ok (.goto (-54), 3) := by decide +kernel
theorem d_Mod_tellFixed_45 : decode prog_12_method_39_code 45 = .ok (.bipush 7, 2) := by decide +kernel
theorem d_Mod_tellFixed_47 : decode prog_12_method_39_code 47 = .ok (.goto 5, 3) := by decide +kernel
theorem d_Mod_tellFixed_33 : decode prog_12_method_39_code 33 = .ok (.bipush 9, 2) := by decide +kernel
theorem d_Mod_tellFixed_35 : decode prog_12_method_39_code 35 = .ok (.goto 17, 3) := by decide +kernel
theorem d_Mod_tellFixed_21 : decode prog_12_method_39_code 21 = .ok (.bipush 8, 2) := by decide +kernel
theorem d_Mod_tellFixed_23 : decode prog_12_method_39_code 23 = .ok (.goto 29, 3) := by decide +kernel
abbrev y_Mod_tellFixed : MethodName := ⟨"PackageBookModel", "tellFixed", "()V"⟩
abbrev i_Mod_tellFixed : pb_I := (y_Mod_tellFixed, prog_12_method_39_code, 2, (Option.none : Option Jvm.ClassFile.FieldType), [], { frames := 0, cells := 0, slots := 0, locals := 0 })
set_option maxRecDepth 100000 in
set_option maxHeartbeats 4000000 in
theorem g_Mod_tellFixed {l : Launch} (hl : l.stackTraces = false) (G : pb_G) (h : Nat) (m_rels : Nat) (m_openRels : Nat) (m_closeRels : Nat) (m_openRel : Nat) (m_closeRel : Nat) (m_comment : Nat) (m_ends : Nat) (m_order : Nat) (m_tape : Nat) (m_count : Nat) (m_nameSize : Nat) (m_names : Nat) (m_size : Nat) (m_data : Nat) (m_looked : Nat) (m_file : Nat) (m_directory : Nat) (m_out : Nat) (m_row : Nat) (m_made : Nat) (m_length : Nat) (m_pressed : Nat) (m_mark : Nat) (m_idSize : Nat) (m_ids : Nat) (m_goalSize : Nat) (m_goals : Nat) (m_value : Nat) (m_faults : Nat) (m_reached : Nat) (v_thrown : Int32) (v_taped : Int32) (v_lookedSize : Int32) (v_fileSize : Int32) (v_directorySize : Int32) (v_outSize : Int32) (v_rowSize : Int32) (v_bitAt : Int32) (v_bitEnd : Int32) (v_why : Int32) (v_madeSize : Int32) (v_firstCount : Int32) (v_secondCount : Int32) (v_heldBits : Int32) (v_heldCount : Int32) (v_pressedSize : Int32) (v_at : Int32) (v_bad : Int32) (v_markSize : Int32) (v_relationCount : Int32) (v_valueSize : Int32) (v_faultCount : Int32) (a_length : Nat → Int32) (LI : le_I a_length) : Cn l G i_Mod_tellFixed [.ref h] [(h, .inr (10, [.ref m_rels, .ref m_openRels, .ref m_closeRels, .ref m_openRel, .ref m_closeRel, .ref m_comment, .ref m_ends, .ref m_order, .int v_thrown, .int v_taped, .ref m_tape, .ref m_count, .ref m_nameSize, .ref m_names, .ref m_size, .ref m_data, .int v_lookedSize, .ref m_looked, .int v_fileSize, .ref m_file, .int v_directorySize, .ref m_directory, .int v_outSize, .ref m_out, .int v_rowSize, .ref m_row, .int v_bitAt, .int v_bitEnd, .int v_why, .int v_madeSize, .ref m_made, .ref m_length, .int v_firstCount, .int v_secondCount, .int v_heldBits, .int v_heldCount, .int v_pressedSize, .ref m_pressed, .int v_at, .int v_bad, .int v_markSize, .ref m_mark, .int v_relationCount, .ref m_idSize, .ref m_ids, .ref m_goalSize, .ref m_goals, .int v_valueSize, .ref m_value, .int v_faultCount, .ref m_faults, .ref m_reached])), (m_length, .inl (G.2.2.1, 420, .inl a_length))] (S := (Nat → Int32)) (fun v u => v = none ∧ (le_I u)) (fun u => [(h, .inr (10, [.ref m_rels, .ref m_openRels, .ref m_closeRels, .ref m_openRel, .ref m_closeRel, .ref m_comment, .ref m_ends, .ref m_order, .int v_thrown, .int v_taped, .ref m_tape, .ref m_count, .ref m_nameSize, .ref m_names, .ref m_size, .ref m_data, .int v_lookedSize, .ref m_looked, .int v_fileSize, .ref m_file, .int v_directorySize, .ref m_directory, .int v_outSize, .ref m_out, .int v_rowSize, .ref m_row, .int v_bitAt, .int v_bitEnd, .int v_why, .int v_madeSize, .ref m_made, .ref m_length, .int 288, .int 32, .int v_heldBits, .int v_heldCount, .int v_pressedSize, .ref m_pressed, .int v_at, .int v_bad, .int v_markSize, .ref m_mark, .int v_relationCount, .ref m_idSize, .ref m_ids, .ref m_goalSize, .ref m_goals, .int v_valueSize, .ref m_value, .int v_faultCount, .ref m_faults, .ref m_reached])), (m_length, .inl (G.2.2.1, 420, .inl u))]) := by
  refine Cn.of hl (by decide +kernel) rfl (Nat.le_of_ble_eq_true rfl) (fun M hQ => ?_)
  refine pb_eq (pc' := 0) (lo' := [(0, .ref h)]) (rest' := []) (ws' := [(h, .inr (10, [.ref m_rels, .ref m_openRels, .ref m_closeRels, .ref m_openRel, .ref m_closeRel, .ref m_comment, .ref m_ends, .ref m_order, .int v_thrown, .int v_taped, .ref m_tape, .ref m_count, .ref m_nameSize, .ref m_names, .ref m_size, .ref m_data, .int v_lookedSize, .ref m_looked, .int v_fileSize, .ref m_file, .int v_directorySize, .ref m_directory, .int v_outSize, .ref m_out, .int v_rowSize, .ref m_row, .int v_bitAt, .int v_bitEnd, .int v_why, .int v_madeSize, .ref m_made, .ref m_length, .int v_firstCount, .int v_secondCount, .int v_heldBits, .int v_heldCount, .int v_pressedSize, .ref m_pressed, .int v_at, .int v_bad, .int v_markSize, .ref m_mark, .int v_relationCount, .ref m_idSize, .ref m_ids, .ref m_goalSize, .ref m_goals, .int v_valueSize, .ref m_value, .int v_faultCount, .ref m_faults, .ref m_reached])), (m_length, .inl (G.2.2.1, 420, .inl a_length))]) ?_
  have zl0 : (0 : Int32).toInt = 0 := by decide
  have zl1 : (1 : Int32).toInt = 1 := by decide
  have zl7 : (7 : Int32).toInt = 7 := by decide
  have zl8 : (8 : Int32).toInt = 8 := by decide
  have zl9 : (9 : Int32).toInt = 9 := by decide
  have zl32 : (32 : Int32).toInt = 32 := by decide
  have zl288 : (288 : Int32).toInt = 288 := by decide
  have zl300 : (300 : Int32).toInt = 300 := by decide
  refine pb_iconst (pc := 0) (v := 0) d_Mod_tellFixed_0 (by decide) ?_
  refine pb_istore_n (pc := 1) (lo' := [(1, .int 0), (0, .ref h)]) d_Mod_tellFixed_1 rfl (by decide) rfl ?_
  have hL2_1 : ∀ (N9 : Nat) (s : Int32) (g : Nat → Int32), (0 ≤ s.toInt) → (le_I g) → ((288 - s.toInt).toNat) < N9 → pb_P l G M i_Mod_tellFixed 2 [(1, .int s), (0, .ref h)] [] [(h, .inr (10, [.ref m_rels, .ref m_openRels, .ref m_closeRels, .ref m_openRel, .ref m_closeRel, .ref m_comment, .ref m_ends, .ref m_order, .int v_thrown, .int v_taped, .ref m_tape, .ref m_count, .ref m_nameSize, .ref m_names, .ref m_size, .ref m_data, .int v_lookedSize, .ref m_looked, .int v_fileSize, .ref m_file, .int v_directorySize, .ref m_directory, .int v_outSize, .ref m_out, .int v_rowSize, .ref m_row, .int v_bitAt, .int v_bitEnd, .int v_why, .int v_madeSize, .ref m_made, .ref m_length, .int v_firstCount, .int v_secondCount, .int v_heldBits, .int v_heldCount, .int v_pressedSize, .ref m_pressed, .int v_at, .int v_bad, .int v_markSize, .ref m_mark, .int v_relationCount, .ref m_idSize, .ref m_ids, .ref m_goalSize, .ref m_goals, .int v_valueSize, .ref m_value, .int v_faultCount, .ref m_faults, .ref m_reached])), (m_length, .inl (G.2.2.1, 420, .inl g))] 0 0 := by
    intro N9
    induction N9 with
    | zero => intro s g s0 li hm9; exact absurd hm9 (Nat.not_lt_zero _)
    | succ N9 ih2 =>
      intro s g s0 li hm9
      refine pb_iload_n (pc := 2) d_Mod_tellFixed_2 0 rfl rfl ?_
      refine pb_sipush (pc := 3) (v := 288) d_Mod_tellFixed_3 (by decide) ?_
      refine pb_icmp_ge (pc := 6) (tgt := 59) d_Mod_tellFixed_6 (by decide) (fun wx2 => ?_) (fun wx2 => ?_)
      · have twx2 : 288 ≤ s.toInt := (ti_le (by decide) rfl).mp wx2
        refine pb_iconst (pc := 59) (v := 0) d_Mod_tellFixed_59 (by decide) ?_
        refine pb_istore_n (pc := 60) (lo' := [(1, .int 0), (0, .ref h)]) d_Mod_tellFixed_60 rfl (by decide) rfl ?_
        have hL61_3 : ∀ (N9 : Nat) (s : Int32) (g4 : Nat → Int32), (0 ≤ s.toInt) → (le_I g4) → ((32 - s.toInt).toNat) < N9 → pb_P l G M i_Mod_tellFixed 61 [(1, .int s), (0, .ref h)] [] [(h, .inr (10, [.ref m_rels, .ref m_openRels, .ref m_closeRels, .ref m_openRel, .ref m_closeRel, .ref m_comment, .ref m_ends, .ref m_order, .int v_thrown, .int v_taped, .ref m_tape, .ref m_count, .ref m_nameSize, .ref m_names, .ref m_size, .ref m_data, .int v_lookedSize, .ref m_looked, .int v_fileSize, .ref m_file, .int v_directorySize, .ref m_directory, .int v_outSize, .ref m_out, .int v_rowSize, .ref m_row, .int v_bitAt, .int v_bitEnd, .int v_why, .int v_madeSize, .ref m_made, .ref m_length, .int v_firstCount, .int v_secondCount, .int v_heldBits, .int v_heldCount, .int v_pressedSize, .ref m_pressed, .int v_at, .int v_bad, .int v_markSize, .ref m_mark, .int v_relationCount, .ref m_idSize, .ref m_ids, .ref m_goalSize, .ref m_goals, .int v_valueSize, .ref m_value, .int v_faultCount, .ref m_faults, .ref m_reached])), (m_length, .inl (G.2.2.1, 420, .inl g4))] 0 0 := by
          intro N9
          induction N9 with
          | zero => intro s g4 s0 li4 hm9; exact absurd hm9 (Nat.not_lt_zero _)
          | succ N9 ih61 =>
            intro s g4 s0 li4 hm9
            refine pb_iload_n (pc := 61) d_Mod_tellFixed_61 0 rfl rfl ?_
            refine pb_bipush (pc := 62) (v := 32) d_Mod_tellFixed_62 (by decide) ?_
            refine pb_icmp_ge (pc := 64) (tgt := 84) d_Mod_tellFixed_64 (by decide) (fun wx4 => ?_) (fun wx4 => ?_)
            · have twx4 : 32 ≤ s.toInt := (ti_le (by decide) rfl).mp wx4
              refine pb_aload_n (pc := 84) d_Mod_tellFixed_84 1 rfl rfl ?_
              refine pb_sipush (pc := 85) (v := 288) d_Mod_tellFixed_85 (by decide) ?_
              refine pb_put (pc := 88) (ty := .int) (ws' := [(h, .inr (10, [.ref m_rels, .ref m_openRels, .ref m_closeRels, .ref m_openRel, .ref m_closeRel, .ref m_comment, .ref m_ends, .ref m_order, .int v_thrown, .int v_taped, .ref m_tape, .ref m_count, .ref m_nameSize, .ref m_names, .ref m_size, .ref m_data, .int v_lookedSize, .ref m_looked, .int v_fileSize, .ref m_file, .int v_directorySize, .ref m_directory, .int v_outSize, .ref m_out, .int v_rowSize, .ref m_row, .int v_bitAt, .int v_bitEnd, .int v_why, .int v_madeSize, .ref m_made, .ref m_length, .int 288, .int v_secondCount, .int v_heldBits, .int v_heldCount, .int v_pressedSize, .ref m_pressed, .int v_at, .int v_bad, .int v_markSize, .ref m_mark, .int v_relationCount, .ref m_idSize, .ref m_ids, .ref m_goalSize, .ref m_goals, .int v_valueSize, .ref m_value, .int v_faultCount, .ref m_faults, .ref m_reached])), (m_length, .inl (G.2.2.1, 420, .inl g4))]) d_Mod_tellFixed_88 0 32 t_Mod t_Mod_ok n_Mod rfl rfl (by decide) in_Mod k_1178 rfl (by decide +kernel) rfl rfl (Nat.le_of_ble_eq_true rfl) rfl ?_
              refine pb_aload_n (pc := 91) d_Mod_tellFixed_91 1 rfl rfl ?_
              refine pb_bipush (pc := 92) (v := 32) d_Mod_tellFixed_92 (by decide) ?_
              refine pb_put (pc := 94) (ty := .int) (ws' := [(h, .inr (10, [.ref m_rels, .ref m_openRels, .ref m_closeRels, .ref m_openRel, .ref m_closeRel, .ref m_comment, .ref m_ends, .ref m_order, .int v_thrown, .int v_taped, .ref m_tape, .ref m_count, .ref m_nameSize, .ref m_names, .ref m_size, .ref m_data, .int v_lookedSize, .ref m_looked, .int v_fileSize, .ref m_file, .int v_directorySize, .ref m_directory, .int v_outSize, .ref m_out, .int v_rowSize, .ref m_row, .int v_bitAt, .int v_bitEnd, .int v_why, .int v_madeSize, .ref m_made, .ref m_length, .int 288, .int 32, .int v_heldBits, .int v_heldCount, .int v_pressedSize, .ref m_pressed, .int v_at, .int v_bad, .int v_markSize, .ref m_mark, .int v_relationCount, .ref m_idSize, .ref m_ids, .ref m_goalSize, .ref m_goals, .int v_valueSize, .ref m_value, .int v_faultCount, .ref m_faults, .ref m_reached])), (m_length, .inl (G.2.2.1, 420, .inl g4))]) d_Mod_tellFixed_94 0 33 t_Mod t_Mod_ok n_Mod rfl rfl (by decide) in_Mod k_1179 rfl (by decide +kernel) rfl rfl (Nat.le_of_ble_eq_true rfl) rfl ?_
              exact pb_vret (pc := 97) hQ d_Mod_tellFixed_97 rfl (g4) ⟨rfl, (by (try dsimp only); first | assumption | decide | omega)⟩ [0, 1] (by decide) rfl rfl (by decide) (by decide)
            · have twx4 : ¬ 32 ≤ s.toInt := fun z9 => wx4 ((ti_le (by decide) rfl).mpr z9)
              refine pb_aload_n (pc := 67) d_Mod_tellFixed_67 1 rfl rfl ?_
              refine pb_get (pc := 68) d_Mod_tellFixed_68 0 31 rfl rfl (by decide) in_Mod k_1177 rfl ?_
              refine pb_sipush (pc := 71) (v := 300) d_Mod_tellFixed_71 (by decide) ?_
              refine pb_iload_n (pc := 74) d_Mod_tellFixed_74 0 rfl rfl ?_
              refine pb_iadd (pc := 75) d_Mod_tellFixed_75 ?_
              refine pb_topi (fun ix5 eix5 => ?_)
              try have tix5 : ix5.toInt = 300 + s.toInt := t2_add eix5 (by decide) rfl (by omega)
              refine pb_iconst (pc := 76) (v := 5) d_Mod_tellFixed_76 (by decide) ?_
              refine pb_iast (pc := 77) (ws' := [(h, .inr (10, [.ref m_rels, .ref m_openRels, .ref m_closeRels, .ref m_openRel, .ref m_closeRel, .ref m_comment, .ref m_ends, .ref m_order, .int v_thrown, .int v_taped, .ref m_tape, .ref m_count, .ref m_nameSize, .ref m_names, .ref m_size, .ref m_data, .int v_lookedSize, .ref m_looked, .int v_fileSize, .ref m_file, .int v_directorySize, .ref m_directory, .int v_outSize, .ref m_out, .int v_rowSize, .ref m_row, .int v_bitAt, .int v_bitEnd, .int v_why, .int v_madeSize, .ref m_made, .ref m_length, .int v_firstCount, .int v_secondCount, .int v_heldBits, .int v_heldCount, .int v_pressedSize, .ref m_pressed, .int v_at, .int v_bad, .int v_markSize, .ref m_mark, .int v_relationCount, .ref m_idSize, .ref m_ids, .ref m_goalSize, .ref m_goals, .int v_valueSize, .ref m_value, .int v_faultCount, .ref m_faults, .ref m_reached])), (m_length, .inl (G.2.2.1, 420, .inl (upd g4 ((ix5 : Int32).toNatClampNeg) 5)))]) d_Mod_tellFixed_77 1 rfl (vp_in_iff.mpr (by omega)) rfl ?_
              refine pb_iincN (pc := 78) (c := 1) d_Mod_tellFixed_78 0 rfl (by decide) (by decide) (fun ix6 eix6 => ?_)
              have tix6 : ix6.toInt = s.toInt + 1 := t2_add eix6 rfl (by decide) (by first | omega | (have r90 := ti_rng s; have r91 := ti_rng ix6; omega))
              refine pb_eq (pc' := 81) (lo' := [(1, .int ix6), (0, .ref h)]) (rest' := []) (ws' := [(h, .inr (10, [.ref m_rels, .ref m_openRels, .ref m_closeRels, .ref m_openRel, .ref m_closeRel, .ref m_comment, .ref m_ends, .ref m_order, .int v_thrown, .int v_taped, .ref m_tape, .ref m_count, .ref m_nameSize, .ref m_names, .ref m_size, .ref m_data, .int v_lookedSize, .ref m_looked, .int v_fileSize, .ref m_file, .int v_directorySize, .ref m_directory, .int v_outSize, .ref m_out, .int v_rowSize, .ref m_row, .int v_bitAt, .int v_bitEnd, .int v_why, .int v_madeSize, .ref m_made, .ref m_length, .int v_firstCount, .int v_secondCount, .int v_heldBits, .int v_heldCount, .int v_pressedSize, .ref m_pressed, .int v_at, .int v_bad, .int v_markSize, .ref m_mark, .int v_relationCount, .ref m_idSize, .ref m_ids, .ref m_goalSize, .ref m_goals, .int v_valueSize, .ref m_value, .int v_faultCount, .ref m_faults, .ref m_reached])), (m_length, .inl (G.2.2.1, 420, .inl (upd g4 ((ix5 : Int32).toNatClampNeg) 5)))]) ?_
              refine pb_goto (pc := 81) (tgt := 61) d_Mod_tellFixed_81 (by decide) ?_
              exact ih61 ix6 (upd g4 ((ix5 : Int32).toNatClampNeg) 5) (by first | omega | assumption | decide) (le_upd li4 (by omega) (by first | omega | decide)) (by omega)
        exact hL61_3 _ 0 g (by first | omega | assumption | decide) li (Nat.lt_succ_self _)
      · have twx2 : ¬ 288 ≤ s.toInt := fun z9 => wx2 ((ti_le (by decide) rfl).mpr z9)
        refine pb_aload_n (pc := 9) d_Mod_tellFixed_9 1 rfl rfl ?_
        refine pb_get (pc := 10) d_Mod_tellFixed_10 0 31 rfl rfl (by decide) in_Mod k_1177 rfl ?_
        refine pb_iload_n (pc := 13) d_Mod_tellFixed_13 0 rfl rfl ?_
        refine pb_iload_n (pc := 14) d_Mod_tellFixed_14 0 rfl rfl ?_
        refine pb_sipush (pc := 15) (v := 144) d_Mod_tellFixed_15 (by decide) ?_
        refine pb_icmp_ge (pc := 18) (tgt := 26) d_Mod_tellFixed_18 (by decide) (fun wx7 => ?_) (fun wx7 => ?_)
        · have twx7 : 144 ≤ s.toInt := (ti_le (by decide) rfl).mp wx7
          refine pb_iload_n (pc := 26) d_Mod_tellFixed_26 0 rfl rfl ?_
          refine pb_sipush (pc := 27) (v := 256) d_Mod_tellFixed_27 (by decide) ?_
          refine pb_icmp_ge (pc := 30) (tgt := 38) d_Mod_tellFixed_30 (by decide) (fun wx8 => ?_) (fun wx8 => ?_)
          · have twx8 : 256 ≤ s.toInt := (ti_le (by decide) rfl).mp wx8
            refine pb_iload_n (pc := 38) d_Mod_tellFixed_38 0 rfl rfl ?_
            refine pb_sipush (pc := 39) (v := 280) d_Mod_tellFixed_39 (by decide) ?_
            refine pb_icmp_ge (pc := 42) (tgt := 50) d_Mod_tellFixed_42 (by decide) (fun wx9 => ?_) (fun wx9 => ?_)
            · have twx9 : 280 ≤ s.toInt := (ti_le (by decide) rfl).mp wx9
              refine pb_bipush (pc := 50) (v := 8) d_Mod_tellFixed_50 (by decide) ?_
              refine pb_iast (pc := 52) (ws' := [(h, .inr (10, [.ref m_rels, .ref m_openRels, .ref m_closeRels, .ref m_openRel, .ref m_closeRel, .ref m_comment, .ref m_ends, .ref m_order, .int v_thrown, .int v_taped, .ref m_tape, .ref m_count, .ref m_nameSize, .ref m_names, .ref m_size, .ref m_data, .int v_lookedSize, .ref m_looked, .int v_fileSize, .ref m_file, .int v_directorySize, .ref m_directory, .int v_outSize, .ref m_out, .int v_rowSize, .ref m_row, .int v_bitAt, .int v_bitEnd, .int v_why, .int v_madeSize, .ref m_made, .ref m_length, .int v_firstCount, .int v_secondCount, .int v_heldBits, .int v_heldCount, .int v_pressedSize, .ref m_pressed, .int v_at, .int v_bad, .int v_markSize, .ref m_mark, .int v_relationCount, .ref m_idSize, .ref m_ids, .ref m_goalSize, .ref m_goals, .int v_valueSize, .ref m_value, .int v_faultCount, .ref m_faults, .ref m_reached])), (m_length, .inl (G.2.2.1, 420, .inl (upd g ((s : Int32).toNatClampNeg) 8)))]) d_Mod_tellFixed_52 1 rfl (vp_in_iff.mpr (by omega)) rfl ?_
              refine pb_iincN (pc := 53) (c := 1) d_Mod_tellFixed_53 0 rfl (by decide) (by decide) (fun ix10 eix10 => ?_)
              have tix10 : ix10.toInt = s.toInt + 1 := t2_add eix10 rfl (by decide) (by first | omega | (have r90 := ti_rng s; have r91 := ti_rng ix10; omega))
              refine pb_eq (pc' := 56) (lo' := [(1, .int ix10), (0, .ref h)]) (rest' := []) (ws' := [(h, .inr (10, [.ref m_rels, .ref m_openRels, .ref m_closeRels, .ref m_openRel, .ref m_closeRel, .ref m_comment, .ref m_ends, .ref m_order, .int v_thrown, .int v_taped, .ref m_tape, .ref m_count, .ref m_nameSize, .ref m_names, .ref m_size, .ref m_data, .int v_lookedSize, .ref m_looked, .int v_fileSize, .ref m_file, .int v_directorySize, .ref m_directory, .int v_outSize, .ref m_out, .int v_rowSize, .ref m_row, .int v_bitAt, .int v_bitEnd, .int v_why, .int v_madeSize, .ref m_made, .ref m_length, .int v_firstCount, .int v_secondCount, .int v_heldBits, .int v_heldCount, .int v_pressedSize, .ref m_pressed, .int v_at, .int v_bad, .int v_markSize, .ref m_mark, .int v_relationCount, .ref m_idSize, .ref m_ids, .ref m_goalSize, .ref m_goals, .int v_valueSize, .ref m_value, .int v_faultCount, .ref m_faults, .ref m_reached])), (m_length, .inl (G.2.2.1, 420, .inl (upd g ((s : Int32).toNatClampNeg) 8)))]) ?_
              refine pb_goto (pc := 56) (tgt := 2) d_Mod_tellFixed_56 (by decide) ?_
              exact ih2 ix10 (upd g ((s : Int32).toNatClampNeg) 8) (by first | omega | assumption | decide) (le_upd li (by omega) (by first | omega | decide)) (by omega)
            · have twx9 : ¬ 280 ≤ s.toInt := fun z9 => wx9 ((ti_le (by decide) rfl).mpr z9)
              refine pb_bipush (pc := 45) (v := 7) d_Mod_tellFixed_45 (by decide) ?_
              refine pb_goto (pc := 47) (tgt := 52) d_Mod_tellFixed_47 (by decide) ?_
              refine pb_iast (pc := 52) (ws' := [(h, .inr (10, [.ref m_rels, .ref m_openRels, .ref m_closeRels, .ref m_openRel, .ref m_closeRel, .ref m_comment, .ref m_ends, .ref m_order, .int v_thrown, .int v_taped, .ref m_tape, .ref m_count, .ref m_nameSize, .ref m_names, .ref m_size, .ref m_data, .int v_lookedSize, .ref m_looked, .int v_fileSize, .ref m_file, .int v_directorySize, .ref m_directory, .int v_outSize, .ref m_out, .int v_rowSize, .ref m_row, .int v_bitAt, .int v_bitEnd, .int v_why, .int v_madeSize, .ref m_made, .ref m_length, .int v_firstCount, .int v_secondCount, .int v_heldBits, .int v_heldCount, .int v_pressedSize, .ref m_pressed, .int v_at, .int v_bad, .int v_markSize, .ref m_mark, .int v_relationCount, .ref m_idSize, .ref m_ids, .ref m_goalSize, .ref m_goals, .int v_valueSize, .ref m_value, .int v_faultCount, .ref m_faults, .ref m_reached])), (m_length, .inl (G.2.2.1, 420, .inl (upd g ((s : Int32).toNatClampNeg) 7)))]) d_Mod_tellFixed_52 1 rfl (vp_in_iff.mpr (by omega)) rfl ?_
              refine pb_iincN (pc := 53) (c := 1) d_Mod_tellFixed_53 0 rfl (by decide) (by decide) (fun ix11 eix11 => ?_)
              have tix11 : ix11.toInt = s.toInt + 1 := t2_add eix11 rfl (by decide) (by first | omega | (have r90 := ti_rng s; have r91 := ti_rng ix11; omega))
              refine pb_eq (pc' := 56) (lo' := [(1, .int ix11), (0, .ref h)]) (rest' := []) (ws' := [(h, .inr (10, [.ref m_rels, .ref m_openRels, .ref m_closeRels, .ref m_openRel, .ref m_closeRel, .ref m_comment, .ref m_ends, .ref m_order, .int v_thrown, .int v_taped, .ref m_tape, .ref m_count, .ref m_nameSize, .ref m_names, .ref m_size, .ref m_data, .int v_lookedSize, .ref m_looked, .int v_fileSize, .ref m_file, .int v_directorySize, .ref m_directory, .int v_outSize, .ref m_out, .int v_rowSize, .ref m_row, .int v_bitAt, .int v_bitEnd, .int v_why, .int v_madeSize, .ref m_made, .ref m_length, .int v_firstCount, .int v_secondCount, .int v_heldBits, .int v_heldCount, .int v_pressedSize, .ref m_pressed, .int v_at, .int v_bad, .int v_markSize, .ref m_mark, .int v_relationCount, .ref m_idSize, .ref m_ids, .ref m_goalSize, .ref m_goals, .int v_valueSize, .ref m_value, .int v_faultCount, .ref m_faults, .ref m_reached])), (m_length, .inl (G.2.2.1, 420, .inl (upd g ((s : Int32).toNatClampNeg) 7)))]) ?_
              refine pb_goto (pc := 56) (tgt := 2) d_Mod_tellFixed_56 (by decide) ?_
              exact ih2 ix11 (upd g ((s : Int32).toNatClampNeg) 7) (by first | omega | assumption | decide) (le_upd li (by omega) (by first | omega | decide)) (by omega)
          · have twx8 : ¬ 256 ≤ s.toInt := fun z9 => wx8 ((ti_le (by decide) rfl).mpr z9)
            refine pb_bipush (pc := 33) (v := 9) d_Mod_tellFixed_33 (by decide) ?_
            refine pb_goto (pc := 35) (tgt := 52) d_Mod_tellFixed_35 (by decide) ?_
            refine pb_iast (pc := 52) (ws' := [(h, .inr (10, [.ref m_rels, .ref m_openRels, .ref m_closeRels, .ref m_openRel, .ref m_closeRel, .ref m_comment, .ref m_ends, .ref m_order, .int v_thrown, .int v_taped, .ref m_tape, .ref m_count, .ref m_nameSize, .ref m_names, .ref m_size, .ref m_data, .int v_lookedSize, .ref m_looked, .int v_fileSize, .ref m_file, .int v_directorySize, .ref m_directory, .int v_outSize, .ref m_out, .int v_rowSize, .ref m_row, .int v_bitAt, .int v_bitEnd, .int v_why, .int v_madeSize, .ref m_made, .ref m_length, .int v_firstCount, .int v_secondCount, .int v_heldBits, .int v_heldCount, .int v_pressedSize, .ref m_pressed, .int v_at, .int v_bad, .int v_markSize, .ref m_mark, .int v_relationCount, .ref m_idSize, .ref m_ids, .ref m_goalSize, .ref m_goals, .int v_valueSize, .ref m_value, .int v_faultCount, .ref m_faults, .ref m_reached])), (m_length, .inl (G.2.2.1, 420, .inl (upd g ((s : Int32).toNatClampNeg) 9)))]) d_Mod_tellFixed_52 1 rfl (vp_in_iff.mpr (by omega)) rfl ?_
            refine pb_iincN (pc := 53) (c := 1) d_Mod_tellFixed_53 0 rfl (by decide) (by decide) (fun ix12 eix12 => ?_)
            have tix12 : ix12.toInt = s.toInt + 1 := t2_add eix12 rfl (by decide) (by first | omega | (have r90 := ti_rng s; have r91 := ti_rng ix12; omega))
            refine pb_eq (pc' := 56) (lo' := [(1, .int ix12), (0, .ref h)]) (rest' := []) (ws' := [(h, .inr (10, [.ref m_rels, .ref m_openRels, .ref m_closeRels, .ref m_openRel, .ref m_closeRel, .ref m_comment, .ref m_ends, .ref m_order, .int v_thrown, .int v_taped, .ref m_tape, .ref m_count, .ref m_nameSize, .ref m_names, .ref m_size, .ref m_data, .int v_lookedSize, .ref m_looked, .int v_fileSize, .ref m_file, .int v_directorySize, .ref m_directory, .int v_outSize, .ref m_out, .int v_rowSize, .ref m_row, .int v_bitAt, .int v_bitEnd, .int v_why, .int v_madeSize, .ref m_made, .ref m_length, .int v_firstCount, .int v_secondCount, .int v_heldBits, .int v_heldCount, .int v_pressedSize, .ref m_pressed, .int v_at, .int v_bad, .int v_markSize, .ref m_mark, .int v_relationCount, .ref m_idSize, .ref m_ids, .ref m_goalSize, .ref m_goals, .int v_valueSize, .ref m_value, .int v_faultCount, .ref m_faults, .ref m_reached])), (m_length, .inl (G.2.2.1, 420, .inl (upd g ((s : Int32).toNatClampNeg) 9)))]) ?_
            refine pb_goto (pc := 56) (tgt := 2) d_Mod_tellFixed_56 (by decide) ?_
            exact ih2 ix12 (upd g ((s : Int32).toNatClampNeg) 9) (by first | omega | assumption | decide) (le_upd li (by omega) (by first | omega | decide)) (by omega)
        · have twx7 : ¬ 144 ≤ s.toInt := fun z9 => wx7 ((ti_le (by decide) rfl).mpr z9)
          refine pb_bipush (pc := 21) (v := 8) d_Mod_tellFixed_21 (by decide) ?_
          refine pb_goto (pc := 23) (tgt := 52) d_Mod_tellFixed_23 (by decide) ?_
          refine pb_iast (pc := 52) (ws' := [(h, .inr (10, [.ref m_rels, .ref m_openRels, .ref m_closeRels, .ref m_openRel, .ref m_closeRel, .ref m_comment, .ref m_ends, .ref m_order, .int v_thrown, .int v_taped, .ref m_tape, .ref m_count, .ref m_nameSize, .ref m_names, .ref m_size, .ref m_data, .int v_lookedSize, .ref m_looked, .int v_fileSize, .ref m_file, .int v_directorySize, .ref m_directory, .int v_outSize, .ref m_out, .int v_rowSize, .ref m_row, .int v_bitAt, .int v_bitEnd, .int v_why, .int v_madeSize, .ref m_made, .ref m_length, .int v_firstCount, .int v_secondCount, .int v_heldBits, .int v_heldCount, .int v_pressedSize, .ref m_pressed, .int v_at, .int v_bad, .int v_markSize, .ref m_mark, .int v_relationCount, .ref m_idSize, .ref m_ids, .ref m_goalSize, .ref m_goals, .int v_valueSize, .ref m_value, .int v_faultCount, .ref m_faults, .ref m_reached])), (m_length, .inl (G.2.2.1, 420, .inl (upd g ((s : Int32).toNatClampNeg) 8)))]) d_Mod_tellFixed_52 1 rfl (vp_in_iff.mpr (by omega)) rfl ?_
          refine pb_iincN (pc := 53) (c := 1) d_Mod_tellFixed_53 0 rfl (by decide) (by decide) (fun ix13 eix13 => ?_)
          have tix13 : ix13.toInt = s.toInt + 1 := t2_add eix13 rfl (by decide) (by first | omega | (have r90 := ti_rng s; have r91 := ti_rng ix13; omega))
          refine pb_eq (pc' := 56) (lo' := [(1, .int ix13), (0, .ref h)]) (rest' := []) (ws' := [(h, .inr (10, [.ref m_rels, .ref m_openRels, .ref m_closeRels, .ref m_openRel, .ref m_closeRel, .ref m_comment, .ref m_ends, .ref m_order, .int v_thrown, .int v_taped, .ref m_tape, .ref m_count, .ref m_nameSize, .ref m_names, .ref m_size, .ref m_data, .int v_lookedSize, .ref m_looked, .int v_fileSize, .ref m_file, .int v_directorySize, .ref m_directory, .int v_outSize, .ref m_out, .int v_rowSize, .ref m_row, .int v_bitAt, .int v_bitEnd, .int v_why, .int v_madeSize, .ref m_made, .ref m_length, .int v_firstCount, .int v_secondCount, .int v_heldBits, .int v_heldCount, .int v_pressedSize, .ref m_pressed, .int v_at, .int v_bad, .int v_markSize, .ref m_mark, .int v_relationCount, .ref m_idSize, .ref m_ids, .ref m_goalSize, .ref m_goals, .int v_valueSize, .ref m_value, .int v_faultCount, .ref m_faults, .ref m_reached])), (m_length, .inl (G.2.2.1, 420, .inl (upd g ((s : Int32).toNatClampNeg) 8)))]) ?_
          refine pb_goto (pc := 56) (tgt := 2) d_Mod_tellFixed_56 (by decide) ?_
          exact ih2 ix13 (upd g ((s : Int32).toNatClampNeg) 8) (by first | omega | assumption | decide) (le_upd li (by omega) (by first | omega | decide)) (by omega)
  exact hL2_1 _ 0 a_length (by first | omega | assumption | decide) (by first | assumption | decide | omega) (Nat.lt_succ_self _)

theorem d_Mod_toldAt_0 : decode prog_12_method_40_code 0 = .ok (.iload_n 1, 1) := by decide +kernel
theorem d_Mod_toldAt_1 : decode prog_12_method_40_code 1 = .ok (.aload_n 0, 1) := by decide +kernel
theorem d_Mod_toldAt_2 : decode prog_12_method_40_code 2 = .ok (.getfield 227, 3) := by decide +kernel
theorem d_Mod_toldAt_5 : decode prog_12_method_40_code 5 = .ok (.if_icmp .ge 7, 3) := by decide +kernel
theorem d_Mod_toldAt_12 : decode prog_12_method_40_code 12 = .ok (.sipush 300, 3) := by decide +kernel
theorem d_Mod_toldAt_15 : decode prog_12_method_40_code 15 = .ok (.iload_n 1, 1) := by decide +kernel
theorem d_Mod_toldAt_16 : decode prog_12_method_40_code 16 = .ok (.iadd, 1) := by decide +kernel
theorem d_Mod_toldAt_17 : decode prog_12_method_40_code 17 = .ok (.aload_n 0, 1) := by decide +kernel
theorem d_Mod_toldAt_18 : decode prog_12_method_40_code 18 = .ok (.getfield 227, 3) := by decide +kernel
theorem d_Mod_toldAt_21 : decode prog_12_method_40_code 21 = .ok (.isub, 1) := by decide +kernel
theorem d_Mod_toldAt_22 : decode prog_12_method_40_code 22 = .ok (.ireturn, 1) := by decide +kernel
theorem d_Mod_toldAt_8 : decode prog_12_method_40_code 8 = .ok (.iload_n 1, 1) := by decide +kernel
theorem d_Mod_toldAt_9 : decode prog_12_method_40_code 9 = .ok (.goto 13, 3) := by decide +kernel
abbrev y_Mod_toldAt : MethodName := ⟨"PackageBookModel", "toldAt", "(I)I"⟩
abbrev i_Mod_toldAt : pb_I := (y_Mod_toldAt, prog_12_method_40_code, 2, (some Jvm.ClassFile.FieldType.int), [], { frames := 0, cells := 0, slots := 0, locals := 0 })
set_option maxRecDepth 100000 in
set_option maxHeartbeats 4000000 in
theorem g_Mod_toldAt {l : Launch} (hl : l.stackTraces = false) (G : pb_G) (h : Nat) (m_rels : Nat) (m_openRels : Nat) (m_closeRels : Nat) (m_openRel : Nat) (m_closeRel : Nat) (m_comment : Nat) (m_ends : Nat) (m_order : Nat) (m_tape : Nat) (m_count : Nat) (m_nameSize : Nat) (m_names : Nat) (m_size : Nat) (m_data : Nat) (m_looked : Nat) (m_file : Nat) (m_directory : Nat) (m_out : Nat) (m_row : Nat) (m_made : Nat) (m_length : Nat) (m_pressed : Nat) (m_mark : Nat) (m_idSize : Nat) (m_ids : Nat) (m_goalSize : Nat) (m_goals : Nat) (m_value : Nat) (m_faults : Nat) (m_reached : Nat) (v_thrown : Int32) (v_taped : Int32) (v_lookedSize : Int32) (v_fileSize : Int32) (v_directorySize : Int32) (v_outSize : Int32) (v_rowSize : Int32) (v_bitAt : Int32) (v_bitEnd : Int32) (v_why : Int32) (v_madeSize : Int32) (v_firstCount : Int32) (v_secondCount : Int32) (v_heldBits : Int32) (v_heldCount : Int32) (v_pressedSize : Int32) (v_at : Int32) (v_bad : Int32) (v_markSize : Int32) (v_relationCount : Int32) (v_valueSize : Int32) (v_faultCount : Int32) (k : Int32) (h0 : 0 ≤ k.toInt) (h1 : k.toInt ≤ 1000) (h2 : 0 ≤ v_firstCount.toInt) (h3 : v_firstCount.toInt ≤ 1000) : Cn l G i_Mod_toldAt [.ref h, .int k] [(h, .inr (10, [.ref m_rels, .ref m_openRels, .ref m_closeRels, .ref m_openRel, .ref m_closeRel, .ref m_comment, .ref m_ends, .ref m_order, .int v_thrown, .int v_taped, .ref m_tape, .ref m_count, .ref m_nameSize, .ref m_names, .ref m_size, .ref m_data, .int v_lookedSize, .ref m_looked, .int v_fileSize, .ref m_file, .int v_directorySize, .ref m_directory, .int v_outSize, .ref m_out, .int v_rowSize, .ref m_row, .int v_bitAt, .int v_bitEnd, .int v_why, .int v_madeSize, .ref m_made, .ref m_length, .int v_firstCount, .int v_secondCount, .int v_heldBits, .int v_heldCount, .int v_pressedSize, .ref m_pressed, .int v_at, .int v_bad, .int v_markSize, .ref m_mark, .int v_relationCount, .ref m_idSize, .ref m_ids, .ref m_goalSize, .ref m_goals, .int v_valueSize, .ref m_value, .int v_faultCount, .ref m_faults, .ref m_reached]))] (S := Int32) (fun v u => v = some (.int u) ∧ (k.toInt < v_firstCount.toInt → u.toInt = k.toInt) ∧ (v_firstCount.toInt ≤ k.toInt → u.toInt = 300 + k.toInt - v_firstCount.toInt)) (fun u => [(h, .inr (10, [.ref m_rels, .ref m_openRels, .ref m_closeRels, .ref m_openRel, .ref m_closeRel, .ref m_comment, .ref m_ends, .ref m_order, .int v_thrown, .int v_taped, .ref m_tape, .ref m_count, .ref m_nameSize, .ref m_names, .ref m_size, .ref m_data, .int v_lookedSize, .ref m_looked, .int v_fileSize, .ref m_file, .int v_directorySize, .ref m_directory, .int v_outSize, .ref m_out, .int v_rowSize, .ref m_row, .int v_bitAt, .int v_bitEnd, .int v_why, .int v_madeSize, .ref m_made, .ref m_length, .int v_firstCount, .int v_secondCount, .int v_heldBits, .int v_heldCount, .int v_pressedSize, .ref m_pressed, .int v_at, .int v_bad, .int v_markSize, .ref m_mark, .int v_relationCount, .ref m_idSize, .ref m_ids, .ref m_goalSize, .ref m_goals, .int v_valueSize, .ref m_value, .int v_faultCount, .ref m_faults, .ref m_reached]))]) := by
  refine Cn.of hl (by decide +kernel) rfl (Nat.le_of_ble_eq_true rfl) (fun M hQ => ?_)
  refine pb_eq (pc' := 0) (lo' := [(0, .ref h), (1, .int k)]) (rest' := []) (ws' := [(h, .inr (10, [.ref m_rels, .ref m_openRels, .ref m_closeRels, .ref m_openRel, .ref m_closeRel, .ref m_comment, .ref m_ends, .ref m_order, .int v_thrown, .int v_taped, .ref m_tape, .ref m_count, .ref m_nameSize, .ref m_names, .ref m_size, .ref m_data, .int v_lookedSize, .ref m_looked, .int v_fileSize, .ref m_file, .int v_directorySize, .ref m_directory, .int v_outSize, .ref m_out, .int v_rowSize, .ref m_row, .int v_bitAt, .int v_bitEnd, .int v_why, .int v_madeSize, .ref m_made, .ref m_length, .int v_firstCount, .int v_secondCount, .int v_heldBits, .int v_heldCount, .int v_pressedSize, .ref m_pressed, .int v_at, .int v_bad, .int v_markSize, .ref m_mark, .int v_relationCount, .ref m_idSize, .ref m_ids, .ref m_goalSize, .ref m_goals, .int v_valueSize, .ref m_value, .int v_faultCount, .ref m_faults, .ref m_reached]))]) ?_
  have zl0 : (0 : Int32).toInt = 0 := by decide
  have zl1 : (1 : Int32).toInt = 1 := by decide
  have zl300 : (300 : Int32).toInt = 300 := by decide
  refine pb_iload_n (pc := 0) d_Mod_toldAt_0 1 rfl rfl ?_
  refine pb_aload_n (pc := 1) d_Mod_toldAt_1 0 rfl rfl ?_
  refine pb_get (pc := 2) d_Mod_toldAt_2 0 32 rfl rfl (by decide) in_Mod k_1178 rfl ?_
  refine pb_icmp_ge (pc := 5) (tgt := 12) d_Mod_toldAt_5 (by decide) (fun wx1 => ?_) (fun wx1 => ?_)
  · have twx1 : v_firstCount.toInt ≤ k.toInt := (ti_le rfl rfl).mp wx1
    refine pb_sipush (pc := 12) (v := 300) d_Mod_toldAt_12 (by decide) ?_
    refine pb_iload_n (pc := 15) d_Mod_toldAt_15 1 rfl rfl ?_
    refine pb_iadd (pc := 16) d_Mod_toldAt_16 ?_
    refine pb_topi (fun ix2 eix2 => ?_)
    try have tix2 : ix2.toInt = 300 + k.toInt := t2_add eix2 (by decide) rfl (by omega)
    refine pb_aload_n (pc := 17) d_Mod_toldAt_17 0 rfl rfl ?_
    refine pb_get (pc := 18) d_Mod_toldAt_18 0 32 rfl rfl (by decide) in_Mod k_1178 rfl ?_
    refine pb_isub (pc := 21) d_Mod_toldAt_21 ?_
    refine pb_topi (fun ix3 eix3 => ?_)
    try have tix3 : ix3.toInt = ix2.toInt - v_firstCount.toInt := t2_sub eix3 rfl rfl (by omega)
    exact pb_iret (pc := 22) hQ d_Mod_toldAt_22 rfl rfl (ix3) ⟨rfl, (by (try dsimp only); first | omega | assumption | decide), (by (try dsimp only); first | omega | assumption | decide)⟩ [0] (by decide) rfl rfl (by decide) (by decide)
  · have twx1 : ¬ v_firstCount.toInt ≤ k.toInt := fun z9 => wx1 ((ti_le rfl rfl).mpr z9)
    refine pb_iload_n (pc := 8) d_Mod_toldAt_8 1 rfl rfl ?_
    refine pb_goto (pc := 9) (tgt := 22) d_Mod_toldAt_9 (by decide) ?_
    exact pb_iret (pc := 22) hQ d_Mod_toldAt_22 rfl rfl (k) ⟨rfl, (by (try dsimp only); first | omega | assumption | decide), (by (try dsimp only); first | omega | assumption | decide)⟩ [0] (by decide) rfl rfl (by decide) (by decide)

theorem d_Mod_tell_0 : decode prog_12_method_42_code 0 = .ok (.aload_n 0, 1) := by decide +kernel
theorem d_Mod_tell_1 : decode prog_12_method_42_code 1 = .ok (.sipush 400, 3) := by decide +kernel
theorem d_Mod_tell_4 : decode prog_12_method_42_code 4 = .ok (.bipush 19, 2) := by decide +kernel
theorem d_Mod_tell_6 : decode prog_12_method_42_code 6 = .ok (.invokevirtual 239, 3) := by decide +kernel
theorem k_1464 : (Jvm.Cond.methodLink "PackageBookModel" (239 : Nat) ({ cls := "PackageBookModel", name := "symbol", desc := "(II)I" } : Jvm.MethodName)) ∈ uW := uW_of 1464 (by decide +kernel) (by decide +kernel)
theorem k_1467 : (Jvm.Cond.code ({ cls := "PackageBookModel", name := "symbol", desc := "(II)I" } : Jvm.MethodName) prog_12_method_36_code (8 : Nat) (Option.some Jvm.ClassFile.FieldType.int)) ∈ uW := uW_of 1467 (by decide +kernel) (by decide +kernel)
theorem k_1466 : (Jvm.Cond.instanceMethod ({ cls := "PackageBookModel", name := "symbol", desc := "(II)I" } : Jvm.MethodName)) ∈ uW := uW_of 1466 (by decide +kernel) (by decide +kernel)
theorem k_78 : Cond.selects "PackageBookModel" ⟨"PackageBookModel", "symbol", "(II)I"⟩ ⟨"PackageBookModel", "symbol", "(II)I"⟩ ∈ uW := uW_of 78 (by decide +kernel) (by decide +kernel)
theorem d_Mod_tell_9 : decode prog_12_method_42_code 9 = .ok (.istore_n 3, 1) := by decide +kernel
theorem d_Mod_tell_146 : decode prog_12_method_42_code 146 = .ok (.iconst 0, 1) := by decide +kernel
theorem d_Mod_tell_147 : decode prog_12_method_42_code 147 = .ok (.istore 6, 2) := by decide +kernel
theorem d_Mod_tell_149 : decode prog_12_method_42_code 149 = .ok (.iload 6, 2) := by decide +kernel
theorem d_Mod_tell_151 : decode prog_12_method_42_code 151 = .ok (.iload 4, 2) := by decide +kernel
theorem d_Mod_tell_153 : decode prog_12_method_42_code 153 = .ok (.if_icmp .ge 31, 3) := by decide +kernel
theorem d_Mod_tell_184 : decode prog_12_method_42_code 184 = .ok (.iload_n 1, 1) := by decide +kernel
theorem d_Mod_tell_185 : decode prog_12_method_42_code 185 = .ok (.iload 4, 2) := by decide +kernel
theorem d_Mod_tell_187 : decode prog_12_method_42_code 187 = .ok (.iadd, 1) := by decide +kernel
theorem d_Mod_tell_188 : decode prog_12_method_42_code 188 = .ok (.ireturn, 1) := by decide +kernel
theorem d_Mod_tell_156 : decode prog_12_method_42_code 156 = .ok (.aload_n 0, 1) := by decide +kernel
theorem d_Mod_tell_157 : decode prog_12_method_42_code 157 = .ok (.getfield 197, 3) := by decide +kernel
theorem d_Mod_tell_160 : decode prog_12_method_42_code 160 = .ok (.ifCond .ne 24, 3) := by decide +kernel
theorem d_Mod_tell_163 : decode prog_12_method_42_code 163 = .ok (.aload_n 0, 1) := by decide +kernel
theorem d_Mod_tell_164 : decode prog_12_method_42_code 164 = .ok (.getfield 72, 3) := by decide +kernel
theorem d_Mod_tell_167 : decode prog_12_method_42_code 167 = .ok (.aload_n 0, 1) := by decide +kernel
theorem d_Mod_tell_168 : decode prog_12_method_42_code 168 = .ok (.iload_n 1, 1) := by decide +kernel
theorem d_Mod_tell_169 : decode prog_12_method_42_code 169 = .ok (.iload 6, 2) := by decide +kernel
theorem d_Mod_tell_171 : decode prog_12_method_42_code 171 = .ok (.iadd, 1) := by decide +kernel
theorem d_Mod_tell_172 : decode prog_12_method_42_code 172 = .ok (.invokevirtual 242, 3) := by decide +kernel
theorem k_1472 : (Jvm.Cond.methodLink "PackageBookModel" (242 : Nat) ({ cls := "PackageBookModel", name := "toldAt", desc := "(I)I" } : Jvm.MethodName)) ∈ uW := uW_of 1472 (by decide +kernel) (by decide +kernel)
theorem k_1475 : (Jvm.Cond.code ({ cls := "PackageBookModel", name := "toldAt", desc := "(I)I" } : Jvm.MethodName) prog_12_method_40_code (2 : Nat) (Option.some Jvm.ClassFile.FieldType.int)) ∈ uW := uW_of 1475 (by decide +kernel) (by decide +kernel)
theorem k_1474 : (Jvm.Cond.instanceMethod ({ cls := "PackageBookModel", name := "toldAt", desc := "(I)I" } : Jvm.MethodName)) ∈ uW := uW_of 1474 (by decide +kernel) (by decide +kernel)
theorem k_80 : Cond.selects "PackageBookModel" ⟨"PackageBookModel", "toldAt", "(I)I"⟩ ⟨"PackageBookModel", "toldAt", "(I)I"⟩ ∈ uW := uW_of 80 (by decide +kernel) (by decide +kernel)
theorem d_Mod_tell_175 : decode prog_12_method_42_code 175 = .ok (.iload 5, 2) := by decide +kernel
theorem d_Mod_tell_177 : decode prog_12_method_42_code 177 = .ok (.iastore, 1) := by decide +kernel
theorem d_Mod_tell_178 : decode prog_12_method_42_code 178 = .ok (.iinc 6 1, 3) := by decide +kernel
theorem d_Mod_tell_181 : decode prog_12_method_42_code 181 = .ok (.goto (-32), 3) := by decide +kernel
theorem d_Mod_tell_105 : decode prog_12_method_42_code 105 = .ok (.iload_n 3, 1) := by decide +kernel
theorem d_Mod_tell_106 : decode prog_12_method_42_code 106 = .ok (.bipush 16, 2) := by decide +kernel
theorem d_Mod_tell_108 : decode prog_12_method_42_code 108 = .ok (.if_icmp .ge 7, 3) := by decide +kernel
theorem d_Mod_tell_115 : decode prog_12_method_42_code 115 = .ok (.iload_n 3, 1) := by decide +kernel
theorem d_Mod_tell_116 : decode prog_12_method_42_code 116 = .ok (.bipush 16, 2) := by decide +kernel
theorem d_Mod_tell_118 : decode prog_12_method_42_code 118 = .ok (.if_icmp .ne 25, 3) := by decide +kernel
theorem d_Mod_tell_143 : decode prog_12_method_42_code 143 = .ok (.iconst 0, 1) := by decide +kernel
theorem d_Mod_tell_144 : decode prog_12_method_42_code 144 = .ok (.istore 5, 2) := by decide +kernel
theorem d_Mod_tell_121 : decode prog_12_method_42_code 121 = .ok (.aload_n 0, 1) := by decide +kernel
theorem d_Mod_tell_122 : decode prog_12_method_42_code 122 = .ok (.getfield 197, 3) := by decide +kernel
theorem d_Mod_tell_125 : decode prog_12_method_42_code 125 = .ok (.ifCond .ne 18, 3) := by decide +kernel
theorem d_Mod_tell_128 : decode prog_12_method_42_code 128 = .ok (.aload_n 0, 1) := by decide +kernel
theorem d_Mod_tell_129 : decode prog_12_method_42_code 129 = .ok (.getfield 72, 3) := by decide +kernel
theorem d_Mod_tell_132 : decode prog_12_method_42_code 132 = .ok (.aload_n 0, 1) := by decide +kernel
theorem d_Mod_tell_133 : decode prog_12_method_42_code 133 = .ok (.iload_n 1, 1) := by decide +kernel
theorem d_Mod_tell_134 : decode prog_12_method_42_code 134 = .ok (.iconst 1, 1) := by decide +kernel
theorem d_Mod_tell_135 : decode prog_12_method_42_code 135 = .ok (.isub, 1) := by decide +kernel
theorem d_Mod_tell_136 : decode prog_12_method_42_code 136 = .ok (.invokevirtual 242, 3) := by decide +kernel
theorem d_Mod_tell_139 : decode prog_12_method_42_code 139 = .ok (.iaload, 1) := by decide +kernel
theorem d_Mod_tell_140 : decode prog_12_method_42_code 140 = .ok (.goto 4, 3) := by decide +kernel
theorem d_Mod_tell_111 : decode prog_12_method_42_code 111 = .ok (.iload_n 3, 1) := by decide +kernel
theorem d_Mod_tell_112 : decode prog_12_method_42_code 112 = .ok (.goto 32, 3) := by decide +kernel
theorem d_Mod_tell_85 : decode prog_12_method_42_code 85 = .ok (.aload_n 0, 1) := by decide +kernel
theorem d_Mod_tell_86 : decode prog_12_method_42_code 86 = .ok (.getfield 197, 3) := by decide +kernel
theorem d_Mod_tell_89 : decode prog_12_method_42_code 89 = .ok (.ifCond .ne 16, 3) := by decide +kernel
theorem d_Mod_tell_92 : decode prog_12_method_42_code 92 = .ok (.iload_n 1, 1) := by decide +kernel
theorem d_Mod_tell_93 : decode prog_12_method_42_code 93 = .ok (.iload 4, 2) := by decide +kernel
theorem d_Mod_tell_95 : decode prog_12_method_42_code 95 = .ok (.iadd, 1) := by decide +kernel
theorem d_Mod_tell_96 : decode prog_12_method_42_code 96 = .ok (.iload_n 2, 1) := by decide +kernel
theorem d_Mod_tell_97 : decode prog_12_method_42_code 97 = .ok (.if_icmp .le 8, 3) := by decide +kernel
theorem d_Mod_tell_100 : decode prog_12_method_42_code 100 = .ok (.aload_n 0, 1) := by decide +kernel
theorem d_Mod_tell_101 : decode prog_12_method_42_code 101 = .ok (.iconst 4, 1) := by decide +kernel
theorem d_Mod_tell_102 : decode prog_12_method_42_code 102 = .ok (.invokevirtual 206, 3) := by decide +kernel
theorem d_Mod_tell_32 : decode prog_12_method_42_code 32 = .ok (.iload_n 3, 1) := by decide +kernel
theorem d_Mod_tell_33 : decode prog_12_method_42_code 33 = .ok (.bipush 16, 2) := by decide +kernel
theorem d_Mod_tell_35 : decode prog_12_method_42_code 35 = .ok (.if_icmp .ge 7, 3) := by decide +kernel
theorem d_Mod_tell_42 : decode prog_12_method_42_code 42 = .ok (.iload_n 3, 1) := by decide +kernel
theorem d_Mod_tell_43 : decode prog_12_method_42_code 43 = .ok (.bipush 16, 2) := by decide +kernel
theorem d_Mod_tell_45 : decode prog_12_method_42_code 45 = .ok (.if_icmp .ne 13, 3) := by decide +kernel
theorem d_Mod_tell_58 : decode prog_12_method_42_code 58 = .ok (.iload_n 3, 1) := by decide +kernel
theorem d_Mod_tell_59 : decode prog_12_method_42_code 59 = .ok (.bipush 17, 2) := by decide +kernel
theorem d_Mod_tell_61 : decode prog_12_method_42_code 61 = .ok (.if_icmp .ne 13, 3) := by decide +kernel
theorem d_Mod_tell_74 : decode prog_12_method_42_code 74 = .ok (.bipush 11, 2) := by decide +kernel
theorem d_Mod_tell_76 : decode prog_12_method_42_code 76 = .ok (.aload_n 0, 1) := by decide +kernel
theorem d_Mod_tell_77 : decode prog_12_method_42_code 77 = .ok (.bipush 7, 2) := by decide +kernel
theorem d_Mod_tell_79 : decode prog_12_method_42_code 79 = .ok (.invokevirtual 213, 3) := by decide +kernel
theorem d_Mod_tell_82 : decode prog_12_method_42_code 82 = .ok (.iadd, 1) := by decide +kernel
theorem d_Mod_tell_83 : decode prog_12_method_42_code 83 = .ok (.istore 4, 2) := by decide +kernel
theorem d_Mod_tell_64 : decode prog_12_method_42_code 64 = .ok (.iconst 3, 1) := by decide +kernel
theorem d_Mod_tell_65 : decode prog_12_method_42_code 65 = .ok (.aload_n 0, 1) := by decide +kernel
theorem d_Mod_tell_66 : decode prog_12_method_42_code 66 = .ok (.iconst 3, 1) := by decide +kernel
theorem d_Mod_tell_67 : decode prog_12_method_42_code 67 = .ok (.invokevirtual 213, 3) := by decide +kernel
theorem d_Mod_tell_70 : decode prog_12_method_42_code 70 = .ok (.iadd, 1) := by decide +kernel
theorem d_Mod_tell_71 : decode prog_12_method_42_code 71 = .ok (.goto 12, 3) := by decide +kernel
theorem d_Mod_tell_48 : decode prog_12_method_42_code 48 = .ok (.iconst 3, 1) := by decide +kernel
theorem d_Mod_tell_49 : decode prog_12_method_42_code 49 = .ok (.aload_n 0, 1) := by decide +kernel
theorem d_Mod_tell_50 : decode prog_12_method_42_code 50 = .ok (.iconst 2, 1) := by decide +kernel
theorem d_Mod_tell_51 : decode prog_12_method_42_code 51 = .ok (.invokevirtual 213, 3) := by decide +kernel
theorem d_Mod_tell_54 : decode prog_12_method_42_code 54 = .ok (.iadd, 1) := by decide +kernel
theorem d_Mod_tell_55 : decode prog_12_method_42_code 55 = .ok (.goto 28, 3) := by decide +kernel
theorem d_Mod_tell_38 : decode prog_12_method_42_code 38 = .ok (.iconst 1, 1) := by decide +kernel
theorem d_Mod_tell_39 : decode prog_12_method_42_code 39 = .ok (.goto 44, 3) := by decide +kernel
theorem d_Mod_tell_10 : decode prog_12_method_42_code 10 = .ok (.aload_n 0, 1) := by decide +kernel
theorem d_Mod_tell_11 : decode prog_12_method_42_code 11 = .ok (.getfield 197, 3) := by decide +kernel
theorem d_Mod_tell_14 : decode prog_12_method_42_code 14 = .ok (.ifCond .ne 18, 3) := by decide +kernel
theorem d_Mod_tell_17 : decode prog_12_method_42_code 17 = .ok (.iload_n 3, 1) := by decide +kernel
theorem d_Mod_tell_18 : decode prog_12_method_42_code 18 = .ok (.bipush 16, 2) := by decide +kernel
theorem d_Mod_tell_20 : decode prog_12_method_42_code 20 = .ok (.if_icmp .ne 12, 3) := by decide +kernel
theorem d_Mod_tell_23 : decode prog_12_method_42_code 23 = .ok (.iload_n 1, 1) := by decide +kernel
theorem d_Mod_tell_24 : decode prog_12_method_42_code 24 = .ok (.ifCond .ne 8, 3) := by decide +kernel
theorem d_Mod_tell_27 : decode prog_12_method_42_code 27 = .ok (.aload_n 0, 1) := by decide +kernel
theorem d_Mod_tell_28 : decode prog_12_method_42_code 28 = .ok (.iconst 4, 1) := by decide +kernel
theorem d_Mod_tell_29 : decode prog_12_method_42_code 29 = .ok (.invokevirtual 206, 3) := by decide +kernel
abbrev y_Mod_tell : MethodName := ⟨"PackageBookModel", "tell", "(II)I"⟩
abbrev i_Mod_tell : pb_I := (y_Mod_tell, prog_12_method_42_code, 7, (some Jvm.ClassFile.FieldType.int), [], { frames := 3, cells := 0, slots := 0, locals := 71 })
set_option maxRecDepth 100000 in
set_option maxHeartbeats 4000000 in
theorem g_Mod_tell {l : Launch} (hl : l.stackTraces = false) (G : pb_G) (h : Nat) (m_rels : Nat) (m_openRels : Nat) (m_closeRels : Nat) (m_openRel : Nat) (m_closeRel : Nat) (m_comment : Nat) (m_ends : Nat) (m_order : Nat) (m_tape : Nat) (m_count : Nat) (m_nameSize : Nat) (m_names : Nat) (m_size : Nat) (m_data : Nat) (m_looked : Nat) (m_file : Nat) (m_directory : Nat) (m_out : Nat) (m_row : Nat) (m_made : Nat) (m_length : Nat) (m_pressed : Nat) (m_mark : Nat) (m_idSize : Nat) (m_ids : Nat) (m_goalSize : Nat) (m_goals : Nat) (m_value : Nat) (m_faults : Nat) (m_reached : Nat) (v_thrown : Int32) (v_taped : Int32) (v_lookedSize : Int32) (v_fileSize : Int32) (v_directorySize : Int32) (v_outSize : Int32) (v_rowSize : Int32) (v_bitAt : Int32) (v_bitEnd : Int32) (v_why : Int32) (v_madeSize : Int32) (v_firstCount : Int32) (v_secondCount : Int32) (v_heldBits : Int32) (v_heldCount : Int32) (v_pressedSize : Int32) (v_at : Int32) (v_bad : Int32) (v_markSize : Int32) (v_relationCount : Int32) (v_valueSize : Int32) (v_faultCount : Int32) (a_row : Nat → Int32) (a_length : Nat → Int32) (k : Int32) (al : Int32) (a0 : 0 ≤ v_bitAt.toInt) (a1 : v_bitAt.toInt ≤ v_bitEnd.toInt) (a2 : v_bitEnd.toInt ≤ 160000) (a3 : 0 ≤ v_why.toInt) (LI : le_I a_length) (h0 : 0 ≤ k.toInt) (h1 : k.toInt ≤ al.toInt) (h2 : al.toInt = v_firstCount.toInt + v_secondCount.toInt) (h3 : 0 ≤ v_firstCount.toInt) (h4 : v_firstCount.toInt ≤ 300) (h5 : 0 ≤ v_secondCount.toInt) (h6 : v_secondCount.toInt ≤ 100) (F_a_row : sb_Fit a_row) : Cn l G i_Mod_tell [.ref h, .int k, .int al] [(h, .inr (10, [.ref m_rels, .ref m_openRels, .ref m_closeRels, .ref m_openRel, .ref m_closeRel, .ref m_comment, .ref m_ends, .ref m_order, .int v_thrown, .int v_taped, .ref m_tape, .ref m_count, .ref m_nameSize, .ref m_names, .ref m_size, .ref m_data, .int v_lookedSize, .ref m_looked, .int v_fileSize, .ref m_file, .int v_directorySize, .ref m_directory, .int v_outSize, .ref m_out, .int v_rowSize, .ref m_row, .int v_bitAt, .int v_bitEnd, .int v_why, .int v_madeSize, .ref m_made, .ref m_length, .int v_firstCount, .int v_secondCount, .int v_heldBits, .int v_heldCount, .int v_pressedSize, .ref m_pressed, .int v_at, .int v_bad, .int v_markSize, .ref m_mark, .int v_relationCount, .ref m_idSize, .ref m_ids, .ref m_goalSize, .ref m_goals, .int v_valueSize, .ref m_value, .int v_faultCount, .ref m_faults, .ref m_reached])), (m_row, .inl (G.2.1, 20000, .inl a_row)), (m_length, .inl (G.2.2.1, 420, .inl a_length))] (S := Int32 × Int32 × Int32 × (Nat → Int32)) (fun v u => v = some (.int u.1) ∧ (v_bitAt.toInt ≤ u.2.1.toInt) ∧ (u.2.1.toInt ≤ v_bitEnd.toInt) ∧ (0 ≤ u.2.2.1.toInt) ∧ (v_why.toInt ≠ 0 → u.2.2.1.toInt ≠ 0) ∧ (k.toInt < u.1.toInt) ∧ (u.2.2.1.toInt = 0 → u.1.toInt ≤ al.toInt) ∧ (le_I u.2.2.2)) (fun u => [(h, .inr (10, [.ref m_rels, .ref m_openRels, .ref m_closeRels, .ref m_openRel, .ref m_closeRel, .ref m_comment, .ref m_ends, .ref m_order, .int v_thrown, .int v_taped, .ref m_tape, .ref m_count, .ref m_nameSize, .ref m_names, .ref m_size, .ref m_data, .int v_lookedSize, .ref m_looked, .int v_fileSize, .ref m_file, .int v_directorySize, .ref m_directory, .int v_outSize, .ref m_out, .int v_rowSize, .ref m_row, .int u.2.1, .int v_bitEnd, .int u.2.2.1, .int v_madeSize, .ref m_made, .ref m_length, .int v_firstCount, .int v_secondCount, .int v_heldBits, .int v_heldCount, .int v_pressedSize, .ref m_pressed, .int v_at, .int v_bad, .int v_markSize, .ref m_mark, .int v_relationCount, .ref m_idSize, .ref m_ids, .ref m_goalSize, .ref m_goals, .int v_valueSize, .ref m_value, .int v_faultCount, .ref m_faults, .ref m_reached])), (m_row, .inl (G.2.1, 20000, .inl a_row)), (m_length, .inl (G.2.2.1, 420, .inl u.2.2.2))]) := by
  refine Cn.of hl (by decide +kernel) rfl (Nat.le_of_ble_eq_true rfl) (fun M hQ => ?_)
  refine pb_eq (pc' := 0) (lo' := [(0, .ref h), (1, .int k), (2, .int al)]) (rest' := []) (ws' := [(h, .inr (10, [.ref m_rels, .ref m_openRels, .ref m_closeRels, .ref m_openRel, .ref m_closeRel, .ref m_comment, .ref m_ends, .ref m_order, .int v_thrown, .int v_taped, .ref m_tape, .ref m_count, .ref m_nameSize, .ref m_names, .ref m_size, .ref m_data, .int v_lookedSize, .ref m_looked, .int v_fileSize, .ref m_file, .int v_directorySize, .ref m_directory, .int v_outSize, .ref m_out, .int v_rowSize, .ref m_row, .int v_bitAt, .int v_bitEnd, .int v_why, .int v_madeSize, .ref m_made, .ref m_length, .int v_firstCount, .int v_secondCount, .int v_heldBits, .int v_heldCount, .int v_pressedSize, .ref m_pressed, .int v_at, .int v_bad, .int v_markSize, .ref m_mark, .int v_relationCount, .ref m_idSize, .ref m_ids, .ref m_goalSize, .ref m_goals, .int v_valueSize, .ref m_value, .int v_faultCount, .ref m_faults, .ref m_reached])), (m_row, .inl (G.2.1, 20000, .inl a_row)), (m_length, .inl (G.2.2.1, 420, .inl a_length))]) ?_
  have zl0 : (0 : Int32).toInt = 0 := by decide
  have zl1 : (1 : Int32).toInt = 1 := by decide
  have zl2 : (2 : Int32).toInt = 2 := by decide
  have zl3 : (3 : Int32).toInt = 3 := by decide
  have zl4 : (4 : Int32).toInt = 4 := by decide
  have zl7 : (7 : Int32).toInt = 7 := by decide
  have zl11 : (11 : Int32).toInt = 11 := by decide
  have zl19 : (19 : Int32).toInt = 19 := by decide
  have zl400 : (400 : Int32).toInt = 400 := by decide
  have q2 : p2 (2 : Int32).toInt = 4 := by decide
  have q3 : p2 (3 : Int32).toInt = 8 := by decide
  have q7 : p2 (7 : Int32).toInt = 128 := by decide
  refine pb_aload_n (pc := 0) d_Mod_tell_0 0 rfl rfl ?_
  refine pb_sipush (pc := 1) (v := 400) d_Mod_tell_1 (by decide) ?_
  refine pb_bipush (pc := 4) (v := 19) d_Mod_tell_4 (by decide) ?_
  refine pb_callV (pc := 6) (qb := 0) (ci := 10) (nA := 2) (rest := []) (wr := []) d_Mod_tell_6 (g_Mod_symbol hl G h m_rels m_openRels m_closeRels m_openRel m_closeRel m_comment m_ends m_order m_tape m_count m_nameSize m_names m_size m_data m_looked m_file m_directory m_out m_row m_made m_length m_pressed m_mark m_idSize m_ids m_goalSize m_goals m_value m_faults m_reached v_thrown v_taped v_lookedSize v_fileSize v_directorySize v_outSize v_rowSize v_bitAt v_bitEnd v_why v_madeSize v_firstCount v_secondCount v_heldBits v_heldCount v_pressedSize v_at v_bad v_markSize v_relationCount v_valueSize v_faultCount a_row a_length 400 19 (by first | omega | assumption | decide) (by first | omega | assumption | decide) (by first | omega | assumption | decide) (by first | omega | assumption | decide) (by first | omega | assumption | decide) (by first | omega | assumption | decide) (by first | omega | assumption | decide) (by first | omega | assumption | decide) (by first | assumption | decide | omega) F_a_row) rfl rfl [0, 1, 2] [] (by decide) rfl rfl rfl (by decide) (by decide) k_1467 rfl k_128 k_1464 k_1466 k_78 (by decide +kernel) (by decide) rfl rfl (Nat.le_of_ble_eq_true rfl) (by decide) (fun v9 ux2 ch1 => ?_)
  obtain ⟨r_3, ba_4, w_5⟩ := ux2
  obtain ⟨ech1, ch1⟩ := ch1
  have ech1 : v9 = some (.int r_3) := ech1
  subst ech1
  obtain ⟨fh6, fh7, fh8, fh9, fh10, fh11, fh12⟩ : (0 ≤ r_3.toInt) ∧ (r_3.toInt < (19 : Int32).toInt) ∧ (v_bitAt.toInt ≤ ba_4.toInt) ∧ (ba_4.toInt ≤ v_bitEnd.toInt) ∧ (0 ≤ w_5.toInt) ∧ (v_why.toInt ≠ 0 → w_5.toInt ≠ 0) ∧ (w_5.toInt ≠ 0 ∨ v_bitAt.toInt < ba_4.toInt) := ch1
  refine pb_eq (pc' := 9) (lo' := [(0, .ref h), (1, .int k), (2, .int al)]) (rest' := [.int r_3]) (ws' := [(h, .inr (10, [.ref m_rels, .ref m_openRels, .ref m_closeRels, .ref m_openRel, .ref m_closeRel, .ref m_comment, .ref m_ends, .ref m_order, .int v_thrown, .int v_taped, .ref m_tape, .ref m_count, .ref m_nameSize, .ref m_names, .ref m_size, .ref m_data, .int v_lookedSize, .ref m_looked, .int v_fileSize, .ref m_file, .int v_directorySize, .ref m_directory, .int v_outSize, .ref m_out, .int v_rowSize, .ref m_row, .int ba_4, .int v_bitEnd, .int w_5, .int v_madeSize, .ref m_made, .ref m_length, .int v_firstCount, .int v_secondCount, .int v_heldBits, .int v_heldCount, .int v_pressedSize, .ref m_pressed, .int v_at, .int v_bad, .int v_markSize, .ref m_mark, .int v_relationCount, .ref m_idSize, .ref m_ids, .ref m_goalSize, .ref m_goals, .int v_valueSize, .ref m_value, .int v_faultCount, .ref m_faults, .ref m_reached])), (m_row, .inl (G.2.1, 20000, .inl a_row)), (m_length, .inl (G.2.2.1, 420, .inl a_length))]) ?_
  refine pb_istore_n (pc := 9) (lo' := [(3, .int r_3), (0, .ref h), (1, .int k), (2, .int al)]) d_Mod_tell_9 rfl (by decide) rfl ?_
  have hJ32_13 : ∀ (s : Int32) (ba3 : Int32) (w3 : Int32), (v_bitAt.toInt ≤ ba3.toInt) → (ba3.toInt ≤ v_bitEnd.toInt) → (0 ≤ w3.toInt) → (v_why.toInt ≠ 0 → w3.toInt ≠ 0) → (0 ≤ s.toInt) → (w3.toInt = 0 → s.toInt = 16 → 0 < k.toInt) → pb_P l G M i_Mod_tell 32 [(3, .int s), (1, .int k), (2, .int al), (0, .ref h)] [] [(h, .inr (10, [.ref m_rels, .ref m_openRels, .ref m_closeRels, .ref m_openRel, .ref m_closeRel, .ref m_comment, .ref m_ends, .ref m_order, .int v_thrown, .int v_taped, .ref m_tape, .ref m_count, .ref m_nameSize, .ref m_names, .ref m_size, .ref m_data, .int v_lookedSize, .ref m_looked, .int v_fileSize, .ref m_file, .int v_directorySize, .ref m_directory, .int v_outSize, .ref m_out, .int v_rowSize, .ref m_row, .int ba3, .int v_bitEnd, .int w3, .int v_madeSize, .ref m_made, .ref m_length, .int v_firstCount, .int v_secondCount, .int v_heldBits, .int v_heldCount, .int v_pressedSize, .ref m_pressed, .int v_at, .int v_bad, .int v_markSize, .ref m_mark, .int v_relationCount, .ref m_idSize, .ref m_ids, .ref m_goalSize, .ref m_goals, .int v_valueSize, .ref m_value, .int v_faultCount, .ref m_faults, .ref m_reached])), (m_row, .inl (G.2.1, 20000, .inl a_row)), (m_length, .inl (G.2.2.1, 420, .inl a_length))] 0 0 := by
    intro s ba3 w3 j0 j1 j2 j3 j4 j5
    have hJ85_14 : ∀ (m : Int32) (ba4 : Int32) (w4 : Int32), (v_bitAt.toInt ≤ ba4.toInt) → (ba4.toInt ≤ v_bitEnd.toInt) → (0 ≤ w4.toInt) → (v_why.toInt ≠ 0 → w4.toInt ≠ 0) → (1 ≤ m.toInt) → (m.toInt ≤ 200) → (w4.toInt = 0 → s.toInt = 16 → 0 < k.toInt) → pb_P l G M i_Mod_tell 85 [(4, .int m), (3, .int s), (1, .int k), (2, .int al), (0, .ref h)] [] [(h, .inr (10, [.ref m_rels, .ref m_openRels, .ref m_closeRels, .ref m_openRel, .ref m_closeRel, .ref m_comment, .ref m_ends, .ref m_order, .int v_thrown, .int v_taped, .ref m_tape, .ref m_count, .ref m_nameSize, .ref m_names, .ref m_size, .ref m_data, .int v_lookedSize, .ref m_looked, .int v_fileSize, .ref m_file, .int v_directorySize, .ref m_directory, .int v_outSize, .ref m_out, .int v_rowSize, .ref m_row, .int ba4, .int v_bitEnd, .int w4, .int v_madeSize, .ref m_made, .ref m_length, .int v_firstCount, .int v_secondCount, .int v_heldBits, .int v_heldCount, .int v_pressedSize, .ref m_pressed, .int v_at, .int v_bad, .int v_markSize, .ref m_mark, .int v_relationCount, .ref m_idSize, .ref m_ids, .ref m_goalSize, .ref m_goals, .int v_valueSize, .ref m_value, .int v_faultCount, .ref m_faults, .ref m_reached])), (m_row, .inl (G.2.1, 20000, .inl a_row)), (m_length, .inl (G.2.2.1, 420, .inl a_length))] 0 0 := by
      intro m ba4 w4 l0 l1 l2 l3 l4 l5 l6
      have hJ105_15 : ∀ (w5 : Int32), (0 ≤ w5.toInt) → (v_why.toInt ≠ 0 → w5.toInt ≠ 0) → (w5.toInt = 0 → k.toInt + m.toInt ≤ al.toInt) → (w5.toInt = 0 → s.toInt = 16 → 0 < k.toInt) → pb_P l G M i_Mod_tell 105 [(4, .int m), (3, .int s), (1, .int k), (2, .int al), (0, .ref h)] [] [(h, .inr (10, [.ref m_rels, .ref m_openRels, .ref m_closeRels, .ref m_openRel, .ref m_closeRel, .ref m_comment, .ref m_ends, .ref m_order, .int v_thrown, .int v_taped, .ref m_tape, .ref m_count, .ref m_nameSize, .ref m_names, .ref m_size, .ref m_data, .int v_lookedSize, .ref m_looked, .int v_fileSize, .ref m_file, .int v_directorySize, .ref m_directory, .int v_outSize, .ref m_out, .int v_rowSize, .ref m_row, .int ba4, .int v_bitEnd, .int w5, .int v_madeSize, .ref m_made, .ref m_length, .int v_firstCount, .int v_secondCount, .int v_heldBits, .int v_heldCount, .int v_pressedSize, .ref m_pressed, .int v_at, .int v_bad, .int v_markSize, .ref m_mark, .int v_relationCount, .ref m_idSize, .ref m_ids, .ref m_goalSize, .ref m_goals, .int v_valueSize, .ref m_value, .int v_faultCount, .ref m_faults, .ref m_reached])), (m_row, .inl (G.2.1, 20000, .inl a_row)), (m_length, .inl (G.2.2.1, 420, .inl a_length))] 0 0 := by
        intro w5 n2 n3 n4 n5
        have hJ146_16 : ∀ (v : Int32), (0 ≤ v.toInt) → (v.toInt ≤ 15) → pb_P l G M i_Mod_tell 146 [(5, .int v), (4, .int m), (1, .int k), (2, .int al), (0, .ref h)] [] [(h, .inr (10, [.ref m_rels, .ref m_openRels, .ref m_closeRels, .ref m_openRel, .ref m_closeRel, .ref m_comment, .ref m_ends, .ref m_order, .int v_thrown, .int v_taped, .ref m_tape, .ref m_count, .ref m_nameSize, .ref m_names, .ref m_size, .ref m_data, .int v_lookedSize, .ref m_looked, .int v_fileSize, .ref m_file, .int v_directorySize, .ref m_directory, .int v_outSize, .ref m_out, .int v_rowSize, .ref m_row, .int ba4, .int v_bitEnd, .int w5, .int v_madeSize, .ref m_made, .ref m_length, .int v_firstCount, .int v_secondCount, .int v_heldBits, .int v_heldCount, .int v_pressedSize, .ref m_pressed, .int v_at, .int v_bad, .int v_markSize, .ref m_mark, .int v_relationCount, .ref m_idSize, .ref m_ids, .ref m_goalSize, .ref m_goals, .int v_valueSize, .ref m_value, .int v_faultCount, .ref m_faults, .ref m_reached])), (m_row, .inl (G.2.1, 20000, .inl a_row)), (m_length, .inl (G.2.2.1, 420, .inl a_length))] 0 0 := by
          intro v o0 o1
          refine pb_iconst (pc := 146) (v := 0) d_Mod_tell_146 (by decide) ?_
          refine pb_istore (pc := 147) (lo' := [(6, .int 0), (5, .int v), (4, .int m), (1, .int k), (2, .int al), (0, .ref h)]) d_Mod_tell_147 (by decide) rfl ?_
          have hL149_17 : ∀ (N9 : Nat) (i : Int32) (g : Nat → Int32), (0 ≤ i.toInt) → (le_I g) → ((m.toInt - i.toInt).toNat) < N9 → pb_P l G M i_Mod_tell 149 [(6, .int i), (5, .int v), (4, .int m), (1, .int k), (2, .int al), (0, .ref h)] [] [(h, .inr (10, [.ref m_rels, .ref m_openRels, .ref m_closeRels, .ref m_openRel, .ref m_closeRel, .ref m_comment, .ref m_ends, .ref m_order, .int v_thrown, .int v_taped, .ref m_tape, .ref m_count, .ref m_nameSize, .ref m_names, .ref m_size, .ref m_data, .int v_lookedSize, .ref m_looked, .int v_fileSize, .ref m_file, .int v_directorySize, .ref m_directory, .int v_outSize, .ref m_out, .int v_rowSize, .ref m_row, .int ba4, .int v_bitEnd, .int w5, .int v_madeSize, .ref m_made, .ref m_length, .int v_firstCount, .int v_secondCount, .int v_heldBits, .int v_heldCount, .int v_pressedSize, .ref m_pressed, .int v_at, .int v_bad, .int v_markSize, .ref m_mark, .int v_relationCount, .ref m_idSize, .ref m_ids, .ref m_goalSize, .ref m_goals, .int v_valueSize, .ref m_value, .int v_faultCount, .ref m_faults, .ref m_reached])), (m_row, .inl (G.2.1, 20000, .inl a_row)), (m_length, .inl (G.2.2.1, 420, .inl g))] 0 0 := by
            intro N9
            induction N9 with
            | zero => intro i g i0 li hm9; exact absurd hm9 (Nat.not_lt_zero _)
            | succ N9 ih149 =>
              intro i g i0 li hm9
              refine pb_iload (pc := 149) d_Mod_tell_149 0 rfl ?_
              refine pb_iload (pc := 151) d_Mod_tell_151 2 rfl ?_
              refine pb_icmp_ge (pc := 153) (tgt := 184) d_Mod_tell_153 (by decide) (fun wx18 => ?_) (fun wx18 => ?_)
              · have twx18 : m.toInt ≤ i.toInt := (ti_le rfl rfl).mp wx18
                refine pb_iload_n (pc := 184) d_Mod_tell_184 3 rfl rfl ?_
                refine pb_iload (pc := 185) d_Mod_tell_185 2 rfl ?_
                refine pb_iadd (pc := 187) d_Mod_tell_187 ?_
                refine pb_topi (fun ix19 eix19 => ?_)
                try have tix19 : ix19.toInt = k.toInt + m.toInt := t2_add eix19 rfl rfl (by omega)
                exact pb_iret (pc := 188) hQ d_Mod_tell_188 rfl rfl (ix19, ba4, w5, g) ⟨rfl, (by (try dsimp only); first | omega | assumption | decide), (by (try dsimp only); first | omega | assumption | decide), (by (try dsimp only); first | omega | assumption | decide), (by (try dsimp only); first | omega | assumption | decide), (by (try dsimp only); first | omega | assumption | decide), (by (try dsimp only); first | omega | assumption | decide), li⟩ [0, 1, 2] (by decide) rfl rfl (by decide) (by decide)
              · have twx18 : ¬ m.toInt ≤ i.toInt := fun z9 => wx18 ((ti_le rfl rfl).mpr z9)
                refine pb_aload_n (pc := 156) d_Mod_tell_156 5 rfl rfl ?_
                refine pb_get (pc := 157) d_Mod_tell_157 0 28 rfl rfl (by decide) in_Mod k_1174 rfl ?_
                refine pb_if_ne (pc := 160) (tgt := 184) d_Mod_tell_160 (by decide) (fun wx20 => ?_) (fun wx20 => ?_)
                · have twx20 : ¬ w5.toInt = 0 := fun z9 => wx20 ((ti_eq rfl (by decide)).mpr z9)
                  refine pb_iload_n (pc := 184) d_Mod_tell_184 3 rfl rfl ?_
                  refine pb_iload (pc := 185) d_Mod_tell_185 2 rfl ?_
                  refine pb_iadd (pc := 187) d_Mod_tell_187 ?_
                  refine pb_topi (fun ix21 eix21 => ?_)
                  try have tix21 : ix21.toInt = k.toInt + m.toInt := t2_add eix21 rfl rfl (by omega)
                  exact pb_iret (pc := 188) hQ d_Mod_tell_188 rfl rfl (ix21, ba4, w5, g) ⟨rfl, (by (try dsimp only); first | omega | assumption | decide), (by (try dsimp only); first | omega | assumption | decide), (by (try dsimp only); first | omega | assumption | decide), (by (try dsimp only); first | omega | assumption | decide), (by (try dsimp only); first | omega | assumption | decide), (by (try dsimp only); first | omega | assumption | decide), li⟩ [0, 1, 2] (by decide) rfl rfl (by decide) (by decide)
                · have twx20 : w5.toInt = 0 := (ti_eq rfl (by decide)).mp wx20
                  refine pb_aload_n (pc := 163) d_Mod_tell_163 5 rfl rfl ?_
                  refine pb_get (pc := 164) d_Mod_tell_164 0 31 rfl rfl (by decide) in_Mod k_1177 rfl ?_
                  refine pb_aload_n (pc := 167) d_Mod_tell_167 5 rfl rfl ?_
                  refine pb_iload_n (pc := 168) d_Mod_tell_168 3 rfl rfl ?_
                  refine pb_iload (pc := 169) d_Mod_tell_169 0 rfl ?_
                  refine pb_iadd (pc := 171) d_Mod_tell_171 ?_
                  refine pb_topi (fun ix22 eix22 => ?_)
                  try have tix22 : ix22.toInt = k.toInt + i.toInt := t2_add eix22 rfl rfl (by omega)
                  refine pb_callV (pc := 172) (qb := 0) (ci := 10) (nA := 1) (rest := [.ref m_length]) (wr := [(m_row, .inl (G.2.1, 20000, .inl a_row)), (m_length, .inl (G.2.2.1, 420, .inl g))]) d_Mod_tell_172 (g_Mod_toldAt hl G h m_rels m_openRels m_closeRels m_openRel m_closeRel m_comment m_ends m_order m_tape m_count m_nameSize m_names m_size m_data m_looked m_file m_directory m_out m_row m_made m_length m_pressed m_mark m_idSize m_ids m_goalSize m_goals m_value m_faults m_reached v_thrown v_taped v_lookedSize v_fileSize v_directorySize v_outSize v_rowSize ba4 v_bitEnd w5 v_madeSize v_firstCount v_secondCount v_heldBits v_heldCount v_pressedSize v_at v_bad v_markSize v_relationCount v_valueSize v_faultCount ix22 (by first | omega | assumption | decide) (by first | omega | assumption | decide) (by first | omega | assumption | decide) (by first | omega | assumption | decide)) rfl rfl [0] [1, 2] (by decide) rfl rfl rfl (by decide) (by decide) k_1475 rfl k_128 k_1472 k_1474 k_80 (by decide +kernel) (by decide) rfl rfl (Nat.le_of_ble_eq_true rfl) (by decide) (fun v9 ux24 ch23 => ?_)
                  obtain ⟨r_25, rfl⟩ : ∃ z9, z9 = ux24 := ⟨_, rfl⟩
                  obtain ⟨ech23, ch23⟩ := ch23
                  have ech23 : v9 = some (.int r_25) := ech23
                  subst ech23
                  obtain ⟨fh26, fh27⟩ : (ix22.toInt < v_firstCount.toInt → r_25.toInt = ix22.toInt) ∧ (v_firstCount.toInt ≤ ix22.toInt → r_25.toInt = 300 + ix22.toInt - v_firstCount.toInt) := ch23
                  refine pb_eq (pc' := 175) (lo' := [(6, .int i), (5, .int v), (4, .int m), (1, .int k), (2, .int al), (0, .ref h)]) (rest' := [.int r_25, .ref m_length]) (ws' := [(m_row, .inl (G.2.1, 20000, .inl a_row)), (m_length, .inl (G.2.2.1, 420, .inl g)), (h, .inr (10, [.ref m_rels, .ref m_openRels, .ref m_closeRels, .ref m_openRel, .ref m_closeRel, .ref m_comment, .ref m_ends, .ref m_order, .int v_thrown, .int v_taped, .ref m_tape, .ref m_count, .ref m_nameSize, .ref m_names, .ref m_size, .ref m_data, .int v_lookedSize, .ref m_looked, .int v_fileSize, .ref m_file, .int v_directorySize, .ref m_directory, .int v_outSize, .ref m_out, .int v_rowSize, .ref m_row, .int ba4, .int v_bitEnd, .int w5, .int v_madeSize, .ref m_made, .ref m_length, .int v_firstCount, .int v_secondCount, .int v_heldBits, .int v_heldCount, .int v_pressedSize, .ref m_pressed, .int v_at, .int v_bad, .int v_markSize, .ref m_mark, .int v_relationCount, .ref m_idSize, .ref m_ids, .ref m_goalSize, .ref m_goals, .int v_valueSize, .ref m_value, .int v_faultCount, .ref m_faults, .ref m_reached]))]) ?_
                  refine pb_iload (pc := 175) d_Mod_tell_175 1 rfl ?_
                  refine pb_iast (pc := 177) (ws' := [(m_row, .inl (G.2.1, 20000, .inl a_row)), (m_length, .inl (G.2.2.1, 420, .inl (upd g ((r_25 : Int32).toNatClampNeg) v))), (h, .inr (10, [.ref m_rels, .ref m_openRels, .ref m_closeRels, .ref m_openRel, .ref m_closeRel, .ref m_comment, .ref m_ends, .ref m_order, .int v_thrown, .int v_taped, .ref m_tape, .ref m_count, .ref m_nameSize, .ref m_names, .ref m_size, .ref m_data, .int v_lookedSize, .ref m_looked, .int v_fileSize, .ref m_file, .int v_directorySize, .ref m_directory, .int v_outSize, .ref m_out, .int v_rowSize, .ref m_row, .int ba4, .int v_bitEnd, .int w5, .int v_madeSize, .ref m_made, .ref m_length, .int v_firstCount, .int v_secondCount, .int v_heldBits, .int v_heldCount, .int v_pressedSize, .ref m_pressed, .int v_at, .int v_bad, .int v_markSize, .ref m_mark, .int v_relationCount, .ref m_idSize, .ref m_ids, .ref m_goalSize, .ref m_goals, .int v_valueSize, .ref m_value, .int v_faultCount, .ref m_faults, .ref m_reached]))]) d_Mod_tell_177 1 rfl (vp_in_iff.mpr (by omega)) rfl ?_
                  refine pb_iincN (pc := 178) (c := 1) d_Mod_tell_178 0 rfl (by decide) (by decide) (fun ix28 eix28 => ?_)
                  have tix28 : ix28.toInt = i.toInt + 1 := t2_add eix28 rfl (by decide) (by first | omega | (have r90 := ti_rng i; have r91 := ti_rng ix28; have r92 := ti_rng v; have r93 := ti_rng m; have r94 := ti_rng k; have r95 := ti_rng al; omega))
                  refine pb_eq (pc' := 181) (lo' := [(6, .int ix28), (5, .int v), (4, .int m), (1, .int k), (2, .int al), (0, .ref h)]) (rest' := []) (ws' := [(m_row, .inl (G.2.1, 20000, .inl a_row)), (m_length, .inl (G.2.2.1, 420, .inl (upd g ((r_25 : Int32).toNatClampNeg) v))), (h, .inr (10, [.ref m_rels, .ref m_openRels, .ref m_closeRels, .ref m_openRel, .ref m_closeRel, .ref m_comment, .ref m_ends, .ref m_order, .int v_thrown, .int v_taped, .ref m_tape, .ref m_count, .ref m_nameSize, .ref m_names, .ref m_size, .ref m_data, .int v_lookedSize, .ref m_looked, .int v_fileSize, .ref m_file, .int v_directorySize, .ref m_directory, .int v_outSize, .ref m_out, .int v_rowSize, .ref m_row, .int ba4, .int v_bitEnd, .int w5, .int v_madeSize, .ref m_made, .ref m_length, .int v_firstCount, .int v_secondCount, .int v_heldBits, .int v_heldCount, .int v_pressedSize, .ref m_pressed, .int v_at, .int v_bad, .int v_markSize, .ref m_mark, .int v_relationCount, .ref m_idSize, .ref m_ids, .ref m_goalSize, .ref m_goals, .int v_valueSize, .ref m_value, .int v_faultCount, .ref m_faults, .ref m_reached]))]) ?_
                  refine pb_goto (pc := 181) (tgt := 149) d_Mod_tell_181 (by decide) ?_
                  refine pb_re (ws' := [(h, .inr (10, [.ref m_rels, .ref m_openRels, .ref m_closeRels, .ref m_openRel, .ref m_closeRel, .ref m_comment, .ref m_ends, .ref m_order, .int v_thrown, .int v_taped, .ref m_tape, .ref m_count, .ref m_nameSize, .ref m_names, .ref m_size, .ref m_data, .int v_lookedSize, .ref m_looked, .int v_fileSize, .ref m_file, .int v_directorySize, .ref m_directory, .int v_outSize, .ref m_out, .int v_rowSize, .ref m_row, .int ba4, .int v_bitEnd, .int w5, .int v_madeSize, .ref m_made, .ref m_length, .int v_firstCount, .int v_secondCount, .int v_heldBits, .int v_heldCount, .int v_pressedSize, .ref m_pressed, .int v_at, .int v_bad, .int v_markSize, .ref m_mark, .int v_relationCount, .ref m_idSize, .ref m_ids, .ref m_goalSize, .ref m_goals, .int v_valueSize, .ref m_value, .int v_faultCount, .ref m_faults, .ref m_reached])), (m_row, .inl (G.2.1, 20000, .inl a_row)), (m_length, .inl (G.2.2.1, 420, .inl (upd g ((r_25 : Int32).toNatClampNeg) v)))]) (lo' := [(6, .int ix28), (5, .int v), (4, .int m), (1, .int k), (2, .int al), (0, .ref h)]) [2, 0, 1] [0, 1, 2, 3, 4, 5] (by decide) rfl rfl rfl ?_
                  exact ih149 ix28 (upd g ((r_25 : Int32).toNatClampNeg) v) (by first | omega | assumption | decide) (le_upd li (by omega) (by first | omega | decide)) (by omega)
          exact hL149_17 _ 0 a_length (by first | omega | assumption | decide) (by first | assumption | decide | omega) (Nat.lt_succ_self _)
        refine pb_iload_n (pc := 105) d_Mod_tell_105 1 rfl rfl ?_
        refine pb_bipush (pc := 106) (v := 16) d_Mod_tell_106 (by decide) ?_
        refine pb_icmp_ge (pc := 108) (tgt := 115) d_Mod_tell_108 (by decide) (fun wx29 => ?_) (fun wx29 => ?_)
        · have twx29 : 16 ≤ s.toInt := (ti_le (by decide) rfl).mp wx29
          refine pb_iload_n (pc := 115) d_Mod_tell_115 1 rfl rfl ?_
          refine pb_bipush (pc := 116) (v := 16) d_Mod_tell_116 (by decide) ?_
          refine pb_icmp_ne (pc := 118) (tgt := 143) d_Mod_tell_118 (by decide) (fun wx30 => ?_) (fun wx30 => ?_)
          · have twx30 : ¬ s.toInt = 16 := fun z9 => wx30 ((ti_eq rfl (by decide)).mpr z9)
            refine pb_iconst (pc := 143) (v := 0) d_Mod_tell_143 (by decide) ?_
            refine pb_istore (pc := 144) (lo' := [(5, .int 0), (4, .int m), (3, .int s), (1, .int k), (2, .int al), (0, .ref h)]) d_Mod_tell_144 (by decide) rfl ?_
            refine pb_re (ws' := [(h, .inr (10, [.ref m_rels, .ref m_openRels, .ref m_closeRels, .ref m_openRel, .ref m_closeRel, .ref m_comment, .ref m_ends, .ref m_order, .int v_thrown, .int v_taped, .ref m_tape, .ref m_count, .ref m_nameSize, .ref m_names, .ref m_size, .ref m_data, .int v_lookedSize, .ref m_looked, .int v_fileSize, .ref m_file, .int v_directorySize, .ref m_directory, .int v_outSize, .ref m_out, .int v_rowSize, .ref m_row, .int ba4, .int v_bitEnd, .int w5, .int v_madeSize, .ref m_made, .ref m_length, .int v_firstCount, .int v_secondCount, .int v_heldBits, .int v_heldCount, .int v_pressedSize, .ref m_pressed, .int v_at, .int v_bad, .int v_markSize, .ref m_mark, .int v_relationCount, .ref m_idSize, .ref m_ids, .ref m_goalSize, .ref m_goals, .int v_valueSize, .ref m_value, .int v_faultCount, .ref m_faults, .ref m_reached])), (m_row, .inl (G.2.1, 20000, .inl a_row)), (m_length, .inl (G.2.2.1, 420, .inl a_length))]) (lo' := [(5, .int 0), (4, .int m), (1, .int k), (2, .int al), (0, .ref h)]) [0, 1, 2] [0, 1, 3, 4, 5] (by decide) rfl rfl rfl ?_
            exact hJ146_16 0 (by first | omega | assumption | decide) (by first | omega | assumption | decide)
          · have twx30 : s.toInt = 16 := (ti_eq rfl (by decide)).mp wx30
            refine pb_aload_n (pc := 121) d_Mod_tell_121 4 rfl rfl ?_
            refine pb_get (pc := 122) d_Mod_tell_122 0 28 rfl rfl (by decide) in_Mod k_1174 rfl ?_
            refine pb_if_ne (pc := 125) (tgt := 143) d_Mod_tell_125 (by decide) (fun wx31 => ?_) (fun wx31 => ?_)
            · have twx31 : ¬ w5.toInt = 0 := fun z9 => wx31 ((ti_eq rfl (by decide)).mpr z9)
              refine pb_iconst (pc := 143) (v := 0) d_Mod_tell_143 (by decide) ?_
              refine pb_istore (pc := 144) (lo' := [(5, .int 0), (4, .int m), (3, .int s), (1, .int k), (2, .int al), (0, .ref h)]) d_Mod_tell_144 (by decide) rfl ?_
              refine pb_re (ws' := [(h, .inr (10, [.ref m_rels, .ref m_openRels, .ref m_closeRels, .ref m_openRel, .ref m_closeRel, .ref m_comment, .ref m_ends, .ref m_order, .int v_thrown, .int v_taped, .ref m_tape, .ref m_count, .ref m_nameSize, .ref m_names, .ref m_size, .ref m_data, .int v_lookedSize, .ref m_looked, .int v_fileSize, .ref m_file, .int v_directorySize, .ref m_directory, .int v_outSize, .ref m_out, .int v_rowSize, .ref m_row, .int ba4, .int v_bitEnd, .int w5, .int v_madeSize, .ref m_made, .ref m_length, .int v_firstCount, .int v_secondCount, .int v_heldBits, .int v_heldCount, .int v_pressedSize, .ref m_pressed, .int v_at, .int v_bad, .int v_markSize, .ref m_mark, .int v_relationCount, .ref m_idSize, .ref m_ids, .ref m_goalSize, .ref m_goals, .int v_valueSize, .ref m_value, .int v_faultCount, .ref m_faults, .ref m_reached])), (m_row, .inl (G.2.1, 20000, .inl a_row)), (m_length, .inl (G.2.2.1, 420, .inl a_length))]) (lo' := [(5, .int 0), (4, .int m), (1, .int k), (2, .int al), (0, .ref h)]) [0, 1, 2] [0, 1, 3, 4, 5] (by decide) rfl rfl rfl ?_
              exact hJ146_16 0 (by first | omega | assumption | decide) (by first | omega | assumption | decide)
            · have twx31 : w5.toInt = 0 := (ti_eq rfl (by decide)).mp wx31
              refine pb_aload_n (pc := 128) d_Mod_tell_128 4 rfl rfl ?_
              refine pb_get (pc := 129) d_Mod_tell_129 0 31 rfl rfl (by decide) in_Mod k_1177 rfl ?_
              refine pb_aload_n (pc := 132) d_Mod_tell_132 4 rfl rfl ?_
              refine pb_iload_n (pc := 133) d_Mod_tell_133 2 rfl rfl ?_
              refine pb_iconst (pc := 134) (v := 1) d_Mod_tell_134 (by decide) ?_
              refine pb_isub (pc := 135) d_Mod_tell_135 ?_
              refine pb_topi (fun ix32 eix32 => ?_)
              try have tix32 : ix32.toInt = k.toInt - 1 := t2_sub eix32 rfl (by decide) (by omega)
              refine pb_callV (pc := 136) (qb := 0) (ci := 10) (nA := 1) (rest := [.ref m_length]) (wr := [(m_row, .inl (G.2.1, 20000, .inl a_row)), (m_length, .inl (G.2.2.1, 420, .inl a_length))]) d_Mod_tell_136 (g_Mod_toldAt hl G h m_rels m_openRels m_closeRels m_openRel m_closeRel m_comment m_ends m_order m_tape m_count m_nameSize m_names m_size m_data m_looked m_file m_directory m_out m_row m_made m_length m_pressed m_mark m_idSize m_ids m_goalSize m_goals m_value m_faults m_reached v_thrown v_taped v_lookedSize v_fileSize v_directorySize v_outSize v_rowSize ba4 v_bitEnd w5 v_madeSize v_firstCount v_secondCount v_heldBits v_heldCount v_pressedSize v_at v_bad v_markSize v_relationCount v_valueSize v_faultCount ix32 (by first | omega | assumption | decide) (by first | omega | assumption | decide) (by first | omega | assumption | decide) (by first | omega | assumption | decide)) rfl rfl [0] [1, 2] (by decide) rfl rfl rfl (by decide) (by decide) k_1475 rfl k_128 k_1472 k_1474 k_80 (by decide +kernel) (by decide) rfl rfl (Nat.le_of_ble_eq_true rfl) (by decide) (fun v9 ux34 ch33 => ?_)
              obtain ⟨r_35, rfl⟩ : ∃ z9, z9 = ux34 := ⟨_, rfl⟩
              obtain ⟨ech33, ch33⟩ := ch33
              have ech33 : v9 = some (.int r_35) := ech33
              subst ech33
              obtain ⟨fh36, fh37⟩ : (ix32.toInt < v_firstCount.toInt → r_35.toInt = ix32.toInt) ∧ (v_firstCount.toInt ≤ ix32.toInt → r_35.toInt = 300 + ix32.toInt - v_firstCount.toInt) := ch33
              refine pb_eq (pc' := 139) (lo' := [(4, .int m), (3, .int s), (1, .int k), (2, .int al), (0, .ref h)]) (rest' := [.int r_35, .ref m_length]) (ws' := [(m_row, .inl (G.2.1, 20000, .inl a_row)), (m_length, .inl (G.2.2.1, 420, .inl a_length)), (h, .inr (10, [.ref m_rels, .ref m_openRels, .ref m_closeRels, .ref m_openRel, .ref m_closeRel, .ref m_comment, .ref m_ends, .ref m_order, .int v_thrown, .int v_taped, .ref m_tape, .ref m_count, .ref m_nameSize, .ref m_names, .ref m_size, .ref m_data, .int v_lookedSize, .ref m_looked, .int v_fileSize, .ref m_file, .int v_directorySize, .ref m_directory, .int v_outSize, .ref m_out, .int v_rowSize, .ref m_row, .int ba4, .int v_bitEnd, .int w5, .int v_madeSize, .ref m_made, .ref m_length, .int v_firstCount, .int v_secondCount, .int v_heldBits, .int v_heldCount, .int v_pressedSize, .ref m_pressed, .int v_at, .int v_bad, .int v_markSize, .ref m_mark, .int v_relationCount, .ref m_idSize, .ref m_ids, .ref m_goalSize, .ref m_goals, .int v_valueSize, .ref m_value, .int v_faultCount, .ref m_faults, .ref m_reached]))]) ?_
              refine pb_iald (pc := 139) d_Mod_tell_139 1 rfl (vp_in_iff.mpr (by omega)) ?_
              refine pb_topi (fun ix38 eix38 => ?_)
              have tix38 : ix38.toInt = gx a_length (r_35.toInt) := gx_ld eix38 rfl
              have lv := LI r_35.toInt (by omega) (by omega)
              refine pb_goto (pc := 140) (tgt := 144) d_Mod_tell_140 (by decide) ?_
              refine pb_istore (pc := 144) (lo' := [(5, .int ix38), (4, .int m), (3, .int s), (1, .int k), (2, .int al), (0, .ref h)]) d_Mod_tell_144 (by decide) rfl ?_
              refine pb_re (ws' := [(h, .inr (10, [.ref m_rels, .ref m_openRels, .ref m_closeRels, .ref m_openRel, .ref m_closeRel, .ref m_comment, .ref m_ends, .ref m_order, .int v_thrown, .int v_taped, .ref m_tape, .ref m_count, .ref m_nameSize, .ref m_names, .ref m_size, .ref m_data, .int v_lookedSize, .ref m_looked, .int v_fileSize, .ref m_file, .int v_directorySize, .ref m_directory, .int v_outSize, .ref m_out, .int v_rowSize, .ref m_row, .int ba4, .int v_bitEnd, .int w5, .int v_madeSize, .ref m_made, .ref m_length, .int v_firstCount, .int v_secondCount, .int v_heldBits, .int v_heldCount, .int v_pressedSize, .ref m_pressed, .int v_at, .int v_bad, .int v_markSize, .ref m_mark, .int v_relationCount, .ref m_idSize, .ref m_ids, .ref m_goalSize, .ref m_goals, .int v_valueSize, .ref m_value, .int v_faultCount, .ref m_faults, .ref m_reached])), (m_row, .inl (G.2.1, 20000, .inl a_row)), (m_length, .inl (G.2.2.1, 420, .inl a_length))]) (lo' := [(5, .int ix38), (4, .int m), (1, .int k), (2, .int al), (0, .ref h)]) [2, 0, 1] [0, 1, 3, 4, 5] (by decide) rfl rfl rfl ?_
              exact hJ146_16 ix38 (by first | omega | assumption | decide) (by first | omega | assumption | decide)
        · have twx29 : ¬ 16 ≤ s.toInt := fun z9 => wx29 ((ti_le (by decide) rfl).mpr z9)
          refine pb_iload_n (pc := 111) d_Mod_tell_111 1 rfl rfl ?_
          refine pb_goto (pc := 112) (tgt := 144) d_Mod_tell_112 (by decide) ?_
          refine pb_istore (pc := 144) (lo' := [(5, .int s), (4, .int m), (3, .int s), (1, .int k), (2, .int al), (0, .ref h)]) d_Mod_tell_144 (by decide) rfl ?_
          refine pb_re (ws' := [(h, .inr (10, [.ref m_rels, .ref m_openRels, .ref m_closeRels, .ref m_openRel, .ref m_closeRel, .ref m_comment, .ref m_ends, .ref m_order, .int v_thrown, .int v_taped, .ref m_tape, .ref m_count, .ref m_nameSize, .ref m_names, .ref m_size, .ref m_data, .int v_lookedSize, .ref m_looked, .int v_fileSize, .ref m_file, .int v_directorySize, .ref m_directory, .int v_outSize, .ref m_out, .int v_rowSize, .ref m_row, .int ba4, .int v_bitEnd, .int w5, .int v_madeSize, .ref m_made, .ref m_length, .int v_firstCount, .int v_secondCount, .int v_heldBits, .int v_heldCount, .int v_pressedSize, .ref m_pressed, .int v_at, .int v_bad, .int v_markSize, .ref m_mark, .int v_relationCount, .ref m_idSize, .ref m_ids, .ref m_goalSize, .ref m_goals, .int v_valueSize, .ref m_value, .int v_faultCount, .ref m_faults, .ref m_reached])), (m_row, .inl (G.2.1, 20000, .inl a_row)), (m_length, .inl (G.2.2.1, 420, .inl a_length))]) (lo' := [(5, .int s), (4, .int m), (1, .int k), (2, .int al), (0, .ref h)]) [0, 1, 2] [0, 1, 3, 4, 5] (by decide) rfl rfl rfl ?_
          exact hJ146_16 s (by first | omega | assumption | decide) (by first | omega | assumption | decide)
      refine pb_aload_n (pc := 85) d_Mod_tell_85 4 rfl rfl ?_
      refine pb_get (pc := 86) d_Mod_tell_86 0 28 rfl rfl (by decide) in_Mod k_1174 rfl ?_
      refine pb_if_ne (pc := 89) (tgt := 105) d_Mod_tell_89 (by decide) (fun wx39 => ?_) (fun wx39 => ?_)
      · have twx39 : ¬ w4.toInt = 0 := fun z9 => wx39 ((ti_eq rfl (by decide)).mpr z9)
        exact hJ105_15 w4 (by first | omega | assumption | decide) (by first | omega | assumption | decide) (by first | omega | assumption | decide) (by first | omega | assumption | decide)
      · have twx39 : w4.toInt = 0 := (ti_eq rfl (by decide)).mp wx39
        refine pb_iload_n (pc := 92) d_Mod_tell_92 2 rfl rfl ?_
        refine pb_iload (pc := 93) d_Mod_tell_93 0 rfl ?_
        refine pb_iadd (pc := 95) d_Mod_tell_95 ?_
        refine pb_topi (fun ix40 eix40 => ?_)
        try have tix40 : ix40.toInt = k.toInt + m.toInt := t2_add eix40 rfl rfl (by omega)
        refine pb_iload_n (pc := 96) d_Mod_tell_96 3 rfl rfl ?_
        refine pb_icmp_le (pc := 97) (tgt := 105) d_Mod_tell_97 (by decide) (fun wx41 => ?_) (fun wx41 => ?_)
        · have twx41 : ix40.toInt ≤ al.toInt := (ti_le rfl rfl).mp wx41
          exact hJ105_15 w4 (by first | omega | assumption | decide) (by first | omega | assumption | decide) (by first | omega | assumption | decide) (by first | omega | assumption | decide)
        · have twx41 : ¬ ix40.toInt ≤ al.toInt := fun z9 => wx41 ((ti_le rfl rfl).mpr z9)
          refine pb_aload_n (pc := 100) d_Mod_tell_100 4 rfl rfl ?_
          refine pb_iconst (pc := 101) (v := 4) d_Mod_tell_101 (by decide) ?_
          refine pb_callV (pc := 102) (qb := 0) (ci := 10) (nA := 1) (rest := []) (wr := [(m_row, .inl (G.2.1, 20000, .inl a_row)), (m_length, .inl (G.2.2.1, 420, .inl a_length))]) d_Mod_tell_102 (g_Mod_fail hl G h m_rels m_openRels m_closeRels m_openRel m_closeRel m_comment m_ends m_order m_tape m_count m_nameSize m_names m_size m_data m_looked m_file m_directory m_out m_row m_made m_length m_pressed m_mark m_idSize m_ids m_goalSize m_goals m_value m_faults m_reached v_thrown v_taped v_lookedSize v_fileSize v_directorySize v_outSize v_rowSize ba4 v_bitEnd w4 v_madeSize v_firstCount v_secondCount v_heldBits v_heldCount v_pressedSize v_at v_bad v_markSize v_relationCount v_valueSize v_faultCount 4 (by first | omega | assumption | decide) (by first | omega | assumption | decide)) rfl rfl [0] [1, 2] (by decide) rfl rfl rfl (by decide) (by decide) k_1434 rfl k_128 k_1431 k_1433 k_70 (by decide +kernel) (by decide) rfl rfl (Nat.le_of_ble_eq_true rfl) (by decide) (fun v9 ux43 ch42 => ?_)
          obtain ⟨w_44, rfl⟩ : ∃ z9, z9 = ux43 := ⟨_, rfl⟩
          obtain ⟨ech42, ch42⟩ := ch42
          have ech42 : v9 = none := ech42
          subst ech42
          have fh45 : 0 < w_44.toInt := ch42
          refine pb_eq (pc' := 105) (lo' := [(4, .int m), (3, .int s), (1, .int k), (2, .int al), (0, .ref h)]) (rest' := []) (ws' := [(m_row, .inl (G.2.1, 20000, .inl a_row)), (m_length, .inl (G.2.2.1, 420, .inl a_length)), (h, .inr (10, [.ref m_rels, .ref m_openRels, .ref m_closeRels, .ref m_openRel, .ref m_closeRel, .ref m_comment, .ref m_ends, .ref m_order, .int v_thrown, .int v_taped, .ref m_tape, .ref m_count, .ref m_nameSize, .ref m_names, .ref m_size, .ref m_data, .int v_lookedSize, .ref m_looked, .int v_fileSize, .ref m_file, .int v_directorySize, .ref m_directory, .int v_outSize, .ref m_out, .int v_rowSize, .ref m_row, .int ba4, .int v_bitEnd, .int w_44, .int v_madeSize, .ref m_made, .ref m_length, .int v_firstCount, .int v_secondCount, .int v_heldBits, .int v_heldCount, .int v_pressedSize, .ref m_pressed, .int v_at, .int v_bad, .int v_markSize, .ref m_mark, .int v_relationCount, .ref m_idSize, .ref m_ids, .ref m_goalSize, .ref m_goals, .int v_valueSize, .ref m_value, .int v_faultCount, .ref m_faults, .ref m_reached]))]) ?_
          refine pb_re (ws' := [(h, .inr (10, [.ref m_rels, .ref m_openRels, .ref m_closeRels, .ref m_openRel, .ref m_closeRel, .ref m_comment, .ref m_ends, .ref m_order, .int v_thrown, .int v_taped, .ref m_tape, .ref m_count, .ref m_nameSize, .ref m_names, .ref m_size, .ref m_data, .int v_lookedSize, .ref m_looked, .int v_fileSize, .ref m_file, .int v_directorySize, .ref m_directory, .int v_outSize, .ref m_out, .int v_rowSize, .ref m_row, .int ba4, .int v_bitEnd, .int w_44, .int v_madeSize, .ref m_made, .ref m_length, .int v_firstCount, .int v_secondCount, .int v_heldBits, .int v_heldCount, .int v_pressedSize, .ref m_pressed, .int v_at, .int v_bad, .int v_markSize, .ref m_mark, .int v_relationCount, .ref m_idSize, .ref m_ids, .ref m_goalSize, .ref m_goals, .int v_valueSize, .ref m_value, .int v_faultCount, .ref m_faults, .ref m_reached])), (m_row, .inl (G.2.1, 20000, .inl a_row)), (m_length, .inl (G.2.2.1, 420, .inl a_length))]) (lo' := [(4, .int m), (3, .int s), (1, .int k), (2, .int al), (0, .ref h)]) [2, 0, 1] [0, 1, 2, 3, 4] (by decide) rfl rfl rfl ?_
          exact hJ105_15 w_44 (by first | omega | assumption | decide) (by first | omega | assumption | decide) (by first | omega | assumption | decide) (by first | omega | assumption | decide)
    refine pb_iload_n (pc := 32) d_Mod_tell_32 0 rfl rfl ?_
    refine pb_bipush (pc := 33) (v := 16) d_Mod_tell_33 (by decide) ?_
    refine pb_icmp_ge (pc := 35) (tgt := 42) d_Mod_tell_35 (by decide) (fun wx46 => ?_) (fun wx46 => ?_)
    · have twx46 : 16 ≤ s.toInt := (ti_le (by decide) rfl).mp wx46
      refine pb_iload_n (pc := 42) d_Mod_tell_42 0 rfl rfl ?_
      refine pb_bipush (pc := 43) (v := 16) d_Mod_tell_43 (by decide) ?_
      refine pb_icmp_ne (pc := 45) (tgt := 58) d_Mod_tell_45 (by decide) (fun wx47 => ?_) (fun wx47 => ?_)
      · have twx47 : ¬ s.toInt = 16 := fun z9 => wx47 ((ti_eq rfl (by decide)).mpr z9)
        refine pb_iload_n (pc := 58) d_Mod_tell_58 0 rfl rfl ?_
        refine pb_bipush (pc := 59) (v := 17) d_Mod_tell_59 (by decide) ?_
        refine pb_icmp_ne (pc := 61) (tgt := 74) d_Mod_tell_61 (by decide) (fun wx48 => ?_) (fun wx48 => ?_)
        · have twx48 : ¬ s.toInt = 17 := fun z9 => wx48 ((ti_eq rfl (by decide)).mpr z9)
          refine pb_bipush (pc := 74) (v := 11) d_Mod_tell_74 (by decide) ?_
          refine pb_aload_n (pc := 76) d_Mod_tell_76 3 rfl rfl ?_
          refine pb_bipush (pc := 77) (v := 7) d_Mod_tell_77 (by decide) ?_
          refine pb_callV (pc := 79) (qb := 0) (ci := 10) (nA := 1) (rest := [.int 11]) (wr := [(m_length, .inl (G.2.2.1, 420, .inl a_length))]) d_Mod_tell_79 (g_Mod_number hl G h m_rels m_openRels m_closeRels m_openRel m_closeRel m_comment m_ends m_order m_tape m_count m_nameSize m_names m_size m_data m_looked m_file m_directory m_out m_row m_made m_length m_pressed m_mark m_idSize m_ids m_goalSize m_goals m_value m_faults m_reached v_thrown v_taped v_lookedSize v_fileSize v_directorySize v_outSize v_rowSize ba3 v_bitEnd w3 v_madeSize v_firstCount v_secondCount v_heldBits v_heldCount v_pressedSize v_at v_bad v_markSize v_relationCount v_valueSize v_faultCount a_row 7 (by first | omega | assumption | decide) (by first | omega | assumption | decide) (by first | omega | assumption | decide) (by first | omega | assumption | decide) (by first | omega | assumption | decide) (by first | omega | assumption | decide) (by first | assumption | decide | omega)) rfl rfl [0, 1] [2] (by decide) rfl rfl rfl (by decide) (by decide) k_1430 rfl k_128 k_1427 k_1429 k_69 (by decide +kernel) (by decide) rfl rfl (Nat.le_of_ble_eq_true rfl) (by decide) (fun v9 ux50 ch49 => ?_)
          obtain ⟨r_51, ba_52, w_53⟩ := ux50
          obtain ⟨ech49, ch49⟩ := ch49
          have ech49 : v9 = some (.int r_51) := ech49
          subst ech49
          obtain ⟨fh54, fh55, fh56, fh57, fh58, fh59, fh60, fh61⟩ : (0 ≤ r_51.toInt) ∧ (r_51.toInt < p2 (7 : Int32).toInt) ∧ (r_51.toInt ≤ 65535) ∧ (ba3.toInt ≤ ba_52.toInt) ∧ (ba_52.toInt ≤ v_bitEnd.toInt) ∧ (0 ≤ w_53.toInt) ∧ (w3.toInt ≠ 0 → w_53.toInt ≠ 0) ∧ (w_53.toInt = 0 → ba_52.toInt = ba3.toInt + (7 : Int32).toInt) := ch49
          refine pb_eq (pc' := 82) (lo' := [(3, .int s), (1, .int k), (2, .int al), (0, .ref h)]) (rest' := [.int r_51, .int 11]) (ws' := [(m_length, .inl (G.2.2.1, 420, .inl a_length)), (h, .inr (10, [.ref m_rels, .ref m_openRels, .ref m_closeRels, .ref m_openRel, .ref m_closeRel, .ref m_comment, .ref m_ends, .ref m_order, .int v_thrown, .int v_taped, .ref m_tape, .ref m_count, .ref m_nameSize, .ref m_names, .ref m_size, .ref m_data, .int v_lookedSize, .ref m_looked, .int v_fileSize, .ref m_file, .int v_directorySize, .ref m_directory, .int v_outSize, .ref m_out, .int v_rowSize, .ref m_row, .int ba_52, .int v_bitEnd, .int w_53, .int v_madeSize, .ref m_made, .ref m_length, .int v_firstCount, .int v_secondCount, .int v_heldBits, .int v_heldCount, .int v_pressedSize, .ref m_pressed, .int v_at, .int v_bad, .int v_markSize, .ref m_mark, .int v_relationCount, .ref m_idSize, .ref m_ids, .ref m_goalSize, .ref m_goals, .int v_valueSize, .ref m_value, .int v_faultCount, .ref m_faults, .ref m_reached])), (m_row, .inl (G.2.1, 20000, .inl a_row))]) ?_
          refine pb_iadd (pc := 82) d_Mod_tell_82 ?_
          refine pb_topi (fun ix62 eix62 => ?_)
          try have tix62 : ix62.toInt = 11 + r_51.toInt := t2_add eix62 (by decide) rfl (by omega)
          refine pb_istore (pc := 83) (lo' := [(4, .int ix62), (3, .int s), (1, .int k), (2, .int al), (0, .ref h)]) d_Mod_tell_83 (by decide) rfl ?_
          refine pb_re (ws' := [(h, .inr (10, [.ref m_rels, .ref m_openRels, .ref m_closeRels, .ref m_openRel, .ref m_closeRel, .ref m_comment, .ref m_ends, .ref m_order, .int v_thrown, .int v_taped, .ref m_tape, .ref m_count, .ref m_nameSize, .ref m_names, .ref m_size, .ref m_data, .int v_lookedSize, .ref m_looked, .int v_fileSize, .ref m_file, .int v_directorySize, .ref m_directory, .int v_outSize, .ref m_out, .int v_rowSize, .ref m_row, .int ba_52, .int v_bitEnd, .int w_53, .int v_madeSize, .ref m_made, .ref m_length, .int v_firstCount, .int v_secondCount, .int v_heldBits, .int v_heldCount, .int v_pressedSize, .ref m_pressed, .int v_at, .int v_bad, .int v_markSize, .ref m_mark, .int v_relationCount, .ref m_idSize, .ref m_ids, .ref m_goalSize, .ref m_goals, .int v_valueSize, .ref m_value, .int v_faultCount, .ref m_faults, .ref m_reached])), (m_row, .inl (G.2.1, 20000, .inl a_row)), (m_length, .inl (G.2.2.1, 420, .inl a_length))]) (lo' := [(4, .int ix62), (3, .int s), (1, .int k), (2, .int al), (0, .ref h)]) [1, 2, 0] [0, 1, 2, 3, 4] (by decide) rfl rfl rfl ?_
          exact hJ85_14 ix62 ba_52 w_53 (by first | omega | assumption | decide) (by first | omega | assumption | decide) (by first | omega | assumption | decide) (by first | omega | assumption | decide) (by first | omega | assumption | decide) (by first | omega | assumption | decide) (by first | omega | assumption | decide)
        · have twx48 : s.toInt = 17 := (ti_eq rfl (by decide)).mp wx48
          refine pb_iconst (pc := 64) (v := 3) d_Mod_tell_64 (by decide) ?_
          refine pb_aload_n (pc := 65) d_Mod_tell_65 3 rfl rfl ?_
          refine pb_iconst (pc := 66) (v := 3) d_Mod_tell_66 (by decide) ?_
          refine pb_callV (pc := 67) (qb := 0) (ci := 10) (nA := 1) (rest := [.int 3]) (wr := [(m_length, .inl (G.2.2.1, 420, .inl a_length))]) d_Mod_tell_67 (g_Mod_number hl G h m_rels m_openRels m_closeRels m_openRel m_closeRel m_comment m_ends m_order m_tape m_count m_nameSize m_names m_size m_data m_looked m_file m_directory m_out m_row m_made m_length m_pressed m_mark m_idSize m_ids m_goalSize m_goals m_value m_faults m_reached v_thrown v_taped v_lookedSize v_fileSize v_directorySize v_outSize v_rowSize ba3 v_bitEnd w3 v_madeSize v_firstCount v_secondCount v_heldBits v_heldCount v_pressedSize v_at v_bad v_markSize v_relationCount v_valueSize v_faultCount a_row 3 (by first | omega | assumption | decide) (by first | omega | assumption | decide) (by first | omega | assumption | decide) (by first | omega | assumption | decide) (by first | omega | assumption | decide) (by first | omega | assumption | decide) (by first | assumption | decide | omega)) rfl rfl [0, 1] [2] (by decide) rfl rfl rfl (by decide) (by decide) k_1430 rfl k_128 k_1427 k_1429 k_69 (by decide +kernel) (by decide) rfl rfl (Nat.le_of_ble_eq_true rfl) (by decide) (fun v9 ux64 ch63 => ?_)
          obtain ⟨r_65, ba_66, w_67⟩ := ux64
          obtain ⟨ech63, ch63⟩ := ch63
          have ech63 : v9 = some (.int r_65) := ech63
          subst ech63
          obtain ⟨fh68, fh69, fh70, fh71, fh72, fh73, fh74, fh75⟩ : (0 ≤ r_65.toInt) ∧ (r_65.toInt < p2 (3 : Int32).toInt) ∧ (r_65.toInt ≤ 65535) ∧ (ba3.toInt ≤ ba_66.toInt) ∧ (ba_66.toInt ≤ v_bitEnd.toInt) ∧ (0 ≤ w_67.toInt) ∧ (w3.toInt ≠ 0 → w_67.toInt ≠ 0) ∧ (w_67.toInt = 0 → ba_66.toInt = ba3.toInt + (3 : Int32).toInt) := ch63
          refine pb_eq (pc' := 70) (lo' := [(3, .int s), (1, .int k), (2, .int al), (0, .ref h)]) (rest' := [.int r_65, .int 3]) (ws' := [(m_length, .inl (G.2.2.1, 420, .inl a_length)), (h, .inr (10, [.ref m_rels, .ref m_openRels, .ref m_closeRels, .ref m_openRel, .ref m_closeRel, .ref m_comment, .ref m_ends, .ref m_order, .int v_thrown, .int v_taped, .ref m_tape, .ref m_count, .ref m_nameSize, .ref m_names, .ref m_size, .ref m_data, .int v_lookedSize, .ref m_looked, .int v_fileSize, .ref m_file, .int v_directorySize, .ref m_directory, .int v_outSize, .ref m_out, .int v_rowSize, .ref m_row, .int ba_66, .int v_bitEnd, .int w_67, .int v_madeSize, .ref m_made, .ref m_length, .int v_firstCount, .int v_secondCount, .int v_heldBits, .int v_heldCount, .int v_pressedSize, .ref m_pressed, .int v_at, .int v_bad, .int v_markSize, .ref m_mark, .int v_relationCount, .ref m_idSize, .ref m_ids, .ref m_goalSize, .ref m_goals, .int v_valueSize, .ref m_value, .int v_faultCount, .ref m_faults, .ref m_reached])), (m_row, .inl (G.2.1, 20000, .inl a_row))]) ?_
          refine pb_iadd (pc := 70) d_Mod_tell_70 ?_
          refine pb_topi (fun ix76 eix76 => ?_)
          try have tix76 : ix76.toInt = 3 + r_65.toInt := t2_add eix76 (by decide) rfl (by omega)
          refine pb_goto (pc := 71) (tgt := 83) d_Mod_tell_71 (by decide) ?_
          refine pb_istore (pc := 83) (lo' := [(4, .int ix76), (3, .int s), (1, .int k), (2, .int al), (0, .ref h)]) d_Mod_tell_83 (by decide) rfl ?_
          refine pb_re (ws' := [(h, .inr (10, [.ref m_rels, .ref m_openRels, .ref m_closeRels, .ref m_openRel, .ref m_closeRel, .ref m_comment, .ref m_ends, .ref m_order, .int v_thrown, .int v_taped, .ref m_tape, .ref m_count, .ref m_nameSize, .ref m_names, .ref m_size, .ref m_data, .int v_lookedSize, .ref m_looked, .int v_fileSize, .ref m_file, .int v_directorySize, .ref m_directory, .int v_outSize, .ref m_out, .int v_rowSize, .ref m_row, .int ba_66, .int v_bitEnd, .int w_67, .int v_madeSize, .ref m_made, .ref m_length, .int v_firstCount, .int v_secondCount, .int v_heldBits, .int v_heldCount, .int v_pressedSize, .ref m_pressed, .int v_at, .int v_bad, .int v_markSize, .ref m_mark, .int v_relationCount, .ref m_idSize, .ref m_ids, .ref m_goalSize, .ref m_goals, .int v_valueSize, .ref m_value, .int v_faultCount, .ref m_faults, .ref m_reached])), (m_row, .inl (G.2.1, 20000, .inl a_row)), (m_length, .inl (G.2.2.1, 420, .inl a_length))]) (lo' := [(4, .int ix76), (3, .int s), (1, .int k), (2, .int al), (0, .ref h)]) [1, 2, 0] [0, 1, 2, 3, 4] (by decide) rfl rfl rfl ?_
          exact hJ85_14 ix76 ba_66 w_67 (by first | omega | assumption | decide) (by first | omega | assumption | decide) (by first | omega | assumption | decide) (by first | omega | assumption | decide) (by first | omega | assumption | decide) (by first | omega | assumption | decide) (by first | omega | assumption | decide)
      · have twx47 : s.toInt = 16 := (ti_eq rfl (by decide)).mp wx47
        refine pb_iconst (pc := 48) (v := 3) d_Mod_tell_48 (by decide) ?_
        refine pb_aload_n (pc := 49) d_Mod_tell_49 3 rfl rfl ?_
        refine pb_iconst (pc := 50) (v := 2) d_Mod_tell_50 (by decide) ?_
        refine pb_callV (pc := 51) (qb := 0) (ci := 10) (nA := 1) (rest := [.int 3]) (wr := [(m_length, .inl (G.2.2.1, 420, .inl a_length))]) d_Mod_tell_51 (g_Mod_number hl G h m_rels m_openRels m_closeRels m_openRel m_closeRel m_comment m_ends m_order m_tape m_count m_nameSize m_names m_size m_data m_looked m_file m_directory m_out m_row m_made m_length m_pressed m_mark m_idSize m_ids m_goalSize m_goals m_value m_faults m_reached v_thrown v_taped v_lookedSize v_fileSize v_directorySize v_outSize v_rowSize ba3 v_bitEnd w3 v_madeSize v_firstCount v_secondCount v_heldBits v_heldCount v_pressedSize v_at v_bad v_markSize v_relationCount v_valueSize v_faultCount a_row 2 (by first | omega | assumption | decide) (by first | omega | assumption | decide) (by first | omega | assumption | decide) (by first | omega | assumption | decide) (by first | omega | assumption | decide) (by first | omega | assumption | decide) (by first | assumption | decide | omega)) rfl rfl [0, 1] [2] (by decide) rfl rfl rfl (by decide) (by decide) k_1430 rfl k_128 k_1427 k_1429 k_69 (by decide +kernel) (by decide) rfl rfl (Nat.le_of_ble_eq_true rfl) (by decide) (fun v9 ux78 ch77 => ?_)
        obtain ⟨r_79, ba_80, w_81⟩ := ux78
        obtain ⟨ech77, ch77⟩ := ch77
        have ech77 : v9 = some (.int r_79) := ech77
        subst ech77
        obtain ⟨fh82, fh83, fh84, fh85, fh86, fh87, fh88, fh89⟩ : (0 ≤ r_79.toInt) ∧ (r_79.toInt < p2 (2 : Int32).toInt) ∧ (r_79.toInt ≤ 65535) ∧ (ba3.toInt ≤ ba_80.toInt) ∧ (ba_80.toInt ≤ v_bitEnd.toInt) ∧ (0 ≤ w_81.toInt) ∧ (w3.toInt ≠ 0 → w_81.toInt ≠ 0) ∧ (w_81.toInt = 0 → ba_80.toInt = ba3.toInt + (2 : Int32).toInt) := ch77
        refine pb_eq (pc' := 54) (lo' := [(3, .int s), (1, .int k), (2, .int al), (0, .ref h)]) (rest' := [.int r_79, .int 3]) (ws' := [(m_length, .inl (G.2.2.1, 420, .inl a_length)), (h, .inr (10, [.ref m_rels, .ref m_openRels, .ref m_closeRels, .ref m_openRel, .ref m_closeRel, .ref m_comment, .ref m_ends, .ref m_order, .int v_thrown, .int v_taped, .ref m_tape, .ref m_count, .ref m_nameSize, .ref m_names, .ref m_size, .ref m_data, .int v_lookedSize, .ref m_looked, .int v_fileSize, .ref m_file, .int v_directorySize, .ref m_directory, .int v_outSize, .ref m_out, .int v_rowSize, .ref m_row, .int ba_80, .int v_bitEnd, .int w_81, .int v_madeSize, .ref m_made, .ref m_length, .int v_firstCount, .int v_secondCount, .int v_heldBits, .int v_heldCount, .int v_pressedSize, .ref m_pressed, .int v_at, .int v_bad, .int v_markSize, .ref m_mark, .int v_relationCount, .ref m_idSize, .ref m_ids, .ref m_goalSize, .ref m_goals, .int v_valueSize, .ref m_value, .int v_faultCount, .ref m_faults, .ref m_reached])), (m_row, .inl (G.2.1, 20000, .inl a_row))]) ?_
        refine pb_iadd (pc := 54) d_Mod_tell_54 ?_
        refine pb_topi (fun ix90 eix90 => ?_)
        try have tix90 : ix90.toInt = 3 + r_79.toInt := t2_add eix90 (by decide) rfl (by omega)
        refine pb_goto (pc := 55) (tgt := 83) d_Mod_tell_55 (by decide) ?_
        refine pb_istore (pc := 83) (lo' := [(4, .int ix90), (3, .int s), (1, .int k), (2, .int al), (0, .ref h)]) d_Mod_tell_83 (by decide) rfl ?_
        refine pb_re (ws' := [(h, .inr (10, [.ref m_rels, .ref m_openRels, .ref m_closeRels, .ref m_openRel, .ref m_closeRel, .ref m_comment, .ref m_ends, .ref m_order, .int v_thrown, .int v_taped, .ref m_tape, .ref m_count, .ref m_nameSize, .ref m_names, .ref m_size, .ref m_data, .int v_lookedSize, .ref m_looked, .int v_fileSize, .ref m_file, .int v_directorySize, .ref m_directory, .int v_outSize, .ref m_out, .int v_rowSize, .ref m_row, .int ba_80, .int v_bitEnd, .int w_81, .int v_madeSize, .ref m_made, .ref m_length, .int v_firstCount, .int v_secondCount, .int v_heldBits, .int v_heldCount, .int v_pressedSize, .ref m_pressed, .int v_at, .int v_bad, .int v_markSize, .ref m_mark, .int v_relationCount, .ref m_idSize, .ref m_ids, .ref m_goalSize, .ref m_goals, .int v_valueSize, .ref m_value, .int v_faultCount, .ref m_faults, .ref m_reached])), (m_row, .inl (G.2.1, 20000, .inl a_row)), (m_length, .inl (G.2.2.1, 420, .inl a_length))]) (lo' := [(4, .int ix90), (3, .int s), (1, .int k), (2, .int al), (0, .ref h)]) [1, 2, 0] [0, 1, 2, 3, 4] (by decide) rfl rfl rfl ?_
        exact hJ85_14 ix90 ba_80 w_81 (by first | omega | assumption | decide) (by first | omega | assumption | decide) (by first | omega | assumption | decide) (by first | omega | assumption | decide) (by first | omega | assumption | decide) (by first | omega | assumption | decide) (by first | omega | assumption | decide)
    · have twx46 : ¬ 16 ≤ s.toInt := fun z9 => wx46 ((ti_le (by decide) rfl).mpr z9)
      refine pb_iconst (pc := 38) (v := 1) d_Mod_tell_38 (by decide) ?_
      refine pb_goto (pc := 39) (tgt := 83) d_Mod_tell_39 (by decide) ?_
      refine pb_istore (pc := 83) (lo' := [(4, .int 1), (3, .int s), (1, .int k), (2, .int al), (0, .ref h)]) d_Mod_tell_83 (by decide) rfl ?_
      exact hJ85_14 1 ba3 w3 (by first | omega | assumption | decide) (by first | omega | assumption | decide) (by first | omega | assumption | decide) (by first | omega | assumption | decide) (by first | omega | assumption | decide) (by first | omega | assumption | decide) (by first | omega | assumption | decide)
  refine pb_aload_n (pc := 10) d_Mod_tell_10 1 rfl rfl ?_
  refine pb_get (pc := 11) d_Mod_tell_11 0 28 rfl rfl (by decide) in_Mod k_1174 rfl ?_
  refine pb_if_ne (pc := 14) (tgt := 32) d_Mod_tell_14 (by decide) (fun wx91 => ?_) (fun wx91 => ?_)
  · have twx91 : ¬ w_5.toInt = 0 := fun z9 => wx91 ((ti_eq rfl (by decide)).mpr z9)
    refine pb_re (ws' := [(h, .inr (10, [.ref m_rels, .ref m_openRels, .ref m_closeRels, .ref m_openRel, .ref m_closeRel, .ref m_comment, .ref m_ends, .ref m_order, .int v_thrown, .int v_taped, .ref m_tape, .ref m_count, .ref m_nameSize, .ref m_names, .ref m_size, .ref m_data, .int v_lookedSize, .ref m_looked, .int v_fileSize, .ref m_file, .int v_directorySize, .ref m_directory, .int v_outSize, .ref m_out, .int v_rowSize, .ref m_row, .int ba_4, .int v_bitEnd, .int w_5, .int v_madeSize, .ref m_made, .ref m_length, .int v_firstCount, .int v_secondCount, .int v_heldBits, .int v_heldCount, .int v_pressedSize, .ref m_pressed, .int v_at, .int v_bad, .int v_markSize, .ref m_mark, .int v_relationCount, .ref m_idSize, .ref m_ids, .ref m_goalSize, .ref m_goals, .int v_valueSize, .ref m_value, .int v_faultCount, .ref m_faults, .ref m_reached])), (m_row, .inl (G.2.1, 20000, .inl a_row)), (m_length, .inl (G.2.2.1, 420, .inl a_length))]) (lo' := [(3, .int r_3), (1, .int k), (2, .int al), (0, .ref h)]) [0, 1, 2] [0, 2, 3, 1] (by decide) rfl rfl rfl ?_
    exact hJ32_13 r_3 ba_4 w_5 (by first | omega | assumption | decide) (by first | omega | assumption | decide) (by first | omega | assumption | decide) (by first | omega | assumption | decide) (by first | omega | assumption | decide) (by first | omega | assumption | decide)
  · have twx91 : w_5.toInt = 0 := (ti_eq rfl (by decide)).mp wx91
    refine pb_iload_n (pc := 17) d_Mod_tell_17 0 rfl rfl ?_
    refine pb_bipush (pc := 18) (v := 16) d_Mod_tell_18 (by decide) ?_
    refine pb_icmp_ne (pc := 20) (tgt := 32) d_Mod_tell_20 (by decide) (fun wx92 => ?_) (fun wx92 => ?_)
    · have twx92 : ¬ r_3.toInt = 16 := fun z9 => wx92 ((ti_eq rfl (by decide)).mpr z9)
      refine pb_re (ws' := [(h, .inr (10, [.ref m_rels, .ref m_openRels, .ref m_closeRels, .ref m_openRel, .ref m_closeRel, .ref m_comment, .ref m_ends, .ref m_order, .int v_thrown, .int v_taped, .ref m_tape, .ref m_count, .ref m_nameSize, .ref m_names, .ref m_size, .ref m_data, .int v_lookedSize, .ref m_looked, .int v_fileSize, .ref m_file, .int v_directorySize, .ref m_directory, .int v_outSize, .ref m_out, .int v_rowSize, .ref m_row, .int ba_4, .int v_bitEnd, .int w_5, .int v_madeSize, .ref m_made, .ref m_length, .int v_firstCount, .int v_secondCount, .int v_heldBits, .int v_heldCount, .int v_pressedSize, .ref m_pressed, .int v_at, .int v_bad, .int v_markSize, .ref m_mark, .int v_relationCount, .ref m_idSize, .ref m_ids, .ref m_goalSize, .ref m_goals, .int v_valueSize, .ref m_value, .int v_faultCount, .ref m_faults, .ref m_reached])), (m_row, .inl (G.2.1, 20000, .inl a_row)), (m_length, .inl (G.2.2.1, 420, .inl a_length))]) (lo' := [(3, .int r_3), (1, .int k), (2, .int al), (0, .ref h)]) [0, 1, 2] [0, 2, 3, 1] (by decide) rfl rfl rfl ?_
      exact hJ32_13 r_3 ba_4 w_5 (by first | omega | assumption | decide) (by first | omega | assumption | decide) (by first | omega | assumption | decide) (by first | omega | assumption | decide) (by first | omega | assumption | decide) (by first | omega | assumption | decide)
    · have twx92 : r_3.toInt = 16 := (ti_eq rfl (by decide)).mp wx92
      refine pb_iload_n (pc := 23) d_Mod_tell_23 2 rfl rfl ?_
      refine pb_if_ne (pc := 24) (tgt := 32) d_Mod_tell_24 (by decide) (fun wx93 => ?_) (fun wx93 => ?_)
      · have twx93 : ¬ k.toInt = 0 := fun z9 => wx93 ((ti_eq rfl (by decide)).mpr z9)
        refine pb_re (ws' := [(h, .inr (10, [.ref m_rels, .ref m_openRels, .ref m_closeRels, .ref m_openRel, .ref m_closeRel, .ref m_comment, .ref m_ends, .ref m_order, .int v_thrown, .int v_taped, .ref m_tape, .ref m_count, .ref m_nameSize, .ref m_names, .ref m_size, .ref m_data, .int v_lookedSize, .ref m_looked, .int v_fileSize, .ref m_file, .int v_directorySize, .ref m_directory, .int v_outSize, .ref m_out, .int v_rowSize, .ref m_row, .int ba_4, .int v_bitEnd, .int w_5, .int v_madeSize, .ref m_made, .ref m_length, .int v_firstCount, .int v_secondCount, .int v_heldBits, .int v_heldCount, .int v_pressedSize, .ref m_pressed, .int v_at, .int v_bad, .int v_markSize, .ref m_mark, .int v_relationCount, .ref m_idSize, .ref m_ids, .ref m_goalSize, .ref m_goals, .int v_valueSize, .ref m_value, .int v_faultCount, .ref m_faults, .ref m_reached])), (m_row, .inl (G.2.1, 20000, .inl a_row)), (m_length, .inl (G.2.2.1, 420, .inl a_length))]) (lo' := [(3, .int r_3), (1, .int k), (2, .int al), (0, .ref h)]) [0, 1, 2] [0, 2, 3, 1] (by decide) rfl rfl rfl ?_
        exact hJ32_13 r_3 ba_4 w_5 (by first | omega | assumption | decide) (by first | omega | assumption | decide) (by first | omega | assumption | decide) (by first | omega | assumption | decide) (by first | omega | assumption | decide) (by first | omega | assumption | decide)
      · have twx93 : k.toInt = 0 := (ti_eq rfl (by decide)).mp wx93
        refine pb_aload_n (pc := 27) d_Mod_tell_27 1 rfl rfl ?_
        refine pb_iconst (pc := 28) (v := 4) d_Mod_tell_28 (by decide) ?_
        refine pb_callV (pc := 29) (qb := 0) (ci := 10) (nA := 1) (rest := []) (wr := [(m_row, .inl (G.2.1, 20000, .inl a_row)), (m_length, .inl (G.2.2.1, 420, .inl a_length))]) d_Mod_tell_29 (g_Mod_fail hl G h m_rels m_openRels m_closeRels m_openRel m_closeRel m_comment m_ends m_order m_tape m_count m_nameSize m_names m_size m_data m_looked m_file m_directory m_out m_row m_made m_length m_pressed m_mark m_idSize m_ids m_goalSize m_goals m_value m_faults m_reached v_thrown v_taped v_lookedSize v_fileSize v_directorySize v_outSize v_rowSize ba_4 v_bitEnd w_5 v_madeSize v_firstCount v_secondCount v_heldBits v_heldCount v_pressedSize v_at v_bad v_markSize v_relationCount v_valueSize v_faultCount 4 (by first | omega | assumption | decide) (by first | omega | assumption | decide)) rfl rfl [0] [1, 2] (by decide) rfl rfl rfl (by decide) (by decide) k_1434 rfl k_128 k_1431 k_1433 k_70 (by decide +kernel) (by decide) rfl rfl (Nat.le_of_ble_eq_true rfl) (by decide) (fun v9 ux95 ch94 => ?_)
        obtain ⟨w_96, rfl⟩ : ∃ z9, z9 = ux95 := ⟨_, rfl⟩
        obtain ⟨ech94, ch94⟩ := ch94
        have ech94 : v9 = none := ech94
        subst ech94
        have fh97 : 0 < w_96.toInt := ch94
        refine pb_eq (pc' := 32) (lo' := [(3, .int r_3), (0, .ref h), (1, .int k), (2, .int al)]) (rest' := []) (ws' := [(m_row, .inl (G.2.1, 20000, .inl a_row)), (m_length, .inl (G.2.2.1, 420, .inl a_length)), (h, .inr (10, [.ref m_rels, .ref m_openRels, .ref m_closeRels, .ref m_openRel, .ref m_closeRel, .ref m_comment, .ref m_ends, .ref m_order, .int v_thrown, .int v_taped, .ref m_tape, .ref m_count, .ref m_nameSize, .ref m_names, .ref m_size, .ref m_data, .int v_lookedSize, .ref m_looked, .int v_fileSize, .ref m_file, .int v_directorySize, .ref m_directory, .int v_outSize, .ref m_out, .int v_rowSize, .ref m_row, .int ba_4, .int v_bitEnd, .int w_96, .int v_madeSize, .ref m_made, .ref m_length, .int v_firstCount, .int v_secondCount, .int v_heldBits, .int v_heldCount, .int v_pressedSize, .ref m_pressed, .int v_at, .int v_bad, .int v_markSize, .ref m_mark, .int v_relationCount, .ref m_idSize, .ref m_ids, .ref m_goalSize, .ref m_goals, .int v_valueSize, .ref m_value, .int v_faultCount, .ref m_faults, .ref m_reached]))]) ?_
        refine pb_re (ws' := [(h, .inr (10, [.ref m_rels, .ref m_openRels, .ref m_closeRels, .ref m_openRel, .ref m_closeRel, .ref m_comment, .ref m_ends, .ref m_order, .int v_thrown, .int v_taped, .ref m_tape, .ref m_count, .ref m_nameSize, .ref m_names, .ref m_size, .ref m_data, .int v_lookedSize, .ref m_looked, .int v_fileSize, .ref m_file, .int v_directorySize, .ref m_directory, .int v_outSize, .ref m_out, .int v_rowSize, .ref m_row, .int ba_4, .int v_bitEnd, .int w_96, .int v_madeSize, .ref m_made, .ref m_length, .int v_firstCount, .int v_secondCount, .int v_heldBits, .int v_heldCount, .int v_pressedSize, .ref m_pressed, .int v_at, .int v_bad, .int v_markSize, .ref m_mark, .int v_relationCount, .ref m_idSize, .ref m_ids, .ref m_goalSize, .ref m_goals, .int v_valueSize, .ref m_value, .int v_faultCount, .ref m_faults, .ref m_reached])), (m_row, .inl (G.2.1, 20000, .inl a_row)), (m_length, .inl (G.2.2.1, 420, .inl a_length))]) (lo' := [(3, .int r_3), (1, .int k), (2, .int al), (0, .ref h)]) [2, 0, 1] [0, 2, 3, 1] (by decide) rfl rfl rfl ?_
        exact hJ32_13 r_3 ba_4 w_96 (by first | omega | assumption | decide) (by first | omega | assumption | decide) (by first | omega | assumption | decide) (by first | omega | assumption | decide) (by first | omega | assumption | decide) (by first | omega | assumption | decide)
