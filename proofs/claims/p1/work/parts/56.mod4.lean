set_option maxRecDepth 100000 in
set_option maxHeartbeats 4000000 in
theorem c_Mod_typeV {l : Launch} (hl : l.stackTraces = false) (G : pb_G) (h : Nat) (m_rels : Nat) (m_openRels : Nat) (m_closeRels : Nat) (m_openRel : Nat) (m_closeRel : Nat) (m_comment : Nat) (m_ends : Nat) (m_order : Nat) (m_tape : Nat) (m_count : Nat) (m_nameSize : Nat) (m_names : Nat) (m_size : Nat) (m_data : Nat) (m_looked : Nat) (m_file : Nat) (m_directory : Nat) (m_out : Nat) (m_row : Nat) (m_made : Nat) (m_length : Nat) (m_pressed : Nat) (m_mark : Nat) (m_idSize : Nat) (m_ids : Nat) (m_goalSize : Nat) (m_goals : Nat) (m_value : Nat) (m_faults : Nat) (m_reached : Nat) (w : Int64) (n : Int32) (f : Nat → Int32) (hv : 1 ≤ n.toInt ∧ n.toInt ≤ 8) : Cn l G i_Mod_type [.ref h, .long w, .int n] [(h, .inr (10, [.ref m_rels, .ref m_openRels, .ref m_closeRels, .ref m_openRel, .ref m_closeRel, .ref m_comment, .ref m_ends, .ref m_order, .int 0, .int 0, .ref m_tape, .ref m_count, .ref m_nameSize, .ref m_names, .ref m_size, .ref m_data, .int 0, .ref m_looked, .int 0, .ref m_file, .int 0, .ref m_directory, .int 0, .ref m_out, .int 0, .ref m_row, .int 0, .int 0, .int 0, .int 0, .ref m_made, .ref m_length, .int 0, .int 0, .int 0, .int 0, .int 0, .ref m_pressed, .int 0, .int 0, .int 0, .ref m_mark, .int 0, .ref m_idSize, .ref m_ids, .ref m_goalSize, .ref m_goals, .int 0, .ref m_value, .int 0, .ref m_faults, .ref m_reached])), (m_tape, .inl (G.2.1, 8000, .inl f))] (S := Int32 × Int32) (fun v u => v = some (.int u.1) ∧ (u.1 = n)) (fun u => [(h, .inr (10, [.ref m_rels, .ref m_openRels, .ref m_closeRels, .ref m_openRel, .ref m_closeRel, .ref m_comment, .ref m_ends, .ref m_order, .int 0, .int u.2, .ref m_tape, .ref m_count, .ref m_nameSize, .ref m_names, .ref m_size, .ref m_data, .int 0, .ref m_looked, .int 0, .ref m_file, .int 0, .ref m_directory, .int 0, .ref m_out, .int 0, .ref m_row, .int 0, .int 0, .int 0, .int 0, .ref m_made, .ref m_length, .int 0, .int 0, .int 0, .int 0, .int 0, .ref m_pressed, .int 0, .int 0, .int 0, .ref m_mark, .int 0, .ref m_idSize, .ref m_ids, .ref m_goalSize, .ref m_goals, .int 0, .ref m_value, .int 0, .ref m_faults, .ref m_reached]))]) := by
  refine Cn.of hl (by decide +kernel) rfl (Nat.le_of_ble_eq_true rfl) (fun M hQ => ?_)
  refine pb_eq (pc' := 0) (lo' := [(0, .ref h), (1, .long w), (3, .int n)]) (rest' := []) (ws' := [(h, .inr (10, [.ref m_rels, .ref m_openRels, .ref m_closeRels, .ref m_openRel, .ref m_closeRel, .ref m_comment, .ref m_ends, .ref m_order, .int 0, .int 0, .ref m_tape, .ref m_count, .ref m_nameSize, .ref m_names, .ref m_size, .ref m_data, .int 0, .ref m_looked, .int 0, .ref m_file, .int 0, .ref m_directory, .int 0, .ref m_out, .int 0, .ref m_row, .int 0, .int 0, .int 0, .int 0, .ref m_made, .ref m_length, .int 0, .int 0, .int 0, .int 0, .int 0, .ref m_pressed, .int 0, .int 0, .int 0, .ref m_mark, .int 0, .ref m_idSize, .ref m_ids, .ref m_goalSize, .ref m_goals, .int 0, .ref m_value, .int 0, .ref m_faults, .ref m_reached])), (m_tape, .inl (G.2.1, 8000, .inl f))]) ?_
  have z0 : (0 : Int32).toInt = 0 := by decide
  have z1 : (1 : Int32).toInt = 1 := by decide
  have z2 : (0 : Int32).toNatClampNeg = 0 := by decide
  refine pb_aload_n (pc := 0) d_Mod_type_0 0 rfl rfl ?_
  refine pb_iload_n (pc := 1) d_Mod_type_1 2 rfl rfl ?_
  refine pb_iconst (pc := 2) (v := 1) d_Mod_type_2 (by decide) ?_
  refine pb_icmp_lt (pc := 3) (tgt := 12) d_Mod_type_3 (by decide) (fun h9 => False.elim (by have t9 : n.toInt < 1 := (ti_lt rfl (by decide)).mp h9; omega)) (fun w1 => ?_)
  have tw1 : ¬ n.toInt < 1 := fun z9 => w1 ((ti_lt rfl (by decide)).mpr z9)
  refine pb_iload_n (pc := 6) d_Mod_type_6 2 rfl rfl ?_
  refine pb_bipush (pc := 7) (v := 8) d_Mod_type_7 (by decide) ?_
  refine pb_icmp_le (pc := 9) (tgt := 16) d_Mod_type_9 (by decide) (fun w2 => ?_) (fun h9 => False.elim (by have t9 : ¬ n.toInt ≤ 8 := fun z9 => h9 ((ti_le rfl (by decide)).mpr z9); omega))
  have tw2 : n.toInt ≤ 8 := (ti_le rfl (by decide)).mp w2
  refine pb_aload_n (pc := 16) d_Mod_type_16 0 rfl rfl ?_
  refine pb_get (pc := 17) d_Mod_type_17 0 9 rfl rfl (by decide) in_Mod k_1155 rfl ?_
  refine pb_iload_n (pc := 20) d_Mod_type_20 2 rfl rfl ?_
  refine pb_iadd (pc := 21) d_Mod_type_21 ?_
  refine pb_topi (fun i3 ei3 => ?_)
  have ti3 : i3.toInt = 0 + n.toInt := ti_add ei3 (by decide) rfl (by omega) (by omega)
  refine pb_sipush (pc := 22) (v := 8000) d_Mod_type_22 (by decide) ?_
  refine pb_icmp_le (pc := 25) (tgt := 32) d_Mod_type_25 (by decide) (fun w4 => ?_) (fun h9 => False.elim (by have t9 : ¬ i3.toInt ≤ 8000 := fun z9 => h9 ((ti_le rfl (by decide)).mpr z9); omega))
  have tw4 : i3.toInt ≤ 8000 := (ti_le rfl (by decide)).mp w4
  refine pb_iconst (pc := 32) (v := 0) d_Mod_type_32 (by decide) ?_
  refine pb_put (pc := 33) (ty := .int) (ws' := [(h, .inr (10, [.ref m_rels, .ref m_openRels, .ref m_closeRels, .ref m_openRel, .ref m_closeRel, .ref m_comment, .ref m_ends, .ref m_order, .int 0, .int 0, .ref m_tape, .ref m_count, .ref m_nameSize, .ref m_names, .ref m_size, .ref m_data, .int 0, .ref m_looked, .int 0, .ref m_file, .int 0, .ref m_directory, .int 0, .ref m_out, .int 0, .ref m_row, .int 0, .int 0, .int 0, .int 0, .ref m_made, .ref m_length, .int 0, .int 0, .int 0, .int 0, .int 0, .ref m_pressed, .int 0, .int 0, .int 0, .ref m_mark, .int 0, .ref m_idSize, .ref m_ids, .ref m_goalSize, .ref m_goals, .int 0, .ref m_value, .int 0, .ref m_faults, .ref m_reached])), (m_tape, .inl (G.2.1, 8000, .inl f))]) d_Mod_type_33 0 8 t_Mod t_Mod_ok n_Mod rfl rfl (by decide) in_Mod k_1154 rfl (by decide +kernel) rfl rfl (Nat.le_of_ble_eq_true rfl) rfl ?_
  refine pb_iconst (pc := 36) (v := 0) d_Mod_type_36 (by decide) ?_
  refine pb_istore (pc := 37) (lo' := [(4, .int 0), (0, .ref h), (1, .long w), (3, .int n)]) d_Mod_type_37 (by decide) rfl ?_
  have hL39 : ∀ (N9 : Nat) (k : Int32) (t : Int32) (g : Nat → Int32), (0 ≤ k.toInt) → (k.toInt ≤ n.toInt) → (t = k) → ((n.toInt - k.toInt).toNat) < N9 → pb_P l G M i_Mod_type 39 [(4, .int k), (0, .ref h), (1, .long w), (3, .int n)] [] [(h, .inr (10, [.ref m_rels, .ref m_openRels, .ref m_closeRels, .ref m_openRel, .ref m_closeRel, .ref m_comment, .ref m_ends, .ref m_order, .int 0, .int t, .ref m_tape, .ref m_count, .ref m_nameSize, .ref m_names, .ref m_size, .ref m_data, .int 0, .ref m_looked, .int 0, .ref m_file, .int 0, .ref m_directory, .int 0, .ref m_out, .int 0, .ref m_row, .int 0, .int 0, .int 0, .int 0, .ref m_made, .ref m_length, .int 0, .int 0, .int 0, .int 0, .int 0, .ref m_pressed, .int 0, .int 0, .int 0, .ref m_mark, .int 0, .ref m_idSize, .ref m_ids, .ref m_goalSize, .ref m_goals, .int 0, .ref m_value, .int 0, .ref m_faults, .ref m_reached])), (m_tape, .inl (G.2.1, 8000, .inl g))] 0 0 := by
    intro N9
    induction N9 with
    | zero => intro k t g hk hk2 ht hm9; exact absurd hm9 (Nat.not_lt_zero _)
    | succ N9 ih39 =>
      intro k t g hk hk2 ht hm9
      have ht2 : t.toInt = k.toInt := by rw [ht]
      refine pb_iload (pc := 39) d_Mod_type_39 0 rfl ?_
      refine pb_iload_n (pc := 41) d_Mod_type_41 3 rfl rfl ?_
      refine pb_icmp_ge (pc := 42) (tgt := 86) d_Mod_type_42 (by decide) (fun w5 => ?_) (fun w5 => ?_)
      · have tw5 : n.toInt ≤ k.toInt := (ti_le rfl rfl).mp w5
        refine pb_aload_n (pc := 86) d_Mod_type_86 1 rfl rfl ?_
        refine pb_get (pc := 87) d_Mod_type_87 0 8 rfl rfl (by decide) in_Mod k_1154 rfl ?_
        refine pb_if_le (pc := 90) (tgt := 97) d_Mod_type_90 (by decide) (fun _ => ?_) (fun h9 => absurd h9 (by decide))
        refine pb_aload_n (pc := 97) d_Mod_type_97 1 rfl rfl ?_
        refine pb_get (pc := 98) d_Mod_type_98 0 9 rfl rfl (by decide) in_Mod k_1155 rfl ?_
        exact pb_iret (pc := 101) hQ d_Mod_type_101 rfl rfl (t, t) ⟨rfl, (Int32.toInt_inj.mp (by dsimp only; omega))⟩ [0] (by decide) rfl rfl (by decide) (by decide)
      · have tw5 : ¬ n.toInt ≤ k.toInt := fun z9 => w5 ((ti_le rfl rfl).mpr z9)
        refine pb_aload_n (pc := 45) d_Mod_type_45 1 rfl rfl ?_
        refine pb_get (pc := 46) d_Mod_type_46 0 8 rfl rfl (by decide) in_Mod k_1154 rfl ?_
        refine pb_if_ne (pc := 49) (tgt := 86) d_Mod_type_49 (by decide) (fun h9 => absurd h9 (by decide)) (fun _ => ?_)
        refine pb_aload_n (pc := 52) d_Mod_type_52 1 rfl rfl ?_
        refine pb_get (pc := 53) d_Mod_type_53 0 10 rfl rfl (by decide) in_Mod k_1156 rfl ?_
        refine pb_aload_n (pc := 56) d_Mod_type_56 1 rfl rfl ?_
        refine pb_get (pc := 57) d_Mod_type_57 0 9 rfl rfl (by decide) in_Mod k_1155 rfl ?_
        refine pb_lload_n (pc := 60) d_Mod_type_60 2 rfl rfl ?_
        refine pb_bipush (pc := 61) (v := 8) d_Mod_type_61 (by decide) ?_
        refine pb_iload (pc := 63) d_Mod_type_63 0 rfl ?_
        refine pb_imul (pc := 65) d_Mod_type_65 ?_
        refine pb_topi (fun i8 ei8 => ?_)
        have ti8 : i8.toInt = 8 * k.toInt := ti_mul ei8 (by decide) rfl (by omega) (by omega)
        refine pb_lshr (pc := 66) d_Mod_type_66 rfl ?_
        refine pb_topl (fun j9 ej9 => ?_)
        refine pb_l2i (pc := 67) d_Mod_type_67 rfl ?_
        refine pb_topi (fun i10 ei10 => ?_)
        refine pb_i2b (pc := 68) d_Mod_type_68 rfl ?_
        refine pb_topi (fun i11 ei11 => ?_)
        refine pb_bast (pc := 69) (ws' := [(h, .inr (10, [.ref m_rels, .ref m_openRels, .ref m_closeRels, .ref m_openRel, .ref m_closeRel, .ref m_comment, .ref m_ends, .ref m_order, .int 0, .int t, .ref m_tape, .ref m_count, .ref m_nameSize, .ref m_names, .ref m_size, .ref m_data, .int 0, .ref m_looked, .int 0, .ref m_file, .int 0, .ref m_directory, .int 0, .ref m_out, .int 0, .ref m_row, .int 0, .int 0, .int 0, .int 0, .ref m_made, .ref m_length, .int 0, .int 0, .int 0, .int 0, .int 0, .ref m_pressed, .int 0, .int 0, .int 0, .ref m_mark, .int 0, .ref m_idSize, .ref m_ids, .ref m_goalSize, .ref m_goals, .int 0, .ref m_value, .int 0, .ref m_faults, .ref m_reached])), (m_tape, .inl (G.2.1, 8000, .inl (upd g ((t : Int32).toNatClampNeg) (vp_nar .byte i11))))]) d_Mod_type_69 1 rfl (vp_in_iff.mpr (by constructor <;> omega)) rfl ?_
        refine pb_aload_n (pc := 70) d_Mod_type_70 1 rfl rfl ?_
        refine pb_dup (pc := 71) d_Mod_type_71 rfl ?_
        refine pb_get (pc := 72) d_Mod_type_72 0 9 rfl rfl (by decide) in_Mod k_1155 rfl ?_
        refine pb_iconst (pc := 75) (v := 1) d_Mod_type_75 (by decide) ?_
        refine pb_iadd (pc := 76) d_Mod_type_76 ?_
        refine pb_topi (fun i12 ei12 => ?_)
        have ti12 : i12.toInt = t.toInt + 1 := ti_add ei12 rfl (by decide) (by omega) (by omega)
        refine pb_put (pc := 77) (ty := .int) (ws' := [(h, .inr (10, [.ref m_rels, .ref m_openRels, .ref m_closeRels, .ref m_openRel, .ref m_closeRel, .ref m_comment, .ref m_ends, .ref m_order, .int 0, .int i12, .ref m_tape, .ref m_count, .ref m_nameSize, .ref m_names, .ref m_size, .ref m_data, .int 0, .ref m_looked, .int 0, .ref m_file, .int 0, .ref m_directory, .int 0, .ref m_out, .int 0, .ref m_row, .int 0, .int 0, .int 0, .int 0, .ref m_made, .ref m_length, .int 0, .int 0, .int 0, .int 0, .int 0, .ref m_pressed, .int 0, .int 0, .int 0, .ref m_mark, .int 0, .ref m_idSize, .ref m_ids, .ref m_goalSize, .ref m_goals, .int 0, .ref m_value, .int 0, .ref m_faults, .ref m_reached])), (m_tape, .inl (G.2.1, 8000, .inl (upd g ((t : Int32).toNatClampNeg) (vp_nar .byte i11))))]) d_Mod_type_77 0 9 t_Mod t_Mod_ok n_Mod rfl rfl (by decide) in_Mod k_1155 rfl (by decide +kernel) rfl rfl (Nat.le_of_ble_eq_true rfl) rfl ?_
        refine pb_iincN (pc := 80) (c := 1) d_Mod_type_80 0 rfl (by decide) (by decide) (fun i13 ei13 => ?_)
        have ti13 : i13.toInt = k.toInt + 1 := ti_add ei13 rfl (by decide) (by omega) (by omega)
        refine pb_eq (pc' := 83) (lo' := [(4, .int i13), (0, .ref h), (1, .long w), (3, .int n)]) (rest' := []) (ws' := [(h, .inr (10, [.ref m_rels, .ref m_openRels, .ref m_closeRels, .ref m_openRel, .ref m_closeRel, .ref m_comment, .ref m_ends, .ref m_order, .int 0, .int i12, .ref m_tape, .ref m_count, .ref m_nameSize, .ref m_names, .ref m_size, .ref m_data, .int 0, .ref m_looked, .int 0, .ref m_file, .int 0, .ref m_directory, .int 0, .ref m_out, .int 0, .ref m_row, .int 0, .int 0, .int 0, .int 0, .ref m_made, .ref m_length, .int 0, .int 0, .int 0, .int 0, .int 0, .ref m_pressed, .int 0, .int 0, .int 0, .ref m_mark, .int 0, .ref m_idSize, .ref m_ids, .ref m_goalSize, .ref m_goals, .int 0, .ref m_value, .int 0, .ref m_faults, .ref m_reached])), (m_tape, .inl (G.2.1, 8000, .inl (upd g ((t : Int32).toNatClampNeg) (vp_nar .byte i11))))]) ?_
        refine pb_goto (pc := 83) (tgt := 39) d_Mod_type_83 (by decide) ?_
        exact ih39 i13 i12 (upd g ((t : Int32).toNatClampNeg) (vp_nar .byte i11)) (by omega) (by omega) (by rw [ei12, ei13, ht]) (by omega)
  exact hL39 _ 0 0 f (by omega) (by omega) rfl (Nat.lt_succ_self _)

set_option maxRecDepth 100000 in
set_option maxHeartbeats 4000000 in
theorem c_Mod_typeI {l : Launch} (hl : l.stackTraces = false) (G : pb_G) (h : Nat) (m_rels : Nat) (m_openRels : Nat) (m_closeRels : Nat) (m_openRel : Nat) (m_closeRel : Nat) (m_comment : Nat) (m_ends : Nat) (m_order : Nat) (m_tape : Nat) (m_count : Nat) (m_nameSize : Nat) (m_names : Nat) (m_size : Nat) (m_data : Nat) (m_looked : Nat) (m_file : Nat) (m_directory : Nat) (m_out : Nat) (m_row : Nat) (m_made : Nat) (m_length : Nat) (m_pressed : Nat) (m_mark : Nat) (m_idSize : Nat) (m_ids : Nat) (m_goalSize : Nat) (m_goals : Nat) (m_value : Nat) (m_faults : Nat) (m_reached : Nat) (w : Int64) (n : Int32) (hv : ¬ (1 ≤ n.toInt ∧ n.toInt ≤ 8)) : Cn l G i_Mod_type [.ref h, .long w, .int n] [(h, .inr (10, [.ref m_rels, .ref m_openRels, .ref m_closeRels, .ref m_openRel, .ref m_closeRel, .ref m_comment, .ref m_ends, .ref m_order, .int 0, .int 0, .ref m_tape, .ref m_count, .ref m_nameSize, .ref m_names, .ref m_size, .ref m_data, .int 0, .ref m_looked, .int 0, .ref m_file, .int 0, .ref m_directory, .int 0, .ref m_out, .int 0, .ref m_row, .int 0, .int 0, .int 0, .int 0, .ref m_made, .ref m_length, .int 0, .int 0, .int 0, .int 0, .int 0, .ref m_pressed, .int 0, .int 0, .int 0, .ref m_mark, .int 0, .ref m_idSize, .ref m_ids, .ref m_goalSize, .ref m_goals, .int 0, .ref m_value, .int 0, .ref m_faults, .ref m_reached]))] (S := Unit) (fun v u => v = some (.int 0)) (fun u => [(h, .inr (10, [.ref m_rels, .ref m_openRels, .ref m_closeRels, .ref m_openRel, .ref m_closeRel, .ref m_comment, .ref m_ends, .ref m_order, .int 1, .int 0, .ref m_tape, .ref m_count, .ref m_nameSize, .ref m_names, .ref m_size, .ref m_data, .int 0, .ref m_looked, .int 0, .ref m_file, .int 0, .ref m_directory, .int 0, .ref m_out, .int 0, .ref m_row, .int 0, .int 0, .int 0, .int 0, .ref m_made, .ref m_length, .int 0, .int 0, .int 0, .int 0, .int 0, .ref m_pressed, .int 0, .int 0, .int 0, .ref m_mark, .int 0, .ref m_idSize, .ref m_ids, .ref m_goalSize, .ref m_goals, .int 0, .ref m_value, .int 0, .ref m_faults, .ref m_reached]))]) := by
  refine Cn.of hl (by decide +kernel) rfl (Nat.le_of_ble_eq_true rfl) (fun M hQ => ?_)
  refine pb_eq (pc' := 0) (lo' := [(0, .ref h), (1, .long w), (3, .int n)]) (rest' := []) (ws' := [(h, .inr (10, [.ref m_rels, .ref m_openRels, .ref m_closeRels, .ref m_openRel, .ref m_closeRel, .ref m_comment, .ref m_ends, .ref m_order, .int 0, .int 0, .ref m_tape, .ref m_count, .ref m_nameSize, .ref m_names, .ref m_size, .ref m_data, .int 0, .ref m_looked, .int 0, .ref m_file, .int 0, .ref m_directory, .int 0, .ref m_out, .int 0, .ref m_row, .int 0, .int 0, .int 0, .int 0, .ref m_made, .ref m_length, .int 0, .int 0, .int 0, .int 0, .int 0, .ref m_pressed, .int 0, .int 0, .int 0, .ref m_mark, .int 0, .ref m_idSize, .ref m_ids, .ref m_goalSize, .ref m_goals, .int 0, .ref m_value, .int 0, .ref m_faults, .ref m_reached]))]) ?_
  have z0 : (0 : Int32).toInt = 0 := by decide
  have z1 : (1 : Int32).toInt = 1 := by decide
  have z2 : (0 : Int32).toNatClampNeg = 0 := by decide
  refine pb_aload_n (pc := 0) d_Mod_type_0 0 rfl rfl ?_
  refine pb_iload_n (pc := 1) d_Mod_type_1 2 rfl rfl ?_
  refine pb_iconst (pc := 2) (v := 1) d_Mod_type_2 (by decide) ?_
  refine pb_icmp_lt (pc := 3) (tgt := 12) d_Mod_type_3 (by decide) (fun w1 => ?_) (fun w1 => ?_)
  · have tw1 : n.toInt < 1 := (ti_lt rfl (by decide)).mp w1
    refine pb_iconst (pc := 12) (v := 1) d_Mod_type_12 (by decide) ?_
    refine pb_goto (pc := 13) (tgt := 33) d_Mod_type_13 (by decide) ?_
    refine pb_put (pc := 33) (ty := .int) (ws' := [(h, .inr (10, [.ref m_rels, .ref m_openRels, .ref m_closeRels, .ref m_openRel, .ref m_closeRel, .ref m_comment, .ref m_ends, .ref m_order, .int 1, .int 0, .ref m_tape, .ref m_count, .ref m_nameSize, .ref m_names, .ref m_size, .ref m_data, .int 0, .ref m_looked, .int 0, .ref m_file, .int 0, .ref m_directory, .int 0, .ref m_out, .int 0, .ref m_row, .int 0, .int 0, .int 0, .int 0, .ref m_made, .ref m_length, .int 0, .int 0, .int 0, .int 0, .int 0, .ref m_pressed, .int 0, .int 0, .int 0, .ref m_mark, .int 0, .ref m_idSize, .ref m_ids, .ref m_goalSize, .ref m_goals, .int 0, .ref m_value, .int 0, .ref m_faults, .ref m_reached]))]) d_Mod_type_33 0 8 t_Mod t_Mod_ok n_Mod rfl rfl (by decide) in_Mod k_1154 rfl (by decide +kernel) rfl rfl (Nat.le_of_ble_eq_true rfl) rfl ?_
    refine pb_iconst (pc := 36) (v := 0) d_Mod_type_36 (by decide) ?_
    refine pb_istore (pc := 37) (lo' := [(4, .int 0), (0, .ref h), (1, .long w), (3, .int n)]) d_Mod_type_37 (by decide) rfl ?_
    refine pb_iload (pc := 39) d_Mod_type_39 0 rfl ?_
    refine pb_iload_n (pc := 41) d_Mod_type_41 3 rfl rfl ?_
    refine pb_icmp_ge (pc := 42) (tgt := 86) d_Mod_type_42 (by decide) (fun w2 => ?_) (fun w2 => ?_)
    · have tw2 : n.toInt ≤ 0 := (ti_le rfl (by decide)).mp w2
      refine pb_aload_n (pc := 86) d_Mod_type_86 1 rfl rfl ?_
      refine pb_get (pc := 87) d_Mod_type_87 0 8 rfl rfl (by decide) in_Mod k_1154 rfl ?_
      refine pb_if_le (pc := 90) (tgt := 97) d_Mod_type_90 (by decide) (fun h9 => absurd h9 (by decide)) (fun _ => ?_)
      refine pb_iconst (pc := 93) (v := 0) d_Mod_type_93 (by decide) ?_
      refine pb_goto (pc := 94) (tgt := 101) d_Mod_type_94 (by decide) ?_
      exact pb_iret (pc := 101) hQ d_Mod_type_101 rfl rfl () rfl [0] (by decide) rfl rfl (by decide) (by decide)
    · have tw2 : ¬ n.toInt ≤ 0 := fun z9 => w2 ((ti_le rfl (by decide)).mpr z9)
      refine pb_aload_n (pc := 45) d_Mod_type_45 1 rfl rfl ?_
      refine pb_get (pc := 46) d_Mod_type_46 0 8 rfl rfl (by decide) in_Mod k_1154 rfl ?_
      refine pb_if_ne (pc := 49) (tgt := 86) d_Mod_type_49 (by decide) (fun _ => ?_) (fun h9 => absurd h9 (by decide))
      refine pb_aload_n (pc := 86) d_Mod_type_86 1 rfl rfl ?_
      refine pb_get (pc := 87) d_Mod_type_87 0 8 rfl rfl (by decide) in_Mod k_1154 rfl ?_
      refine pb_if_le (pc := 90) (tgt := 97) d_Mod_type_90 (by decide) (fun h9 => absurd h9 (by decide)) (fun _ => ?_)
      refine pb_iconst (pc := 93) (v := 0) d_Mod_type_93 (by decide) ?_
      refine pb_goto (pc := 94) (tgt := 101) d_Mod_type_94 (by decide) ?_
      exact pb_iret (pc := 101) hQ d_Mod_type_101 rfl rfl () rfl [0] (by decide) rfl rfl (by decide) (by decide)
  · have tw1 : ¬ n.toInt < 1 := fun z9 => w1 ((ti_lt rfl (by decide)).mpr z9)
    refine pb_iload_n (pc := 6) d_Mod_type_6 2 rfl rfl ?_
    refine pb_bipush (pc := 7) (v := 8) d_Mod_type_7 (by decide) ?_
    refine pb_icmp_le (pc := 9) (tgt := 16) d_Mod_type_9 (by decide) (fun h9 => False.elim (by have t9 : n.toInt ≤ 8 := (ti_le rfl (by decide)).mp h9; omega)) (fun w6 => ?_)
    have tw6 : ¬ n.toInt ≤ 8 := fun z9 => w6 ((ti_le rfl (by decide)).mpr z9)
    refine pb_iconst (pc := 12) (v := 1) d_Mod_type_12 (by decide) ?_
    refine pb_goto (pc := 13) (tgt := 33) d_Mod_type_13 (by decide) ?_
    refine pb_put (pc := 33) (ty := .int) (ws' := [(h, .inr (10, [.ref m_rels, .ref m_openRels, .ref m_closeRels, .ref m_openRel, .ref m_closeRel, .ref m_comment, .ref m_ends, .ref m_order, .int 1, .int 0, .ref m_tape, .ref m_count, .ref m_nameSize, .ref m_names, .ref m_size, .ref m_data, .int 0, .ref m_looked, .int 0, .ref m_file, .int 0, .ref m_directory, .int 0, .ref m_out, .int 0, .ref m_row, .int 0, .int 0, .int 0, .int 0, .ref m_made, .ref m_length, .int 0, .int 0, .int 0, .int 0, .int 0, .ref m_pressed, .int 0, .int 0, .int 0, .ref m_mark, .int 0, .ref m_idSize, .ref m_ids, .ref m_goalSize, .ref m_goals, .int 0, .ref m_value, .int 0, .ref m_faults, .ref m_reached]))]) d_Mod_type_33 0 8 t_Mod t_Mod_ok n_Mod rfl rfl (by decide) in_Mod k_1154 rfl (by decide +kernel) rfl rfl (Nat.le_of_ble_eq_true rfl) rfl ?_
    refine pb_iconst (pc := 36) (v := 0) d_Mod_type_36 (by decide) ?_
    refine pb_istore (pc := 37) (lo' := [(4, .int 0), (0, .ref h), (1, .long w), (3, .int n)]) d_Mod_type_37 (by decide) rfl ?_
    refine pb_iload (pc := 39) d_Mod_type_39 0 rfl ?_
    refine pb_iload_n (pc := 41) d_Mod_type_41 3 rfl rfl ?_
    refine pb_icmp_ge (pc := 42) (tgt := 86) d_Mod_type_42 (by decide) (fun w7 => ?_) (fun w7 => ?_)
    · have tw7 : n.toInt ≤ 0 := (ti_le rfl (by decide)).mp w7
      refine pb_aload_n (pc := 86) d_Mod_type_86 1 rfl rfl ?_
      refine pb_get (pc := 87) d_Mod_type_87 0 8 rfl rfl (by decide) in_Mod k_1154 rfl ?_
      refine pb_if_le (pc := 90) (tgt := 97) d_Mod_type_90 (by decide) (fun h9 => absurd h9 (by decide)) (fun _ => ?_)
      refine pb_iconst (pc := 93) (v := 0) d_Mod_type_93 (by decide) ?_
      refine pb_goto (pc := 94) (tgt := 101) d_Mod_type_94 (by decide) ?_
      exact pb_iret (pc := 101) hQ d_Mod_type_101 rfl rfl () rfl [0] (by decide) rfl rfl (by decide) (by decide)
    · have tw7 : ¬ n.toInt ≤ 0 := fun z9 => w7 ((ti_le rfl (by decide)).mpr z9)
      refine pb_aload_n (pc := 45) d_Mod_type_45 1 rfl rfl ?_
      refine pb_get (pc := 46) d_Mod_type_46 0 8 rfl rfl (by decide) in_Mod k_1154 rfl ?_
      refine pb_if_ne (pc := 49) (tgt := 86) d_Mod_type_49 (by decide) (fun _ => ?_) (fun h9 => absurd h9 (by decide))
      refine pb_aload_n (pc := 86) d_Mod_type_86 1 rfl rfl ?_
      refine pb_get (pc := 87) d_Mod_type_87 0 8 rfl rfl (by decide) in_Mod k_1154 rfl ?_
      refine pb_if_le (pc := 90) (tgt := 97) d_Mod_type_90 (by decide) (fun h9 => absurd h9 (by decide)) (fun _ => ?_)
      refine pb_iconst (pc := 93) (v := 0) d_Mod_type_93 (by decide) ?_
      refine pb_goto (pc := 94) (tgt := 101) d_Mod_type_94 (by decide) ?_
      exact pb_iret (pc := 101) hQ d_Mod_type_101 rfl rfl () rfl [0] (by decide) rfl rfl (by decide) (by decide)

set_option maxRecDepth 100000 in
set_option maxHeartbeats 4000000 in
theorem c_Mod_againV {l : Launch} (hl : l.stackTraces = false) (G : pb_G) (h : Nat) (m_rels : Nat) (m_openRels : Nat) (m_closeRels : Nat) (m_openRel : Nat) (m_closeRel : Nat) (m_comment : Nat) (m_ends : Nat) (m_order : Nat) (m_tape : Nat) (m_count : Nat) (m_nameSize : Nat) (m_names : Nat) (m_size : Nat) (m_data : Nat) (m_looked : Nat) (m_file : Nat) (m_directory : Nat) (m_out : Nat) (m_row : Nat) (m_made : Nat) (m_length : Nat) (m_pressed : Nat) (m_mark : Nat) (m_idSize : Nat) (m_ids : Nat) (m_goalSize : Nat) (m_goals : Nat) (m_value : Nat) (m_faults : Nat) (m_reached : Nat) (n : Int32) (hv : n.toInt = 0) : Cn l G i_Mod_again [.ref h, .int n] [(h, .inr (10, [.ref m_rels, .ref m_openRels, .ref m_closeRels, .ref m_openRel, .ref m_closeRel, .ref m_comment, .ref m_ends, .ref m_order, .int 0, .int 0, .ref m_tape, .ref m_count, .ref m_nameSize, .ref m_names, .ref m_size, .ref m_data, .int 0, .ref m_looked, .int 0, .ref m_file, .int 0, .ref m_directory, .int 0, .ref m_out, .int 0, .ref m_row, .int 0, .int 0, .int 0, .int 0, .ref m_made, .ref m_length, .int 0, .int 0, .int 0, .int 0, .int 0, .ref m_pressed, .int 0, .int 0, .int 0, .ref m_mark, .int 0, .ref m_idSize, .ref m_ids, .ref m_goalSize, .ref m_goals, .int 0, .ref m_value, .int 0, .ref m_faults, .ref m_reached]))] (S := Unit) (fun v u => v = some (.int 0)) (fun u => [(h, .inr (10, [.ref m_rels, .ref m_openRels, .ref m_closeRels, .ref m_openRel, .ref m_closeRel, .ref m_comment, .ref m_ends, .ref m_order, .int 0, .int 0, .ref m_tape, .ref m_count, .ref m_nameSize, .ref m_names, .ref m_size, .ref m_data, .int 0, .ref m_looked, .int 0, .ref m_file, .int 0, .ref m_directory, .int 0, .ref m_out, .int 0, .ref m_row, .int 0, .int 0, .int 0, .int 0, .ref m_made, .ref m_length, .int 0, .int 0, .int 0, .int 0, .int 0, .ref m_pressed, .int 0, .int 0, .int 0, .ref m_mark, .int 0, .ref m_idSize, .ref m_ids, .ref m_goalSize, .ref m_goals, .int 0, .ref m_value, .int 0, .ref m_faults, .ref m_reached]))]) := by
  refine Cn.of hl (by decide +kernel) rfl (Nat.le_of_ble_eq_true rfl) (fun M hQ => ?_)
  refine pb_eq (pc' := 0) (lo' := [(0, .ref h), (1, .int n)]) (rest' := []) (ws' := [(h, .inr (10, [.ref m_rels, .ref m_openRels, .ref m_closeRels, .ref m_openRel, .ref m_closeRel, .ref m_comment, .ref m_ends, .ref m_order, .int 0, .int 0, .ref m_tape, .ref m_count, .ref m_nameSize, .ref m_names, .ref m_size, .ref m_data, .int 0, .ref m_looked, .int 0, .ref m_file, .int 0, .ref m_directory, .int 0, .ref m_out, .int 0, .ref m_row, .int 0, .int 0, .int 0, .int 0, .ref m_made, .ref m_length, .int 0, .int 0, .int 0, .int 0, .int 0, .ref m_pressed, .int 0, .int 0, .int 0, .ref m_mark, .int 0, .ref m_idSize, .ref m_ids, .ref m_goalSize, .ref m_goals, .int 0, .ref m_value, .int 0, .ref m_faults, .ref m_reached]))]) ?_
  have z0 : (0 : Int32).toInt = 0 := by decide
  have z1 : (1 : Int32).toInt = 1 := by decide
  have z2 : (0 : Int32).toNatClampNeg = 0 := by decide
  refine pb_aload_n (pc := 0) d_Mod_again_0 0 rfl rfl ?_
  refine pb_iload_n (pc := 1) d_Mod_again_1 1 rfl rfl ?_
  refine pb_if_lt (pc := 2) (tgt := 13) d_Mod_again_2 (by decide) (fun h9 => False.elim (by have t9 : n.toInt < 0 := (ti_lt rfl (by decide)).mp h9; omega)) (fun w1 => ?_)
  have tw1 : ¬ n.toInt < 0 := fun z9 => w1 ((ti_lt rfl (by decide)).mpr z9)
  refine pb_iload_n (pc := 5) d_Mod_again_5 1 rfl rfl ?_
  refine pb_aload_n (pc := 6) d_Mod_again_6 0 rfl rfl ?_
  refine pb_get (pc := 7) d_Mod_again_7 0 9 rfl rfl (by decide) in_Mod k_1155 rfl ?_
  refine pb_icmp_le (pc := 10) (tgt := 17) d_Mod_again_10 (by decide) (fun w2 => ?_) (fun h9 => False.elim (by have t9 : ¬ n.toInt ≤ 0 := fun z9 => h9 ((ti_le rfl (by decide)).mpr z9); omega))
  have tw2 : n.toInt ≤ 0 := (ti_le rfl (by decide)).mp w2
  refine pb_aload_n (pc := 17) d_Mod_again_17 0 rfl rfl ?_
  refine pb_get (pc := 18) d_Mod_again_18 0 9 rfl rfl (by decide) in_Mod k_1155 rfl ?_
  refine pb_iload_n (pc := 21) d_Mod_again_21 1 rfl rfl ?_
  refine pb_iadd (pc := 22) d_Mod_again_22 ?_
  refine pb_topi (fun i3 ei3 => ?_)
  have ti3 : i3.toInt = 0 + n.toInt := ti_add ei3 (by decide) rfl (by omega) (by omega)
  refine pb_sipush (pc := 23) (v := 8000) d_Mod_again_23 (by decide) ?_
  refine pb_icmp_le (pc := 26) (tgt := 33) d_Mod_again_26 (by decide) (fun w4 => ?_) (fun h9 => False.elim (by have t9 : ¬ i3.toInt ≤ 8000 := fun z9 => h9 ((ti_le rfl (by decide)).mpr z9); omega))
  have tw4 : i3.toInt ≤ 8000 := (ti_le rfl (by decide)).mp w4
  refine pb_iconst (pc := 33) (v := 0) d_Mod_again_33 (by decide) ?_
  refine pb_put (pc := 34) (ty := .int) (ws' := [(h, .inr (10, [.ref m_rels, .ref m_openRels, .ref m_closeRels, .ref m_openRel, .ref m_closeRel, .ref m_comment, .ref m_ends, .ref m_order, .int 0, .int 0, .ref m_tape, .ref m_count, .ref m_nameSize, .ref m_names, .ref m_size, .ref m_data, .int 0, .ref m_looked, .int 0, .ref m_file, .int 0, .ref m_directory, .int 0, .ref m_out, .int 0, .ref m_row, .int 0, .int 0, .int 0, .int 0, .ref m_made, .ref m_length, .int 0, .int 0, .int 0, .int 0, .int 0, .ref m_pressed, .int 0, .int 0, .int 0, .ref m_mark, .int 0, .ref m_idSize, .ref m_ids, .ref m_goalSize, .ref m_goals, .int 0, .ref m_value, .int 0, .ref m_faults, .ref m_reached]))]) d_Mod_again_34 0 8 t_Mod t_Mod_ok n_Mod rfl rfl (by decide) in_Mod k_1154 rfl (by decide +kernel) rfl rfl (Nat.le_of_ble_eq_true rfl) rfl ?_
  refine pb_iconst (pc := 37) (v := 0) d_Mod_again_37 (by decide) ?_
  refine pb_istore_n (pc := 38) (lo' := [(2, .int 0), (0, .ref h), (1, .int n)]) d_Mod_again_38 rfl (by decide) rfl ?_
  refine pb_iload_n (pc := 39) d_Mod_again_39 0 rfl rfl ?_
  refine pb_iload_n (pc := 40) d_Mod_again_40 2 rfl rfl ?_
  refine pb_icmp_ge (pc := 41) (tgt := 87) d_Mod_again_41 (by decide) (fun w5 => ?_) (fun h9 => False.elim (by have t9 : ¬ n.toInt ≤ 0 := fun z9 => h9 ((ti_le rfl (by decide)).mpr z9); omega))
  have tw5 : n.toInt ≤ 0 := (ti_le rfl (by decide)).mp w5
  refine pb_aload_n (pc := 87) d_Mod_again_87 1 rfl rfl ?_
  refine pb_get (pc := 88) d_Mod_again_88 0 8 rfl rfl (by decide) in_Mod k_1154 rfl ?_
  refine pb_if_le (pc := 91) (tgt := 98) d_Mod_again_91 (by decide) (fun _ => ?_) (fun h9 => absurd h9 (by decide))
  refine pb_aload_n (pc := 98) d_Mod_again_98 1 rfl rfl ?_
  refine pb_get (pc := 99) d_Mod_again_99 0 9 rfl rfl (by decide) in_Mod k_1155 rfl ?_
  exact pb_iret (pc := 102) hQ d_Mod_again_102 rfl rfl () rfl [0] (by decide) rfl rfl (by decide) (by decide)

set_option maxRecDepth 100000 in
set_option maxHeartbeats 4000000 in
theorem c_Mod_againI {l : Launch} (hl : l.stackTraces = false) (G : pb_G) (h : Nat) (m_rels : Nat) (m_openRels : Nat) (m_closeRels : Nat) (m_openRel : Nat) (m_closeRel : Nat) (m_comment : Nat) (m_ends : Nat) (m_order : Nat) (m_tape : Nat) (m_count : Nat) (m_nameSize : Nat) (m_names : Nat) (m_size : Nat) (m_data : Nat) (m_looked : Nat) (m_file : Nat) (m_directory : Nat) (m_out : Nat) (m_row : Nat) (m_made : Nat) (m_length : Nat) (m_pressed : Nat) (m_mark : Nat) (m_idSize : Nat) (m_ids : Nat) (m_goalSize : Nat) (m_goals : Nat) (m_value : Nat) (m_faults : Nat) (m_reached : Nat) (n : Int32) (hv : ¬ n.toInt = 0) : Cn l G i_Mod_again [.ref h, .int n] [(h, .inr (10, [.ref m_rels, .ref m_openRels, .ref m_closeRels, .ref m_openRel, .ref m_closeRel, .ref m_comment, .ref m_ends, .ref m_order, .int 0, .int 0, .ref m_tape, .ref m_count, .ref m_nameSize, .ref m_names, .ref m_size, .ref m_data, .int 0, .ref m_looked, .int 0, .ref m_file, .int 0, .ref m_directory, .int 0, .ref m_out, .int 0, .ref m_row, .int 0, .int 0, .int 0, .int 0, .ref m_made, .ref m_length, .int 0, .int 0, .int 0, .int 0, .int 0, .ref m_pressed, .int 0, .int 0, .int 0, .ref m_mark, .int 0, .ref m_idSize, .ref m_ids, .ref m_goalSize, .ref m_goals, .int 0, .ref m_value, .int 0, .ref m_faults, .ref m_reached]))] (S := Unit) (fun v u => v = some (.int 0)) (fun u => [(h, .inr (10, [.ref m_rels, .ref m_openRels, .ref m_closeRels, .ref m_openRel, .ref m_closeRel, .ref m_comment, .ref m_ends, .ref m_order, .int 1, .int 0, .ref m_tape, .ref m_count, .ref m_nameSize, .ref m_names, .ref m_size, .ref m_data, .int 0, .ref m_looked, .int 0, .ref m_file, .int 0, .ref m_directory, .int 0, .ref m_out, .int 0, .ref m_row, .int 0, .int 0, .int 0, .int 0, .ref m_made, .ref m_length, .int 0, .int 0, .int 0, .int 0, .int 0, .ref m_pressed, .int 0, .int 0, .int 0, .ref m_mark, .int 0, .ref m_idSize, .ref m_ids, .ref m_goalSize, .ref m_goals, .int 0, .ref m_value, .int 0, .ref m_faults, .ref m_reached]))]) := by
  refine Cn.of hl (by decide +kernel) rfl (Nat.le_of_ble_eq_true rfl) (fun M hQ => ?_)
  refine pb_eq (pc' := 0) (lo' := [(0, .ref h), (1, .int n)]) (rest' := []) (ws' := [(h, .inr (10, [.ref m_rels, .ref m_openRels, .ref m_closeRels, .ref m_openRel, .ref m_closeRel, .ref m_comment, .ref m_ends, .ref m_order, .int 0, .int 0, .ref m_tape, .ref m_count, .ref m_nameSize, .ref m_names, .ref m_size, .ref m_data, .int 0, .ref m_looked, .int 0, .ref m_file, .int 0, .ref m_directory, .int 0, .ref m_out, .int 0, .ref m_row, .int 0, .int 0, .int 0, .int 0, .ref m_made, .ref m_length, .int 0, .int 0, .int 0, .int 0, .int 0, .ref m_pressed, .int 0, .int 0, .int 0, .ref m_mark, .int 0, .ref m_idSize, .ref m_ids, .ref m_goalSize, .ref m_goals, .int 0, .ref m_value, .int 0, .ref m_faults, .ref m_reached]))]) ?_
  have z0 : (0 : Int32).toInt = 0 := by decide
  have z1 : (1 : Int32).toInt = 1 := by decide
  have z2 : (0 : Int32).toNatClampNeg = 0 := by decide
  refine pb_aload_n (pc := 0) d_Mod_again_0 0 rfl rfl ?_
  refine pb_iload_n (pc := 1) d_Mod_again_1 1 rfl rfl ?_
  refine pb_if_lt (pc := 2) (tgt := 13) d_Mod_again_2 (by decide) (fun w1 => ?_) (fun w1 => ?_)
  · have tw1 : n.toInt < 0 := (ti_lt rfl (by decide)).mp w1
    refine pb_iconst (pc := 13) (v := 1) d_Mod_again_13 (by decide) ?_
    refine pb_goto (pc := 14) (tgt := 34) d_Mod_again_14 (by decide) ?_
    refine pb_put (pc := 34) (ty := .int) (ws' := [(h, .inr (10, [.ref m_rels, .ref m_openRels, .ref m_closeRels, .ref m_openRel, .ref m_closeRel, .ref m_comment, .ref m_ends, .ref m_order, .int 1, .int 0, .ref m_tape, .ref m_count, .ref m_nameSize, .ref m_names, .ref m_size, .ref m_data, .int 0, .ref m_looked, .int 0, .ref m_file, .int 0, .ref m_directory, .int 0, .ref m_out, .int 0, .ref m_row, .int 0, .int 0, .int 0, .int 0, .ref m_made, .ref m_length, .int 0, .int 0, .int 0, .int 0, .int 0, .ref m_pressed, .int 0, .int 0, .int 0, .ref m_mark, .int 0, .ref m_idSize, .ref m_ids, .ref m_goalSize, .ref m_goals, .int 0, .ref m_value, .int 0, .ref m_faults, .ref m_reached]))]) d_Mod_again_34 0 8 t_Mod t_Mod_ok n_Mod rfl rfl (by decide) in_Mod k_1154 rfl (by decide +kernel) rfl rfl (Nat.le_of_ble_eq_true rfl) rfl ?_
    refine pb_iconst (pc := 37) (v := 0) d_Mod_again_37 (by decide) ?_
    refine pb_istore_n (pc := 38) (lo' := [(2, .int 0), (0, .ref h), (1, .int n)]) d_Mod_again_38 rfl (by decide) rfl ?_
    refine pb_iload_n (pc := 39) d_Mod_again_39 0 rfl rfl ?_
    refine pb_iload_n (pc := 40) d_Mod_again_40 2 rfl rfl ?_
    refine pb_icmp_ge (pc := 41) (tgt := 87) d_Mod_again_41 (by decide) (fun w2 => ?_) (fun w2 => ?_)
    · have tw2 : n.toInt ≤ 0 := (ti_le rfl (by decide)).mp w2
      refine pb_aload_n (pc := 87) d_Mod_again_87 1 rfl rfl ?_
      refine pb_get (pc := 88) d_Mod_again_88 0 8 rfl rfl (by decide) in_Mod k_1154 rfl ?_
      refine pb_if_le (pc := 91) (tgt := 98) d_Mod_again_91 (by decide) (fun h9 => absurd h9 (by decide)) (fun _ => ?_)
      refine pb_iconst (pc := 94) (v := 0) d_Mod_again_94 (by decide) ?_
      refine pb_goto (pc := 95) (tgt := 102) d_Mod_again_95 (by decide) ?_
      exact pb_iret (pc := 102) hQ d_Mod_again_102 rfl rfl () rfl [0] (by decide) rfl rfl (by decide) (by decide)
    · have tw2 : ¬ n.toInt ≤ 0 := fun z9 => w2 ((ti_le rfl (by decide)).mpr z9)
      refine pb_aload_n (pc := 44) d_Mod_again_44 1 rfl rfl ?_
      refine pb_get (pc := 45) d_Mod_again_45 0 8 rfl rfl (by decide) in_Mod k_1154 rfl ?_
      refine pb_if_ne (pc := 48) (tgt := 87) d_Mod_again_48 (by decide) (fun _ => ?_) (fun h9 => absurd h9 (by decide))
      refine pb_aload_n (pc := 87) d_Mod_again_87 1 rfl rfl ?_
      refine pb_get (pc := 88) d_Mod_again_88 0 8 rfl rfl (by decide) in_Mod k_1154 rfl ?_
      refine pb_if_le (pc := 91) (tgt := 98) d_Mod_again_91 (by decide) (fun h9 => absurd h9 (by decide)) (fun _ => ?_)
      refine pb_iconst (pc := 94) (v := 0) d_Mod_again_94 (by decide) ?_
      refine pb_goto (pc := 95) (tgt := 102) d_Mod_again_95 (by decide) ?_
      exact pb_iret (pc := 102) hQ d_Mod_again_102 rfl rfl () rfl [0] (by decide) rfl rfl (by decide) (by decide)
  · have tw1 : ¬ n.toInt < 0 := fun z9 => w1 ((ti_lt rfl (by decide)).mpr z9)
    refine pb_iload_n (pc := 5) d_Mod_again_5 1 rfl rfl ?_
    refine pb_aload_n (pc := 6) d_Mod_again_6 0 rfl rfl ?_
    refine pb_get (pc := 7) d_Mod_again_7 0 9 rfl rfl (by decide) in_Mod k_1155 rfl ?_
    refine pb_icmp_le (pc := 10) (tgt := 17) d_Mod_again_10 (by decide) (fun h9 => False.elim (by have t9 : n.toInt ≤ 0 := (ti_le rfl (by decide)).mp h9; omega)) (fun w6 => ?_)
    have tw6 : ¬ n.toInt ≤ 0 := fun z9 => w6 ((ti_le rfl (by decide)).mpr z9)
    refine pb_iconst (pc := 13) (v := 1) d_Mod_again_13 (by decide) ?_
    refine pb_goto (pc := 14) (tgt := 34) d_Mod_again_14 (by decide) ?_
    refine pb_put (pc := 34) (ty := .int) (ws' := [(h, .inr (10, [.ref m_rels, .ref m_openRels, .ref m_closeRels, .ref m_openRel, .ref m_closeRel, .ref m_comment, .ref m_ends, .ref m_order, .int 1, .int 0, .ref m_tape, .ref m_count, .ref m_nameSize, .ref m_names, .ref m_size, .ref m_data, .int 0, .ref m_looked, .int 0, .ref m_file, .int 0, .ref m_directory, .int 0, .ref m_out, .int 0, .ref m_row, .int 0, .int 0, .int 0, .int 0, .ref m_made, .ref m_length, .int 0, .int 0, .int 0, .int 0, .int 0, .ref m_pressed, .int 0, .int 0, .int 0, .ref m_mark, .int 0, .ref m_idSize, .ref m_ids, .ref m_goalSize, .ref m_goals, .int 0, .ref m_value, .int 0, .ref m_faults, .ref m_reached]))]) d_Mod_again_34 0 8 t_Mod t_Mod_ok n_Mod rfl rfl (by decide) in_Mod k_1154 rfl (by decide +kernel) rfl rfl (Nat.le_of_ble_eq_true rfl) rfl ?_
    refine pb_iconst (pc := 37) (v := 0) d_Mod_again_37 (by decide) ?_
    refine pb_istore_n (pc := 38) (lo' := [(2, .int 0), (0, .ref h), (1, .int n)]) d_Mod_again_38 rfl (by decide) rfl ?_
    refine pb_iload_n (pc := 39) d_Mod_again_39 0 rfl rfl ?_
    refine pb_iload_n (pc := 40) d_Mod_again_40 2 rfl rfl ?_
    refine pb_icmp_ge (pc := 41) (tgt := 87) d_Mod_again_41 (by decide) (fun w7 => ?_) (fun w7 => ?_)
    · have tw7 : n.toInt ≤ 0 := (ti_le rfl (by decide)).mp w7
      refine pb_aload_n (pc := 87) d_Mod_again_87 1 rfl rfl ?_
      refine pb_get (pc := 88) d_Mod_again_88 0 8 rfl rfl (by decide) in_Mod k_1154 rfl ?_
      refine pb_if_le (pc := 91) (tgt := 98) d_Mod_again_91 (by decide) (fun h9 => absurd h9 (by decide)) (fun _ => ?_)
      refine pb_iconst (pc := 94) (v := 0) d_Mod_again_94 (by decide) ?_
      refine pb_goto (pc := 95) (tgt := 102) d_Mod_again_95 (by decide) ?_
      exact pb_iret (pc := 102) hQ d_Mod_again_102 rfl rfl () rfl [0] (by decide) rfl rfl (by decide) (by decide)
    · have tw7 : ¬ n.toInt ≤ 0 := fun z9 => w7 ((ti_le rfl (by decide)).mpr z9)
      refine pb_aload_n (pc := 44) d_Mod_again_44 1 rfl rfl ?_
      refine pb_get (pc := 45) d_Mod_again_45 0 8 rfl rfl (by decide) in_Mod k_1154 rfl ?_
      refine pb_if_ne (pc := 48) (tgt := 87) d_Mod_again_48 (by decide) (fun _ => ?_) (fun h9 => absurd h9 (by decide))
      refine pb_aload_n (pc := 87) d_Mod_again_87 1 rfl rfl ?_
      refine pb_get (pc := 88) d_Mod_again_88 0 8 rfl rfl (by decide) in_Mod k_1154 rfl ?_
      refine pb_if_le (pc := 91) (tgt := 98) d_Mod_again_91 (by decide) (fun h9 => absurd h9 (by decide)) (fun _ => ?_)
      refine pb_iconst (pc := 94) (v := 0) d_Mod_again_94 (by decide) ?_
      refine pb_goto (pc := 95) (tgt := 102) d_Mod_again_95 (by decide) ?_
      exact pb_iret (pc := 102) hQ d_Mod_again_102 rfl rfl () rfl [0] (by decide) rfl rfl (by decide) (by decide)

set_option maxRecDepth 100000 in
set_option maxHeartbeats 4000000 in
theorem c_Mod_aboutV {l : Launch} (hl : l.stackTraces = false) (G : pb_G) (h : Nat) (m_rels : Nat) (m_openRels : Nat) (m_closeRels : Nat) (m_openRel : Nat) (m_closeRel : Nat) (m_comment : Nat) (m_ends : Nat) (m_order : Nat) (m_tape : Nat) (m_count : Nat) (m_nameSize : Nat) (m_names : Nat) (m_size : Nat) (m_data : Nat) (m_looked : Nat) (m_file : Nat) (m_directory : Nat) (m_out : Nat) (m_row : Nat) (m_made : Nat) (m_length : Nat) (m_pressed : Nat) (m_mark : Nat) (m_idSize : Nat) (m_ids : Nat) (m_goalSize : Nat) (m_goals : Nat) (m_value : Nat) (m_faults : Nat) (m_reached : Nat) (w : Int32) (i : Int32) (hv : w.toInt = 0 ∨ w.toInt = 3) : Cn l G i_Mod_about [.ref h, .int w, .int i] [(h, .inr (10, [.ref m_rels, .ref m_openRels, .ref m_closeRels, .ref m_openRel, .ref m_closeRel, .ref m_comment, .ref m_ends, .ref m_order, .int 0, .int 0, .ref m_tape, .ref m_count, .ref m_nameSize, .ref m_names, .ref m_size, .ref m_data, .int 0, .ref m_looked, .int 0, .ref m_file, .int 0, .ref m_directory, .int 0, .ref m_out, .int 0, .ref m_row, .int 0, .int 0, .int 0, .int 0, .ref m_made, .ref m_length, .int 0, .int 0, .int 0, .int 0, .int 0, .ref m_pressed, .int 0, .int 0, .int 0, .ref m_mark, .int 0, .ref m_idSize, .ref m_ids, .ref m_goalSize, .ref m_goals, .int 0, .ref m_value, .int 0, .ref m_faults, .ref m_reached])), (m_count, .inl (G.2.2.1, 2, .inl (fun _ => 0)))] (S := Unit) (fun v u => v = some (.int 0)) (fun u => [(h, .inr (10, [.ref m_rels, .ref m_openRels, .ref m_closeRels, .ref m_openRel, .ref m_closeRel, .ref m_comment, .ref m_ends, .ref m_order, .int 0, .int 0, .ref m_tape, .ref m_count, .ref m_nameSize, .ref m_names, .ref m_size, .ref m_data, .int 0, .ref m_looked, .int 0, .ref m_file, .int 0, .ref m_directory, .int 0, .ref m_out, .int 0, .ref m_row, .int 0, .int 0, .int 0, .int 0, .ref m_made, .ref m_length, .int 0, .int 0, .int 0, .int 0, .int 0, .ref m_pressed, .int 0, .int 0, .int 0, .ref m_mark, .int 0, .ref m_idSize, .ref m_ids, .ref m_goalSize, .ref m_goals, .int 0, .ref m_value, .int 0, .ref m_faults, .ref m_reached]))]) := by
  refine Cn.of hl (by decide +kernel) rfl (Nat.le_of_ble_eq_true rfl) (fun M hQ => ?_)
  refine pb_eq (pc' := 0) (lo' := [(0, .ref h), (1, .int w), (2, .int i)]) (rest' := []) (ws' := [(h, .inr (10, [.ref m_rels, .ref m_openRels, .ref m_closeRels, .ref m_openRel, .ref m_closeRel, .ref m_comment, .ref m_ends, .ref m_order, .int 0, .int 0, .ref m_tape, .ref m_count, .ref m_nameSize, .ref m_names, .ref m_size, .ref m_data, .int 0, .ref m_looked, .int 0, .ref m_file, .int 0, .ref m_directory, .int 0, .ref m_out, .int 0, .ref m_row, .int 0, .int 0, .int 0, .int 0, .ref m_made, .ref m_length, .int 0, .int 0, .int 0, .int 0, .int 0, .ref m_pressed, .int 0, .int 0, .int 0, .ref m_mark, .int 0, .ref m_idSize, .ref m_ids, .ref m_goalSize, .ref m_goals, .int 0, .ref m_value, .int 0, .ref m_faults, .ref m_reached])), (m_count, .inl (G.2.2.1, 2, .inl (fun _ => 0)))]) ?_
  have z0 : (0 : Int32).toInt = 0 := by decide
  have z1 : (1 : Int32).toInt = 1 := by decide
  have z2 : (0 : Int32).toNatClampNeg = 0 := by decide
  refine pb_iload_n (pc := 0) d_Mod_about_0 1 rfl rfl ?_
  refine pb_iconst (pc := 1) (v := 1) d_Mod_about_1 (by decide) ?_
  refine pb_icmp_eq (pc := 2) (tgt := 10) d_Mod_about_2 (by decide) (fun h9 => False.elim (by have t9 : w.toInt = 1 := (ti_eq rfl (by decide)).mp h9; omega)) (fun w1 => ?_)
  have tw1 : ¬ w.toInt = 1 := fun z9 => w1 ((ti_eq rfl (by decide)).mpr z9)
  refine pb_iload_n (pc := 5) d_Mod_about_5 1 rfl rfl ?_
  refine pb_iconst (pc := 6) (v := 2) d_Mod_about_6 (by decide) ?_
  refine pb_icmp_ne (pc := 7) (tgt := 14) d_Mod_about_7 (by decide) (fun w2 => ?_) (fun h9 => False.elim (by have t9 : w.toInt = 2 := (ti_eq rfl (by decide)).mp h9; omega))
  have tw2 : ¬ w.toInt = 2 := fun z9 => w2 ((ti_eq rfl (by decide)).mpr z9)
  refine pb_iconst (pc := 14) (v := 0) d_Mod_about_14 (by decide) ?_
  refine pb_istore_n (pc := 15) (lo' := [(3, .int 0), (0, .ref h), (1, .int w), (2, .int i)]) d_Mod_about_15 rfl (by decide) rfl ?_
  refine pb_aload_n (pc := 16) d_Mod_about_16 1 rfl rfl ?_
  refine pb_iload_n (pc := 17) d_Mod_about_17 2 rfl rfl ?_
  refine pb_if_lt (pc := 18) (tgt := 44) d_Mod_about_18 (by decide) (fun h9 => False.elim (by have t9 : w.toInt < 0 := (ti_lt rfl (by decide)).mp h9; omega)) (fun w3 => ?_)
  have tw3 : ¬ w.toInt < 0 := fun z9 => w3 ((ti_lt rfl (by decide)).mpr z9)
  refine pb_iload_n (pc := 21) d_Mod_about_21 2 rfl rfl ?_
  refine pb_iconst (pc := 22) (v := 3) d_Mod_about_22 (by decide) ?_
  refine pb_icmp_gt (pc := 23) (tgt := 44) d_Mod_about_23 (by decide) (fun h9 => False.elim (by have t9 : 3 < w.toInt := (ti_lt (by decide) rfl).mp h9; omega)) (fun w4 => ?_)
  have tw4 : ¬ 3 < w.toInt := fun z9 => w4 ((ti_lt (by decide) rfl).mpr z9)
  refine pb_iload_n (pc := 26) d_Mod_about_26 0 rfl rfl ?_
  refine pb_if_eq (pc := 27) (tgt := 48) d_Mod_about_27 (by decide) (fun _ => ?_) (fun h9 => absurd h9 (by decide))
  refine pb_iconst (pc := 48) (v := 0) d_Mod_about_48 (by decide) ?_
  refine pb_put (pc := 49) (ty := .int) (ws' := [(h, .inr (10, [.ref m_rels, .ref m_openRels, .ref m_closeRels, .ref m_openRel, .ref m_closeRel, .ref m_comment, .ref m_ends, .ref m_order, .int 0, .int 0, .ref m_tape, .ref m_count, .ref m_nameSize, .ref m_names, .ref m_size, .ref m_data, .int 0, .ref m_looked, .int 0, .ref m_file, .int 0, .ref m_directory, .int 0, .ref m_out, .int 0, .ref m_row, .int 0, .int 0, .int 0, .int 0, .ref m_made, .ref m_length, .int 0, .int 0, .int 0, .int 0, .int 0, .ref m_pressed, .int 0, .int 0, .int 0, .ref m_mark, .int 0, .ref m_idSize, .ref m_ids, .ref m_goalSize, .ref m_goals, .int 0, .ref m_value, .int 0, .ref m_faults, .ref m_reached])), (m_count, .inl (G.2.2.1, 2, .inl (fun _ => 0)))]) d_Mod_about_49 0 8 t_Mod t_Mod_ok n_Mod rfl rfl (by decide) in_Mod k_1154 rfl (by decide +kernel) rfl rfl (Nat.le_of_ble_eq_true rfl) rfl ?_
  refine pb_aload_n (pc := 52) d_Mod_about_52 1 rfl rfl ?_
  refine pb_get (pc := 53) d_Mod_about_53 0 8 rfl rfl (by decide) in_Mod k_1154 rfl ?_
  refine pb_if_le (pc := 56) (tgt := 61) d_Mod_about_56 (by decide) (fun _ => ?_) (fun h9 => absurd h9 (by decide))
  refine pb_iload_n (pc := 61) d_Mod_about_61 2 rfl rfl ?_
  refine pb_if_ne (pc := 62) (tgt := 74) d_Mod_about_62 (by decide) (fun w7 => ?_) (fun w7 => ?_)
  · have tw7 : ¬ w.toInt = 0 := fun z9 => w7 ((ti_eq rfl (by decide)).mpr z9)
    refine pb_iload_n (pc := 74) d_Mod_about_74 2 rfl rfl ?_
    refine pb_iconst (pc := 75) (v := 1) d_Mod_about_75 (by decide) ?_
    refine pb_icmp_ne (pc := 76) (tgt := 88) d_Mod_about_76 (by decide) (fun w8 => ?_) (fun h9 => False.elim (by have t9 : w.toInt = 1 := (ti_eq rfl (by decide)).mp h9; omega))
    have tw8 : ¬ w.toInt = 1 := fun z9 => w8 ((ti_eq rfl (by decide)).mpr z9)
    refine pb_iload_n (pc := 88) d_Mod_about_88 2 rfl rfl ?_
    refine pb_iconst (pc := 89) (v := 2) d_Mod_about_89 (by decide) ?_
    refine pb_icmp_ne (pc := 90) (tgt := 102) d_Mod_about_90 (by decide) (fun w9 => ?_) (fun h9 => False.elim (by have t9 : w.toInt = 2 := (ti_eq rfl (by decide)).mp h9; omega))
    have tw9 : ¬ w.toInt = 2 := fun z9 => w9 ((ti_eq rfl (by decide)).mpr z9)
    refine pb_aload_n (pc := 102) d_Mod_about_102 1 rfl rfl ?_
    refine pb_iconst (pc := 103) (v := 0) d_Mod_about_103 (by decide) ?_
    refine pb_callV (pc := 104) (qb := 0) (ci := 10) (nA := 1) (rest := []) (wr := []) d_Mod_about_104 (c_Mod_allBytes0 hl G h m_rels m_openRels m_closeRels m_openRel m_closeRel m_comment m_ends m_order m_tape m_count m_nameSize m_names m_size m_data m_looked m_file m_directory m_out m_row m_made m_length m_pressed m_mark m_idSize m_ids m_goalSize m_goals m_value m_faults m_reached) rfl rfl [0, 1] [] (by decide) rfl rfl rfl (by decide) (by decide) k_1345 rfl k_128 k_1342 k_1344 k_57 (by decide +kernel) (by decide) rfl rfl (Nat.le_of_ble_eq_true rfl) (by decide) (fun v9 u11 h10 => ?_)
    have eh10 := h10
    have eh10 : v9 = some (.int 0) := eh10
    subst eh10
    refine pb_eq (pc' := 107) (lo' := [(3, .int 0), (0, .ref h), (1, .int w), (2, .int i)]) (rest' := [.int 0]) (ws' := [(h, .inr (10, [.ref m_rels, .ref m_openRels, .ref m_closeRels, .ref m_openRel, .ref m_closeRel, .ref m_comment, .ref m_ends, .ref m_order, .int 0, .int 0, .ref m_tape, .ref m_count, .ref m_nameSize, .ref m_names, .ref m_size, .ref m_data, .int 0, .ref m_looked, .int 0, .ref m_file, .int 0, .ref m_directory, .int 0, .ref m_out, .int 0, .ref m_row, .int 0, .int 0, .int 0, .int 0, .ref m_made, .ref m_length, .int 0, .int 0, .int 0, .int 0, .int 0, .ref m_pressed, .int 0, .int 0, .int 0, .ref m_mark, .int 0, .ref m_idSize, .ref m_ids, .ref m_goalSize, .ref m_goals, .int 0, .ref m_value, .int 0, .ref m_faults, .ref m_reached])), (m_count, .inl (G.2.2.1, 2, .inl (fun _ => 0)))]) ?_
    exact pb_iret (pc := 107) hQ d_Mod_about_107 rfl rfl () rfl [0] (by decide) rfl rfl (by decide) (by decide)
  · have tw7 : w.toInt = 0 := (ti_eq rfl (by decide)).mp w7
    refine pb_aload_n (pc := 65) d_Mod_about_65 1 rfl rfl ?_
    refine pb_get (pc := 66) d_Mod_about_66 0 11 rfl rfl (by decide) in_Mod k_1157 rfl ?_
    refine pb_iconst (pc := 69) (v := 0) d_Mod_about_69 (by decide) ?_
    refine pb_iald (pc := 70) d_Mod_about_70 1 rfl (by unfold vp_in; decide) ?_
    refine pb_asi (y := 0) rfl ?_
    refine pb_goto (pc := 71) (tgt := 107) d_Mod_about_71 (by decide) ?_
    exact pb_iret (pc := 107) hQ d_Mod_about_107 rfl rfl () rfl [0] (by decide) rfl rfl (by decide) (by decide)

set_option maxRecDepth 100000 in
set_option maxHeartbeats 4000000 in
theorem c_Mod_aboutI {l : Launch} (hl : l.stackTraces = false) (G : pb_G) (h : Nat) (m_rels : Nat) (m_openRels : Nat) (m_closeRels : Nat) (m_openRel : Nat) (m_closeRel : Nat) (m_comment : Nat) (m_ends : Nat) (m_order : Nat) (m_tape : Nat) (m_count : Nat) (m_nameSize : Nat) (m_names : Nat) (m_size : Nat) (m_data : Nat) (m_looked : Nat) (m_file : Nat) (m_directory : Nat) (m_out : Nat) (m_row : Nat) (m_made : Nat) (m_length : Nat) (m_pressed : Nat) (m_mark : Nat) (m_idSize : Nat) (m_ids : Nat) (m_goalSize : Nat) (m_goals : Nat) (m_value : Nat) (m_faults : Nat) (m_reached : Nat) (w : Int32) (i : Int32) (hv : ¬ (w.toInt = 0 ∨ w.toInt = 3)) : Cn l G i_Mod_about [.ref h, .int w, .int i] [(h, .inr (10, [.ref m_rels, .ref m_openRels, .ref m_closeRels, .ref m_openRel, .ref m_closeRel, .ref m_comment, .ref m_ends, .ref m_order, .int 0, .int 0, .ref m_tape, .ref m_count, .ref m_nameSize, .ref m_names, .ref m_size, .ref m_data, .int 0, .ref m_looked, .int 0, .ref m_file, .int 0, .ref m_directory, .int 0, .ref m_out, .int 0, .ref m_row, .int 0, .int 0, .int 0, .int 0, .ref m_made, .ref m_length, .int 0, .int 0, .int 0, .int 0, .int 0, .ref m_pressed, .int 0, .int 0, .int 0, .ref m_mark, .int 0, .ref m_idSize, .ref m_ids, .ref m_goalSize, .ref m_goals, .int 0, .ref m_value, .int 0, .ref m_faults, .ref m_reached])), (m_count, .inl (G.2.2.1, 2, .inl (fun _ => 0)))] (S := Unit) (fun v u => v = some (.int 0)) (fun u => [(h, .inr (10, [.ref m_rels, .ref m_openRels, .ref m_closeRels, .ref m_openRel, .ref m_closeRel, .ref m_comment, .ref m_ends, .ref m_order, .int 1, .int 0, .ref m_tape, .ref m_count, .ref m_nameSize, .ref m_names, .ref m_size, .ref m_data, .int 0, .ref m_looked, .int 0, .ref m_file, .int 0, .ref m_directory, .int 0, .ref m_out, .int 0, .ref m_row, .int 0, .int 0, .int 0, .int 0, .ref m_made, .ref m_length, .int 0, .int 0, .int 0, .int 0, .int 0, .ref m_pressed, .int 0, .int 0, .int 0, .ref m_mark, .int 0, .ref m_idSize, .ref m_ids, .ref m_goalSize, .ref m_goals, .int 0, .ref m_value, .int 0, .ref m_faults, .ref m_reached]))]) := by
  refine Cn.of hl (by decide +kernel) rfl (Nat.le_of_ble_eq_true rfl) (fun M hQ => ?_)
  refine pb_eq (pc' := 0) (lo' := [(0, .ref h), (1, .int w), (2, .int i)]) (rest' := []) (ws' := [(h, .inr (10, [.ref m_rels, .ref m_openRels, .ref m_closeRels, .ref m_openRel, .ref m_closeRel, .ref m_comment, .ref m_ends, .ref m_order, .int 0, .int 0, .ref m_tape, .ref m_count, .ref m_nameSize, .ref m_names, .ref m_size, .ref m_data, .int 0, .ref m_looked, .int 0, .ref m_file, .int 0, .ref m_directory, .int 0, .ref m_out, .int 0, .ref m_row, .int 0, .int 0, .int 0, .int 0, .ref m_made, .ref m_length, .int 0, .int 0, .int 0, .int 0, .int 0, .ref m_pressed, .int 0, .int 0, .int 0, .ref m_mark, .int 0, .ref m_idSize, .ref m_ids, .ref m_goalSize, .ref m_goals, .int 0, .ref m_value, .int 0, .ref m_faults, .ref m_reached])), (m_count, .inl (G.2.2.1, 2, .inl (fun _ => 0)))]) ?_
  have z0 : (0 : Int32).toInt = 0 := by decide
  have z1 : (1 : Int32).toInt = 1 := by decide
  have z2 : (0 : Int32).toNatClampNeg = 0 := by decide
  refine pb_iload_n (pc := 0) d_Mod_about_0 1 rfl rfl ?_
  refine pb_iconst (pc := 1) (v := 1) d_Mod_about_1 (by decide) ?_
  refine pb_icmp_eq (pc := 2) (tgt := 10) d_Mod_about_2 (by decide) (fun w1 => ?_) (fun w1 => ?_)
  · have tw1 : w.toInt = 1 := (ti_eq rfl (by decide)).mp w1
    refine pb_iconst (pc := 10) (v := 1) d_Mod_about_10 (by decide) ?_
    refine pb_goto (pc := 11) (tgt := 15) d_Mod_about_11 (by decide) ?_
    refine pb_istore_n (pc := 15) (lo' := [(3, .int 1), (0, .ref h), (1, .int w), (2, .int i)]) d_Mod_about_15 rfl (by decide) rfl ?_
    refine pb_aload_n (pc := 16) d_Mod_about_16 1 rfl rfl ?_
    refine pb_iload_n (pc := 17) d_Mod_about_17 2 rfl rfl ?_
    refine pb_if_lt (pc := 18) (tgt := 44) d_Mod_about_18 (by decide) (fun w2 => ?_) (fun w2 => ?_)
    · have tw2 : w.toInt < 0 := (ti_lt rfl (by decide)).mp w2
      refine pb_iconst (pc := 44) (v := 1) d_Mod_about_44 (by decide) ?_
      refine pb_goto (pc := 45) (tgt := 49) d_Mod_about_45 (by decide) ?_
      refine pb_put (pc := 49) (ty := .int) (ws' := [(h, .inr (10, [.ref m_rels, .ref m_openRels, .ref m_closeRels, .ref m_openRel, .ref m_closeRel, .ref m_comment, .ref m_ends, .ref m_order, .int 1, .int 0, .ref m_tape, .ref m_count, .ref m_nameSize, .ref m_names, .ref m_size, .ref m_data, .int 0, .ref m_looked, .int 0, .ref m_file, .int 0, .ref m_directory, .int 0, .ref m_out, .int 0, .ref m_row, .int 0, .int 0, .int 0, .int 0, .ref m_made, .ref m_length, .int 0, .int 0, .int 0, .int 0, .int 0, .ref m_pressed, .int 0, .int 0, .int 0, .ref m_mark, .int 0, .ref m_idSize, .ref m_ids, .ref m_goalSize, .ref m_goals, .int 0, .ref m_value, .int 0, .ref m_faults, .ref m_reached])), (m_count, .inl (G.2.2.1, 2, .inl (fun _ => 0)))]) d_Mod_about_49 0 8 t_Mod t_Mod_ok n_Mod rfl rfl (by decide) in_Mod k_1154 rfl (by decide +kernel) rfl rfl (Nat.le_of_ble_eq_true rfl) rfl ?_
      refine pb_aload_n (pc := 52) d_Mod_about_52 1 rfl rfl ?_
      refine pb_get (pc := 53) d_Mod_about_53 0 8 rfl rfl (by decide) in_Mod k_1154 rfl ?_
      refine pb_if_le (pc := 56) (tgt := 61) d_Mod_about_56 (by decide) (fun h9 => absurd h9 (by decide)) (fun _ => ?_)
      refine pb_iconst (pc := 59) (v := 0) d_Mod_about_59 (by decide) ?_
      exact pb_iret (pc := 60) hQ d_Mod_about_60 rfl rfl () rfl [0] (by decide) rfl rfl (by decide) (by decide)
    · have tw2 : ¬ w.toInt < 0 := fun z9 => w2 ((ti_lt rfl (by decide)).mpr z9)
      refine pb_iload_n (pc := 21) d_Mod_about_21 2 rfl rfl ?_
      refine pb_iconst (pc := 22) (v := 3) d_Mod_about_22 (by decide) ?_
      refine pb_icmp_gt (pc := 23) (tgt := 44) d_Mod_about_23 (by decide) (fun w4 => ?_) (fun w4 => ?_)
      · have tw4 : 3 < w.toInt := (ti_lt (by decide) rfl).mp w4
        refine pb_iconst (pc := 44) (v := 1) d_Mod_about_44 (by decide) ?_
        refine pb_goto (pc := 45) (tgt := 49) d_Mod_about_45 (by decide) ?_
        refine pb_put (pc := 49) (ty := .int) (ws' := [(h, .inr (10, [.ref m_rels, .ref m_openRels, .ref m_closeRels, .ref m_openRel, .ref m_closeRel, .ref m_comment, .ref m_ends, .ref m_order, .int 1, .int 0, .ref m_tape, .ref m_count, .ref m_nameSize, .ref m_names, .ref m_size, .ref m_data, .int 0, .ref m_looked, .int 0, .ref m_file, .int 0, .ref m_directory, .int 0, .ref m_out, .int 0, .ref m_row, .int 0, .int 0, .int 0, .int 0, .ref m_made, .ref m_length, .int 0, .int 0, .int 0, .int 0, .int 0, .ref m_pressed, .int 0, .int 0, .int 0, .ref m_mark, .int 0, .ref m_idSize, .ref m_ids, .ref m_goalSize, .ref m_goals, .int 0, .ref m_value, .int 0, .ref m_faults, .ref m_reached])), (m_count, .inl (G.2.2.1, 2, .inl (fun _ => 0)))]) d_Mod_about_49 0 8 t_Mod t_Mod_ok n_Mod rfl rfl (by decide) in_Mod k_1154 rfl (by decide +kernel) rfl rfl (Nat.le_of_ble_eq_true rfl) rfl ?_
        refine pb_aload_n (pc := 52) d_Mod_about_52 1 rfl rfl ?_
        refine pb_get (pc := 53) d_Mod_about_53 0 8 rfl rfl (by decide) in_Mod k_1154 rfl ?_
        refine pb_if_le (pc := 56) (tgt := 61) d_Mod_about_56 (by decide) (fun h9 => absurd h9 (by decide)) (fun _ => ?_)
        refine pb_iconst (pc := 59) (v := 0) d_Mod_about_59 (by decide) ?_
        exact pb_iret (pc := 60) hQ d_Mod_about_60 rfl rfl () rfl [0] (by decide) rfl rfl (by decide) (by decide)
      · have tw4 : ¬ 3 < w.toInt := fun z9 => w4 ((ti_lt (by decide) rfl).mpr z9)
        refine pb_iload_n (pc := 26) d_Mod_about_26 0 rfl rfl ?_
        refine pb_if_eq (pc := 27) (tgt := 48) d_Mod_about_27 (by decide) (fun h9 => absurd h9 (by decide)) (fun _ => ?_)
        refine pb_iload_n (pc := 30) d_Mod_about_30 3 rfl rfl ?_
        refine pb_if_lt (pc := 31) (tgt := 44) d_Mod_about_31 (by decide) (fun w7 => ?_) (fun w7 => ?_)
        · have tw7 : i.toInt < 0 := (ti_lt rfl (by decide)).mp w7
          refine pb_iconst (pc := 44) (v := 1) d_Mod_about_44 (by decide) ?_
          refine pb_goto (pc := 45) (tgt := 49) d_Mod_about_45 (by decide) ?_
          refine pb_put (pc := 49) (ty := .int) (ws' := [(h, .inr (10, [.ref m_rels, .ref m_openRels, .ref m_closeRels, .ref m_openRel, .ref m_closeRel, .ref m_comment, .ref m_ends, .ref m_order, .int 1, .int 0, .ref m_tape, .ref m_count, .ref m_nameSize, .ref m_names, .ref m_size, .ref m_data, .int 0, .ref m_looked, .int 0, .ref m_file, .int 0, .ref m_directory, .int 0, .ref m_out, .int 0, .ref m_row, .int 0, .int 0, .int 0, .int 0, .ref m_made, .ref m_length, .int 0, .int 0, .int 0, .int 0, .int 0, .ref m_pressed, .int 0, .int 0, .int 0, .ref m_mark, .int 0, .ref m_idSize, .ref m_ids, .ref m_goalSize, .ref m_goals, .int 0, .ref m_value, .int 0, .ref m_faults, .ref m_reached])), (m_count, .inl (G.2.2.1, 2, .inl (fun _ => 0)))]) d_Mod_about_49 0 8 t_Mod t_Mod_ok n_Mod rfl rfl (by decide) in_Mod k_1154 rfl (by decide +kernel) rfl rfl (Nat.le_of_ble_eq_true rfl) rfl ?_
          refine pb_aload_n (pc := 52) d_Mod_about_52 1 rfl rfl ?_
          refine pb_get (pc := 53) d_Mod_about_53 0 8 rfl rfl (by decide) in_Mod k_1154 rfl ?_
          refine pb_if_le (pc := 56) (tgt := 61) d_Mod_about_56 (by decide) (fun h9 => absurd h9 (by decide)) (fun _ => ?_)
          refine pb_iconst (pc := 59) (v := 0) d_Mod_about_59 (by decide) ?_
          exact pb_iret (pc := 60) hQ d_Mod_about_60 rfl rfl () rfl [0] (by decide) rfl rfl (by decide) (by decide)
        · have tw7 : ¬ i.toInt < 0 := fun z9 => w7 ((ti_lt rfl (by decide)).mpr z9)
          refine pb_iload_n (pc := 34) d_Mod_about_34 3 rfl rfl ?_
          refine pb_aload_n (pc := 35) d_Mod_about_35 1 rfl rfl ?_
          refine pb_get (pc := 36) d_Mod_about_36 0 11 rfl rfl (by decide) in_Mod k_1157 rfl ?_
          refine pb_iconst (pc := 39) (v := 0) d_Mod_about_39 (by decide) ?_
          refine pb_iald (pc := 40) d_Mod_about_40 1 rfl (by unfold vp_in; decide) ?_
          refine pb_asi (y := 0) rfl ?_
          refine pb_icmp_lt (pc := 41) (tgt := 48) d_Mod_about_41 (by decide) (fun h9 => False.elim (by have t9 : i.toInt < 0 := (ti_lt rfl (by decide)).mp h9; omega)) (fun w9 => ?_)
          have tw9 : ¬ i.toInt < 0 := fun z9 => w9 ((ti_lt rfl (by decide)).mpr z9)
          refine pb_iconst (pc := 44) (v := 1) d_Mod_about_44 (by decide) ?_
          refine pb_goto (pc := 45) (tgt := 49) d_Mod_about_45 (by decide) ?_
          refine pb_put (pc := 49) (ty := .int) (ws' := [(h, .inr (10, [.ref m_rels, .ref m_openRels, .ref m_closeRels, .ref m_openRel, .ref m_closeRel, .ref m_comment, .ref m_ends, .ref m_order, .int 1, .int 0, .ref m_tape, .ref m_count, .ref m_nameSize, .ref m_names, .ref m_size, .ref m_data, .int 0, .ref m_looked, .int 0, .ref m_file, .int 0, .ref m_directory, .int 0, .ref m_out, .int 0, .ref m_row, .int 0, .int 0, .int 0, .int 0, .ref m_made, .ref m_length, .int 0, .int 0, .int 0, .int 0, .int 0, .ref m_pressed, .int 0, .int 0, .int 0, .ref m_mark, .int 0, .ref m_idSize, .ref m_ids, .ref m_goalSize, .ref m_goals, .int 0, .ref m_value, .int 0, .ref m_faults, .ref m_reached])), (m_count, .inl (G.2.2.1, 2, .inl (fun _ => 0)))]) d_Mod_about_49 0 8 t_Mod t_Mod_ok n_Mod rfl rfl (by decide) in_Mod k_1154 rfl (by decide +kernel) rfl rfl (Nat.le_of_ble_eq_true rfl) rfl ?_
          refine pb_aload_n (pc := 52) d_Mod_about_52 1 rfl rfl ?_
          refine pb_get (pc := 53) d_Mod_about_53 0 8 rfl rfl (by decide) in_Mod k_1154 rfl ?_
          refine pb_if_le (pc := 56) (tgt := 61) d_Mod_about_56 (by decide) (fun h9 => absurd h9 (by decide)) (fun _ => ?_)
          refine pb_iconst (pc := 59) (v := 0) d_Mod_about_59 (by decide) ?_
          exact pb_iret (pc := 60) hQ d_Mod_about_60 rfl rfl () rfl [0] (by decide) rfl rfl (by decide) (by decide)
  · have tw1 : ¬ w.toInt = 1 := fun z9 => w1 ((ti_eq rfl (by decide)).mpr z9)
    refine pb_iload_n (pc := 5) d_Mod_about_5 1 rfl rfl ?_
    refine pb_iconst (pc := 6) (v := 2) d_Mod_about_6 (by decide) ?_
    refine pb_icmp_ne (pc := 7) (tgt := 14) d_Mod_about_7 (by decide) (fun w11 => ?_) (fun w11 => ?_)
    · have tw11 : ¬ w.toInt = 2 := fun z9 => w11 ((ti_eq rfl (by decide)).mpr z9)
      refine pb_iconst (pc := 14) (v := 0) d_Mod_about_14 (by decide) ?_
      refine pb_istore_n (pc := 15) (lo' := [(3, .int 0), (0, .ref h), (1, .int w), (2, .int i)]) d_Mod_about_15 rfl (by decide) rfl ?_
      refine pb_aload_n (pc := 16) d_Mod_about_16 1 rfl rfl ?_
      refine pb_iload_n (pc := 17) d_Mod_about_17 2 rfl rfl ?_
      refine pb_if_lt (pc := 18) (tgt := 44) d_Mod_about_18 (by decide) (fun w12 => ?_) (fun w12 => ?_)
      · have tw12 : w.toInt < 0 := (ti_lt rfl (by decide)).mp w12
        refine pb_iconst (pc := 44) (v := 1) d_Mod_about_44 (by decide) ?_
        refine pb_goto (pc := 45) (tgt := 49) d_Mod_about_45 (by decide) ?_
        refine pb_put (pc := 49) (ty := .int) (ws' := [(h, .inr (10, [.ref m_rels, .ref m_openRels, .ref m_closeRels, .ref m_openRel, .ref m_closeRel, .ref m_comment, .ref m_ends, .ref m_order, .int 1, .int 0, .ref m_tape, .ref m_count, .ref m_nameSize, .ref m_names, .ref m_size, .ref m_data, .int 0, .ref m_looked, .int 0, .ref m_file, .int 0, .ref m_directory, .int 0, .ref m_out, .int 0, .ref m_row, .int 0, .int 0, .int 0, .int 0, .ref m_made, .ref m_length, .int 0, .int 0, .int 0, .int 0, .int 0, .ref m_pressed, .int 0, .int 0, .int 0, .ref m_mark, .int 0, .ref m_idSize, .ref m_ids, .ref m_goalSize, .ref m_goals, .int 0, .ref m_value, .int 0, .ref m_faults, .ref m_reached])), (m_count, .inl (G.2.2.1, 2, .inl (fun _ => 0)))]) d_Mod_about_49 0 8 t_Mod t_Mod_ok n_Mod rfl rfl (by decide) in_Mod k_1154 rfl (by decide +kernel) rfl rfl (Nat.le_of_ble_eq_true rfl) rfl ?_
        refine pb_aload_n (pc := 52) d_Mod_about_52 1 rfl rfl ?_
        refine pb_get (pc := 53) d_Mod_about_53 0 8 rfl rfl (by decide) in_Mod k_1154 rfl ?_
        refine pb_if_le (pc := 56) (tgt := 61) d_Mod_about_56 (by decide) (fun h9 => absurd h9 (by decide)) (fun _ => ?_)
        refine pb_iconst (pc := 59) (v := 0) d_Mod_about_59 (by decide) ?_
        exact pb_iret (pc := 60) hQ d_Mod_about_60 rfl rfl () rfl [0] (by decide) rfl rfl (by decide) (by decide)
      · have tw12 : ¬ w.toInt < 0 := fun z9 => w12 ((ti_lt rfl (by decide)).mpr z9)
        refine pb_iload_n (pc := 21) d_Mod_about_21 2 rfl rfl ?_
        refine pb_iconst (pc := 22) (v := 3) d_Mod_about_22 (by decide) ?_
        refine pb_icmp_gt (pc := 23) (tgt := 44) d_Mod_about_23 (by decide) (fun w14 => ?_) (fun h9 => False.elim (by have t9 : ¬ 3 < w.toInt := fun z9 => h9 ((ti_lt (by decide) rfl).mpr z9); omega))
        have tw14 : 3 < w.toInt := (ti_lt (by decide) rfl).mp w14
        refine pb_iconst (pc := 44) (v := 1) d_Mod_about_44 (by decide) ?_
        refine pb_goto (pc := 45) (tgt := 49) d_Mod_about_45 (by decide) ?_
        refine pb_put (pc := 49) (ty := .int) (ws' := [(h, .inr (10, [.ref m_rels, .ref m_openRels, .ref m_closeRels, .ref m_openRel, .ref m_closeRel, .ref m_comment, .ref m_ends, .ref m_order, .int 1, .int 0, .ref m_tape, .ref m_count, .ref m_nameSize, .ref m_names, .ref m_size, .ref m_data, .int 0, .ref m_looked, .int 0, .ref m_file, .int 0, .ref m_directory, .int 0, .ref m_out, .int 0, .ref m_row, .int 0, .int 0, .int 0, .int 0, .ref m_made, .ref m_length, .int 0, .int 0, .int 0, .int 0, .int 0, .ref m_pressed, .int 0, .int 0, .int 0, .ref m_mark, .int 0, .ref m_idSize, .ref m_ids, .ref m_goalSize, .ref m_goals, .int 0, .ref m_value, .int 0, .ref m_faults, .ref m_reached])), (m_count, .inl (G.2.2.1, 2, .inl (fun _ => 0)))]) d_Mod_about_49 0 8 t_Mod t_Mod_ok n_Mod rfl rfl (by decide) in_Mod k_1154 rfl (by decide +kernel) rfl rfl (Nat.le_of_ble_eq_true rfl) rfl ?_
        refine pb_aload_n (pc := 52) d_Mod_about_52 1 rfl rfl ?_
        refine pb_get (pc := 53) d_Mod_about_53 0 8 rfl rfl (by decide) in_Mod k_1154 rfl ?_
        refine pb_if_le (pc := 56) (tgt := 61) d_Mod_about_56 (by decide) (fun h9 => absurd h9 (by decide)) (fun _ => ?_)
        refine pb_iconst (pc := 59) (v := 0) d_Mod_about_59 (by decide) ?_
        exact pb_iret (pc := 60) hQ d_Mod_about_60 rfl rfl () rfl [0] (by decide) rfl rfl (by decide) (by decide)
    · have tw11 : w.toInt = 2 := (ti_eq rfl (by decide)).mp w11
      refine pb_iconst (pc := 10) (v := 1) d_Mod_about_10 (by decide) ?_
      refine pb_goto (pc := 11) (tgt := 15) d_Mod_about_11 (by decide) ?_
      refine pb_istore_n (pc := 15) (lo' := [(3, .int 1), (0, .ref h), (1, .int w), (2, .int i)]) d_Mod_about_15 rfl (by decide) rfl ?_
      refine pb_aload_n (pc := 16) d_Mod_about_16 1 rfl rfl ?_
      refine pb_iload_n (pc := 17) d_Mod_about_17 2 rfl rfl ?_
      refine pb_if_lt (pc := 18) (tgt := 44) d_Mod_about_18 (by decide) (fun w16 => ?_) (fun w16 => ?_)
      · have tw16 : w.toInt < 0 := (ti_lt rfl (by decide)).mp w16
        refine pb_iconst (pc := 44) (v := 1) d_Mod_about_44 (by decide) ?_
        refine pb_goto (pc := 45) (tgt := 49) d_Mod_about_45 (by decide) ?_
        refine pb_put (pc := 49) (ty := .int) (ws' := [(h, .inr (10, [.ref m_rels, .ref m_openRels, .ref m_closeRels, .ref m_openRel, .ref m_closeRel, .ref m_comment, .ref m_ends, .ref m_order, .int 1, .int 0, .ref m_tape, .ref m_count, .ref m_nameSize, .ref m_names, .ref m_size, .ref m_data, .int 0, .ref m_looked, .int 0, .ref m_file, .int 0, .ref m_directory, .int 0, .ref m_out, .int 0, .ref m_row, .int 0, .int 0, .int 0, .int 0, .ref m_made, .ref m_length, .int 0, .int 0, .int 0, .int 0, .int 0, .ref m_pressed, .int 0, .int 0, .int 0, .ref m_mark, .int 0, .ref m_idSize, .ref m_ids, .ref m_goalSize, .ref m_goals, .int 0, .ref m_value, .int 0, .ref m_faults, .ref m_reached])), (m_count, .inl (G.2.2.1, 2, .inl (fun _ => 0)))]) d_Mod_about_49 0 8 t_Mod t_Mod_ok n_Mod rfl rfl (by decide) in_Mod k_1154 rfl (by decide +kernel) rfl rfl (Nat.le_of_ble_eq_true rfl) rfl ?_
        refine pb_aload_n (pc := 52) d_Mod_about_52 1 rfl rfl ?_
        refine pb_get (pc := 53) d_Mod_about_53 0 8 rfl rfl (by decide) in_Mod k_1154 rfl ?_
        refine pb_if_le (pc := 56) (tgt := 61) d_Mod_about_56 (by decide) (fun h9 => absurd h9 (by decide)) (fun _ => ?_)
        refine pb_iconst (pc := 59) (v := 0) d_Mod_about_59 (by decide) ?_
        exact pb_iret (pc := 60) hQ d_Mod_about_60 rfl rfl () rfl [0] (by decide) rfl rfl (by decide) (by decide)
      · have tw16 : ¬ w.toInt < 0 := fun z9 => w16 ((ti_lt rfl (by decide)).mpr z9)
        refine pb_iload_n (pc := 21) d_Mod_about_21 2 rfl rfl ?_
        refine pb_iconst (pc := 22) (v := 3) d_Mod_about_22 (by decide) ?_
        refine pb_icmp_gt (pc := 23) (tgt := 44) d_Mod_about_23 (by decide) (fun w18 => ?_) (fun w18 => ?_)
        · have tw18 : 3 < w.toInt := (ti_lt (by decide) rfl).mp w18
          refine pb_iconst (pc := 44) (v := 1) d_Mod_about_44 (by decide) ?_
          refine pb_goto (pc := 45) (tgt := 49) d_Mod_about_45 (by decide) ?_
          refine pb_put (pc := 49) (ty := .int) (ws' := [(h, .inr (10, [.ref m_rels, .ref m_openRels, .ref m_closeRels, .ref m_openRel, .ref m_closeRel, .ref m_comment, .ref m_ends, .ref m_order, .int 1, .int 0, .ref m_tape, .ref m_count, .ref m_nameSize, .ref m_names, .ref m_size, .ref m_data, .int 0, .ref m_looked, .int 0, .ref m_file, .int 0, .ref m_directory, .int 0, .ref m_out, .int 0, .ref m_row, .int 0, .int 0, .int 0, .int 0, .ref m_made, .ref m_length, .int 0, .int 0, .int 0, .int 0, .int 0, .ref m_pressed, .int 0, .int 0, .int 0, .ref m_mark, .int 0, .ref m_idSize, .ref m_ids, .ref m_goalSize, .ref m_goals, .int 0, .ref m_value, .int 0, .ref m_faults, .ref m_reached])), (m_count, .inl (G.2.2.1, 2, .inl (fun _ => 0)))]) d_Mod_about_49 0 8 t_Mod t_Mod_ok n_Mod rfl rfl (by decide) in_Mod k_1154 rfl (by decide +kernel) rfl rfl (Nat.le_of_ble_eq_true rfl) rfl ?_
          refine pb_aload_n (pc := 52) d_Mod_about_52 1 rfl rfl ?_
          refine pb_get (pc := 53) d_Mod_about_53 0 8 rfl rfl (by decide) in_Mod k_1154 rfl ?_
          refine pb_if_le (pc := 56) (tgt := 61) d_Mod_about_56 (by decide) (fun h9 => absurd h9 (by decide)) (fun _ => ?_)
          refine pb_iconst (pc := 59) (v := 0) d_Mod_about_59 (by decide) ?_
          exact pb_iret (pc := 60) hQ d_Mod_about_60 rfl rfl () rfl [0] (by decide) rfl rfl (by decide) (by decide)
        · have tw18 : ¬ 3 < w.toInt := fun z9 => w18 ((ti_lt (by decide) rfl).mpr z9)
          refine pb_iload_n (pc := 26) d_Mod_about_26 0 rfl rfl ?_
          refine pb_if_eq (pc := 27) (tgt := 48) d_Mod_about_27 (by decide) (fun h9 => absurd h9 (by decide)) (fun _ => ?_)
          refine pb_iload_n (pc := 30) d_Mod_about_30 3 rfl rfl ?_
          refine pb_if_lt (pc := 31) (tgt := 44) d_Mod_about_31 (by decide) (fun w21 => ?_) (fun w21 => ?_)
          · have tw21 : i.toInt < 0 := (ti_lt rfl (by decide)).mp w21
            refine pb_iconst (pc := 44) (v := 1) d_Mod_about_44 (by decide) ?_
            refine pb_goto (pc := 45) (tgt := 49) d_Mod_about_45 (by decide) ?_
            refine pb_put (pc := 49) (ty := .int) (ws' := [(h, .inr (10, [.ref m_rels, .ref m_openRels, .ref m_closeRels, .ref m_openRel, .ref m_closeRel, .ref m_comment, .ref m_ends, .ref m_order, .int 1, .int 0, .ref m_tape, .ref m_count, .ref m_nameSize, .ref m_names, .ref m_size, .ref m_data, .int 0, .ref m_looked, .int 0, .ref m_file, .int 0, .ref m_directory, .int 0, .ref m_out, .int 0, .ref m_row, .int 0, .int 0, .int 0, .int 0, .ref m_made, .ref m_length, .int 0, .int 0, .int 0, .int 0, .int 0, .ref m_pressed, .int 0, .int 0, .int 0, .ref m_mark, .int 0, .ref m_idSize, .ref m_ids, .ref m_goalSize, .ref m_goals, .int 0, .ref m_value, .int 0, .ref m_faults, .ref m_reached])), (m_count, .inl (G.2.2.1, 2, .inl (fun _ => 0)))]) d_Mod_about_49 0 8 t_Mod t_Mod_ok n_Mod rfl rfl (by decide) in_Mod k_1154 rfl (by decide +kernel) rfl rfl (Nat.le_of_ble_eq_true rfl) rfl ?_
            refine pb_aload_n (pc := 52) d_Mod_about_52 1 rfl rfl ?_
            refine pb_get (pc := 53) d_Mod_about_53 0 8 rfl rfl (by decide) in_Mod k_1154 rfl ?_
            refine pb_if_le (pc := 56) (tgt := 61) d_Mod_about_56 (by decide) (fun h9 => absurd h9 (by decide)) (fun _ => ?_)
            refine pb_iconst (pc := 59) (v := 0) d_Mod_about_59 (by decide) ?_
            exact pb_iret (pc := 60) hQ d_Mod_about_60 rfl rfl () rfl [0] (by decide) rfl rfl (by decide) (by decide)
          · have tw21 : ¬ i.toInt < 0 := fun z9 => w21 ((ti_lt rfl (by decide)).mpr z9)
            refine pb_iload_n (pc := 34) d_Mod_about_34 3 rfl rfl ?_
            refine pb_aload_n (pc := 35) d_Mod_about_35 1 rfl rfl ?_
            refine pb_get (pc := 36) d_Mod_about_36 0 11 rfl rfl (by decide) in_Mod k_1157 rfl ?_
            refine pb_iconst (pc := 39) (v := 0) d_Mod_about_39 (by decide) ?_
            refine pb_iald (pc := 40) d_Mod_about_40 1 rfl (by unfold vp_in; decide) ?_
            refine pb_asi (y := 0) rfl ?_
            refine pb_icmp_lt (pc := 41) (tgt := 48) d_Mod_about_41 (by decide) (fun h9 => False.elim (by have t9 : i.toInt < 0 := (ti_lt rfl (by decide)).mp h9; omega)) (fun w23 => ?_)
            have tw23 : ¬ i.toInt < 0 := fun z9 => w23 ((ti_lt rfl (by decide)).mpr z9)
            refine pb_iconst (pc := 44) (v := 1) d_Mod_about_44 (by decide) ?_
            refine pb_goto (pc := 45) (tgt := 49) d_Mod_about_45 (by decide) ?_
            refine pb_put (pc := 49) (ty := .int) (ws' := [(h, .inr (10, [.ref m_rels, .ref m_openRels, .ref m_closeRels, .ref m_openRel, .ref m_closeRel, .ref m_comment, .ref m_ends, .ref m_order, .int 1, .int 0, .ref m_tape, .ref m_count, .ref m_nameSize, .ref m_names, .ref m_size, .ref m_data, .int 0, .ref m_looked, .int 0, .ref m_file, .int 0, .ref m_directory, .int 0, .ref m_out, .int 0, .ref m_row, .int 0, .int 0, .int 0, .int 0, .ref m_made, .ref m_length, .int 0, .int 0, .int 0, .int 0, .int 0, .ref m_pressed, .int 0, .int 0, .int 0, .ref m_mark, .int 0, .ref m_idSize, .ref m_ids, .ref m_goalSize, .ref m_goals, .int 0, .ref m_value, .int 0, .ref m_faults, .ref m_reached])), (m_count, .inl (G.2.2.1, 2, .inl (fun _ => 0)))]) d_Mod_about_49 0 8 t_Mod t_Mod_ok n_Mod rfl rfl (by decide) in_Mod k_1154 rfl (by decide +kernel) rfl rfl (Nat.le_of_ble_eq_true rfl) rfl ?_
            refine pb_aload_n (pc := 52) d_Mod_about_52 1 rfl rfl ?_
            refine pb_get (pc := 53) d_Mod_about_53 0 8 rfl rfl (by decide) in_Mod k_1154 rfl ?_
            refine pb_if_le (pc := 56) (tgt := 61) d_Mod_about_56 (by decide) (fun h9 => absurd h9 (by decide)) (fun _ => ?_)
            refine pb_iconst (pc := 59) (v := 0) d_Mod_about_59 (by decide) ?_
            exact pb_iret (pc := 60) hQ d_Mod_about_60 rfl rfl () rfl [0] (by decide) rfl rfl (by decide) (by decide)
