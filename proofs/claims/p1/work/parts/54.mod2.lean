theorem d_Mod_lay_0 : decode prog_12_method_49_code 0 = .ok (.iconst 0, 1) := by decide +kernel
theorem d_Mod_lay_1 : decode prog_12_method_49_code 1 = .ok (.istore 4, 2) := by decide +kernel
theorem d_Mod_lay_3 : decode prog_12_method_49_code 3 = .ok (.iload 4, 2) := by decide +kernel
theorem d_Mod_lay_5 : decode prog_12_method_49_code 5 = .ok (.iload_n 3, 1) := by decide +kernel
theorem d_Mod_lay_6 : decode prog_12_method_49_code 6 = .ok (.if_icmp .ge 37, 3) := by decide +kernel
theorem d_Mod_lay_43 : decode prog_12_method_49_code 43 = .ok (.return_, 1) := by decide +kernel
theorem d_Mod_lay_9 : decode prog_12_method_49_code 9 = .ok (.aload_n 0, 1) := by decide +kernel
theorem d_Mod_lay_10 : decode prog_12_method_49_code 10 = .ok (.getfield 57, 3) := by decide +kernel
theorem d_Mod_lay_13 : decode prog_12_method_49_code 13 = .ok (.aload_n 0, 1) := by decide +kernel
theorem d_Mod_lay_14 : decode prog_12_method_49_code 14 = .ok (.getfield 269, 3) := by decide +kernel
theorem d_Mod_lay_17 : decode prog_12_method_49_code 17 = .ok (.lload_n 1, 1) := by decide +kernel
theorem d_Mod_lay_18 : decode prog_12_method_49_code 18 = .ok (.bipush 8, 2) := by decide +kernel
theorem d_Mod_lay_20 : decode prog_12_method_49_code 20 = .ok (.iload 4, 2) := by decide +kernel
theorem d_Mod_lay_22 : decode prog_12_method_49_code 22 = .ok (.imul, 1) := by decide +kernel
theorem d_Mod_lay_23 : decode prog_12_method_49_code 23 = .ok (.lshr, 1) := by decide +kernel
theorem d_Mod_lay_24 : decode prog_12_method_49_code 24 = .ok (.l2i, 1) := by decide +kernel
theorem d_Mod_lay_25 : decode prog_12_method_49_code 25 = .ok (.i2b, 1) := by decide +kernel
theorem d_Mod_lay_26 : decode prog_12_method_49_code 26 = .ok (.bastore, 1) := by decide +kernel
theorem d_Mod_lay_27 : decode prog_12_method_49_code 27 = .ok (.aload_n 0, 1) := by decide +kernel
theorem d_Mod_lay_28 : decode prog_12_method_49_code 28 = .ok (.dup, 1) := by decide +kernel
theorem d_Mod_lay_29 : decode prog_12_method_49_code 29 = .ok (.getfield 269, 3) := by decide +kernel
theorem d_Mod_lay_32 : decode prog_12_method_49_code 32 = .ok (.iconst 1, 1) := by decide +kernel
theorem d_Mod_lay_33 : decode prog_12_method_49_code 33 = .ok (.iadd, 1) := by decide +kernel
theorem d_Mod_lay_34 : decode prog_12_method_49_code 34 = .ok (.putfield 269, 3) := by decide +kernel
theorem d_Mod_lay_37 : decode prog_12_method_49_code 37 = .ok (.iinc 4 1, 3) := by decide +kernel
theorem d_Mod_lay_40 : decode prog_12_method_49_code 40 = .ok (.goto (-37), 3) := by decide +kernel
abbrev y_Mod_lay : MethodName := ⟨"PackageBookModel", "lay", "(JI)V"⟩
abbrev i_Mod_lay : pb_I := (y_Mod_lay, prog_12_method_49_code, 5, (Option.none : Option Jvm.ClassFile.FieldType), [], { frames := 0, cells := 0, slots := 0, locals := 0 })
set_option maxRecDepth 100000 in
set_option maxHeartbeats 4000000 in
theorem c_Mod_lay {l : Launch} (hl : l.stackTraces = false) (G : pb_G) (h : Nat) (m_rels : Nat) (m_openRels : Nat) (m_closeRels : Nat) (m_openRel : Nat) (m_closeRel : Nat) (m_comment : Nat) (m_ends : Nat) (m_order : Nat) (m_tape : Nat) (m_count : Nat) (m_nameSize : Nat) (m_names : Nat) (m_size : Nat) (m_data : Nat) (m_looked : Nat) (m_file : Nat) (m_directory : Nat) (m_out : Nat) (m_row : Nat) (m_made : Nat) (m_length : Nat) (m_pressed : Nat) (m_mark : Nat) (m_idSize : Nat) (m_ids : Nat) (m_goalSize : Nat) (m_goals : Nat) (m_value : Nat) (m_faults : Nat) (m_reached : Nat) (w : Int64) (n : Int32) (s : Int32) (f : Nat → Int32) (h0 : 0 ≤ s.toInt) (h1 : 0 ≤ n.toInt) (h2 : s.toInt + n.toInt ≤ 20000) (h3 : n.toInt ≤ 100) : Cn l G i_Mod_lay [.ref h, .long w, .int n] [(h, .inr (10, [.ref m_rels, .ref m_openRels, .ref m_closeRels, .ref m_openRel, .ref m_closeRel, .ref m_comment, .ref m_ends, .ref m_order, .int 0, .int 0, .ref m_tape, .ref m_count, .ref m_nameSize, .ref m_names, .ref m_size, .ref m_data, .int 0, .ref m_looked, .int s, .ref m_file, .int 0, .ref m_directory, .int 0, .ref m_out, .int 0, .ref m_row, .int 0, .int 0, .int 0, .int 0, .ref m_made, .ref m_length, .int 0, .int 0, .int 0, .int 0, .int 0, .ref m_pressed, .int 0, .int 0, .int 0, .ref m_mark, .int 0, .ref m_idSize, .ref m_ids, .ref m_goalSize, .ref m_goals, .int 0, .ref m_value, .int 0, .ref m_faults, .ref m_reached])), (m_file, .inl (G.2.1, 20000, .inl f))] (S := Int32 × (Nat → Int32)) (fun v u => v = none ∧ (u.1.toInt = s.toInt + n.toInt)) (fun u => [(h, .inr (10, [.ref m_rels, .ref m_openRels, .ref m_closeRels, .ref m_openRel, .ref m_closeRel, .ref m_comment, .ref m_ends, .ref m_order, .int 0, .int 0, .ref m_tape, .ref m_count, .ref m_nameSize, .ref m_names, .ref m_size, .ref m_data, .int 0, .ref m_looked, .int u.1, .ref m_file, .int 0, .ref m_directory, .int 0, .ref m_out, .int 0, .ref m_row, .int 0, .int 0, .int 0, .int 0, .ref m_made, .ref m_length, .int 0, .int 0, .int 0, .int 0, .int 0, .ref m_pressed, .int 0, .int 0, .int 0, .ref m_mark, .int 0, .ref m_idSize, .ref m_ids, .ref m_goalSize, .ref m_goals, .int 0, .ref m_value, .int 0, .ref m_faults, .ref m_reached])), (m_file, .inl (G.2.1, 20000, .inl u.2))]) := by
  refine Cn.of hl (by decide +kernel) rfl (Nat.le_of_ble_eq_true rfl) (fun M hQ => ?_)
  refine pb_eq (pc' := 0) (lo' := [(0, .ref h), (1, .long w), (3, .int n)]) (rest' := []) (ws' := [(h, .inr (10, [.ref m_rels, .ref m_openRels, .ref m_closeRels, .ref m_openRel, .ref m_closeRel, .ref m_comment, .ref m_ends, .ref m_order, .int 0, .int 0, .ref m_tape, .ref m_count, .ref m_nameSize, .ref m_names, .ref m_size, .ref m_data, .int 0, .ref m_looked, .int s, .ref m_file, .int 0, .ref m_directory, .int 0, .ref m_out, .int 0, .ref m_row, .int 0, .int 0, .int 0, .int 0, .ref m_made, .ref m_length, .int 0, .int 0, .int 0, .int 0, .int 0, .ref m_pressed, .int 0, .int 0, .int 0, .ref m_mark, .int 0, .ref m_idSize, .ref m_ids, .ref m_goalSize, .ref m_goals, .int 0, .ref m_value, .int 0, .ref m_faults, .ref m_reached])), (m_file, .inl (G.2.1, 20000, .inl f))]) ?_
  have z0 : (0 : Int32).toInt = 0 := by decide
  have z1 : (1 : Int32).toInt = 1 := by decide
  have z2 : (0 : Int32).toNatClampNeg = 0 := by decide
  refine pb_iconst (pc := 0) (v := 0) d_Mod_lay_0 (by decide) ?_
  refine pb_istore (pc := 1) (lo' := [(4, .int 0), (0, .ref h), (1, .long w), (3, .int n)]) d_Mod_lay_1 (by decide) rfl ?_
  have hL3 : ∀ (N9 : Nat) (k : Int32) (t : Int32) (g : Nat → Int32), (0 ≤ k.toInt) → (k.toInt ≤ n.toInt) → (t.toInt = s.toInt + k.toInt) → ((n.toInt - k.toInt).toNat) < N9 → pb_P l G M i_Mod_lay 3 [(4, .int k), (0, .ref h), (1, .long w), (3, .int n)] [] [(h, .inr (10, [.ref m_rels, .ref m_openRels, .ref m_closeRels, .ref m_openRel, .ref m_closeRel, .ref m_comment, .ref m_ends, .ref m_order, .int 0, .int 0, .ref m_tape, .ref m_count, .ref m_nameSize, .ref m_names, .ref m_size, .ref m_data, .int 0, .ref m_looked, .int t, .ref m_file, .int 0, .ref m_directory, .int 0, .ref m_out, .int 0, .ref m_row, .int 0, .int 0, .int 0, .int 0, .ref m_made, .ref m_length, .int 0, .int 0, .int 0, .int 0, .int 0, .ref m_pressed, .int 0, .int 0, .int 0, .ref m_mark, .int 0, .ref m_idSize, .ref m_ids, .ref m_goalSize, .ref m_goals, .int 0, .ref m_value, .int 0, .ref m_faults, .ref m_reached])), (m_file, .inl (G.2.1, 20000, .inl g))] 0 0 := by
    intro N9
    induction N9 with
    | zero => intro k t g hk hk2 ht hm9; exact absurd hm9 (Nat.not_lt_zero _)
    | succ N9 ih3 =>
      intro k t g hk hk2 ht hm9
      refine pb_iload (pc := 3) d_Mod_lay_3 0 rfl ?_
      refine pb_iload_n (pc := 5) d_Mod_lay_5 3 rfl rfl ?_
      refine pb_icmp_ge (pc := 6) (tgt := 43) d_Mod_lay_6 (by decide) (fun w1 => ?_) (fun w1 => ?_)
      · have tw1 : n.toInt ≤ k.toInt := (ti_le rfl rfl).mp w1
        exact pb_vret (pc := 43) hQ d_Mod_lay_43 rfl (t, g) ⟨rfl, (by dsimp only; omega)⟩ [0, 1] (by decide) rfl rfl (by decide) (by decide)
      · have tw1 : ¬ n.toInt ≤ k.toInt := fun z9 => w1 ((ti_le rfl rfl).mpr z9)
        refine pb_aload_n (pc := 9) d_Mod_lay_9 1 rfl rfl ?_
        refine pb_get (pc := 10) d_Mod_lay_10 0 19 rfl rfl (by decide) in_Mod k_1165 rfl ?_
        refine pb_aload_n (pc := 13) d_Mod_lay_13 1 rfl rfl ?_
        refine pb_get (pc := 14) d_Mod_lay_14 0 18 rfl rfl (by decide) in_Mod k_1164 rfl ?_
        refine pb_lload_n (pc := 17) d_Mod_lay_17 2 rfl rfl ?_
        refine pb_bipush (pc := 18) (v := 8) d_Mod_lay_18 (by decide) ?_
        refine pb_iload (pc := 20) d_Mod_lay_20 0 rfl ?_
        refine pb_imul (pc := 22) d_Mod_lay_22 ?_
        refine pb_topi (fun i2 ei2 => ?_)
        have ti2 : i2.toInt = 8 * k.toInt := ti_mul ei2 (by decide) rfl (by omega) (by omega)
        refine pb_lshr (pc := 23) d_Mod_lay_23 rfl ?_
        refine pb_topl (fun j3 ej3 => ?_)
        refine pb_l2i (pc := 24) d_Mod_lay_24 rfl ?_
        refine pb_topi (fun i4 ei4 => ?_)
        refine pb_i2b (pc := 25) d_Mod_lay_25 rfl ?_
        refine pb_topi (fun i5 ei5 => ?_)
        refine pb_bast (pc := 26) (ws' := [(h, .inr (10, [.ref m_rels, .ref m_openRels, .ref m_closeRels, .ref m_openRel, .ref m_closeRel, .ref m_comment, .ref m_ends, .ref m_order, .int 0, .int 0, .ref m_tape, .ref m_count, .ref m_nameSize, .ref m_names, .ref m_size, .ref m_data, .int 0, .ref m_looked, .int t, .ref m_file, .int 0, .ref m_directory, .int 0, .ref m_out, .int 0, .ref m_row, .int 0, .int 0, .int 0, .int 0, .ref m_made, .ref m_length, .int 0, .int 0, .int 0, .int 0, .int 0, .ref m_pressed, .int 0, .int 0, .int 0, .ref m_mark, .int 0, .ref m_idSize, .ref m_ids, .ref m_goalSize, .ref m_goals, .int 0, .ref m_value, .int 0, .ref m_faults, .ref m_reached])), (m_file, .inl (G.2.1, 20000, .inl (upd g ((t : Int32).toNatClampNeg) (vp_nar .byte i5))))]) d_Mod_lay_26 1 rfl (vp_in_iff.mpr (by constructor <;> omega)) rfl ?_
        refine pb_aload_n (pc := 27) d_Mod_lay_27 1 rfl rfl ?_
        refine pb_dup (pc := 28) d_Mod_lay_28 rfl ?_
        refine pb_get (pc := 29) d_Mod_lay_29 0 18 rfl rfl (by decide) in_Mod k_1164 rfl ?_
        refine pb_iconst (pc := 32) (v := 1) d_Mod_lay_32 (by decide) ?_
        refine pb_iadd (pc := 33) d_Mod_lay_33 ?_
        refine pb_topi (fun i6 ei6 => ?_)
        have ti6 : i6.toInt = t.toInt + 1 := ti_add ei6 rfl (by decide) (by omega) (by omega)
        refine pb_put (pc := 34) (ty := .int) (ws' := [(h, .inr (10, [.ref m_rels, .ref m_openRels, .ref m_closeRels, .ref m_openRel, .ref m_closeRel, .ref m_comment, .ref m_ends, .ref m_order, .int 0, .int 0, .ref m_tape, .ref m_count, .ref m_nameSize, .ref m_names, .ref m_size, .ref m_data, .int 0, .ref m_looked, .int i6, .ref m_file, .int 0, .ref m_directory, .int 0, .ref m_out, .int 0, .ref m_row, .int 0, .int 0, .int 0, .int 0, .ref m_made, .ref m_length, .int 0, .int 0, .int 0, .int 0, .int 0, .ref m_pressed, .int 0, .int 0, .int 0, .ref m_mark, .int 0, .ref m_idSize, .ref m_ids, .ref m_goalSize, .ref m_goals, .int 0, .ref m_value, .int 0, .ref m_faults, .ref m_reached])), (m_file, .inl (G.2.1, 20000, .inl (upd g ((t : Int32).toNatClampNeg) (vp_nar .byte i5))))]) d_Mod_lay_34 0 18 t_Mod t_Mod_ok n_Mod rfl rfl (by decide) in_Mod k_1164 rfl (by decide +kernel) rfl rfl (Nat.le_of_ble_eq_true rfl) rfl ?_
        refine pb_iincN (pc := 37) (c := 1) d_Mod_lay_37 0 rfl (by decide) (by decide) (fun i7 ei7 => ?_)
        have ti7 : i7.toInt = k.toInt + 1 := ti_add ei7 rfl (by decide) (by omega) (by omega)
        refine pb_eq (pc' := 40) (lo' := [(4, .int i7), (0, .ref h), (1, .long w), (3, .int n)]) (rest' := []) (ws' := [(h, .inr (10, [.ref m_rels, .ref m_openRels, .ref m_closeRels, .ref m_openRel, .ref m_closeRel, .ref m_comment, .ref m_ends, .ref m_order, .int 0, .int 0, .ref m_tape, .ref m_count, .ref m_nameSize, .ref m_names, .ref m_size, .ref m_data, .int 0, .ref m_looked, .int i6, .ref m_file, .int 0, .ref m_directory, .int 0, .ref m_out, .int 0, .ref m_row, .int 0, .int 0, .int 0, .int 0, .ref m_made, .ref m_length, .int 0, .int 0, .int 0, .int 0, .int 0, .ref m_pressed, .int 0, .int 0, .int 0, .ref m_mark, .int 0, .ref m_idSize, .ref m_ids, .ref m_goalSize, .ref m_goals, .int 0, .ref m_value, .int 0, .ref m_faults, .ref m_reached])), (m_file, .inl (G.2.1, 20000, .inl (upd g ((t : Int32).toNatClampNeg) (vp_nar .byte i5))))]) ?_
        refine pb_goto (pc := 40) (tgt := 3) d_Mod_lay_40 (by decide) ?_
        exact ih3 i7 i6 (upd g ((t : Int32).toNatClampNeg) (vp_nar .byte i5)) (by omega) (by omega) (by omega) (by omega)
  exact hL3 _ 0 s f (by omega) (by omega) (by omega) (Nat.lt_succ_self _)

theorem d_Mod_write_0 : decode prog_12_method_52_code 0 = .ok (.aload_n 0, 1) := by decide +kernel
theorem d_Mod_write_1 : decode prog_12_method_52_code 1 = .ok (.iconst 0, 1) := by decide +kernel
theorem d_Mod_write_2 : decode prog_12_method_52_code 2 = .ok (.putfield 103, 3) := by decide +kernel
theorem d_Mod_write_5 : decode prog_12_method_52_code 5 = .ok (.aload_n 0, 1) := by decide +kernel
theorem d_Mod_write_6 : decode prog_12_method_52_code 6 = .ok (.iconst 0, 1) := by decide +kernel
theorem d_Mod_write_7 : decode prog_12_method_52_code 7 = .ok (.putfield 269, 3) := by decide +kernel
theorem d_Mod_write_10 : decode prog_12_method_52_code 10 = .ok (.aload_n 0, 1) := by decide +kernel
theorem d_Mod_write_11 : decode prog_12_method_52_code 11 = .ok (.iconst 0, 1) := by decide +kernel
theorem d_Mod_write_12 : decode prog_12_method_52_code 12 = .ok (.putfield 272, 3) := by decide +kernel
theorem k_1166 : (Jvm.Cond.fieldLink "PackageBookModel" (272 : Nat) "PackageBookModel" "directorySize" "I") ∈ uW := uW_of 1166 (by decide +kernel) (by decide +kernel)
theorem d_Mod_write_15 : decode prog_12_method_52_code 15 = .ok (.iconst 0, 1) := by decide +kernel
theorem d_Mod_write_16 : decode prog_12_method_52_code 16 = .ok (.istore_n 1, 1) := by decide +kernel
theorem d_Mod_write_17 : decode prog_12_method_52_code 17 = .ok (.iload_n 1, 1) := by decide +kernel
theorem d_Mod_write_18 : decode prog_12_method_52_code 18 = .ok (.aload_n 0, 1) := by decide +kernel
theorem d_Mod_write_19 : decode prog_12_method_52_code 19 = .ok (.getfield 37, 3) := by decide +kernel
theorem d_Mod_write_22 : decode prog_12_method_52_code 22 = .ok (.iconst 0, 1) := by decide +kernel
theorem d_Mod_write_23 : decode prog_12_method_52_code 23 = .ok (.iaload, 1) := by decide +kernel
theorem d_Mod_write_24 : decode prog_12_method_52_code 24 = .ok (.if_icmp .ge 14, 3) := by decide +kernel
theorem d_Mod_write_38 : decode prog_12_method_52_code 38 = .ok (.aload_n 0, 1) := by decide +kernel
theorem d_Mod_write_39 : decode prog_12_method_52_code 39 = .ok (.getfield 269, 3) := by decide +kernel
theorem d_Mod_write_42 : decode prog_12_method_52_code 42 = .ok (.istore_n 1, 1) := by decide +kernel
theorem d_Mod_write_43 : decode prog_12_method_52_code 43 = .ok (.iconst 0, 1) := by decide +kernel
theorem d_Mod_write_44 : decode prog_12_method_52_code 44 = .ok (.istore_n 2, 1) := by decide +kernel
theorem d_Mod_write_45 : decode prog_12_method_52_code 45 = .ok (.iload_n 2, 1) := by decide +kernel
theorem d_Mod_write_46 : decode prog_12_method_52_code 46 = .ok (.aload_n 0, 1) := by decide +kernel
theorem d_Mod_write_47 : decode prog_12_method_52_code 47 = .ok (.getfield 272, 3) := by decide +kernel
theorem d_Mod_write_50 : decode prog_12_method_52_code 50 = .ok (.if_icmp .ge 21, 3) := by decide +kernel
theorem d_Mod_write_71 : decode prog_12_method_52_code 71 = .ok (.aload_n 0, 1) := by decide +kernel
theorem d_Mod_write_72 : decode prog_12_method_52_code 72 = .ok (.ldc2_w 295, 3) := by decide +kernel
theorem k_1509 : (Jvm.Cond.constantLong "PackageBookModel" (295 : Nat) (101010256 : Int64)) ∈ uW := uW_of 1509 (by decide +kernel) (by decide +kernel)
theorem d_Mod_write_75 : decode prog_12_method_52_code 75 = .ok (.iconst 4, 1) := by decide +kernel
theorem d_Mod_write_76 : decode prog_12_method_52_code 76 = .ok (.invokevirtual 277, 3) := by decide +kernel
theorem k_1497 : (Jvm.Cond.methodLink "PackageBookModel" (277 : Nat) ({ cls := "PackageBookModel", name := "lay", desc := "(JI)V" } : Jvm.MethodName)) ∈ uW := uW_of 1497 (by decide +kernel) (by decide +kernel)
theorem k_1500 : (Jvm.Cond.code ({ cls := "PackageBookModel", name := "lay", desc := "(JI)V" } : Jvm.MethodName) prog_12_method_49_code (5 : Nat) (Option.none : Option Jvm.ClassFile.FieldType)) ∈ uW := uW_of 1500 (by decide +kernel) (by decide +kernel)
theorem k_1499 : (Jvm.Cond.instanceMethod ({ cls := "PackageBookModel", name := "lay", desc := "(JI)V" } : Jvm.MethodName)) ∈ uW := uW_of 1499 (by decide +kernel) (by decide +kernel)
theorem k_84 : Cond.selects "PackageBookModel" ⟨"PackageBookModel", "lay", "(JI)V"⟩ ⟨"PackageBookModel", "lay", "(JI)V"⟩ ∈ uW := uW_of 84 (by decide +kernel) (by decide +kernel)
theorem d_Mod_write_79 : decode prog_12_method_52_code 79 = .ok (.aload_n 0, 1) := by decide +kernel
theorem d_Mod_write_80 : decode prog_12_method_52_code 80 = .ok (.lconst 0, 1) := by decide +kernel
theorem d_Mod_write_81 : decode prog_12_method_52_code 81 = .ok (.iconst 4, 1) := by decide +kernel
theorem d_Mod_write_82 : decode prog_12_method_52_code 82 = .ok (.invokevirtual 277, 3) := by decide +kernel
theorem d_Mod_write_85 : decode prog_12_method_52_code 85 = .ok (.aload_n 0, 1) := by decide +kernel
theorem d_Mod_write_86 : decode prog_12_method_52_code 86 = .ok (.aload_n 0, 1) := by decide +kernel
theorem d_Mod_write_87 : decode prog_12_method_52_code 87 = .ok (.getfield 37, 3) := by decide +kernel
theorem d_Mod_write_90 : decode prog_12_method_52_code 90 = .ok (.iconst 0, 1) := by decide +kernel
theorem d_Mod_write_91 : decode prog_12_method_52_code 91 = .ok (.iaload, 1) := by decide +kernel
theorem d_Mod_write_92 : decode prog_12_method_52_code 92 = .ok (.i2l, 1) := by decide +kernel
theorem d_Mod_write_93 : decode prog_12_method_52_code 93 = .ok (.iconst 2, 1) := by decide +kernel
theorem d_Mod_write_94 : decode prog_12_method_52_code 94 = .ok (.invokevirtual 277, 3) := by decide +kernel
theorem d_Mod_write_97 : decode prog_12_method_52_code 97 = .ok (.aload_n 0, 1) := by decide +kernel
theorem d_Mod_write_98 : decode prog_12_method_52_code 98 = .ok (.aload_n 0, 1) := by decide +kernel
theorem d_Mod_write_99 : decode prog_12_method_52_code 99 = .ok (.getfield 37, 3) := by decide +kernel
theorem d_Mod_write_102 : decode prog_12_method_52_code 102 = .ok (.iconst 0, 1) := by decide +kernel
theorem d_Mod_write_103 : decode prog_12_method_52_code 103 = .ok (.iaload, 1) := by decide +kernel
theorem d_Mod_write_104 : decode prog_12_method_52_code 104 = .ok (.i2l, 1) := by decide +kernel
theorem d_Mod_write_105 : decode prog_12_method_52_code 105 = .ok (.iconst 2, 1) := by decide +kernel
theorem d_Mod_write_106 : decode prog_12_method_52_code 106 = .ok (.invokevirtual 277, 3) := by decide +kernel
theorem d_Mod_write_109 : decode prog_12_method_52_code 109 = .ok (.aload_n 0, 1) := by decide +kernel
theorem d_Mod_write_110 : decode prog_12_method_52_code 110 = .ok (.aload_n 0, 1) := by decide +kernel
theorem d_Mod_write_111 : decode prog_12_method_52_code 111 = .ok (.getfield 272, 3) := by decide +kernel
theorem d_Mod_write_114 : decode prog_12_method_52_code 114 = .ok (.i2l, 1) := by decide +kernel
theorem d_Mod_write_115 : decode prog_12_method_52_code 115 = .ok (.iconst 4, 1) := by decide +kernel
theorem d_Mod_write_116 : decode prog_12_method_52_code 116 = .ok (.invokevirtual 277, 3) := by decide +kernel
theorem d_Mod_write_119 : decode prog_12_method_52_code 119 = .ok (.aload_n 0, 1) := by decide +kernel
theorem d_Mod_write_120 : decode prog_12_method_52_code 120 = .ok (.iload_n 1, 1) := by decide +kernel
theorem d_Mod_write_121 : decode prog_12_method_52_code 121 = .ok (.i2l, 1) := by decide +kernel
theorem d_Mod_write_122 : decode prog_12_method_52_code 122 = .ok (.iconst 4, 1) := by decide +kernel
theorem d_Mod_write_123 : decode prog_12_method_52_code 123 = .ok (.invokevirtual 277, 3) := by decide +kernel
theorem d_Mod_write_126 : decode prog_12_method_52_code 126 = .ok (.aload_n 0, 1) := by decide +kernel
theorem d_Mod_write_127 : decode prog_12_method_52_code 127 = .ok (.lconst 0, 1) := by decide +kernel
theorem d_Mod_write_128 : decode prog_12_method_52_code 128 = .ok (.iconst 2, 1) := by decide +kernel
theorem d_Mod_write_129 : decode prog_12_method_52_code 129 = .ok (.invokevirtual 277, 3) := by decide +kernel
theorem d_Mod_write_132 : decode prog_12_method_52_code 132 = .ok (.aload_n 0, 1) := by decide +kernel
theorem d_Mod_write_133 : decode prog_12_method_52_code 133 = .ok (.getfield 269, 3) := by decide +kernel
theorem d_Mod_write_136 : decode prog_12_method_52_code 136 = .ok (.ireturn, 1) := by decide +kernel
abbrev y_Mod_write : MethodName := ⟨"PackageBookModel", "write", "()I"⟩
abbrev i_Mod_write : pb_I := (y_Mod_write, prog_12_method_52_code, 3, (some Jvm.ClassFile.FieldType.int), [], { frames := 1, cells := 0, slots := 0, locals := 24 })
set_option maxRecDepth 100000 in
set_option maxHeartbeats 4000000 in
theorem c_Mod_write {l : Launch} (hl : l.stackTraces = false) (G : pb_G) (h : Nat) (m_rels : Nat) (m_openRels : Nat) (m_closeRels : Nat) (m_openRel : Nat) (m_closeRel : Nat) (m_comment : Nat) (m_ends : Nat) (m_order : Nat) (m_tape : Nat) (m_count : Nat) (m_nameSize : Nat) (m_names : Nat) (m_size : Nat) (m_data : Nat) (m_looked : Nat) (m_file : Nat) (m_directory : Nat) (m_out : Nat) (m_row : Nat) (m_made : Nat) (m_length : Nat) (m_pressed : Nat) (m_mark : Nat) (m_idSize : Nat) (m_ids : Nat) (m_goalSize : Nat) (m_goals : Nat) (m_value : Nat) (m_faults : Nat) (m_reached : Nat) (f : Nat → Int32) : Cn l G i_Mod_write [.ref h] [(h, .inr (10, [.ref m_rels, .ref m_openRels, .ref m_closeRels, .ref m_openRel, .ref m_closeRel, .ref m_comment, .ref m_ends, .ref m_order, .int 0, .int 0, .ref m_tape, .ref m_count, .ref m_nameSize, .ref m_names, .ref m_size, .ref m_data, .int 0, .ref m_looked, .int 0, .ref m_file, .int 0, .ref m_directory, .int 0, .ref m_out, .int 0, .ref m_row, .int 0, .int 0, .int 0, .int 0, .ref m_made, .ref m_length, .int 0, .int 0, .int 0, .int 0, .int 0, .ref m_pressed, .int 0, .int 0, .int 0, .ref m_mark, .int 0, .ref m_idSize, .ref m_ids, .ref m_goalSize, .ref m_goals, .int 0, .ref m_value, .int 0, .ref m_faults, .ref m_reached])), (m_count, .inl (G.2.2.1, 2, .inl (fun _ => 0))), (m_file, .inl (G.2.1, 20000, .inl f))] (S := Int32) (fun v u => v = some (.int u) ∧ (u.toInt = 22)) (fun u => []) := by
  refine Cn.of hl (by decide +kernel) rfl (Nat.le_of_ble_eq_true rfl) (fun M hQ => ?_)
  refine pb_eq (pc' := 0) (lo' := [(0, .ref h)]) (rest' := []) (ws' := [(h, .inr (10, [.ref m_rels, .ref m_openRels, .ref m_closeRels, .ref m_openRel, .ref m_closeRel, .ref m_comment, .ref m_ends, .ref m_order, .int 0, .int 0, .ref m_tape, .ref m_count, .ref m_nameSize, .ref m_names, .ref m_size, .ref m_data, .int 0, .ref m_looked, .int 0, .ref m_file, .int 0, .ref m_directory, .int 0, .ref m_out, .int 0, .ref m_row, .int 0, .int 0, .int 0, .int 0, .ref m_made, .ref m_length, .int 0, .int 0, .int 0, .int 0, .int 0, .ref m_pressed, .int 0, .int 0, .int 0, .ref m_mark, .int 0, .ref m_idSize, .ref m_ids, .ref m_goalSize, .ref m_goals, .int 0, .ref m_value, .int 0, .ref m_faults, .ref m_reached])), (m_count, .inl (G.2.2.1, 2, .inl (fun _ => 0))), (m_file, .inl (G.2.1, 20000, .inl f))]) ?_
  have z0 : (0 : Int32).toInt = 0 := by decide
  have z1 : (1 : Int32).toInt = 1 := by decide
  have z2 : (0 : Int32).toNatClampNeg = 0 := by decide
  have z4 : (4 : Int32).toInt = 4 := by decide
  have z5 : (2 : Int32).toInt = 2 := by decide
  refine pb_aload_n (pc := 0) d_Mod_write_0 0 rfl rfl ?_
  refine pb_iconst (pc := 1) (v := 0) d_Mod_write_1 (by decide) ?_
  refine pb_put (pc := 2) (ty := .int) (ws' := [(h, .inr (10, [.ref m_rels, .ref m_openRels, .ref m_closeRels, .ref m_openRel, .ref m_closeRel, .ref m_comment, .ref m_ends, .ref m_order, .int 0, .int 0, .ref m_tape, .ref m_count, .ref m_nameSize, .ref m_names, .ref m_size, .ref m_data, .int 0, .ref m_looked, .int 0, .ref m_file, .int 0, .ref m_directory, .int 0, .ref m_out, .int 0, .ref m_row, .int 0, .int 0, .int 0, .int 0, .ref m_made, .ref m_length, .int 0, .int 0, .int 0, .int 0, .int 0, .ref m_pressed, .int 0, .int 0, .int 0, .ref m_mark, .int 0, .ref m_idSize, .ref m_ids, .ref m_goalSize, .ref m_goals, .int 0, .ref m_value, .int 0, .ref m_faults, .ref m_reached])), (m_count, .inl (G.2.2.1, 2, .inl (fun _ => 0))), (m_file, .inl (G.2.1, 20000, .inl f))]) d_Mod_write_2 0 8 t_Mod t_Mod_ok n_Mod rfl rfl (by decide) in_Mod k_1154 rfl (by decide +kernel) rfl rfl (Nat.le_of_ble_eq_true rfl) rfl ?_
  refine pb_aload_n (pc := 5) d_Mod_write_5 0 rfl rfl ?_
  refine pb_iconst (pc := 6) (v := 0) d_Mod_write_6 (by decide) ?_
  refine pb_put (pc := 7) (ty := .int) (ws' := [(h, .inr (10, [.ref m_rels, .ref m_openRels, .ref m_closeRels, .ref m_openRel, .ref m_closeRel, .ref m_comment, .ref m_ends, .ref m_order, .int 0, .int 0, .ref m_tape, .ref m_count, .ref m_nameSize, .ref m_names, .ref m_size, .ref m_data, .int 0, .ref m_looked, .int 0, .ref m_file, .int 0, .ref m_directory, .int 0, .ref m_out, .int 0, .ref m_row, .int 0, .int 0, .int 0, .int 0, .ref m_made, .ref m_length, .int 0, .int 0, .int 0, .int 0, .int 0, .ref m_pressed, .int 0, .int 0, .int 0, .ref m_mark, .int 0, .ref m_idSize, .ref m_ids, .ref m_goalSize, .ref m_goals, .int 0, .ref m_value, .int 0, .ref m_faults, .ref m_reached])), (m_count, .inl (G.2.2.1, 2, .inl (fun _ => 0))), (m_file, .inl (G.2.1, 20000, .inl f))]) d_Mod_write_7 0 18 t_Mod t_Mod_ok n_Mod rfl rfl (by decide) in_Mod k_1164 rfl (by decide +kernel) rfl rfl (Nat.le_of_ble_eq_true rfl) rfl ?_
  refine pb_aload_n (pc := 10) d_Mod_write_10 0 rfl rfl ?_
  refine pb_iconst (pc := 11) (v := 0) d_Mod_write_11 (by decide) ?_
  refine pb_put (pc := 12) (ty := .int) (ws' := [(h, .inr (10, [.ref m_rels, .ref m_openRels, .ref m_closeRels, .ref m_openRel, .ref m_closeRel, .ref m_comment, .ref m_ends, .ref m_order, .int 0, .int 0, .ref m_tape, .ref m_count, .ref m_nameSize, .ref m_names, .ref m_size, .ref m_data, .int 0, .ref m_looked, .int 0, .ref m_file, .int 0, .ref m_directory, .int 0, .ref m_out, .int 0, .ref m_row, .int 0, .int 0, .int 0, .int 0, .ref m_made, .ref m_length, .int 0, .int 0, .int 0, .int 0, .int 0, .ref m_pressed, .int 0, .int 0, .int 0, .ref m_mark, .int 0, .ref m_idSize, .ref m_ids, .ref m_goalSize, .ref m_goals, .int 0, .ref m_value, .int 0, .ref m_faults, .ref m_reached])), (m_count, .inl (G.2.2.1, 2, .inl (fun _ => 0))), (m_file, .inl (G.2.1, 20000, .inl f))]) d_Mod_write_12 0 20 t_Mod t_Mod_ok n_Mod rfl rfl (by decide) in_Mod k_1166 rfl (by decide +kernel) rfl rfl (Nat.le_of_ble_eq_true rfl) rfl ?_
  refine pb_iconst (pc := 15) (v := 0) d_Mod_write_15 (by decide) ?_
  refine pb_istore_n (pc := 16) (lo' := [(1, .int 0), (0, .ref h)]) d_Mod_write_16 rfl (by decide) rfl ?_
  refine pb_iload_n (pc := 17) d_Mod_write_17 0 rfl rfl ?_
  refine pb_aload_n (pc := 18) d_Mod_write_18 1 rfl rfl ?_
  refine pb_get (pc := 19) d_Mod_write_19 0 11 rfl rfl (by decide) in_Mod k_1157 rfl ?_
  refine pb_iconst (pc := 22) (v := 0) d_Mod_write_22 (by decide) ?_
  refine pb_iald (pc := 23) d_Mod_write_23 1 rfl (by unfold vp_in; decide) ?_
  refine pb_asi (y := 0) rfl ?_
  refine pb_icmp_ge (pc := 24) (tgt := 38) d_Mod_write_24 (by decide) (fun _ => ?_) (fun h9 => absurd h9 (by decide))
  refine pb_aload_n (pc := 38) d_Mod_write_38 1 rfl rfl ?_
  refine pb_get (pc := 39) d_Mod_write_39 0 18 rfl rfl (by decide) in_Mod k_1164 rfl ?_
  refine pb_istore_n (pc := 42) (lo' := [(1, .int 0), (0, .ref h)]) d_Mod_write_42 rfl (by decide) rfl ?_
  refine pb_iconst (pc := 43) (v := 0) d_Mod_write_43 (by decide) ?_
  refine pb_istore_n (pc := 44) (lo' := [(2, .int 0), (1, .int 0), (0, .ref h)]) d_Mod_write_44 rfl (by decide) rfl ?_
  refine pb_iload_n (pc := 45) d_Mod_write_45 0 rfl rfl ?_
  refine pb_aload_n (pc := 46) d_Mod_write_46 2 rfl rfl ?_
  refine pb_get (pc := 47) d_Mod_write_47 0 20 rfl rfl (by decide) in_Mod k_1166 rfl ?_
  refine pb_icmp_ge (pc := 50) (tgt := 71) d_Mod_write_50 (by decide) (fun _ => ?_) (fun h9 => absurd h9 (by decide))
  refine pb_aload_n (pc := 71) d_Mod_write_71 2 rfl rfl ?_
  refine pb_ldc2 (pc := 72) (v := 101010256) d_Mod_write_72 k_1509 ?_
  refine pb_iconst (pc := 75) (v := 4) d_Mod_write_75 (by decide) ?_
  refine pb_callV (pc := 76) (qb := 0) (ci := 10) (nA := 2) (rest := []) (wr := [(m_count, .inl (G.2.2.1, 2, .inl (fun _ => 0)))]) d_Mod_write_76 (c_Mod_lay hl G h m_rels m_openRels m_closeRels m_openRel m_closeRel m_comment m_ends m_order m_tape m_count m_nameSize m_names m_size m_data m_looked m_file m_directory m_out m_row m_made m_length m_pressed m_mark m_idSize m_ids m_goalSize m_goals m_value m_faults m_reached 101010256 4 0 f (by omega) (by omega) (by omega) (by omega)) rfl rfl [0, 2] [1] (by decide) rfl rfl rfl (by decide) (by decide) k_1500 rfl k_128 k_1497 k_1499 k_84 (by decide +kernel) (by decide) rfl rfl (Nat.le_of_ble_eq_true rfl) (by decide) (fun v9 u4 h3 => ?_)
  obtain ⟨s_5, f_6⟩ := u4
  obtain ⟨eh3, h3⟩ := h3
  have eh3 : v9 = none := eh3
  subst eh3
  have h7 : s_5.toInt = (0 : Int32).toInt + (4 : Int32).toInt := h3
  refine pb_eq (pc' := 79) (lo' := [(2, .int 0), (1, .int 0), (0, .ref h)]) (rest' := []) (ws' := [(m_count, .inl (G.2.2.1, 2, .inl (fun _ => 0))), (h, .inr (10, [.ref m_rels, .ref m_openRels, .ref m_closeRels, .ref m_openRel, .ref m_closeRel, .ref m_comment, .ref m_ends, .ref m_order, .int 0, .int 0, .ref m_tape, .ref m_count, .ref m_nameSize, .ref m_names, .ref m_size, .ref m_data, .int 0, .ref m_looked, .int s_5, .ref m_file, .int 0, .ref m_directory, .int 0, .ref m_out, .int 0, .ref m_row, .int 0, .int 0, .int 0, .int 0, .ref m_made, .ref m_length, .int 0, .int 0, .int 0, .int 0, .int 0, .ref m_pressed, .int 0, .int 0, .int 0, .ref m_mark, .int 0, .ref m_idSize, .ref m_ids, .ref m_goalSize, .ref m_goals, .int 0, .ref m_value, .int 0, .ref m_faults, .ref m_reached])), (m_file, .inl (G.2.1, 20000, .inl f_6))]) ?_
  refine pb_aload_n (pc := 79) d_Mod_write_79 2 rfl rfl ?_
  refine pb_lconst (pc := 80) (v := 0) d_Mod_write_80 (by decide) ?_
  refine pb_iconst (pc := 81) (v := 4) d_Mod_write_81 (by decide) ?_
  refine pb_callV (pc := 82) (qb := 1) (ci := 10) (nA := 2) (rest := []) (wr := [(m_count, .inl (G.2.2.1, 2, .inl (fun _ => 0)))]) d_Mod_write_82 (c_Mod_lay hl G h m_rels m_openRels m_closeRels m_openRel m_closeRel m_comment m_ends m_order m_tape m_count m_nameSize m_names m_size m_data m_looked m_file m_directory m_out m_row m_made m_length m_pressed m_mark m_idSize m_ids m_goalSize m_goals m_value m_faults m_reached 0 4 s_5 f_6 (by omega) (by omega) (by omega) (by omega)) rfl rfl [1, 2] [0] (by decide) rfl rfl rfl (by decide) (by decide) k_1500 rfl k_128 k_1497 k_1499 k_84 (by decide +kernel) (by decide) rfl rfl (Nat.le_of_ble_eq_true rfl) (by decide) (fun v9 u9 h8 => ?_)
  obtain ⟨s_10, f_11⟩ := u9
  obtain ⟨eh8, h8⟩ := h8
  have eh8 : v9 = none := eh8
  subst eh8
  have h12 : s_10.toInt = s_5.toInt + (4 : Int32).toInt := h8
  refine pb_eq (pc' := 85) (lo' := [(2, .int 0), (1, .int 0), (0, .ref h)]) (rest' := []) (ws' := [(m_count, .inl (G.2.2.1, 2, .inl (fun _ => 0))), (h, .inr (10, [.ref m_rels, .ref m_openRels, .ref m_closeRels, .ref m_openRel, .ref m_closeRel, .ref m_comment, .ref m_ends, .ref m_order, .int 0, .int 0, .ref m_tape, .ref m_count, .ref m_nameSize, .ref m_names, .ref m_size, .ref m_data, .int 0, .ref m_looked, .int s_10, .ref m_file, .int 0, .ref m_directory, .int 0, .ref m_out, .int 0, .ref m_row, .int 0, .int 0, .int 0, .int 0, .ref m_made, .ref m_length, .int 0, .int 0, .int 0, .int 0, .int 0, .ref m_pressed, .int 0, .int 0, .int 0, .ref m_mark, .int 0, .ref m_idSize, .ref m_ids, .ref m_goalSize, .ref m_goals, .int 0, .ref m_value, .int 0, .ref m_faults, .ref m_reached])), (m_file, .inl (G.2.1, 20000, .inl f_11))]) ?_
  refine pb_aload_n (pc := 85) d_Mod_write_85 2 rfl rfl ?_
  refine pb_aload_n (pc := 86) d_Mod_write_86 2 rfl rfl ?_
  refine pb_get (pc := 87) d_Mod_write_87 1 11 rfl rfl (by decide) in_Mod k_1157 rfl ?_
  refine pb_iconst (pc := 90) (v := 0) d_Mod_write_90 (by decide) ?_
  refine pb_iald (pc := 91) d_Mod_write_91 0 rfl (by unfold vp_in; decide) ?_
  refine pb_asi (y := 0) rfl ?_
  refine pb_i2l (pc := 92) (v := 0) d_Mod_write_92 (by decide) ?_
  refine pb_iconst (pc := 93) (v := 2) d_Mod_write_93 (by decide) ?_
  refine pb_callV (pc := 94) (qb := 1) (ci := 10) (nA := 2) (rest := []) (wr := [(m_count, .inl (G.2.2.1, 2, .inl (fun _ => 0)))]) d_Mod_write_94 (c_Mod_lay hl G h m_rels m_openRels m_closeRels m_openRel m_closeRel m_comment m_ends m_order m_tape m_count m_nameSize m_names m_size m_data m_looked m_file m_directory m_out m_row m_made m_length m_pressed m_mark m_idSize m_ids m_goalSize m_goals m_value m_faults m_reached 0 2 s_10 f_11 (by omega) (by omega) (by omega) (by omega)) rfl rfl [1, 2] [0] (by decide) rfl rfl rfl (by decide) (by decide) k_1500 rfl k_128 k_1497 k_1499 k_84 (by decide +kernel) (by decide) rfl rfl (Nat.le_of_ble_eq_true rfl) (by decide) (fun v9 u14 h13 => ?_)
  obtain ⟨s_15, f_16⟩ := u14
  obtain ⟨eh13, h13⟩ := h13
  have eh13 : v9 = none := eh13
  subst eh13
  have h17 : s_15.toInt = s_10.toInt + (2 : Int32).toInt := h13
  refine pb_eq (pc' := 97) (lo' := [(2, .int 0), (1, .int 0), (0, .ref h)]) (rest' := []) (ws' := [(m_count, .inl (G.2.2.1, 2, .inl (fun _ => 0))), (h, .inr (10, [.ref m_rels, .ref m_openRels, .ref m_closeRels, .ref m_openRel, .ref m_closeRel, .ref m_comment, .ref m_ends, .ref m_order, .int 0, .int 0, .ref m_tape, .ref m_count, .ref m_nameSize, .ref m_names, .ref m_size, .ref m_data, .int 0, .ref m_looked, .int s_15, .ref m_file, .int 0, .ref m_directory, .int 0, .ref m_out, .int 0, .ref m_row, .int 0, .int 0, .int 0, .int 0, .ref m_made, .ref m_length, .int 0, .int 0, .int 0, .int 0, .int 0, .ref m_pressed, .int 0, .int 0, .int 0, .ref m_mark, .int 0, .ref m_idSize, .ref m_ids, .ref m_goalSize, .ref m_goals, .int 0, .ref m_value, .int 0, .ref m_faults, .ref m_reached])), (m_file, .inl (G.2.1, 20000, .inl f_16))]) ?_
  refine pb_aload_n (pc := 97) d_Mod_write_97 2 rfl rfl ?_
  refine pb_aload_n (pc := 98) d_Mod_write_98 2 rfl rfl ?_
  refine pb_get (pc := 99) d_Mod_write_99 1 11 rfl rfl (by decide) in_Mod k_1157 rfl ?_
  refine pb_iconst (pc := 102) (v := 0) d_Mod_write_102 (by decide) ?_
  refine pb_iald (pc := 103) d_Mod_write_103 0 rfl (by unfold vp_in; decide) ?_
  refine pb_asi (y := 0) rfl ?_
  refine pb_i2l (pc := 104) (v := 0) d_Mod_write_104 (by decide) ?_
  refine pb_iconst (pc := 105) (v := 2) d_Mod_write_105 (by decide) ?_
  refine pb_callV (pc := 106) (qb := 1) (ci := 10) (nA := 2) (rest := []) (wr := [(m_count, .inl (G.2.2.1, 2, .inl (fun _ => 0)))]) d_Mod_write_106 (c_Mod_lay hl G h m_rels m_openRels m_closeRels m_openRel m_closeRel m_comment m_ends m_order m_tape m_count m_nameSize m_names m_size m_data m_looked m_file m_directory m_out m_row m_made m_length m_pressed m_mark m_idSize m_ids m_goalSize m_goals m_value m_faults m_reached 0 2 s_15 f_16 (by omega) (by omega) (by omega) (by omega)) rfl rfl [1, 2] [0] (by decide) rfl rfl rfl (by decide) (by decide) k_1500 rfl k_128 k_1497 k_1499 k_84 (by decide +kernel) (by decide) rfl rfl (Nat.le_of_ble_eq_true rfl) (by decide) (fun v9 u19 h18 => ?_)
  obtain ⟨s_20, f_21⟩ := u19
  obtain ⟨eh18, h18⟩ := h18
  have eh18 : v9 = none := eh18
  subst eh18
  have h22 : s_20.toInt = s_15.toInt + (2 : Int32).toInt := h18
  refine pb_eq (pc' := 109) (lo' := [(2, .int 0), (1, .int 0), (0, .ref h)]) (rest' := []) (ws' := [(m_count, .inl (G.2.2.1, 2, .inl (fun _ => 0))), (h, .inr (10, [.ref m_rels, .ref m_openRels, .ref m_closeRels, .ref m_openRel, .ref m_closeRel, .ref m_comment, .ref m_ends, .ref m_order, .int 0, .int 0, .ref m_tape, .ref m_count, .ref m_nameSize, .ref m_names, .ref m_size, .ref m_data, .int 0, .ref m_looked, .int s_20, .ref m_file, .int 0, .ref m_directory, .int 0, .ref m_out, .int 0, .ref m_row, .int 0, .int 0, .int 0, .int 0, .ref m_made, .ref m_length, .int 0, .int 0, .int 0, .int 0, .int 0, .ref m_pressed, .int 0, .int 0, .int 0, .ref m_mark, .int 0, .ref m_idSize, .ref m_ids, .ref m_goalSize, .ref m_goals, .int 0, .ref m_value, .int 0, .ref m_faults, .ref m_reached])), (m_file, .inl (G.2.1, 20000, .inl f_21))]) ?_
  refine pb_aload_n (pc := 109) d_Mod_write_109 2 rfl rfl ?_
  refine pb_aload_n (pc := 110) d_Mod_write_110 2 rfl rfl ?_
  refine pb_get (pc := 111) d_Mod_write_111 1 20 rfl rfl (by decide) in_Mod k_1166 rfl ?_
  refine pb_i2l (pc := 114) (v := 0) d_Mod_write_114 (by decide) ?_
  refine pb_iconst (pc := 115) (v := 4) d_Mod_write_115 (by decide) ?_
  refine pb_callV (pc := 116) (qb := 1) (ci := 10) (nA := 2) (rest := []) (wr := [(m_count, .inl (G.2.2.1, 2, .inl (fun _ => 0)))]) d_Mod_write_116 (c_Mod_lay hl G h m_rels m_openRels m_closeRels m_openRel m_closeRel m_comment m_ends m_order m_tape m_count m_nameSize m_names m_size m_data m_looked m_file m_directory m_out m_row m_made m_length m_pressed m_mark m_idSize m_ids m_goalSize m_goals m_value m_faults m_reached 0 4 s_20 f_21 (by omega) (by omega) (by omega) (by omega)) rfl rfl [1, 2] [0] (by decide) rfl rfl rfl (by decide) (by decide) k_1500 rfl k_128 k_1497 k_1499 k_84 (by decide +kernel) (by decide) rfl rfl (Nat.le_of_ble_eq_true rfl) (by decide) (fun v9 u24 h23 => ?_)
  obtain ⟨s_25, f_26⟩ := u24
  obtain ⟨eh23, h23⟩ := h23
  have eh23 : v9 = none := eh23
  subst eh23
  have h27 : s_25.toInt = s_20.toInt + (4 : Int32).toInt := h23
  refine pb_eq (pc' := 119) (lo' := [(2, .int 0), (1, .int 0), (0, .ref h)]) (rest' := []) (ws' := [(m_count, .inl (G.2.2.1, 2, .inl (fun _ => 0))), (h, .inr (10, [.ref m_rels, .ref m_openRels, .ref m_closeRels, .ref m_openRel, .ref m_closeRel, .ref m_comment, .ref m_ends, .ref m_order, .int 0, .int 0, .ref m_tape, .ref m_count, .ref m_nameSize, .ref m_names, .ref m_size, .ref m_data, .int 0, .ref m_looked, .int s_25, .ref m_file, .int 0, .ref m_directory, .int 0, .ref m_out, .int 0, .ref m_row, .int 0, .int 0, .int 0, .int 0, .ref m_made, .ref m_length, .int 0, .int 0, .int 0, .int 0, .int 0, .ref m_pressed, .int 0, .int 0, .int 0, .ref m_mark, .int 0, .ref m_idSize, .ref m_ids, .ref m_goalSize, .ref m_goals, .int 0, .ref m_value, .int 0, .ref m_faults, .ref m_reached])), (m_file, .inl (G.2.1, 20000, .inl f_26))]) ?_
  refine pb_aload_n (pc := 119) d_Mod_write_119 2 rfl rfl ?_
  refine pb_iload_n (pc := 120) d_Mod_write_120 1 rfl rfl ?_
  refine pb_i2l (pc := 121) (v := 0) d_Mod_write_121 (by decide) ?_
  refine pb_iconst (pc := 122) (v := 4) d_Mod_write_122 (by decide) ?_
  refine pb_callV (pc := 123) (qb := 1) (ci := 10) (nA := 2) (rest := []) (wr := [(m_count, .inl (G.2.2.1, 2, .inl (fun _ => 0)))]) d_Mod_write_123 (c_Mod_lay hl G h m_rels m_openRels m_closeRels m_openRel m_closeRel m_comment m_ends m_order m_tape m_count m_nameSize m_names m_size m_data m_looked m_file m_directory m_out m_row m_made m_length m_pressed m_mark m_idSize m_ids m_goalSize m_goals m_value m_faults m_reached 0 4 s_25 f_26 (by omega) (by omega) (by omega) (by omega)) rfl rfl [1, 2] [0] (by decide) rfl rfl rfl (by decide) (by decide) k_1500 rfl k_128 k_1497 k_1499 k_84 (by decide +kernel) (by decide) rfl rfl (Nat.le_of_ble_eq_true rfl) (by decide) (fun v9 u29 h28 => ?_)
  obtain ⟨s_30, f_31⟩ := u29
  obtain ⟨eh28, h28⟩ := h28
  have eh28 : v9 = none := eh28
  subst eh28
  have h32 : s_30.toInt = s_25.toInt + (4 : Int32).toInt := h28
  refine pb_eq (pc' := 126) (lo' := [(2, .int 0), (1, .int 0), (0, .ref h)]) (rest' := []) (ws' := [(m_count, .inl (G.2.2.1, 2, .inl (fun _ => 0))), (h, .inr (10, [.ref m_rels, .ref m_openRels, .ref m_closeRels, .ref m_openRel, .ref m_closeRel, .ref m_comment, .ref m_ends, .ref m_order, .int 0, .int 0, .ref m_tape, .ref m_count, .ref m_nameSize, .ref m_names, .ref m_size, .ref m_data, .int 0, .ref m_looked, .int s_30, .ref m_file, .int 0, .ref m_directory, .int 0, .ref m_out, .int 0, .ref m_row, .int 0, .int 0, .int 0, .int 0, .ref m_made, .ref m_length, .int 0, .int 0, .int 0, .int 0, .int 0, .ref m_pressed, .int 0, .int 0, .int 0, .ref m_mark, .int 0, .ref m_idSize, .ref m_ids, .ref m_goalSize, .ref m_goals, .int 0, .ref m_value, .int 0, .ref m_faults, .ref m_reached])), (m_file, .inl (G.2.1, 20000, .inl f_31))]) ?_
  refine pb_aload_n (pc := 126) d_Mod_write_126 2 rfl rfl ?_
  refine pb_lconst (pc := 127) (v := 0) d_Mod_write_127 (by decide) ?_
  refine pb_iconst (pc := 128) (v := 2) d_Mod_write_128 (by decide) ?_
  refine pb_callV (pc := 129) (qb := 1) (ci := 10) (nA := 2) (rest := []) (wr := [(m_count, .inl (G.2.2.1, 2, .inl (fun _ => 0)))]) d_Mod_write_129 (c_Mod_lay hl G h m_rels m_openRels m_closeRels m_openRel m_closeRel m_comment m_ends m_order m_tape m_count m_nameSize m_names m_size m_data m_looked m_file m_directory m_out m_row m_made m_length m_pressed m_mark m_idSize m_ids m_goalSize m_goals m_value m_faults m_reached 0 2 s_30 f_31 (by omega) (by omega) (by omega) (by omega)) rfl rfl [1, 2] [0] (by decide) rfl rfl rfl (by decide) (by decide) k_1500 rfl k_128 k_1497 k_1499 k_84 (by decide +kernel) (by decide) rfl rfl (Nat.le_of_ble_eq_true rfl) (by decide) (fun v9 u34 h33 => ?_)
  obtain ⟨s_35, f_36⟩ := u34
  obtain ⟨eh33, h33⟩ := h33
  have eh33 : v9 = none := eh33
  subst eh33
  have h37 : s_35.toInt = s_30.toInt + (2 : Int32).toInt := h33
  refine pb_eq (pc' := 132) (lo' := [(2, .int 0), (1, .int 0), (0, .ref h)]) (rest' := []) (ws' := [(m_count, .inl (G.2.2.1, 2, .inl (fun _ => 0))), (h, .inr (10, [.ref m_rels, .ref m_openRels, .ref m_closeRels, .ref m_openRel, .ref m_closeRel, .ref m_comment, .ref m_ends, .ref m_order, .int 0, .int 0, .ref m_tape, .ref m_count, .ref m_nameSize, .ref m_names, .ref m_size, .ref m_data, .int 0, .ref m_looked, .int s_35, .ref m_file, .int 0, .ref m_directory, .int 0, .ref m_out, .int 0, .ref m_row, .int 0, .int 0, .int 0, .int 0, .ref m_made, .ref m_length, .int 0, .int 0, .int 0, .int 0, .int 0, .ref m_pressed, .int 0, .int 0, .int 0, .ref m_mark, .int 0, .ref m_idSize, .ref m_ids, .ref m_goalSize, .ref m_goals, .int 0, .ref m_value, .int 0, .ref m_faults, .ref m_reached])), (m_file, .inl (G.2.1, 20000, .inl f_36))]) ?_
  refine pb_aload_n (pc := 132) d_Mod_write_132 2 rfl rfl ?_
  refine pb_get (pc := 133) d_Mod_write_133 1 18 rfl rfl (by decide) in_Mod k_1164 rfl ?_
  exact pb_iret (pc := 136) hQ d_Mod_write_136 rfl rfl (s_35) ⟨rfl, (by omega)⟩ [] (by decide) rfl rfl (by decide) (by decide)

theorem d_Mod_takeRow_0 : decode prog_12_method_46_code 0 = .ok (.aload_n 0, 1) := by decide +kernel
theorem d_Mod_takeRow_1 : decode prog_12_method_46_code 1 = .ok (.aload_n 0, 1) := by decide +kernel
theorem d_Mod_takeRow_2 : decode prog_12_method_46_code 2 = .ok (.getfield 107, 3) := by decide +kernel
theorem d_Mod_takeRow_5 : decode prog_12_method_46_code 5 = .ok (.putfield 260, 3) := by decide +kernel
theorem k_1170 : (Jvm.Cond.fieldLink "PackageBookModel" (260 : Nat) "PackageBookModel" "rowSize" "I") ∈ uW := uW_of 1170 (by decide +kernel) (by decide +kernel)
theorem d_Mod_takeRow_8 : decode prog_12_method_46_code 8 = .ok (.iconst 0, 1) := by decide +kernel
theorem d_Mod_takeRow_9 : decode prog_12_method_46_code 9 = .ok (.istore_n 1, 1) := by decide +kernel
theorem d_Mod_takeRow_10 : decode prog_12_method_46_code 10 = .ok (.iload_n 1, 1) := by decide +kernel
theorem d_Mod_takeRow_11 : decode prog_12_method_46_code 11 = .ok (.aload_n 0, 1) := by decide +kernel
theorem d_Mod_takeRow_12 : decode prog_12_method_46_code 12 = .ok (.getfield 107, 3) := by decide +kernel
theorem d_Mod_takeRow_15 : decode prog_12_method_46_code 15 = .ok (.if_icmp .ge 21, 3) := by decide +kernel
theorem d_Mod_takeRow_36 : decode prog_12_method_46_code 36 = .ok (.aload_n 0, 1) := by decide +kernel
theorem d_Mod_takeRow_37 : decode prog_12_method_46_code 37 = .ok (.iconst 0, 1) := by decide +kernel
theorem d_Mod_takeRow_38 : decode prog_12_method_46_code 38 = .ok (.putfield 107, 3) := by decide +kernel
theorem d_Mod_takeRow_41 : decode prog_12_method_46_code 41 = .ok (.return_, 1) := by decide +kernel
abbrev y_Mod_takeRow : MethodName := ⟨"PackageBookModel", "takeRow", "()V"⟩
abbrev i_Mod_takeRow : pb_I := (y_Mod_takeRow, prog_12_method_46_code, 2, (Option.none : Option Jvm.ClassFile.FieldType), [], { frames := 0, cells := 0, slots := 0, locals := 0 })
set_option maxRecDepth 100000 in
set_option maxHeartbeats 4000000 in
theorem c_Mod_takeRow0 {l : Launch} (hl : l.stackTraces = false) (G : pb_G) (h : Nat) (m_rels : Nat) (m_openRels : Nat) (m_closeRels : Nat) (m_openRel : Nat) (m_closeRel : Nat) (m_comment : Nat) (m_ends : Nat) (m_order : Nat) (m_tape : Nat) (m_count : Nat) (m_nameSize : Nat) (m_names : Nat) (m_size : Nat) (m_data : Nat) (m_looked : Nat) (m_file : Nat) (m_directory : Nat) (m_out : Nat) (m_row : Nat) (m_made : Nat) (m_length : Nat) (m_pressed : Nat) (m_mark : Nat) (m_idSize : Nat) (m_ids : Nat) (m_goalSize : Nat) (m_goals : Nat) (m_value : Nat) (m_faults : Nat) (m_reached : Nat) : Cn l G i_Mod_takeRow [.ref h] [(h, .inr (10, [.ref m_rels, .ref m_openRels, .ref m_closeRels, .ref m_openRel, .ref m_closeRel, .ref m_comment, .ref m_ends, .ref m_order, .int 0, .int 0, .ref m_tape, .ref m_count, .ref m_nameSize, .ref m_names, .ref m_size, .ref m_data, .int 0, .ref m_looked, .int 0, .ref m_file, .int 0, .ref m_directory, .int 0, .ref m_out, .int 0, .ref m_row, .int 0, .int 0, .int 0, .int 0, .ref m_made, .ref m_length, .int 0, .int 0, .int 0, .int 0, .int 0, .ref m_pressed, .int 0, .int 0, .int 0, .ref m_mark, .int 0, .ref m_idSize, .ref m_ids, .ref m_goalSize, .ref m_goals, .int 0, .ref m_value, .int 0, .ref m_faults, .ref m_reached]))] (S := Unit) (fun v u => v = none) (fun u => [(h, .inr (10, [.ref m_rels, .ref m_openRels, .ref m_closeRels, .ref m_openRel, .ref m_closeRel, .ref m_comment, .ref m_ends, .ref m_order, .int 0, .int 0, .ref m_tape, .ref m_count, .ref m_nameSize, .ref m_names, .ref m_size, .ref m_data, .int 0, .ref m_looked, .int 0, .ref m_file, .int 0, .ref m_directory, .int 0, .ref m_out, .int 0, .ref m_row, .int 0, .int 0, .int 0, .int 0, .ref m_made, .ref m_length, .int 0, .int 0, .int 0, .int 0, .int 0, .ref m_pressed, .int 0, .int 0, .int 0, .ref m_mark, .int 0, .ref m_idSize, .ref m_ids, .ref m_goalSize, .ref m_goals, .int 0, .ref m_value, .int 0, .ref m_faults, .ref m_reached]))]) := by
  refine Cn.of hl (by decide +kernel) rfl (Nat.le_of_ble_eq_true rfl) (fun M hQ => ?_)
  refine pb_eq (pc' := 0) (lo' := [(0, .ref h)]) (rest' := []) (ws' := [(h, .inr (10, [.ref m_rels, .ref m_openRels, .ref m_closeRels, .ref m_openRel, .ref m_closeRel, .ref m_comment, .ref m_ends, .ref m_order, .int 0, .int 0, .ref m_tape, .ref m_count, .ref m_nameSize, .ref m_names, .ref m_size, .ref m_data, .int 0, .ref m_looked, .int 0, .ref m_file, .int 0, .ref m_directory, .int 0, .ref m_out, .int 0, .ref m_row, .int 0, .int 0, .int 0, .int 0, .ref m_made, .ref m_length, .int 0, .int 0, .int 0, .int 0, .int 0, .ref m_pressed, .int 0, .int 0, .int 0, .ref m_mark, .int 0, .ref m_idSize, .ref m_ids, .ref m_goalSize, .ref m_goals, .int 0, .ref m_value, .int 0, .ref m_faults, .ref m_reached]))]) ?_
  refine pb_aload_n (pc := 0) d_Mod_takeRow_0 0 rfl rfl ?_
  refine pb_aload_n (pc := 1) d_Mod_takeRow_1 0 rfl rfl ?_
  refine pb_get (pc := 2) d_Mod_takeRow_2 0 9 rfl rfl (by decide) in_Mod k_1155 rfl ?_
  refine pb_put (pc := 5) (ty := .int) (ws' := [(h, .inr (10, [.ref m_rels, .ref m_openRels, .ref m_closeRels, .ref m_openRel, .ref m_closeRel, .ref m_comment, .ref m_ends, .ref m_order, .int 0, .int 0, .ref m_tape, .ref m_count, .ref m_nameSize, .ref m_names, .ref m_size, .ref m_data, .int 0, .ref m_looked, .int 0, .ref m_file, .int 0, .ref m_directory, .int 0, .ref m_out, .int 0, .ref m_row, .int 0, .int 0, .int 0, .int 0, .ref m_made, .ref m_length, .int 0, .int 0, .int 0, .int 0, .int 0, .ref m_pressed, .int 0, .int 0, .int 0, .ref m_mark, .int 0, .ref m_idSize, .ref m_ids, .ref m_goalSize, .ref m_goals, .int 0, .ref m_value, .int 0, .ref m_faults, .ref m_reached]))]) d_Mod_takeRow_5 0 24 t_Mod t_Mod_ok n_Mod rfl rfl (by decide) in_Mod k_1170 rfl (by decide +kernel) rfl rfl (Nat.le_of_ble_eq_true rfl) rfl ?_
  refine pb_iconst (pc := 8) (v := 0) d_Mod_takeRow_8 (by decide) ?_
  refine pb_istore_n (pc := 9) (lo' := [(1, .int 0), (0, .ref h)]) d_Mod_takeRow_9 rfl (by decide) rfl ?_
  refine pb_iload_n (pc := 10) d_Mod_takeRow_10 0 rfl rfl ?_
  refine pb_aload_n (pc := 11) d_Mod_takeRow_11 1 rfl rfl ?_
  refine pb_get (pc := 12) d_Mod_takeRow_12 0 9 rfl rfl (by decide) in_Mod k_1155 rfl ?_
  refine pb_icmp_ge (pc := 15) (tgt := 36) d_Mod_takeRow_15 (by decide) (fun _ => ?_) (fun h9 => absurd h9 (by decide))
  refine pb_aload_n (pc := 36) d_Mod_takeRow_36 1 rfl rfl ?_
  refine pb_iconst (pc := 37) (v := 0) d_Mod_takeRow_37 (by decide) ?_
  refine pb_put (pc := 38) (ty := .int) (ws' := [(h, .inr (10, [.ref m_rels, .ref m_openRels, .ref m_closeRels, .ref m_openRel, .ref m_closeRel, .ref m_comment, .ref m_ends, .ref m_order, .int 0, .int 0, .ref m_tape, .ref m_count, .ref m_nameSize, .ref m_names, .ref m_size, .ref m_data, .int 0, .ref m_looked, .int 0, .ref m_file, .int 0, .ref m_directory, .int 0, .ref m_out, .int 0, .ref m_row, .int 0, .int 0, .int 0, .int 0, .ref m_made, .ref m_length, .int 0, .int 0, .int 0, .int 0, .int 0, .ref m_pressed, .int 0, .int 0, .int 0, .ref m_mark, .int 0, .ref m_idSize, .ref m_ids, .ref m_goalSize, .ref m_goals, .int 0, .ref m_value, .int 0, .ref m_faults, .ref m_reached]))]) d_Mod_takeRow_38 0 9 t_Mod t_Mod_ok n_Mod rfl rfl (by decide) in_Mod k_1155 rfl (by decide +kernel) rfl rfl (Nat.le_of_ble_eq_true rfl) rfl ?_
  exact pb_vret (pc := 41) hQ d_Mod_takeRow_41 rfl () rfl [0] (by decide) rfl rfl (by decide) (by decide)

theorem d_Mod_directoryFault_0 : decode prog_12_method_55_code 0 = .ok (.aload_n 0, 1) := by decide +kernel
theorem d_Mod_directoryFault_1 : decode prog_12_method_55_code 1 = .ok (.getfield 260, 3) := by decide +kernel
theorem d_Mod_directoryFault_4 : decode prog_12_method_55_code 4 = .ok (.bipush 22, 2) := by decide +kernel
theorem d_Mod_directoryFault_6 : decode prog_12_method_55_code 6 = .ok (.isub, 1) := by decide +kernel
theorem d_Mod_directoryFault_7 : decode prog_12_method_55_code 7 = .ok (.istore_n 1, 1) := by decide +kernel
theorem d_Mod_directoryFault_8 : decode prog_12_method_55_code 8 = .ok (.iload_n 1, 1) := by decide +kernel
theorem d_Mod_directoryFault_9 : decode prog_12_method_55_code 9 = .ok (.ifCond .lt 65, 3) := by decide +kernel
theorem d_Mod_directoryFault_74 : decode prog_12_method_55_code 74 = .ok (.iconst 1, 1) := by decide +kernel
theorem d_Mod_directoryFault_75 : decode prog_12_method_55_code 75 = .ok (.ireturn, 1) := by decide +kernel
abbrev y_Mod_directoryFault : MethodName := ⟨"PackageBookModel", "directoryFault", "()I"⟩
abbrev i_Mod_directoryFault : pb_I := (y_Mod_directoryFault, prog_12_method_55_code, 10, (some Jvm.ClassFile.FieldType.int), [], { frames := 0, cells := 0, slots := 0, locals := 0 })
set_option maxRecDepth 100000 in
set_option maxHeartbeats 4000000 in
theorem c_Mod_dirFault0 {l : Launch} (hl : l.stackTraces = false) (G : pb_G) (h : Nat) (m_rels : Nat) (m_openRels : Nat) (m_closeRels : Nat) (m_openRel : Nat) (m_closeRel : Nat) (m_comment : Nat) (m_ends : Nat) (m_order : Nat) (m_tape : Nat) (m_count : Nat) (m_nameSize : Nat) (m_names : Nat) (m_size : Nat) (m_data : Nat) (m_looked : Nat) (m_file : Nat) (m_directory : Nat) (m_out : Nat) (m_row : Nat) (m_made : Nat) (m_length : Nat) (m_pressed : Nat) (m_mark : Nat) (m_idSize : Nat) (m_ids : Nat) (m_goalSize : Nat) (m_goals : Nat) (m_value : Nat) (m_faults : Nat) (m_reached : Nat) : Cn l G i_Mod_directoryFault [.ref h] [(h, .inr (10, [.ref m_rels, .ref m_openRels, .ref m_closeRels, .ref m_openRel, .ref m_closeRel, .ref m_comment, .ref m_ends, .ref m_order, .int 0, .int 0, .ref m_tape, .ref m_count, .ref m_nameSize, .ref m_names, .ref m_size, .ref m_data, .int 0, .ref m_looked, .int 0, .ref m_file, .int 0, .ref m_directory, .int 0, .ref m_out, .int 0, .ref m_row, .int 0, .int 0, .int 0, .int 0, .ref m_made, .ref m_length, .int 0, .int 0, .int 0, .int 0, .int 0, .ref m_pressed, .int 0, .int 0, .int 0, .ref m_mark, .int 0, .ref m_idSize, .ref m_ids, .ref m_goalSize, .ref m_goals, .int 0, .ref m_value, .int 0, .ref m_faults, .ref m_reached]))] (S := Unit) (fun v u => v = some (.int 1)) (fun u => [(h, .inr (10, [.ref m_rels, .ref m_openRels, .ref m_closeRels, .ref m_openRel, .ref m_closeRel, .ref m_comment, .ref m_ends, .ref m_order, .int 0, .int 0, .ref m_tape, .ref m_count, .ref m_nameSize, .ref m_names, .ref m_size, .ref m_data, .int 0, .ref m_looked, .int 0, .ref m_file, .int 0, .ref m_directory, .int 0, .ref m_out, .int 0, .ref m_row, .int 0, .int 0, .int 0, .int 0, .ref m_made, .ref m_length, .int 0, .int 0, .int 0, .int 0, .int 0, .ref m_pressed, .int 0, .int 0, .int 0, .ref m_mark, .int 0, .ref m_idSize, .ref m_ids, .ref m_goalSize, .ref m_goals, .int 0, .ref m_value, .int 0, .ref m_faults, .ref m_reached]))]) := by
  refine Cn.of hl (by decide +kernel) rfl (Nat.le_of_ble_eq_true rfl) (fun M hQ => ?_)
  refine pb_eq (pc' := 0) (lo' := [(0, .ref h)]) (rest' := []) (ws' := [(h, .inr (10, [.ref m_rels, .ref m_openRels, .ref m_closeRels, .ref m_openRel, .ref m_closeRel, .ref m_comment, .ref m_ends, .ref m_order, .int 0, .int 0, .ref m_tape, .ref m_count, .ref m_nameSize, .ref m_names, .ref m_size, .ref m_data, .int 0, .ref m_looked, .int 0, .ref m_file, .int 0, .ref m_directory, .int 0, .ref m_out, .int 0, .ref m_row, .int 0, .int 0, .int 0, .int 0, .ref m_made, .ref m_length, .int 0, .int 0, .int 0, .int 0, .int 0, .ref m_pressed, .int 0, .int 0, .int 0, .ref m_mark, .int 0, .ref m_idSize, .ref m_ids, .ref m_goalSize, .ref m_goals, .int 0, .ref m_value, .int 0, .ref m_faults, .ref m_reached]))]) ?_
  refine pb_aload_n (pc := 0) d_Mod_directoryFault_0 0 rfl rfl ?_
  refine pb_get (pc := 1) d_Mod_directoryFault_1 0 24 rfl rfl (by decide) in_Mod k_1170 rfl ?_
  refine pb_bipush (pc := 4) (v := 22) d_Mod_directoryFault_4 (by decide) ?_
  refine pb_isub (pc := 6) d_Mod_directoryFault_6 ?_
  refine pb_asi (y := (-22)) (by decide) ?_
  refine pb_istore_n (pc := 7) (lo' := [(1, .int (-22)), (0, .ref h)]) d_Mod_directoryFault_7 rfl (by decide) rfl ?_
  refine pb_iload_n (pc := 8) d_Mod_directoryFault_8 0 rfl rfl ?_
  refine pb_if_lt (pc := 9) (tgt := 74) d_Mod_directoryFault_9 (by decide) (fun _ => ?_) (fun h9 => absurd h9 (by decide))
  refine pb_iconst (pc := 74) (v := 1) d_Mod_directoryFault_74 (by decide) ?_
  exact pb_iret (pc := 75) hQ d_Mod_directoryFault_75 rfl rfl () rfl [0] (by decide) rfl rfl (by decide) (by decide)

theorem d_Mod_readRow_0 : decode prog_12_method_58_code 0 = .ok (.aload_n 0, 1) := by decide +kernel
theorem d_Mod_readRow_1 : decode prog_12_method_58_code 1 = .ok (.invokevirtual 312, 3) := by decide +kernel
theorem k_1522 : (Jvm.Cond.methodLink "PackageBookModel" (312 : Nat) ({ cls := "PackageBookModel", name := "directoryFault", desc := "()I" } : Jvm.MethodName)) ∈ uW := uW_of 1522 (by decide +kernel) (by decide +kernel)
theorem k_1525 : (Jvm.Cond.code ({ cls := "PackageBookModel", name := "directoryFault", desc := "()I" } : Jvm.MethodName) prog_12_method_55_code (10 : Nat) (Option.some Jvm.ClassFile.FieldType.int)) ∈ uW := uW_of 1525 (by decide +kernel) (by decide +kernel)
theorem k_1524 : (Jvm.Cond.instanceMethod ({ cls := "PackageBookModel", name := "directoryFault", desc := "()I" } : Jvm.MethodName)) ∈ uW := uW_of 1524 (by decide +kernel) (by decide +kernel)
theorem k_87 : Cond.selects "PackageBookModel" ⟨"PackageBookModel", "directoryFault", "()I"⟩ ⟨"PackageBookModel", "directoryFault", "()I"⟩ ∈ uW := uW_of 87 (by decide +kernel) (by decide +kernel)
theorem d_Mod_readRow_4 : decode prog_12_method_58_code 4 = .ok (.istore_n 1, 1) := by decide +kernel
theorem d_Mod_readRow_5 : decode prog_12_method_58_code 5 = .ok (.iload_n 1, 1) := by decide +kernel
theorem d_Mod_readRow_6 : decode prog_12_method_58_code 6 = .ok (.ifCond .le 5, 3) := by decide +kernel
theorem d_Mod_readRow_9 : decode prog_12_method_58_code 9 = .ok (.iload_n 1, 1) := by decide +kernel
theorem d_Mod_readRow_10 : decode prog_12_method_58_code 10 = .ok (.ireturn, 1) := by decide +kernel
abbrev y_Mod_readRow : MethodName := ⟨"PackageBookModel", "readRow", "()I"⟩
abbrev i_Mod_readRow : pb_I := (y_Mod_readRow, prog_12_method_58_code, 5, (some Jvm.ClassFile.FieldType.int), [], { frames := 1, cells := 0, slots := 0, locals := 29 })
set_option maxRecDepth 100000 in
set_option maxHeartbeats 4000000 in
theorem c_Mod_readRow0 {l : Launch} (hl : l.stackTraces = false) (G : pb_G) (h : Nat) (m_rels : Nat) (m_openRels : Nat) (m_closeRels : Nat) (m_openRel : Nat) (m_closeRel : Nat) (m_comment : Nat) (m_ends : Nat) (m_order : Nat) (m_tape : Nat) (m_count : Nat) (m_nameSize : Nat) (m_names : Nat) (m_size : Nat) (m_data : Nat) (m_looked : Nat) (m_file : Nat) (m_directory : Nat) (m_out : Nat) (m_row : Nat) (m_made : Nat) (m_length : Nat) (m_pressed : Nat) (m_mark : Nat) (m_idSize : Nat) (m_ids : Nat) (m_goalSize : Nat) (m_goals : Nat) (m_value : Nat) (m_faults : Nat) (m_reached : Nat) : Cn l G i_Mod_readRow [.ref h] [(h, .inr (10, [.ref m_rels, .ref m_openRels, .ref m_closeRels, .ref m_openRel, .ref m_closeRel, .ref m_comment, .ref m_ends, .ref m_order, .int 0, .int 0, .ref m_tape, .ref m_count, .ref m_nameSize, .ref m_names, .ref m_size, .ref m_data, .int 0, .ref m_looked, .int 0, .ref m_file, .int 0, .ref m_directory, .int 0, .ref m_out, .int 0, .ref m_row, .int 0, .int 0, .int 0, .int 0, .ref m_made, .ref m_length, .int 0, .int 0, .int 0, .int 0, .int 0, .ref m_pressed, .int 0, .int 0, .int 0, .ref m_mark, .int 0, .ref m_idSize, .ref m_ids, .ref m_goalSize, .ref m_goals, .int 0, .ref m_value, .int 0, .ref m_faults, .ref m_reached]))] (S := Unit) (fun v u => v = some (.int 1)) (fun u => []) := by
  refine Cn.of hl (by decide +kernel) rfl (Nat.le_of_ble_eq_true rfl) (fun M hQ => ?_)
  refine pb_eq (pc' := 0) (lo' := [(0, .ref h)]) (rest' := []) (ws' := [(h, .inr (10, [.ref m_rels, .ref m_openRels, .ref m_closeRels, .ref m_openRel, .ref m_closeRel, .ref m_comment, .ref m_ends, .ref m_order, .int 0, .int 0, .ref m_tape, .ref m_count, .ref m_nameSize, .ref m_names, .ref m_size, .ref m_data, .int 0, .ref m_looked, .int 0, .ref m_file, .int 0, .ref m_directory, .int 0, .ref m_out, .int 0, .ref m_row, .int 0, .int 0, .int 0, .int 0, .ref m_made, .ref m_length, .int 0, .int 0, .int 0, .int 0, .int 0, .ref m_pressed, .int 0, .int 0, .int 0, .ref m_mark, .int 0, .ref m_idSize, .ref m_ids, .ref m_goalSize, .ref m_goals, .int 0, .ref m_value, .int 0, .ref m_faults, .ref m_reached]))]) ?_
  refine pb_aload_n (pc := 0) d_Mod_readRow_0 0 rfl rfl ?_
  refine pb_callV (pc := 1) (qb := 0) (ci := 10) (nA := 0) (rest := []) (wr := []) d_Mod_readRow_1 (c_Mod_dirFault0 hl G h m_rels m_openRels m_closeRels m_openRel m_closeRel m_comment m_ends m_order m_tape m_count m_nameSize m_names m_size m_data m_looked m_file m_directory m_out m_row m_made m_length m_pressed m_mark m_idSize m_ids m_goalSize m_goals m_value m_faults m_reached) rfl rfl [0] [] (by decide) rfl rfl rfl (by decide) (by decide) k_1525 rfl k_128 k_1522 k_1524 k_87 (by decide +kernel) (by decide) rfl rfl (Nat.le_of_ble_eq_true rfl) (by decide) (fun v9 u2 h1 => ?_)
  have eh1 := h1
  have eh1 : v9 = some (.int 1) := eh1
  subst eh1
  refine pb_eq (pc' := 4) (lo' := [(0, .ref h)]) (rest' := [.int 1]) (ws' := [(h, .inr (10, [.ref m_rels, .ref m_openRels, .ref m_closeRels, .ref m_openRel, .ref m_closeRel, .ref m_comment, .ref m_ends, .ref m_order, .int 0, .int 0, .ref m_tape, .ref m_count, .ref m_nameSize, .ref m_names, .ref m_size, .ref m_data, .int 0, .ref m_looked, .int 0, .ref m_file, .int 0, .ref m_directory, .int 0, .ref m_out, .int 0, .ref m_row, .int 0, .int 0, .int 0, .int 0, .ref m_made, .ref m_length, .int 0, .int 0, .int 0, .int 0, .int 0, .ref m_pressed, .int 0, .int 0, .int 0, .ref m_mark, .int 0, .ref m_idSize, .ref m_ids, .ref m_goalSize, .ref m_goals, .int 0, .ref m_value, .int 0, .ref m_faults, .ref m_reached]))]) ?_
  refine pb_istore_n (pc := 4) (lo' := [(1, .int 1), (0, .ref h)]) d_Mod_readRow_4 rfl (by decide) rfl ?_
  refine pb_iload_n (pc := 5) d_Mod_readRow_5 0 rfl rfl ?_
  refine pb_if_le (pc := 6) (tgt := 11) d_Mod_readRow_6 (by decide) (fun h9 => absurd h9 (by decide)) (fun _ => ?_)
  refine pb_iload_n (pc := 9) d_Mod_readRow_9 0 rfl rfl ?_
  exact pb_iret (pc := 10) hQ d_Mod_readRow_10 rfl rfl () rfl [] (by decide) rfl rfl (by decide) (by decide)

theorem d_Mod_read_0 : decode prog_12_method_59_code 0 = .ok (.aload_n 0, 1) := by decide +kernel
theorem d_Mod_read_1 : decode prog_12_method_59_code 1 = .ok (.iconst 0, 1) := by decide +kernel
theorem d_Mod_read_2 : decode prog_12_method_59_code 2 = .ok (.putfield 103, 3) := by decide +kernel
theorem d_Mod_read_5 : decode prog_12_method_59_code 5 = .ok (.aload_n 0, 1) := by decide +kernel
theorem d_Mod_read_6 : decode prog_12_method_59_code 6 = .ok (.invokevirtual 263, 3) := by decide +kernel
theorem k_1419 : (Jvm.Cond.methodLink "PackageBookModel" (263 : Nat) ({ cls := "PackageBookModel", name := "takeRow", desc := "()V" } : Jvm.MethodName)) ∈ uW := uW_of 1419 (by decide +kernel) (by decide +kernel)
theorem k_1422 : (Jvm.Cond.code ({ cls := "PackageBookModel", name := "takeRow", desc := "()V" } : Jvm.MethodName) prog_12_method_46_code (2 : Nat) (Option.none : Option Jvm.ClassFile.FieldType)) ∈ uW := uW_of 1422 (by decide +kernel) (by decide +kernel)
theorem k_1421 : (Jvm.Cond.instanceMethod ({ cls := "PackageBookModel", name := "takeRow", desc := "()V" } : Jvm.MethodName)) ∈ uW := uW_of 1421 (by decide +kernel) (by decide +kernel)
theorem k_67 : Cond.selects "PackageBookModel" ⟨"PackageBookModel", "takeRow", "()V"⟩ ⟨"PackageBookModel", "takeRow", "()V"⟩ ∈ uW := uW_of 67 (by decide +kernel) (by decide +kernel)
theorem d_Mod_read_9 : decode prog_12_method_59_code 9 = .ok (.aload_n 0, 1) := by decide +kernel
theorem d_Mod_read_10 : decode prog_12_method_59_code 10 = .ok (.invokevirtual 319, 3) := by decide +kernel
theorem k_1518 : (Jvm.Cond.methodLink "PackageBookModel" (319 : Nat) ({ cls := "PackageBookModel", name := "readRow", desc := "()I" } : Jvm.MethodName)) ∈ uW := uW_of 1518 (by decide +kernel) (by decide +kernel)
theorem k_1521 : (Jvm.Cond.code ({ cls := "PackageBookModel", name := "readRow", desc := "()I" } : Jvm.MethodName) prog_12_method_58_code (5 : Nat) (Option.some Jvm.ClassFile.FieldType.int)) ∈ uW := uW_of 1521 (by decide +kernel) (by decide +kernel)
theorem k_1520 : (Jvm.Cond.instanceMethod ({ cls := "PackageBookModel", name := "readRow", desc := "()I" } : Jvm.MethodName)) ∈ uW := uW_of 1520 (by decide +kernel) (by decide +kernel)
theorem k_86 : Cond.selects "PackageBookModel" ⟨"PackageBookModel", "readRow", "()I"⟩ ⟨"PackageBookModel", "readRow", "()I"⟩ ∈ uW := uW_of 86 (by decide +kernel) (by decide +kernel)
theorem d_Mod_read_13 : decode prog_12_method_59_code 13 = .ok (.ireturn, 1) := by decide +kernel
abbrev y_Mod_read : MethodName := ⟨"PackageBookModel", "read", "()I"⟩
abbrev i_Mod_read : pb_I := (y_Mod_read, prog_12_method_59_code, 1, (some Jvm.ClassFile.FieldType.int), [], { frames := 2, cells := 0, slots := 0, locals := 53 })
set_option maxRecDepth 100000 in
set_option maxHeartbeats 4000000 in
theorem c_Mod_read {l : Launch} (hl : l.stackTraces = false) (G : pb_G) (h : Nat) (m_rels : Nat) (m_openRels : Nat) (m_closeRels : Nat) (m_openRel : Nat) (m_closeRel : Nat) (m_comment : Nat) (m_ends : Nat) (m_order : Nat) (m_tape : Nat) (m_count : Nat) (m_nameSize : Nat) (m_names : Nat) (m_size : Nat) (m_data : Nat) (m_looked : Nat) (m_file : Nat) (m_directory : Nat) (m_out : Nat) (m_row : Nat) (m_made : Nat) (m_length : Nat) (m_pressed : Nat) (m_mark : Nat) (m_idSize : Nat) (m_ids : Nat) (m_goalSize : Nat) (m_goals : Nat) (m_value : Nat) (m_faults : Nat) (m_reached : Nat) : Cn l G i_Mod_read [.ref h] [(h, .inr (10, [.ref m_rels, .ref m_openRels, .ref m_closeRels, .ref m_openRel, .ref m_closeRel, .ref m_comment, .ref m_ends, .ref m_order, .int 0, .int 0, .ref m_tape, .ref m_count, .ref m_nameSize, .ref m_names, .ref m_size, .ref m_data, .int 0, .ref m_looked, .int 0, .ref m_file, .int 0, .ref m_directory, .int 0, .ref m_out, .int 0, .ref m_row, .int 0, .int 0, .int 0, .int 0, .ref m_made, .ref m_length, .int 0, .int 0, .int 0, .int 0, .int 0, .ref m_pressed, .int 0, .int 0, .int 0, .ref m_mark, .int 0, .ref m_idSize, .ref m_ids, .ref m_goalSize, .ref m_goals, .int 0, .ref m_value, .int 0, .ref m_faults, .ref m_reached]))] (S := Unit) (fun v u => v = some (.int 1)) (fun u => []) := by
  refine Cn.of hl (by decide +kernel) rfl (Nat.le_of_ble_eq_true rfl) (fun M hQ => ?_)
  refine pb_eq (pc' := 0) (lo' := [(0, .ref h)]) (rest' := []) (ws' := [(h, .inr (10, [.ref m_rels, .ref m_openRels, .ref m_closeRels, .ref m_openRel, .ref m_closeRel, .ref m_comment, .ref m_ends, .ref m_order, .int 0, .int 0, .ref m_tape, .ref m_count, .ref m_nameSize, .ref m_names, .ref m_size, .ref m_data, .int 0, .ref m_looked, .int 0, .ref m_file, .int 0, .ref m_directory, .int 0, .ref m_out, .int 0, .ref m_row, .int 0, .int 0, .int 0, .int 0, .ref m_made, .ref m_length, .int 0, .int 0, .int 0, .int 0, .int 0, .ref m_pressed, .int 0, .int 0, .int 0, .ref m_mark, .int 0, .ref m_idSize, .ref m_ids, .ref m_goalSize, .ref m_goals, .int 0, .ref m_value, .int 0, .ref m_faults, .ref m_reached]))]) ?_
  refine pb_aload_n (pc := 0) d_Mod_read_0 0 rfl rfl ?_
  refine pb_iconst (pc := 1) (v := 0) d_Mod_read_1 (by decide) ?_
  refine pb_put (pc := 2) (ty := .int) (ws' := [(h, .inr (10, [.ref m_rels, .ref m_openRels, .ref m_closeRels, .ref m_openRel, .ref m_closeRel, .ref m_comment, .ref m_ends, .ref m_order, .int 0, .int 0, .ref m_tape, .ref m_count, .ref m_nameSize, .ref m_names, .ref m_size, .ref m_data, .int 0, .ref m_looked, .int 0, .ref m_file, .int 0, .ref m_directory, .int 0, .ref m_out, .int 0, .ref m_row, .int 0, .int 0, .int 0, .int 0, .ref m_made, .ref m_length, .int 0, .int 0, .int 0, .int 0, .int 0, .ref m_pressed, .int 0, .int 0, .int 0, .ref m_mark, .int 0, .ref m_idSize, .ref m_ids, .ref m_goalSize, .ref m_goals, .int 0, .ref m_value, .int 0, .ref m_faults, .ref m_reached]))]) d_Mod_read_2 0 8 t_Mod t_Mod_ok n_Mod rfl rfl (by decide) in_Mod k_1154 rfl (by decide +kernel) rfl rfl (Nat.le_of_ble_eq_true rfl) rfl ?_
  refine pb_aload_n (pc := 5) d_Mod_read_5 0 rfl rfl ?_
  refine pb_callV (pc := 6) (qb := 0) (ci := 10) (nA := 0) (rest := []) (wr := []) d_Mod_read_6 (c_Mod_takeRow0 hl G h m_rels m_openRels m_closeRels m_openRel m_closeRel m_comment m_ends m_order m_tape m_count m_nameSize m_names m_size m_data m_looked m_file m_directory m_out m_row m_made m_length m_pressed m_mark m_idSize m_ids m_goalSize m_goals m_value m_faults m_reached) rfl rfl [0] [] (by decide) rfl rfl rfl (by decide) (by decide) k_1422 rfl k_128 k_1419 k_1421 k_67 (by decide +kernel) (by decide) rfl rfl (Nat.le_of_ble_eq_true rfl) (by decide) (fun v9 u2 h1 => ?_)
  have eh1 := h1
  have eh1 : v9 = none := eh1
  subst eh1
  refine pb_eq (pc' := 9) (lo' := [(0, .ref h)]) (rest' := []) (ws' := [(h, .inr (10, [.ref m_rels, .ref m_openRels, .ref m_closeRels, .ref m_openRel, .ref m_closeRel, .ref m_comment, .ref m_ends, .ref m_order, .int 0, .int 0, .ref m_tape, .ref m_count, .ref m_nameSize, .ref m_names, .ref m_size, .ref m_data, .int 0, .ref m_looked, .int 0, .ref m_file, .int 0, .ref m_directory, .int 0, .ref m_out, .int 0, .ref m_row, .int 0, .int 0, .int 0, .int 0, .ref m_made, .ref m_length, .int 0, .int 0, .int 0, .int 0, .int 0, .ref m_pressed, .int 0, .int 0, .int 0, .ref m_mark, .int 0, .ref m_idSize, .ref m_ids, .ref m_goalSize, .ref m_goals, .int 0, .ref m_value, .int 0, .ref m_faults, .ref m_reached]))]) ?_
  refine pb_aload_n (pc := 9) d_Mod_read_9 0 rfl rfl ?_
  refine pb_callV (pc := 10) (qb := 0) (ci := 10) (nA := 0) (rest := []) (wr := []) d_Mod_read_10 (c_Mod_readRow0 hl G h m_rels m_openRels m_closeRels m_openRel m_closeRel m_comment m_ends m_order m_tape m_count m_nameSize m_names m_size m_data m_looked m_file m_directory m_out m_row m_made m_length m_pressed m_mark m_idSize m_ids m_goalSize m_goals m_value m_faults m_reached) rfl rfl [0] [] (by decide) rfl rfl rfl (by decide) (by decide) k_1521 rfl k_128 k_1518 k_1520 k_86 (by decide +kernel) (by decide) rfl rfl (Nat.le_of_ble_eq_true rfl) (by decide) (fun v9 u4 h3 => ?_)
  have eh3 := h3
  have eh3 : v9 = some (.int 1) := eh3
  subst eh3
  refine pb_eq (pc' := 13) (lo' := [(0, .ref h)]) (rest' := [.int 1]) (ws' := []) ?_
  exact pb_iret (pc := 13) hQ d_Mod_read_13 rfl rfl () rfl [] (by decide) rfl rfl (by decide) (by decide)

theorem d_Mod_fail_0 : decode prog_12_method_31_code 0 = .ok (.aload_n 0, 1) := by decide +kernel
theorem d_Mod_fail_1 : decode prog_12_method_31_code 1 = .ok (.aload_n 0, 1) := by decide +kernel
theorem d_Mod_fail_2 : decode prog_12_method_31_code 2 = .ok (.getfield 197, 3) := by decide +kernel
theorem k_1174 : (Jvm.Cond.fieldLink "PackageBookModel" (197 : Nat) "PackageBookModel" "why" "I") ∈ uW := uW_of 1174 (by decide +kernel) (by decide +kernel)
theorem d_Mod_fail_5 : decode prog_12_method_31_code 5 = .ok (.ifCond .ne 7, 3) := by decide +kernel
theorem d_Mod_fail_8 : decode prog_12_method_31_code 8 = .ok (.iload_n 1, 1) := by decide +kernel
theorem d_Mod_fail_9 : decode prog_12_method_31_code 9 = .ok (.goto 7, 3) := by decide +kernel
theorem d_Mod_fail_16 : decode prog_12_method_31_code 16 = .ok (.putfield 197, 3) := by decide +kernel
theorem d_Mod_fail_19 : decode prog_12_method_31_code 19 = .ok (.return_, 1) := by decide +kernel
abbrev y_Mod_fail : MethodName := ⟨"PackageBookModel", "fail", "(I)V"⟩
abbrev i_Mod_fail : pb_I := (y_Mod_fail, prog_12_method_31_code, 2, (Option.none : Option Jvm.ClassFile.FieldType), [], { frames := 0, cells := 0, slots := 0, locals := 0 })
set_option maxRecDepth 100000 in
set_option maxHeartbeats 4000000 in
theorem c_Mod_fail0 {l : Launch} (hl : l.stackTraces = false) (G : pb_G) (h : Nat) (m_rels : Nat) (m_openRels : Nat) (m_closeRels : Nat) (m_openRel : Nat) (m_closeRel : Nat) (m_comment : Nat) (m_ends : Nat) (m_order : Nat) (m_tape : Nat) (m_count : Nat) (m_nameSize : Nat) (m_names : Nat) (m_size : Nat) (m_data : Nat) (m_looked : Nat) (m_file : Nat) (m_directory : Nat) (m_out : Nat) (m_row : Nat) (m_made : Nat) (m_length : Nat) (m_pressed : Nat) (m_mark : Nat) (m_idSize : Nat) (m_ids : Nat) (m_goalSize : Nat) (m_goals : Nat) (m_value : Nat) (m_faults : Nat) (m_reached : Nat) : Cn l G i_Mod_fail [.ref h, .int 1] [(h, .inr (10, [.ref m_rels, .ref m_openRels, .ref m_closeRels, .ref m_openRel, .ref m_closeRel, .ref m_comment, .ref m_ends, .ref m_order, .int 0, .int 0, .ref m_tape, .ref m_count, .ref m_nameSize, .ref m_names, .ref m_size, .ref m_data, .int 0, .ref m_looked, .int 0, .ref m_file, .int 0, .ref m_directory, .int 0, .ref m_out, .int 0, .ref m_row, .int 0, .int 0, .int 0, .int 0, .ref m_made, .ref m_length, .int 0, .int 0, .int 0, .int 0, .int 0, .ref m_pressed, .int 0, .int 0, .int 0, .ref m_mark, .int 0, .ref m_idSize, .ref m_ids, .ref m_goalSize, .ref m_goals, .int 0, .ref m_value, .int 0, .ref m_faults, .ref m_reached]))] (S := Unit) (fun v u => v = none) (fun u => [(h, .inr (10, [.ref m_rels, .ref m_openRels, .ref m_closeRels, .ref m_openRel, .ref m_closeRel, .ref m_comment, .ref m_ends, .ref m_order, .int 0, .int 0, .ref m_tape, .ref m_count, .ref m_nameSize, .ref m_names, .ref m_size, .ref m_data, .int 0, .ref m_looked, .int 0, .ref m_file, .int 0, .ref m_directory, .int 0, .ref m_out, .int 0, .ref m_row, .int 0, .int 0, .int 1, .int 0, .ref m_made, .ref m_length, .int 0, .int 0, .int 0, .int 0, .int 0, .ref m_pressed, .int 0, .int 0, .int 0, .ref m_mark, .int 0, .ref m_idSize, .ref m_ids, .ref m_goalSize, .ref m_goals, .int 0, .ref m_value, .int 0, .ref m_faults, .ref m_reached]))]) := by
  refine Cn.of hl (by decide +kernel) rfl (Nat.le_of_ble_eq_true rfl) (fun M hQ => ?_)
  refine pb_eq (pc' := 0) (lo' := [(0, .ref h), (1, .int 1)]) (rest' := []) (ws' := [(h, .inr (10, [.ref m_rels, .ref m_openRels, .ref m_closeRels, .ref m_openRel, .ref m_closeRel, .ref m_comment, .ref m_ends, .ref m_order, .int 0, .int 0, .ref m_tape, .ref m_count, .ref m_nameSize, .ref m_names, .ref m_size, .ref m_data, .int 0, .ref m_looked, .int 0, .ref m_file, .int 0, .ref m_directory, .int 0, .ref m_out, .int 0, .ref m_row, .int 0, .int 0, .int 0, .int 0, .ref m_made, .ref m_length, .int 0, .int 0, .int 0, .int 0, .int 0, .ref m_pressed, .int 0, .int 0, .int 0, .ref m_mark, .int 0, .ref m_idSize, .ref m_ids, .ref m_goalSize, .ref m_goals, .int 0, .ref m_value, .int 0, .ref m_faults, .ref m_reached]))]) ?_
  refine pb_aload_n (pc := 0) d_Mod_fail_0 0 rfl rfl ?_
  refine pb_aload_n (pc := 1) d_Mod_fail_1 0 rfl rfl ?_
  refine pb_get (pc := 2) d_Mod_fail_2 0 28 rfl rfl (by decide) in_Mod k_1174 rfl ?_
  refine pb_if_ne (pc := 5) (tgt := 12) d_Mod_fail_5 (by decide) (fun h9 => absurd h9 (by decide)) (fun _ => ?_)
  refine pb_iload_n (pc := 8) d_Mod_fail_8 1 rfl rfl ?_
  refine pb_goto (pc := 9) (tgt := 16) d_Mod_fail_9 (by decide) ?_
  refine pb_put (pc := 16) (ty := .int) (ws' := [(h, .inr (10, [.ref m_rels, .ref m_openRels, .ref m_closeRels, .ref m_openRel, .ref m_closeRel, .ref m_comment, .ref m_ends, .ref m_order, .int 0, .int 0, .ref m_tape, .ref m_count, .ref m_nameSize, .ref m_names, .ref m_size, .ref m_data, .int 0, .ref m_looked, .int 0, .ref m_file, .int 0, .ref m_directory, .int 0, .ref m_out, .int 0, .ref m_row, .int 0, .int 0, .int 1, .int 0, .ref m_made, .ref m_length, .int 0, .int 0, .int 0, .int 0, .int 0, .ref m_pressed, .int 0, .int 0, .int 0, .ref m_mark, .int 0, .ref m_idSize, .ref m_ids, .ref m_goalSize, .ref m_goals, .int 0, .ref m_value, .int 0, .ref m_faults, .ref m_reached]))]) d_Mod_fail_16 0 28 t_Mod t_Mod_ok n_Mod rfl rfl (by decide) in_Mod k_1174 rfl (by decide +kernel) rfl rfl (Nat.le_of_ble_eq_true rfl) rfl ?_
  exact pb_vret (pc := 19) hQ d_Mod_fail_19 rfl () rfl [0] (by decide) rfl rfl (by decide) (by decide)

theorem d_Mod_fail_12 : decode prog_12_method_31_code 12 = .ok (.aload_n 0, 1) := by decide +kernel
theorem d_Mod_fail_13 : decode prog_12_method_31_code 13 = .ok (.getfield 197, 3) := by decide +kernel
set_option maxRecDepth 100000 in
set_option maxHeartbeats 4000000 in
theorem c_Mod_fail1 {l : Launch} (hl : l.stackTraces = false) (G : pb_G) (h : Nat) (m_rels : Nat) (m_openRels : Nat) (m_closeRels : Nat) (m_openRel : Nat) (m_closeRel : Nat) (m_comment : Nat) (m_ends : Nat) (m_order : Nat) (m_tape : Nat) (m_count : Nat) (m_nameSize : Nat) (m_names : Nat) (m_size : Nat) (m_data : Nat) (m_looked : Nat) (m_file : Nat) (m_directory : Nat) (m_out : Nat) (m_row : Nat) (m_made : Nat) (m_length : Nat) (m_pressed : Nat) (m_mark : Nat) (m_idSize : Nat) (m_ids : Nat) (m_goalSize : Nat) (m_goals : Nat) (m_value : Nat) (m_faults : Nat) (m_reached : Nat) (n : Int32) : Cn l G i_Mod_fail [.ref h, .int n] [(h, .inr (10, [.ref m_rels, .ref m_openRels, .ref m_closeRels, .ref m_openRel, .ref m_closeRel, .ref m_comment, .ref m_ends, .ref m_order, .int 0, .int 0, .ref m_tape, .ref m_count, .ref m_nameSize, .ref m_names, .ref m_size, .ref m_data, .int 0, .ref m_looked, .int 0, .ref m_file, .int 0, .ref m_directory, .int 0, .ref m_out, .int 0, .ref m_row, .int 0, .int 0, .int 1, .int 0, .ref m_made, .ref m_length, .int 0, .int 0, .int 0, .int 0, .int 0, .ref m_pressed, .int 0, .int 0, .int 0, .ref m_mark, .int 0, .ref m_idSize, .ref m_ids, .ref m_goalSize, .ref m_goals, .int 0, .ref m_value, .int 0, .ref m_faults, .ref m_reached]))] (S := Unit) (fun v u => v = none) (fun u => [(h, .inr (10, [.ref m_rels, .ref m_openRels, .ref m_closeRels, .ref m_openRel, .ref m_closeRel, .ref m_comment, .ref m_ends, .ref m_order, .int 0, .int 0, .ref m_tape, .ref m_count, .ref m_nameSize, .ref m_names, .ref m_size, .ref m_data, .int 0, .ref m_looked, .int 0, .ref m_file, .int 0, .ref m_directory, .int 0, .ref m_out, .int 0, .ref m_row, .int 0, .int 0, .int 1, .int 0, .ref m_made, .ref m_length, .int 0, .int 0, .int 0, .int 0, .int 0, .ref m_pressed, .int 0, .int 0, .int 0, .ref m_mark, .int 0, .ref m_idSize, .ref m_ids, .ref m_goalSize, .ref m_goals, .int 0, .ref m_value, .int 0, .ref m_faults, .ref m_reached]))]) := by
  refine Cn.of hl (by decide +kernel) rfl (Nat.le_of_ble_eq_true rfl) (fun M hQ => ?_)
  refine pb_eq (pc' := 0) (lo' := [(0, .ref h), (1, .int n)]) (rest' := []) (ws' := [(h, .inr (10, [.ref m_rels, .ref m_openRels, .ref m_closeRels, .ref m_openRel, .ref m_closeRel, .ref m_comment, .ref m_ends, .ref m_order, .int 0, .int 0, .ref m_tape, .ref m_count, .ref m_nameSize, .ref m_names, .ref m_size, .ref m_data, .int 0, .ref m_looked, .int 0, .ref m_file, .int 0, .ref m_directory, .int 0, .ref m_out, .int 0, .ref m_row, .int 0, .int 0, .int 1, .int 0, .ref m_made, .ref m_length, .int 0, .int 0, .int 0, .int 0, .int 0, .ref m_pressed, .int 0, .int 0, .int 0, .ref m_mark, .int 0, .ref m_idSize, .ref m_ids, .ref m_goalSize, .ref m_goals, .int 0, .ref m_value, .int 0, .ref m_faults, .ref m_reached]))]) ?_
  refine pb_aload_n (pc := 0) d_Mod_fail_0 0 rfl rfl ?_
  refine pb_aload_n (pc := 1) d_Mod_fail_1 0 rfl rfl ?_
  refine pb_get (pc := 2) d_Mod_fail_2 0 28 rfl rfl (by decide) in_Mod k_1174 rfl ?_
  refine pb_if_ne (pc := 5) (tgt := 12) d_Mod_fail_5 (by decide) (fun _ => ?_) (fun h9 => absurd h9 (by decide))
  refine pb_aload_n (pc := 12) d_Mod_fail_12 0 rfl rfl ?_
  refine pb_get (pc := 13) d_Mod_fail_13 0 28 rfl rfl (by decide) in_Mod k_1174 rfl ?_
  refine pb_put (pc := 16) (ty := .int) (ws' := [(h, .inr (10, [.ref m_rels, .ref m_openRels, .ref m_closeRels, .ref m_openRel, .ref m_closeRel, .ref m_comment, .ref m_ends, .ref m_order, .int 0, .int 0, .ref m_tape, .ref m_count, .ref m_nameSize, .ref m_names, .ref m_size, .ref m_data, .int 0, .ref m_looked, .int 0, .ref m_file, .int 0, .ref m_directory, .int 0, .ref m_out, .int 0, .ref m_row, .int 0, .int 0, .int 1, .int 0, .ref m_made, .ref m_length, .int 0, .int 0, .int 0, .int 0, .int 0, .ref m_pressed, .int 0, .int 0, .int 0, .ref m_mark, .int 0, .ref m_idSize, .ref m_ids, .ref m_goalSize, .ref m_goals, .int 0, .ref m_value, .int 0, .ref m_faults, .ref m_reached]))]) d_Mod_fail_16 0 28 t_Mod t_Mod_ok n_Mod rfl rfl (by decide) in_Mod k_1174 rfl (by decide +kernel) rfl rfl (Nat.le_of_ble_eq_true rfl) rfl ?_
  exact pb_vret (pc := 19) hQ d_Mod_fail_19 rfl () rfl [0] (by decide) rfl rfl (by decide) (by decide)

theorem d_Mod_number_0 : decode prog_12_method_32_code 0 = .ok (.aload_n 0, 1) := by decide +kernel
theorem d_Mod_number_1 : decode prog_12_method_32_code 1 = .ok (.getfield 200, 3) := by decide +kernel
theorem k_1172 : (Jvm.Cond.fieldLink "PackageBookModel" (200 : Nat) "PackageBookModel" "bitAt" "I") ∈ uW := uW_of 1172 (by decide +kernel) (by decide +kernel)
theorem d_Mod_number_4 : decode prog_12_method_32_code 4 = .ok (.iload_n 1, 1) := by decide +kernel
theorem d_Mod_number_5 : decode prog_12_method_32_code 5 = .ok (.iadd, 1) := by decide +kernel
theorem d_Mod_number_6 : decode prog_12_method_32_code 6 = .ok (.aload_n 0, 1) := by decide +kernel
theorem d_Mod_number_7 : decode prog_12_method_32_code 7 = .ok (.getfield 203, 3) := by decide +kernel
theorem k_1173 : (Jvm.Cond.fieldLink "PackageBookModel" (203 : Nat) "PackageBookModel" "bitEnd" "I") ∈ uW := uW_of 1173 (by decide +kernel) (by decide +kernel)
theorem d_Mod_number_10 : decode prog_12_method_32_code 10 = .ok (.if_icmp .le 8, 3) := by decide +kernel
theorem d_Mod_number_13 : decode prog_12_method_32_code 13 = .ok (.aload_n 0, 1) := by decide +kernel
theorem d_Mod_number_14 : decode prog_12_method_32_code 14 = .ok (.iconst 1, 1) := by decide +kernel
theorem d_Mod_number_15 : decode prog_12_method_32_code 15 = .ok (.invokevirtual 206, 3) := by decide +kernel
theorem k_1431 : (Jvm.Cond.methodLink "PackageBookModel" (206 : Nat) ({ cls := "PackageBookModel", name := "fail", desc := "(I)V" } : Jvm.MethodName)) ∈ uW := uW_of 1431 (by decide +kernel) (by decide +kernel)
theorem k_1434 : (Jvm.Cond.code ({ cls := "PackageBookModel", name := "fail", desc := "(I)V" } : Jvm.MethodName) prog_12_method_31_code (2 : Nat) (Option.none : Option Jvm.ClassFile.FieldType)) ∈ uW := uW_of 1434 (by decide +kernel) (by decide +kernel)
theorem k_1433 : (Jvm.Cond.instanceMethod ({ cls := "PackageBookModel", name := "fail", desc := "(I)V" } : Jvm.MethodName)) ∈ uW := uW_of 1433 (by decide +kernel) (by decide +kernel)
theorem k_70 : Cond.selects "PackageBookModel" ⟨"PackageBookModel", "fail", "(I)V"⟩ ⟨"PackageBookModel", "fail", "(I)V"⟩ ∈ uW := uW_of 70 (by decide +kernel) (by decide +kernel)
theorem d_Mod_number_18 : decode prog_12_method_32_code 18 = .ok (.iconst 0, 1) := by decide +kernel
theorem d_Mod_number_19 : decode prog_12_method_32_code 19 = .ok (.istore_n 2, 1) := by decide +kernel
theorem d_Mod_number_20 : decode prog_12_method_32_code 20 = .ok (.iconst 0, 1) := by decide +kernel
theorem d_Mod_number_21 : decode prog_12_method_32_code 21 = .ok (.istore_n 3, 1) := by decide +kernel
theorem d_Mod_number_22 : decode prog_12_method_32_code 22 = .ok (.iload_n 3, 1) := by decide +kernel
theorem d_Mod_number_23 : decode prog_12_method_32_code 23 = .ok (.iload_n 1, 1) := by decide +kernel
theorem d_Mod_number_24 : decode prog_12_method_32_code 24 = .ok (.if_icmp .ge 53, 3) := by decide +kernel
theorem d_Mod_number_27 : decode prog_12_method_32_code 27 = .ok (.aload_n 0, 1) := by decide +kernel
theorem d_Mod_number_28 : decode prog_12_method_32_code 28 = .ok (.getfield 197, 3) := by decide +kernel
theorem d_Mod_number_31 : decode prog_12_method_32_code 31 = .ok (.ifCond .ne 46, 3) := by decide +kernel
theorem d_Mod_number_77 : decode prog_12_method_32_code 77 = .ok (.iload_n 2, 1) := by decide +kernel
theorem d_Mod_number_78 : decode prog_12_method_32_code 78 = .ok (.ireturn, 1) := by decide +kernel
abbrev y_Mod_number : MethodName := ⟨"PackageBookModel", "number", "(I)I"⟩
abbrev i_Mod_number : pb_I := (y_Mod_number, prog_12_method_32_code, 4, (some Jvm.ClassFile.FieldType.int), [], { frames := 1, cells := 0, slots := 0, locals := 21 })
set_option maxRecDepth 100000 in
set_option maxHeartbeats 4000000 in
theorem c_Mod_number0 {l : Launch} (hl : l.stackTraces = false) (G : pb_G) (h : Nat) (m_rels : Nat) (m_openRels : Nat) (m_closeRels : Nat) (m_openRel : Nat) (m_closeRel : Nat) (m_comment : Nat) (m_ends : Nat) (m_order : Nat) (m_tape : Nat) (m_count : Nat) (m_nameSize : Nat) (m_names : Nat) (m_size : Nat) (m_data : Nat) (m_looked : Nat) (m_file : Nat) (m_directory : Nat) (m_out : Nat) (m_row : Nat) (m_made : Nat) (m_length : Nat) (m_pressed : Nat) (m_mark : Nat) (m_idSize : Nat) (m_ids : Nat) (m_goalSize : Nat) (m_goals : Nat) (m_value : Nat) (m_faults : Nat) (m_reached : Nat) : Cn l G i_Mod_number [.ref h, .int 1] [(h, .inr (10, [.ref m_rels, .ref m_openRels, .ref m_closeRels, .ref m_openRel, .ref m_closeRel, .ref m_comment, .ref m_ends, .ref m_order, .int 0, .int 0, .ref m_tape, .ref m_count, .ref m_nameSize, .ref m_names, .ref m_size, .ref m_data, .int 0, .ref m_looked, .int 0, .ref m_file, .int 0, .ref m_directory, .int 0, .ref m_out, .int 0, .ref m_row, .int 0, .int 0, .int 0, .int 0, .ref m_made, .ref m_length, .int 0, .int 0, .int 0, .int 0, .int 0, .ref m_pressed, .int 0, .int 0, .int 0, .ref m_mark, .int 0, .ref m_idSize, .ref m_ids, .ref m_goalSize, .ref m_goals, .int 0, .ref m_value, .int 0, .ref m_faults, .ref m_reached]))] (S := Unit) (fun v u => v = some (.int 0)) (fun u => [(h, .inr (10, [.ref m_rels, .ref m_openRels, .ref m_closeRels, .ref m_openRel, .ref m_closeRel, .ref m_comment, .ref m_ends, .ref m_order, .int 0, .int 0, .ref m_tape, .ref m_count, .ref m_nameSize, .ref m_names, .ref m_size, .ref m_data, .int 0, .ref m_looked, .int 0, .ref m_file, .int 0, .ref m_directory, .int 0, .ref m_out, .int 0, .ref m_row, .int 0, .int 0, .int 1, .int 0, .ref m_made, .ref m_length, .int 0, .int 0, .int 0, .int 0, .int 0, .ref m_pressed, .int 0, .int 0, .int 0, .ref m_mark, .int 0, .ref m_idSize, .ref m_ids, .ref m_goalSize, .ref m_goals, .int 0, .ref m_value, .int 0, .ref m_faults, .ref m_reached]))]) := by
  refine Cn.of hl (by decide +kernel) rfl (Nat.le_of_ble_eq_true rfl) (fun M hQ => ?_)
  refine pb_eq (pc' := 0) (lo' := [(0, .ref h), (1, .int 1)]) (rest' := []) (ws' := [(h, .inr (10, [.ref m_rels, .ref m_openRels, .ref m_closeRels, .ref m_openRel, .ref m_closeRel, .ref m_comment, .ref m_ends, .ref m_order, .int 0, .int 0, .ref m_tape, .ref m_count, .ref m_nameSize, .ref m_names, .ref m_size, .ref m_data, .int 0, .ref m_looked, .int 0, .ref m_file, .int 0, .ref m_directory, .int 0, .ref m_out, .int 0, .ref m_row, .int 0, .int 0, .int 0, .int 0, .ref m_made, .ref m_length, .int 0, .int 0, .int 0, .int 0, .int 0, .ref m_pressed, .int 0, .int 0, .int 0, .ref m_mark, .int 0, .ref m_idSize, .ref m_ids, .ref m_goalSize, .ref m_goals, .int 0, .ref m_value, .int 0, .ref m_faults, .ref m_reached]))]) ?_
  refine pb_aload_n (pc := 0) d_Mod_number_0 0 rfl rfl ?_
  refine pb_get (pc := 1) d_Mod_number_1 0 26 rfl rfl (by decide) in_Mod k_1172 rfl ?_
  refine pb_iload_n (pc := 4) d_Mod_number_4 1 rfl rfl ?_
  refine pb_iadd (pc := 5) d_Mod_number_5 ?_
  refine pb_asi (y := 1) (by decide) ?_
  refine pb_aload_n (pc := 6) d_Mod_number_6 0 rfl rfl ?_
  refine pb_get (pc := 7) d_Mod_number_7 0 27 rfl rfl (by decide) in_Mod k_1173 rfl ?_
  refine pb_icmp_le (pc := 10) (tgt := 18) d_Mod_number_10 (by decide) (fun h9 => absurd h9 (by decide)) (fun _ => ?_)
  refine pb_aload_n (pc := 13) d_Mod_number_13 0 rfl rfl ?_
  refine pb_iconst (pc := 14) (v := 1) d_Mod_number_14 (by decide) ?_
  refine pb_callV (pc := 15) (qb := 0) (ci := 10) (nA := 1) (rest := []) (wr := []) d_Mod_number_15 (c_Mod_fail0 hl G h m_rels m_openRels m_closeRels m_openRel m_closeRel m_comment m_ends m_order m_tape m_count m_nameSize m_names m_size m_data m_looked m_file m_directory m_out m_row m_made m_length m_pressed m_mark m_idSize m_ids m_goalSize m_goals m_value m_faults m_reached) rfl rfl [0] [] (by decide) rfl rfl rfl (by decide) (by decide) k_1434 rfl k_128 k_1431 k_1433 k_70 (by decide +kernel) (by decide) rfl rfl (Nat.le_of_ble_eq_true rfl) (by decide) (fun v9 u3 h2 => ?_)
  have eh2 := h2
  have eh2 : v9 = none := eh2
  subst eh2
  refine pb_eq (pc' := 18) (lo' := [(0, .ref h), (1, .int 1)]) (rest' := []) (ws' := [(h, .inr (10, [.ref m_rels, .ref m_openRels, .ref m_closeRels, .ref m_openRel, .ref m_closeRel, .ref m_comment, .ref m_ends, .ref m_order, .int 0, .int 0, .ref m_tape, .ref m_count, .ref m_nameSize, .ref m_names, .ref m_size, .ref m_data, .int 0, .ref m_looked, .int 0, .ref m_file, .int 0, .ref m_directory, .int 0, .ref m_out, .int 0, .ref m_row, .int 0, .int 0, .int 1, .int 0, .ref m_made, .ref m_length, .int 0, .int 0, .int 0, .int 0, .int 0, .ref m_pressed, .int 0, .int 0, .int 0, .ref m_mark, .int 0, .ref m_idSize, .ref m_ids, .ref m_goalSize, .ref m_goals, .int 0, .ref m_value, .int 0, .ref m_faults, .ref m_reached]))]) ?_
  refine pb_iconst (pc := 18) (v := 0) d_Mod_number_18 (by decide) ?_
  refine pb_istore_n (pc := 19) (lo' := [(2, .int 0), (0, .ref h), (1, .int 1)]) d_Mod_number_19 rfl (by decide) rfl ?_
  refine pb_iconst (pc := 20) (v := 0) d_Mod_number_20 (by decide) ?_
  refine pb_istore_n (pc := 21) (lo' := [(3, .int 0), (2, .int 0), (0, .ref h), (1, .int 1)]) d_Mod_number_21 rfl (by decide) rfl ?_
  refine pb_iload_n (pc := 22) d_Mod_number_22 0 rfl rfl ?_
  refine pb_iload_n (pc := 23) d_Mod_number_23 3 rfl rfl ?_
  refine pb_icmp_ge (pc := 24) (tgt := 77) d_Mod_number_24 (by decide) (fun h9 => absurd h9 (by decide)) (fun _ => ?_)
  refine pb_aload_n (pc := 27) d_Mod_number_27 2 rfl rfl ?_
  refine pb_get (pc := 28) d_Mod_number_28 0 28 rfl rfl (by decide) in_Mod k_1174 rfl ?_
  refine pb_if_ne (pc := 31) (tgt := 77) d_Mod_number_31 (by decide) (fun _ => ?_) (fun h9 => absurd h9 (by decide))
  refine pb_iload_n (pc := 77) d_Mod_number_77 1 rfl rfl ?_
  exact pb_iret (pc := 78) hQ d_Mod_number_78 rfl rfl () rfl [0] (by decide) rfl rfl (by decide) (by decide)

set_option maxRecDepth 100000 in
set_option maxHeartbeats 4000000 in
theorem c_Mod_number1 {l : Launch} (hl : l.stackTraces = false) (G : pb_G) (h : Nat) (m_rels : Nat) (m_openRels : Nat) (m_closeRels : Nat) (m_openRel : Nat) (m_closeRel : Nat) (m_comment : Nat) (m_ends : Nat) (m_order : Nat) (m_tape : Nat) (m_count : Nat) (m_nameSize : Nat) (m_names : Nat) (m_size : Nat) (m_data : Nat) (m_looked : Nat) (m_file : Nat) (m_directory : Nat) (m_out : Nat) (m_row : Nat) (m_made : Nat) (m_length : Nat) (m_pressed : Nat) (m_mark : Nat) (m_idSize : Nat) (m_ids : Nat) (m_goalSize : Nat) (m_goals : Nat) (m_value : Nat) (m_faults : Nat) (m_reached : Nat) : Cn l G i_Mod_number [.ref h, .int 2] [(h, .inr (10, [.ref m_rels, .ref m_openRels, .ref m_closeRels, .ref m_openRel, .ref m_closeRel, .ref m_comment, .ref m_ends, .ref m_order, .int 0, .int 0, .ref m_tape, .ref m_count, .ref m_nameSize, .ref m_names, .ref m_size, .ref m_data, .int 0, .ref m_looked, .int 0, .ref m_file, .int 0, .ref m_directory, .int 0, .ref m_out, .int 0, .ref m_row, .int 0, .int 0, .int 1, .int 0, .ref m_made, .ref m_length, .int 0, .int 0, .int 0, .int 0, .int 0, .ref m_pressed, .int 0, .int 0, .int 0, .ref m_mark, .int 0, .ref m_idSize, .ref m_ids, .ref m_goalSize, .ref m_goals, .int 0, .ref m_value, .int 0, .ref m_faults, .ref m_reached]))] (S := Unit) (fun v u => v = some (.int 0)) (fun u => [(h, .inr (10, [.ref m_rels, .ref m_openRels, .ref m_closeRels, .ref m_openRel, .ref m_closeRel, .ref m_comment, .ref m_ends, .ref m_order, .int 0, .int 0, .ref m_tape, .ref m_count, .ref m_nameSize, .ref m_names, .ref m_size, .ref m_data, .int 0, .ref m_looked, .int 0, .ref m_file, .int 0, .ref m_directory, .int 0, .ref m_out, .int 0, .ref m_row, .int 0, .int 0, .int 1, .int 0, .ref m_made, .ref m_length, .int 0, .int 0, .int 0, .int 0, .int 0, .ref m_pressed, .int 0, .int 0, .int 0, .ref m_mark, .int 0, .ref m_idSize, .ref m_ids, .ref m_goalSize, .ref m_goals, .int 0, .ref m_value, .int 0, .ref m_faults, .ref m_reached]))]) := by
  refine Cn.of hl (by decide +kernel) rfl (Nat.le_of_ble_eq_true rfl) (fun M hQ => ?_)
  refine pb_eq (pc' := 0) (lo' := [(0, .ref h), (1, .int 2)]) (rest' := []) (ws' := [(h, .inr (10, [.ref m_rels, .ref m_openRels, .ref m_closeRels, .ref m_openRel, .ref m_closeRel, .ref m_comment, .ref m_ends, .ref m_order, .int 0, .int 0, .ref m_tape, .ref m_count, .ref m_nameSize, .ref m_names, .ref m_size, .ref m_data, .int 0, .ref m_looked, .int 0, .ref m_file, .int 0, .ref m_directory, .int 0, .ref m_out, .int 0, .ref m_row, .int 0, .int 0, .int 1, .int 0, .ref m_made, .ref m_length, .int 0, .int 0, .int 0, .int 0, .int 0, .ref m_pressed, .int 0, .int 0, .int 0, .ref m_mark, .int 0, .ref m_idSize, .ref m_ids, .ref m_goalSize, .ref m_goals, .int 0, .ref m_value, .int 0, .ref m_faults, .ref m_reached]))]) ?_
  refine pb_aload_n (pc := 0) d_Mod_number_0 0 rfl rfl ?_
  refine pb_get (pc := 1) d_Mod_number_1 0 26 rfl rfl (by decide) in_Mod k_1172 rfl ?_
  refine pb_iload_n (pc := 4) d_Mod_number_4 1 rfl rfl ?_
  refine pb_iadd (pc := 5) d_Mod_number_5 ?_
  refine pb_asi (y := 2) (by decide) ?_
  refine pb_aload_n (pc := 6) d_Mod_number_6 0 rfl rfl ?_
  refine pb_get (pc := 7) d_Mod_number_7 0 27 rfl rfl (by decide) in_Mod k_1173 rfl ?_
  refine pb_icmp_le (pc := 10) (tgt := 18) d_Mod_number_10 (by decide) (fun h9 => absurd h9 (by decide)) (fun _ => ?_)
  refine pb_aload_n (pc := 13) d_Mod_number_13 0 rfl rfl ?_
  refine pb_iconst (pc := 14) (v := 1) d_Mod_number_14 (by decide) ?_
  refine pb_callV (pc := 15) (qb := 0) (ci := 10) (nA := 1) (rest := []) (wr := []) d_Mod_number_15 (c_Mod_fail1 hl G h m_rels m_openRels m_closeRels m_openRel m_closeRel m_comment m_ends m_order m_tape m_count m_nameSize m_names m_size m_data m_looked m_file m_directory m_out m_row m_made m_length m_pressed m_mark m_idSize m_ids m_goalSize m_goals m_value m_faults m_reached 1) rfl rfl [0] [] (by decide) rfl rfl rfl (by decide) (by decide) k_1434 rfl k_128 k_1431 k_1433 k_70 (by decide +kernel) (by decide) rfl rfl (Nat.le_of_ble_eq_true rfl) (by decide) (fun v9 u3 h2 => ?_)
  have eh2 := h2
  have eh2 : v9 = none := eh2
  subst eh2
  refine pb_eq (pc' := 18) (lo' := [(0, .ref h), (1, .int 2)]) (rest' := []) (ws' := [(h, .inr (10, [.ref m_rels, .ref m_openRels, .ref m_closeRels, .ref m_openRel, .ref m_closeRel, .ref m_comment, .ref m_ends, .ref m_order, .int 0, .int 0, .ref m_tape, .ref m_count, .ref m_nameSize, .ref m_names, .ref m_size, .ref m_data, .int 0, .ref m_looked, .int 0, .ref m_file, .int 0, .ref m_directory, .int 0, .ref m_out, .int 0, .ref m_row, .int 0, .int 0, .int 1, .int 0, .ref m_made, .ref m_length, .int 0, .int 0, .int 0, .int 0, .int 0, .ref m_pressed, .int 0, .int 0, .int 0, .ref m_mark, .int 0, .ref m_idSize, .ref m_ids, .ref m_goalSize, .ref m_goals, .int 0, .ref m_value, .int 0, .ref m_faults, .ref m_reached]))]) ?_
  refine pb_iconst (pc := 18) (v := 0) d_Mod_number_18 (by decide) ?_
  refine pb_istore_n (pc := 19) (lo' := [(2, .int 0), (0, .ref h), (1, .int 2)]) d_Mod_number_19 rfl (by decide) rfl ?_
  refine pb_iconst (pc := 20) (v := 0) d_Mod_number_20 (by decide) ?_
  refine pb_istore_n (pc := 21) (lo' := [(3, .int 0), (2, .int 0), (0, .ref h), (1, .int 2)]) d_Mod_number_21 rfl (by decide) rfl ?_
  refine pb_iload_n (pc := 22) d_Mod_number_22 0 rfl rfl ?_
  refine pb_iload_n (pc := 23) d_Mod_number_23 3 rfl rfl ?_
  refine pb_icmp_ge (pc := 24) (tgt := 77) d_Mod_number_24 (by decide) (fun h9 => absurd h9 (by decide)) (fun _ => ?_)
  refine pb_aload_n (pc := 27) d_Mod_number_27 2 rfl rfl ?_
  refine pb_get (pc := 28) d_Mod_number_28 0 28 rfl rfl (by decide) in_Mod k_1174 rfl ?_
  refine pb_if_ne (pc := 31) (tgt := 77) d_Mod_number_31 (by decide) (fun _ => ?_) (fun h9 => absurd h9 (by decide))
  refine pb_iload_n (pc := 77) d_Mod_number_77 1 rfl rfl ?_
  exact pb_iret (pc := 78) hQ d_Mod_number_78 rfl rfl () rfl [0] (by decide) rfl rfl (by decide) (by decide)

theorem d_Mod_expandRow_0 : decode prog_12_method_44_code 0 = .ok (.aload_n 0, 1) := by decide +kernel
theorem d_Mod_expandRow_1 : decode prog_12_method_44_code 1 = .ok (.bipush 8, 2) := by decide +kernel
theorem d_Mod_expandRow_3 : decode prog_12_method_44_code 3 = .ok (.iload_n 1, 1) := by decide +kernel
theorem d_Mod_expandRow_4 : decode prog_12_method_44_code 4 = .ok (.imul, 1) := by decide +kernel
theorem d_Mod_expandRow_5 : decode prog_12_method_44_code 5 = .ok (.putfield 200, 3) := by decide +kernel
theorem d_Mod_expandRow_8 : decode prog_12_method_44_code 8 = .ok (.aload_n 0, 1) := by decide +kernel
theorem d_Mod_expandRow_9 : decode prog_12_method_44_code 9 = .ok (.bipush 8, 2) := by decide +kernel
theorem d_Mod_expandRow_11 : decode prog_12_method_44_code 11 = .ok (.iload_n 2, 1) := by decide +kernel
theorem d_Mod_expandRow_12 : decode prog_12_method_44_code 12 = .ok (.imul, 1) := by decide +kernel
theorem d_Mod_expandRow_13 : decode prog_12_method_44_code 13 = .ok (.putfield 203, 3) := by decide +kernel
theorem d_Mod_expandRow_16 : decode prog_12_method_44_code 16 = .ok (.aload_n 0, 1) := by decide +kernel
theorem d_Mod_expandRow_17 : decode prog_12_method_44_code 17 = .ok (.iconst 0, 1) := by decide +kernel
theorem d_Mod_expandRow_18 : decode prog_12_method_44_code 18 = .ok (.putfield 197, 3) := by decide +kernel
theorem d_Mod_expandRow_21 : decode prog_12_method_44_code 21 = .ok (.aload_n 0, 1) := by decide +kernel
theorem d_Mod_expandRow_22 : decode prog_12_method_44_code 22 = .ok (.iconst 0, 1) := by decide +kernel
theorem d_Mod_expandRow_23 : decode prog_12_method_44_code 23 = .ok (.putfield 220, 3) := by decide +kernel
theorem k_1175 : (Jvm.Cond.fieldLink "PackageBookModel" (220 : Nat) "PackageBookModel" "madeSize" "I") ∈ uW := uW_of 1175 (by decide +kernel) (by decide +kernel)
theorem d_Mod_expandRow_26 : decode prog_12_method_44_code 26 = .ok (.iconst 0, 1) := by decide +kernel
theorem d_Mod_expandRow_27 : decode prog_12_method_44_code 27 = .ok (.istore_n 3, 1) := by decide +kernel
theorem d_Mod_expandRow_28 : decode prog_12_method_44_code 28 = .ok (.iload_n 3, 1) := by decide +kernel
theorem d_Mod_expandRow_29 : decode prog_12_method_44_code 29 = .ok (.ifCond .ne 100, 3) := by decide +kernel
theorem d_Mod_expandRow_32 : decode prog_12_method_44_code 32 = .ok (.aload_n 0, 1) := by decide +kernel
theorem d_Mod_expandRow_33 : decode prog_12_method_44_code 33 = .ok (.getfield 197, 3) := by decide +kernel
theorem d_Mod_expandRow_36 : decode prog_12_method_44_code 36 = .ok (.ifCond .ne 93, 3) := by decide +kernel
theorem d_Mod_expandRow_39 : decode prog_12_method_44_code 39 = .ok (.aload_n 0, 1) := by decide +kernel
theorem d_Mod_expandRow_40 : decode prog_12_method_44_code 40 = .ok (.iconst 1, 1) := by decide +kernel
theorem d_Mod_expandRow_41 : decode prog_12_method_44_code 41 = .ok (.invokevirtual 213, 3) := by decide +kernel
theorem k_1427 : (Jvm.Cond.methodLink "PackageBookModel" (213 : Nat) ({ cls := "PackageBookModel", name := "number", desc := "(I)I" } : Jvm.MethodName)) ∈ uW := uW_of 1427 (by decide +kernel) (by decide +kernel)
theorem k_1430 : (Jvm.Cond.code ({ cls := "PackageBookModel", name := "number", desc := "(I)I" } : Jvm.MethodName) prog_12_method_32_code (4 : Nat) (Option.some Jvm.ClassFile.FieldType.int)) ∈ uW := uW_of 1430 (by decide +kernel) (by decide +kernel)
theorem k_1429 : (Jvm.Cond.instanceMethod ({ cls := "PackageBookModel", name := "number", desc := "(I)I" } : Jvm.MethodName)) ∈ uW := uW_of 1429 (by decide +kernel) (by decide +kernel)
theorem k_69 : Cond.selects "PackageBookModel" ⟨"PackageBookModel", "number", "(I)I"⟩ ⟨"PackageBookModel", "number", "(I)I"⟩ ∈ uW := uW_of 69 (by decide +kernel) (by decide +kernel)
theorem d_Mod_expandRow_44 : decode prog_12_method_44_code 44 = .ok (.iconst 1, 1) := by decide +kernel
theorem d_Mod_expandRow_45 : decode prog_12_method_44_code 45 = .ok (.if_icmp .ne 7, 3) := by decide +kernel
theorem d_Mod_expandRow_52 : decode prog_12_method_44_code 52 = .ok (.iconst 0, 1) := by decide +kernel
theorem d_Mod_expandRow_53 : decode prog_12_method_44_code 53 = .ok (.istore_n 3, 1) := by decide +kernel
theorem d_Mod_expandRow_54 : decode prog_12_method_44_code 54 = .ok (.aload_n 0, 1) := by decide +kernel
theorem d_Mod_expandRow_55 : decode prog_12_method_44_code 55 = .ok (.iconst 2, 1) := by decide +kernel
theorem d_Mod_expandRow_56 : decode prog_12_method_44_code 56 = .ok (.invokevirtual 213, 3) := by decide +kernel
theorem d_Mod_expandRow_59 : decode prog_12_method_44_code 59 = .ok (.istore 4, 2) := by decide +kernel
theorem d_Mod_expandRow_61 : decode prog_12_method_44_code 61 = .ok (.aload_n 0, 1) := by decide +kernel
theorem d_Mod_expandRow_62 : decode prog_12_method_44_code 62 = .ok (.getfield 197, 3) := by decide +kernel
theorem d_Mod_expandRow_65 : decode prog_12_method_44_code 65 = .ok (.ifCond .ne 14, 3) := by decide +kernel
theorem d_Mod_expandRow_79 : decode prog_12_method_44_code 79 = .ok (.aload_n 0, 1) := by decide +kernel
theorem d_Mod_expandRow_80 : decode prog_12_method_44_code 80 = .ok (.getfield 197, 3) := by decide +kernel
theorem d_Mod_expandRow_83 : decode prog_12_method_44_code 83 = .ok (.ifCond .ne 15, 3) := by decide +kernel
theorem d_Mod_expandRow_98 : decode prog_12_method_44_code 98 = .ok (.aload_n 0, 1) := by decide +kernel
theorem d_Mod_expandRow_99 : decode prog_12_method_44_code 99 = .ok (.getfield 197, 3) := by decide +kernel
theorem d_Mod_expandRow_102 : decode prog_12_method_44_code 102 = .ok (.ifCond .ne 24, 3) := by decide +kernel
theorem d_Mod_expandRow_126 : decode prog_12_method_44_code 126 = .ok (.goto (-98), 3) := by decide +kernel
theorem d_Mod_expandRow_129 : decode prog_12_method_44_code 129 = .ok (.aload_n 0, 1) := by decide +kernel
theorem d_Mod_expandRow_130 : decode prog_12_method_44_code 130 = .ok (.getfield 197, 3) := by decide +kernel
theorem d_Mod_expandRow_133 : decode prog_12_method_44_code 133 = .ok (.ifCond .ne 23, 3) := by decide +kernel
theorem d_Mod_expandRow_156 : decode prog_12_method_44_code 156 = .ok (.aload_n 0, 1) := by decide +kernel
theorem d_Mod_expandRow_157 : decode prog_12_method_44_code 157 = .ok (.getfield 197, 3) := by decide +kernel
theorem d_Mod_expandRow_160 : decode prog_12_method_44_code 160 = .ok (.ireturn, 1) := by decide +kernel
abbrev y_Mod_expandRow : MethodName := ⟨"PackageBookModel", "expandRow", "(II)I"⟩
abbrev i_Mod_expandRow : pb_I := (y_Mod_expandRow, prog_12_method_44_code, 5, (some Jvm.ClassFile.FieldType.int), [], { frames := 2, cells := 0, slots := 0, locals := 44 })
set_option maxRecDepth 100000 in
set_option maxHeartbeats 4000000 in
theorem c_Mod_expandRow0 {l : Launch} (hl : l.stackTraces = false) (G : pb_G) (h : Nat) (m_rels : Nat) (m_openRels : Nat) (m_closeRels : Nat) (m_openRel : Nat) (m_closeRel : Nat) (m_comment : Nat) (m_ends : Nat) (m_order : Nat) (m_tape : Nat) (m_count : Nat) (m_nameSize : Nat) (m_names : Nat) (m_size : Nat) (m_data : Nat) (m_looked : Nat) (m_file : Nat) (m_directory : Nat) (m_out : Nat) (m_row : Nat) (m_made : Nat) (m_length : Nat) (m_pressed : Nat) (m_mark : Nat) (m_idSize : Nat) (m_ids : Nat) (m_goalSize : Nat) (m_goals : Nat) (m_value : Nat) (m_faults : Nat) (m_reached : Nat) : Cn l G i_Mod_expandRow [.ref h, .int 0, .int 0] [(h, .inr (10, [.ref m_rels, .ref m_openRels, .ref m_closeRels, .ref m_openRel, .ref m_closeRel, .ref m_comment, .ref m_ends, .ref m_order, .int 0, .int 0, .ref m_tape, .ref m_count, .ref m_nameSize, .ref m_names, .ref m_size, .ref m_data, .int 0, .ref m_looked, .int 0, .ref m_file, .int 0, .ref m_directory, .int 0, .ref m_out, .int 0, .ref m_row, .int 0, .int 0, .int 0, .int 0, .ref m_made, .ref m_length, .int 0, .int 0, .int 0, .int 0, .int 0, .ref m_pressed, .int 0, .int 0, .int 0, .ref m_mark, .int 0, .ref m_idSize, .ref m_ids, .ref m_goalSize, .ref m_goals, .int 0, .ref m_value, .int 0, .ref m_faults, .ref m_reached]))] (S := Unit) (fun v u => v = some (.int 1)) (fun u => []) := by
  refine Cn.of hl (by decide +kernel) rfl (Nat.le_of_ble_eq_true rfl) (fun M hQ => ?_)
  refine pb_eq (pc' := 0) (lo' := [(0, .ref h), (1, .int 0), (2, .int 0)]) (rest' := []) (ws' := [(h, .inr (10, [.ref m_rels, .ref m_openRels, .ref m_closeRels, .ref m_openRel, .ref m_closeRel, .ref m_comment, .ref m_ends, .ref m_order, .int 0, .int 0, .ref m_tape, .ref m_count, .ref m_nameSize, .ref m_names, .ref m_size, .ref m_data, .int 0, .ref m_looked, .int 0, .ref m_file, .int 0, .ref m_directory, .int 0, .ref m_out, .int 0, .ref m_row, .int 0, .int 0, .int 0, .int 0, .ref m_made, .ref m_length, .int 0, .int 0, .int 0, .int 0, .int 0, .ref m_pressed, .int 0, .int 0, .int 0, .ref m_mark, .int 0, .ref m_idSize, .ref m_ids, .ref m_goalSize, .ref m_goals, .int 0, .ref m_value, .int 0, .ref m_faults, .ref m_reached]))]) ?_
  refine pb_aload_n (pc := 0) d_Mod_expandRow_0 0 rfl rfl ?_
  refine pb_bipush (pc := 1) (v := 8) d_Mod_expandRow_1 (by decide) ?_
  refine pb_iload_n (pc := 3) d_Mod_expandRow_3 1 rfl rfl ?_
  refine pb_imul (pc := 4) d_Mod_expandRow_4 ?_
  refine pb_asi (y := 0) (by decide) ?_
  refine pb_put (pc := 5) (ty := .int) (ws' := [(h, .inr (10, [.ref m_rels, .ref m_openRels, .ref m_closeRels, .ref m_openRel, .ref m_closeRel, .ref m_comment, .ref m_ends, .ref m_order, .int 0, .int 0, .ref m_tape, .ref m_count, .ref m_nameSize, .ref m_names, .ref m_size, .ref m_data, .int 0, .ref m_looked, .int 0, .ref m_file, .int 0, .ref m_directory, .int 0, .ref m_out, .int 0, .ref m_row, .int 0, .int 0, .int 0, .int 0, .ref m_made, .ref m_length, .int 0, .int 0, .int 0, .int 0, .int 0, .ref m_pressed, .int 0, .int 0, .int 0, .ref m_mark, .int 0, .ref m_idSize, .ref m_ids, .ref m_goalSize, .ref m_goals, .int 0, .ref m_value, .int 0, .ref m_faults, .ref m_reached]))]) d_Mod_expandRow_5 0 26 t_Mod t_Mod_ok n_Mod rfl rfl (by decide) in_Mod k_1172 rfl (by decide +kernel) rfl rfl (Nat.le_of_ble_eq_true rfl) rfl ?_
  refine pb_aload_n (pc := 8) d_Mod_expandRow_8 0 rfl rfl ?_
  refine pb_bipush (pc := 9) (v := 8) d_Mod_expandRow_9 (by decide) ?_
  refine pb_iload_n (pc := 11) d_Mod_expandRow_11 2 rfl rfl ?_
  refine pb_imul (pc := 12) d_Mod_expandRow_12 ?_
  refine pb_asi (y := 0) (by decide) ?_
  refine pb_put (pc := 13) (ty := .int) (ws' := [(h, .inr (10, [.ref m_rels, .ref m_openRels, .ref m_closeRels, .ref m_openRel, .ref m_closeRel, .ref m_comment, .ref m_ends, .ref m_order, .int 0, .int 0, .ref m_tape, .ref m_count, .ref m_nameSize, .ref m_names, .ref m_size, .ref m_data, .int 0, .ref m_looked, .int 0, .ref m_file, .int 0, .ref m_directory, .int 0, .ref m_out, .int 0, .ref m_row, .int 0, .int 0, .int 0, .int 0, .ref m_made, .ref m_length, .int 0, .int 0, .int 0, .int 0, .int 0, .ref m_pressed, .int 0, .int 0, .int 0, .ref m_mark, .int 0, .ref m_idSize, .ref m_ids, .ref m_goalSize, .ref m_goals, .int 0, .ref m_value, .int 0, .ref m_faults, .ref m_reached]))]) d_Mod_expandRow_13 0 27 t_Mod t_Mod_ok n_Mod rfl rfl (by decide) in_Mod k_1173 rfl (by decide +kernel) rfl rfl (Nat.le_of_ble_eq_true rfl) rfl ?_
  refine pb_aload_n (pc := 16) d_Mod_expandRow_16 0 rfl rfl ?_
  refine pb_iconst (pc := 17) (v := 0) d_Mod_expandRow_17 (by decide) ?_
  refine pb_put (pc := 18) (ty := .int) (ws' := [(h, .inr (10, [.ref m_rels, .ref m_openRels, .ref m_closeRels, .ref m_openRel, .ref m_closeRel, .ref m_comment, .ref m_ends, .ref m_order, .int 0, .int 0, .ref m_tape, .ref m_count, .ref m_nameSize, .ref m_names, .ref m_size, .ref m_data, .int 0, .ref m_looked, .int 0, .ref m_file, .int 0, .ref m_directory, .int 0, .ref m_out, .int 0, .ref m_row, .int 0, .int 0, .int 0, .int 0, .ref m_made, .ref m_length, .int 0, .int 0, .int 0, .int 0, .int 0, .ref m_pressed, .int 0, .int 0, .int 0, .ref m_mark, .int 0, .ref m_idSize, .ref m_ids, .ref m_goalSize, .ref m_goals, .int 0, .ref m_value, .int 0, .ref m_faults, .ref m_reached]))]) d_Mod_expandRow_18 0 28 t_Mod t_Mod_ok n_Mod rfl rfl (by decide) in_Mod k_1174 rfl (by decide +kernel) rfl rfl (Nat.le_of_ble_eq_true rfl) rfl ?_
  refine pb_aload_n (pc := 21) d_Mod_expandRow_21 0 rfl rfl ?_
  refine pb_iconst (pc := 22) (v := 0) d_Mod_expandRow_22 (by decide) ?_
  refine pb_put (pc := 23) (ty := .int) (ws' := [(h, .inr (10, [.ref m_rels, .ref m_openRels, .ref m_closeRels, .ref m_openRel, .ref m_closeRel, .ref m_comment, .ref m_ends, .ref m_order, .int 0, .int 0, .ref m_tape, .ref m_count, .ref m_nameSize, .ref m_names, .ref m_size, .ref m_data, .int 0, .ref m_looked, .int 0, .ref m_file, .int 0, .ref m_directory, .int 0, .ref m_out, .int 0, .ref m_row, .int 0, .int 0, .int 0, .int 0, .ref m_made, .ref m_length, .int 0, .int 0, .int 0, .int 0, .int 0, .ref m_pressed, .int 0, .int 0, .int 0, .ref m_mark, .int 0, .ref m_idSize, .ref m_ids, .ref m_goalSize, .ref m_goals, .int 0, .ref m_value, .int 0, .ref m_faults, .ref m_reached]))]) d_Mod_expandRow_23 0 29 t_Mod t_Mod_ok n_Mod rfl rfl (by decide) in_Mod k_1175 rfl (by decide +kernel) rfl rfl (Nat.le_of_ble_eq_true rfl) rfl ?_
  refine pb_iconst (pc := 26) (v := 0) d_Mod_expandRow_26 (by decide) ?_
  refine pb_istore_n (pc := 27) (lo' := [(3, .int 0), (0, .ref h), (1, .int 0), (2, .int 0)]) d_Mod_expandRow_27 rfl (by decide) rfl ?_
  refine pb_iload_n (pc := 28) d_Mod_expandRow_28 0 rfl rfl ?_
  refine pb_if_ne (pc := 29) (tgt := 129) d_Mod_expandRow_29 (by decide) (fun h9 => absurd h9 (by decide)) (fun _ => ?_)
  refine pb_aload_n (pc := 32) d_Mod_expandRow_32 1 rfl rfl ?_
  refine pb_get (pc := 33) d_Mod_expandRow_33 0 28 rfl rfl (by decide) in_Mod k_1174 rfl ?_
  refine pb_if_ne (pc := 36) (tgt := 129) d_Mod_expandRow_36 (by decide) (fun h9 => absurd h9 (by decide)) (fun _ => ?_)
  refine pb_aload_n (pc := 39) d_Mod_expandRow_39 1 rfl rfl ?_
  refine pb_iconst (pc := 40) (v := 1) d_Mod_expandRow_40 (by decide) ?_
  refine pb_callV (pc := 41) (qb := 0) (ci := 10) (nA := 1) (rest := []) (wr := []) d_Mod_expandRow_41 (c_Mod_number0 hl G h m_rels m_openRels m_closeRels m_openRel m_closeRel m_comment m_ends m_order m_tape m_count m_nameSize m_names m_size m_data m_looked m_file m_directory m_out m_row m_made m_length m_pressed m_mark m_idSize m_ids m_goalSize m_goals m_value m_faults m_reached) rfl rfl [0] [] (by decide) rfl rfl rfl (by decide) (by decide) k_1430 rfl k_128 k_1427 k_1429 k_69 (by decide +kernel) (by decide) rfl rfl (Nat.le_of_ble_eq_true rfl) (by decide) (fun v9 u4 h3 => ?_)
  have eh3 := h3
  have eh3 : v9 = some (.int 0) := eh3
  subst eh3
  refine pb_eq (pc' := 44) (lo' := [(3, .int 0), (0, .ref h), (1, .int 0), (2, .int 0)]) (rest' := [.int 0]) (ws' := [(h, .inr (10, [.ref m_rels, .ref m_openRels, .ref m_closeRels, .ref m_openRel, .ref m_closeRel, .ref m_comment, .ref m_ends, .ref m_order, .int 0, .int 0, .ref m_tape, .ref m_count, .ref m_nameSize, .ref m_names, .ref m_size, .ref m_data, .int 0, .ref m_looked, .int 0, .ref m_file, .int 0, .ref m_directory, .int 0, .ref m_out, .int 0, .ref m_row, .int 0, .int 0, .int 1, .int 0, .ref m_made, .ref m_length, .int 0, .int 0, .int 0, .int 0, .int 0, .ref m_pressed, .int 0, .int 0, .int 0, .ref m_mark, .int 0, .ref m_idSize, .ref m_ids, .ref m_goalSize, .ref m_goals, .int 0, .ref m_value, .int 0, .ref m_faults, .ref m_reached]))]) ?_
  refine pb_iconst (pc := 44) (v := 1) d_Mod_expandRow_44 (by decide) ?_
  refine pb_icmp_ne (pc := 45) (tgt := 52) d_Mod_expandRow_45 (by decide) (fun _ => ?_) (fun h9 => absurd h9 (by decide))
  refine pb_iconst (pc := 52) (v := 0) d_Mod_expandRow_52 (by decide) ?_
  refine pb_istore_n (pc := 53) (lo' := [(3, .int 0), (0, .ref h), (1, .int 0), (2, .int 0)]) d_Mod_expandRow_53 rfl (by decide) rfl ?_
  refine pb_aload_n (pc := 54) d_Mod_expandRow_54 1 rfl rfl ?_
  refine pb_iconst (pc := 55) (v := 2) d_Mod_expandRow_55 (by decide) ?_
  refine pb_callV (pc := 56) (qb := 0) (ci := 10) (nA := 1) (rest := []) (wr := []) d_Mod_expandRow_56 (c_Mod_number1 hl G h m_rels m_openRels m_closeRels m_openRel m_closeRel m_comment m_ends m_order m_tape m_count m_nameSize m_names m_size m_data m_looked m_file m_directory m_out m_row m_made m_length m_pressed m_mark m_idSize m_ids m_goalSize m_goals m_value m_faults m_reached) rfl rfl [0] [] (by decide) rfl rfl rfl (by decide) (by decide) k_1430 rfl k_128 k_1427 k_1429 k_69 (by decide +kernel) (by decide) rfl rfl (Nat.le_of_ble_eq_true rfl) (by decide) (fun v9 u7 h6 => ?_)
  have eh6 := h6
  have eh6 : v9 = some (.int 0) := eh6
  subst eh6
  refine pb_eq (pc' := 59) (lo' := [(3, .int 0), (0, .ref h), (1, .int 0), (2, .int 0)]) (rest' := [.int 0]) (ws' := [(h, .inr (10, [.ref m_rels, .ref m_openRels, .ref m_closeRels, .ref m_openRel, .ref m_closeRel, .ref m_comment, .ref m_ends, .ref m_order, .int 0, .int 0, .ref m_tape, .ref m_count, .ref m_nameSize, .ref m_names, .ref m_size, .ref m_data, .int 0, .ref m_looked, .int 0, .ref m_file, .int 0, .ref m_directory, .int 0, .ref m_out, .int 0, .ref m_row, .int 0, .int 0, .int 1, .int 0, .ref m_made, .ref m_length, .int 0, .int 0, .int 0, .int 0, .int 0, .ref m_pressed, .int 0, .int 0, .int 0, .ref m_mark, .int 0, .ref m_idSize, .ref m_ids, .ref m_goalSize, .ref m_goals, .int 0, .ref m_value, .int 0, .ref m_faults, .ref m_reached]))]) ?_
  refine pb_istore (pc := 59) (lo' := [(4, .int 0), (3, .int 0), (0, .ref h), (1, .int 0), (2, .int 0)]) d_Mod_expandRow_59 (by decide) rfl ?_
  refine pb_aload_n (pc := 61) d_Mod_expandRow_61 2 rfl rfl ?_
  refine pb_get (pc := 62) d_Mod_expandRow_62 0 28 rfl rfl (by decide) in_Mod k_1174 rfl ?_
  refine pb_if_ne (pc := 65) (tgt := 79) d_Mod_expandRow_65 (by decide) (fun _ => ?_) (fun h9 => absurd h9 (by decide))
  refine pb_aload_n (pc := 79) d_Mod_expandRow_79 2 rfl rfl ?_
  refine pb_get (pc := 80) d_Mod_expandRow_80 0 28 rfl rfl (by decide) in_Mod k_1174 rfl ?_
  refine pb_if_ne (pc := 83) (tgt := 98) d_Mod_expandRow_83 (by decide) (fun _ => ?_) (fun h9 => absurd h9 (by decide))
  refine pb_aload_n (pc := 98) d_Mod_expandRow_98 2 rfl rfl ?_
  refine pb_get (pc := 99) d_Mod_expandRow_99 0 28 rfl rfl (by decide) in_Mod k_1174 rfl ?_
  refine pb_if_ne (pc := 102) (tgt := 126) d_Mod_expandRow_102 (by decide) (fun _ => ?_) (fun h9 => absurd h9 (by decide))
  refine pb_goto (pc := 126) (tgt := 28) d_Mod_expandRow_126 (by decide) ?_
  refine pb_iload_n (pc := 28) d_Mod_expandRow_28 1 rfl rfl ?_
  refine pb_if_ne (pc := 29) (tgt := 129) d_Mod_expandRow_29 (by decide) (fun h9 => absurd h9 (by decide)) (fun _ => ?_)
  refine pb_aload_n (pc := 32) d_Mod_expandRow_32 2 rfl rfl ?_
  refine pb_get (pc := 33) d_Mod_expandRow_33 0 28 rfl rfl (by decide) in_Mod k_1174 rfl ?_
  refine pb_if_ne (pc := 36) (tgt := 129) d_Mod_expandRow_36 (by decide) (fun _ => ?_) (fun h9 => absurd h9 (by decide))
  refine pb_aload_n (pc := 129) d_Mod_expandRow_129 2 rfl rfl ?_
  refine pb_get (pc := 130) d_Mod_expandRow_130 0 28 rfl rfl (by decide) in_Mod k_1174 rfl ?_
  refine pb_if_ne (pc := 133) (tgt := 156) d_Mod_expandRow_133 (by decide) (fun _ => ?_) (fun h9 => absurd h9 (by decide))
  refine pb_aload_n (pc := 156) d_Mod_expandRow_156 2 rfl rfl ?_
  refine pb_get (pc := 157) d_Mod_expandRow_157 0 28 rfl rfl (by decide) in_Mod k_1174 rfl ?_
  exact pb_iret (pc := 160) hQ d_Mod_expandRow_160 rfl rfl () rfl [] (by decide) rfl rfl (by decide) (by decide)

theorem d_Mod_expand_0 : decode prog_12_method_47_code 0 = .ok (.aload_n 0, 1) := by decide +kernel
theorem d_Mod_expand_1 : decode prog_12_method_47_code 1 = .ok (.iconst 0, 1) := by decide +kernel
theorem d_Mod_expand_2 : decode prog_12_method_47_code 2 = .ok (.putfield 103, 3) := by decide +kernel
theorem d_Mod_expand_5 : decode prog_12_method_47_code 5 = .ok (.aload_n 0, 1) := by decide +kernel
theorem d_Mod_expand_6 : decode prog_12_method_47_code 6 = .ok (.invokevirtual 263, 3) := by decide +kernel
theorem d_Mod_expand_9 : decode prog_12_method_47_code 9 = .ok (.aload_n 0, 1) := by decide +kernel
theorem d_Mod_expand_10 : decode prog_12_method_47_code 10 = .ok (.iconst 0, 1) := by decide +kernel
theorem d_Mod_expand_11 : decode prog_12_method_47_code 11 = .ok (.aload_n 0, 1) := by decide +kernel
theorem d_Mod_expand_12 : decode prog_12_method_47_code 12 = .ok (.getfield 260, 3) := by decide +kernel
theorem d_Mod_expand_15 : decode prog_12_method_47_code 15 = .ok (.invokevirtual 266, 3) := by decide +kernel
theorem k_1423 : (Jvm.Cond.methodLink "PackageBookModel" (266 : Nat) ({ cls := "PackageBookModel", name := "expandRow", desc := "(II)I" } : Jvm.MethodName)) ∈ uW := uW_of 1423 (by decide +kernel) (by decide +kernel)
theorem k_1426 : (Jvm.Cond.code ({ cls := "PackageBookModel", name := "expandRow", desc := "(II)I" } : Jvm.MethodName) prog_12_method_44_code (5 : Nat) (Option.some Jvm.ClassFile.FieldType.int)) ∈ uW := uW_of 1426 (by decide +kernel) (by decide +kernel)
theorem k_1425 : (Jvm.Cond.instanceMethod ({ cls := "PackageBookModel", name := "expandRow", desc := "(II)I" } : Jvm.MethodName)) ∈ uW := uW_of 1425 (by decide +kernel) (by decide +kernel)
theorem k_68 : Cond.selects "PackageBookModel" ⟨"PackageBookModel", "expandRow", "(II)I"⟩ ⟨"PackageBookModel", "expandRow", "(II)I"⟩ ∈ uW := uW_of 68 (by decide +kernel) (by decide +kernel)
theorem d_Mod_expand_18 : decode prog_12_method_47_code 18 = .ok (.istore_n 1, 1) := by decide +kernel
theorem d_Mod_expand_19 : decode prog_12_method_47_code 19 = .ok (.iload_n 1, 1) := by decide +kernel
theorem d_Mod_expand_20 : decode prog_12_method_47_code 20 = .ok (.ifCond .le 6, 3) := by decide +kernel
theorem d_Mod_expand_23 : decode prog_12_method_47_code 23 = .ok (.iload_n 1, 1) := by decide +kernel
theorem d_Mod_expand_24 : decode prog_12_method_47_code 24 = .ok (.ineg, 1) := by decide +kernel
theorem d_Mod_expand_25 : decode prog_12_method_47_code 25 = .ok (.ireturn, 1) := by decide +kernel
abbrev y_Mod_expand : MethodName := ⟨"PackageBookModel", "expand", "()I"⟩
abbrev i_Mod_expand : pb_I := (y_Mod_expand, prog_12_method_47_code, 3, (some Jvm.ClassFile.FieldType.int), [], { frames := 3, cells := 0, slots := 0, locals := 68 })
set_option maxRecDepth 100000 in
set_option maxHeartbeats 4000000 in
theorem c_Mod_expand {l : Launch} (hl : l.stackTraces = false) (G : pb_G) (h : Nat) (m_rels : Nat) (m_openRels : Nat) (m_closeRels : Nat) (m_openRel : Nat) (m_closeRel : Nat) (m_comment : Nat) (m_ends : Nat) (m_order : Nat) (m_tape : Nat) (m_count : Nat) (m_nameSize : Nat) (m_names : Nat) (m_size : Nat) (m_data : Nat) (m_looked : Nat) (m_file : Nat) (m_directory : Nat) (m_out : Nat) (m_row : Nat) (m_made : Nat) (m_length : Nat) (m_pressed : Nat) (m_mark : Nat) (m_idSize : Nat) (m_ids : Nat) (m_goalSize : Nat) (m_goals : Nat) (m_value : Nat) (m_faults : Nat) (m_reached : Nat) : Cn l G i_Mod_expand [.ref h] [(h, .inr (10, [.ref m_rels, .ref m_openRels, .ref m_closeRels, .ref m_openRel, .ref m_closeRel, .ref m_comment, .ref m_ends, .ref m_order, .int 0, .int 0, .ref m_tape, .ref m_count, .ref m_nameSize, .ref m_names, .ref m_size, .ref m_data, .int 0, .ref m_looked, .int 0, .ref m_file, .int 0, .ref m_directory, .int 0, .ref m_out, .int 0, .ref m_row, .int 0, .int 0, .int 0, .int 0, .ref m_made, .ref m_length, .int 0, .int 0, .int 0, .int 0, .int 0, .ref m_pressed, .int 0, .int 0, .int 0, .ref m_mark, .int 0, .ref m_idSize, .ref m_ids, .ref m_goalSize, .ref m_goals, .int 0, .ref m_value, .int 0, .ref m_faults, .ref m_reached]))] (S := Unit) (fun v u => v = some (.int (-1))) (fun u => []) := by
  refine Cn.of hl (by decide +kernel) rfl (Nat.le_of_ble_eq_true rfl) (fun M hQ => ?_)
  refine pb_eq (pc' := 0) (lo' := [(0, .ref h)]) (rest' := []) (ws' := [(h, .inr (10, [.ref m_rels, .ref m_openRels, .ref m_closeRels, .ref m_openRel, .ref m_closeRel, .ref m_comment, .ref m_ends, .ref m_order, .int 0, .int 0, .ref m_tape, .ref m_count, .ref m_nameSize, .ref m_names, .ref m_size, .ref m_data, .int 0, .ref m_looked, .int 0, .ref m_file, .int 0, .ref m_directory, .int 0, .ref m_out, .int 0, .ref m_row, .int 0, .int 0, .int 0, .int 0, .ref m_made, .ref m_length, .int 0, .int 0, .int 0, .int 0, .int 0, .ref m_pressed, .int 0, .int 0, .int 0, .ref m_mark, .int 0, .ref m_idSize, .ref m_ids, .ref m_goalSize, .ref m_goals, .int 0, .ref m_value, .int 0, .ref m_faults, .ref m_reached]))]) ?_
  refine pb_aload_n (pc := 0) d_Mod_expand_0 0 rfl rfl ?_
  refine pb_iconst (pc := 1) (v := 0) d_Mod_expand_1 (by decide) ?_
  refine pb_put (pc := 2) (ty := .int) (ws' := [(h, .inr (10, [.ref m_rels, .ref m_openRels, .ref m_closeRels, .ref m_openRel, .ref m_closeRel, .ref m_comment, .ref m_ends, .ref m_order, .int 0, .int 0, .ref m_tape, .ref m_count, .ref m_nameSize, .ref m_names, .ref m_size, .ref m_data, .int 0, .ref m_looked, .int 0, .ref m_file, .int 0, .ref m_directory, .int 0, .ref m_out, .int 0, .ref m_row, .int 0, .int 0, .int 0, .int 0, .ref m_made, .ref m_length, .int 0, .int 0, .int 0, .int 0, .int 0, .ref m_pressed, .int 0, .int 0, .int 0, .ref m_mark, .int 0, .ref m_idSize, .ref m_ids, .ref m_goalSize, .ref m_goals, .int 0, .ref m_value, .int 0, .ref m_faults, .ref m_reached]))]) d_Mod_expand_2 0 8 t_Mod t_Mod_ok n_Mod rfl rfl (by decide) in_Mod k_1154 rfl (by decide +kernel) rfl rfl (Nat.le_of_ble_eq_true rfl) rfl ?_
  refine pb_aload_n (pc := 5) d_Mod_expand_5 0 rfl rfl ?_
  refine pb_callV (pc := 6) (qb := 0) (ci := 10) (nA := 0) (rest := []) (wr := []) d_Mod_expand_6 (c_Mod_takeRow0 hl G h m_rels m_openRels m_closeRels m_openRel m_closeRel m_comment m_ends m_order m_tape m_count m_nameSize m_names m_size m_data m_looked m_file m_directory m_out m_row m_made m_length m_pressed m_mark m_idSize m_ids m_goalSize m_goals m_value m_faults m_reached) rfl rfl [0] [] (by decide) rfl rfl rfl (by decide) (by decide) k_1422 rfl k_128 k_1419 k_1421 k_67 (by decide +kernel) (by decide) rfl rfl (Nat.le_of_ble_eq_true rfl) (by decide) (fun v9 u2 h1 => ?_)
  have eh1 := h1
  have eh1 : v9 = none := eh1
  subst eh1
  refine pb_eq (pc' := 9) (lo' := [(0, .ref h)]) (rest' := []) (ws' := [(h, .inr (10, [.ref m_rels, .ref m_openRels, .ref m_closeRels, .ref m_openRel, .ref m_closeRel, .ref m_comment, .ref m_ends, .ref m_order, .int 0, .int 0, .ref m_tape, .ref m_count, .ref m_nameSize, .ref m_names, .ref m_size, .ref m_data, .int 0, .ref m_looked, .int 0, .ref m_file, .int 0, .ref m_directory, .int 0, .ref m_out, .int 0, .ref m_row, .int 0, .int 0, .int 0, .int 0, .ref m_made, .ref m_length, .int 0, .int 0, .int 0, .int 0, .int 0, .ref m_pressed, .int 0, .int 0, .int 0, .ref m_mark, .int 0, .ref m_idSize, .ref m_ids, .ref m_goalSize, .ref m_goals, .int 0, .ref m_value, .int 0, .ref m_faults, .ref m_reached]))]) ?_
  refine pb_aload_n (pc := 9) d_Mod_expand_9 0 rfl rfl ?_
  refine pb_iconst (pc := 10) (v := 0) d_Mod_expand_10 (by decide) ?_
  refine pb_aload_n (pc := 11) d_Mod_expand_11 0 rfl rfl ?_
  refine pb_get (pc := 12) d_Mod_expand_12 0 24 rfl rfl (by decide) in_Mod k_1170 rfl ?_
  refine pb_callV (pc := 15) (qb := 0) (ci := 10) (nA := 2) (rest := []) (wr := []) d_Mod_expand_15 (c_Mod_expandRow0 hl G h m_rels m_openRels m_closeRels m_openRel m_closeRel m_comment m_ends m_order m_tape m_count m_nameSize m_names m_size m_data m_looked m_file m_directory m_out m_row m_made m_length m_pressed m_mark m_idSize m_ids m_goalSize m_goals m_value m_faults m_reached) rfl rfl [0] [] (by decide) rfl rfl rfl (by decide) (by decide) k_1426 rfl k_128 k_1423 k_1425 k_68 (by decide +kernel) (by decide) rfl rfl (Nat.le_of_ble_eq_true rfl) (by decide) (fun v9 u4 h3 => ?_)
  have eh3 := h3
  have eh3 : v9 = some (.int 1) := eh3
  subst eh3
  refine pb_eq (pc' := 18) (lo' := [(0, .ref h)]) (rest' := [.int 1]) (ws' := []) ?_
  refine pb_istore_n (pc := 18) (lo' := [(1, .int 1), (0, .ref h)]) d_Mod_expand_18 rfl (by decide) rfl ?_
  refine pb_iload_n (pc := 19) d_Mod_expand_19 0 rfl rfl ?_
  refine pb_if_le (pc := 20) (tgt := 26) d_Mod_expand_20 (by decide) (fun h9 => absurd h9 (by decide)) (fun _ => ?_)
  refine pb_iload_n (pc := 23) d_Mod_expand_23 0 rfl rfl ?_
  refine pb_ineg (pc := 24) d_Mod_expand_24 ?_
  refine pb_asi (y := (-1)) (by decide) ?_
  exact pb_iret (pc := 25) hQ d_Mod_expand_25 rfl rfl () rfl [] (by decide) rfl rfl (by decide) (by decide)

theorem d_Mod_spread_0 : decode prog_12_method_87_code 0 = .ok (.iconst 0, 1) := by decide +kernel
theorem d_Mod_spread_1 : decode prog_12_method_87_code 1 = .ok (.istore_n 1, 1) := by decide +kernel
theorem d_Mod_spread_2 : decode prog_12_method_87_code 2 = .ok (.iconst 0, 1) := by decide +kernel
theorem d_Mod_spread_3 : decode prog_12_method_87_code 3 = .ok (.istore_n 2, 1) := by decide +kernel
theorem d_Mod_spread_4 : decode prog_12_method_87_code 4 = .ok (.iload_n 2, 1) := by decide +kernel
theorem d_Mod_spread_5 : decode prog_12_method_87_code 5 = .ok (.aload_n 0, 1) := by decide +kernel
theorem d_Mod_spread_6 : decode prog_12_method_87_code 6 = .ok (.getfield 37, 3) := by decide +kernel
theorem d_Mod_spread_9 : decode prog_12_method_87_code 9 = .ok (.iconst 0, 1) := by decide +kernel
theorem d_Mod_spread_10 : decode prog_12_method_87_code 10 = .ok (.iaload, 1) := by decide +kernel
theorem d_Mod_spread_11 : decode prog_12_method_87_code 11 = .ok (.if_icmp .ge 95, 3) := by decide +kernel
theorem d_Mod_spread_106 : decode prog_12_method_87_code 106 = .ok (.iload_n 1, 1) := by decide +kernel
theorem d_Mod_spread_107 : decode prog_12_method_87_code 107 = .ok (.ireturn, 1) := by decide +kernel
abbrev y_Mod_spread : MethodName := ⟨"PackageBookModel", "spread", "()Z"⟩
abbrev i_Mod_spread : pb_I := (y_Mod_spread, prog_12_method_87_code, 6, (some Jvm.ClassFile.FieldType.boolean), [], { frames := 0, cells := 0, slots := 0, locals := 0 })
set_option maxRecDepth 100000 in
set_option maxHeartbeats 4000000 in
theorem c_Mod_spread0 {l : Launch} (hl : l.stackTraces = false) (G : pb_G) (h : Nat) (m_rels : Nat) (m_openRels : Nat) (m_closeRels : Nat) (m_openRel : Nat) (m_closeRel : Nat) (m_comment : Nat) (m_ends : Nat) (m_order : Nat) (m_tape : Nat) (m_count : Nat) (m_nameSize : Nat) (m_names : Nat) (m_size : Nat) (m_data : Nat) (m_looked : Nat) (m_file : Nat) (m_directory : Nat) (m_out : Nat) (m_row : Nat) (m_made : Nat) (m_length : Nat) (m_pressed : Nat) (m_mark : Nat) (m_idSize : Nat) (m_ids : Nat) (m_goalSize : Nat) (m_goals : Nat) (m_value : Nat) (m_faults : Nat) (m_reached : Nat) : Cn l G i_Mod_spread [.ref h] [(h, .inr (10, [.ref m_rels, .ref m_openRels, .ref m_closeRels, .ref m_openRel, .ref m_closeRel, .ref m_comment, .ref m_ends, .ref m_order, .int 0, .int 0, .ref m_tape, .ref m_count, .ref m_nameSize, .ref m_names, .ref m_size, .ref m_data, .int 0, .ref m_looked, .int 0, .ref m_file, .int 0, .ref m_directory, .int 0, .ref m_out, .int 0, .ref m_row, .int 0, .int 0, .int 0, .int 0, .ref m_made, .ref m_length, .int 0, .int 0, .int 0, .int 0, .int 0, .ref m_pressed, .int 0, .int 0, .int 0, .ref m_mark, .int 0, .ref m_idSize, .ref m_ids, .ref m_goalSize, .ref m_goals, .int 0, .ref m_value, .int 0, .ref m_faults, .ref m_reached])), (m_count, .inl (G.2.2.1, 2, .inl (fun _ => 0)))] (S := Unit) (fun v u => v = some (.int 0)) (fun u => [(h, .inr (10, [.ref m_rels, .ref m_openRels, .ref m_closeRels, .ref m_openRel, .ref m_closeRel, .ref m_comment, .ref m_ends, .ref m_order, .int 0, .int 0, .ref m_tape, .ref m_count, .ref m_nameSize, .ref m_names, .ref m_size, .ref m_data, .int 0, .ref m_looked, .int 0, .ref m_file, .int 0, .ref m_directory, .int 0, .ref m_out, .int 0, .ref m_row, .int 0, .int 0, .int 0, .int 0, .ref m_made, .ref m_length, .int 0, .int 0, .int 0, .int 0, .int 0, .ref m_pressed, .int 0, .int 0, .int 0, .ref m_mark, .int 0, .ref m_idSize, .ref m_ids, .ref m_goalSize, .ref m_goals, .int 0, .ref m_value, .int 0, .ref m_faults, .ref m_reached])), (m_count, .inl (G.2.2.1, 2, .inl (fun _ => 0)))]) := by
  refine Cn.of hl (by decide +kernel) rfl (Nat.le_of_ble_eq_true rfl) (fun M hQ => ?_)
  refine pb_eq (pc' := 0) (lo' := [(0, .ref h)]) (rest' := []) (ws' := [(h, .inr (10, [.ref m_rels, .ref m_openRels, .ref m_closeRels, .ref m_openRel, .ref m_closeRel, .ref m_comment, .ref m_ends, .ref m_order, .int 0, .int 0, .ref m_tape, .ref m_count, .ref m_nameSize, .ref m_names, .ref m_size, .ref m_data, .int 0, .ref m_looked, .int 0, .ref m_file, .int 0, .ref m_directory, .int 0, .ref m_out, .int 0, .ref m_row, .int 0, .int 0, .int 0, .int 0, .ref m_made, .ref m_length, .int 0, .int 0, .int 0, .int 0, .int 0, .ref m_pressed, .int 0, .int 0, .int 0, .ref m_mark, .int 0, .ref m_idSize, .ref m_ids, .ref m_goalSize, .ref m_goals, .int 0, .ref m_value, .int 0, .ref m_faults, .ref m_reached])), (m_count, .inl (G.2.2.1, 2, .inl (fun _ => 0)))]) ?_
  refine pb_iconst (pc := 0) (v := 0) d_Mod_spread_0 (by decide) ?_
  refine pb_istore_n (pc := 1) (lo' := [(1, .int 0), (0, .ref h)]) d_Mod_spread_1 rfl (by decide) rfl ?_
  refine pb_iconst (pc := 2) (v := 0) d_Mod_spread_2 (by decide) ?_
  refine pb_istore_n (pc := 3) (lo' := [(2, .int 0), (1, .int 0), (0, .ref h)]) d_Mod_spread_3 rfl (by decide) rfl ?_
  refine pb_iload_n (pc := 4) d_Mod_spread_4 0 rfl rfl ?_
  refine pb_aload_n (pc := 5) d_Mod_spread_5 2 rfl rfl ?_
  refine pb_get (pc := 6) d_Mod_spread_6 0 11 rfl rfl (by decide) in_Mod k_1157 rfl ?_
  refine pb_iconst (pc := 9) (v := 0) d_Mod_spread_9 (by decide) ?_
  refine pb_iald (pc := 10) d_Mod_spread_10 1 rfl (by unfold vp_in; decide) ?_
  refine pb_asi (y := 0) rfl ?_
  refine pb_icmp_ge (pc := 11) (tgt := 106) d_Mod_spread_11 (by decide) (fun _ => ?_) (fun h9 => absurd h9 (by decide))
  refine pb_iload_n (pc := 106) d_Mod_spread_106 1 rfl rfl ?_
  exact pb_iret (pc := 107) hQ d_Mod_spread_107 rfl rfl () rfl [0, 1] (by decide) rfl rfl (by decide) (by decide)

theorem d_Mod_check_0 : decode prog_12_method_88_code 0 = .ok (.aload_n 0, 1) := by decide +kernel
theorem d_Mod_check_1 : decode prog_12_method_88_code 1 = .ok (.iconst 0, 1) := by decide +kernel
theorem d_Mod_check_2 : decode prog_12_method_88_code 2 = .ok (.putfield 103, 3) := by decide +kernel
theorem d_Mod_check_5 : decode prog_12_method_88_code 5 = .ok (.aload_n 0, 1) := by decide +kernel
theorem d_Mod_check_6 : decode prog_12_method_88_code 6 = .ok (.iconst 0, 1) := by decide +kernel
theorem d_Mod_check_7 : decode prog_12_method_88_code 7 = .ok (.putfield 410, 3) := by decide +kernel
theorem d_Mod_check_10 : decode prog_12_method_88_code 10 = .ok (.iconst 0, 1) := by decide +kernel
theorem d_Mod_check_11 : decode prog_12_method_88_code 11 = .ok (.istore_n 1, 1) := by decide +kernel
theorem d_Mod_check_12 : decode prog_12_method_88_code 12 = .ok (.iload_n 1, 1) := by decide +kernel
theorem d_Mod_check_13 : decode prog_12_method_88_code 13 = .ok (.aload_n 0, 1) := by decide +kernel
theorem d_Mod_check_14 : decode prog_12_method_88_code 14 = .ok (.getfield 37, 3) := by decide +kernel
theorem d_Mod_check_17 : decode prog_12_method_88_code 17 = .ok (.iconst 0, 1) := by decide +kernel
theorem d_Mod_check_18 : decode prog_12_method_88_code 18 = .ok (.iaload, 1) := by decide +kernel
theorem d_Mod_check_19 : decode prog_12_method_88_code 19 = .ok (.if_icmp .ge 33, 3) := by decide +kernel
theorem d_Mod_check_52 : decode prog_12_method_88_code 52 = .ok (.iconst 1, 1) := by decide +kernel
theorem d_Mod_check_53 : decode prog_12_method_88_code 53 = .ok (.istore_n 1, 1) := by decide +kernel
theorem d_Mod_check_54 : decode prog_12_method_88_code 54 = .ok (.iload_n 1, 1) := by decide +kernel
theorem d_Mod_check_55 : decode prog_12_method_88_code 55 = .ok (.ifCond .eq 11, 3) := by decide +kernel
theorem d_Mod_check_58 : decode prog_12_method_88_code 58 = .ok (.aload_n 0, 1) := by decide +kernel
theorem d_Mod_check_59 : decode prog_12_method_88_code 59 = .ok (.invokevirtual 435, 3) := by decide +kernel
theorem k_1660 : (Jvm.Cond.methodLink "PackageBookModel" (435 : Nat) ({ cls := "PackageBookModel", name := "spread", desc := "()Z" } : Jvm.MethodName)) ∈ uW := uW_of 1660 (by decide +kernel) (by decide +kernel)
theorem k_1663 : (Jvm.Cond.code ({ cls := "PackageBookModel", name := "spread", desc := "()Z" } : Jvm.MethodName) prog_12_method_87_code (6 : Nat) (Option.some Jvm.ClassFile.FieldType.boolean)) ∈ uW := uW_of 1663 (by decide +kernel) (by decide +kernel)
theorem k_1662 : (Jvm.Cond.instanceMethod ({ cls := "PackageBookModel", name := "spread", desc := "()Z" } : Jvm.MethodName)) ∈ uW := uW_of 1662 (by decide +kernel) (by decide +kernel)
theorem k_116 : Cond.selects "PackageBookModel" ⟨"PackageBookModel", "spread", "()Z"⟩ ⟨"PackageBookModel", "spread", "()Z"⟩ ∈ uW := uW_of 116 (by decide +kernel) (by decide +kernel)
theorem d_Mod_check_62 : decode prog_12_method_88_code 62 = .ok (.istore_n 1, 1) := by decide +kernel
theorem d_Mod_check_63 : decode prog_12_method_88_code 63 = .ok (.goto (-9), 3) := by decide +kernel
theorem d_Mod_check_66 : decode prog_12_method_88_code 66 = .ok (.iconst 0, 1) := by decide +kernel
theorem d_Mod_check_67 : decode prog_12_method_88_code 67 = .ok (.istore_n 2, 1) := by decide +kernel
theorem d_Mod_check_68 : decode prog_12_method_88_code 68 = .ok (.iload_n 2, 1) := by decide +kernel
theorem d_Mod_check_69 : decode prog_12_method_88_code 69 = .ok (.aload_n 0, 1) := by decide +kernel
theorem d_Mod_check_70 : decode prog_12_method_88_code 70 = .ok (.getfield 37, 3) := by decide +kernel
theorem d_Mod_check_73 : decode prog_12_method_88_code 73 = .ok (.iconst 0, 1) := by decide +kernel
theorem d_Mod_check_74 : decode prog_12_method_88_code 74 = .ok (.iaload, 1) := by decide +kernel
theorem d_Mod_check_75 : decode prog_12_method_88_code 75 = .ok (.if_icmp .ge 33, 3) := by decide +kernel
theorem d_Mod_check_108 : decode prog_12_method_88_code 108 = .ok (.aload_n 0, 1) := by decide +kernel
theorem d_Mod_check_109 : decode prog_12_method_88_code 109 = .ok (.getfield 410, 3) := by decide +kernel
theorem d_Mod_check_112 : decode prog_12_method_88_code 112 = .ok (.ireturn, 1) := by decide +kernel
abbrev y_Mod_check : MethodName := ⟨"PackageBookModel", "check", "()I"⟩
abbrev i_Mod_check : pb_I := (y_Mod_check, prog_12_method_88_code, 3, (some Jvm.ClassFile.FieldType.int), [], { frames := 1, cells := 0, slots := 0, locals := 25 })
set_option maxRecDepth 100000 in
set_option maxHeartbeats 4000000 in
theorem c_Mod_check {l : Launch} (hl : l.stackTraces = false) (G : pb_G) (h : Nat) (m_rels : Nat) (m_openRels : Nat) (m_closeRels : Nat) (m_openRel : Nat) (m_closeRel : Nat) (m_comment : Nat) (m_ends : Nat) (m_order : Nat) (m_tape : Nat) (m_count : Nat) (m_nameSize : Nat) (m_names : Nat) (m_size : Nat) (m_data : Nat) (m_looked : Nat) (m_file : Nat) (m_directory : Nat) (m_out : Nat) (m_row : Nat) (m_made : Nat) (m_length : Nat) (m_pressed : Nat) (m_mark : Nat) (m_idSize : Nat) (m_ids : Nat) (m_goalSize : Nat) (m_goals : Nat) (m_value : Nat) (m_faults : Nat) (m_reached : Nat) : Cn l G i_Mod_check [.ref h] [(h, .inr (10, [.ref m_rels, .ref m_openRels, .ref m_closeRels, .ref m_openRel, .ref m_closeRel, .ref m_comment, .ref m_ends, .ref m_order, .int 0, .int 0, .ref m_tape, .ref m_count, .ref m_nameSize, .ref m_names, .ref m_size, .ref m_data, .int 0, .ref m_looked, .int 0, .ref m_file, .int 0, .ref m_directory, .int 0, .ref m_out, .int 0, .ref m_row, .int 0, .int 0, .int 0, .int 0, .ref m_made, .ref m_length, .int 0, .int 0, .int 0, .int 0, .int 0, .ref m_pressed, .int 0, .int 0, .int 0, .ref m_mark, .int 0, .ref m_idSize, .ref m_ids, .ref m_goalSize, .ref m_goals, .int 0, .ref m_value, .int 0, .ref m_faults, .ref m_reached])), (m_count, .inl (G.2.2.1, 2, .inl (fun _ => 0)))] (S := Unit) (fun v u => v = some (.int 0)) (fun u => []) := by
  refine Cn.of hl (by decide +kernel) rfl (Nat.le_of_ble_eq_true rfl) (fun M hQ => ?_)
  refine pb_eq (pc' := 0) (lo' := [(0, .ref h)]) (rest' := []) (ws' := [(h, .inr (10, [.ref m_rels, .ref m_openRels, .ref m_closeRels, .ref m_openRel, .ref m_closeRel, .ref m_comment, .ref m_ends, .ref m_order, .int 0, .int 0, .ref m_tape, .ref m_count, .ref m_nameSize, .ref m_names, .ref m_size, .ref m_data, .int 0, .ref m_looked, .int 0, .ref m_file, .int 0, .ref m_directory, .int 0, .ref m_out, .int 0, .ref m_row, .int 0, .int 0, .int 0, .int 0, .ref m_made, .ref m_length, .int 0, .int 0, .int 0, .int 0, .int 0, .ref m_pressed, .int 0, .int 0, .int 0, .ref m_mark, .int 0, .ref m_idSize, .ref m_ids, .ref m_goalSize, .ref m_goals, .int 0, .ref m_value, .int 0, .ref m_faults, .ref m_reached])), (m_count, .inl (G.2.2.1, 2, .inl (fun _ => 0)))]) ?_
  refine pb_aload_n (pc := 0) d_Mod_check_0 0 rfl rfl ?_
  refine pb_iconst (pc := 1) (v := 0) d_Mod_check_1 (by decide) ?_
  refine pb_put (pc := 2) (ty := .int) (ws' := [(h, .inr (10, [.ref m_rels, .ref m_openRels, .ref m_closeRels, .ref m_openRel, .ref m_closeRel, .ref m_comment, .ref m_ends, .ref m_order, .int 0, .int 0, .ref m_tape, .ref m_count, .ref m_nameSize, .ref m_names, .ref m_size, .ref m_data, .int 0, .ref m_looked, .int 0, .ref m_file, .int 0, .ref m_directory, .int 0, .ref m_out, .int 0, .ref m_row, .int 0, .int 0, .int 0, .int 0, .ref m_made, .ref m_length, .int 0, .int 0, .int 0, .int 0, .int 0, .ref m_pressed, .int 0, .int 0, .int 0, .ref m_mark, .int 0, .ref m_idSize, .ref m_ids, .ref m_goalSize, .ref m_goals, .int 0, .ref m_value, .int 0, .ref m_faults, .ref m_reached])), (m_count, .inl (G.2.2.1, 2, .inl (fun _ => 0)))]) d_Mod_check_2 0 8 t_Mod t_Mod_ok n_Mod rfl rfl (by decide) in_Mod k_1154 rfl (by decide +kernel) rfl rfl (Nat.le_of_ble_eq_true rfl) rfl ?_
  refine pb_aload_n (pc := 5) d_Mod_check_5 0 rfl rfl ?_
  refine pb_iconst (pc := 6) (v := 0) d_Mod_check_6 (by decide) ?_
  refine pb_put (pc := 7) (ty := .int) (ws' := [(h, .inr (10, [.ref m_rels, .ref m_openRels, .ref m_closeRels, .ref m_openRel, .ref m_closeRel, .ref m_comment, .ref m_ends, .ref m_order, .int 0, .int 0, .ref m_tape, .ref m_count, .ref m_nameSize, .ref m_names, .ref m_size, .ref m_data, .int 0, .ref m_looked, .int 0, .ref m_file, .int 0, .ref m_directory, .int 0, .ref m_out, .int 0, .ref m_row, .int 0, .int 0, .int 0, .int 0, .ref m_made, .ref m_length, .int 0, .int 0, .int 0, .int 0, .int 0, .ref m_pressed, .int 0, .int 0, .int 0, .ref m_mark, .int 0, .ref m_idSize, .ref m_ids, .ref m_goalSize, .ref m_goals, .int 0, .ref m_value, .int 0, .ref m_faults, .ref m_reached])), (m_count, .inl (G.2.2.1, 2, .inl (fun _ => 0)))]) d_Mod_check_7 0 49 t_Mod t_Mod_ok n_Mod rfl rfl (by decide) in_Mod k_1195 rfl (by decide +kernel) rfl rfl (Nat.le_of_ble_eq_true rfl) rfl ?_
  refine pb_iconst (pc := 10) (v := 0) d_Mod_check_10 (by decide) ?_
  refine pb_istore_n (pc := 11) (lo' := [(1, .int 0), (0, .ref h)]) d_Mod_check_11 rfl (by decide) rfl ?_
  refine pb_iload_n (pc := 12) d_Mod_check_12 0 rfl rfl ?_
  refine pb_aload_n (pc := 13) d_Mod_check_13 1 rfl rfl ?_
  refine pb_get (pc := 14) d_Mod_check_14 0 11 rfl rfl (by decide) in_Mod k_1157 rfl ?_
  refine pb_iconst (pc := 17) (v := 0) d_Mod_check_17 (by decide) ?_
  refine pb_iald (pc := 18) d_Mod_check_18 1 rfl (by unfold vp_in; decide) ?_
  refine pb_asi (y := 0) rfl ?_
  refine pb_icmp_ge (pc := 19) (tgt := 52) d_Mod_check_19 (by decide) (fun _ => ?_) (fun h9 => absurd h9 (by decide))
  refine pb_iconst (pc := 52) (v := 1) d_Mod_check_52 (by decide) ?_
  refine pb_istore_n (pc := 53) (lo' := [(1, .int 1), (0, .ref h)]) d_Mod_check_53 rfl (by decide) rfl ?_
  refine pb_iload_n (pc := 54) d_Mod_check_54 0 rfl rfl ?_
  refine pb_if_eq (pc := 55) (tgt := 66) d_Mod_check_55 (by decide) (fun h9 => absurd h9 (by decide)) (fun _ => ?_)
  refine pb_aload_n (pc := 58) d_Mod_check_58 1 rfl rfl ?_
  refine pb_callV (pc := 59) (qb := 0) (ci := 10) (nA := 0) (rest := []) (wr := []) d_Mod_check_59 (c_Mod_spread0 hl G h m_rels m_openRels m_closeRels m_openRel m_closeRel m_comment m_ends m_order m_tape m_count m_nameSize m_names m_size m_data m_looked m_file m_directory m_out m_row m_made m_length m_pressed m_mark m_idSize m_ids m_goalSize m_goals m_value m_faults m_reached) rfl rfl [0, 1] [] (by decide) rfl rfl rfl (by decide) (by decide) k_1663 rfl k_128 k_1660 k_1662 k_116 (by decide +kernel) (by decide) rfl rfl (Nat.le_of_ble_eq_true rfl) (by decide) (fun v9 u4 h3 => ?_)
  have eh3 := h3
  have eh3 : v9 = some (.int 0) := eh3
  subst eh3
  refine pb_eq (pc' := 62) (lo' := [(1, .int 1), (0, .ref h)]) (rest' := [.int 0]) (ws' := [(h, .inr (10, [.ref m_rels, .ref m_openRels, .ref m_closeRels, .ref m_openRel, .ref m_closeRel, .ref m_comment, .ref m_ends, .ref m_order, .int 0, .int 0, .ref m_tape, .ref m_count, .ref m_nameSize, .ref m_names, .ref m_size, .ref m_data, .int 0, .ref m_looked, .int 0, .ref m_file, .int 0, .ref m_directory, .int 0, .ref m_out, .int 0, .ref m_row, .int 0, .int 0, .int 0, .int 0, .ref m_made, .ref m_length, .int 0, .int 0, .int 0, .int 0, .int 0, .ref m_pressed, .int 0, .int 0, .int 0, .ref m_mark, .int 0, .ref m_idSize, .ref m_ids, .ref m_goalSize, .ref m_goals, .int 0, .ref m_value, .int 0, .ref m_faults, .ref m_reached])), (m_count, .inl (G.2.2.1, 2, .inl (fun _ => 0)))]) ?_
  refine pb_istore_n (pc := 62) (lo' := [(1, .int 0), (0, .ref h)]) d_Mod_check_62 rfl (by decide) rfl ?_
  refine pb_goto (pc := 63) (tgt := 54) d_Mod_check_63 (by decide) ?_
  refine pb_iload_n (pc := 54) d_Mod_check_54 0 rfl rfl ?_
  refine pb_if_eq (pc := 55) (tgt := 66) d_Mod_check_55 (by decide) (fun _ => ?_) (fun h9 => absurd h9 (by decide))
  refine pb_iconst (pc := 66) (v := 0) d_Mod_check_66 (by decide) ?_
  refine pb_istore_n (pc := 67) (lo' := [(2, .int 0), (1, .int 0), (0, .ref h)]) d_Mod_check_67 rfl (by decide) rfl ?_
  refine pb_iload_n (pc := 68) d_Mod_check_68 0 rfl rfl ?_
  refine pb_aload_n (pc := 69) d_Mod_check_69 2 rfl rfl ?_
  refine pb_get (pc := 70) d_Mod_check_70 0 11 rfl rfl (by decide) in_Mod k_1157 rfl ?_
  refine pb_iconst (pc := 73) (v := 0) d_Mod_check_73 (by decide) ?_
  refine pb_iald (pc := 74) d_Mod_check_74 1 rfl (by unfold vp_in; decide) ?_
  refine pb_asi (y := 0) rfl ?_
  refine pb_icmp_ge (pc := 75) (tgt := 108) d_Mod_check_75 (by decide) (fun _ => ?_) (fun h9 => absurd h9 (by decide))
  refine pb_aload_n (pc := 108) d_Mod_check_108 2 rfl rfl ?_
  refine pb_get (pc := 109) d_Mod_check_109 0 49 rfl rfl (by decide) in_Mod k_1195 rfl ?_
  exact pb_iret (pc := 112) hQ d_Mod_check_112 rfl rfl () rfl [] (by decide) rfl rfl (by decide) (by decide)
