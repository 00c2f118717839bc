/-- how many of n numbers from o on are b -/
def cnt (f : Nat → Int32) (o b : Int) : Nat → Int
  | 0 => 0
  | n + 1 => cnt f o b n + (if gx f (o + n) = b then 1 else 0)
theorem cnt_s {f : Nat → Int32} {o b k m : Int} (h : 0 ≤ k) (hm : m = k + 1) : cnt f o b m.toNat = cnt f o b k.toNat + (if gx f (o + k) = b then 1 else 0) := by
  subst hm
  rw [show (k + 1).toNat = k.toNat + 1 by omega, cnt, show o + ((k.toNat : Nat) : Int) = o + k by omega]
def le_I (f : Nat → Int32) : Prop := ∀ x : Int, 0 ≤ x → x < 420 → 0 ≤ gx f x ∧ gx f x ≤ 15
theorem le_upd {f : Nat → Int32} {i v : Int32} (h : le_I f) (h0 : 0 ≤ i.toInt) (hv : 0 ≤ v.toInt ∧ v.toInt ≤ 15) : le_I (upd f i.toNatClampNeg v) := fun x x0 x1 => by
  rw [gx_upd rfl x h0 x0]
  split
  · exact hv
  · exact h x x0 x1
theorem cnt_rng (f : Nat → Int32) (o b : Int) : ∀ n : Nat, 0 ≤ cnt f o b n ∧ cnt f o b n ≤ n
  | 0 => by rw [cnt]; omega
  | n + 1 => by
    have a := cnt_rng f o b n
    rw [cnt]
    split <;> omega

theorem d_Mod_fail_0 : decode prog_12_method_31_code 0 = .ok (.aload_n 0, 1) := by decide +kernel
theorem d_Mod_fail_1 : decode prog_12_method_31_code 1 = .ok (.aload_n 0, 1) := by decide +kernel
theorem d_Mod_fail_2 : decode prog_12_method_31_code 2 = .ok (.getfield 197, 3) := by decide +kernel
theorem k_1174 : (Jvm.Cond.fieldLink "PackageBookModel" (197 : Nat) "PackageBookModel" "why" "I") ∈ uW := uW_of 1174 (by decide +kernel) (by decide +kernel)
theorem d_Mod_fail_5 : decode prog_12_method_31_code 5 = .ok (.ifCond .ne 7, 3) := by decide +kernel
theorem d_Mod_fail_12 : decode prog_12_method_31_code 12 = .ok (.aload_n 0, 1) := by decide +kernel
theorem d_Mod_fail_13 : decode prog_12_method_31_code 13 = .ok (.getfield 197, 3) := by decide +kernel
theorem d_Mod_fail_16 : decode prog_12_method_31_code 16 = .ok (.putfield 197, 3) := by decide +kernel
theorem d_Mod_fail_19 : decode prog_12_method_31_code 19 = .ok (.return_, 1) := by decide +kernel
theorem d_Mod_fail_8 : decode prog_12_method_31_code 8 = .ok (.iload_n 1, 1) := by decide +kernel
theorem d_Mod_fail_9 : decode prog_12_method_31_code 9 = .ok (.goto 7, 3) := by decide +kernel
abbrev y_Mod_fail : MethodName := ⟨"PackageBookModel", "fail", "(I)V"⟩
abbrev i_Mod_fail : pb_I := (y_Mod_fail, prog_12_method_31_code, 2, (Option.none : Option Jvm.ClassFile.FieldType), [], { frames := 0, cells := 0, slots := 0, locals := 0 })
set_option maxRecDepth 100000 in
set_option maxHeartbeats 4000000 in
theorem g_Mod_fail {l : Launch} (hl : l.stackTraces = false) (G : pb_G) (h : Nat) (m_rels : Nat) (m_openRels : Nat) (m_closeRels : Nat) (m_openRel : Nat) (m_closeRel : Nat) (m_comment : Nat) (m_ends : Nat) (m_order : Nat) (m_tape : Nat) (m_count : Nat) (m_nameSize : Nat) (m_names : Nat) (m_size : Nat) (m_data : Nat) (m_looked : Nat) (m_file : Nat) (m_directory : Nat) (m_out : Nat) (m_row : Nat) (m_made : Nat) (m_length : Nat) (m_pressed : Nat) (m_mark : Nat) (m_idSize : Nat) (m_ids : Nat) (m_goalSize : Nat) (m_goals : Nat) (m_value : Nat) (m_faults : Nat) (m_reached : Nat) (v_thrown : Int32) (v_taped : Int32) (v_lookedSize : Int32) (v_fileSize : Int32) (v_directorySize : Int32) (v_outSize : Int32) (v_rowSize : Int32) (v_bitAt : Int32) (v_bitEnd : Int32) (v_why : Int32) (v_madeSize : Int32) (v_firstCount : Int32) (v_secondCount : Int32) (v_heldBits : Int32) (v_heldCount : Int32) (v_pressedSize : Int32) (v_at : Int32) (v_bad : Int32) (v_markSize : Int32) (v_relationCount : Int32) (v_valueSize : Int32) (v_faultCount : Int32) (f : Int32) (a3 : 0 ≤ v_why.toInt) (f0 : 0 < f.toInt) : Cn l G i_Mod_fail [.ref h, .int f] [(h, .inr (10, [.ref m_rels, .ref m_openRels, .ref m_closeRels, .ref m_openRel, .ref m_closeRel, .ref m_comment, .ref m_ends, .ref m_order, .int v_thrown, .int v_taped, .ref m_tape, .ref m_count, .ref m_nameSize, .ref m_names, .ref m_size, .ref m_data, .int v_lookedSize, .ref m_looked, .int v_fileSize, .ref m_file, .int v_directorySize, .ref m_directory, .int v_outSize, .ref m_out, .int v_rowSize, .ref m_row, .int v_bitAt, .int v_bitEnd, .int v_why, .int v_madeSize, .ref m_made, .ref m_length, .int v_firstCount, .int v_secondCount, .int v_heldBits, .int v_heldCount, .int v_pressedSize, .ref m_pressed, .int v_at, .int v_bad, .int v_markSize, .ref m_mark, .int v_relationCount, .ref m_idSize, .ref m_ids, .ref m_goalSize, .ref m_goals, .int v_valueSize, .ref m_value, .int v_faultCount, .ref m_faults, .ref m_reached]))] (S := Int32) (fun rv_ u => rv_ = none ∧ (0 < u.toInt) ∧ (v_why.toInt = 0 ∧ u.toInt = f.toInt ∨ v_why.toInt ≠ 0 ∧ u.toInt = v_why.toInt)) (fun u => [(h, .inr (10, [.ref m_rels, .ref m_openRels, .ref m_closeRels, .ref m_openRel, .ref m_closeRel, .ref m_comment, .ref m_ends, .ref m_order, .int v_thrown, .int v_taped, .ref m_tape, .ref m_count, .ref m_nameSize, .ref m_names, .ref m_size, .ref m_data, .int v_lookedSize, .ref m_looked, .int v_fileSize, .ref m_file, .int v_directorySize, .ref m_directory, .int v_outSize, .ref m_out, .int v_rowSize, .ref m_row, .int v_bitAt, .int v_bitEnd, .int u, .int v_madeSize, .ref m_made, .ref m_length, .int v_firstCount, .int v_secondCount, .int v_heldBits, .int v_heldCount, .int v_pressedSize, .ref m_pressed, .int v_at, .int v_bad, .int v_markSize, .ref m_mark, .int v_relationCount, .ref m_idSize, .ref m_ids, .ref m_goalSize, .ref m_goals, .int v_valueSize, .ref m_value, .int v_faultCount, .ref m_faults, .ref m_reached]))]) := by
  refine Cn.of hl (by decide +kernel) rfl (Nat.le_of_ble_eq_true rfl) (fun M hQ => ?_)
  refine pb_eq (pc' := 0) (lo' := [(0, .ref h), (1, .int f)]) (rest' := []) (ws' := [(h, .inr (10, [.ref m_rels, .ref m_openRels, .ref m_closeRels, .ref m_openRel, .ref m_closeRel, .ref m_comment, .ref m_ends, .ref m_order, .int v_thrown, .int v_taped, .ref m_tape, .ref m_count, .ref m_nameSize, .ref m_names, .ref m_size, .ref m_data, .int v_lookedSize, .ref m_looked, .int v_fileSize, .ref m_file, .int v_directorySize, .ref m_directory, .int v_outSize, .ref m_out, .int v_rowSize, .ref m_row, .int v_bitAt, .int v_bitEnd, .int v_why, .int v_madeSize, .ref m_made, .ref m_length, .int v_firstCount, .int v_secondCount, .int v_heldBits, .int v_heldCount, .int v_pressedSize, .ref m_pressed, .int v_at, .int v_bad, .int v_markSize, .ref m_mark, .int v_relationCount, .ref m_idSize, .ref m_ids, .ref m_goalSize, .ref m_goals, .int v_valueSize, .ref m_value, .int v_faultCount, .ref m_faults, .ref m_reached]))]) ?_
  have zl0 : (0 : Int32).toInt = 0 := by decide
  have zl1 : (1 : Int32).toInt = 1 := by decide
  refine pb_aload_n (pc := 0) d_Mod_fail_0 0 rfl rfl ?_
  refine pb_aload_n (pc := 1) d_Mod_fail_1 0 rfl rfl ?_
  refine pb_get (pc := 2) d_Mod_fail_2 0 28 rfl rfl (by decide) in_Mod k_1174 rfl ?_
  refine pb_if_ne (pc := 5) (tgt := 12) d_Mod_fail_5 (by decide) (fun wx1 => ?_) (fun wx1 => ?_)
  · have twx1 : ¬ v_why.toInt = 0 := fun z9 => wx1 ((ti_eq rfl (by decide)).mpr z9)
    refine pb_aload_n (pc := 12) d_Mod_fail_12 0 rfl rfl ?_
    refine pb_get (pc := 13) d_Mod_fail_13 0 28 rfl rfl (by decide) in_Mod k_1174 rfl ?_
    refine pb_put (pc := 16) (ty := .int) (ws' := [(h, .inr (10, [.ref m_rels, .ref m_openRels, .ref m_closeRels, .ref m_openRel, .ref m_closeRel, .ref m_comment, .ref m_ends, .ref m_order, .int v_thrown, .int v_taped, .ref m_tape, .ref m_count, .ref m_nameSize, .ref m_names, .ref m_size, .ref m_data, .int v_lookedSize, .ref m_looked, .int v_fileSize, .ref m_file, .int v_directorySize, .ref m_directory, .int v_outSize, .ref m_out, .int v_rowSize, .ref m_row, .int v_bitAt, .int v_bitEnd, .int v_why, .int v_madeSize, .ref m_made, .ref m_length, .int v_firstCount, .int v_secondCount, .int v_heldBits, .int v_heldCount, .int v_pressedSize, .ref m_pressed, .int v_at, .int v_bad, .int v_markSize, .ref m_mark, .int v_relationCount, .ref m_idSize, .ref m_ids, .ref m_goalSize, .ref m_goals, .int v_valueSize, .ref m_value, .int v_faultCount, .ref m_faults, .ref m_reached]))]) d_Mod_fail_16 0 28 t_Mod t_Mod_ok n_Mod rfl rfl (by decide) in_Mod k_1174 rfl (by decide +kernel) rfl rfl (Nat.le_of_ble_eq_true rfl) rfl ?_
    exact pb_vret (pc := 19) hQ d_Mod_fail_19 rfl (v_why) ⟨rfl, (by (try dsimp only); first | done | assumption | omega (splitDisjunctions := false) | omega | decide), (by (try dsimp only); first | done | assumption | omega (splitDisjunctions := false) | omega | decide)⟩ [0] (by decide) rfl rfl (by decide) (by decide)
  · have twx1 : v_why.toInt = 0 := (ti_eq rfl (by decide)).mp wx1
    refine pb_iload_n (pc := 8) d_Mod_fail_8 1 rfl rfl ?_
    refine pb_goto (pc := 9) (tgt := 16) d_Mod_fail_9 (by decide) ?_
    refine pb_put (pc := 16) (ty := .int) (ws' := [(h, .inr (10, [.ref m_rels, .ref m_openRels, .ref m_closeRels, .ref m_openRel, .ref m_closeRel, .ref m_comment, .ref m_ends, .ref m_order, .int v_thrown, .int v_taped, .ref m_tape, .ref m_count, .ref m_nameSize, .ref m_names, .ref m_size, .ref m_data, .int v_lookedSize, .ref m_looked, .int v_fileSize, .ref m_file, .int v_directorySize, .ref m_directory, .int v_outSize, .ref m_out, .int v_rowSize, .ref m_row, .int v_bitAt, .int v_bitEnd, .int f, .int v_madeSize, .ref m_made, .ref m_length, .int v_firstCount, .int v_secondCount, .int v_heldBits, .int v_heldCount, .int v_pressedSize, .ref m_pressed, .int v_at, .int v_bad, .int v_markSize, .ref m_mark, .int v_relationCount, .ref m_idSize, .ref m_ids, .ref m_goalSize, .ref m_goals, .int v_valueSize, .ref m_value, .int v_faultCount, .ref m_faults, .ref m_reached]))]) d_Mod_fail_16 0 28 t_Mod t_Mod_ok n_Mod rfl rfl (by decide) in_Mod k_1174 rfl (by decide +kernel) rfl rfl (Nat.le_of_ble_eq_true rfl) rfl ?_
    exact pb_vret (pc := 19) hQ d_Mod_fail_19 rfl (f) ⟨rfl, (by (try dsimp only); first | done | assumption | omega (splitDisjunctions := false) | omega | decide), (by (try dsimp only); first | done | assumption | omega (splitDisjunctions := false) | omega | decide)⟩ [0] (by decide) rfl rfl (by decide) (by decide)

theorem d_Mod_number_18 : decode prog_12_method_32_code 18 = .ok (.iconst 0, 1) := by decide +kernel
theorem d_Mod_number_19 : decode prog_12_method_32_code 19 = .ok (.istore_n 2, 1) := by decide +kernel
theorem d_Mod_number_20 : decode prog_12_method_32_code 20 = .ok (.iconst 0, 1) := by decide +kernel
theorem d_Mod_number_21 : decode prog_12_method_32_code 21 = .ok (.istore_n 3, 1) := by decide +kernel
theorem d_Mod_number_22 : decode prog_12_method_32_code 22 = .ok (.iload_n 3, 1) := by decide +kernel
theorem d_Mod_number_23 : decode prog_12_method_32_code 23 = .ok (.iload_n 1, 1) := by decide +kernel
theorem d_Mod_number_24 : decode prog_12_method_32_code 24 = .ok (.if_icmp .ge 53, 3) := by decide +kernel
theorem d_Mod_number_77 : decode prog_12_method_32_code 77 = .ok (.iload_n 2, 1) := by decide +kernel
theorem d_Mod_number_78 : decode prog_12_method_32_code 78 = .ok (.ireturn, 1) := by decide +kernel
theorem d_Mod_number_27 : decode prog_12_method_32_code 27 = .ok (.aload_n 0, 1) := by decide +kernel
theorem d_Mod_number_28 : decode prog_12_method_32_code 28 = .ok (.getfield 197, 3) := by decide +kernel
theorem d_Mod_number_31 : decode prog_12_method_32_code 31 = .ok (.ifCond .ne 46, 3) := by decide +kernel
theorem d_Mod_number_34 : decode prog_12_method_32_code 34 = .ok (.iload_n 2, 1) := by decide +kernel
theorem d_Mod_number_35 : decode prog_12_method_32_code 35 = .ok (.aload_n 0, 1) := by decide +kernel
theorem d_Mod_number_36 : decode prog_12_method_32_code 36 = .ok (.getfield 66, 3) := by decide +kernel
theorem d_Mod_number_39 : decode prog_12_method_32_code 39 = .ok (.aload_n 0, 1) := by decide +kernel
theorem d_Mod_number_40 : decode prog_12_method_32_code 40 = .ok (.getfield 200, 3) := by decide +kernel
theorem k_1172 : (Jvm.Cond.fieldLink "PackageBookModel" (200 : Nat) "PackageBookModel" "bitAt" "I") ∈ uW := uW_of 1172 (by decide +kernel) (by decide +kernel)
theorem d_Mod_number_43 : decode prog_12_method_32_code 43 = .ok (.bipush 8, 2) := by decide +kernel
theorem d_Mod_number_45 : decode prog_12_method_32_code 45 = .ok (.idiv, 1) := by decide +kernel
theorem d_Mod_number_46 : decode prog_12_method_32_code 46 = .ok (.baload, 1) := by decide +kernel
theorem d_Mod_number_47 : decode prog_12_method_32_code 47 = .ok (.aload_n 0, 1) := by decide +kernel
theorem d_Mod_number_48 : decode prog_12_method_32_code 48 = .ok (.getfield 200, 3) := by decide +kernel
theorem d_Mod_number_51 : decode prog_12_method_32_code 51 = .ok (.bipush 8, 2) := by decide +kernel
theorem d_Mod_number_53 : decode prog_12_method_32_code 53 = .ok (.irem, 1) := by decide +kernel
theorem d_Mod_number_54 : decode prog_12_method_32_code 54 = .ok (.ishr, 1) := by decide +kernel
theorem d_Mod_number_55 : decode prog_12_method_32_code 55 = .ok (.iconst 1, 1) := by decide +kernel
theorem d_Mod_number_56 : decode prog_12_method_32_code 56 = .ok (.iand, 1) := by decide +kernel
theorem d_Mod_number_57 : decode prog_12_method_32_code 57 = .ok (.iload_n 3, 1) := by decide +kernel
theorem d_Mod_number_58 : decode prog_12_method_32_code 58 = .ok (.ishl, 1) := by decide +kernel
theorem d_Mod_number_59 : decode prog_12_method_32_code 59 = .ok (.ior, 1) := by decide +kernel
theorem d_Mod_number_60 : decode prog_12_method_32_code 60 = .ok (.istore_n 2, 1) := by decide +kernel
theorem d_Mod_number_61 : decode prog_12_method_32_code 61 = .ok (.aload_n 0, 1) := by decide +kernel
theorem d_Mod_number_62 : decode prog_12_method_32_code 62 = .ok (.dup, 1) := by decide +kernel
theorem d_Mod_number_63 : decode prog_12_method_32_code 63 = .ok (.getfield 200, 3) := by decide +kernel
theorem d_Mod_number_66 : decode prog_12_method_32_code 66 = .ok (.iconst 1, 1) := by decide +kernel
theorem d_Mod_number_67 : decode prog_12_method_32_code 67 = .ok (.iadd, 1) := by decide +kernel
theorem d_Mod_number_68 : decode prog_12_method_32_code 68 = .ok (.putfield 200, 3) := by decide +kernel
theorem d_Mod_number_71 : decode prog_12_method_32_code 71 = .ok (.iinc 3 1, 3) := by decide +kernel
theorem d_Mod_number_74 : decode prog_12_method_32_code 74 = .ok (.goto (-52), 3) := by decide +kernel
theorem d_Mod_number_0 : decode prog_12_method_32_code 0 = .ok (.aload_n 0, 1) := by decide +kernel
theorem d_Mod_number_1 : decode prog_12_method_32_code 1 = .ok (.getfield 200, 3) := by decide +kernel
theorem d_Mod_number_4 : decode prog_12_method_32_code 4 = .ok (.iload_n 1, 1) := by decide +kernel
theorem d_Mod_number_5 : decode prog_12_method_32_code 5 = .ok (.iadd, 1) := by decide +kernel
theorem d_Mod_number_6 : decode prog_12_method_32_code 6 = .ok (.aload_n 0, 1) := by decide +kernel
theorem d_Mod_number_7 : decode prog_12_method_32_code 7 = .ok (.getfield 203, 3) := by decide +kernel
theorem k_1173 : (Jvm.Cond.fieldLink "PackageBookModel" (203 : Nat) "PackageBookModel" "bitEnd" "I") ∈ uW := uW_of 1173 (by decide +kernel) (by decide +kernel)
theorem d_Mod_number_10 : decode prog_12_method_32_code 10 = .ok (.if_icmp .le 8, 3) := by decide +kernel
theorem d_Mod_number_13 : decode prog_12_method_32_code 13 = .ok (.aload_n 0, 1) := by decide +kernel
theorem d_Mod_number_14 : decode prog_12_method_32_code 14 = .ok (.iconst 1, 1) := by decide +kernel
theorem d_Mod_number_15 : decode prog_12_method_32_code 15 = .ok (.invokevirtual 206, 3) := by decide +kernel
theorem k_1431 : (Jvm.Cond.methodLink "PackageBookModel" (206 : Nat) ({ cls := "PackageBookModel", name := "fail", desc := "(I)V" } : Jvm.MethodName)) ∈ uW := uW_of 1431 (by decide +kernel) (by decide +kernel)
theorem k_1434 : (Jvm.Cond.code ({ cls := "PackageBookModel", name := "fail", desc := "(I)V" } : Jvm.MethodName) prog_12_method_31_code (2 : Nat) (Option.none : Option Jvm.ClassFile.FieldType)) ∈ uW := uW_of 1434 (by decide +kernel) (by decide +kernel)
theorem k_1433 : (Jvm.Cond.instanceMethod ({ cls := "PackageBookModel", name := "fail", desc := "(I)V" } : Jvm.MethodName)) ∈ uW := uW_of 1433 (by decide +kernel) (by decide +kernel)
theorem k_70 : Cond.selects "PackageBookModel" ⟨"PackageBookModel", "fail", "(I)V"⟩ ⟨"PackageBookModel", "fail", "(I)V"⟩ ∈ uW := uW_of 70 (by decide +kernel) (by decide +kernel)
theorem hy_Mod_fail : (y_Mod_fail).cls ≠ "java/lang/invoke/MethodHandle" ∧ (y_Mod_fail).cls ≠ "java/lang/invoke/VarHandle" ∧ (parseMethodDescriptor (y_Mod_fail).desc).map (fun d => d.parameters.length) = some 1 := by decide +kernel
abbrev y_Mod_number : MethodName := ⟨"PackageBookModel", "number", "(I)I"⟩
abbrev i_Mod_number : pb_I := (y_Mod_number, prog_12_method_32_code, 4, (some Jvm.ClassFile.FieldType.int), [], { frames := 1, cells := 0, slots := 0, locals := 21 })
set_option maxRecDepth 100000 in
set_option maxHeartbeats 4000000 in
theorem g_Mod_number {l : Launch} (hl : l.stackTraces = false) (G : pb_G) (h : Nat) (m_rels : Nat) (m_openRels : Nat) (m_closeRels : Nat) (m_openRel : Nat) (m_closeRel : Nat) (m_comment : Nat) (m_ends : Nat) (m_order : Nat) (m_tape : Nat) (m_count : Nat) (m_nameSize : Nat) (m_names : Nat) (m_size : Nat) (m_data : Nat) (m_looked : Nat) (m_file : Nat) (m_directory : Nat) (m_out : Nat) (m_row : Nat) (m_made : Nat) (m_length : Nat) (m_pressed : Nat) (m_mark : Nat) (m_idSize : Nat) (m_ids : Nat) (m_goalSize : Nat) (m_goals : Nat) (m_value : Nat) (m_faults : Nat) (m_reached : Nat) (v_thrown : Int32) (v_taped : Int32) (v_lookedSize : Int32) (v_fileSize : Int32) (v_directorySize : Int32) (v_outSize : Int32) (v_rowSize : Int32) (v_bitAt : Int32) (v_bitEnd : Int32) (v_why : Int32) (v_madeSize : Int32) (v_firstCount : Int32) (v_secondCount : Int32) (v_heldBits : Int32) (v_heldCount : Int32) (v_pressedSize : Int32) (v_at : Int32) (v_bad : Int32) (v_markSize : Int32) (v_relationCount : Int32) (v_valueSize : Int32) (v_faultCount : Int32) (a_row : Nat → Int32) (n : Int32) (A : Int → Int32) (a0 : 0 ≤ v_bitAt.toInt) (a1 : v_bitAt.toInt ≤ v_bitEnd.toInt) (a2 : v_bitEnd.toInt ≤ 160000) (a3 : 0 ≤ v_why.toInt) (n0 : 0 ≤ n.toInt) (n1 : n.toInt ≤ 16) (hA : ∀ j : Int, 0 ≤ j → 8 * j < v_bitEnd.toInt → A j = gr a_row j) (F_a_row : sb_Fit a_row) : Cn l G i_Mod_number [.ref h, .int n] [(h, .inr (10, [.ref m_rels, .ref m_openRels, .ref m_closeRels, .ref m_openRel, .ref m_closeRel, .ref m_comment, .ref m_ends, .ref m_order, .int v_thrown, .int v_taped, .ref m_tape, .ref m_count, .ref m_nameSize, .ref m_names, .ref m_size, .ref m_data, .int v_lookedSize, .ref m_looked, .int v_fileSize, .ref m_file, .int v_directorySize, .ref m_directory, .int v_outSize, .ref m_out, .int v_rowSize, .ref m_row, .int v_bitAt, .int v_bitEnd, .int v_why, .int v_madeSize, .ref m_made, .ref m_length, .int v_firstCount, .int v_secondCount, .int v_heldBits, .int v_heldCount, .int v_pressedSize, .ref m_pressed, .int v_at, .int v_bad, .int v_markSize, .ref m_mark, .int v_relationCount, .ref m_idSize, .ref m_ids, .ref m_goalSize, .ref m_goals, .int v_valueSize, .ref m_value, .int v_faultCount, .ref m_faults, .ref m_reached])), (m_row, .inl (G.2.1, 20000, .inl a_row))] (S := Int32 × Int32 × Int32) (fun rv_ u => rv_ = some (.int u.1) ∧ (0 ≤ u.1.toInt) ∧ (u.1.toInt < p2 n.toInt) ∧ (u.1.toInt ≤ 65535) ∧ (v_bitAt.toInt ≤ u.2.1.toInt) ∧ (u.2.1.toInt ≤ v_bitEnd.toInt) ∧ (0 ≤ u.2.2.toInt) ∧ (v_why.toInt ≠ 0 → u.2.2.toInt ≠ 0) ∧ (u.2.2.toInt = 0 → u.2.1.toInt = v_bitAt.toInt + n.toInt) ∧ (nu_w A v_bitEnd.toInt v_why.toInt v_bitAt.toInt n.toInt = oc_ u.2.2.toInt u.1.toInt u.2.1.toInt)) (fun u => [(h, .inr (10, [.ref m_rels, .ref m_openRels, .ref m_closeRels, .ref m_openRel, .ref m_closeRel, .ref m_comment, .ref m_ends, .ref m_order, .int v_thrown, .int v_taped, .ref m_tape, .ref m_count, .ref m_nameSize, .ref m_names, .ref m_size, .ref m_data, .int v_lookedSize, .ref m_looked, .int v_fileSize, .ref m_file, .int v_directorySize, .ref m_directory, .int v_outSize, .ref m_out, .int v_rowSize, .ref m_row, .int u.2.1, .int v_bitEnd, .int u.2.2, .int v_madeSize, .ref m_made, .ref m_length, .int v_firstCount, .int v_secondCount, .int v_heldBits, .int v_heldCount, .int v_pressedSize, .ref m_pressed, .int v_at, .int v_bad, .int v_markSize, .ref m_mark, .int v_relationCount, .ref m_idSize, .ref m_ids, .ref m_goalSize, .ref m_goals, .int v_valueSize, .ref m_value, .int v_faultCount, .ref m_faults, .ref m_reached])), (m_row, .inl (G.2.1, 20000, .inl a_row))]) := by
  refine Cn.of hl (by decide +kernel) rfl (Nat.le_of_ble_eq_true rfl) (fun M hQ => ?_)
  refine pb_eq (pc' := 0) (lo' := [(0, .ref h), (1, .int n)]) (rest' := []) (ws' := [(h, .inr (10, [.ref m_rels, .ref m_openRels, .ref m_closeRels, .ref m_openRel, .ref m_closeRel, .ref m_comment, .ref m_ends, .ref m_order, .int v_thrown, .int v_taped, .ref m_tape, .ref m_count, .ref m_nameSize, .ref m_names, .ref m_size, .ref m_data, .int v_lookedSize, .ref m_looked, .int v_fileSize, .ref m_file, .int v_directorySize, .ref m_directory, .int v_outSize, .ref m_out, .int v_rowSize, .ref m_row, .int v_bitAt, .int v_bitEnd, .int v_why, .int v_madeSize, .ref m_made, .ref m_length, .int v_firstCount, .int v_secondCount, .int v_heldBits, .int v_heldCount, .int v_pressedSize, .ref m_pressed, .int v_at, .int v_bad, .int v_markSize, .ref m_mark, .int v_relationCount, .ref m_idSize, .ref m_ids, .ref m_goalSize, .ref m_goals, .int v_valueSize, .ref m_value, .int v_faultCount, .ref m_faults, .ref m_reached])), (m_row, .inl (G.2.1, 20000, .inl a_row))]) ?_
  have zl0 : (0 : Int32).toInt = 0 := by decide
  have zl1 : (1 : Int32).toInt = 1 := by decide
  have hJ18_1 : ∀ (w3 : Int32), (0 ≤ w3.toInt) → (v_why.toInt ≠ 0 → w3.toInt ≠ 0) → (w3.toInt = 0 → v_bitAt.toInt + n.toInt ≤ v_bitEnd.toInt) → (v_why.toInt = 0 ∧ v_bitAt.toInt + n.toInt ≤ v_bitEnd.toInt ∧ w3.toInt = 0 ∨ v_why.toInt = 0 ∧ v_bitEnd.toInt < v_bitAt.toInt + n.toInt ∧ w3.toInt = 1 ∨ ¬ v_why.toInt = 0 ∧ w3.toInt = v_why.toInt) → pb_P l G M i_Mod_number 18 [(0, .ref h), (1, .int n)] [] [(h, .inr (10, [.ref m_rels, .ref m_openRels, .ref m_closeRels, .ref m_openRel, .ref m_closeRel, .ref m_comment, .ref m_ends, .ref m_order, .int v_thrown, .int v_taped, .ref m_tape, .ref m_count, .ref m_nameSize, .ref m_names, .ref m_size, .ref m_data, .int v_lookedSize, .ref m_looked, .int v_fileSize, .ref m_file, .int v_directorySize, .ref m_directory, .int v_outSize, .ref m_out, .int v_rowSize, .ref m_row, .int v_bitAt, .int v_bitEnd, .int w3, .int v_madeSize, .ref m_made, .ref m_length, .int v_firstCount, .int v_secondCount, .int v_heldBits, .int v_heldCount, .int v_pressedSize, .ref m_pressed, .int v_at, .int v_bad, .int v_markSize, .ref m_mark, .int v_relationCount, .ref m_idSize, .ref m_ids, .ref m_goalSize, .ref m_goals, .int v_valueSize, .ref m_value, .int v_faultCount, .ref m_faults, .ref m_reached])), (m_row, .inl (G.2.1, 20000, .inl a_row))] 0 0 := by
    intro w3 y0 y1 y2 y3
    refine pb_iconst (pc := 18) (v := 0) d_Mod_number_18 (by decide) ?_
    refine pb_istore_n (pc := 19) (lo' := [(2, .int 0), (0, .ref h), (1, .int n)]) d_Mod_number_19 rfl (by decide) rfl ?_
    refine pb_iconst (pc := 20) (v := 0) d_Mod_number_20 (by decide) ?_
    refine pb_istore_n (pc := 21) (lo' := [(3, .int 0), (2, .int 0), (0, .ref h), (1, .int n)]) d_Mod_number_21 rfl (by decide) rfl ?_
    have hL22_2 : ∀ (N9 : Nat) (k : Int32) (v : Int32) (ba3 : Int32), (0 ≤ k.toInt) → (k.toInt ≤ n.toInt) → (ba3.toInt = v_bitAt.toInt + k.toInt) → (w3.toInt ≠ 0 → k.toInt = 0) → (0 ≤ v.toInt) → (v.toInt < p2 k.toInt) → (v = nu_v A v_bitAt.toInt k.toInt.toNat) → ((n.toInt - k.toInt).toNat) < N9 → pb_P l G M i_Mod_number 22 [(3, .int k), (2, .int v), (0, .ref h), (1, .int n)] [] [(h, .inr (10, [.ref m_rels, .ref m_openRels, .ref m_closeRels, .ref m_openRel, .ref m_closeRel, .ref m_comment, .ref m_ends, .ref m_order, .int v_thrown, .int v_taped, .ref m_tape, .ref m_count, .ref m_nameSize, .ref m_names, .ref m_size, .ref m_data, .int v_lookedSize, .ref m_looked, .int v_fileSize, .ref m_file, .int v_directorySize, .ref m_directory, .int v_outSize, .ref m_out, .int v_rowSize, .ref m_row, .int ba3, .int v_bitEnd, .int w3, .int v_madeSize, .ref m_made, .ref m_length, .int v_firstCount, .int v_secondCount, .int v_heldBits, .int v_heldCount, .int v_pressedSize, .ref m_pressed, .int v_at, .int v_bad, .int v_markSize, .ref m_mark, .int v_relationCount, .ref m_idSize, .ref m_ids, .ref m_goalSize, .ref m_goals, .int v_valueSize, .ref m_value, .int v_faultCount, .ref m_faults, .ref m_reached])), (m_row, .inl (G.2.1, 20000, .inl a_row))] 0 0 := by
      intro N9
      induction N9 with
      | zero => intro k v ba3 k0 k1 k2 k3 v0 v1 hV hm9; exact absurd hm9 (Nat.not_lt_zero _)
      | succ N9 ih22 =>
        intro k v ba3 k0 k1 k2 k3 v0 v1 hV hm9
        refine pb_iload_n (pc := 22) d_Mod_number_22 0 rfl rfl ?_
        refine pb_iload_n (pc := 23) d_Mod_number_23 3 rfl rfl ?_
        refine pb_icmp_ge (pc := 24) (tgt := 77) d_Mod_number_24 (by decide) (fun wx3 => ?_) (fun wx3 => ?_)
        · have twx3 : n.toInt ≤ k.toInt := (ti_le rfl rfl).mp wx3
          refine pb_iload_n (pc := 77) d_Mod_number_77 1 rfl rfl ?_
          exact pb_iret (pc := 78) hQ d_Mod_number_78 rfl rfl (v, ba3, w3) ⟨rfl, (by (try dsimp only); first | done | assumption | omega (splitDisjunctions := false) | omega | decide), (show v.toInt < p2 n.toInt from (by first | (rw [show n.toInt = k.toInt by omega]; exact v1) | (have q9 := p2_pos n.toInt; have q8 : k.toInt = 0 := (by omega); rw [q8, p2_0] at v1; (try dsimp only); omega))), (show v.toInt ≤ 65535 from (by have q9 := p2_le (k := k.toInt) (by omega); (try dsimp only); omega)), (by (try dsimp only); first | done | assumption | omega (splitDisjunctions := false) | omega | decide), (by (try dsimp only); first | done | assumption | omega (splitDisjunctions := false) | omega | decide), (by (try dsimp only); first | done | assumption | omega (splitDisjunctions := false) | omega | decide), (by (try dsimp only); first | done | assumption | exact fun q9 => absurd q9 (by assumption) | exact fun q9 => absurd (by assumption) q9 | exact fun _ => (by omega (splitDisjunctions := false)) | omega (splitDisjunctions := false) | omega | decide), (by (try dsimp only); first | done | assumption | exact fun q9 => absurd q9 (by assumption) | exact fun q9 => absurd (by assumption) q9 | exact fun _ => (by omega (splitDisjunctions := false)) | omega (splitDisjunctions := false) | omega | decide), (show nu_w A v_bitEnd.toInt v_why.toInt v_bitAt.toInt n.toInt = oc_ w3.toInt v.toInt ba3.toInt from (by rcases y3 with ⟨y4, y5, y6⟩ | ⟨y4, y5, y6⟩ | ⟨y4, y6⟩; exact nu_ok y4 y6 y5 (by rw [show n.toInt.toNat = k.toInt.toNat by omega, ← hV]) (by omega); exact nu_no y4 y6 (by omega); exact nu_wr y4 y6))⟩ [0, 1] (by decide) rfl rfl (by decide) (by decide)
        · have twx3 : ¬ n.toInt ≤ k.toInt := fun z9 => wx3 ((ti_le rfl rfl).mpr z9)
          refine pb_aload_n (pc := 27) d_Mod_number_27 2 rfl rfl ?_
          refine pb_get (pc := 28) d_Mod_number_28 0 28 rfl rfl (by decide) in_Mod k_1174 rfl ?_
          refine pb_if_ne (pc := 31) (tgt := 77) d_Mod_number_31 (by decide) (fun wx4 => ?_) (fun wx4 => ?_)
          · have twx4 : ¬ w3.toInt = 0 := fun z9 => wx4 ((ti_eq rfl (by decide)).mpr z9)
            refine pb_iload_n (pc := 77) d_Mod_number_77 1 rfl rfl ?_
            exact pb_iret (pc := 78) hQ d_Mod_number_78 rfl rfl (v, ba3, w3) ⟨rfl, (by (try dsimp only); first | done | assumption | omega (splitDisjunctions := false) | omega | decide), (show v.toInt < p2 n.toInt from (by first | (rw [show n.toInt = k.toInt by omega]; exact v1) | (have q9 := p2_pos n.toInt; have q8 : k.toInt = 0 := (by omega); rw [q8, p2_0] at v1; (try dsimp only); omega))), (show v.toInt ≤ 65535 from (by have q9 := p2_le (k := k.toInt) (by omega); (try dsimp only); omega)), (by (try dsimp only); first | done | assumption | omega (splitDisjunctions := false) | omega | decide), (by (try dsimp only); first | done | assumption | omega (splitDisjunctions := false) | omega | decide), (by (try dsimp only); first | done | assumption | omega (splitDisjunctions := false) | omega | decide), (by (try dsimp only); first | done | assumption | exact fun q9 => absurd q9 (by assumption) | exact fun q9 => absurd (by assumption) q9 | exact fun _ => (by omega (splitDisjunctions := false)) | omega (splitDisjunctions := false) | omega | decide), (by (try dsimp only); first | done | assumption | exact fun q9 => absurd q9 (by assumption) | exact fun q9 => absurd (by assumption) q9 | exact fun _ => (by omega (splitDisjunctions := false)) | omega (splitDisjunctions := false) | omega | decide), (show nu_w A v_bitEnd.toInt v_why.toInt v_bitAt.toInt n.toInt = oc_ w3.toInt v.toInt ba3.toInt from (by rcases y3 with ⟨y4, y5, y6⟩ | ⟨y4, y5, y6⟩ | ⟨y4, y6⟩; exact nu_ok y4 y6 y5 (by rw [show n.toInt.toNat = k.toInt.toNat by omega, ← hV]) (by omega); exact nu_no y4 y6 (by omega); exact nu_wr y4 y6))⟩ [0, 1] (by decide) rfl rfl (by decide) (by decide)
          · have twx4 : w3.toInt = 0 := (ti_eq rfl (by decide)).mp wx4
            refine pb_iload_n (pc := 34) d_Mod_number_34 1 rfl rfl ?_
            refine pb_aload_n (pc := 35) d_Mod_number_35 2 rfl rfl ?_
            refine pb_get (pc := 36) d_Mod_number_36 0 25 rfl rfl (by decide) in_Mod k_1171 rfl ?_
            refine pb_aload_n (pc := 39) d_Mod_number_39 2 rfl rfl ?_
            refine pb_get (pc := 40) d_Mod_number_40 0 26 rfl rfl (by decide) in_Mod k_1172 rfl ?_
            refine pb_bipush (pc := 43) (v := 8) d_Mod_number_43 (by decide) ?_
            refine pb_idiv (pc := 45) d_Mod_number_45 (by decide) ?_
            refine pb_topi (fun ix5 eix5 => ?_)
            try have tix5 : ix5.toInt = ba3.toInt / 8 := ti_div 8 eix5 rfl (by decide) (by omega) (by decide)
            refine pb_bald (pc := 46) d_Mod_number_46 1 rfl (vp_in_iff.mpr (by omega)) ?_
            refine pb_topi (fun ix6 eix6 => ?_)
            have xix6 : ix6 = gr a_row ((v_bitAt.toInt + k.toInt) / 8) := gr_ld eix6 (by omega)
            have yix6 : ix6.toInt = gx a_row ((v_bitAt.toInt + k.toInt) / 8) := congrArg Int32.toInt xix6
            refine pb_aload_n (pc := 47) d_Mod_number_47 2 rfl rfl ?_
            refine pb_get (pc := 48) d_Mod_number_48 0 26 rfl rfl (by decide) in_Mod k_1172 rfl ?_
            refine pb_bipush (pc := 51) (v := 8) d_Mod_number_51 (by decide) ?_
            refine pb_irem (pc := 53) d_Mod_number_53 (by decide) ?_
            refine pb_topi (fun ix7 eix7 => ?_)
            try have tix7 : ix7.toInt = ba3.toInt % 8 := ti_rem 8 eix7 rfl (by decide) (by omega) (by decide)
            refine pb_ishr (pc := 54) d_Mod_number_54 ?_
            refine pb_topi (fun ix8 eix8 => ?_)
            refine pb_iconst (pc := 55) (v := 1) d_Mod_number_55 (by decide) ?_
            refine pb_iand (pc := 56) d_Mod_number_56 ?_
            refine pb_topi (fun ix9 eix9 => ?_)
            have tix9 : 0 ≤ ix9.toInt ∧ ix9.toInt ≤ 1 := ti_and 1 eix9 (by decide) (by decide)
            refine pb_iload_n (pc := 57) d_Mod_number_57 0 rfl rfl ?_
            refine pb_ishl (pc := 58) d_Mod_number_58 ?_
            refine pb_topi (fun ix10 eix10 => ?_)
            have g67 := num_bit (k := k) eix10 (by omega) k0 (by omega)
            refine pb_ior (pc := 59) d_Mod_number_59 ?_
            refine pb_topi (fun ix11 eix11 => ?_)
            have g68 := num_or (k := k.toInt) (m := k.toInt + 1) eix11 v0 v1 g67 k0 rfl
            refine pb_istore_n (pc := 60) (lo' := [(2, .int ix11), (3, .int k), (0, .ref h), (1, .int n)]) d_Mod_number_60 rfl (by decide) rfl ?_
            refine pb_aload_n (pc := 61) d_Mod_number_61 2 rfl rfl ?_
            refine pb_dup (pc := 62) d_Mod_number_62 rfl ?_
            refine pb_get (pc := 63) d_Mod_number_63 0 26 rfl rfl (by decide) in_Mod k_1172 rfl ?_
            refine pb_iconst (pc := 66) (v := 1) d_Mod_number_66 (by decide) ?_
            refine pb_iadd (pc := 67) d_Mod_number_67 ?_
            refine pb_topi (fun ix12 eix12 => ?_)
            try have tix12 : ix12.toInt = ba3.toInt + 1 := t2_add eix12 rfl (by decide) (by omega)
            refine pb_put (pc := 68) (ty := .int) (ws' := [(h, .inr (10, [.ref m_rels, .ref m_openRels, .ref m_closeRels, .ref m_openRel, .ref m_closeRel, .ref m_comment, .ref m_ends, .ref m_order, .int v_thrown, .int v_taped, .ref m_tape, .ref m_count, .ref m_nameSize, .ref m_names, .ref m_size, .ref m_data, .int v_lookedSize, .ref m_looked, .int v_fileSize, .ref m_file, .int v_directorySize, .ref m_directory, .int v_outSize, .ref m_out, .int v_rowSize, .ref m_row, .int ix12, .int v_bitEnd, .int w3, .int v_madeSize, .ref m_made, .ref m_length, .int v_firstCount, .int v_secondCount, .int v_heldBits, .int v_heldCount, .int v_pressedSize, .ref m_pressed, .int v_at, .int v_bad, .int v_markSize, .ref m_mark, .int v_relationCount, .ref m_idSize, .ref m_ids, .ref m_goalSize, .ref m_goals, .int v_valueSize, .ref m_value, .int v_faultCount, .ref m_faults, .ref m_reached])), (m_row, .inl (G.2.1, 20000, .inl a_row))]) d_Mod_number_68 0 26 t_Mod t_Mod_ok n_Mod rfl rfl (by decide) in_Mod k_1172 rfl (by decide +kernel) rfl rfl (Nat.le_of_ble_eq_true rfl) rfl ?_
            refine pb_iincN (pc := 71) (c := 1) d_Mod_number_71 1 rfl (by decide) (by decide) (fun ix13 eix13 => ?_)
            have tix13 : ix13.toInt = k.toInt + 1 := t2_add eix13 rfl (by decide) (by first | omega | (have r90 := ti_rng k; have r91 := ti_rng ix13; have r92 := ti_rng ix11; have r93 := ti_rng n; omega))
            refine pb_eq (pc' := 74) (lo' := [(3, .int ix13), (2, .int ix11), (0, .ref h), (1, .int n)]) (rest' := []) (ws' := [(h, .inr (10, [.ref m_rels, .ref m_openRels, .ref m_closeRels, .ref m_openRel, .ref m_closeRel, .ref m_comment, .ref m_ends, .ref m_order, .int v_thrown, .int v_taped, .ref m_tape, .ref m_count, .ref m_nameSize, .ref m_names, .ref m_size, .ref m_data, .int v_lookedSize, .ref m_looked, .int v_fileSize, .ref m_file, .int v_directorySize, .ref m_directory, .int v_outSize, .ref m_out, .int v_rowSize, .ref m_row, .int ix12, .int v_bitEnd, .int w3, .int v_madeSize, .ref m_made, .ref m_length, .int v_firstCount, .int v_secondCount, .int v_heldBits, .int v_heldCount, .int v_pressedSize, .ref m_pressed, .int v_at, .int v_bad, .int v_markSize, .ref m_mark, .int v_relationCount, .ref m_idSize, .ref m_ids, .ref m_goalSize, .ref m_goals, .int v_valueSize, .ref m_value, .int v_faultCount, .ref m_faults, .ref m_reached])), (m_row, .inl (G.2.1, 20000, .inl a_row))]) ?_
            refine pb_goto (pc := 74) (tgt := 22) d_Mod_number_74 (by decide) ?_
            exact ih22 ix13 ix11 ix12 (by first | assumption | omega (splitDisjunctions := false) | omega | decide) (by first | assumption | omega (splitDisjunctions := false) | omega | decide) (by first | assumption | omega (splitDisjunctions := false) | omega | decide) (by first | assumption | exact fun q9 => absurd q9 (by assumption) | exact fun q9 => absurd (by assumption) q9 | exact fun _ => (by omega (splitDisjunctions := false)) | omega (splitDisjunctions := false) | omega | decide) g68.1 (by rw [show ix13.toInt = k.toInt + 1 by omega]; exact g68.2) (by refine nu_st hV k0 (by omega) ?_ rfl (by assumption) (by assumption); exact bq_E (by assumption) (by assumption) (by assumption) (by omega) (hA _ (by omega) (by omega))) (by omega)
    exact hL22_2 _ 0 0 v_bitAt (by first | assumption | omega (splitDisjunctions := false) | omega | decide) (by first | assumption | omega (splitDisjunctions := false) | omega | decide) (by first | assumption | omega (splitDisjunctions := false) | omega | decide) (by first | assumption | exact fun q9 => absurd q9 (by assumption) | exact fun q9 => absurd (by assumption) q9 | exact fun _ => (by omega (splitDisjunctions := false)) | omega (splitDisjunctions := false) | omega | decide) (by first | assumption | omega (splitDisjunctions := false) | omega | decide) (by rw [zl0, p2_0]; omega) (by rw [zl0]; rfl) (Nat.lt_succ_self _)
  refine pb_aload_n (pc := 0) d_Mod_number_0 0 rfl rfl ?_
  refine pb_get (pc := 1) d_Mod_number_1 0 26 rfl rfl (by decide) in_Mod k_1172 rfl ?_
  refine pb_iload_n (pc := 4) d_Mod_number_4 1 rfl rfl ?_
  refine pb_iadd (pc := 5) d_Mod_number_5 ?_
  refine pb_topi (fun ix14 eix14 => ?_)
  try have tix14 : ix14.toInt = v_bitAt.toInt + n.toInt := t2_add eix14 rfl rfl (by omega)
  refine pb_aload_n (pc := 6) d_Mod_number_6 0 rfl rfl ?_
  refine pb_get (pc := 7) d_Mod_number_7 0 27 rfl rfl (by decide) in_Mod k_1173 rfl ?_
  refine pb_icmp_le (pc := 10) (tgt := 18) d_Mod_number_10 (by decide) (fun wx15 => ?_) (fun wx15 => ?_)
  · have twx15 : ix14.toInt ≤ v_bitEnd.toInt := (ti_le rfl rfl).mp wx15
    exact hJ18_1 v_why (by first | assumption | omega (splitDisjunctions := false) | omega | decide) (by first | assumption | exact fun q9 => absurd q9 (by assumption) | exact fun q9 => absurd (by assumption) q9 | exact fun _ => (by omega (splitDisjunctions := false)) | omega (splitDisjunctions := false) | omega | decide) (by first | assumption | exact fun q9 => absurd q9 (by assumption) | exact fun q9 => absurd (by assumption) q9 | exact fun _ => (by omega (splitDisjunctions := false)) | omega (splitDisjunctions := false) | omega | decide) (by first | assumption | omega (splitDisjunctions := false) | omega | decide)
  · have twx15 : ¬ ix14.toInt ≤ v_bitEnd.toInt := fun z9 => wx15 ((ti_le rfl rfl).mpr z9)
    refine pb_aload_n (pc := 13) d_Mod_number_13 0 rfl rfl ?_
    refine pb_iconst (pc := 14) (v := 1) d_Mod_number_14 (by decide) ?_
    refine pb_callV (pc := 15) (I := i_Mod_number) (qb := 0) (ci := 10) (nA := 1) (rest := []) (wr := [(m_row, .inl (G.2.1, 20000, .inl a_row))]) d_Mod_number_15 (g_Mod_fail hl G h m_rels m_openRels m_closeRels m_openRel m_closeRel m_comment m_ends m_order m_tape m_count m_nameSize m_names m_size m_data m_looked m_file m_directory m_out m_row m_made m_length m_pressed m_mark m_idSize m_ids m_goalSize m_goals m_value m_faults m_reached v_thrown v_taped v_lookedSize v_fileSize v_directorySize v_outSize v_rowSize v_bitAt v_bitEnd v_why v_madeSize v_firstCount v_secondCount v_heldBits v_heldCount v_pressedSize v_at v_bad v_markSize v_relationCount v_valueSize v_faultCount 1 (by first | assumption | omega (splitDisjunctions := false) | omega | decide) (by first | assumption | omega (splitDisjunctions := false) | omega | decide)) rfl rfl [0] [1] (by decide) rfl rfl rfl (by decide) (by decide) k_1434 rfl k_128 k_1431 k_1433 k_70 ⟨rfl, hy_Mod_fail⟩ (by decide) rfl rfl (Nat.le_of_ble_eq_true rfl) (by decide) (fun v9 ux17 ch16 => ?_)
    obtain ⟨w_18, rfl⟩ : ∃ z9, z9 = ux17 := ⟨_, rfl⟩
    obtain ⟨ech16, ch16⟩ := ch16
    have ech16 : v9 = none := ech16
    subst ech16
    obtain ⟨fh19, fh20⟩ : (0 < w_18.toInt) ∧ (v_why.toInt = 0 ∧ w_18.toInt = (1 : Int32).toInt ∨ v_why.toInt ≠ 0 ∧ w_18.toInt = v_why.toInt) := ch16
    refine pb_eq (pc' := 18) (lo' := [(0, .ref h), (1, .int n)]) (rest' := []) (ws' := [(m_row, .inl (G.2.1, 20000, .inl a_row)), (h, .inr (10, [.ref m_rels, .ref m_openRels, .ref m_closeRels, .ref m_openRel, .ref m_closeRel, .ref m_comment, .ref m_ends, .ref m_order, .int v_thrown, .int v_taped, .ref m_tape, .ref m_count, .ref m_nameSize, .ref m_names, .ref m_size, .ref m_data, .int v_lookedSize, .ref m_looked, .int v_fileSize, .ref m_file, .int v_directorySize, .ref m_directory, .int v_outSize, .ref m_out, .int v_rowSize, .ref m_row, .int v_bitAt, .int v_bitEnd, .int w_18, .int v_madeSize, .ref m_made, .ref m_length, .int v_firstCount, .int v_secondCount, .int v_heldBits, .int v_heldCount, .int v_pressedSize, .ref m_pressed, .int v_at, .int v_bad, .int v_markSize, .ref m_mark, .int v_relationCount, .ref m_idSize, .ref m_ids, .ref m_goalSize, .ref m_goals, .int v_valueSize, .ref m_value, .int v_faultCount, .ref m_faults, .ref m_reached]))]) ?_
    refine pb_re (ws' := [(h, .inr (10, [.ref m_rels, .ref m_openRels, .ref m_closeRels, .ref m_openRel, .ref m_closeRel, .ref m_comment, .ref m_ends, .ref m_order, .int v_thrown, .int v_taped, .ref m_tape, .ref m_count, .ref m_nameSize, .ref m_names, .ref m_size, .ref m_data, .int v_lookedSize, .ref m_looked, .int v_fileSize, .ref m_file, .int v_directorySize, .ref m_directory, .int v_outSize, .ref m_out, .int v_rowSize, .ref m_row, .int v_bitAt, .int v_bitEnd, .int w_18, .int v_madeSize, .ref m_made, .ref m_length, .int v_firstCount, .int v_secondCount, .int v_heldBits, .int v_heldCount, .int v_pressedSize, .ref m_pressed, .int v_at, .int v_bad, .int v_markSize, .ref m_mark, .int v_relationCount, .ref m_idSize, .ref m_ids, .ref m_goalSize, .ref m_goals, .int v_valueSize, .ref m_value, .int v_faultCount, .ref m_faults, .ref m_reached])), (m_row, .inl (G.2.1, 20000, .inl a_row))]) (lo' := [(0, .ref h), (1, .int n)]) [1, 0] [0, 1] (by decide) rfl rfl rfl ?_
    exact hJ18_1 w_18 (by first | assumption | omega (splitDisjunctions := false) | omega | decide) (by first | assumption | exact fun q9 => absurd q9 (by assumption) | exact fun q9 => absurd (by assumption) q9 | exact fun _ => (by omega (splitDisjunctions := false)) | omega (splitDisjunctions := false) | omega | decide) (by first | assumption | exact fun q9 => absurd q9 (by assumption) | exact fun q9 => absurd (by assumption) q9 | exact fun _ => (by omega (splitDisjunctions := false)) | omega (splitDisjunctions := false) | omega | decide) (by first | assumption | omega (splitDisjunctions := false) | omega | decide)

theorem d_Mod_many_0 : decode prog_12_method_33_code 0 = .ok (.iconst 0, 1) := by decide +kernel
theorem d_Mod_many_1 : decode prog_12_method_33_code 1 = .ok (.istore 4, 2) := by decide +kernel
theorem d_Mod_many_3 : decode prog_12_method_33_code 3 = .ok (.iconst 0, 1) := by decide +kernel
theorem d_Mod_many_4 : decode prog_12_method_33_code 4 = .ok (.istore 5, 2) := by decide +kernel
theorem d_Mod_many_6 : decode prog_12_method_33_code 6 = .ok (.iload 5, 2) := by decide +kernel
theorem d_Mod_many_8 : decode prog_12_method_33_code 8 = .ok (.iload_n 2, 1) := by decide +kernel
theorem d_Mod_many_9 : decode prog_12_method_33_code 9 = .ok (.if_icmp .ge 53, 3) := by decide +kernel
theorem d_Mod_many_62 : decode prog_12_method_33_code 62 = .ok (.iload 4, 2) := by decide +kernel
theorem d_Mod_many_64 : decode prog_12_method_33_code 64 = .ok (.ireturn, 1) := by decide +kernel
theorem d_Mod_many_56 : decode prog_12_method_33_code 56 = .ok (.iinc 5 1, 3) := by decide +kernel
theorem d_Mod_many_59 : decode prog_12_method_33_code 59 = .ok (.goto (-53), 3) := by decide +kernel
theorem d_Mod_many_12 : decode prog_12_method_33_code 12 = .ok (.iload_n 3, 1) := by decide +kernel
theorem d_Mod_many_13 : decode prog_12_method_33_code 13 = .ok (.ifCond .ne 15, 3) := by decide +kernel
theorem d_Mod_many_28 : decode prog_12_method_33_code 28 = .ok (.iload_n 3, 1) := by decide +kernel
theorem d_Mod_many_29 : decode prog_12_method_33_code 29 = .ok (.ifCond .le 23, 3) := by decide +kernel
theorem d_Mod_many_52 : decode prog_12_method_33_code 52 = .ok (.iload 4, 2) := by decide +kernel
theorem d_Mod_many_54 : decode prog_12_method_33_code 54 = .ok (.istore 4, 2) := by decide +kernel
theorem d_Mod_many_32 : decode prog_12_method_33_code 32 = .ok (.aload_n 0, 1) := by decide +kernel
theorem d_Mod_many_33 : decode prog_12_method_33_code 33 = .ok (.getfield 72, 3) := by decide +kernel
theorem d_Mod_many_36 : decode prog_12_method_33_code 36 = .ok (.iload_n 1, 1) := by decide +kernel
theorem d_Mod_many_37 : decode prog_12_method_33_code 37 = .ok (.iload 5, 2) := by decide +kernel
theorem d_Mod_many_39 : decode prog_12_method_33_code 39 = .ok (.iadd, 1) := by decide +kernel
theorem d_Mod_many_40 : decode prog_12_method_33_code 40 = .ok (.iaload, 1) := by decide +kernel
theorem d_Mod_many_41 : decode prog_12_method_33_code 41 = .ok (.iload_n 3, 1) := by decide +kernel
theorem d_Mod_many_42 : decode prog_12_method_33_code 42 = .ok (.if_icmp .ne 10, 3) := by decide +kernel
theorem d_Mod_many_45 : decode prog_12_method_33_code 45 = .ok (.iload 4, 2) := by decide +kernel
theorem d_Mod_many_47 : decode prog_12_method_33_code 47 = .ok (.iconst 1, 1) := by decide +kernel
theorem d_Mod_many_48 : decode prog_12_method_33_code 48 = .ok (.iadd, 1) := by decide +kernel
theorem d_Mod_many_49 : decode prog_12_method_33_code 49 = .ok (.goto 5, 3) := by decide +kernel
theorem d_Mod_many_16 : decode prog_12_method_33_code 16 = .ok (.aload_n 0, 1) := by decide +kernel
theorem d_Mod_many_17 : decode prog_12_method_33_code 17 = .ok (.getfield 72, 3) := by decide +kernel
theorem d_Mod_many_20 : decode prog_12_method_33_code 20 = .ok (.iload_n 1, 1) := by decide +kernel
theorem d_Mod_many_21 : decode prog_12_method_33_code 21 = .ok (.iload 5, 2) := by decide +kernel
theorem d_Mod_many_23 : decode prog_12_method_33_code 23 = .ok (.iadd, 1) := by decide +kernel
theorem d_Mod_many_24 : decode prog_12_method_33_code 24 = .ok (.iaload, 1) := by decide +kernel
theorem d_Mod_many_25 : decode prog_12_method_33_code 25 = .ok (.ifCond .gt 20, 3) := by decide +kernel
abbrev y_Mod_many : MethodName := ⟨"PackageBookModel", "many", "(III)I"⟩
abbrev i_Mod_many : pb_I := (y_Mod_many, prog_12_method_33_code, 6, (some Jvm.ClassFile.FieldType.int), [], { frames := 0, cells := 0, slots := 0, locals := 0 })
set_option maxRecDepth 100000 in
set_option maxHeartbeats 4000000 in
theorem g_Mod_many {l : Launch} (hl : l.stackTraces = false) (G : pb_G) (h : Nat) (m_rels : Nat) (m_openRels : Nat) (m_closeRels : Nat) (m_openRel : Nat) (m_closeRel : Nat) (m_comment : Nat) (m_ends : Nat) (m_order : Nat) (m_tape : Nat) (m_count : Nat) (m_nameSize : Nat) (m_names : Nat) (m_size : Nat) (m_data : Nat) (m_looked : Nat) (m_file : Nat) (m_directory : Nat) (m_out : Nat) (m_row : Nat) (m_made : Nat) (m_length : Nat) (m_pressed : Nat) (m_mark : Nat) (m_idSize : Nat) (m_ids : Nat) (m_goalSize : Nat) (m_goals : Nat) (m_value : Nat) (m_faults : Nat) (m_reached : Nat) (v_thrown : Int32) (v_taped : Int32) (v_lookedSize : Int32) (v_fileSize : Int32) (v_directorySize : Int32) (v_outSize : Int32) (v_rowSize : Int32) (v_bitAt : Int32) (v_bitEnd : Int32) (v_why : Int32) (v_madeSize : Int32) (v_firstCount : Int32) (v_secondCount : Int32) (v_heldBits : Int32) (v_heldCount : Int32) (v_pressedSize : Int32) (v_at : Int32) (v_bad : Int32) (v_markSize : Int32) (v_relationCount : Int32) (v_valueSize : Int32) (v_faultCount : Int32) (a_length : Nat → Int32) (x : Int32) (n : Int32) (b : Int32) (L : Int → Int) (h0 : 0 ≤ x.toInt) (h1 : 0 ≤ n.toInt) (h2 : x.toInt + n.toInt ≤ 420) (hL : ∀ k : Int, 0 ≤ k → k < n.toInt → L k = gx a_length (x.toInt + k)) (hL2 : ∀ k : Int, 0 ≤ k → k < n.toInt → 0 ≤ L k ∧ L k ≤ 15) : Cn l G i_Mod_many [.ref h, .int x, .int n, .int b] [(h, .inr (10, [.ref m_rels, .ref m_openRels, .ref m_closeRels, .ref m_openRel, .ref m_closeRel, .ref m_comment, .ref m_ends, .ref m_order, .int v_thrown, .int v_taped, .ref m_tape, .ref m_count, .ref m_nameSize, .ref m_names, .ref m_size, .ref m_data, .int v_lookedSize, .ref m_looked, .int v_fileSize, .ref m_file, .int v_directorySize, .ref m_directory, .int v_outSize, .ref m_out, .int v_rowSize, .ref m_row, .int v_bitAt, .int v_bitEnd, .int v_why, .int v_madeSize, .ref m_made, .ref m_length, .int v_firstCount, .int v_secondCount, .int v_heldBits, .int v_heldCount, .int v_pressedSize, .ref m_pressed, .int v_at, .int v_bad, .int v_markSize, .ref m_mark, .int v_relationCount, .ref m_idSize, .ref m_ids, .ref m_goalSize, .ref m_goals, .int v_valueSize, .ref m_value, .int v_faultCount, .ref m_faults, .ref m_reached])), (m_length, .inl (G.2.2.1, 420, .inl a_length))] (S := Int32) (fun rv_ u => rv_ = some (.int u) ∧ (0 ≤ u.toInt) ∧ (u.toInt ≤ n.toInt) ∧ (0 < b.toInt → u.toInt = cnt a_length x.toInt b.toInt n.toInt.toNat) ∧ (0 < b.toInt → u.toInt = ct_ L b.toInt n.toInt.toNat) ∧ (b.toInt = 0 → u.toInt = lt_ L 16 n.toInt.toNat)) (fun u => [(h, .inr (10, [.ref m_rels, .ref m_openRels, .ref m_closeRels, .ref m_openRel, .ref m_closeRel, .ref m_comment, .ref m_ends, .ref m_order, .int v_thrown, .int v_taped, .ref m_tape, .ref m_count, .ref m_nameSize, .ref m_names, .ref m_size, .ref m_data, .int v_lookedSize, .ref m_looked, .int v_fileSize, .ref m_file, .int v_directorySize, .ref m_directory, .int v_outSize, .ref m_out, .int v_rowSize, .ref m_row, .int v_bitAt, .int v_bitEnd, .int v_why, .int v_madeSize, .ref m_made, .ref m_length, .int v_firstCount, .int v_secondCount, .int v_heldBits, .int v_heldCount, .int v_pressedSize, .ref m_pressed, .int v_at, .int v_bad, .int v_markSize, .ref m_mark, .int v_relationCount, .ref m_idSize, .ref m_ids, .ref m_goalSize, .ref m_goals, .int v_valueSize, .ref m_value, .int v_faultCount, .ref m_faults, .ref m_reached])), (m_length, .inl (G.2.2.1, 420, .inl a_length))]) := by
  refine Cn.of hl (by decide +kernel) rfl (Nat.le_of_ble_eq_true rfl) (fun M hQ => ?_)
  refine pb_eq (pc' := 0) (lo' := [(0, .ref h), (1, .int x), (2, .int n), (3, .int b)]) (rest' := []) (ws' := [(h, .inr (10, [.ref m_rels, .ref m_openRels, .ref m_closeRels, .ref m_openRel, .ref m_closeRel, .ref m_comment, .ref m_ends, .ref m_order, .int v_thrown, .int v_taped, .ref m_tape, .ref m_count, .ref m_nameSize, .ref m_names, .ref m_size, .ref m_data, .int v_lookedSize, .ref m_looked, .int v_fileSize, .ref m_file, .int v_directorySize, .ref m_directory, .int v_outSize, .ref m_out, .int v_rowSize, .ref m_row, .int v_bitAt, .int v_bitEnd, .int v_why, .int v_madeSize, .ref m_made, .ref m_length, .int v_firstCount, .int v_secondCount, .int v_heldBits, .int v_heldCount, .int v_pressedSize, .ref m_pressed, .int v_at, .int v_bad, .int v_markSize, .ref m_mark, .int v_relationCount, .ref m_idSize, .ref m_ids, .ref m_goalSize, .ref m_goals, .int v_valueSize, .ref m_value, .int v_faultCount, .ref m_faults, .ref m_reached])), (m_length, .inl (G.2.2.1, 420, .inl a_length))]) ?_
  have zl0 : (0 : Int32).toInt = 0 := by decide
  have zl1 : (1 : Int32).toInt = 1 := by decide
  refine pb_iconst (pc := 0) (v := 0) d_Mod_many_0 (by decide) ?_
  refine pb_istore (pc := 1) (lo' := [(4, .int 0), (0, .ref h), (1, .int x), (2, .int n), (3, .int b)]) d_Mod_many_1 (by decide) rfl ?_
  refine pb_iconst (pc := 3) (v := 0) d_Mod_many_3 (by decide) ?_
  refine pb_istore (pc := 4) (lo' := [(5, .int 0), (4, .int 0), (0, .ref h), (1, .int x), (2, .int n), (3, .int b)]) d_Mod_many_4 (by decide) rfl ?_
  have hL6_1 : ∀ (N9 : Nat) (m : Int32) (s : Int32), (0 ≤ s.toInt) → (s.toInt ≤ n.toInt) → (0 ≤ m.toInt) → (m.toInt ≤ s.toInt) → (0 < b.toInt → m.toInt = cnt a_length x.toInt b.toInt s.toInt.toNat) → (0 < b.toInt → m.toInt = ct_ L b.toInt s.toInt.toNat) → (b.toInt = 0 → m.toInt = lt_ L 16 s.toInt.toNat) → ((n.toInt - s.toInt).toNat) < N9 → pb_P l G M i_Mod_many 6 [(4, .int m), (5, .int s), (0, .ref h), (1, .int x), (2, .int n), (3, .int b)] [] [(h, .inr (10, [.ref m_rels, .ref m_openRels, .ref m_closeRels, .ref m_openRel, .ref m_closeRel, .ref m_comment, .ref m_ends, .ref m_order, .int v_thrown, .int v_taped, .ref m_tape, .ref m_count, .ref m_nameSize, .ref m_names, .ref m_size, .ref m_data, .int v_lookedSize, .ref m_looked, .int v_fileSize, .ref m_file, .int v_directorySize, .ref m_directory, .int v_outSize, .ref m_out, .int v_rowSize, .ref m_row, .int v_bitAt, .int v_bitEnd, .int v_why, .int v_madeSize, .ref m_made, .ref m_length, .int v_firstCount, .int v_secondCount, .int v_heldBits, .int v_heldCount, .int v_pressedSize, .ref m_pressed, .int v_at, .int v_bad, .int v_markSize, .ref m_mark, .int v_relationCount, .ref m_idSize, .ref m_ids, .ref m_goalSize, .ref m_goals, .int v_valueSize, .ref m_value, .int v_faultCount, .ref m_faults, .ref m_reached])), (m_length, .inl (G.2.2.1, 420, .inl a_length))] 0 0 := by
    intro N9
    induction N9 with
    | zero => intro m s s0 s1 m0 m1 mc md me hm9; exact absurd hm9 (Nat.not_lt_zero _)
    | succ N9 ih6 =>
      intro m s s0 s1 m0 m1 mc md me hm9
      refine pb_iload (pc := 6) d_Mod_many_6 1 rfl ?_
      refine pb_iload_n (pc := 8) d_Mod_many_8 4 rfl rfl ?_
      refine pb_icmp_ge (pc := 9) (tgt := 62) d_Mod_many_9 (by decide) (fun wx2 => ?_) (fun wx2 => ?_)
      · have twx2 : n.toInt ≤ s.toInt := (ti_le rfl rfl).mp wx2
        refine pb_iload (pc := 62) d_Mod_many_62 0 rfl ?_
        exact pb_iret (pc := 64) hQ d_Mod_many_64 rfl rfl (m) ⟨rfl, (by (try dsimp only); first | done | assumption | omega (splitDisjunctions := false) | omega | decide), (by (try dsimp only); first | done | assumption | omega (splitDisjunctions := false) | omega | decide), (show 0 < b.toInt → m.toInt = cnt a_length x.toInt b.toInt n.toInt.toNat from (fun h9 => by rw [show n.toInt = s.toInt by omega]; exact mc h9)), (show 0 < b.toInt → m.toInt = ct_ L b.toInt n.toInt.toNat from (fun h9 => by rw [show n.toInt = s.toInt by omega]; exact md h9)), (show b.toInt = 0 → m.toInt = lt_ L 16 n.toInt.toNat from (fun h9 => by rw [show n.toInt = s.toInt by omega]; exact me h9))⟩ [0, 1] (by decide) rfl rfl (by decide) (by decide)
      · have twx2 : ¬ n.toInt ≤ s.toInt := fun z9 => wx2 ((ti_le rfl rfl).mpr z9)
        have hJ56_3 : ∀ (m2 : Int32), (m.toInt ≤ m2.toInt) → (m2.toInt ≤ m.toInt + 1) → (0 < b.toInt → gx a_length (x.toInt + s.toInt) = b.toInt → m2.toInt = m.toInt + 1) → (0 < b.toInt → gx a_length (x.toInt + s.toInt) ≠ b.toInt → m2.toInt = m.toInt) → (b.toInt = 0 → 0 < gx a_length (x.toInt + s.toInt) → m2.toInt = m.toInt + 1) → (b.toInt = 0 → ¬ 0 < gx a_length (x.toInt + s.toInt) → m2.toInt = m.toInt) → (s.toInt < n.toInt) → pb_P l G M i_Mod_many 56 [(4, .int m2), (5, .int s), (0, .ref h), (1, .int x), (2, .int n), (3, .int b)] [] [(h, .inr (10, [.ref m_rels, .ref m_openRels, .ref m_closeRels, .ref m_openRel, .ref m_closeRel, .ref m_comment, .ref m_ends, .ref m_order, .int v_thrown, .int v_taped, .ref m_tape, .ref m_count, .ref m_nameSize, .ref m_names, .ref m_size, .ref m_data, .int v_lookedSize, .ref m_looked, .int v_fileSize, .ref m_file, .int v_directorySize, .ref m_directory, .int v_outSize, .ref m_out, .int v_rowSize, .ref m_row, .int v_bitAt, .int v_bitEnd, .int v_why, .int v_madeSize, .ref m_made, .ref m_length, .int v_firstCount, .int v_secondCount, .int v_heldBits, .int v_heldCount, .int v_pressedSize, .ref m_pressed, .int v_at, .int v_bad, .int v_markSize, .ref m_mark, .int v_relationCount, .ref m_idSize, .ref m_ids, .ref m_goalSize, .ref m_goals, .int v_valueSize, .ref m_value, .int v_faultCount, .ref m_faults, .ref m_reached])), (m_length, .inl (G.2.2.1, 420, .inl a_length))] 0 0 := by
          intro m2 j0 j1 j2 j3 j4 j5 j6
          refine pb_iincN (pc := 56) (c := 1) d_Mod_many_56 1 rfl (by decide) (by decide) (fun ix4 eix4 => ?_)
          have tix4 : ix4.toInt = s.toInt + 1 := t2_add eix4 rfl (by decide) (by first | omega | (have r90 := ti_rng s; have r91 := ti_rng ix4; have r92 := ti_rng m2; have r93 := ti_rng x; have r94 := ti_rng n; have r95 := ti_rng b; omega))
          refine pb_eq (pc' := 59) (lo' := [(5, .int ix4), (4, .int m2), (0, .ref h), (1, .int x), (2, .int n), (3, .int b)]) (rest' := []) (ws' := [(h, .inr (10, [.ref m_rels, .ref m_openRels, .ref m_closeRels, .ref m_openRel, .ref m_closeRel, .ref m_comment, .ref m_ends, .ref m_order, .int v_thrown, .int v_taped, .ref m_tape, .ref m_count, .ref m_nameSize, .ref m_names, .ref m_size, .ref m_data, .int v_lookedSize, .ref m_looked, .int v_fileSize, .ref m_file, .int v_directorySize, .ref m_directory, .int v_outSize, .ref m_out, .int v_rowSize, .ref m_row, .int v_bitAt, .int v_bitEnd, .int v_why, .int v_madeSize, .ref m_made, .ref m_length, .int v_firstCount, .int v_secondCount, .int v_heldBits, .int v_heldCount, .int v_pressedSize, .ref m_pressed, .int v_at, .int v_bad, .int v_markSize, .ref m_mark, .int v_relationCount, .ref m_idSize, .ref m_ids, .ref m_goalSize, .ref m_goals, .int v_valueSize, .ref m_value, .int v_faultCount, .ref m_faults, .ref m_reached])), (m_length, .inl (G.2.2.1, 420, .inl a_length))]) ?_
          refine pb_goto (pc := 59) (tgt := 6) d_Mod_many_59 (by decide) ?_
          refine pb_re (ws' := [(h, .inr (10, [.ref m_rels, .ref m_openRels, .ref m_closeRels, .ref m_openRel, .ref m_closeRel, .ref m_comment, .ref m_ends, .ref m_order, .int v_thrown, .int v_taped, .ref m_tape, .ref m_count, .ref m_nameSize, .ref m_names, .ref m_size, .ref m_data, .int v_lookedSize, .ref m_looked, .int v_fileSize, .ref m_file, .int v_directorySize, .ref m_directory, .int v_outSize, .ref m_out, .int v_rowSize, .ref m_row, .int v_bitAt, .int v_bitEnd, .int v_why, .int v_madeSize, .ref m_made, .ref m_length, .int v_firstCount, .int v_secondCount, .int v_heldBits, .int v_heldCount, .int v_pressedSize, .ref m_pressed, .int v_at, .int v_bad, .int v_markSize, .ref m_mark, .int v_relationCount, .ref m_idSize, .ref m_ids, .ref m_goalSize, .ref m_goals, .int v_valueSize, .ref m_value, .int v_faultCount, .ref m_faults, .ref m_reached])), (m_length, .inl (G.2.2.1, 420, .inl a_length))]) (lo' := [(4, .int m2), (5, .int ix4), (0, .ref h), (1, .int x), (2, .int n), (3, .int b)]) [0, 1] [1, 0, 2, 3, 4, 5] (by decide) rfl rfl rfl ?_
          exact ih6 m2 ix4 (by first | assumption | omega (splitDisjunctions := false) | omega | decide) (by first | assumption | omega (splitDisjunctions := false) | omega | decide) (by first | assumption | omega (splitDisjunctions := false) | omega | decide) (by first | assumption | omega (splitDisjunctions := false) | omega | decide) (fun h9 => by rw [show ix4.toInt = s.toInt + 1 by omega, cnt_s s0 rfl]; split <;> omega) (fun h9 => by rw [show ix4.toInt = s.toInt + 1 by omega, ct_s s0 rfl, hL s.toInt s0 j6]; split <;> omega) (fun h9 => by have q7 := hL2 s.toInt s0 j6; rw [hL s.toInt s0 j6] at q7; rw [show ix4.toInt = s.toInt + 1 by omega, lt_sx s0 rfl, hL s.toInt s0 j6]; split <;> omega) (by omega)
        refine pb_iload_n (pc := 12) d_Mod_many_12 5 rfl rfl ?_
        refine pb_if_ne (pc := 13) (tgt := 28) d_Mod_many_13 (by decide) (fun wx5 => ?_) (fun wx5 => ?_)
        · have twx5 : ¬ b.toInt = 0 := fun z9 => wx5 ((ti_eq rfl (by decide)).mpr z9)
          refine pb_iload_n (pc := 28) d_Mod_many_28 5 rfl rfl ?_
          refine pb_if_le (pc := 29) (tgt := 52) d_Mod_many_29 (by decide) (fun wx6 => ?_) (fun wx6 => ?_)
          · have twx6 : b.toInt ≤ 0 := (ti_le rfl (by decide)).mp wx6
            refine pb_iload (pc := 52) d_Mod_many_52 0 rfl ?_
            refine pb_istore (pc := 54) (lo' := [(4, .int m), (5, .int s), (0, .ref h), (1, .int x), (2, .int n), (3, .int b)]) d_Mod_many_54 (by decide) rfl ?_
            exact hJ56_3 m (by first | assumption | omega (splitDisjunctions := false) | omega | decide) (by first | assumption | omega (splitDisjunctions := false) | omega | decide) (by first | assumption | exact fun q9 => absurd q9 (by assumption) | exact fun q9 => absurd (by assumption) q9 | exact fun _ => (by omega (splitDisjunctions := false)) | omega (splitDisjunctions := false) | omega | decide) (by first | assumption | exact fun q9 => absurd q9 (by assumption) | exact fun q9 => absurd (by assumption) q9 | exact fun _ => (by omega (splitDisjunctions := false)) | omega (splitDisjunctions := false) | omega | decide) (by first | assumption | exact fun q9 => absurd q9 (by assumption) | exact fun q9 => absurd (by assumption) q9 | exact fun _ => (by omega (splitDisjunctions := false)) | omega (splitDisjunctions := false) | omega | decide) (by first | assumption | exact fun q9 => absurd q9 (by assumption) | exact fun q9 => absurd (by assumption) q9 | exact fun _ => (by omega (splitDisjunctions := false)) | omega (splitDisjunctions := false) | omega | decide) (by first | assumption | omega (splitDisjunctions := false) | omega | decide)
          · have twx6 : ¬ b.toInt ≤ 0 := fun z9 => wx6 ((ti_le rfl (by decide)).mpr z9)
            refine pb_aload_n (pc := 32) d_Mod_many_32 2 rfl rfl ?_
            refine pb_get (pc := 33) d_Mod_many_33 0 31 rfl rfl (by decide) in_Mod k_1177 rfl ?_
            refine pb_iload_n (pc := 36) d_Mod_many_36 3 rfl rfl ?_
            refine pb_iload (pc := 37) d_Mod_many_37 1 rfl ?_
            refine pb_iadd (pc := 39) d_Mod_many_39 ?_
            refine pb_topi (fun ix7 eix7 => ?_)
            try have tix7 : ix7.toInt = x.toInt + s.toInt := t2_add eix7 rfl rfl (by omega)
            refine pb_iald (pc := 40) d_Mod_many_40 1 rfl (vp_in_iff.mpr (by omega)) ?_
            refine pb_topi (fun ix8 eix8 => ?_)
            have tix8 : ix8.toInt = gx a_length (x.toInt + s.toInt) := gx_ld eix8 (by omega)
            refine pb_iload_n (pc := 41) d_Mod_many_41 5 rfl rfl ?_
            refine pb_icmp_ne (pc := 42) (tgt := 52) d_Mod_many_42 (by decide) (fun wx9 => ?_) (fun wx9 => ?_)
            · have twx9 : ¬ ix8.toInt = b.toInt := fun z9 => wx9 ((ti_eq rfl rfl).mpr z9)
              refine pb_iload (pc := 52) d_Mod_many_52 0 rfl ?_
              refine pb_istore (pc := 54) (lo' := [(4, .int m), (5, .int s), (0, .ref h), (1, .int x), (2, .int n), (3, .int b)]) d_Mod_many_54 (by decide) rfl ?_
              exact hJ56_3 m (by first | assumption | omega (splitDisjunctions := false) | omega | decide) (by first | assumption | omega (splitDisjunctions := false) | omega | decide) (by first | assumption | exact fun q9 => absurd q9 (by assumption) | exact fun q9 => absurd (by assumption) q9 | exact fun _ => (by omega (splitDisjunctions := false)) | omega (splitDisjunctions := false) | omega | decide) (by first | assumption | exact fun q9 => absurd q9 (by assumption) | exact fun q9 => absurd (by assumption) q9 | exact fun _ => (by omega (splitDisjunctions := false)) | omega (splitDisjunctions := false) | omega | decide) (by first | assumption | exact fun q9 => absurd q9 (by assumption) | exact fun q9 => absurd (by assumption) q9 | exact fun _ => (by omega (splitDisjunctions := false)) | omega (splitDisjunctions := false) | omega | decide) (by first | assumption | exact fun q9 => absurd q9 (by assumption) | exact fun q9 => absurd (by assumption) q9 | exact fun _ => (by omega (splitDisjunctions := false)) | omega (splitDisjunctions := false) | omega | decide) (by first | assumption | omega (splitDisjunctions := false) | omega | decide)
            · have twx9 : ix8.toInt = b.toInt := (ti_eq rfl rfl).mp wx9
              refine pb_iload (pc := 45) d_Mod_many_45 0 rfl ?_
              refine pb_iconst (pc := 47) (v := 1) d_Mod_many_47 (by decide) ?_
              refine pb_iadd (pc := 48) d_Mod_many_48 ?_
              refine pb_topi (fun ix10 eix10 => ?_)
              try have tix10 : ix10.toInt = m.toInt + 1 := t2_add eix10 rfl (by decide) (by omega)
              refine pb_goto (pc := 49) (tgt := 54) d_Mod_many_49 (by decide) ?_
              refine pb_istore (pc := 54) (lo' := [(4, .int ix10), (5, .int s), (0, .ref h), (1, .int x), (2, .int n), (3, .int b)]) d_Mod_many_54 (by decide) rfl ?_
              exact hJ56_3 ix10 (by first | assumption | omega (splitDisjunctions := false) | omega | decide) (by first | assumption | omega (splitDisjunctions := false) | omega | decide) (by first | assumption | exact fun q9 => absurd q9 (by assumption) | exact fun q9 => absurd (by assumption) q9 | exact fun _ => (by omega (splitDisjunctions := false)) | omega (splitDisjunctions := false) | omega | decide) (by first | assumption | exact fun q9 => absurd q9 (by assumption) | exact fun q9 => absurd (by assumption) q9 | exact fun _ => (by omega (splitDisjunctions := false)) | omega (splitDisjunctions := false) | omega | decide) (by first | assumption | exact fun q9 => absurd q9 (by assumption) | exact fun q9 => absurd (by assumption) q9 | exact fun _ => (by omega (splitDisjunctions := false)) | omega (splitDisjunctions := false) | omega | decide) (by first | assumption | exact fun q9 => absurd q9 (by assumption) | exact fun q9 => absurd (by assumption) q9 | exact fun _ => (by omega (splitDisjunctions := false)) | omega (splitDisjunctions := false) | omega | decide) (by first | assumption | omega (splitDisjunctions := false) | omega | decide)
        · have twx5 : b.toInt = 0 := (ti_eq rfl (by decide)).mp wx5
          refine pb_aload_n (pc := 16) d_Mod_many_16 2 rfl rfl ?_
          refine pb_get (pc := 17) d_Mod_many_17 0 31 rfl rfl (by decide) in_Mod k_1177 rfl ?_
          refine pb_iload_n (pc := 20) d_Mod_many_20 3 rfl rfl ?_
          refine pb_iload (pc := 21) d_Mod_many_21 1 rfl ?_
          refine pb_iadd (pc := 23) d_Mod_many_23 ?_
          refine pb_topi (fun ix11 eix11 => ?_)
          try have tix11 : ix11.toInt = x.toInt + s.toInt := t2_add eix11 rfl rfl (by omega)
          refine pb_iald (pc := 24) d_Mod_many_24 1 rfl (vp_in_iff.mpr (by omega)) ?_
          refine pb_topi (fun ix12 eix12 => ?_)
          have tix12 : ix12.toInt = gx a_length (x.toInt + s.toInt) := gx_ld eix12 (by omega)
          refine pb_if_gt (pc := 25) (tgt := 45) d_Mod_many_25 (by decide) (fun wx13 => ?_) (fun wx13 => ?_)
          · have twx13 : 0 < ix12.toInt := (ti_lt (by decide) rfl).mp wx13
            refine pb_iload (pc := 45) d_Mod_many_45 0 rfl ?_
            refine pb_iconst (pc := 47) (v := 1) d_Mod_many_47 (by decide) ?_
            refine pb_iadd (pc := 48) d_Mod_many_48 ?_
            refine pb_topi (fun ix14 eix14 => ?_)
            try have tix14 : ix14.toInt = m.toInt + 1 := t2_add eix14 rfl (by decide) (by omega)
            refine pb_goto (pc := 49) (tgt := 54) d_Mod_many_49 (by decide) ?_
            refine pb_istore (pc := 54) (lo' := [(4, .int ix14), (5, .int s), (0, .ref h), (1, .int x), (2, .int n), (3, .int b)]) d_Mod_many_54 (by decide) rfl ?_
            exact hJ56_3 ix14 (by first | assumption | omega (splitDisjunctions := false) | omega | decide) (by first | assumption | omega (splitDisjunctions := false) | omega | decide) (by first | assumption | exact fun q9 => absurd q9 (by assumption) | exact fun q9 => absurd (by assumption) q9 | exact fun _ => (by omega (splitDisjunctions := false)) | omega (splitDisjunctions := false) | omega | decide) (by first | assumption | exact fun q9 => absurd q9 (by assumption) | exact fun q9 => absurd (by assumption) q9 | exact fun _ => (by omega (splitDisjunctions := false)) | omega (splitDisjunctions := false) | omega | decide) (by first | assumption | exact fun q9 => absurd q9 (by assumption) | exact fun q9 => absurd (by assumption) q9 | exact fun _ => (by omega (splitDisjunctions := false)) | omega (splitDisjunctions := false) | omega | decide) (by first | assumption | exact fun q9 => absurd q9 (by assumption) | exact fun q9 => absurd (by assumption) q9 | exact fun _ => (by omega (splitDisjunctions := false)) | omega (splitDisjunctions := false) | omega | decide) (by first | assumption | omega (splitDisjunctions := false) | omega | decide)
          · have twx13 : ¬ 0 < ix12.toInt := fun z9 => wx13 ((ti_lt (by decide) rfl).mpr z9)
            refine pb_iload_n (pc := 28) d_Mod_many_28 5 rfl rfl ?_
            refine pb_if_le (pc := 29) (tgt := 52) d_Mod_many_29 (by decide) (fun wx15 => ?_) (fun wx15 => ?_)
            · have twx15 : b.toInt ≤ 0 := (ti_le rfl (by decide)).mp wx15
              refine pb_iload (pc := 52) d_Mod_many_52 0 rfl ?_
              refine pb_istore (pc := 54) (lo' := [(4, .int m), (5, .int s), (0, .ref h), (1, .int x), (2, .int n), (3, .int b)]) d_Mod_many_54 (by decide) rfl ?_
              exact hJ56_3 m (by first | assumption | omega (splitDisjunctions := false) | omega | decide) (by first | assumption | omega (splitDisjunctions := false) | omega | decide) (by first | assumption | exact fun q9 => absurd q9 (by assumption) | exact fun q9 => absurd (by assumption) q9 | exact fun _ => (by omega (splitDisjunctions := false)) | omega (splitDisjunctions := false) | omega | decide) (by first | assumption | exact fun q9 => absurd q9 (by assumption) | exact fun q9 => absurd (by assumption) q9 | exact fun _ => (by omega (splitDisjunctions := false)) | omega (splitDisjunctions := false) | omega | decide) (by first | assumption | exact fun q9 => absurd q9 (by assumption) | exact fun q9 => absurd (by assumption) q9 | exact fun _ => (by omega (splitDisjunctions := false)) | omega (splitDisjunctions := false) | omega | decide) (by first | assumption | exact fun q9 => absurd q9 (by assumption) | exact fun q9 => absurd (by assumption) q9 | exact fun _ => (by omega (splitDisjunctions := false)) | omega (splitDisjunctions := false) | omega | decide) (by first | assumption | omega (splitDisjunctions := false) | omega | decide)
            · have twx15 : ¬ b.toInt ≤ 0 := fun z9 => wx15 ((ti_le rfl (by decide)).mpr z9)
              refine pb_aload_n (pc := 32) d_Mod_many_32 2 rfl rfl ?_
              refine pb_get (pc := 33) d_Mod_many_33 0 31 rfl rfl (by decide) in_Mod k_1177 rfl ?_
              refine pb_iload_n (pc := 36) d_Mod_many_36 3 rfl rfl ?_
              refine pb_iload (pc := 37) d_Mod_many_37 1 rfl ?_
              refine pb_iadd (pc := 39) d_Mod_many_39 ?_
              refine pb_topi (fun ix16 eix16 => ?_)
              try have tix16 : ix16.toInt = x.toInt + s.toInt := t2_add eix16 rfl rfl (by omega)
              refine pb_iald (pc := 40) d_Mod_many_40 1 rfl (vp_in_iff.mpr (by omega)) ?_
              refine pb_topi (fun ix17 eix17 => ?_)
              have tix17 : ix17.toInt = gx a_length (x.toInt + s.toInt) := gx_ld eix17 (by omega)
              refine pb_iload_n (pc := 41) d_Mod_many_41 5 rfl rfl ?_
              refine pb_icmp_ne (pc := 42) (tgt := 52) d_Mod_many_42 (by decide) (fun wx18 => ?_) (fun wx18 => ?_)
              · have twx18 : ¬ ix17.toInt = b.toInt := fun z9 => wx18 ((ti_eq rfl rfl).mpr z9)
                refine pb_iload (pc := 52) d_Mod_many_52 0 rfl ?_
                refine pb_istore (pc := 54) (lo' := [(4, .int m), (5, .int s), (0, .ref h), (1, .int x), (2, .int n), (3, .int b)]) d_Mod_many_54 (by decide) rfl ?_
                exact hJ56_3 m (by first | assumption | omega (splitDisjunctions := false) | omega | decide) (by first | assumption | omega (splitDisjunctions := false) | omega | decide) (by first | assumption | exact fun q9 => absurd q9 (by assumption) | exact fun q9 => absurd (by assumption) q9 | exact fun _ => (by omega (splitDisjunctions := false)) | omega (splitDisjunctions := false) | omega | decide) (by first | assumption | exact fun q9 => absurd q9 (by assumption) | exact fun q9 => absurd (by assumption) q9 | exact fun _ => (by omega (splitDisjunctions := false)) | omega (splitDisjunctions := false) | omega | decide) (by first | assumption | exact fun q9 => absurd q9 (by assumption) | exact fun q9 => absurd (by assumption) q9 | exact fun _ => (by omega (splitDisjunctions := false)) | omega (splitDisjunctions := false) | omega | decide) (by first | assumption | exact fun q9 => absurd q9 (by assumption) | exact fun q9 => absurd (by assumption) q9 | exact fun _ => (by omega (splitDisjunctions := false)) | omega (splitDisjunctions := false) | omega | decide) (by first | assumption | omega (splitDisjunctions := false) | omega | decide)
              · have twx18 : ix17.toInt = b.toInt := (ti_eq rfl rfl).mp wx18
                refine pb_iload (pc := 45) d_Mod_many_45 0 rfl ?_
                refine pb_iconst (pc := 47) (v := 1) d_Mod_many_47 (by decide) ?_
                refine pb_iadd (pc := 48) d_Mod_many_48 ?_
                refine pb_topi (fun ix19 eix19 => ?_)
                try have tix19 : ix19.toInt = m.toInt + 1 := t2_add eix19 rfl (by decide) (by omega)
                refine pb_goto (pc := 49) (tgt := 54) d_Mod_many_49 (by decide) ?_
                refine pb_istore (pc := 54) (lo' := [(4, .int ix19), (5, .int s), (0, .ref h), (1, .int x), (2, .int n), (3, .int b)]) d_Mod_many_54 (by decide) rfl ?_
                exact hJ56_3 ix19 (by first | assumption | omega (splitDisjunctions := false) | omega | decide) (by first | assumption | omega (splitDisjunctions := false) | omega | decide) (by first | assumption | exact fun q9 => absurd q9 (by assumption) | exact fun q9 => absurd (by assumption) q9 | exact fun _ => (by omega (splitDisjunctions := false)) | omega (splitDisjunctions := false) | omega | decide) (by first | assumption | exact fun q9 => absurd q9 (by assumption) | exact fun q9 => absurd (by assumption) q9 | exact fun _ => (by omega (splitDisjunctions := false)) | omega (splitDisjunctions := false) | omega | decide) (by first | assumption | exact fun q9 => absurd q9 (by assumption) | exact fun q9 => absurd (by assumption) q9 | exact fun _ => (by omega (splitDisjunctions := false)) | omega (splitDisjunctions := false) | omega | decide) (by first | assumption | exact fun q9 => absurd q9 (by assumption) | exact fun q9 => absurd (by assumption) q9 | exact fun _ => (by omega (splitDisjunctions := false)) | omega (splitDisjunctions := false) | omega | decide) (by first | assumption | omega (splitDisjunctions := false) | omega | decide)
  refine pb_re (ws' := [(h, .inr (10, [.ref m_rels, .ref m_openRels, .ref m_closeRels, .ref m_openRel, .ref m_closeRel, .ref m_comment, .ref m_ends, .ref m_order, .int v_thrown, .int v_taped, .ref m_tape, .ref m_count, .ref m_nameSize, .ref m_names, .ref m_size, .ref m_data, .int v_lookedSize, .ref m_looked, .int v_fileSize, .ref m_file, .int v_directorySize, .ref m_directory, .int v_outSize, .ref m_out, .int v_rowSize, .ref m_row, .int v_bitAt, .int v_bitEnd, .int v_why, .int v_madeSize, .ref m_made, .ref m_length, .int v_firstCount, .int v_secondCount, .int v_heldBits, .int v_heldCount, .int v_pressedSize, .ref m_pressed, .int v_at, .int v_bad, .int v_markSize, .ref m_mark, .int v_relationCount, .ref m_idSize, .ref m_ids, .ref m_goalSize, .ref m_goals, .int v_valueSize, .ref m_value, .int v_faultCount, .ref m_faults, .ref m_reached])), (m_length, .inl (G.2.2.1, 420, .inl a_length))]) (lo' := [(4, .int 0), (5, .int 0), (0, .ref h), (1, .int x), (2, .int n), (3, .int b)]) [0, 1] [1, 0, 2, 3, 4, 5] (by decide) rfl rfl rfl ?_
  exact hL6_1 _ 0 0 (by first | assumption | omega (splitDisjunctions := false) | omega | decide) (by first | assumption | omega (splitDisjunctions := false) | omega | decide) (by first | assumption | omega (splitDisjunctions := false) | omega | decide) (by first | assumption | omega (splitDisjunctions := false) | omega | decide) (fun _ => by rw [zl0]; rfl) (fun _ => by rw [zl0]; rfl) (fun _ => by rw [zl0]; rfl) (Nat.lt_succ_self _)

theorem d_Mod_isRight_0 : decode prog_12_method_34_code 0 = .ok (.iconst 1, 1) := by decide +kernel
theorem d_Mod_isRight_1 : decode prog_12_method_34_code 1 = .ok (.istore_n 3, 1) := by decide +kernel
theorem d_Mod_isRight_2 : decode prog_12_method_34_code 2 = .ok (.iconst 1, 1) := by decide +kernel
theorem d_Mod_isRight_3 : decode prog_12_method_34_code 3 = .ok (.istore 4, 2) := by decide +kernel
theorem d_Mod_isRight_5 : decode prog_12_method_34_code 5 = .ok (.iload 4, 2) := by decide +kernel
theorem d_Mod_isRight_7 : decode prog_12_method_34_code 7 = .ok (.bipush 16, 2) := by decide +kernel
theorem d_Mod_isRight_9 : decode prog_12_method_34_code 9 = .ok (.if_icmp .ge 28, 3) := by decide +kernel
theorem d_Mod_isRight_37 : decode prog_12_method_34_code 37 = .ok (.iload_n 3, 1) := by decide +kernel
theorem d_Mod_isRight_38 : decode prog_12_method_34_code 38 = .ok (.ifCond .eq 25, 3) := by decide +kernel
theorem d_Mod_isRight_63 : decode prog_12_method_34_code 63 = .ok (.iconst 1, 1) := by decide +kernel
theorem d_Mod_isRight_64 : decode prog_12_method_34_code 64 = .ok (.goto 4, 3) := by decide +kernel
theorem d_Mod_isRight_68 : decode prog_12_method_34_code 68 = .ok (.ireturn, 1) := by decide +kernel
theorem d_Mod_isRight_41 : decode prog_12_method_34_code 41 = .ok (.aload_n 0, 1) := by decide +kernel
theorem d_Mod_isRight_42 : decode prog_12_method_34_code 42 = .ok (.iload_n 1, 1) := by decide +kernel
theorem d_Mod_isRight_43 : decode prog_12_method_34_code 43 = .ok (.iload_n 2, 1) := by decide +kernel
theorem d_Mod_isRight_44 : decode prog_12_method_34_code 44 = .ok (.iconst 0, 1) := by decide +kernel
theorem d_Mod_isRight_45 : decode prog_12_method_34_code 45 = .ok (.invokevirtual 209, 3) := by decide +kernel
theorem k_1456 : (Jvm.Cond.methodLink "PackageBookModel" (209 : Nat) ({ cls := "PackageBookModel", name := "many", desc := "(III)I" } : Jvm.MethodName)) ∈ uW := uW_of 1456 (by decide +kernel) (by decide +kernel)
theorem k_1459 : (Jvm.Cond.code ({ cls := "PackageBookModel", name := "many", desc := "(III)I" } : Jvm.MethodName) prog_12_method_33_code (6 : Nat) (Option.some Jvm.ClassFile.FieldType.int)) ∈ uW := uW_of 1459 (by decide +kernel) (by decide +kernel)
theorem k_1458 : (Jvm.Cond.instanceMethod ({ cls := "PackageBookModel", name := "many", desc := "(III)I" } : Jvm.MethodName)) ∈ uW := uW_of 1458 (by decide +kernel) (by decide +kernel)
theorem k_76 : Cond.selects "PackageBookModel" ⟨"PackageBookModel", "many", "(III)I"⟩ ⟨"PackageBookModel", "many", "(III)I"⟩ ∈ uW := uW_of 76 (by decide +kernel) (by decide +kernel)
theorem hy_Mod_many : (y_Mod_many).cls ≠ "java/lang/invoke/MethodHandle" ∧ (y_Mod_many).cls ≠ "java/lang/invoke/VarHandle" ∧ (parseMethodDescriptor (y_Mod_many).desc).map (fun d => d.parameters.length) = some 3 := by decide +kernel
theorem d_Mod_isRight_48 : decode prog_12_method_34_code 48 = .ok (.iconst 1, 1) := by decide +kernel
theorem d_Mod_isRight_49 : decode prog_12_method_34_code 49 = .ok (.if_icmp .ne 18, 3) := by decide +kernel
theorem d_Mod_isRight_67 : decode prog_12_method_34_code 67 = .ok (.iconst 0, 1) := by decide +kernel
theorem d_Mod_isRight_52 : decode prog_12_method_34_code 52 = .ok (.aload_n 0, 1) := by decide +kernel
theorem d_Mod_isRight_53 : decode prog_12_method_34_code 53 = .ok (.iload_n 1, 1) := by decide +kernel
theorem d_Mod_isRight_54 : decode prog_12_method_34_code 54 = .ok (.iload_n 2, 1) := by decide +kernel
theorem d_Mod_isRight_55 : decode prog_12_method_34_code 55 = .ok (.iconst 1, 1) := by decide +kernel
theorem d_Mod_isRight_56 : decode prog_12_method_34_code 56 = .ok (.invokevirtual 209, 3) := by decide +kernel
theorem d_Mod_isRight_59 : decode prog_12_method_34_code 59 = .ok (.iconst 1, 1) := by decide +kernel
theorem d_Mod_isRight_60 : decode prog_12_method_34_code 60 = .ok (.if_icmp .ne 7, 3) := by decide +kernel
theorem d_Mod_isRight_12 : decode prog_12_method_34_code 12 = .ok (.iconst 2, 1) := by decide +kernel
theorem d_Mod_isRight_13 : decode prog_12_method_34_code 13 = .ok (.iload_n 3, 1) := by decide +kernel
theorem d_Mod_isRight_14 : decode prog_12_method_34_code 14 = .ok (.imul, 1) := by decide +kernel
theorem d_Mod_isRight_15 : decode prog_12_method_34_code 15 = .ok (.aload_n 0, 1) := by decide +kernel
theorem d_Mod_isRight_16 : decode prog_12_method_34_code 16 = .ok (.iload_n 1, 1) := by decide +kernel
theorem d_Mod_isRight_17 : decode prog_12_method_34_code 17 = .ok (.iload_n 2, 1) := by decide +kernel
theorem d_Mod_isRight_18 : decode prog_12_method_34_code 18 = .ok (.iload 4, 2) := by decide +kernel
theorem d_Mod_isRight_20 : decode prog_12_method_34_code 20 = .ok (.invokevirtual 209, 3) := by decide +kernel
theorem d_Mod_isRight_23 : decode prog_12_method_34_code 23 = .ok (.isub, 1) := by decide +kernel
theorem d_Mod_isRight_24 : decode prog_12_method_34_code 24 = .ok (.istore_n 3, 1) := by decide +kernel
theorem d_Mod_isRight_25 : decode prog_12_method_34_code 25 = .ok (.iload_n 3, 1) := by decide +kernel
theorem d_Mod_isRight_26 : decode prog_12_method_34_code 26 = .ok (.ifCond .ge 5, 3) := by decide +kernel
theorem d_Mod_isRight_31 : decode prog_12_method_34_code 31 = .ok (.iinc 4 1, 3) := by decide +kernel
theorem d_Mod_isRight_34 : decode prog_12_method_34_code 34 = .ok (.goto (-29), 3) := by decide +kernel
theorem d_Mod_isRight_29 : decode prog_12_method_34_code 29 = .ok (.iconst 0, 1) := by decide +kernel
theorem d_Mod_isRight_30 : decode prog_12_method_34_code 30 = .ok (.ireturn, 1) := by decide +kernel
abbrev y_Mod_isRight : MethodName := ⟨"PackageBookModel", "isRight", "(II)Z"⟩
abbrev i_Mod_isRight : pb_I := (y_Mod_isRight, prog_12_method_34_code, 5, (some Jvm.ClassFile.FieldType.boolean), [], { frames := 1, cells := 0, slots := 0, locals := 25 })
set_option maxRecDepth 100000 in
set_option maxHeartbeats 4000000 in
theorem g_Mod_isRight {l : Launch} (hl : l.stackTraces = false) (G : pb_G) (h : Nat) (m_rels : Nat) (m_openRels : Nat) (m_closeRels : Nat) (m_openRel : Nat) (m_closeRel : Nat) (m_comment : Nat) (m_ends : Nat) (m_order : Nat) (m_tape : Nat) (m_count : Nat) (m_nameSize : Nat) (m_names : Nat) (m_size : Nat) (m_data : Nat) (m_looked : Nat) (m_file : Nat) (m_directory : Nat) (m_out : Nat) (m_row : Nat) (m_made : Nat) (m_length : Nat) (m_pressed : Nat) (m_mark : Nat) (m_idSize : Nat) (m_ids : Nat) (m_goalSize : Nat) (m_goals : Nat) (m_value : Nat) (m_faults : Nat) (m_reached : Nat) (v_thrown : Int32) (v_taped : Int32) (v_lookedSize : Int32) (v_fileSize : Int32) (v_directorySize : Int32) (v_outSize : Int32) (v_rowSize : Int32) (v_bitAt : Int32) (v_bitEnd : Int32) (v_why : Int32) (v_madeSize : Int32) (v_firstCount : Int32) (v_secondCount : Int32) (v_heldBits : Int32) (v_heldCount : Int32) (v_pressedSize : Int32) (v_at : Int32) (v_bad : Int32) (v_markSize : Int32) (v_relationCount : Int32) (v_valueSize : Int32) (v_faultCount : Int32) (a_length : Nat → Int32) (x : Int32) (n : Int32) (L : Int → Int) (h0 : 0 ≤ x.toInt) (h1 : 0 ≤ n.toInt) (h2 : x.toInt + n.toInt ≤ 420) (hL : ∀ k : Int, 0 ≤ k → k < n.toInt → L k = gx a_length (x.toInt + k)) (hL2 : ∀ k : Int, 0 ≤ k → k < n.toInt → 0 ≤ L k ∧ L k ≤ 15) : Cn l G i_Mod_isRight [.ref h, .int x, .int n] [(h, .inr (10, [.ref m_rels, .ref m_openRels, .ref m_closeRels, .ref m_openRel, .ref m_closeRel, .ref m_comment, .ref m_ends, .ref m_order, .int v_thrown, .int v_taped, .ref m_tape, .ref m_count, .ref m_nameSize, .ref m_names, .ref m_size, .ref m_data, .int v_lookedSize, .ref m_looked, .int v_fileSize, .ref m_file, .int v_directorySize, .ref m_directory, .int v_outSize, .ref m_out, .int v_rowSize, .ref m_row, .int v_bitAt, .int v_bitEnd, .int v_why, .int v_madeSize, .ref m_made, .ref m_length, .int v_firstCount, .int v_secondCount, .int v_heldBits, .int v_heldCount, .int v_pressedSize, .ref m_pressed, .int v_at, .int v_bad, .int v_markSize, .ref m_mark, .int v_relationCount, .ref m_idSize, .ref m_ids, .ref m_goalSize, .ref m_goals, .int v_valueSize, .ref m_value, .int v_faultCount, .ref m_faults, .ref m_reached])), (m_length, .inl (G.2.2.1, 420, .inl a_length))] (S := Int32) (fun rv_ u => rv_ = some (.int u) ∧ (u.toInt = 0 ∨ u.toInt = 1) ∧ (u.toInt = rt_f L n.toInt)) (fun u => [(h, .inr (10, [.ref m_rels, .ref m_openRels, .ref m_closeRels, .ref m_openRel, .ref m_closeRel, .ref m_comment, .ref m_ends, .ref m_order, .int v_thrown, .int v_taped, .ref m_tape, .ref m_count, .ref m_nameSize, .ref m_names, .ref m_size, .ref m_data, .int v_lookedSize, .ref m_looked, .int v_fileSize, .ref m_file, .int v_directorySize, .ref m_directory, .int v_outSize, .ref m_out, .int v_rowSize, .ref m_row, .int v_bitAt, .int v_bitEnd, .int v_why, .int v_madeSize, .ref m_made, .ref m_length, .int v_firstCount, .int v_secondCount, .int v_heldBits, .int v_heldCount, .int v_pressedSize, .ref m_pressed, .int v_at, .int v_bad, .int v_markSize, .ref m_mark, .int v_relationCount, .ref m_idSize, .ref m_ids, .ref m_goalSize, .ref m_goals, .int v_valueSize, .ref m_value, .int v_faultCount, .ref m_faults, .ref m_reached])), (m_length, .inl (G.2.2.1, 420, .inl a_length))]) := by
  refine Cn.of hl (by decide +kernel) rfl (Nat.le_of_ble_eq_true rfl) (fun M hQ => ?_)
  refine pb_eq (pc' := 0) (lo' := [(0, .ref h), (1, .int x), (2, .int n)]) (rest' := []) (ws' := [(h, .inr (10, [.ref m_rels, .ref m_openRels, .ref m_closeRels, .ref m_openRel, .ref m_closeRel, .ref m_comment, .ref m_ends, .ref m_order, .int v_thrown, .int v_taped, .ref m_tape, .ref m_count, .ref m_nameSize, .ref m_names, .ref m_size, .ref m_data, .int v_lookedSize, .ref m_looked, .int v_fileSize, .ref m_file, .int v_directorySize, .ref m_directory, .int v_outSize, .ref m_out, .int v_rowSize, .ref m_row, .int v_bitAt, .int v_bitEnd, .int v_why, .int v_madeSize, .ref m_made, .ref m_length, .int v_firstCount, .int v_secondCount, .int v_heldBits, .int v_heldCount, .int v_pressedSize, .ref m_pressed, .int v_at, .int v_bad, .int v_markSize, .ref m_mark, .int v_relationCount, .ref m_idSize, .ref m_ids, .ref m_goalSize, .ref m_goals, .int v_valueSize, .ref m_value, .int v_faultCount, .ref m_faults, .ref m_reached])), (m_length, .inl (G.2.2.1, 420, .inl a_length))]) ?_
  have zl0 : (0 : Int32).toInt = 0 := by decide
  have zl1 : (1 : Int32).toInt = 1 := by decide
  have zl2 : (2 : Int32).toInt = 2 := by decide
  refine pb_iconst (pc := 0) (v := 1) d_Mod_isRight_0 (by decide) ?_
  refine pb_istore_n (pc := 1) (lo' := [(3, .int 1), (0, .ref h), (1, .int x), (2, .int n)]) d_Mod_isRight_1 rfl (by decide) rfl ?_
  refine pb_iconst (pc := 2) (v := 1) d_Mod_isRight_2 (by decide) ?_
  refine pb_istore (pc := 3) (lo' := [(4, .int 1), (3, .int 1), (0, .ref h), (1, .int x), (2, .int n)]) d_Mod_isRight_3 (by decide) rfl ?_
  have hL5_1 : ∀ (N9 : Nat) (f : Int32) (b : Int32), (1 ≤ b.toInt) → (b.toInt ≤ 16) → (0 ≤ f.toInt) → (f.toInt ≤ p2 (b.toInt - 1)) → (rt_l L n.toInt (16 - b.toInt).toNat b.toInt f.toInt = rt_f L n.toInt) → ((16 - b.toInt).toNat) < N9 → pb_P l G M i_Mod_isRight 5 [(3, .int f), (4, .int b), (0, .ref h), (1, .int x), (2, .int n)] [] [(h, .inr (10, [.ref m_rels, .ref m_openRels, .ref m_closeRels, .ref m_openRel, .ref m_closeRel, .ref m_comment, .ref m_ends, .ref m_order, .int v_thrown, .int v_taped, .ref m_tape, .ref m_count, .ref m_nameSize, .ref m_names, .ref m_size, .ref m_data, .int v_lookedSize, .ref m_looked, .int v_fileSize, .ref m_file, .int v_directorySize, .ref m_directory, .int v_outSize, .ref m_out, .int v_rowSize, .ref m_row, .int v_bitAt, .int v_bitEnd, .int v_why, .int v_madeSize, .ref m_made, .ref m_length, .int v_firstCount, .int v_secondCount, .int v_heldBits, .int v_heldCount, .int v_pressedSize, .ref m_pressed, .int v_at, .int v_bad, .int v_markSize, .ref m_mark, .int v_relationCount, .ref m_idSize, .ref m_ids, .ref m_goalSize, .ref m_goals, .int v_valueSize, .ref m_value, .int v_faultCount, .ref m_faults, .ref m_reached])), (m_length, .inl (G.2.2.1, 420, .inl a_length))] 0 0 := by
    intro N9
    induction N9 with
    | zero => intro f b b0 b1 f0_ f1_ hR hm9; exact absurd hm9 (Nat.not_lt_zero _)
    | succ N9 ih5 =>
      intro f b b0 b1 f0_ f1_ hR hm9
      refine pb_iload (pc := 5) d_Mod_isRight_5 1 rfl ?_
      refine pb_bipush (pc := 7) (v := 16) d_Mod_isRight_7 (by decide) ?_
      refine pb_icmp_ge (pc := 9) (tgt := 37) d_Mod_isRight_9 (by decide) (fun wx2 => ?_) (fun wx2 => ?_)
      · have twx2 : 16 ≤ b.toInt := (ti_le (by decide) rfl).mp wx2
        refine pb_iload_n (pc := 37) d_Mod_isRight_37 0 rfl rfl ?_
        refine pb_if_eq (pc := 38) (tgt := 63) d_Mod_isRight_38 (by decide) (fun wx3 => ?_) (fun wx3 => ?_)
        · have twx3 : f.toInt = 0 := (ti_eq rfl (by decide)).mp wx3
          refine pb_iconst (pc := 63) (v := 1) d_Mod_isRight_63 (by decide) ?_
          refine pb_goto (pc := 64) (tgt := 68) d_Mod_isRight_64 (by decide) ?_
          exact pb_iret (pc := 68) hQ d_Mod_isRight_68 rfl rfl (1) ⟨rfl, (by (try dsimp only); first | done | assumption | omega (splitDisjunctions := false) | omega | decide), (show (1 : Int32).toInt = rt_f L n.toInt from (by first | exact (rt_end (by omega) m0F m1F (by omega)).symm.trans hR | exact (rt_end (c := ct_ L 1 n.toInt.toNat) (by omega) m0F rfl (by omega)).symm.trans hR | exact (rt_end (t := lt_ L 16 n.toInt.toNat) (c := ct_ L 1 n.toInt.toNat) (by omega) rfl rfl (by omega)).symm.trans hR))⟩ [0, 1] (by decide) rfl rfl (by decide) (by decide)
        · have twx3 : ¬ f.toInt = 0 := fun z9 => wx3 ((ti_eq rfl (by decide)).mpr z9)
          refine pb_aload_n (pc := 41) d_Mod_isRight_41 2 rfl rfl ?_
          refine pb_iload_n (pc := 42) d_Mod_isRight_42 3 rfl rfl ?_
          refine pb_iload_n (pc := 43) d_Mod_isRight_43 4 rfl rfl ?_
          refine pb_iconst (pc := 44) (v := 0) d_Mod_isRight_44 (by decide) ?_
          refine pb_callV (pc := 45) (I := i_Mod_isRight) (qb := 0) (ci := 10) (nA := 3) (rest := []) (wr := []) d_Mod_isRight_45 (g_Mod_many hl G h m_rels m_openRels m_closeRels m_openRel m_closeRel m_comment m_ends m_order m_tape m_count m_nameSize m_names m_size m_data m_looked m_file m_directory m_out m_row m_made m_length m_pressed m_mark m_idSize m_ids m_goalSize m_goals m_value m_faults m_reached v_thrown v_taped v_lookedSize v_fileSize v_directorySize v_outSize v_rowSize v_bitAt v_bitEnd v_why v_madeSize v_firstCount v_secondCount v_heldBits v_heldCount v_pressedSize v_at v_bad v_markSize v_relationCount v_valueSize v_faultCount a_length x n 0 L (by first | assumption | omega (splitDisjunctions := false) | omega | decide) (by first | assumption | omega (splitDisjunctions := false) | omega | decide) (by first | assumption | omega (splitDisjunctions := false) | omega | decide) (by first | assumption | decide | omega) (by first | assumption | decide | omega)) rfl rfl [0, 1] [] (by decide) rfl rfl rfl (by decide) (by decide) k_1459 rfl k_128 k_1456 k_1458 k_76 ⟨rfl, hy_Mod_many⟩ (by decide) rfl rfl (Nat.le_of_ble_eq_true rfl) (by decide) (fun v9 ux5 ch4 => ?_)
          obtain ⟨r_6, rfl⟩ : ∃ z9, z9 = ux5 := ⟨_, rfl⟩
          obtain ⟨ech4, ch4⟩ := ch4
          have ech4 : v9 = some (.int r_6) := ech4
          subst ech4
          obtain ⟨fh7, fh8, fh9, fh10, fh11⟩ : (0 ≤ r_6.toInt) ∧ (r_6.toInt ≤ n.toInt) ∧ (0 < (0 : Int32).toInt → r_6.toInt = cnt a_length x.toInt (0 : Int32).toInt n.toInt.toNat) ∧ (0 < (0 : Int32).toInt → r_6.toInt = ct_ L (0 : Int32).toInt n.toInt.toNat) ∧ ((0 : Int32).toInt = 0 → r_6.toInt = lt_ L 16 n.toInt.toNat) := ch4
          have m0F := fh11 zl0
          refine pb_eq (pc' := 48) (lo' := [(3, .int f), (4, .int b), (0, .ref h), (1, .int x), (2, .int n)]) (rest' := [.int r_6]) (ws' := [(h, .inr (10, [.ref m_rels, .ref m_openRels, .ref m_closeRels, .ref m_openRel, .ref m_closeRel, .ref m_comment, .ref m_ends, .ref m_order, .int v_thrown, .int v_taped, .ref m_tape, .ref m_count, .ref m_nameSize, .ref m_names, .ref m_size, .ref m_data, .int v_lookedSize, .ref m_looked, .int v_fileSize, .ref m_file, .int v_directorySize, .ref m_directory, .int v_outSize, .ref m_out, .int v_rowSize, .ref m_row, .int v_bitAt, .int v_bitEnd, .int v_why, .int v_madeSize, .ref m_made, .ref m_length, .int v_firstCount, .int v_secondCount, .int v_heldBits, .int v_heldCount, .int v_pressedSize, .ref m_pressed, .int v_at, .int v_bad, .int v_markSize, .ref m_mark, .int v_relationCount, .ref m_idSize, .ref m_ids, .ref m_goalSize, .ref m_goals, .int v_valueSize, .ref m_value, .int v_faultCount, .ref m_faults, .ref m_reached])), (m_length, .inl (G.2.2.1, 420, .inl a_length))]) ?_
          refine pb_iconst (pc := 48) (v := 1) d_Mod_isRight_48 (by decide) ?_
          refine pb_icmp_ne (pc := 49) (tgt := 67) d_Mod_isRight_49 (by decide) (fun wx12 => ?_) (fun wx12 => ?_)
          · have twx12 : ¬ r_6.toInt = 1 := fun z9 => wx12 ((ti_eq rfl (by decide)).mpr z9)
            refine pb_iconst (pc := 67) (v := 0) d_Mod_isRight_67 (by decide) ?_
            exact pb_iret (pc := 68) hQ d_Mod_isRight_68 rfl rfl (0) ⟨rfl, (by (try dsimp only); first | done | assumption | omega (splitDisjunctions := false) | omega | decide), (show (0 : Int32).toInt = rt_f L n.toInt from (by first | exact (rt_end (by omega) m0F m1F (by omega)).symm.trans hR | exact (rt_end (c := ct_ L 1 n.toInt.toNat) (by omega) m0F rfl (by omega)).symm.trans hR | exact (rt_end (t := lt_ L 16 n.toInt.toNat) (c := ct_ L 1 n.toInt.toNat) (by omega) rfl rfl (by omega)).symm.trans hR))⟩ [0, 1] (by decide) rfl rfl (by decide) (by decide)
          · have twx12 : r_6.toInt = 1 := (ti_eq rfl (by decide)).mp wx12
            refine pb_aload_n (pc := 52) d_Mod_isRight_52 2 rfl rfl ?_
            refine pb_iload_n (pc := 53) d_Mod_isRight_53 3 rfl rfl ?_
            refine pb_iload_n (pc := 54) d_Mod_isRight_54 4 rfl rfl ?_
            refine pb_iconst (pc := 55) (v := 1) d_Mod_isRight_55 (by decide) ?_
            refine pb_callV (pc := 56) (I := i_Mod_isRight) (qb := 0) (ci := 10) (nA := 3) (rest := []) (wr := []) d_Mod_isRight_56 (g_Mod_many hl G h m_rels m_openRels m_closeRels m_openRel m_closeRel m_comment m_ends m_order m_tape m_count m_nameSize m_names m_size m_data m_looked m_file m_directory m_out m_row m_made m_length m_pressed m_mark m_idSize m_ids m_goalSize m_goals m_value m_faults m_reached v_thrown v_taped v_lookedSize v_fileSize v_directorySize v_outSize v_rowSize v_bitAt v_bitEnd v_why v_madeSize v_firstCount v_secondCount v_heldBits v_heldCount v_pressedSize v_at v_bad v_markSize v_relationCount v_valueSize v_faultCount a_length x n 1 L (by first | assumption | omega (splitDisjunctions := false) | omega | decide) (by first | assumption | omega (splitDisjunctions := false) | omega | decide) (by first | assumption | omega (splitDisjunctions := false) | omega | decide) (by first | assumption | decide | omega) (by first | assumption | decide | omega)) rfl rfl [0, 1] [] (by decide) rfl rfl rfl (by decide) (by decide) k_1459 rfl k_128 k_1456 k_1458 k_76 ⟨rfl, hy_Mod_many⟩ (by decide) rfl rfl (Nat.le_of_ble_eq_true rfl) (by decide) (fun v9 ux14 ch13 => ?_)
            obtain ⟨r_15, rfl⟩ : ∃ z9, z9 = ux14 := ⟨_, rfl⟩
            obtain ⟨ech13, ch13⟩ := ch13
            have ech13 : v9 = some (.int r_15) := ech13
            subst ech13
            obtain ⟨fh16, fh17, fh18, fh19, fh20⟩ : (0 ≤ r_15.toInt) ∧ (r_15.toInt ≤ n.toInt) ∧ (0 < (1 : Int32).toInt → r_15.toInt = cnt a_length x.toInt (1 : Int32).toInt n.toInt.toNat) ∧ (0 < (1 : Int32).toInt → r_15.toInt = ct_ L (1 : Int32).toInt n.toInt.toNat) ∧ ((1 : Int32).toInt = 0 → r_15.toInt = lt_ L 16 n.toInt.toNat) := ch13
            have m1F := fh19 (by omega)
            rw [zl1] at m1F
            refine pb_eq (pc' := 59) (lo' := [(3, .int f), (4, .int b), (0, .ref h), (1, .int x), (2, .int n)]) (rest' := [.int r_15]) (ws' := [(h, .inr (10, [.ref m_rels, .ref m_openRels, .ref m_closeRels, .ref m_openRel, .ref m_closeRel, .ref m_comment, .ref m_ends, .ref m_order, .int v_thrown, .int v_taped, .ref m_tape, .ref m_count, .ref m_nameSize, .ref m_names, .ref m_size, .ref m_data, .int v_lookedSize, .ref m_looked, .int v_fileSize, .ref m_file, .int v_directorySize, .ref m_directory, .int v_outSize, .ref m_out, .int v_rowSize, .ref m_row, .int v_bitAt, .int v_bitEnd, .int v_why, .int v_madeSize, .ref m_made, .ref m_length, .int v_firstCount, .int v_secondCount, .int v_heldBits, .int v_heldCount, .int v_pressedSize, .ref m_pressed, .int v_at, .int v_bad, .int v_markSize, .ref m_mark, .int v_relationCount, .ref m_idSize, .ref m_ids, .ref m_goalSize, .ref m_goals, .int v_valueSize, .ref m_value, .int v_faultCount, .ref m_faults, .ref m_reached])), (m_length, .inl (G.2.2.1, 420, .inl a_length))]) ?_
            refine pb_iconst (pc := 59) (v := 1) d_Mod_isRight_59 (by decide) ?_
            refine pb_icmp_ne (pc := 60) (tgt := 67) d_Mod_isRight_60 (by decide) (fun wx21 => ?_) (fun wx21 => ?_)
            · have twx21 : ¬ r_15.toInt = 1 := fun z9 => wx21 ((ti_eq rfl (by decide)).mpr z9)
              refine pb_iconst (pc := 67) (v := 0) d_Mod_isRight_67 (by decide) ?_
              exact pb_iret (pc := 68) hQ d_Mod_isRight_68 rfl rfl (0) ⟨rfl, (by (try dsimp only); first | done | assumption | omega (splitDisjunctions := false) | omega | decide), (show (0 : Int32).toInt = rt_f L n.toInt from (by first | exact (rt_end (by omega) m0F m1F (by omega)).symm.trans hR | exact (rt_end (c := ct_ L 1 n.toInt.toNat) (by omega) m0F rfl (by omega)).symm.trans hR | exact (rt_end (t := lt_ L 16 n.toInt.toNat) (c := ct_ L 1 n.toInt.toNat) (by omega) rfl rfl (by omega)).symm.trans hR))⟩ [0, 1] (by decide) rfl rfl (by decide) (by decide)
            · have twx21 : r_15.toInt = 1 := (ti_eq rfl (by decide)).mp wx21
              refine pb_iconst (pc := 63) (v := 1) d_Mod_isRight_63 (by decide) ?_
              refine pb_goto (pc := 64) (tgt := 68) d_Mod_isRight_64 (by decide) ?_
              exact pb_iret (pc := 68) hQ d_Mod_isRight_68 rfl rfl (1) ⟨rfl, (by (try dsimp only); first | done | assumption | omega (splitDisjunctions := false) | omega | decide), (show (1 : Int32).toInt = rt_f L n.toInt from (by first | exact (rt_end (by omega) m0F m1F (by omega)).symm.trans hR | exact (rt_end (c := ct_ L 1 n.toInt.toNat) (by omega) m0F rfl (by omega)).symm.trans hR | exact (rt_end (t := lt_ L 16 n.toInt.toNat) (c := ct_ L 1 n.toInt.toNat) (by omega) rfl rfl (by omega)).symm.trans hR))⟩ [0, 1] (by decide) rfl rfl (by decide) (by decide)
      · have twx2 : ¬ 16 ≤ b.toInt := fun z9 => wx2 ((ti_le (by decide) rfl).mpr z9)
        have q2 := p2_s (k := b.toInt - 1) (m := b.toInt) (by omega) (by omega)
        have q3 := p2_le (k := b.toInt) (by omega)
        refine pb_iconst (pc := 12) (v := 2) d_Mod_isRight_12 (by decide) ?_
        refine pb_iload_n (pc := 13) d_Mod_isRight_13 0 rfl rfl ?_
        refine pb_imul (pc := 14) d_Mod_isRight_14 ?_
        refine pb_topi (fun ix22 eix22 => ?_)
        try have tix22 : ix22.toInt = 2 * f.toInt := ti_mul eix22 (by decide) rfl (by omega) (by omega)
        refine pb_aload_n (pc := 15) d_Mod_isRight_15 2 rfl rfl ?_
        refine pb_iload_n (pc := 16) d_Mod_isRight_16 3 rfl rfl ?_
        refine pb_iload_n (pc := 17) d_Mod_isRight_17 4 rfl rfl ?_
        refine pb_iload (pc := 18) d_Mod_isRight_18 1 rfl ?_
        refine pb_callV (pc := 20) (I := i_Mod_isRight) (qb := 0) (ci := 10) (nA := 3) (rest := [.int ix22]) (wr := []) d_Mod_isRight_20 (g_Mod_many hl G h m_rels m_openRels m_closeRels m_openRel m_closeRel m_comment m_ends m_order m_tape m_count m_nameSize m_names m_size m_data m_looked m_file m_directory m_out m_row m_made m_length m_pressed m_mark m_idSize m_ids m_goalSize m_goals m_value m_faults m_reached v_thrown v_taped v_lookedSize v_fileSize v_directorySize v_outSize v_rowSize v_bitAt v_bitEnd v_why v_madeSize v_firstCount v_secondCount v_heldBits v_heldCount v_pressedSize v_at v_bad v_markSize v_relationCount v_valueSize v_faultCount a_length x n b L (by first | assumption | omega (splitDisjunctions := false) | omega | decide) (by first | assumption | omega (splitDisjunctions := false) | omega | decide) (by first | assumption | omega (splitDisjunctions := false) | omega | decide) (by first | assumption | decide | omega) (by first | assumption | decide | omega)) rfl rfl [0, 1] [] (by decide) rfl rfl rfl (by decide) (by decide) k_1459 rfl k_128 k_1456 k_1458 k_76 ⟨rfl, hy_Mod_many⟩ (by decide) rfl rfl (Nat.le_of_ble_eq_true rfl) (by decide) (fun v9 ux24 ch23 => ?_)
        obtain ⟨r_25, rfl⟩ : ∃ z9, z9 = ux24 := ⟨_, rfl⟩
        obtain ⟨ech23, ch23⟩ := ch23
        have ech23 : v9 = some (.int r_25) := ech23
        subst ech23
        obtain ⟨fh26, fh27, fh28, fh29, fh30⟩ : (0 ≤ r_25.toInt) ∧ (r_25.toInt ≤ n.toInt) ∧ (0 < b.toInt → r_25.toInt = cnt a_length x.toInt b.toInt n.toInt.toNat) ∧ (0 < b.toInt → r_25.toInt = ct_ L b.toInt n.toInt.toNat) ∧ (b.toInt = 0 → r_25.toInt = lt_ L 16 n.toInt.toNat) := ch23
        have mF := fh29 (by omega)
        refine pb_eq (pc' := 23) (lo' := [(3, .int f), (4, .int b), (0, .ref h), (1, .int x), (2, .int n)]) (rest' := [.int r_25, .int ix22]) (ws' := [(h, .inr (10, [.ref m_rels, .ref m_openRels, .ref m_closeRels, .ref m_openRel, .ref m_closeRel, .ref m_comment, .ref m_ends, .ref m_order, .int v_thrown, .int v_taped, .ref m_tape, .ref m_count, .ref m_nameSize, .ref m_names, .ref m_size, .ref m_data, .int v_lookedSize, .ref m_looked, .int v_fileSize, .ref m_file, .int v_directorySize, .ref m_directory, .int v_outSize, .ref m_out, .int v_rowSize, .ref m_row, .int v_bitAt, .int v_bitEnd, .int v_why, .int v_madeSize, .ref m_made, .ref m_length, .int v_firstCount, .int v_secondCount, .int v_heldBits, .int v_heldCount, .int v_pressedSize, .ref m_pressed, .int v_at, .int v_bad, .int v_markSize, .ref m_mark, .int v_relationCount, .ref m_idSize, .ref m_ids, .ref m_goalSize, .ref m_goals, .int v_valueSize, .ref m_value, .int v_faultCount, .ref m_faults, .ref m_reached])), (m_length, .inl (G.2.2.1, 420, .inl a_length))]) ?_
        refine pb_isub (pc := 23) d_Mod_isRight_23 ?_
        refine pb_topi (fun ix31 eix31 => ?_)
        try have tix31 : ix31.toInt = ix22.toInt - r_25.toInt := t2_sub eix31 rfl rfl (by omega)
        refine pb_istore_n (pc := 24) (lo' := [(3, .int ix31), (4, .int b), (0, .ref h), (1, .int x), (2, .int n)]) d_Mod_isRight_24 rfl (by decide) rfl ?_
        refine pb_iload_n (pc := 25) d_Mod_isRight_25 0 rfl rfl ?_
        refine pb_if_ge (pc := 26) (tgt := 31) d_Mod_isRight_26 (by decide) (fun wx32 => ?_) (fun wx32 => ?_)
        · have twx32 : 0 ≤ ix31.toInt := (ti_le (by decide) rfl).mp wx32
          refine pb_iincN (pc := 31) (c := 1) d_Mod_isRight_31 1 rfl (by decide) (by decide) (fun ix33 eix33 => ?_)
          have tix33 : ix33.toInt = b.toInt + 1 := t2_add eix33 rfl (by decide) (by first | omega | (have r90 := ti_rng b; have r91 := ti_rng ix33; have r92 := ti_rng ix31; have r93 := ti_rng x; have r94 := ti_rng n; omega))
          refine pb_eq (pc' := 34) (lo' := [(4, .int ix33), (3, .int ix31), (0, .ref h), (1, .int x), (2, .int n)]) (rest' := []) (ws' := [(h, .inr (10, [.ref m_rels, .ref m_openRels, .ref m_closeRels, .ref m_openRel, .ref m_closeRel, .ref m_comment, .ref m_ends, .ref m_order, .int v_thrown, .int v_taped, .ref m_tape, .ref m_count, .ref m_nameSize, .ref m_names, .ref m_size, .ref m_data, .int v_lookedSize, .ref m_looked, .int v_fileSize, .ref m_file, .int v_directorySize, .ref m_directory, .int v_outSize, .ref m_out, .int v_rowSize, .ref m_row, .int v_bitAt, .int v_bitEnd, .int v_why, .int v_madeSize, .ref m_made, .ref m_length, .int v_firstCount, .int v_secondCount, .int v_heldBits, .int v_heldCount, .int v_pressedSize, .ref m_pressed, .int v_at, .int v_bad, .int v_markSize, .ref m_mark, .int v_relationCount, .ref m_idSize, .ref m_ids, .ref m_goalSize, .ref m_goals, .int v_valueSize, .ref m_value, .int v_faultCount, .ref m_faults, .ref m_reached])), (m_length, .inl (G.2.2.1, 420, .inl a_length))]) ?_
          refine pb_goto (pc := 34) (tgt := 5) d_Mod_isRight_34 (by decide) ?_
          refine pb_re (ws' := [(h, .inr (10, [.ref m_rels, .ref m_openRels, .ref m_closeRels, .ref m_openRel, .ref m_closeRel, .ref m_comment, .ref m_ends, .ref m_order, .int v_thrown, .int v_taped, .ref m_tape, .ref m_count, .ref m_nameSize, .ref m_names, .ref m_size, .ref m_data, .int v_lookedSize, .ref m_looked, .int v_fileSize, .ref m_file, .int v_directorySize, .ref m_directory, .int v_outSize, .ref m_out, .int v_rowSize, .ref m_row, .int v_bitAt, .int v_bitEnd, .int v_why, .int v_madeSize, .ref m_made, .ref m_length, .int v_firstCount, .int v_secondCount, .int v_heldBits, .int v_heldCount, .int v_pressedSize, .ref m_pressed, .int v_at, .int v_bad, .int v_markSize, .ref m_mark, .int v_relationCount, .ref m_idSize, .ref m_ids, .ref m_goalSize, .ref m_goals, .int v_valueSize, .ref m_value, .int v_faultCount, .ref m_faults, .ref m_reached])), (m_length, .inl (G.2.2.1, 420, .inl a_length))]) (lo' := [(3, .int ix31), (4, .int ix33), (0, .ref h), (1, .int x), (2, .int n)]) [0, 1] [1, 0, 2, 3, 4] (by decide) rfl rfl rfl ?_
          exact ih5 ix31 ix33 (by first | assumption | omega (splitDisjunctions := false) | omega | decide) (by first | assumption | omega (splitDisjunctions := false) | omega | decide) (by first | assumption | omega (splitDisjunctions := false) | omega | decide) (by rw [show ix33.toInt - 1 = b.toInt by omega]; omega) ((rt_go (by omega) mF (by omega) (by omega) (by omega)).symm.trans hR) (by omega)
        · have twx32 : ¬ 0 ≤ ix31.toInt := fun z9 => wx32 ((ti_le (by decide) rfl).mpr z9)
          refine pb_iconst (pc := 29) (v := 0) d_Mod_isRight_29 (by decide) ?_
          exact pb_iret (pc := 30) hQ d_Mod_isRight_30 rfl rfl (0) ⟨rfl, (by (try dsimp only); first | done | assumption | omega (splitDisjunctions := false) | omega | decide), (show (0 : Int32).toInt = rt_f L n.toInt from ((rt_no (by omega) mF (by omega) zl0).symm.trans hR))⟩ [0, 1] (by decide) rfl rfl (by decide) (by decide)
  refine pb_re (ws' := [(h, .inr (10, [.ref m_rels, .ref m_openRels, .ref m_closeRels, .ref m_openRel, .ref m_closeRel, .ref m_comment, .ref m_ends, .ref m_order, .int v_thrown, .int v_taped, .ref m_tape, .ref m_count, .ref m_nameSize, .ref m_names, .ref m_size, .ref m_data, .int v_lookedSize, .ref m_looked, .int v_fileSize, .ref m_file, .int v_directorySize, .ref m_directory, .int v_outSize, .ref m_out, .int v_rowSize, .ref m_row, .int v_bitAt, .int v_bitEnd, .int v_why, .int v_madeSize, .ref m_made, .ref m_length, .int v_firstCount, .int v_secondCount, .int v_heldBits, .int v_heldCount, .int v_pressedSize, .ref m_pressed, .int v_at, .int v_bad, .int v_markSize, .ref m_mark, .int v_relationCount, .ref m_idSize, .ref m_ids, .ref m_goalSize, .ref m_goals, .int v_valueSize, .ref m_value, .int v_faultCount, .ref m_faults, .ref m_reached])), (m_length, .inl (G.2.2.1, 420, .inl a_length))]) (lo' := [(3, .int 1), (4, .int 1), (0, .ref h), (1, .int x), (2, .int n)]) [0, 1] [1, 0, 2, 3, 4] (by decide) rfl rfl rfl ?_
  exact hL5_1 _ 1 1 (by first | assumption | omega (splitDisjunctions := false) | omega | decide) (by first | assumption | omega (splitDisjunctions := false) | omega | decide) (by first | assumption | omega (splitDisjunctions := false) | omega | decide) (by rw [zl1]; decide) (by rw [zl1]; rfl) (Nat.lt_succ_self _)
