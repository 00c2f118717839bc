/-! the strings' bytes -/
theorem st_255 {x z : Int32} (e : z = x &&& 255) : z.toInt = x.toInt % 256 := by
  subst e
  rw [pk_and _ 8 (by decide), nI_toInt (by omega)]
  have h : x.toInt = x.toBitVec.toInt := rfl
  rw [h, BitVec.toInt_eq_toNat_bmod]
  have hx := x.toBitVec.isLt
  generalize x.toBitVec.toNat = n at *
  rw [Int.bmod_def]
  split <;> omega
def st_c (k : Nat) (j : Int) : Int := ((st_byts.getD k []).getD j.toNat 0).toInt
theorem sc_all : ∀ k : Nat, k < 64 → ∀ x ∈ st_byts.getD k [], 0 ≤ x.toInt ∧ x.toInt ≤ 127 := by decide +kernel
theorem sc_rng {k : Nat} (hk : k < st_n) (j : Int) : 0 ≤ st_c k j ∧ st_c k j ≤ 127 := by
  unfold st_c
  rw [List.getD_eq_getElem?_getD]
  cases c : (st_byts.getD k [])[j.toNat]? with
  | none => exact ⟨by decide, by decide⟩
  | some x => exact sc_all k (Nat.lt_trans hk (by decide)) x (List.mem_of_getElem? c)
theorem sc_ld {k : Nat} {i v w z : Int32} (hk : k < st_n) (e : v = (st_byts.getD k []).getD i.toNatClampNeg 0) (e2 : w = v &&& 255) (e3 : z.toInt = w.toInt) (h0 : 0 ≤ i.toInt) : z.toInt = st_c k i.toInt := by
  have h := sc_rng hk i.toInt
  have e4 : v.toInt = st_c k i.toInt := by
    unfold st_c
    rw [e]
    rfl
  rw [e3, st_255 e2, e4]
  omega

theorem d_JPreconditions_checkIndex_0 : decode prog_25_method_11_code 0 = .ok (.iload_n 0, 1) := by decide +kernel
theorem d_JPreconditions_checkIndex_1 : decode prog_25_method_11_code 1 = .ok (.ifCond .lt 8, 3) := by decide +kernel
theorem d_JPreconditions_checkIndex_4 : decode prog_25_method_11_code 4 = .ok (.iload_n 0, 1) := by decide +kernel
theorem d_JPreconditions_checkIndex_5 : decode prog_25_method_11_code 5 = .ok (.iload_n 1, 1) := by decide +kernel
theorem d_JPreconditions_checkIndex_6 : decode prog_25_method_11_code 6 = .ok (.if_icmp .lt 10, 3) := by decide +kernel
theorem d_JPreconditions_checkIndex_16 : decode prog_25_method_11_code 16 = .ok (.iload_n 0, 1) := by decide +kernel
theorem d_JPreconditions_checkIndex_17 : decode prog_25_method_11_code 17 = .ok (.ireturn, 1) := by decide +kernel
abbrev y_JPreconditions_checkIndex : MethodName := ⟨"jdk/internal/util/Preconditions", "checkIndex", "(IILjava/util/function/BiFunction;)I"⟩
abbrev i_JPreconditions_checkIndex : pb_I := (y_JPreconditions_checkIndex, prog_25_method_11_code, 3, (some Jvm.ClassFile.FieldType.int), [], { frames := 0, cells := 0, slots := 0, locals := 0 })
set_option maxRecDepth 100000 in
set_option maxHeartbeats 4000000 in
theorem g_ci0 {l : Launch} (hl : l.stackTraces = false) (G : pb_G) (x : Int32) (n : Int32) (h0 : 0 ≤ x.toInt) (h1 : x.toInt < n.toInt) : Cn l G i_JPreconditions_checkIndex [.int x, .int n, .null] [] (S := Unit) (fun rv_ u => rv_ = some (.int x)) (fun u => []) := by
  refine Cn.of hl (by decide +kernel) rfl (Nat.le_of_ble_eq_true rfl) (fun M hQ => ?_)
  refine pb_eq (pc' := 0) (lo' := [(0, .int x), (1, .int n), (2, .null)]) (rest' := []) (ws' := []) ?_
  have zl0 : (0 : Int32).toInt = 0 := by decide
  have zl1 : (1 : Int32).toInt = 1 := by decide
  refine pb_iload_n (pc := 0) d_JPreconditions_checkIndex_0 0 rfl rfl ?_
  refine pb_if_lt (pc := 1) (tgt := 9) d_JPreconditions_checkIndex_1 (by decide) (fun h9 => False.elim (by have t9 : x.toInt < 0 := (ti_lt rfl (by decide)).mp h9; omega)) (fun w1 => ?_)
  have tw1 : ¬ x.toInt < 0 := fun z9 => w1 ((ti_lt rfl (by decide)).mpr z9)
  refine pb_iload_n (pc := 4) d_JPreconditions_checkIndex_4 0 rfl rfl ?_
  refine pb_iload_n (pc := 5) d_JPreconditions_checkIndex_5 1 rfl rfl ?_
  refine pb_icmp_lt (pc := 6) (tgt := 16) d_JPreconditions_checkIndex_6 (by decide) (fun w2 => ?_) (fun h9 => False.elim (by have t9 : ¬ x.toInt < n.toInt := fun z9 => h9 ((ti_lt rfl rfl).mpr z9); omega))
  have tw2 : x.toInt < n.toInt := (ti_lt rfl rfl).mp w2
  refine pb_iload_n (pc := 16) d_JPreconditions_checkIndex_16 0 rfl rfl ?_
  exact pb_iret (pc := 17) hQ d_JPreconditions_checkIndex_17 rfl rfl () rfl [] (by decide) rfl rfl (by decide) (by decide)

set_option maxRecDepth 100000 in
set_option maxHeartbeats 4000000 in
theorem g_ci1 {l : Launch} (hl : l.stackTraces = false) (G : pb_G) (x : Int32) (n : Int32) (t : Nat) (h0 : 0 ≤ x.toInt) (h1 : x.toInt < n.toInt) : Cn l G i_JPreconditions_checkIndex [.int x, .int n, .ref t] [] (S := Unit) (fun rv_ u => rv_ = some (.int x)) (fun u => []) := by
  refine Cn.of hl (by decide +kernel) rfl (Nat.le_of_ble_eq_true rfl) (fun M hQ => ?_)
  refine pb_eq (pc' := 0) (lo' := [(0, .int x), (1, .int n), (2, .ref t)]) (rest' := []) (ws' := []) ?_
  have zl0 : (0 : Int32).toInt = 0 := by decide
  have zl1 : (1 : Int32).toInt = 1 := by decide
  refine pb_iload_n (pc := 0) d_JPreconditions_checkIndex_0 0 rfl rfl ?_
  refine pb_if_lt (pc := 1) (tgt := 9) d_JPreconditions_checkIndex_1 (by decide) (fun h9 => False.elim (by have t9 : x.toInt < 0 := (ti_lt rfl (by decide)).mp h9; omega)) (fun w1 => ?_)
  have tw1 : ¬ x.toInt < 0 := fun z9 => w1 ((ti_lt rfl (by decide)).mpr z9)
  refine pb_iload_n (pc := 4) d_JPreconditions_checkIndex_4 0 rfl rfl ?_
  refine pb_iload_n (pc := 5) d_JPreconditions_checkIndex_5 1 rfl rfl ?_
  refine pb_icmp_lt (pc := 6) (tgt := 16) d_JPreconditions_checkIndex_6 (by decide) (fun w2 => ?_) (fun h9 => False.elim (by have t9 : ¬ x.toInt < n.toInt := fun z9 => h9 ((ti_lt rfl rfl).mpr z9); omega))
  have tw2 : x.toInt < n.toInt := (ti_lt rfl rfl).mp w2
  refine pb_iload_n (pc := 16) d_JPreconditions_checkIndex_16 0 rfl rfl ?_
  exact pb_iret (pc := 17) hQ d_JPreconditions_checkIndex_17 rfl rfl () rfl [] (by decide) rfl rfl (by decide) (by decide)

theorem d_JString_checkIndex_0 : decode prog_18_method_155_code 0 = .ok (.iload_n 0, 1) := by decide +kernel
theorem d_JString_checkIndex_1 : decode prog_18_method_155_code 1 = .ok (.iload_n 1, 1) := by decide +kernel
theorem d_JString_checkIndex_2 : decode prog_18_method_155_code 2 = .ok (.getstatic 1053, 3) := by decide +kernel
theorem k_765 : (Jvm.Cond.fieldLink "java/lang/String" (1053 : Nat) "jdk/internal/util/Preconditions" "SIOOBE_FORMATTER" "Ljava/util/function/BiFunction;") ∈ uW := uW_of 765 (by decide +kernel) (by decide +kernel)
theorem d_JString_checkIndex_5 : decode prog_18_method_155_code 5 = .ok (.invokestatic 1059, 3) := by decide +kernel
theorem k_767 : (Jvm.Cond.methodLink "java/lang/String" (1059 : Nat) ({ cls := "jdk/internal/util/Preconditions", name := "checkIndex", desc := "(IILjava/util/function/BiFunction;)I" } : Jvm.MethodName)) ∈ uW := uW_of 767 (by decide +kernel) (by decide +kernel)
theorem k_140 : (Jvm.Cond.initialized "jdk/internal/util/Preconditions") ∈ uW := uW_of 140 (by decide +kernel) (by decide +kernel)
theorem k_769 : (Jvm.Cond.code ({ cls := "jdk/internal/util/Preconditions", name := "checkIndex", desc := "(IILjava/util/function/BiFunction;)I" } : Jvm.MethodName) prog_25_method_11_code (3 : Nat) (Option.some Jvm.ClassFile.FieldType.int)) ∈ uW := uW_of 769 (by decide +kernel) (by decide +kernel)
theorem k_768 : (Jvm.Cond.static ({ cls := "jdk/internal/util/Preconditions", name := "checkIndex", desc := "(IILjava/util/function/BiFunction;)I" } : Jvm.MethodName)) ∈ uW := uW_of 768 (by decide +kernel) (by decide +kernel)
theorem hy_JPreconditions_checkIndex : (y_JPreconditions_checkIndex).cls ≠ "java/lang/invoke/MethodHandle" ∧ (y_JPreconditions_checkIndex).cls ≠ "java/lang/invoke/VarHandle" ∧ (parseMethodDescriptor (y_JPreconditions_checkIndex).desc).map (fun d => d.parameters.length) = some 3 := by decide +kernel
theorem d_JString_checkIndex_8 : decode prog_18_method_155_code 8 = .ok (.pop, 1) := by decide +kernel
theorem d_JString_checkIndex_9 : decode prog_18_method_155_code 9 = .ok (.return_, 1) := by decide +kernel
abbrev y_JString_checkIndex : MethodName := ⟨"java/lang/String", "checkIndex", "(II)V"⟩
abbrev i_JString_checkIndex : pb_I := (y_JString_checkIndex, prog_18_method_155_code, 2, (Option.none : Option Jvm.ClassFile.FieldType), [], { frames := 1, cells := 0, slots := 0, locals := 22 })
set_option maxRecDepth 100000 in
set_option maxHeartbeats 4000000 in
theorem g_Str_checkIndex {l : Launch} (hl : l.stackTraces = false) (G : pb_G) (x : Int32) (n : Int32) (h0 : 0 ≤ x.toInt) (h1 : x.toInt < n.toInt) : Cn l G i_JString_checkIndex [.int x, .int n] [] (S := Unit) (fun rv_ u => rv_ = none) (fun u => []) := by
  refine Cn.of hl (by decide +kernel) rfl (Nat.le_of_ble_eq_true rfl) (fun M hQ => ?_)
  refine pb_eq (pc' := 0) (lo' := [(0, .int x), (1, .int n)]) (rest' := []) (ws' := []) ?_
  have zl0 : (0 : Int32).toInt = 0 := by decide
  have zl1 : (1 : Int32).toInt = 1 := by decide
  refine pb_iload_n (pc := 0) d_JString_checkIndex_0 0 rfl rfl ?_
  refine pb_iload_n (pc := 1) d_JString_checkIndex_1 1 rfl rfl ?_
  refine pb_getsF (pc := 2) d_JString_checkIndex_2 k_765 ?_ (fun t9 => ?_)
  · refine pb_callS (pc := 5) (I := i_JString_checkIndex) (nA := 3) (rest := []) (wr := []) d_JString_checkIndex_5 (g_ci0 hl G x n (by first | (with_reducible assumption) | omega (splitDisjunctions := false) | assumption | omega | decide) (by first | (with_reducible assumption) | omega (splitDisjunctions := false) | assumption | omega | decide)) [] [] (by decide) rfl rfl rfl (by decide) (by decide) k_769 rfl k_140 k_767 k_768 hy_JPreconditions_checkIndex (by decide) rfl rfl (Nat.le_of_ble_eq_true rfl) (by decide) (fun v9 u2 ch1 => ?_)
    have ech1 := ch1
    have ech1 : v9 = some (.int x) := ech1
    subst ech1
    refine pb_eq (pc' := 8) (lo' := [(0, .int x), (1, .int n)]) (rest' := [.int x]) (ws' := []) ?_
    refine pb_pop (pc := 8) d_JString_checkIndex_8 rfl ?_
    exact pb_vret (pc := 9) hQ d_JString_checkIndex_9 rfl () rfl [] (by decide) rfl rfl (by decide) (by decide)
  · refine pb_callS (pc := 5) (I := i_JString_checkIndex) (nA := 3) (rest := []) (wr := []) d_JString_checkIndex_5 (g_ci1 hl G x n t9 (by first | (with_reducible assumption) | omega (splitDisjunctions := false) | assumption | omega | decide) (by first | (with_reducible assumption) | omega (splitDisjunctions := false) | assumption | omega | decide)) [] [] (by decide) rfl rfl rfl (by decide) (by decide) k_769 rfl k_140 k_767 k_768 hy_JPreconditions_checkIndex (by decide) rfl rfl (Nat.le_of_ble_eq_true rfl) (by decide) (fun v9 u4 ch3 => ?_)
    have ech3 := ch3
    have ech3 : v9 = some (.int x) := ech3
    subst ech3
    refine pb_eq (pc' := 8) (lo' := [(0, .int x), (1, .int n)]) (rest' := [.int x]) (ws' := []) ?_
    refine pb_pop (pc := 8) d_JString_checkIndex_8 rfl ?_
    exact pb_vret (pc := 9) hQ d_JString_checkIndex_9 rfl () rfl [] (by decide) rfl rfl (by decide) (by decide)

theorem d_JStringLatin1_charAt_0 : decode prog_19_method_2_code 0 = .ok (.iload_n 1, 1) := by decide +kernel
theorem d_JStringLatin1_charAt_1 : decode prog_19_method_2_code 1 = .ok (.aload_n 0, 1) := by decide +kernel
theorem d_JStringLatin1_charAt_2 : decode prog_19_method_2_code 2 = .ok (.arraylength, 1) := by decide +kernel
theorem d_JStringLatin1_charAt_3 : decode prog_19_method_2_code 3 = .ok (.invokestatic 9, 3) := by decide +kernel
theorem k_762 : (Jvm.Cond.methodLink "java/lang/StringLatin1" (9 : Nat) ({ cls := "java/lang/String", name := "checkIndex", desc := "(II)V" } : Jvm.MethodName)) ∈ uW := uW_of 762 (by decide +kernel) (by decide +kernel)
theorem k_138 : (Jvm.Cond.initialized "java/lang/String") ∈ uW := uW_of 138 (by decide +kernel) (by decide +kernel)
theorem k_764 : (Jvm.Cond.code ({ cls := "java/lang/String", name := "checkIndex", desc := "(II)V" } : Jvm.MethodName) prog_18_method_155_code (2 : Nat) (Option.none : Option Jvm.ClassFile.FieldType)) ∈ uW := uW_of 764 (by decide +kernel) (by decide +kernel)
theorem k_763 : (Jvm.Cond.static ({ cls := "java/lang/String", name := "checkIndex", desc := "(II)V" } : Jvm.MethodName)) ∈ uW := uW_of 763 (by decide +kernel) (by decide +kernel)
theorem hy_JString_checkIndex : (y_JString_checkIndex).cls ≠ "java/lang/invoke/MethodHandle" ∧ (y_JString_checkIndex).cls ≠ "java/lang/invoke/VarHandle" ∧ (parseMethodDescriptor (y_JString_checkIndex).desc).map (fun d => d.parameters.length) = some 2 := by decide +kernel
theorem d_JStringLatin1_charAt_6 : decode prog_19_method_2_code 6 = .ok (.aload_n 0, 1) := by decide +kernel
theorem d_JStringLatin1_charAt_7 : decode prog_19_method_2_code 7 = .ok (.iload_n 1, 1) := by decide +kernel
theorem d_JStringLatin1_charAt_8 : decode prog_19_method_2_code 8 = .ok (.baload, 1) := by decide +kernel
theorem d_JStringLatin1_charAt_9 : decode prog_19_method_2_code 9 = .ok (.sipush 255, 3) := by decide +kernel
theorem d_JStringLatin1_charAt_12 : decode prog_19_method_2_code 12 = .ok (.iand, 1) := by decide +kernel
theorem d_JStringLatin1_charAt_13 : decode prog_19_method_2_code 13 = .ok (.i2c, 1) := by decide +kernel
theorem d_JStringLatin1_charAt_14 : decode prog_19_method_2_code 14 = .ok (.ireturn, 1) := by decide +kernel
abbrev y_JStringLatin1_charAt : MethodName := ⟨"java/lang/StringLatin1", "charAt", "([BI)C"⟩
abbrev i_JStringLatin1_charAt : pb_I := (y_JStringLatin1_charAt, prog_19_method_2_code, 2, (some Jvm.ClassFile.FieldType.char), [], { frames := 2, cells := 0, slots := 0, locals := 43 })
set_option maxRecDepth 100000 in
set_option maxHeartbeats 4000000 in
theorem g_Lat_charAt {l : Launch} (hl : l.stackTraces = false) (G : pb_G) (k : Nat) (i : Int32) (hk : k < st_n) (h0 : 0 ≤ i.toInt) (h1 : i.toInt < st_len k) : Cn l G i_JStringLatin1_charAt [.ref (G.2.2.2.2.2.2 k), .int i] [] (S := Int32) (fun rv_ u => rv_ = some (.int u) ∧ (0 ≤ u.toInt) ∧ (u.toInt ≤ 255) ∧ (u.toInt = st_c k i.toInt)) (fun u => []) := by
  refine Cn.of hl (by decide +kernel) rfl (Nat.le_of_ble_eq_true rfl) (fun M hQ => ?_)
  refine pb_eq (pc' := 0) (lo' := [(0, .ref (G.2.2.2.2.2.2 k)), (1, .int i)]) (rest' := []) (ws' := []) ?_
  have zl0 : (0 : Int32).toInt = 0 := by decide
  have zl1 : (1 : Int32).toInt = 1 := by decide
  have zl255 : (255 : Int32).toInt = 255 := by decide
  refine pb_iload_n (pc := 0) d_JStringLatin1_charAt_0 1 rfl rfl ?_
  refine pb_aload_n (pc := 1) d_JStringLatin1_charAt_1 0 rfl rfl ?_
  refine pb_vlen (pc := 2) d_JStringLatin1_charAt_2 hk ?_
  refine pb_topi (fun i1 ei1 => ?_)
  have ti1 : i1.toInt = st_len k := ti_ofNat ei1 (st_lt _)
  refine pb_callS (pc := 3) (I := i_JStringLatin1_charAt) (nA := 2) (rest := []) (wr := []) d_JStringLatin1_charAt_3 (g_Str_checkIndex hl G i i1 (by first | (with_reducible assumption) | omega (splitDisjunctions := false) | assumption | omega | decide) (by first | (with_reducible assumption) | omega (splitDisjunctions := false) | assumption | omega | decide)) [] [] (by decide) rfl rfl rfl (by decide) (by decide) k_764 rfl k_138 k_762 k_763 hy_JString_checkIndex (by decide) rfl rfl (Nat.le_of_ble_eq_true rfl) (by decide) (fun v9 u3 ch2 => ?_)
  have ech2 := ch2
  have ech2 : v9 = none := ech2
  subst ech2
  refine pb_eq (pc' := 6) (lo' := [(0, .ref (G.2.2.2.2.2.2 k)), (1, .int i)]) (rest' := []) (ws' := []) ?_
  refine pb_aload_n (pc := 6) d_JStringLatin1_charAt_6 0 rfl rfl ?_
  refine pb_iload_n (pc := 7) d_JStringLatin1_charAt_7 1 rfl rfl ?_
  refine pb_vld (pc := 8) d_JStringLatin1_charAt_8 hk (vp_in_iff.mpr (by unfold st_len at *; constructor <;> omega)) ?_
  refine pb_topi (fun i4 ei4 => ?_)
  refine pb_sipush (pc := 9) (v := 255) d_JStringLatin1_charAt_9 (by decide) ?_
  refine pb_iand (pc := 12) d_JStringLatin1_charAt_12 ?_
  refine pb_topi (fun i5 ei5 => ?_)
  have ti5 : 0 ≤ i5.toInt ∧ i5.toInt ≤ 255 := ti_and 8 ei5 (by decide) (by decide)
  refine pb_i2c (pc := 13) d_JStringLatin1_charAt_13 rfl ?_
  refine pb_topi (fun i6 ei6 => ?_)
  have ti6 : i6.toInt = i5.toInt := ti_i2c ei6 rfl (by omega)
  exact pb_iret (pc := 14) hQ d_JStringLatin1_charAt_14 rfl (nar_c (by omega)) (i6) ⟨rfl, (by (try dsimp only); first | done | (with_reducible assumption) | omega (splitDisjunctions := false) | assumption | omega | decide), (by (try dsimp only); first | done | (with_reducible assumption) | omega (splitDisjunctions := false) | assumption | omega | decide), (show i6.toInt = st_c k i.toInt from (sc_ld hk (by assumption) (by assumption) (by omega) h0))⟩ [] (by decide) rfl rfl (by decide) (by decide)

theorem d_JString_isLatin1_0 : decode prog_18_method_154_code 0 = .ok (.getstatic 38, 3) := by decide +kernel
theorem k_749 : (Jvm.Cond.fieldLink "java/lang/String" (38 : Nat) "java/lang/String" "COMPACT_STRINGS" "Z") ∈ uW := uW_of 749 (by decide +kernel) (by decide +kernel)
theorem d_JString_isLatin1_3 : decode prog_18_method_154_code 3 = .ok (.ifCond .eq 14, 3) := by decide +kernel
theorem d_JString_isLatin1_6 : decode prog_18_method_154_code 6 = .ok (.aload_n 0, 1) := by decide +kernel
theorem d_JString_isLatin1_7 : decode prog_18_method_154_code 7 = .ok (.getfield 15, 3) := by decide +kernel
theorem k_1679 : (Jvm.Cond.fieldLink "java/lang/String" (15 : Nat) "java/lang/String" "coder" "B") ∈ uW := uW_of 1679 (by decide +kernel) (by decide +kernel)
theorem d_JString_isLatin1_10 : decode prog_18_method_154_code 10 = .ok (.ifCond .ne 7, 3) := by decide +kernel
theorem d_JString_isLatin1_13 : decode prog_18_method_154_code 13 = .ok (.iconst 1, 1) := by decide +kernel
theorem d_JString_isLatin1_14 : decode prog_18_method_154_code 14 = .ok (.goto 4, 3) := by decide +kernel
theorem d_JString_isLatin1_18 : decode prog_18_method_154_code 18 = .ok (.ireturn, 1) := by decide +kernel
abbrev y_JString_isLatin1 : MethodName := ⟨"java/lang/String", "isLatin1", "()Z"⟩
abbrev i_JString_isLatin1 : pb_I := (y_JString_isLatin1, prog_18_method_154_code, 1, (some Jvm.ClassFile.FieldType.boolean), [], { frames := 0, cells := 0, slots := 0, locals := 0 })
set_option maxRecDepth 100000 in
set_option maxHeartbeats 4000000 in
theorem g_Str_isLatin1 {l : Launch} (hl : l.stackTraces = false) (G : pb_G) (k : Nat) (hk : k < st_n) : Cn l G i_JString_isLatin1 [.ref (G.2.2.2.2.2.1 k)] [] (S := Unit) (fun rv_ u => rv_ = some (.int 1)) (fun u => []) := by
  refine Cn.of hl (by decide +kernel) rfl (Nat.le_of_ble_eq_true rfl) (fun M hQ => ?_)
  refine pb_eq (pc' := 0) (lo' := [(0, .ref (G.2.2.2.2.2.1 k))]) (rest' := []) (ws' := []) ?_
  have zl0 : (0 : Int32).toInt = 0 := by decide
  have zl1 : (1 : Int32).toInt = 1 := by decide
  refine pb_getsC (pc := 0) d_JString_isLatin1_0 k_749 ?_
  refine pb_if_eq (pc := 3) (tgt := 17) d_JString_isLatin1_3 (by decide) (fun h9 => absurd h9 (by decide)) (fun _ => ?_)
  refine pb_aload_n (pc := 6) d_JString_isLatin1_6 0 rfl rfl ?_
  refine pb_scod (pc := 7) d_JString_isLatin1_7 hk k_1679 ?_
  refine pb_if_ne (pc := 10) (tgt := 17) d_JString_isLatin1_10 (by decide) (fun h9 => absurd h9 (by decide)) (fun _ => ?_)
  refine pb_iconst (pc := 13) (v := 1) d_JString_isLatin1_13 (by decide) ?_
  refine pb_goto (pc := 14) (tgt := 18) d_JString_isLatin1_14 (by decide) ?_
  exact pb_iret (pc := 18) hQ d_JString_isLatin1_18 rfl rfl () rfl [] (by decide) rfl rfl (by decide) (by decide)

theorem d_JString_charAt_0 : decode prog_18_method_56_code 0 = .ok (.aload_n 0, 1) := by decide +kernel
theorem d_JString_charAt_1 : decode prog_18_method_56_code 1 = .ok (.invokevirtual 492, 3) := by decide +kernel
theorem k_755 : (Jvm.Cond.methodLink "java/lang/String" (492 : Nat) ({ cls := "java/lang/String", name := "isLatin1", desc := "()Z" } : Jvm.MethodName)) ∈ uW := uW_of 755 (by decide +kernel) (by decide +kernel)
theorem k_758 : (Jvm.Cond.code ({ cls := "java/lang/String", name := "isLatin1", desc := "()Z" } : Jvm.MethodName) prog_18_method_154_code (1 : Nat) (Option.some Jvm.ClassFile.FieldType.boolean)) ∈ uW := uW_of 758 (by decide +kernel) (by decide +kernel)
theorem k_756 : (Jvm.Cond.instanceMethod ({ cls := "java/lang/String", name := "isLatin1", desc := "()Z" } : Jvm.MethodName)) ∈ uW := uW_of 756 (by decide +kernel) (by decide +kernel)
theorem k_757 : (Jvm.Cond.selects "java/lang/String" ({ cls := "java/lang/String", name := "isLatin1", desc := "()Z" } : Jvm.MethodName) ({ cls := "java/lang/String", name := "isLatin1", desc := "()Z" } : Jvm.MethodName)) ∈ uW := uW_of 757 (by decide +kernel) (by decide +kernel)
theorem hy_JString_isLatin1 : (y_JString_isLatin1).cls ≠ "java/lang/invoke/MethodHandle" ∧ (y_JString_isLatin1).cls ≠ "java/lang/invoke/VarHandle" ∧ (parseMethodDescriptor (y_JString_isLatin1).desc).map (fun d => d.parameters.length) = some 0 := by decide +kernel
theorem d_JString_charAt_4 : decode prog_18_method_56_code 4 = .ok (.ifCond .eq 12, 3) := by decide +kernel
theorem d_JString_charAt_7 : decode prog_18_method_56_code 7 = .ok (.aload_n 0, 1) := by decide +kernel
theorem d_JString_charAt_8 : decode prog_18_method_56_code 8 = .ok (.getfield 9, 3) := by decide +kernel
theorem k_1678 : (Jvm.Cond.fieldLink "java/lang/String" (9 : Nat) "java/lang/String" "value" "[B") ∈ uW := uW_of 1678 (by decide +kernel) (by decide +kernel)
theorem d_JString_charAt_11 : decode prog_18_method_56_code 11 = .ok (.iload_n 1, 1) := by decide +kernel
theorem d_JString_charAt_12 : decode prog_18_method_56_code 12 = .ok (.invokestatic 495, 3) := by decide +kernel
theorem k_759 : (Jvm.Cond.methodLink "java/lang/String" (495 : Nat) ({ cls := "java/lang/StringLatin1", name := "charAt", desc := "([BI)C" } : Jvm.MethodName)) ∈ uW := uW_of 759 (by decide +kernel) (by decide +kernel)
theorem k_139 : (Jvm.Cond.initialized "java/lang/StringLatin1") ∈ uW := uW_of 139 (by decide +kernel) (by decide +kernel)
theorem k_761 : (Jvm.Cond.code ({ cls := "java/lang/StringLatin1", name := "charAt", desc := "([BI)C" } : Jvm.MethodName) prog_19_method_2_code (2 : Nat) (Option.some Jvm.ClassFile.FieldType.char)) ∈ uW := uW_of 761 (by decide +kernel) (by decide +kernel)
theorem k_760 : (Jvm.Cond.static ({ cls := "java/lang/StringLatin1", name := "charAt", desc := "([BI)C" } : Jvm.MethodName)) ∈ uW := uW_of 760 (by decide +kernel) (by decide +kernel)
theorem hy_JStringLatin1_charAt : (y_JStringLatin1_charAt).cls ≠ "java/lang/invoke/MethodHandle" ∧ (y_JStringLatin1_charAt).cls ≠ "java/lang/invoke/VarHandle" ∧ (parseMethodDescriptor (y_JStringLatin1_charAt).desc).map (fun d => d.parameters.length) = some 2 := by decide +kernel
theorem d_JString_charAt_15 : decode prog_18_method_56_code 15 = .ok (.ireturn, 1) := by decide +kernel
abbrev y_JString_charAt : MethodName := ⟨"java/lang/String", "charAt", "(I)C"⟩
abbrev i_JString_charAt : pb_I := (y_JString_charAt, prog_18_method_56_code, 2, (some Jvm.ClassFile.FieldType.char), [], { frames := 3, cells := 0, slots := 0, locals := 64 })
set_option maxRecDepth 100000 in
set_option maxHeartbeats 4000000 in
theorem g_Str_charAt {l : Launch} (hl : l.stackTraces = false) (G : pb_G) (k : Nat) (i : Int32) (hk : k < st_n) (h0 : 0 ≤ i.toInt) (h1 : i.toInt < st_len k) : Cn l G i_JString_charAt [.ref (G.2.2.2.2.2.1 k), .int i] [] (S := Int32) (fun rv_ u => rv_ = some (.int u) ∧ (0 ≤ u.toInt) ∧ (u.toInt ≤ 255) ∧ (u.toInt = st_c k i.toInt)) (fun u => []) := by
  refine Cn.of hl (by decide +kernel) rfl (Nat.le_of_ble_eq_true rfl) (fun M hQ => ?_)
  refine pb_eq (pc' := 0) (lo' := [(0, .ref (G.2.2.2.2.2.1 k)), (1, .int i)]) (rest' := []) (ws' := []) ?_
  have zl0 : (0 : Int32).toInt = 0 := by decide
  have zl1 : (1 : Int32).toInt = 1 := by decide
  refine pb_aload_n (pc := 0) d_JString_charAt_0 0 rfl rfl ?_
  refine pb_callVS (pc := 1) (I := i_JString_charAt) (k := k) (nA := 0) (rest := []) (wr := []) d_JString_charAt_1 (g_Str_isLatin1 hl G k (by first | (with_reducible assumption) | omega (splitDisjunctions := false) | assumption | omega | decide)) hk rfl [] [] (by decide) rfl rfl rfl (by decide) (by decide) k_758 rfl k_138 k_755 k_756 k_757 ⟨rfl, hy_JString_isLatin1⟩ (by decide) rfl rfl (Nat.le_of_ble_eq_true rfl) (by decide) (fun v9 u2 ch1 => ?_)
  have ech1 := ch1
  have ech1 : v9 = some (.int 1) := ech1
  subst ech1
  refine pb_eq (pc' := 4) (lo' := [(0, .ref (G.2.2.2.2.2.1 k)), (1, .int i)]) (rest' := [.int 1]) (ws' := []) ?_
  refine pb_if_eq (pc := 4) (tgt := 16) d_JString_charAt_4 (by decide) (fun h9 => absurd h9 (by decide)) (fun _ => ?_)
  refine pb_aload_n (pc := 7) d_JString_charAt_7 0 rfl rfl ?_
  refine pb_sval (pc := 8) d_JString_charAt_8 hk k_1678 ?_
  refine pb_iload_n (pc := 11) d_JString_charAt_11 1 rfl rfl ?_
  refine pb_callS (pc := 12) (I := i_JString_charAt) (nA := 2) (rest := []) (wr := []) d_JString_charAt_12 (g_Lat_charAt hl G k i (by first | (with_reducible assumption) | omega (splitDisjunctions := false) | assumption | omega | decide) (by first | (with_reducible assumption) | omega (splitDisjunctions := false) | assumption | omega | decide) (by first | (with_reducible assumption) | omega (splitDisjunctions := false) | assumption | omega | decide)) [] [] (by decide) rfl rfl rfl (by decide) (by decide) k_761 rfl k_139 k_759 k_760 hy_JStringLatin1_charAt (by decide) rfl rfl (Nat.le_of_ble_eq_true rfl) (by decide) (fun v9 u5 ch4 => ?_)
  obtain ⟨r_6, rfl⟩ : ∃ z9, z9 = u5 := ⟨_, rfl⟩
  obtain ⟨ech4, ch4⟩ := ch4
  have ech4 : v9 = some (.int r_6) := ech4
  subst ech4
  obtain ⟨fh7, fh8, fh9⟩ : (0 ≤ r_6.toInt) ∧ (r_6.toInt ≤ 255) ∧ (r_6.toInt = st_c k i.toInt) := ch4
  refine pb_eq (pc' := 15) (lo' := [(0, .ref (G.2.2.2.2.2.1 k)), (1, .int i)]) (rest' := [.int r_6]) (ws' := []) ?_
  exact pb_iret (pc := 15) hQ d_JString_charAt_15 rfl (nar_c (by omega)) (r_6) ⟨rfl, (by (try dsimp only); first | done | (with_reducible assumption) | omega (splitDisjunctions := false) | assumption | omega | decide), (by (try dsimp only); first | done | (with_reducible assumption) | omega (splitDisjunctions := false) | assumption | omega | decide), (by (try dsimp only); first | done | (with_reducible assumption) | omega (splitDisjunctions := false) | assumption | omega | decide)⟩ [] (by decide) rfl rfl (by decide) (by decide)

theorem d_JString_coder_0 : decode prog_18_method_152_code 0 = .ok (.getstatic 38, 3) := by decide +kernel
theorem d_JString_coder_3 : decode prog_18_method_152_code 3 = .ok (.ifCond .eq 10, 3) := by decide +kernel
theorem d_JString_coder_6 : decode prog_18_method_152_code 6 = .ok (.aload_n 0, 1) := by decide +kernel
theorem d_JString_coder_7 : decode prog_18_method_152_code 7 = .ok (.getfield 15, 3) := by decide +kernel
theorem d_JString_coder_10 : decode prog_18_method_152_code 10 = .ok (.goto 4, 3) := by decide +kernel
theorem d_JString_coder_14 : decode prog_18_method_152_code 14 = .ok (.ireturn, 1) := by decide +kernel
abbrev y_JString_coder : MethodName := ⟨"java/lang/String", "coder", "()B"⟩
abbrev i_JString_coder : pb_I := (y_JString_coder, prog_18_method_152_code, 1, (some Jvm.ClassFile.FieldType.byte), [], { frames := 0, cells := 0, slots := 0, locals := 0 })
set_option maxRecDepth 100000 in
set_option maxHeartbeats 4000000 in
theorem g_Str_coder {l : Launch} (hl : l.stackTraces = false) (G : pb_G) (k : Nat) (hk : k < st_n) : Cn l G i_JString_coder [.ref (G.2.2.2.2.2.1 k)] [] (S := Unit) (fun rv_ u => rv_ = some (.int 0)) (fun u => []) := by
  refine Cn.of hl (by decide +kernel) rfl (Nat.le_of_ble_eq_true rfl) (fun M hQ => ?_)
  refine pb_eq (pc' := 0) (lo' := [(0, .ref (G.2.2.2.2.2.1 k))]) (rest' := []) (ws' := []) ?_
  have zl0 : (0 : Int32).toInt = 0 := by decide
  have zl1 : (1 : Int32).toInt = 1 := by decide
  refine pb_getsC (pc := 0) d_JString_coder_0 k_749 ?_
  refine pb_if_eq (pc := 3) (tgt := 13) d_JString_coder_3 (by decide) (fun h9 => absurd h9 (by decide)) (fun _ => ?_)
  refine pb_aload_n (pc := 6) d_JString_coder_6 0 rfl rfl ?_
  refine pb_scod (pc := 7) d_JString_coder_7 hk k_1679 ?_
  refine pb_goto (pc := 10) (tgt := 14) d_JString_coder_10 (by decide) ?_
  exact pb_iret (pc := 14) hQ d_JString_coder_14 rfl rfl () rfl [] (by decide) rfl rfl (by decide) (by decide)

theorem d_JString_length_0 : decode prog_18_method_54_code 0 = .ok (.aload_n 0, 1) := by decide +kernel
theorem d_JString_length_1 : decode prog_18_method_54_code 1 = .ok (.getfield 9, 3) := by decide +kernel
theorem d_JString_length_4 : decode prog_18_method_54_code 4 = .ok (.arraylength, 1) := by decide +kernel
theorem d_JString_length_5 : decode prog_18_method_54_code 5 = .ok (.aload_n 0, 1) := by decide +kernel
theorem d_JString_length_6 : decode prog_18_method_54_code 6 = .ok (.invokevirtual 335, 3) := by decide +kernel
theorem k_745 : (Jvm.Cond.methodLink "java/lang/String" (335 : Nat) ({ cls := "java/lang/String", name := "coder", desc := "()B" } : Jvm.MethodName)) ∈ uW := uW_of 745 (by decide +kernel) (by decide +kernel)
theorem k_748 : (Jvm.Cond.code ({ cls := "java/lang/String", name := "coder", desc := "()B" } : Jvm.MethodName) prog_18_method_152_code (1 : Nat) (Option.some Jvm.ClassFile.FieldType.byte)) ∈ uW := uW_of 748 (by decide +kernel) (by decide +kernel)
theorem k_746 : (Jvm.Cond.instanceMethod ({ cls := "java/lang/String", name := "coder", desc := "()B" } : Jvm.MethodName)) ∈ uW := uW_of 746 (by decide +kernel) (by decide +kernel)
theorem k_747 : (Jvm.Cond.selects "java/lang/String" ({ cls := "java/lang/String", name := "coder", desc := "()B" } : Jvm.MethodName) ({ cls := "java/lang/String", name := "coder", desc := "()B" } : Jvm.MethodName)) ∈ uW := uW_of 747 (by decide +kernel) (by decide +kernel)
theorem hy_JString_coder : (y_JString_coder).cls ≠ "java/lang/invoke/MethodHandle" ∧ (y_JString_coder).cls ≠ "java/lang/invoke/VarHandle" ∧ (parseMethodDescriptor (y_JString_coder).desc).map (fun d => d.parameters.length) = some 0 := by decide +kernel
theorem d_JString_length_9 : decode prog_18_method_54_code 9 = .ok (.ishr, 1) := by decide +kernel
theorem d_JString_length_10 : decode prog_18_method_54_code 10 = .ok (.ireturn, 1) := by decide +kernel
abbrev y_JString_length : MethodName := ⟨"java/lang/String", "length", "()I"⟩
abbrev i_JString_length : pb_I := (y_JString_length, prog_18_method_54_code, 1, (some Jvm.ClassFile.FieldType.int), [], { frames := 1, cells := 0, slots := 0, locals := 20 })
set_option maxRecDepth 100000 in
set_option maxHeartbeats 4000000 in
theorem g_Str_length {l : Launch} (hl : l.stackTraces = false) (G : pb_G) (k : Nat) (hk : k < st_n) : Cn l G i_JString_length [.ref (G.2.2.2.2.2.1 k)] [] (S := Int32) (fun rv_ u => rv_ = some (.int u) ∧ (u.toInt = st_len k)) (fun u => []) := by
  refine Cn.of hl (by decide +kernel) rfl (Nat.le_of_ble_eq_true rfl) (fun M hQ => ?_)
  refine pb_eq (pc' := 0) (lo' := [(0, .ref (G.2.2.2.2.2.1 k))]) (rest' := []) (ws' := []) ?_
  have zl0 : (0 : Int32).toInt = 0 := by decide
  have zl1 : (1 : Int32).toInt = 1 := by decide
  refine pb_aload_n (pc := 0) d_JString_length_0 0 rfl rfl ?_
  refine pb_sval (pc := 1) d_JString_length_1 hk k_1678 ?_
  refine pb_vlen (pc := 4) d_JString_length_4 hk ?_
  refine pb_topi (fun i1 ei1 => ?_)
  have ti1 : i1.toInt = st_len k := ti_ofNat ei1 (st_lt _)
  refine pb_aload_n (pc := 5) d_JString_length_5 0 rfl rfl ?_
  refine pb_callVS (pc := 6) (I := i_JString_length) (k := k) (nA := 0) (rest := [.int i1]) (wr := []) d_JString_length_6 (g_Str_coder hl G k (by first | (with_reducible assumption) | omega (splitDisjunctions := false) | assumption | omega | decide)) hk rfl [] [] (by decide) rfl rfl rfl (by decide) (by decide) k_748 rfl k_138 k_745 k_746 k_747 ⟨rfl, hy_JString_coder⟩ (by decide) rfl rfl (Nat.le_of_ble_eq_true rfl) (by decide) (fun v9 u3 ch2 => ?_)
  have ech2 := ch2
  have ech2 : v9 = some (.int 0) := ech2
  subst ech2
  refine pb_eq (pc' := 9) (lo' := [(0, .ref (G.2.2.2.2.2.1 k))]) (rest' := [.int 0, .int i1]) (ws' := []) ?_
  refine pb_ishr (pc := 9) d_JString_length_9 ?_
  refine pb_topi (fun i4 ei4 => ?_)
  have ti4 : i4.toInt = i1.toInt / 1 := ti_shr ei4 rfl 0 (by decide) (by decide)
  exact pb_iret (pc := 10) hQ d_JString_length_10 rfl rfl (i4) ⟨rfl, (by (try dsimp only); first | done | (with_reducible assumption) | omega (splitDisjunctions := false) | assumption | omega | decide)⟩ [] (by decide) rfl rfl (by decide) (by decide)
