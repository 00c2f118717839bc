/-- what holds of the presser's chains when place p of s is next -/
def pr_I (p s : Int) (fl fe : Nat → Int32) : Prop := (∀ x : Int, 0 ≤ x → x < 1024 → -1 ≤ gx fl x ∧ gx fl x < p) ∧ ∀ k : Int, 0 ≤ k → k < p → k + 3 ≤ s → -1 ≤ gx fe k ∧ gx fe k < p
theorem pr_0 {s : Int} {fl fe : Nat → Int32} (h : ∀ x : Int, 0 ≤ x → x < 1024 → gx fl x = -1) : pr_I 0 s fl fe := ⟨fun x h0 h1 => by rw [h x h0 h1]; omega, fun k h0 h1 => absurd h1 (by omega)⟩
theorem pr_skip {p q s : Int} {fl fe : Nat → Int32} (h : pr_I p s fl fe) (hs : ¬ p + 3 ≤ s) (hq : q = p + 1) : pr_I q s fl fe := ⟨fun x h0 h1 => by have := h.1 x h0 h1; omega, fun k h0 h1 h2 => by have := h.2 k h0 (by omega) h2; omega⟩
theorem pr_step {p q s m : Int} {fl fe : Nat → Int32} {pi mi pv v : Int32} (h : pr_I p s fl fe) (h0 : 0 ≤ p) (hp : pi.toInt = p) (hm : mi.toInt = m) (hm0 : 0 ≤ m) (hm1 : m < 1024) (hv : v.toInt = gx fl m) (hpv : pv.toInt = p) (hq : q = p + 1) : pr_I q s (upd fl mi.toNatClampNeg pv) (upd fe pi.toNatClampNeg v) := by
  have a := h.1 m hm0 hm1
  refine ⟨fun x x0 x1 => ?_, fun k k0 k1 k2 => ?_⟩
  · rw [gx_upd hm x hm0 x0]
    have b := h.1 x x0 x1
    split <;> omega
  · rw [gx_upd hp k h0 k0]
    by_cases w : k = p
    · rw [if_pos w]; omega
    · rw [if_neg w]
      have b := h.2 k k0 (by omega) k2
      omega
theorem pb_mmin {l : Launch} {G : pb_G} {M : pb_M} {I : pb_I} {pc : Nat} {lo : List (Nat × Value)} {rest : List Value} {ws : va_W} {ck cn : Nat} {index : Nat} {x y : Int32} (hd : decode (pi_c I) pc = .ok (.invokestatic index, 3)) (w1 : Cond.methodLink (pi_y I).cls index Lib.Math.min.name ∈ uW) (w2 : Cond.static Lib.Math.min.name ∈ uW) (w3 : Cond.initialized "java/lang/Math" ∈ uW) (w4 : Cond.code Lib.Math.min.name Lib.Math.min.code 2 (some .int) ∈ uW) (h6 : 1 ≤ (pi_R I).frames) (h7 : (rest.map fun v => v.category).sum + 13 ≤ (pi_R I).locals) (hc : ck ≤ (pi_R I).cells) (hs : cn ≤ (pi_R I).slots) (kk : ∀ z : Int32, z.toInt ≤ x.toInt → z.toInt ≤ y.toInt → (z.toInt = x.toInt ∨ z.toInt = y.toInt) → pb_P l G M I (pc + 3) lo (.int z :: rest) ws ck cn) : pb_P l G M I pc lo (.int y :: .int x :: rest) ws ck cn := fun E H locs ls hP hD hS hl => by
  refine va_mmin E.1 E.2.1 (E.2.2.1.trans hl.1.symm) E.2.2.2.1 (pb_w E w1) (pb_w E w2) (pb_w E w3) (pb_w E w4) h6 h7 hc hs hd ?_
  by_cases h : y < x
  · have h2 := Int32.lt_iff_toInt_lt.mp h
    rw [if_pos h]
    exact kk y (by omega) (Int.le_refl _) (Or.inr rfl) E H locs ls hP hD hS hl
  · have h2 : ¬ y.toInt < x.toInt := fun z => h (Int32.lt_iff_toInt_lt.mpr z)
    rw [if_neg h]
    exact kk x (Int.le_refl _) (by omega) (Or.inl rfl) E H locs ls hP hD hS hl

theorem d_JArrays_fill_0 : decode prog_24_method_103_code 0 = .ok (.iconst 0, 1) := by decide +kernel
theorem d_JArrays_fill_1 : decode prog_24_method_103_code 1 = .ok (.istore_n 2, 1) := by decide +kernel
theorem d_JArrays_fill_2 : decode prog_24_method_103_code 2 = .ok (.aload_n 0, 1) := by decide +kernel
theorem d_JArrays_fill_3 : decode prog_24_method_103_code 3 = .ok (.arraylength, 1) := by decide +kernel
theorem d_JArrays_fill_4 : decode prog_24_method_103_code 4 = .ok (.istore_n 3, 1) := by decide +kernel
theorem d_JArrays_fill_5 : decode prog_24_method_103_code 5 = .ok (.iload_n 2, 1) := by decide +kernel
theorem d_JArrays_fill_6 : decode prog_24_method_103_code 6 = .ok (.iload_n 3, 1) := by decide +kernel
theorem d_JArrays_fill_7 : decode prog_24_method_103_code 7 = .ok (.if_icmp .ge 13, 3) := by decide +kernel
theorem d_JArrays_fill_20 : decode prog_24_method_103_code 20 = .ok (.return_, 1) := by decide +kernel
theorem d_JArrays_fill_10 : decode prog_24_method_103_code 10 = .ok (.aload_n 0, 1) := by decide +kernel
theorem d_JArrays_fill_11 : decode prog_24_method_103_code 11 = .ok (.iload_n 2, 1) := by decide +kernel
theorem d_JArrays_fill_12 : decode prog_24_method_103_code 12 = .ok (.iload_n 1, 1) := by decide +kernel
theorem d_JArrays_fill_13 : decode prog_24_method_103_code 13 = .ok (.iastore, 1) := by decide +kernel
theorem d_JArrays_fill_14 : decode prog_24_method_103_code 14 = .ok (.iinc 2 1, 3) := by decide +kernel
theorem d_JArrays_fill_17 : decode prog_24_method_103_code 17 = .ok (.goto (-12), 3) := by decide +kernel
abbrev y_JArrays_fill : MethodName := ⟨"java/util/Arrays", "fill", "([II)V"⟩
abbrev i_JArrays_fill : pb_I := (y_JArrays_fill, prog_24_method_103_code, 4, (Option.none : Option Jvm.ClassFile.FieldType), [], { frames := 0, cells := 0, slots := 0, locals := 0 })
set_option maxRecDepth 100000 in
set_option maxHeartbeats 4000000 in
theorem g_fill {l : Launch} (hl : l.stackTraces = false) (G : pb_G) (b : Nat) (N : Nat) (f : Nat → Int32) (vv : Int32) (hN : N ≤ 100000) : Cn l G i_JArrays_fill [.ref b, .int vv] [(b, .inl (G.2.2.1, N, .inl f))] (S := (Nat → Int32)) (fun rv_ u => rv_ = none ∧ (∀ x : Int, 0 ≤ x → x < N → gx u x = vv.toInt)) (fun u => [(b, .inl (G.2.2.1, N, .inl u))]) := by
  refine Cn.of hl (by decide +kernel) rfl (Nat.le_of_ble_eq_true rfl) (fun M hQ => ?_)
  refine pb_eq (pc' := 0) (lo' := [(0, .ref b), (1, .int vv)]) (rest' := []) (ws' := [(b, .inl (G.2.2.1, N, .inl f))]) ?_
  have zl0 : (0 : Int32).toInt = 0 := by decide
  have zl1 : (1 : Int32).toInt = 1 := by decide
  refine pb_iconst (pc := 0) (v := 0) d_JArrays_fill_0 (by decide) ?_
  refine pb_istore_n (pc := 1) (lo' := [(2, .int 0), (0, .ref b), (1, .int vv)]) d_JArrays_fill_1 rfl (by decide) rfl ?_
  refine pb_aload_n (pc := 2) d_JArrays_fill_2 1 rfl rfl ?_
  refine pb_alen (pc := 3) d_JArrays_fill_3 0 1 rfl rfl rfl ?_
  refine pb_topi (fun i1 ei1 => ?_)
  have ti1 : i1.toInt = (N : Int) := ti_ofNat ei1 (by omega)
  refine pb_istore_n (pc := 4) (lo' := [(3, .int i1), (2, .int 0), (0, .ref b), (1, .int vv)]) d_JArrays_fill_4 rfl (by decide) rfl ?_
  have hL5_2 : ∀ (N9 : Nat) (k : Int32) (L : Int32) (g : Nat → Int32), (0 ≤ k.toInt) → (L.toInt = N) → (∀ x : Int, 0 ≤ x → x < k.toInt → gx g x = vv.toInt) → (((N : Int) - k.toInt).toNat) < N9 → pb_P l G M i_JArrays_fill 5 [(3, .int L), (2, .int k), (0, .ref b), (1, .int vv)] [] [(b, .inl (G.2.2.1, N, .inl g))] 0 0 := by
    intro N9
    induction N9 with
    | zero => intro k L g hk hL hg hm9; exact absurd hm9 (Nat.not_lt_zero _)
    | succ N9 ih5 =>
      intro k L g hk hL hg hm9
      refine pb_iload_n (pc := 5) d_JArrays_fill_5 1 rfl rfl ?_
      refine pb_iload_n (pc := 6) d_JArrays_fill_6 0 rfl rfl ?_
      refine pb_icmp_ge (pc := 7) (tgt := 20) d_JArrays_fill_7 (by decide) (fun w3 => ?_) (fun w3 => ?_)
      · have tw3 : L.toInt ≤ k.toInt := (ti_le rfl rfl).mp w3
        exact pb_vret (pc := 20) hQ d_JArrays_fill_20 rfl (g) ⟨rfl, (fun x h0 h1 => hg x h0 (by omega))⟩ [0] (by decide) rfl rfl (by decide) (by decide)
      · have tw3 : ¬ L.toInt ≤ k.toInt := fun z9 => w3 ((ti_le rfl rfl).mpr z9)
        refine pb_aload_n (pc := 10) d_JArrays_fill_10 2 rfl rfl ?_
        refine pb_iload_n (pc := 11) d_JArrays_fill_11 1 rfl rfl ?_
        refine pb_iload_n (pc := 12) d_JArrays_fill_12 3 rfl rfl ?_
        refine pb_iast (pc := 13) (ws' := [(b, .inl (G.2.2.1, N, .inl (upd g ((k : Int32).toNatClampNeg) vv)))]) d_JArrays_fill_13 0 rfl (vp_in_iff.mpr (by constructor <;> omega)) rfl ?_
        refine pb_iincN (pc := 14) (c := 1) d_JArrays_fill_14 1 rfl (by decide) (by decide) (fun i4 ei4 => ?_)
        have ti4 : i4.toInt = k.toInt + 1 := ti_add ei4 rfl (by decide) (by omega) (by omega)
        refine pb_eq (pc' := 17) (lo' := [(2, .int i4), (3, .int L), (0, .ref b), (1, .int vv)]) (rest' := []) (ws' := [(b, .inl (G.2.2.1, N, .inl (upd g ((k : Int32).toNatClampNeg) vv)))]) ?_
        refine pb_goto (pc := 17) (tgt := 5) d_JArrays_fill_17 (by decide) ?_
        refine pb_re (ws' := [(b, .inl (G.2.2.1, N, .inl (upd g ((k : Int32).toNatClampNeg) vv)))]) (lo' := [(3, .int L), (2, .int i4), (0, .ref b), (1, .int vv)]) [0] [1, 0, 2, 3] (by decide) rfl rfl rfl ?_
        exact ih5 i4 L (upd g ((k : Int32).toNatClampNeg) vv) (by first | assumption | omega (splitDisjunctions := false) | omega | decide) (by first | assumption | omega (splitDisjunctions := false) | omega | decide) (fun x h0 h1 => by rw [gx_upd rfl x (by omega) h0]; split <;> first | rfl | exact hg x h0 (by omega)) (by omega)
  exact hL5_2 _ 0 i1 f (by first | assumption | omega (splitDisjunctions := false) | omega | decide) (by first | assumption | omega (splitDisjunctions := false) | omega | decide) (fun x h0 h1 => absurd h1 (by omega)) (Nat.lt_succ_self _)

theorem d_Presser_turned_0 : decode prog_8_method_10_code 0 = .ok (.iconst 0, 1) := by decide +kernel
theorem d_Presser_turned_1 : decode prog_8_method_10_code 1 = .ok (.istore_n 2, 1) := by decide +kernel
theorem d_Presser_turned_2 : decode prog_8_method_10_code 2 = .ok (.iconst 0, 1) := by decide +kernel
theorem d_Presser_turned_3 : decode prog_8_method_10_code 3 = .ok (.istore_n 3, 1) := by decide +kernel
theorem d_Presser_turned_4 : decode prog_8_method_10_code 4 = .ok (.iload_n 3, 1) := by decide +kernel
theorem d_Presser_turned_5 : decode prog_8_method_10_code 5 = .ok (.iload_n 1, 1) := by decide +kernel
theorem d_Presser_turned_6 : decode prog_8_method_10_code 6 = .ok (.if_icmp .ge 19, 3) := by decide +kernel
theorem d_Presser_turned_25 : decode prog_8_method_10_code 25 = .ok (.iload_n 2, 1) := by decide +kernel
theorem d_Presser_turned_26 : decode prog_8_method_10_code 26 = .ok (.ireturn, 1) := by decide +kernel
theorem d_Presser_turned_9 : decode prog_8_method_10_code 9 = .ok (.iconst 2, 1) := by decide +kernel
theorem d_Presser_turned_10 : decode prog_8_method_10_code 10 = .ok (.iload_n 2, 1) := by decide +kernel
theorem d_Presser_turned_11 : decode prog_8_method_10_code 11 = .ok (.imul, 1) := by decide +kernel
theorem d_Presser_turned_12 : decode prog_8_method_10_code 12 = .ok (.iload_n 0, 1) := by decide +kernel
theorem d_Presser_turned_13 : decode prog_8_method_10_code 13 = .ok (.iload_n 3, 1) := by decide +kernel
theorem d_Presser_turned_14 : decode prog_8_method_10_code 14 = .ok (.ishr, 1) := by decide +kernel
theorem d_Presser_turned_15 : decode prog_8_method_10_code 15 = .ok (.iconst 1, 1) := by decide +kernel
theorem d_Presser_turned_16 : decode prog_8_method_10_code 16 = .ok (.iand, 1) := by decide +kernel
theorem d_Presser_turned_17 : decode prog_8_method_10_code 17 = .ok (.iadd, 1) := by decide +kernel
theorem d_Presser_turned_18 : decode prog_8_method_10_code 18 = .ok (.istore_n 2, 1) := by decide +kernel
theorem d_Presser_turned_19 : decode prog_8_method_10_code 19 = .ok (.iinc 3 1, 3) := by decide +kernel
theorem d_Presser_turned_22 : decode prog_8_method_10_code 22 = .ok (.goto (-18), 3) := by decide +kernel
abbrev y_Presser_turned : MethodName := ⟨"PackageBook$Presser", "turned", "(II)I"⟩
abbrev i_Presser_turned : pb_I := (y_Presser_turned, prog_8_method_10_code, 4, (some Jvm.ClassFile.FieldType.int), [], { frames := 0, cells := 0, slots := 0, locals := 0 })
set_option maxRecDepth 100000 in
set_option maxHeartbeats 4000000 in
theorem g_Pr_turned {l : Launch} (hl : l.stackTraces = false) (G : pb_G) (x : Int32) (n : Int32) : Cn l G i_Presser_turned [.int x, .int n] [] (S := Int32) (fun rv_ u => rv_ = some (.int u)) (fun u => []) := by
  refine Cn.of hl (by decide +kernel) rfl (Nat.le_of_ble_eq_true rfl) (fun M hQ => ?_)
  refine pb_eq (pc' := 0) (lo' := [(0, .int x), (1, .int n)]) (rest' := []) (ws' := []) ?_
  have zl0 : (0 : Int32).toInt = 0 := by decide
  have zl1 : (1 : Int32).toInt = 1 := by decide
  have zl2 : (2 : Int32).toInt = 2 := by decide
  have rn := ti_rng n
  refine pb_iconst (pc := 0) (v := 0) d_Presser_turned_0 (by decide) ?_
  refine pb_istore_n (pc := 1) (lo' := [(2, .int 0), (0, .int x), (1, .int n)]) d_Presser_turned_1 rfl (by decide) rfl ?_
  refine pb_iconst (pc := 2) (v := 0) d_Presser_turned_2 (by decide) ?_
  refine pb_istore_n (pc := 3) (lo' := [(3, .int 0), (2, .int 0), (0, .int x), (1, .int n)]) d_Presser_turned_3 rfl (by decide) rfl ?_
  have hL4_1 : ∀ (N9 : Nat) (k : Int32) (v : Int32), (0 ≤ k.toInt) → ((n.toInt - k.toInt).toNat) < N9 → pb_P l G M i_Presser_turned 4 [(3, .int k), (2, .int v), (0, .int x), (1, .int n)] [] [] 0 0 := by
    intro N9
    induction N9 with
    | zero => intro k v hk hm9; exact absurd hm9 (Nat.not_lt_zero _)
    | succ N9 ih4 =>
      intro k v hk hm9
      refine pb_iload_n (pc := 4) d_Presser_turned_4 0 rfl rfl ?_
      refine pb_iload_n (pc := 5) d_Presser_turned_5 3 rfl rfl ?_
      refine pb_icmp_ge (pc := 6) (tgt := 25) d_Presser_turned_6 (by decide) (fun w2 => ?_) (fun w2 => ?_)
      · have tw2 : n.toInt ≤ k.toInt := (ti_le rfl rfl).mp w2
        refine pb_iload_n (pc := 25) d_Presser_turned_25 1 rfl rfl ?_
        exact pb_iret (pc := 26) hQ d_Presser_turned_26 rfl rfl (v) rfl [] (by decide) rfl rfl (by decide) (by decide)
      · have tw2 : ¬ n.toInt ≤ k.toInt := fun z9 => w2 ((ti_le rfl rfl).mpr z9)
        refine pb_iconst (pc := 9) (v := 2) d_Presser_turned_9 (by decide) ?_
        refine pb_iload_n (pc := 10) d_Presser_turned_10 1 rfl rfl ?_
        refine pb_imul (pc := 11) d_Presser_turned_11 ?_
        refine pb_topi (fun i3 ei3 => ?_)
        try have ti3 : i3.toInt = 2 * v.toInt := ti_mul ei3 (by decide) rfl (by omega) (by omega)
        refine pb_iload_n (pc := 12) d_Presser_turned_12 2 rfl rfl ?_
        refine pb_iload_n (pc := 13) d_Presser_turned_13 0 rfl rfl ?_
        refine pb_ishr (pc := 14) d_Presser_turned_14 ?_
        refine pb_topi (fun i4 ei4 => ?_)
        refine pb_iconst (pc := 15) (v := 1) d_Presser_turned_15 (by decide) ?_
        refine pb_iand (pc := 16) d_Presser_turned_16 ?_
        refine pb_topi (fun i5 ei5 => ?_)
        have ti5 : 0 ≤ i5.toInt ∧ i5.toInt ≤ 1 := ti_and 1 ei5 (by decide) (by decide)
        refine pb_iadd (pc := 17) d_Presser_turned_17 ?_
        refine pb_topi (fun i6 ei6 => ?_)
        try have ti6 : i6.toInt = i3.toInt + i5.toInt := ti_add ei6 rfl rfl (by omega) (by omega)
        refine pb_istore_n (pc := 18) (lo' := [(2, .int i6), (3, .int k), (0, .int x), (1, .int n)]) d_Presser_turned_18 rfl (by decide) rfl ?_
        refine pb_iincN (pc := 19) (c := 1) d_Presser_turned_19 1 rfl (by decide) (by decide) (fun i7 ei7 => ?_)
        have ti7 : i7.toInt = k.toInt + 1 := ti_add ei7 rfl (by decide) (by omega) (by omega)
        refine pb_eq (pc' := 22) (lo' := [(3, .int i7), (2, .int i6), (0, .int x), (1, .int n)]) (rest' := []) (ws' := []) ?_
        refine pb_goto (pc := 22) (tgt := 4) d_Presser_turned_22 (by decide) ?_
        exact ih4 i7 i6 (by first | assumption | omega (splitDisjunctions := false) | omega | decide) (by omega)
  exact hL4_1 _ 0 0 (by first | assumption | omega (splitDisjunctions := false) | omega | decide) (Nat.lt_succ_self _)

theorem d_Presser_putNumber_0 : decode prog_8_method_11_code 0 = .ok (.iconst 0, 1) := by decide +kernel
theorem d_Presser_putNumber_1 : decode prog_8_method_11_code 1 = .ok (.istore_n 3, 1) := by decide +kernel
theorem d_Presser_putNumber_2 : decode prog_8_method_11_code 2 = .ok (.iload_n 3, 1) := by decide +kernel
theorem d_Presser_putNumber_3 : decode prog_8_method_11_code 3 = .ok (.iload_n 2, 1) := by decide +kernel
theorem d_Presser_putNumber_4 : decode prog_8_method_11_code 4 = .ok (.if_icmp .ge 106, 3) := by decide +kernel
theorem d_Presser_putNumber_110 : decode prog_8_method_11_code 110 = .ok (.return_, 1) := by decide +kernel
theorem d_Presser_putNumber_59 : decode prog_8_method_11_code 59 = .ok (.aload_n 0, 1) := by decide +kernel
theorem d_Presser_putNumber_60 : decode prog_8_method_11_code 60 = .ok (.getfield 14, 3) := by decide +kernel
theorem d_Presser_putNumber_63 : decode prog_8_method_11_code 63 = .ok (.getfield 90, 3) := by decide +kernel
theorem k_161 : (Jvm.Cond.fieldLinkNest "PackageBook$Presser" (90 : Nat) "PackageBook$Row" "bytes" "[B" "PackageBook") ∈ uN := uN_of 161 (by decide +kernel) (by decide +kernel)
theorem d_Presser_putNumber_66 : decode prog_8_method_11_code 66 = .ok (.aload_n 0, 1) := by decide +kernel
theorem d_Presser_putNumber_67 : decode prog_8_method_11_code 67 = .ok (.getfield 14, 3) := by decide +kernel
theorem d_Presser_putNumber_70 : decode prog_8_method_11_code 70 = .ok (.getfield 38, 3) := by decide +kernel
theorem k_164 : (Jvm.Cond.fieldLinkNest "PackageBook$Presser" (38 : Nat) "PackageBook$Row" "size" "I" "PackageBook") ∈ uN := uN_of 164 (by decide +kernel) (by decide +kernel)
theorem d_Presser_putNumber_73 : decode prog_8_method_11_code 73 = .ok (.iconst 1, 1) := by decide +kernel
theorem d_Presser_putNumber_74 : decode prog_8_method_11_code 74 = .ok (.isub, 1) := by decide +kernel
theorem d_Presser_putNumber_75 : decode prog_8_method_11_code 75 = .ok (.dup2, 1) := by decide +kernel
theorem d_Presser_putNumber_76 : decode prog_8_method_11_code 76 = .ok (.baload, 1) := by decide +kernel
theorem d_Presser_putNumber_77 : decode prog_8_method_11_code 77 = .ok (.iload_n 1, 1) := by decide +kernel
theorem d_Presser_putNumber_78 : decode prog_8_method_11_code 78 = .ok (.iload_n 3, 1) := by decide +kernel
theorem d_Presser_putNumber_79 : decode prog_8_method_11_code 79 = .ok (.ishr, 1) := by decide +kernel
theorem d_Presser_putNumber_80 : decode prog_8_method_11_code 80 = .ok (.iconst 1, 1) := by decide +kernel
theorem d_Presser_putNumber_81 : decode prog_8_method_11_code 81 = .ok (.iand, 1) := by decide +kernel
theorem d_Presser_putNumber_82 : decode prog_8_method_11_code 82 = .ok (.aload_n 0, 1) := by decide +kernel
theorem d_Presser_putNumber_83 : decode prog_8_method_11_code 83 = .ok (.getfield 39, 3) := by decide +kernel
theorem k_189 : (Jvm.Cond.fieldLink "PackageBook$Presser" (39 : Nat) "PackageBook$Presser" "bits" "I") ∈ uW := uW_of 189 (by decide +kernel) (by decide +kernel)
theorem d_Presser_putNumber_86 : decode prog_8_method_11_code 86 = .ok (.bipush 8, 2) := by decide +kernel
theorem d_Presser_putNumber_88 : decode prog_8_method_11_code 88 = .ok (.irem, 1) := by decide +kernel
theorem d_Presser_putNumber_89 : decode prog_8_method_11_code 89 = .ok (.ishl, 1) := by decide +kernel
theorem d_Presser_putNumber_90 : decode prog_8_method_11_code 90 = .ok (.i2b, 1) := by decide +kernel
theorem d_Presser_putNumber_91 : decode prog_8_method_11_code 91 = .ok (.ior, 1) := by decide +kernel
theorem d_Presser_putNumber_92 : decode prog_8_method_11_code 92 = .ok (.i2b, 1) := by decide +kernel
theorem d_Presser_putNumber_93 : decode prog_8_method_11_code 93 = .ok (.bastore, 1) := by decide +kernel
theorem d_Presser_putNumber_94 : decode prog_8_method_11_code 94 = .ok (.aload_n 0, 1) := by decide +kernel
theorem d_Presser_putNumber_95 : decode prog_8_method_11_code 95 = .ok (.dup, 1) := by decide +kernel
theorem d_Presser_putNumber_96 : decode prog_8_method_11_code 96 = .ok (.getfield 39, 3) := by decide +kernel
theorem d_Presser_putNumber_99 : decode prog_8_method_11_code 99 = .ok (.iconst 1, 1) := by decide +kernel
theorem d_Presser_putNumber_100 : decode prog_8_method_11_code 100 = .ok (.iadd, 1) := by decide +kernel
theorem d_Presser_putNumber_101 : decode prog_8_method_11_code 101 = .ok (.putfield 39, 3) := by decide +kernel
theorem d_Presser_putNumber_104 : decode prog_8_method_11_code 104 = .ok (.iinc 3 1, 3) := by decide +kernel
theorem d_Presser_putNumber_107 : decode prog_8_method_11_code 107 = .ok (.goto (-105), 3) := by decide +kernel
theorem d_Presser_putNumber_7 : decode prog_8_method_11_code 7 = .ok (.aload_n 0, 1) := by decide +kernel
theorem d_Presser_putNumber_8 : decode prog_8_method_11_code 8 = .ok (.getfield 39, 3) := by decide +kernel
theorem d_Presser_putNumber_11 : decode prog_8_method_11_code 11 = .ok (.bipush 8, 2) := by decide +kernel
theorem d_Presser_putNumber_13 : decode prog_8_method_11_code 13 = .ok (.irem, 1) := by decide +kernel
theorem d_Presser_putNumber_14 : decode prog_8_method_11_code 14 = .ok (.ifCond .ne 45, 3) := by decide +kernel
theorem d_Presser_putNumber_17 : decode prog_8_method_11_code 17 = .ok (.aload_n 0, 1) := by decide +kernel
theorem d_Presser_putNumber_18 : decode prog_8_method_11_code 18 = .ok (.getfield 14, 3) := by decide +kernel
theorem d_Presser_putNumber_21 : decode prog_8_method_11_code 21 = .ok (.getfield 38, 3) := by decide +kernel
theorem d_Presser_putNumber_24 : decode prog_8_method_11_code 24 = .ok (.sipush 4502, 3) := by decide +kernel
theorem d_Presser_putNumber_27 : decode prog_8_method_11_code 27 = .ok (.if_icmp .ge 32, 3) := by decide +kernel
theorem d_Presser_putNumber_30 : decode prog_8_method_11_code 30 = .ok (.aload_n 0, 1) := by decide +kernel
theorem d_Presser_putNumber_31 : decode prog_8_method_11_code 31 = .ok (.getfield 14, 3) := by decide +kernel
theorem d_Presser_putNumber_34 : decode prog_8_method_11_code 34 = .ok (.getfield 90, 3) := by decide +kernel
theorem d_Presser_putNumber_37 : decode prog_8_method_11_code 37 = .ok (.aload_n 0, 1) := by decide +kernel
theorem d_Presser_putNumber_38 : decode prog_8_method_11_code 38 = .ok (.getfield 14, 3) := by decide +kernel
theorem d_Presser_putNumber_41 : decode prog_8_method_11_code 41 = .ok (.getfield 38, 3) := by decide +kernel
theorem d_Presser_putNumber_44 : decode prog_8_method_11_code 44 = .ok (.iconst 0, 1) := by decide +kernel
theorem d_Presser_putNumber_45 : decode prog_8_method_11_code 45 = .ok (.bastore, 1) := by decide +kernel
theorem d_Presser_putNumber_46 : decode prog_8_method_11_code 46 = .ok (.aload_n 0, 1) := by decide +kernel
theorem d_Presser_putNumber_47 : decode prog_8_method_11_code 47 = .ok (.getfield 14, 3) := by decide +kernel
theorem d_Presser_putNumber_50 : decode prog_8_method_11_code 50 = .ok (.dup, 1) := by decide +kernel
theorem d_Presser_putNumber_51 : decode prog_8_method_11_code 51 = .ok (.getfield 38, 3) := by decide +kernel
theorem d_Presser_putNumber_54 : decode prog_8_method_11_code 54 = .ok (.iconst 1, 1) := by decide +kernel
theorem d_Presser_putNumber_55 : decode prog_8_method_11_code 55 = .ok (.iadd, 1) := by decide +kernel
theorem d_Presser_putNumber_56 : decode prog_8_method_11_code 56 = .ok (.putfield 38, 3) := by decide +kernel
abbrev y_Presser_putNumber : MethodName := ⟨"PackageBook$Presser", "putNumber", "(II)V"⟩
abbrev i_Presser_putNumber : pb_I := (y_Presser_putNumber, prog_8_method_11_code, 4, (Option.none : Option Jvm.ClassFile.FieldType), [], { frames := 0, cells := 0, slots := 0, locals := 0 })
set_option maxRecDepth 100000 in
set_option maxHeartbeats 4000000 in
theorem g_Pr_putNumber {l : Launch} (hl : l.stackTraces = false) (G : pb_G) (h : Nat) (pp : Nat) (pl : Nat) (pe : Nat) (pr : Nat) (pb : Nat) (bg : Int32) (sz : Int32) (bt : Int32) (ln : Int32) (ds : Int32) (f : Nat → Int32) (ps : Int32) (v : Int32) (n : Int32) (k0 : 0 ≤ bt.toInt) (k1 : bt.toInt ≤ 999000) (k2 : 0 ≤ ps.toInt) (k3 : ps.toInt ≤ 4502) (k4 : 1 ≤ ps.toInt ∨ bt.toInt = 0) (n0 : 0 ≤ n.toInt) (n1 : n.toInt ≤ 100) (F_f : sb_Fit f) : Cn l G i_Presser_putNumber [.ref h, .int v, .int n] [(h, .inr (4, [.ref pp, .ref pl, .ref pe, .ref pr, .int bg, .int sz, .int bt, .int ln, .int ds])), (pp, .inr (0, [.ref pb, .int ps])), (pb, .inl (G.2.1, 4502, .inl f))] (S := Int32 × Int32 × (Nat → Int32)) (fun rv_ u => rv_ = none ∧ (bt.toInt ≤ u.1.toInt) ∧ (u.1.toInt ≤ bt.toInt + n.toInt) ∧ (0 ≤ u.2.1.toInt) ∧ (u.2.1.toInt ≤ 4502) ∧ (1 ≤ u.2.1.toInt ∨ u.1.toInt = 0) ∧ (u.1.toInt = bt.toInt + n.toInt) ∧ (sb_Fit u.2.2)) (fun u => [(h, .inr (4, [.ref pp, .ref pl, .ref pe, .ref pr, .int bg, .int sz, .int u.1, .int ln, .int ds])), (pp, .inr (0, [.ref pb, .int u.2.1])), (pb, .inl (G.2.1, 4502, .inl u.2.2))]) := by
  refine Cn.of hl (by decide +kernel) rfl (Nat.le_of_ble_eq_true rfl) (fun M hQ => ?_)
  refine pb_eq (pc' := 0) (lo' := [(0, .ref h), (1, .int v), (2, .int n)]) (rest' := []) (ws' := [(h, .inr (4, [.ref pp, .ref pl, .ref pe, .ref pr, .int bg, .int sz, .int bt, .int ln, .int ds])), (pp, .inr (0, [.ref pb, .int ps])), (pb, .inl (G.2.1, 4502, .inl f))]) ?_
  have zl0 : (0 : Int32).toInt = 0 := by decide
  have zl1 : (1 : Int32).toInt = 1 := by decide
  have zl8 : (8 : Int32).toInt = 8 := by decide
  have zl4502 : (4502 : Int32).toInt = 4502 := by decide
  refine pb_iconst (pc := 0) (v := 0) d_Presser_putNumber_0 (by decide) ?_
  refine pb_istore_n (pc := 1) (lo' := [(3, .int 0), (0, .ref h), (1, .int v), (2, .int n)]) d_Presser_putNumber_1 rfl (by decide) rfl ?_
  have hL2_1 : ∀ (N9 : Nat) (k : Int32) (b : Int32) (s : Int32) (g : Nat → Int32), (sb_Fit g) → (0 ≤ k.toInt) → (k.toInt ≤ n.toInt) → (b.toInt = bt.toInt + k.toInt) → (0 ≤ s.toInt) → (s.toInt ≤ 4502) → (1 ≤ s.toInt ∨ b.toInt = 0) → ((n.toInt - k.toInt).toNat) < N9 → pb_P l G M i_Presser_putNumber 2 [(3, .int k), (0, .ref h), (1, .int v), (2, .int n)] [] [(h, .inr (4, [.ref pp, .ref pl, .ref pe, .ref pr, .int bg, .int sz, .int b, .int ln, .int ds])), (pp, .inr (0, [.ref pb, .int s])), (pb, .inl (G.2.1, 4502, .inl g))] 0 0 := by
    intro N9
    induction N9 with
    | zero => intro k b s g F_g hk hk2 hb hs hs2 hs3 hm9; exact absurd hm9 (Nat.not_lt_zero _)
    | succ N9 ih2 =>
      intro k b s g F_g hk hk2 hb hs hs2 hs3 hm9
      refine pb_iload_n (pc := 2) d_Presser_putNumber_2 0 rfl rfl ?_
      refine pb_iload_n (pc := 3) d_Presser_putNumber_3 3 rfl rfl ?_
      refine pb_icmp_ge (pc := 4) (tgt := 110) d_Presser_putNumber_4 (by decide) (fun w2 => ?_) (fun w2 => ?_)
      · have tw2 : n.toInt ≤ k.toInt := (ti_le rfl rfl).mp w2
        exact pb_vret (pc := 110) hQ d_Presser_putNumber_110 rfl (b, s, g) ⟨rfl, (by (try dsimp only); first | done | assumption | omega (splitDisjunctions := false) | omega | decide), (by (try dsimp only); first | done | assumption | omega (splitDisjunctions := false) | omega | decide), (by (try dsimp only); first | done | assumption | omega (splitDisjunctions := false) | omega | decide), (by (try dsimp only); first | done | assumption | omega (splitDisjunctions := false) | omega | decide), (by (try dsimp only); first | done | assumption | omega (splitDisjunctions := false) | omega | decide), (by (try dsimp only); first | done | assumption | omega (splitDisjunctions := false) | omega | decide), F_g⟩ [0, 1, 2] (by decide) rfl rfl (by decide) (by decide)
      · have tw2 : ¬ n.toInt ≤ k.toInt := fun z9 => w2 ((ti_le rfl rfl).mpr z9)
        have hJ59_3 : ∀ (s3 : Int32) (g3 : Nat → Int32), (sb_Fit g3) → (1 ≤ s3.toInt) → (s3.toInt ≤ 4502) → pb_P l G M i_Presser_putNumber 59 [(3, .int k), (0, .ref h), (1, .int v), (2, .int n)] [] [(h, .inr (4, [.ref pp, .ref pl, .ref pe, .ref pr, .int bg, .int sz, .int b, .int ln, .int ds])), (pp, .inr (0, [.ref pb, .int s3])), (pb, .inl (G.2.1, 4502, .inl g3))] 0 0 := by
          intro s3 g3 F_g3 hq hq2
          refine pb_aload_n (pc := 59) d_Presser_putNumber_59 1 rfl rfl ?_
          refine pb_get (pc := 60) d_Presser_putNumber_60 0 0 rfl rfl (by decide) in_Presser k_181 rfl ?_
          refine pb_getN (pc := 63) d_Presser_putNumber_63 1 0 rfl rfl (by decide) in_Row k_161 rfl ?_
          refine pb_aload_n (pc := 66) d_Presser_putNumber_66 1 rfl rfl ?_
          refine pb_get (pc := 67) d_Presser_putNumber_67 0 0 rfl rfl (by decide) in_Presser k_181 rfl ?_
          refine pb_getN (pc := 70) d_Presser_putNumber_70 1 1 rfl rfl (by decide) in_Row k_164 rfl ?_
          refine pb_iconst (pc := 73) (v := 1) d_Presser_putNumber_73 (by decide) ?_
          refine pb_isub (pc := 74) d_Presser_putNumber_74 ?_
          refine pb_topi (fun i4 ei4 => ?_)
          try have ti4 : i4.toInt = s3.toInt - 1 := ti_sub ei4 rfl (by decide) (by omega) (by omega)
          refine pb_dup2_11 (pc := 75) d_Presser_putNumber_75 rfl rfl ?_
          refine pb_bald (pc := 76) d_Presser_putNumber_76 2 rfl (vp_in_iff.mpr (by constructor <;> omega)) ?_
          refine pb_topi (fun i5 ei5 => ?_)
          have ti5 : -128 ≤ i5.toInt ∧ i5.toInt ≤ 127 := ti_fit (F_g3 _) ei5
          refine pb_iload_n (pc := 77) d_Presser_putNumber_77 2 rfl rfl ?_
          refine pb_iload_n (pc := 78) d_Presser_putNumber_78 0 rfl rfl ?_
          refine pb_ishr (pc := 79) d_Presser_putNumber_79 ?_
          refine pb_topi (fun i6 ei6 => ?_)
          refine pb_iconst (pc := 80) (v := 1) d_Presser_putNumber_80 (by decide) ?_
          refine pb_iand (pc := 81) d_Presser_putNumber_81 ?_
          refine pb_topi (fun i7 ei7 => ?_)
          have ti7 : 0 ≤ i7.toInt ∧ i7.toInt ≤ 1 := ti_and 1 ei7 (by decide) (by decide)
          refine pb_aload_n (pc := 82) d_Presser_putNumber_82 1 rfl rfl ?_
          refine pb_get (pc := 83) d_Presser_putNumber_83 0 6 rfl rfl (by decide) in_Presser k_189 rfl ?_
          refine pb_bipush (pc := 86) (v := 8) d_Presser_putNumber_86 (by decide) ?_
          refine pb_irem (pc := 88) d_Presser_putNumber_88 (by decide) ?_
          refine pb_topi (fun i8 ei8 => ?_)
          try have ti8 : i8.toInt = b.toInt % 8 := ti_rem 8 ei8 rfl (by decide) (by omega) (by decide)
          refine pb_ishl (pc := 89) d_Presser_putNumber_89 ?_
          refine pb_topi (fun i9 ei9 => ?_)
          refine pb_i2b (pc := 90) d_Presser_putNumber_90 rfl ?_
          refine pb_topi (fun i10 ei10 => ?_)
          have ti10 : -128 ≤ i10.toInt ∧ i10.toInt ≤ 127 := ti_i2b ei10
          refine pb_ior (pc := 91) d_Presser_putNumber_91 ?_
          refine pb_topi (fun i11 ei11 => ?_)
          refine pb_i2b (pc := 92) d_Presser_putNumber_92 rfl ?_
          refine pb_topi (fun i12 ei12 => ?_)
          have ti12 : -128 ≤ i12.toInt ∧ i12.toInt ≤ 127 := ti_i2b ei12
          refine pb_bast (pc := 93) (ws' := [(h, .inr (4, [.ref pp, .ref pl, .ref pe, .ref pr, .int bg, .int sz, .int b, .int ln, .int ds])), (pp, .inr (0, [.ref pb, .int s3])), (pb, .inl (G.2.1, 4502, .inl (upd g3 ((i4 : Int32).toNatClampNeg) (vp_nar .byte i12))))]) d_Presser_putNumber_93 2 rfl (vp_in_iff.mpr (by constructor <;> omega)) rfl ?_
          refine pb_aload_n (pc := 94) d_Presser_putNumber_94 1 rfl rfl ?_
          refine pb_dup (pc := 95) d_Presser_putNumber_95 rfl ?_
          refine pb_get (pc := 96) d_Presser_putNumber_96 0 6 rfl rfl (by decide) in_Presser k_189 rfl ?_
          refine pb_iconst (pc := 99) (v := 1) d_Presser_putNumber_99 (by decide) ?_
          refine pb_iadd (pc := 100) d_Presser_putNumber_100 ?_
          refine pb_topi (fun i13 ei13 => ?_)
          try have ti13 : i13.toInt = b.toInt + 1 := ti_add ei13 rfl (by decide) (by omega) (by omega)
          refine pb_put (pc := 101) (ty := .int) (ws' := [(h, .inr (4, [.ref pp, .ref pl, .ref pe, .ref pr, .int bg, .int sz, .int i13, .int ln, .int ds])), (pp, .inr (0, [.ref pb, .int s3])), (pb, .inl (G.2.1, 4502, .inl (upd g3 ((i4 : Int32).toNatClampNeg) (vp_nar .byte i12))))]) d_Presser_putNumber_101 0 6 t_Presser t_Presser_ok n_Presser rfl rfl (by decide) in_Presser k_189 rfl (by decide +kernel) rfl rfl (Nat.le_of_ble_eq_true rfl) rfl ?_
          refine pb_iincN (pc := 104) (c := 1) d_Presser_putNumber_104 0 rfl (by decide) (by decide) (fun i14 ei14 => ?_)
          have ti14 : i14.toInt = k.toInt + 1 := ti_add ei14 rfl (by decide) (by omega) (by omega)
          refine pb_eq (pc' := 107) (lo' := [(3, .int i14), (0, .ref h), (1, .int v), (2, .int n)]) (rest' := []) (ws' := [(h, .inr (4, [.ref pp, .ref pl, .ref pe, .ref pr, .int bg, .int sz, .int i13, .int ln, .int ds])), (pp, .inr (0, [.ref pb, .int s3])), (pb, .inl (G.2.1, 4502, .inl (upd g3 ((i4 : Int32).toNatClampNeg) (vp_nar .byte i12))))]) ?_
          refine pb_goto (pc := 107) (tgt := 2) d_Presser_putNumber_107 (by decide) ?_
          exact ih2 i14 i13 s3 (upd g3 ((i4 : Int32).toNatClampNeg) (vp_nar .byte i12)) (sb_fitU F_g3 (fit_nar _)) (by first | assumption | omega (splitDisjunctions := false) | omega | decide) (by first | assumption | omega (splitDisjunctions := false) | omega | decide) (by first | assumption | omega (splitDisjunctions := false) | omega | decide) (by first | assumption | omega (splitDisjunctions := false) | omega | decide) (by first | assumption | omega (splitDisjunctions := false) | omega | decide) (by first | assumption | omega (splitDisjunctions := false) | omega | decide) (by omega)
        refine pb_aload_n (pc := 7) d_Presser_putNumber_7 1 rfl rfl ?_
        refine pb_get (pc := 8) d_Presser_putNumber_8 0 6 rfl rfl (by decide) in_Presser k_189 rfl ?_
        refine pb_bipush (pc := 11) (v := 8) d_Presser_putNumber_11 (by decide) ?_
        refine pb_irem (pc := 13) d_Presser_putNumber_13 (by decide) ?_
        refine pb_topi (fun i15 ei15 => ?_)
        try have ti15 : i15.toInt = b.toInt % 8 := ti_rem 8 ei15 rfl (by decide) (by omega) (by decide)
        refine pb_if_ne (pc := 14) (tgt := 59) d_Presser_putNumber_14 (by decide) (fun w16 => ?_) (fun w16 => ?_)
        · have tw16 : ¬ i15.toInt = 0 := fun z9 => w16 ((ti_eq rfl (by decide)).mpr z9)
          exact hJ59_3 s g F_g (by first | assumption | omega (splitDisjunctions := false) | omega | decide) (by first | assumption | omega (splitDisjunctions := false) | omega | decide)
        · have tw16 : i15.toInt = 0 := (ti_eq rfl (by decide)).mp w16
          refine pb_aload_n (pc := 17) d_Presser_putNumber_17 1 rfl rfl ?_
          refine pb_get (pc := 18) d_Presser_putNumber_18 0 0 rfl rfl (by decide) in_Presser k_181 rfl ?_
          refine pb_getN (pc := 21) d_Presser_putNumber_21 1 1 rfl rfl (by decide) in_Row k_164 rfl ?_
          refine pb_sipush (pc := 24) (v := 4502) d_Presser_putNumber_24 (by decide) ?_
          refine pb_icmp_ge (pc := 27) (tgt := 59) d_Presser_putNumber_27 (by decide) (fun w17 => ?_) (fun w17 => ?_)
          · have tw17 : 4502 ≤ s.toInt := (ti_le (by decide) rfl).mp w17
            exact hJ59_3 s g F_g (by first | assumption | omega (splitDisjunctions := false) | omega | decide) (by first | assumption | omega (splitDisjunctions := false) | omega | decide)
          · have tw17 : ¬ 4502 ≤ s.toInt := fun z9 => w17 ((ti_le (by decide) rfl).mpr z9)
            refine pb_aload_n (pc := 30) d_Presser_putNumber_30 1 rfl rfl ?_
            refine pb_get (pc := 31) d_Presser_putNumber_31 0 0 rfl rfl (by decide) in_Presser k_181 rfl ?_
            refine pb_getN (pc := 34) d_Presser_putNumber_34 1 0 rfl rfl (by decide) in_Row k_161 rfl ?_
            refine pb_aload_n (pc := 37) d_Presser_putNumber_37 1 rfl rfl ?_
            refine pb_get (pc := 38) d_Presser_putNumber_38 0 0 rfl rfl (by decide) in_Presser k_181 rfl ?_
            refine pb_getN (pc := 41) d_Presser_putNumber_41 1 1 rfl rfl (by decide) in_Row k_164 rfl ?_
            refine pb_iconst (pc := 44) (v := 0) d_Presser_putNumber_44 (by decide) ?_
            refine pb_bast (pc := 45) (ws' := [(h, .inr (4, [.ref pp, .ref pl, .ref pe, .ref pr, .int bg, .int sz, .int b, .int ln, .int ds])), (pp, .inr (0, [.ref pb, .int s])), (pb, .inl (G.2.1, 4502, .inl (upd g ((s : Int32).toNatClampNeg) (vp_nar .byte 0))))]) d_Presser_putNumber_45 2 rfl (vp_in_iff.mpr (by constructor <;> omega)) rfl ?_
            refine pb_aload_n (pc := 46) d_Presser_putNumber_46 1 rfl rfl ?_
            refine pb_get (pc := 47) d_Presser_putNumber_47 0 0 rfl rfl (by decide) in_Presser k_181 rfl ?_
            refine pb_dup (pc := 50) d_Presser_putNumber_50 rfl ?_
            refine pb_getN (pc := 51) d_Presser_putNumber_51 1 1 rfl rfl (by decide) in_Row k_164 rfl ?_
            refine pb_iconst (pc := 54) (v := 1) d_Presser_putNumber_54 (by decide) ?_
            refine pb_iadd (pc := 55) d_Presser_putNumber_55 ?_
            refine pb_topi (fun i18 ei18 => ?_)
            try have ti18 : i18.toInt = s.toInt + 1 := ti_add ei18 rfl (by decide) (by omega) (by omega)
            refine pb_putN (pc := 56) (ty := .int) (ws' := [(h, .inr (4, [.ref pp, .ref pl, .ref pe, .ref pr, .int bg, .int sz, .int b, .int ln, .int ds])), (pp, .inr (0, [.ref pb, .int i18])), (pb, .inl (G.2.1, 4502, .inl (upd g ((s : Int32).toNatClampNeg) (vp_nar .byte 0))))]) d_Presser_putNumber_56 1 1 t_Row t_Row_ok n_Row rfl rfl (by decide) in_Row k_164 rfl (by decide +kernel) rfl rfl (Nat.le_of_ble_eq_true rfl) rfl ?_
            exact hJ59_3 i18 (upd g ((s : Int32).toNatClampNeg) (vp_nar .byte 0)) (sb_fitU F_g (fit_nar _)) (by first | assumption | omega (splitDisjunctions := false) | omega | decide) (by first | assumption | omega (splitDisjunctions := false) | omega | decide)
  exact hL2_1 _ 0 bt ps f F_f (by first | assumption | omega (splitDisjunctions := false) | omega | decide) (by first | assumption | omega (splitDisjunctions := false) | omega | decide) (by first | assumption | omega (splitDisjunctions := false) | omega | decide) (by first | assumption | omega (splitDisjunctions := false) | omega | decide) (by first | assumption | omega (splitDisjunctions := false) | omega | decide) (by first | assumption | omega (splitDisjunctions := false) | omega | decide) (Nat.lt_succ_self _)

theorem d_Presser_putSymbol_0 : decode prog_8_method_9_code 0 = .ok (.iload_n 1, 1) := by decide +kernel
theorem d_Presser_putSymbol_1 : decode prog_8_method_9_code 1 = .ok (.sipush 144, 3) := by decide +kernel
theorem d_Presser_putSymbol_4 : decode prog_8_method_9_code 4 = .ok (.if_icmp .ge 21, 3) := by decide +kernel
theorem d_Presser_putSymbol_25 : decode prog_8_method_9_code 25 = .ok (.iload_n 1, 1) := by decide +kernel
theorem d_Presser_putSymbol_26 : decode prog_8_method_9_code 26 = .ok (.sipush 256, 3) := by decide +kernel
theorem d_Presser_putSymbol_29 : decode prog_8_method_9_code 29 = .ok (.if_icmp .ge 26, 3) := by decide +kernel
theorem d_Presser_putSymbol_55 : decode prog_8_method_9_code 55 = .ok (.iload_n 1, 1) := by decide +kernel
theorem d_Presser_putSymbol_56 : decode prog_8_method_9_code 56 = .ok (.sipush 280, 3) := by decide +kernel
theorem d_Presser_putSymbol_59 : decode prog_8_method_9_code 59 = .ok (.if_icmp .ge 22, 3) := by decide +kernel
theorem d_Presser_putSymbol_81 : decode prog_8_method_9_code 81 = .ok (.aload_n 0, 1) := by decide +kernel
theorem d_Presser_putSymbol_82 : decode prog_8_method_9_code 82 = .ok (.sipush 192, 3) := by decide +kernel
theorem d_Presser_putSymbol_85 : decode prog_8_method_9_code 85 = .ok (.iload_n 1, 1) := by decide +kernel
theorem d_Presser_putSymbol_86 : decode prog_8_method_9_code 86 = .ok (.iadd, 1) := by decide +kernel
theorem d_Presser_putSymbol_87 : decode prog_8_method_9_code 87 = .ok (.sipush 280, 3) := by decide +kernel
theorem d_Presser_putSymbol_90 : decode prog_8_method_9_code 90 = .ok (.isub, 1) := by decide +kernel
theorem d_Presser_putSymbol_91 : decode prog_8_method_9_code 91 = .ok (.bipush 8, 2) := by decide +kernel
theorem d_Presser_putSymbol_93 : decode prog_8_method_9_code 93 = .ok (.invokestatic 87, 3) := by decide +kernel
theorem k_528 : (Jvm.Cond.methodLink "PackageBook$Presser" (87 : Nat) ({ cls := "PackageBook$Presser", name := "turned", desc := "(II)I" } : Jvm.MethodName)) ∈ uW := uW_of 528 (by decide +kernel) (by decide +kernel)
theorem k_120 : (Jvm.Cond.initialized "PackageBook$Presser") ∈ uW := uW_of 120 (by decide +kernel) (by decide +kernel)
theorem k_530 : (Jvm.Cond.code ({ cls := "PackageBook$Presser", name := "turned", desc := "(II)I" } : Jvm.MethodName) prog_8_method_10_code (4 : Nat) (Option.some Jvm.ClassFile.FieldType.int)) ∈ uW := uW_of 530 (by decide +kernel) (by decide +kernel)
theorem k_529 : (Jvm.Cond.static ({ cls := "PackageBook$Presser", name := "turned", desc := "(II)I" } : Jvm.MethodName)) ∈ uW := uW_of 529 (by decide +kernel) (by decide +kernel)
theorem hy_Presser_turned : (y_Presser_turned).cls ≠ "java/lang/invoke/MethodHandle" ∧ (y_Presser_turned).cls ≠ "java/lang/invoke/VarHandle" ∧ (parseMethodDescriptor (y_Presser_turned).desc).map (fun d => d.parameters.length) = some 2 := by decide +kernel
theorem d_Presser_putSymbol_96 : decode prog_8_method_9_code 96 = .ok (.bipush 8, 2) := by decide +kernel
theorem d_Presser_putSymbol_98 : decode prog_8_method_9_code 98 = .ok (.invokevirtual 48, 3) := by decide +kernel
theorem k_505 : (Jvm.Cond.methodLink "PackageBook$Presser" (48 : Nat) ({ cls := "PackageBook$Presser", name := "putNumber", desc := "(II)V" } : Jvm.MethodName)) ∈ uW := uW_of 505 (by decide +kernel) (by decide +kernel)
theorem k_508 : (Jvm.Cond.code ({ cls := "PackageBook$Presser", name := "putNumber", desc := "(II)V" } : Jvm.MethodName) prog_8_method_11_code (4 : Nat) (Option.none : Option Jvm.ClassFile.FieldType)) ∈ uW := uW_of 508 (by decide +kernel) (by decide +kernel)
theorem k_507 : (Jvm.Cond.instanceMethod ({ cls := "PackageBook$Presser", name := "putNumber", desc := "(II)V" } : Jvm.MethodName)) ∈ uW := uW_of 507 (by decide +kernel) (by decide +kernel)
theorem k_2 : Cond.selects "PackageBook$Presser" ⟨"PackageBook$Presser", "putNumber", "(II)V"⟩ ⟨"PackageBook$Presser", "putNumber", "(II)V"⟩ ∈ uW := uW_of 2 (by decide +kernel) (by decide +kernel)
theorem hy_Presser_putNumber : (y_Presser_putNumber).cls ≠ "java/lang/invoke/MethodHandle" ∧ (y_Presser_putNumber).cls ≠ "java/lang/invoke/VarHandle" ∧ (parseMethodDescriptor (y_Presser_putNumber).desc).map (fun d => d.parameters.length) = some 2 := by decide +kernel
theorem d_Presser_putSymbol_101 : decode prog_8_method_9_code 101 = .ok (.return_, 1) := by decide +kernel
theorem d_Presser_putSymbol_62 : decode prog_8_method_9_code 62 = .ok (.aload_n 0, 1) := by decide +kernel
theorem d_Presser_putSymbol_63 : decode prog_8_method_9_code 63 = .ok (.iload_n 1, 1) := by decide +kernel
theorem d_Presser_putSymbol_64 : decode prog_8_method_9_code 64 = .ok (.sipush 256, 3) := by decide +kernel
theorem d_Presser_putSymbol_67 : decode prog_8_method_9_code 67 = .ok (.isub, 1) := by decide +kernel
theorem d_Presser_putSymbol_68 : decode prog_8_method_9_code 68 = .ok (.bipush 7, 2) := by decide +kernel
theorem d_Presser_putSymbol_70 : decode prog_8_method_9_code 70 = .ok (.invokestatic 87, 3) := by decide +kernel
theorem d_Presser_putSymbol_73 : decode prog_8_method_9_code 73 = .ok (.bipush 7, 2) := by decide +kernel
theorem d_Presser_putSymbol_75 : decode prog_8_method_9_code 75 = .ok (.invokevirtual 48, 3) := by decide +kernel
theorem d_Presser_putSymbol_78 : decode prog_8_method_9_code 78 = .ok (.goto 23, 3) := by decide +kernel
theorem d_Presser_putSymbol_32 : decode prog_8_method_9_code 32 = .ok (.aload_n 0, 1) := by decide +kernel
theorem d_Presser_putSymbol_33 : decode prog_8_method_9_code 33 = .ok (.sipush 400, 3) := by decide +kernel
theorem d_Presser_putSymbol_36 : decode prog_8_method_9_code 36 = .ok (.iload_n 1, 1) := by decide +kernel
theorem d_Presser_putSymbol_37 : decode prog_8_method_9_code 37 = .ok (.iadd, 1) := by decide +kernel
theorem d_Presser_putSymbol_38 : decode prog_8_method_9_code 38 = .ok (.sipush 144, 3) := by decide +kernel
theorem d_Presser_putSymbol_41 : decode prog_8_method_9_code 41 = .ok (.isub, 1) := by decide +kernel
theorem d_Presser_putSymbol_42 : decode prog_8_method_9_code 42 = .ok (.bipush 9, 2) := by decide +kernel
theorem d_Presser_putSymbol_44 : decode prog_8_method_9_code 44 = .ok (.invokestatic 87, 3) := by decide +kernel
theorem d_Presser_putSymbol_47 : decode prog_8_method_9_code 47 = .ok (.bipush 9, 2) := by decide +kernel
theorem d_Presser_putSymbol_49 : decode prog_8_method_9_code 49 = .ok (.invokevirtual 48, 3) := by decide +kernel
theorem d_Presser_putSymbol_52 : decode prog_8_method_9_code 52 = .ok (.goto 49, 3) := by decide +kernel
theorem d_Presser_putSymbol_7 : decode prog_8_method_9_code 7 = .ok (.aload_n 0, 1) := by decide +kernel
theorem d_Presser_putSymbol_8 : decode prog_8_method_9_code 8 = .ok (.bipush 48, 2) := by decide +kernel
theorem d_Presser_putSymbol_10 : decode prog_8_method_9_code 10 = .ok (.iload_n 1, 1) := by decide +kernel
theorem d_Presser_putSymbol_11 : decode prog_8_method_9_code 11 = .ok (.iadd, 1) := by decide +kernel
theorem d_Presser_putSymbol_12 : decode prog_8_method_9_code 12 = .ok (.bipush 8, 2) := by decide +kernel
theorem d_Presser_putSymbol_14 : decode prog_8_method_9_code 14 = .ok (.invokestatic 87, 3) := by decide +kernel
theorem d_Presser_putSymbol_17 : decode prog_8_method_9_code 17 = .ok (.bipush 8, 2) := by decide +kernel
theorem d_Presser_putSymbol_19 : decode prog_8_method_9_code 19 = .ok (.invokevirtual 48, 3) := by decide +kernel
theorem d_Presser_putSymbol_22 : decode prog_8_method_9_code 22 = .ok (.goto 79, 3) := by decide +kernel
abbrev y_Presser_putSymbol : MethodName := ⟨"PackageBook$Presser", "putSymbol", "(I)V"⟩
abbrev i_Presser_putSymbol : pb_I := (y_Presser_putSymbol, prog_8_method_9_code, 2, (Option.none : Option Jvm.ClassFile.FieldType), [], { frames := 1, cells := 0, slots := 0, locals := 23 })
set_option maxRecDepth 100000 in
set_option maxHeartbeats 4000000 in
theorem g_Pr_putSymbol {l : Launch} (hl : l.stackTraces = false) (G : pb_G) (h : Nat) (pp : Nat) (pl : Nat) (pe : Nat) (pr : Nat) (pb : Nat) (bg : Int32) (sz : Int32) (bt : Int32) (ln : Int32) (ds : Int32) (f : Nat → Int32) (ps : Int32) (v : Int32) (k0 : 0 ≤ bt.toInt) (k1 : bt.toInt ≤ 998000) (k2 : 0 ≤ ps.toInt) (k3 : ps.toInt ≤ 4502) (k4 : 1 ≤ ps.toInt ∨ bt.toInt = 0) (F_f : sb_Fit f) : Cn l G i_Presser_putSymbol [.ref h, .int v] [(h, .inr (4, [.ref pp, .ref pl, .ref pe, .ref pr, .int bg, .int sz, .int bt, .int ln, .int ds])), (pp, .inr (0, [.ref pb, .int ps])), (pb, .inl (G.2.1, 4502, .inl f))] (S := Int32 × Int32 × (Nat → Int32)) (fun rv_ u => rv_ = none ∧ (bt.toInt ≤ u.1.toInt) ∧ (u.1.toInt ≤ bt.toInt + 9) ∧ (0 ≤ u.2.1.toInt) ∧ (u.2.1.toInt ≤ 4502) ∧ (1 ≤ u.2.1.toInt ∨ u.1.toInt = 0) ∧ (sb_Fit u.2.2)) (fun u => [(h, .inr (4, [.ref pp, .ref pl, .ref pe, .ref pr, .int bg, .int sz, .int u.1, .int ln, .int ds])), (pp, .inr (0, [.ref pb, .int u.2.1])), (pb, .inl (G.2.1, 4502, .inl u.2.2))]) := by
  refine Cn.of hl (by decide +kernel) rfl (Nat.le_of_ble_eq_true rfl) (fun M hQ => ?_)
  refine pb_eq (pc' := 0) (lo' := [(0, .ref h), (1, .int v)]) (rest' := []) (ws' := [(h, .inr (4, [.ref pp, .ref pl, .ref pe, .ref pr, .int bg, .int sz, .int bt, .int ln, .int ds])), (pp, .inr (0, [.ref pb, .int ps])), (pb, .inl (G.2.1, 4502, .inl f))]) ?_
  have zl0 : (0 : Int32).toInt = 0 := by decide
  have zl1 : (1 : Int32).toInt = 1 := by decide
  have zl7 : (7 : Int32).toInt = 7 := by decide
  have zl8 : (8 : Int32).toInt = 8 := by decide
  have zl9 : (9 : Int32).toInt = 9 := by decide
  have zl48 : (48 : Int32).toInt = 48 := by decide
  have zl144 : (144 : Int32).toInt = 144 := by decide
  have zl192 : (192 : Int32).toInt = 192 := by decide
  have zl256 : (256 : Int32).toInt = 256 := by decide
  have zl280 : (280 : Int32).toInt = 280 := by decide
  have zl400 : (400 : Int32).toInt = 400 := by decide
  refine pb_iload_n (pc := 0) d_Presser_putSymbol_0 1 rfl rfl ?_
  refine pb_sipush (pc := 1) (v := 144) d_Presser_putSymbol_1 (by decide) ?_
  refine pb_icmp_ge (pc := 4) (tgt := 25) d_Presser_putSymbol_4 (by decide) (fun w1 => ?_) (fun w1 => ?_)
  · have tw1 : 144 ≤ v.toInt := (ti_le (by decide) rfl).mp w1
    refine pb_iload_n (pc := 25) d_Presser_putSymbol_25 1 rfl rfl ?_
    refine pb_sipush (pc := 26) (v := 256) d_Presser_putSymbol_26 (by decide) ?_
    refine pb_icmp_ge (pc := 29) (tgt := 55) d_Presser_putSymbol_29 (by decide) (fun w2 => ?_) (fun w2 => ?_)
    · have tw2 : 256 ≤ v.toInt := (ti_le (by decide) rfl).mp w2
      refine pb_iload_n (pc := 55) d_Presser_putSymbol_55 1 rfl rfl ?_
      refine pb_sipush (pc := 56) (v := 280) d_Presser_putSymbol_56 (by decide) ?_
      refine pb_icmp_ge (pc := 59) (tgt := 81) d_Presser_putSymbol_59 (by decide) (fun w3 => ?_) (fun w3 => ?_)
      · have tw3 : 280 ≤ v.toInt := (ti_le (by decide) rfl).mp w3
        refine pb_aload_n (pc := 81) d_Presser_putSymbol_81 0 rfl rfl ?_
        refine pb_sipush (pc := 82) (v := 192) d_Presser_putSymbol_82 (by decide) ?_
        refine pb_iload_n (pc := 85) d_Presser_putSymbol_85 1 rfl rfl ?_
        refine pb_iadd (pc := 86) d_Presser_putSymbol_86 ?_
        refine pb_topi (fun i4 ei4 => ?_)
        try have ti4 : i4.toInt = 192 + v.toInt := ti_add ei4 (by decide) rfl (by omega) (by omega)
        refine pb_sipush (pc := 87) (v := 280) d_Presser_putSymbol_87 (by decide) ?_
        refine pb_isub (pc := 90) d_Presser_putSymbol_90 ?_
        refine pb_topi (fun i5 ei5 => ?_)
        try have ti5 : i5.toInt = i4.toInt - 280 := ti_sub ei5 rfl (by decide) (by omega) (by omega)
        refine pb_bipush (pc := 91) (v := 8) d_Presser_putSymbol_91 (by decide) ?_
        refine pb_callS (pc := 93) (I := i_Presser_putSymbol) (nA := 2) (rest := [.ref h]) (wr := [(h, .inr (4, [.ref pp, .ref pl, .ref pe, .ref pr, .int bg, .int sz, .int bt, .int ln, .int ds])), (pp, .inr (0, [.ref pb, .int ps])), (pb, .inl (G.2.1, 4502, .inl f))]) d_Presser_putSymbol_93 (g_Pr_turned hl G i5 8) [] [0, 1, 2] (by decide) rfl rfl rfl (by decide) (by decide) k_530 rfl k_120 k_528 k_529 hy_Presser_turned (by decide) rfl rfl (Nat.le_of_ble_eq_true rfl) (by decide) (fun v9 u7 ch6 => ?_)
        obtain ⟨r_8, rfl⟩ : ∃ z9, z9 = u7 := ⟨_, rfl⟩
        have ech6 := ch6
        have ech6 : v9 = some (.int r_8) := ech6
        subst ech6
        refine pb_eq (pc' := 96) (lo' := [(0, .ref h), (1, .int v)]) (rest' := [.int r_8, .ref h]) (ws' := [(h, .inr (4, [.ref pp, .ref pl, .ref pe, .ref pr, .int bg, .int sz, .int bt, .int ln, .int ds])), (pp, .inr (0, [.ref pb, .int ps])), (pb, .inl (G.2.1, 4502, .inl f))]) ?_
        refine pb_bipush (pc := 96) (v := 8) d_Presser_putSymbol_96 (by decide) ?_
        refine pb_callV (pc := 98) (I := i_Presser_putSymbol) (qb := 0) (ci := 4) (nA := 2) (rest := []) (wr := []) d_Presser_putSymbol_98 (g_Pr_putNumber hl G h pp pl pe pr pb bg sz bt ln ds f ps r_8 8 (by first | assumption | omega (splitDisjunctions := false) | omega | decide) (by first | assumption | omega (splitDisjunctions := false) | omega | decide) (by first | assumption | omega (splitDisjunctions := false) | omega | decide) (by first | assumption | omega (splitDisjunctions := false) | omega | decide) (by first | assumption | omega (splitDisjunctions := false) | omega | decide) (by first | assumption | omega (splitDisjunctions := false) | omega | decide) (by first | assumption | omega (splitDisjunctions := false) | omega | decide) F_f) rfl rfl [0, 1, 2] [] (by decide) rfl rfl rfl (by decide) (by decide) k_508 rfl k_120 k_505 k_507 k_2 ⟨rfl, hy_Presser_putNumber⟩ (by decide) rfl rfl (Nat.le_of_ble_eq_true rfl) (by decide) (fun v9 u10 ch9 => ?_)
        obtain ⟨b_11, p_12, f_13⟩ := u10
        obtain ⟨ech9, ch9⟩ := ch9
        have ech9 : v9 = none := ech9
        subst ech9
        obtain ⟨fh14, fh15, fh16, fh17, fh18, fh19, fh20⟩ : (bt.toInt ≤ b_11.toInt) ∧ (b_11.toInt ≤ bt.toInt + (8 : Int32).toInt) ∧ (0 ≤ p_12.toInt) ∧ (p_12.toInt ≤ 4502) ∧ (1 ≤ p_12.toInt ∨ b_11.toInt = 0) ∧ (b_11.toInt = bt.toInt + (8 : Int32).toInt) ∧ (sb_Fit f_13) := ch9
        refine pb_eq (pc' := 101) (lo' := [(0, .ref h), (1, .int v)]) (rest' := []) (ws' := [(h, .inr (4, [.ref pp, .ref pl, .ref pe, .ref pr, .int bg, .int sz, .int b_11, .int ln, .int ds])), (pp, .inr (0, [.ref pb, .int p_12])), (pb, .inl (G.2.1, 4502, .inl f_13))]) ?_
        exact pb_vret (pc := 101) hQ d_Presser_putSymbol_101 rfl (b_11, p_12, f_13) ⟨rfl, (by (try dsimp only); first | done | assumption | omega (splitDisjunctions := false) | omega | decide), (by (try dsimp only); first | done | assumption | omega (splitDisjunctions := false) | omega | decide), (by (try dsimp only); first | done | assumption | omega (splitDisjunctions := false) | omega | decide), (by (try dsimp only); first | done | assumption | omega (splitDisjunctions := false) | omega | decide), (by (try dsimp only); first | done | assumption | omega (splitDisjunctions := false) | omega | decide), fh20⟩ [0, 1, 2] (by decide) rfl rfl (by decide) (by decide)
      · have tw3 : ¬ 280 ≤ v.toInt := fun z9 => w3 ((ti_le (by decide) rfl).mpr z9)
        refine pb_aload_n (pc := 62) d_Presser_putSymbol_62 0 rfl rfl ?_
        refine pb_iload_n (pc := 63) d_Presser_putSymbol_63 1 rfl rfl ?_
        refine pb_sipush (pc := 64) (v := 256) d_Presser_putSymbol_64 (by decide) ?_
        refine pb_isub (pc := 67) d_Presser_putSymbol_67 ?_
        refine pb_topi (fun i21 ei21 => ?_)
        try have ti21 : i21.toInt = v.toInt - 256 := ti_sub ei21 rfl (by decide) (by omega) (by omega)
        refine pb_bipush (pc := 68) (v := 7) d_Presser_putSymbol_68 (by decide) ?_
        refine pb_callS (pc := 70) (I := i_Presser_putSymbol) (nA := 2) (rest := [.ref h]) (wr := [(h, .inr (4, [.ref pp, .ref pl, .ref pe, .ref pr, .int bg, .int sz, .int bt, .int ln, .int ds])), (pp, .inr (0, [.ref pb, .int ps])), (pb, .inl (G.2.1, 4502, .inl f))]) d_Presser_putSymbol_70 (g_Pr_turned hl G i21 7) [] [0, 1, 2] (by decide) rfl rfl rfl (by decide) (by decide) k_530 rfl k_120 k_528 k_529 hy_Presser_turned (by decide) rfl rfl (Nat.le_of_ble_eq_true rfl) (by decide) (fun v9 u23 ch22 => ?_)
        obtain ⟨r_24, rfl⟩ : ∃ z9, z9 = u23 := ⟨_, rfl⟩
        have ech22 := ch22
        have ech22 : v9 = some (.int r_24) := ech22
        subst ech22
        refine pb_eq (pc' := 73) (lo' := [(0, .ref h), (1, .int v)]) (rest' := [.int r_24, .ref h]) (ws' := [(h, .inr (4, [.ref pp, .ref pl, .ref pe, .ref pr, .int bg, .int sz, .int bt, .int ln, .int ds])), (pp, .inr (0, [.ref pb, .int ps])), (pb, .inl (G.2.1, 4502, .inl f))]) ?_
        refine pb_bipush (pc := 73) (v := 7) d_Presser_putSymbol_73 (by decide) ?_
        refine pb_callV (pc := 75) (I := i_Presser_putSymbol) (qb := 0) (ci := 4) (nA := 2) (rest := []) (wr := []) d_Presser_putSymbol_75 (g_Pr_putNumber hl G h pp pl pe pr pb bg sz bt ln ds f ps r_24 7 (by first | assumption | omega (splitDisjunctions := false) | omega | decide) (by first | assumption | omega (splitDisjunctions := false) | omega | decide) (by first | assumption | omega (splitDisjunctions := false) | omega | decide) (by first | assumption | omega (splitDisjunctions := false) | omega | decide) (by first | assumption | omega (splitDisjunctions := false) | omega | decide) (by first | assumption | omega (splitDisjunctions := false) | omega | decide) (by first | assumption | omega (splitDisjunctions := false) | omega | decide) F_f) rfl rfl [0, 1, 2] [] (by decide) rfl rfl rfl (by decide) (by decide) k_508 rfl k_120 k_505 k_507 k_2 ⟨rfl, hy_Presser_putNumber⟩ (by decide) rfl rfl (Nat.le_of_ble_eq_true rfl) (by decide) (fun v9 u26 ch25 => ?_)
        obtain ⟨b_27, p_28, f_29⟩ := u26
        obtain ⟨ech25, ch25⟩ := ch25
        have ech25 : v9 = none := ech25
        subst ech25
        obtain ⟨fh30, fh31, fh32, fh33, fh34, fh35, fh36⟩ : (bt.toInt ≤ b_27.toInt) ∧ (b_27.toInt ≤ bt.toInt + (7 : Int32).toInt) ∧ (0 ≤ p_28.toInt) ∧ (p_28.toInt ≤ 4502) ∧ (1 ≤ p_28.toInt ∨ b_27.toInt = 0) ∧ (b_27.toInt = bt.toInt + (7 : Int32).toInt) ∧ (sb_Fit f_29) := ch25
        refine pb_eq (pc' := 78) (lo' := [(0, .ref h), (1, .int v)]) (rest' := []) (ws' := [(h, .inr (4, [.ref pp, .ref pl, .ref pe, .ref pr, .int bg, .int sz, .int b_27, .int ln, .int ds])), (pp, .inr (0, [.ref pb, .int p_28])), (pb, .inl (G.2.1, 4502, .inl f_29))]) ?_
        refine pb_goto (pc := 78) (tgt := 101) d_Presser_putSymbol_78 (by decide) ?_
        exact pb_vret (pc := 101) hQ d_Presser_putSymbol_101 rfl (b_27, p_28, f_29) ⟨rfl, (by (try dsimp only); first | done | assumption | omega (splitDisjunctions := false) | omega | decide), (by (try dsimp only); first | done | assumption | omega (splitDisjunctions := false) | omega | decide), (by (try dsimp only); first | done | assumption | omega (splitDisjunctions := false) | omega | decide), (by (try dsimp only); first | done | assumption | omega (splitDisjunctions := false) | omega | decide), (by (try dsimp only); first | done | assumption | omega (splitDisjunctions := false) | omega | decide), fh36⟩ [0, 1, 2] (by decide) rfl rfl (by decide) (by decide)
    · have tw2 : ¬ 256 ≤ v.toInt := fun z9 => w2 ((ti_le (by decide) rfl).mpr z9)
      refine pb_aload_n (pc := 32) d_Presser_putSymbol_32 0 rfl rfl ?_
      refine pb_sipush (pc := 33) (v := 400) d_Presser_putSymbol_33 (by decide) ?_
      refine pb_iload_n (pc := 36) d_Presser_putSymbol_36 1 rfl rfl ?_
      refine pb_iadd (pc := 37) d_Presser_putSymbol_37 ?_
      refine pb_topi (fun i37 ei37 => ?_)
      try have ti37 : i37.toInt = 400 + v.toInt := ti_add ei37 (by decide) rfl (by omega) (by omega)
      refine pb_sipush (pc := 38) (v := 144) d_Presser_putSymbol_38 (by decide) ?_
      refine pb_isub (pc := 41) d_Presser_putSymbol_41 ?_
      refine pb_topi (fun i38 ei38 => ?_)
      try have ti38 : i38.toInt = i37.toInt - 144 := ti_sub ei38 rfl (by decide) (by omega) (by omega)
      refine pb_bipush (pc := 42) (v := 9) d_Presser_putSymbol_42 (by decide) ?_
      refine pb_callS (pc := 44) (I := i_Presser_putSymbol) (nA := 2) (rest := [.ref h]) (wr := [(h, .inr (4, [.ref pp, .ref pl, .ref pe, .ref pr, .int bg, .int sz, .int bt, .int ln, .int ds])), (pp, .inr (0, [.ref pb, .int ps])), (pb, .inl (G.2.1, 4502, .inl f))]) d_Presser_putSymbol_44 (g_Pr_turned hl G i38 9) [] [0, 1, 2] (by decide) rfl rfl rfl (by decide) (by decide) k_530 rfl k_120 k_528 k_529 hy_Presser_turned (by decide) rfl rfl (Nat.le_of_ble_eq_true rfl) (by decide) (fun v9 u40 ch39 => ?_)
      obtain ⟨r_41, rfl⟩ : ∃ z9, z9 = u40 := ⟨_, rfl⟩
      have ech39 := ch39
      have ech39 : v9 = some (.int r_41) := ech39
      subst ech39
      refine pb_eq (pc' := 47) (lo' := [(0, .ref h), (1, .int v)]) (rest' := [.int r_41, .ref h]) (ws' := [(h, .inr (4, [.ref pp, .ref pl, .ref pe, .ref pr, .int bg, .int sz, .int bt, .int ln, .int ds])), (pp, .inr (0, [.ref pb, .int ps])), (pb, .inl (G.2.1, 4502, .inl f))]) ?_
      refine pb_bipush (pc := 47) (v := 9) d_Presser_putSymbol_47 (by decide) ?_
      refine pb_callV (pc := 49) (I := i_Presser_putSymbol) (qb := 0) (ci := 4) (nA := 2) (rest := []) (wr := []) d_Presser_putSymbol_49 (g_Pr_putNumber hl G h pp pl pe pr pb bg sz bt ln ds f ps r_41 9 (by first | assumption | omega (splitDisjunctions := false) | omega | decide) (by first | assumption | omega (splitDisjunctions := false) | omega | decide) (by first | assumption | omega (splitDisjunctions := false) | omega | decide) (by first | assumption | omega (splitDisjunctions := false) | omega | decide) (by first | assumption | omega (splitDisjunctions := false) | omega | decide) (by first | assumption | omega (splitDisjunctions := false) | omega | decide) (by first | assumption | omega (splitDisjunctions := false) | omega | decide) F_f) rfl rfl [0, 1, 2] [] (by decide) rfl rfl rfl (by decide) (by decide) k_508 rfl k_120 k_505 k_507 k_2 ⟨rfl, hy_Presser_putNumber⟩ (by decide) rfl rfl (Nat.le_of_ble_eq_true rfl) (by decide) (fun v9 u43 ch42 => ?_)
      obtain ⟨b_44, p_45, f_46⟩ := u43
      obtain ⟨ech42, ch42⟩ := ch42
      have ech42 : v9 = none := ech42
      subst ech42
      obtain ⟨fh47, fh48, fh49, fh50, fh51, fh52, fh53⟩ : (bt.toInt ≤ b_44.toInt) ∧ (b_44.toInt ≤ bt.toInt + (9 : Int32).toInt) ∧ (0 ≤ p_45.toInt) ∧ (p_45.toInt ≤ 4502) ∧ (1 ≤ p_45.toInt ∨ b_44.toInt = 0) ∧ (b_44.toInt = bt.toInt + (9 : Int32).toInt) ∧ (sb_Fit f_46) := ch42
      refine pb_eq (pc' := 52) (lo' := [(0, .ref h), (1, .int v)]) (rest' := []) (ws' := [(h, .inr (4, [.ref pp, .ref pl, .ref pe, .ref pr, .int bg, .int sz, .int b_44, .int ln, .int ds])), (pp, .inr (0, [.ref pb, .int p_45])), (pb, .inl (G.2.1, 4502, .inl f_46))]) ?_
      refine pb_goto (pc := 52) (tgt := 101) d_Presser_putSymbol_52 (by decide) ?_
      exact pb_vret (pc := 101) hQ d_Presser_putSymbol_101 rfl (b_44, p_45, f_46) ⟨rfl, (by (try dsimp only); first | done | assumption | omega (splitDisjunctions := false) | omega | decide), (by (try dsimp only); first | done | assumption | omega (splitDisjunctions := false) | omega | decide), (by (try dsimp only); first | done | assumption | omega (splitDisjunctions := false) | omega | decide), (by (try dsimp only); first | done | assumption | omega (splitDisjunctions := false) | omega | decide), (by (try dsimp only); first | done | assumption | omega (splitDisjunctions := false) | omega | decide), fh53⟩ [0, 1, 2] (by decide) rfl rfl (by decide) (by decide)
  · have tw1 : ¬ 144 ≤ v.toInt := fun z9 => w1 ((ti_le (by decide) rfl).mpr z9)
    refine pb_aload_n (pc := 7) d_Presser_putSymbol_7 0 rfl rfl ?_
    refine pb_bipush (pc := 8) (v := 48) d_Presser_putSymbol_8 (by decide) ?_
    refine pb_iload_n (pc := 10) d_Presser_putSymbol_10 1 rfl rfl ?_
    refine pb_iadd (pc := 11) d_Presser_putSymbol_11 ?_
    refine pb_topi (fun i54 ei54 => ?_)
    try have ti54 : i54.toInt = 48 + v.toInt := ti_add ei54 (by decide) rfl (by omega) (by omega)
    refine pb_bipush (pc := 12) (v := 8) d_Presser_putSymbol_12 (by decide) ?_
    refine pb_callS (pc := 14) (I := i_Presser_putSymbol) (nA := 2) (rest := [.ref h]) (wr := [(h, .inr (4, [.ref pp, .ref pl, .ref pe, .ref pr, .int bg, .int sz, .int bt, .int ln, .int ds])), (pp, .inr (0, [.ref pb, .int ps])), (pb, .inl (G.2.1, 4502, .inl f))]) d_Presser_putSymbol_14 (g_Pr_turned hl G i54 8) [] [0, 1, 2] (by decide) rfl rfl rfl (by decide) (by decide) k_530 rfl k_120 k_528 k_529 hy_Presser_turned (by decide) rfl rfl (Nat.le_of_ble_eq_true rfl) (by decide) (fun v9 u56 ch55 => ?_)
    obtain ⟨r_57, rfl⟩ : ∃ z9, z9 = u56 := ⟨_, rfl⟩
    have ech55 := ch55
    have ech55 : v9 = some (.int r_57) := ech55
    subst ech55
    refine pb_eq (pc' := 17) (lo' := [(0, .ref h), (1, .int v)]) (rest' := [.int r_57, .ref h]) (ws' := [(h, .inr (4, [.ref pp, .ref pl, .ref pe, .ref pr, .int bg, .int sz, .int bt, .int ln, .int ds])), (pp, .inr (0, [.ref pb, .int ps])), (pb, .inl (G.2.1, 4502, .inl f))]) ?_
    refine pb_bipush (pc := 17) (v := 8) d_Presser_putSymbol_17 (by decide) ?_
    refine pb_callV (pc := 19) (I := i_Presser_putSymbol) (qb := 0) (ci := 4) (nA := 2) (rest := []) (wr := []) d_Presser_putSymbol_19 (g_Pr_putNumber hl G h pp pl pe pr pb bg sz bt ln ds f ps r_57 8 (by first | assumption | omega (splitDisjunctions := false) | omega | decide) (by first | assumption | omega (splitDisjunctions := false) | omega | decide) (by first | assumption | omega (splitDisjunctions := false) | omega | decide) (by first | assumption | omega (splitDisjunctions := false) | omega | decide) (by first | assumption | omega (splitDisjunctions := false) | omega | decide) (by first | assumption | omega (splitDisjunctions := false) | omega | decide) (by first | assumption | omega (splitDisjunctions := false) | omega | decide) F_f) rfl rfl [0, 1, 2] [] (by decide) rfl rfl rfl (by decide) (by decide) k_508 rfl k_120 k_505 k_507 k_2 ⟨rfl, hy_Presser_putNumber⟩ (by decide) rfl rfl (Nat.le_of_ble_eq_true rfl) (by decide) (fun v9 u59 ch58 => ?_)
    obtain ⟨b_60, p_61, f_62⟩ := u59
    obtain ⟨ech58, ch58⟩ := ch58
    have ech58 : v9 = none := ech58
    subst ech58
    obtain ⟨fh63, fh64, fh65, fh66, fh67, fh68, fh69⟩ : (bt.toInt ≤ b_60.toInt) ∧ (b_60.toInt ≤ bt.toInt + (8 : Int32).toInt) ∧ (0 ≤ p_61.toInt) ∧ (p_61.toInt ≤ 4502) ∧ (1 ≤ p_61.toInt ∨ b_60.toInt = 0) ∧ (b_60.toInt = bt.toInt + (8 : Int32).toInt) ∧ (sb_Fit f_62) := ch58
    refine pb_eq (pc' := 22) (lo' := [(0, .ref h), (1, .int v)]) (rest' := []) (ws' := [(h, .inr (4, [.ref pp, .ref pl, .ref pe, .ref pr, .int bg, .int sz, .int b_60, .int ln, .int ds])), (pp, .inr (0, [.ref pb, .int p_61])), (pb, .inl (G.2.1, 4502, .inl f_62))]) ?_
    refine pb_goto (pc := 22) (tgt := 101) d_Presser_putSymbol_22 (by decide) ?_
    exact pb_vret (pc := 101) hQ d_Presser_putSymbol_101 rfl (b_60, p_61, f_62) ⟨rfl, (by (try dsimp only); first | done | assumption | omega (splitDisjunctions := false) | omega | decide), (by (try dsimp only); first | done | assumption | omega (splitDisjunctions := false) | omega | decide), (by (try dsimp only); first | done | assumption | omega (splitDisjunctions := false) | omega | decide), (by (try dsimp only); first | done | assumption | omega (splitDisjunctions := false) | omega | decide), (by (try dsimp only); first | done | assumption | omega (splitDisjunctions := false) | omega | decide), fh69⟩ [0, 1, 2] (by decide) rfl rfl (by decide) (by decide)

theorem d_Presser_putLength_0 : decode prog_8_method_7_code 0 = .ok (.aload_n 0, 1) := by decide +kernel
theorem d_Presser_putLength_1 : decode prog_8_method_7_code 1 = .ok (.getfield 55, 3) := by decide +kernel
theorem k_190 : (Jvm.Cond.fieldLink "PackageBook$Presser" (55 : Nat) "PackageBook$Presser" "length" "I") ∈ uW := uW_of 190 (by decide +kernel) (by decide +kernel)
theorem d_Presser_putLength_4 : decode prog_8_method_7_code 4 = .ok (.sipush 258, 3) := by decide +kernel
theorem d_Presser_putLength_7 : decode prog_8_method_7_code 7 = .ok (.if_icmp .ne 11, 3) := by decide +kernel
theorem d_Presser_putLength_18 : decode prog_8_method_7_code 18 = .ok (.aload_n 0, 1) := by decide +kernel
theorem d_Presser_putLength_19 : decode prog_8_method_7_code 19 = .ok (.getfield 55, 3) := by decide +kernel
theorem d_Presser_putLength_22 : decode prog_8_method_7_code 22 = .ok (.iconst 3, 1) := by decide +kernel
theorem d_Presser_putLength_23 : decode prog_8_method_7_code 23 = .ok (.isub, 1) := by decide +kernel
theorem d_Presser_putLength_24 : decode prog_8_method_7_code 24 = .ok (.istore_n 1, 1) := by decide +kernel
theorem d_Presser_putLength_25 : decode prog_8_method_7_code 25 = .ok (.iconst 0, 1) := by decide +kernel
theorem d_Presser_putLength_26 : decode prog_8_method_7_code 26 = .ok (.istore_n 2, 1) := by decide +kernel
theorem d_Presser_putLength_27 : decode prog_8_method_7_code 27 = .ok (.iload_n 2, 1) := by decide +kernel
theorem d_Presser_putLength_28 : decode prog_8_method_7_code 28 = .ok (.iconst 5, 1) := by decide +kernel
theorem d_Presser_putLength_29 : decode prog_8_method_7_code 29 = .ok (.if_icmp .ge 17, 3) := by decide +kernel
theorem d_Presser_putLength_46 : decode prog_8_method_7_code 46 = .ok (.aload_n 0, 1) := by decide +kernel
theorem d_Presser_putLength_47 : decode prog_8_method_7_code 47 = .ok (.sipush 257, 3) := by decide +kernel
theorem d_Presser_putLength_50 : decode prog_8_method_7_code 50 = .ok (.iconst 4, 1) := by decide +kernel
theorem d_Presser_putLength_51 : decode prog_8_method_7_code 51 = .ok (.iload_n 2, 1) := by decide +kernel
theorem d_Presser_putLength_52 : decode prog_8_method_7_code 52 = .ok (.imul, 1) := by decide +kernel
theorem d_Presser_putLength_53 : decode prog_8_method_7_code 53 = .ok (.iadd, 1) := by decide +kernel
theorem d_Presser_putLength_54 : decode prog_8_method_7_code 54 = .ok (.iload_n 1, 1) := by decide +kernel
theorem d_Presser_putLength_55 : decode prog_8_method_7_code 55 = .ok (.iload_n 2, 1) := by decide +kernel
theorem d_Presser_putLength_56 : decode prog_8_method_7_code 56 = .ok (.ishr, 1) := by decide +kernel
theorem d_Presser_putLength_57 : decode prog_8_method_7_code 57 = .ok (.iadd, 1) := by decide +kernel
theorem d_Presser_putLength_58 : decode prog_8_method_7_code 58 = .ok (.invokevirtual 58, 3) := by decide +kernel
theorem k_524 : (Jvm.Cond.methodLink "PackageBook$Presser" (58 : Nat) ({ cls := "PackageBook$Presser", name := "putSymbol", desc := "(I)V" } : Jvm.MethodName)) ∈ uW := uW_of 524 (by decide +kernel) (by decide +kernel)
theorem k_527 : (Jvm.Cond.code ({ cls := "PackageBook$Presser", name := "putSymbol", desc := "(I)V" } : Jvm.MethodName) prog_8_method_9_code (2 : Nat) (Option.none : Option Jvm.ClassFile.FieldType)) ∈ uW := uW_of 527 (by decide +kernel) (by decide +kernel)
theorem k_526 : (Jvm.Cond.instanceMethod ({ cls := "PackageBook$Presser", name := "putSymbol", desc := "(I)V" } : Jvm.MethodName)) ∈ uW := uW_of 526 (by decide +kernel) (by decide +kernel)
theorem k_6 : Cond.selects "PackageBook$Presser" ⟨"PackageBook$Presser", "putSymbol", "(I)V"⟩ ⟨"PackageBook$Presser", "putSymbol", "(I)V"⟩ ∈ uW := uW_of 6 (by decide +kernel) (by decide +kernel)
theorem hy_Presser_putSymbol : (y_Presser_putSymbol).cls ≠ "java/lang/invoke/MethodHandle" ∧ (y_Presser_putSymbol).cls ≠ "java/lang/invoke/VarHandle" ∧ (parseMethodDescriptor (y_Presser_putSymbol).desc).map (fun d => d.parameters.length) = some 1 := by decide +kernel
theorem d_Presser_putLength_61 : decode prog_8_method_7_code 61 = .ok (.aload_n 0, 1) := by decide +kernel
theorem d_Presser_putLength_62 : decode prog_8_method_7_code 62 = .ok (.iload_n 1, 1) := by decide +kernel
theorem d_Presser_putLength_63 : decode prog_8_method_7_code 63 = .ok (.iload_n 2, 1) := by decide +kernel
theorem d_Presser_putLength_64 : decode prog_8_method_7_code 64 = .ok (.invokevirtual 48, 3) := by decide +kernel
theorem d_Presser_putLength_67 : decode prog_8_method_7_code 67 = .ok (.return_, 1) := by decide +kernel
theorem d_Presser_putLength_32 : decode prog_8_method_7_code 32 = .ok (.iload_n 1, 1) := by decide +kernel
theorem d_Presser_putLength_33 : decode prog_8_method_7_code 33 = .ok (.iload_n 2, 1) := by decide +kernel
theorem d_Presser_putLength_34 : decode prog_8_method_7_code 34 = .ok (.ishr, 1) := by decide +kernel
theorem d_Presser_putLength_35 : decode prog_8_method_7_code 35 = .ok (.bipush 8, 2) := by decide +kernel
theorem d_Presser_putLength_37 : decode prog_8_method_7_code 37 = .ok (.if_icmp .lt 9, 3) := by decide +kernel
theorem d_Presser_putLength_40 : decode prog_8_method_7_code 40 = .ok (.iinc 2 1, 3) := by decide +kernel
theorem d_Presser_putLength_43 : decode prog_8_method_7_code 43 = .ok (.goto (-16), 3) := by decide +kernel
theorem d_Presser_putLength_10 : decode prog_8_method_7_code 10 = .ok (.aload_n 0, 1) := by decide +kernel
theorem d_Presser_putLength_11 : decode prog_8_method_7_code 11 = .ok (.sipush 285, 3) := by decide +kernel
theorem d_Presser_putLength_14 : decode prog_8_method_7_code 14 = .ok (.invokevirtual 58, 3) := by decide +kernel
theorem d_Presser_putLength_17 : decode prog_8_method_7_code 17 = .ok (.return_, 1) := by decide +kernel
abbrev y_Presser_putLength : MethodName := ⟨"PackageBook$Presser", "putLength", "()V"⟩
abbrev i_Presser_putLength : pb_I := (y_Presser_putLength, prog_8_method_7_code, 3, (Option.none : Option Jvm.ClassFile.FieldType), [], { frames := 2, cells := 0, slots := 0, locals := 44 })
set_option maxRecDepth 100000 in
set_option maxHeartbeats 4000000 in
theorem g_Pr_putLength {l : Launch} (hl : l.stackTraces = false) (G : pb_G) (h : Nat) (pp : Nat) (pl : Nat) (pe : Nat) (pr : Nat) (pb : Nat) (bg : Int32) (sz : Int32) (bt : Int32) (ln : Int32) (ds : Int32) (f : Nat → Int32) (ps : Int32) (k0 : 0 ≤ bt.toInt) (k1 : bt.toInt ≤ 990000) (k2 : 0 ≤ ps.toInt) (k3 : ps.toInt ≤ 4502) (k4 : 1 ≤ ps.toInt ∨ bt.toInt = 0) (F_f : sb_Fit f) : Cn l G i_Presser_putLength [.ref h] [(h, .inr (4, [.ref pp, .ref pl, .ref pe, .ref pr, .int bg, .int sz, .int bt, .int ln, .int ds])), (pp, .inr (0, [.ref pb, .int ps])), (pb, .inl (G.2.1, 4502, .inl f))] (S := Int32 × Int32 × (Nat → Int32)) (fun rv_ u => rv_ = none ∧ (bt.toInt ≤ u.1.toInt) ∧ (u.1.toInt ≤ bt.toInt + 14) ∧ (0 ≤ u.2.1.toInt) ∧ (u.2.1.toInt ≤ 4502) ∧ (1 ≤ u.2.1.toInt ∨ u.1.toInt = 0) ∧ (sb_Fit u.2.2)) (fun u => [(h, .inr (4, [.ref pp, .ref pl, .ref pe, .ref pr, .int bg, .int sz, .int u.1, .int ln, .int ds])), (pp, .inr (0, [.ref pb, .int u.2.1])), (pb, .inl (G.2.1, 4502, .inl u.2.2))]) := by
  refine Cn.of hl (by decide +kernel) rfl (Nat.le_of_ble_eq_true rfl) (fun M hQ => ?_)
  refine pb_eq (pc' := 0) (lo' := [(0, .ref h)]) (rest' := []) (ws' := [(h, .inr (4, [.ref pp, .ref pl, .ref pe, .ref pr, .int bg, .int sz, .int bt, .int ln, .int ds])), (pp, .inr (0, [.ref pb, .int ps])), (pb, .inl (G.2.1, 4502, .inl f))]) ?_
  have zl0 : (0 : Int32).toInt = 0 := by decide
  have zl1 : (1 : Int32).toInt = 1 := by decide
  have zl3 : (3 : Int32).toInt = 3 := by decide
  have zl4 : (4 : Int32).toInt = 4 := by decide
  have zl5 : (5 : Int32).toInt = 5 := by decide
  have zl8 : (8 : Int32).toInt = 8 := by decide
  have zl257 : (257 : Int32).toInt = 257 := by decide
  have zl258 : (258 : Int32).toInt = 258 := by decide
  have zl285 : (285 : Int32).toInt = 285 := by decide
  refine pb_aload_n (pc := 0) d_Presser_putLength_0 0 rfl rfl ?_
  refine pb_get (pc := 1) d_Presser_putLength_1 0 7 rfl rfl (by decide) in_Presser k_190 rfl ?_
  refine pb_sipush (pc := 4) (v := 258) d_Presser_putLength_4 (by decide) ?_
  refine pb_icmp_ne (pc := 7) (tgt := 18) d_Presser_putLength_7 (by decide) (fun w1 => ?_) (fun w1 => ?_)
  · have tw1 : ¬ ln.toInt = 258 := fun z9 => w1 ((ti_eq rfl (by decide)).mpr z9)
    refine pb_aload_n (pc := 18) d_Presser_putLength_18 0 rfl rfl ?_
    refine pb_get (pc := 19) d_Presser_putLength_19 0 7 rfl rfl (by decide) in_Presser k_190 rfl ?_
    refine pb_iconst (pc := 22) (v := 3) d_Presser_putLength_22 (by decide) ?_
    refine pb_isub (pc := 23) d_Presser_putLength_23 ?_
    refine pb_topi (fun i2 ei2 => ?_)
    try have ti2 : i2.toInt = ln.toInt - 3 := ti_sub ei2 rfl (by decide) (by omega) (by omega)
    refine pb_istore_n (pc := 24) (lo' := [(1, .int i2), (0, .ref h)]) d_Presser_putLength_24 rfl (by decide) rfl ?_
    refine pb_iconst (pc := 25) (v := 0) d_Presser_putLength_25 (by decide) ?_
    refine pb_istore_n (pc := 26) (lo' := [(2, .int 0), (1, .int i2), (0, .ref h)]) d_Presser_putLength_26 rfl (by decide) rfl ?_
    have hL27_3 : ∀ (N9 : Nat) (v : Int32) (m : Int32), (0 ≤ m.toInt) → (m.toInt ≤ 5) → ((5 - m.toInt).toNat) < N9 → pb_P l G M i_Presser_putLength 27 [(1, .int v), (2, .int m), (0, .ref h)] [] [(h, .inr (4, [.ref pp, .ref pl, .ref pe, .ref pr, .int bg, .int sz, .int bt, .int ln, .int ds])), (pp, .inr (0, [.ref pb, .int ps])), (pb, .inl (G.2.1, 4502, .inl f))] 0 0 := by
      intro N9
      induction N9 with
      | zero => intro v m hm hm2 hm9; exact absurd hm9 (Nat.not_lt_zero _)
      | succ N9 ih27 =>
        intro v m hm hm2 hm9
        refine pb_iload_n (pc := 27) d_Presser_putLength_27 1 rfl rfl ?_
        refine pb_iconst (pc := 28) (v := 5) d_Presser_putLength_28 (by decide) ?_
        refine pb_icmp_ge (pc := 29) (tgt := 46) d_Presser_putLength_29 (by decide) (fun w4 => ?_) (fun w4 => ?_)
        · have tw4 : 5 ≤ m.toInt := (ti_le (by decide) rfl).mp w4
          refine pb_aload_n (pc := 46) d_Presser_putLength_46 2 rfl rfl ?_
          refine pb_sipush (pc := 47) (v := 257) d_Presser_putLength_47 (by decide) ?_
          refine pb_iconst (pc := 50) (v := 4) d_Presser_putLength_50 (by decide) ?_
          refine pb_iload_n (pc := 51) d_Presser_putLength_51 1 rfl rfl ?_
          refine pb_imul (pc := 52) d_Presser_putLength_52 ?_
          refine pb_topi (fun i5 ei5 => ?_)
          try have ti5 : i5.toInt = 4 * m.toInt := ti_mul ei5 (by decide) rfl (by omega) (by omega)
          refine pb_iadd (pc := 53) d_Presser_putLength_53 ?_
          refine pb_topi (fun i6 ei6 => ?_)
          try have ti6 : i6.toInt = 257 + i5.toInt := ti_add ei6 (by decide) rfl (by omega) (by omega)
          refine pb_iload_n (pc := 54) d_Presser_putLength_54 0 rfl rfl ?_
          refine pb_iload_n (pc := 55) d_Presser_putLength_55 1 rfl rfl ?_
          refine pb_ishr (pc := 56) d_Presser_putLength_56 ?_
          refine pb_topi (fun i7 ei7 => ?_)
          refine pb_iadd (pc := 57) d_Presser_putLength_57 ?_
          refine pb_topi (fun i8 ei8 => ?_)
          try have ti8 : i8.toInt = i6.toInt + i7.toInt := ti_add ei8 rfl rfl (by omega) (by omega)
          refine pb_callV (pc := 58) (I := i_Presser_putLength) (qb := 0) (ci := 4) (nA := 1) (rest := []) (wr := []) d_Presser_putLength_58 (g_Pr_putSymbol hl G h pp pl pe pr pb bg sz bt ln ds f ps i8 (by first | assumption | omega (splitDisjunctions := false) | omega | decide) (by first | assumption | omega (splitDisjunctions := false) | omega | decide) (by first | assumption | omega (splitDisjunctions := false) | omega | decide) (by first | assumption | omega (splitDisjunctions := false) | omega | decide) (by first | assumption | omega (splitDisjunctions := false) | omega | decide) F_f) rfl rfl [0, 1, 2] [] (by decide) rfl rfl rfl (by decide) (by decide) k_527 rfl k_120 k_524 k_526 k_6 ⟨rfl, hy_Presser_putSymbol⟩ (by decide) rfl rfl (Nat.le_of_ble_eq_true rfl) (by decide) (fun v9 u10 ch9 => ?_)
          obtain ⟨b_11, p_12, f_13⟩ := u10
          obtain ⟨ech9, ch9⟩ := ch9
          have ech9 : v9 = none := ech9
          subst ech9
          obtain ⟨fh14, fh15, fh16, fh17, fh18, fh19⟩ : (bt.toInt ≤ b_11.toInt) ∧ (b_11.toInt ≤ bt.toInt + 9) ∧ (0 ≤ p_12.toInt) ∧ (p_12.toInt ≤ 4502) ∧ (1 ≤ p_12.toInt ∨ b_11.toInt = 0) ∧ (sb_Fit f_13) := ch9
          refine pb_eq (pc' := 61) (lo' := [(1, .int v), (2, .int m), (0, .ref h)]) (rest' := []) (ws' := [(h, .inr (4, [.ref pp, .ref pl, .ref pe, .ref pr, .int bg, .int sz, .int b_11, .int ln, .int ds])), (pp, .inr (0, [.ref pb, .int p_12])), (pb, .inl (G.2.1, 4502, .inl f_13))]) ?_
          refine pb_aload_n (pc := 61) d_Presser_putLength_61 2 rfl rfl ?_
          refine pb_iload_n (pc := 62) d_Presser_putLength_62 0 rfl rfl ?_
          refine pb_iload_n (pc := 63) d_Presser_putLength_63 1 rfl rfl ?_
          refine pb_callV (pc := 64) (I := i_Presser_putLength) (qb := 0) (ci := 4) (nA := 2) (rest := []) (wr := []) d_Presser_putLength_64 (g_Pr_putNumber hl G h pp pl pe pr pb bg sz b_11 ln ds f_13 p_12 v m (by first | assumption | omega (splitDisjunctions := false) | omega | decide) (by first | assumption | omega (splitDisjunctions := false) | omega | decide) (by first | assumption | omega (splitDisjunctions := false) | omega | decide) (by first | assumption | omega (splitDisjunctions := false) | omega | decide) (by first | assumption | omega (splitDisjunctions := false) | omega | decide) (by first | assumption | omega (splitDisjunctions := false) | omega | decide) (by first | assumption | omega (splitDisjunctions := false) | omega | decide) fh19) rfl rfl [0, 1, 2] [] (by decide) rfl rfl rfl (by decide) (by decide) k_508 rfl k_120 k_505 k_507 k_2 ⟨rfl, hy_Presser_putNumber⟩ (by decide) rfl rfl (Nat.le_of_ble_eq_true rfl) (by decide) (fun v9 u21 ch20 => ?_)
          obtain ⟨b_22, p_23, f_24⟩ := u21
          obtain ⟨ech20, ch20⟩ := ch20
          have ech20 : v9 = none := ech20
          subst ech20
          obtain ⟨fh25, fh26, fh27, fh28, fh29, fh30, fh31⟩ : (b_11.toInt ≤ b_22.toInt) ∧ (b_22.toInt ≤ b_11.toInt + m.toInt) ∧ (0 ≤ p_23.toInt) ∧ (p_23.toInt ≤ 4502) ∧ (1 ≤ p_23.toInt ∨ b_22.toInt = 0) ∧ (b_22.toInt = b_11.toInt + m.toInt) ∧ (sb_Fit f_24) := ch20
          refine pb_eq (pc' := 67) (lo' := [(1, .int v), (2, .int m), (0, .ref h)]) (rest' := []) (ws' := [(h, .inr (4, [.ref pp, .ref pl, .ref pe, .ref pr, .int bg, .int sz, .int b_22, .int ln, .int ds])), (pp, .inr (0, [.ref pb, .int p_23])), (pb, .inl (G.2.1, 4502, .inl f_24))]) ?_
          exact pb_vret (pc := 67) hQ d_Presser_putLength_67 rfl (b_22, p_23, f_24) ⟨rfl, (by (try dsimp only); first | done | assumption | omega (splitDisjunctions := false) | omega | decide), (by (try dsimp only); first | done | assumption | omega (splitDisjunctions := false) | omega | decide), (by (try dsimp only); first | done | assumption | omega (splitDisjunctions := false) | omega | decide), (by (try dsimp only); first | done | assumption | omega (splitDisjunctions := false) | omega | decide), (by (try dsimp only); first | done | assumption | omega (splitDisjunctions := false) | omega | decide), fh31⟩ [0, 1, 2] (by decide) rfl rfl (by decide) (by decide)
        · have tw4 : ¬ 5 ≤ m.toInt := fun z9 => w4 ((ti_le (by decide) rfl).mpr z9)
          refine pb_iload_n (pc := 32) d_Presser_putLength_32 0 rfl rfl ?_
          refine pb_iload_n (pc := 33) d_Presser_putLength_33 1 rfl rfl ?_
          refine pb_ishr (pc := 34) d_Presser_putLength_34 ?_
          refine pb_topi (fun i32 ei32 => ?_)
          refine pb_bipush (pc := 35) (v := 8) d_Presser_putLength_35 (by decide) ?_
          refine pb_icmp_lt (pc := 37) (tgt := 46) d_Presser_putLength_37 (by decide) (fun w33 => ?_) (fun w33 => ?_)
          · have tw33 : i32.toInt < 8 := (ti_lt rfl (by decide)).mp w33
            refine pb_aload_n (pc := 46) d_Presser_putLength_46 2 rfl rfl ?_
            refine pb_sipush (pc := 47) (v := 257) d_Presser_putLength_47 (by decide) ?_
            refine pb_iconst (pc := 50) (v := 4) d_Presser_putLength_50 (by decide) ?_
            refine pb_iload_n (pc := 51) d_Presser_putLength_51 1 rfl rfl ?_
            refine pb_imul (pc := 52) d_Presser_putLength_52 ?_
            refine pb_topi (fun i34 ei34 => ?_)
            try have ti34 : i34.toInt = 4 * m.toInt := ti_mul ei34 (by decide) rfl (by omega) (by omega)
            refine pb_iadd (pc := 53) d_Presser_putLength_53 ?_
            refine pb_topi (fun i35 ei35 => ?_)
            try have ti35 : i35.toInt = 257 + i34.toInt := ti_add ei35 (by decide) rfl (by omega) (by omega)
            refine pb_iload_n (pc := 54) d_Presser_putLength_54 0 rfl rfl ?_
            refine pb_iload_n (pc := 55) d_Presser_putLength_55 1 rfl rfl ?_
            refine pb_ishr (pc := 56) d_Presser_putLength_56 ?_
            refine pb_topi (fun i36 ei36 => ?_)
            refine pb_iadd (pc := 57) d_Presser_putLength_57 ?_
            refine pb_topi (fun i37 ei37 => ?_)
            try have ti37 : i37.toInt = i35.toInt + i36.toInt := ti_add ei37 rfl rfl (by omega) (by omega)
            refine pb_callV (pc := 58) (I := i_Presser_putLength) (qb := 0) (ci := 4) (nA := 1) (rest := []) (wr := []) d_Presser_putLength_58 (g_Pr_putSymbol hl G h pp pl pe pr pb bg sz bt ln ds f ps i37 (by first | assumption | omega (splitDisjunctions := false) | omega | decide) (by first | assumption | omega (splitDisjunctions := false) | omega | decide) (by first | assumption | omega (splitDisjunctions := false) | omega | decide) (by first | assumption | omega (splitDisjunctions := false) | omega | decide) (by first | assumption | omega (splitDisjunctions := false) | omega | decide) F_f) rfl rfl [0, 1, 2] [] (by decide) rfl rfl rfl (by decide) (by decide) k_527 rfl k_120 k_524 k_526 k_6 ⟨rfl, hy_Presser_putSymbol⟩ (by decide) rfl rfl (Nat.le_of_ble_eq_true rfl) (by decide) (fun v9 u39 ch38 => ?_)
            obtain ⟨b_40, p_41, f_42⟩ := u39
            obtain ⟨ech38, ch38⟩ := ch38
            have ech38 : v9 = none := ech38
            subst ech38
            obtain ⟨fh43, fh44, fh45, fh46, fh47, fh48⟩ : (bt.toInt ≤ b_40.toInt) ∧ (b_40.toInt ≤ bt.toInt + 9) ∧ (0 ≤ p_41.toInt) ∧ (p_41.toInt ≤ 4502) ∧ (1 ≤ p_41.toInt ∨ b_40.toInt = 0) ∧ (sb_Fit f_42) := ch38
            refine pb_eq (pc' := 61) (lo' := [(1, .int v), (2, .int m), (0, .ref h)]) (rest' := []) (ws' := [(h, .inr (4, [.ref pp, .ref pl, .ref pe, .ref pr, .int bg, .int sz, .int b_40, .int ln, .int ds])), (pp, .inr (0, [.ref pb, .int p_41])), (pb, .inl (G.2.1, 4502, .inl f_42))]) ?_
            refine pb_aload_n (pc := 61) d_Presser_putLength_61 2 rfl rfl ?_
            refine pb_iload_n (pc := 62) d_Presser_putLength_62 0 rfl rfl ?_
            refine pb_iload_n (pc := 63) d_Presser_putLength_63 1 rfl rfl ?_
            refine pb_callV (pc := 64) (I := i_Presser_putLength) (qb := 0) (ci := 4) (nA := 2) (rest := []) (wr := []) d_Presser_putLength_64 (g_Pr_putNumber hl G h pp pl pe pr pb bg sz b_40 ln ds f_42 p_41 v m (by first | assumption | omega (splitDisjunctions := false) | omega | decide) (by first | assumption | omega (splitDisjunctions := false) | omega | decide) (by first | assumption | omega (splitDisjunctions := false) | omega | decide) (by first | assumption | omega (splitDisjunctions := false) | omega | decide) (by first | assumption | omega (splitDisjunctions := false) | omega | decide) (by first | assumption | omega (splitDisjunctions := false) | omega | decide) (by first | assumption | omega (splitDisjunctions := false) | omega | decide) fh48) rfl rfl [0, 1, 2] [] (by decide) rfl rfl rfl (by decide) (by decide) k_508 rfl k_120 k_505 k_507 k_2 ⟨rfl, hy_Presser_putNumber⟩ (by decide) rfl rfl (Nat.le_of_ble_eq_true rfl) (by decide) (fun v9 u50 ch49 => ?_)
            obtain ⟨b_51, p_52, f_53⟩ := u50
            obtain ⟨ech49, ch49⟩ := ch49
            have ech49 : v9 = none := ech49
            subst ech49
            obtain ⟨fh54, fh55, fh56, fh57, fh58, fh59, fh60⟩ : (b_40.toInt ≤ b_51.toInt) ∧ (b_51.toInt ≤ b_40.toInt + m.toInt) ∧ (0 ≤ p_52.toInt) ∧ (p_52.toInt ≤ 4502) ∧ (1 ≤ p_52.toInt ∨ b_51.toInt = 0) ∧ (b_51.toInt = b_40.toInt + m.toInt) ∧ (sb_Fit f_53) := ch49
            refine pb_eq (pc' := 67) (lo' := [(1, .int v), (2, .int m), (0, .ref h)]) (rest' := []) (ws' := [(h, .inr (4, [.ref pp, .ref pl, .ref pe, .ref pr, .int bg, .int sz, .int b_51, .int ln, .int ds])), (pp, .inr (0, [.ref pb, .int p_52])), (pb, .inl (G.2.1, 4502, .inl f_53))]) ?_
            exact pb_vret (pc := 67) hQ d_Presser_putLength_67 rfl (b_51, p_52, f_53) ⟨rfl, (by (try dsimp only); first | done | assumption | omega (splitDisjunctions := false) | omega | decide), (by (try dsimp only); first | done | assumption | omega (splitDisjunctions := false) | omega | decide), (by (try dsimp only); first | done | assumption | omega (splitDisjunctions := false) | omega | decide), (by (try dsimp only); first | done | assumption | omega (splitDisjunctions := false) | omega | decide), (by (try dsimp only); first | done | assumption | omega (splitDisjunctions := false) | omega | decide), fh60⟩ [0, 1, 2] (by decide) rfl rfl (by decide) (by decide)
          · have tw33 : ¬ i32.toInt < 8 := fun z9 => w33 ((ti_lt rfl (by decide)).mpr z9)
            refine pb_iincN (pc := 40) (c := 1) d_Presser_putLength_40 1 rfl (by decide) (by decide) (fun i61 ei61 => ?_)
            have ti61 : i61.toInt = m.toInt + 1 := ti_add ei61 rfl (by decide) (by omega) (by omega)
            refine pb_eq (pc' := 43) (lo' := [(2, .int i61), (1, .int v), (0, .ref h)]) (rest' := []) (ws' := [(h, .inr (4, [.ref pp, .ref pl, .ref pe, .ref pr, .int bg, .int sz, .int bt, .int ln, .int ds])), (pp, .inr (0, [.ref pb, .int ps])), (pb, .inl (G.2.1, 4502, .inl f))]) ?_
            refine pb_goto (pc := 43) (tgt := 27) d_Presser_putLength_43 (by decide) ?_
            refine pb_re (ws' := [(h, .inr (4, [.ref pp, .ref pl, .ref pe, .ref pr, .int bg, .int sz, .int bt, .int ln, .int ds])), (pp, .inr (0, [.ref pb, .int ps])), (pb, .inl (G.2.1, 4502, .inl f))]) (lo' := [(1, .int v), (2, .int i61), (0, .ref h)]) [0, 1, 2] [1, 0, 2] (by decide) rfl rfl rfl ?_
            exact ih27 v i61 (by first | assumption | omega (splitDisjunctions := false) | omega | decide) (by first | assumption | omega (splitDisjunctions := false) | omega | decide) (by omega)
    refine pb_re (ws' := [(h, .inr (4, [.ref pp, .ref pl, .ref pe, .ref pr, .int bg, .int sz, .int bt, .int ln, .int ds])), (pp, .inr (0, [.ref pb, .int ps])), (pb, .inl (G.2.1, 4502, .inl f))]) (lo' := [(1, .int i2), (2, .int 0), (0, .ref h)]) [0, 1, 2] [1, 0, 2] (by decide) rfl rfl rfl ?_
    exact hL27_3 _ i2 0 (by first | assumption | omega (splitDisjunctions := false) | omega | decide) (by first | assumption | omega (splitDisjunctions := false) | omega | decide) (Nat.lt_succ_self _)
  · have tw1 : ln.toInt = 258 := (ti_eq rfl (by decide)).mp w1
    refine pb_aload_n (pc := 10) d_Presser_putLength_10 0 rfl rfl ?_
    refine pb_sipush (pc := 11) (v := 285) d_Presser_putLength_11 (by decide) ?_
    refine pb_callV (pc := 14) (I := i_Presser_putLength) (qb := 0) (ci := 4) (nA := 1) (rest := []) (wr := []) d_Presser_putLength_14 (g_Pr_putSymbol hl G h pp pl pe pr pb bg sz bt ln ds f ps 285 (by first | assumption | omega (splitDisjunctions := false) | omega | decide) (by first | assumption | omega (splitDisjunctions := false) | omega | decide) (by first | assumption | omega (splitDisjunctions := false) | omega | decide) (by first | assumption | omega (splitDisjunctions := false) | omega | decide) (by first | assumption | omega (splitDisjunctions := false) | omega | decide) F_f) rfl rfl [0, 1, 2] [] (by decide) rfl rfl rfl (by decide) (by decide) k_527 rfl k_120 k_524 k_526 k_6 ⟨rfl, hy_Presser_putSymbol⟩ (by decide) rfl rfl (Nat.le_of_ble_eq_true rfl) (by decide) (fun v9 u63 ch62 => ?_)
    obtain ⟨b_64, p_65, f_66⟩ := u63
    obtain ⟨ech62, ch62⟩ := ch62
    have ech62 : v9 = none := ech62
    subst ech62
    obtain ⟨fh67, fh68, fh69, fh70, fh71, fh72⟩ : (bt.toInt ≤ b_64.toInt) ∧ (b_64.toInt ≤ bt.toInt + 9) ∧ (0 ≤ p_65.toInt) ∧ (p_65.toInt ≤ 4502) ∧ (1 ≤ p_65.toInt ∨ b_64.toInt = 0) ∧ (sb_Fit f_66) := ch62
    refine pb_eq (pc' := 17) (lo' := [(0, .ref h)]) (rest' := []) (ws' := [(h, .inr (4, [.ref pp, .ref pl, .ref pe, .ref pr, .int bg, .int sz, .int b_64, .int ln, .int ds])), (pp, .inr (0, [.ref pb, .int p_65])), (pb, .inl (G.2.1, 4502, .inl f_66))]) ?_
    exact pb_vret (pc := 17) hQ d_Presser_putLength_17 rfl (b_64, p_65, f_66) ⟨rfl, (by (try dsimp only); first | done | assumption | omega (splitDisjunctions := false) | omega | decide), (by (try dsimp only); first | done | assumption | omega (splitDisjunctions := false) | omega | decide), (by (try dsimp only); first | done | assumption | omega (splitDisjunctions := false) | omega | decide), (by (try dsimp only); first | done | assumption | omega (splitDisjunctions := false) | omega | decide), (by (try dsimp only); first | done | assumption | omega (splitDisjunctions := false) | omega | decide), fh72⟩ [0, 1, 2] (by decide) rfl rfl (by decide) (by decide)

theorem d_Presser_putDistance_0 : decode prog_8_method_8_code 0 = .ok (.aload_n 0, 1) := by decide +kernel
theorem d_Presser_putDistance_1 : decode prog_8_method_8_code 1 = .ok (.getfield 84, 3) := by decide +kernel
theorem k_191 : (Jvm.Cond.fieldLink "PackageBook$Presser" (84 : Nat) "PackageBook$Presser" "distance" "I") ∈ uW := uW_of 191 (by decide +kernel) (by decide +kernel)
theorem d_Presser_putDistance_4 : decode prog_8_method_8_code 4 = .ok (.iconst 1, 1) := by decide +kernel
theorem d_Presser_putDistance_5 : decode prog_8_method_8_code 5 = .ok (.isub, 1) := by decide +kernel
theorem d_Presser_putDistance_6 : decode prog_8_method_8_code 6 = .ok (.istore_n 1, 1) := by decide +kernel
theorem d_Presser_putDistance_7 : decode prog_8_method_8_code 7 = .ok (.iconst 0, 1) := by decide +kernel
theorem d_Presser_putDistance_8 : decode prog_8_method_8_code 8 = .ok (.istore_n 2, 1) := by decide +kernel
theorem d_Presser_putDistance_9 : decode prog_8_method_8_code 9 = .ok (.iload_n 2, 1) := by decide +kernel
theorem d_Presser_putDistance_10 : decode prog_8_method_8_code 10 = .ok (.bipush 13, 2) := by decide +kernel
theorem d_Presser_putDistance_12 : decode prog_8_method_8_code 12 = .ok (.if_icmp .ge 16, 3) := by decide +kernel
theorem d_Presser_putDistance_28 : decode prog_8_method_8_code 28 = .ok (.aload_n 0, 1) := by decide +kernel
theorem d_Presser_putDistance_29 : decode prog_8_method_8_code 29 = .ok (.iconst 2, 1) := by decide +kernel
theorem d_Presser_putDistance_30 : decode prog_8_method_8_code 30 = .ok (.iload_n 2, 1) := by decide +kernel
theorem d_Presser_putDistance_31 : decode prog_8_method_8_code 31 = .ok (.imul, 1) := by decide +kernel
theorem d_Presser_putDistance_32 : decode prog_8_method_8_code 32 = .ok (.iload_n 1, 1) := by decide +kernel
theorem d_Presser_putDistance_33 : decode prog_8_method_8_code 33 = .ok (.iload_n 2, 1) := by decide +kernel
theorem d_Presser_putDistance_34 : decode prog_8_method_8_code 34 = .ok (.ishr, 1) := by decide +kernel
theorem d_Presser_putDistance_35 : decode prog_8_method_8_code 35 = .ok (.iadd, 1) := by decide +kernel
theorem d_Presser_putDistance_36 : decode prog_8_method_8_code 36 = .ok (.iconst 5, 1) := by decide +kernel
theorem d_Presser_putDistance_37 : decode prog_8_method_8_code 37 = .ok (.invokestatic 87, 3) := by decide +kernel
theorem d_Presser_putDistance_40 : decode prog_8_method_8_code 40 = .ok (.iconst 5, 1) := by decide +kernel
theorem d_Presser_putDistance_41 : decode prog_8_method_8_code 41 = .ok (.invokevirtual 48, 3) := by decide +kernel
theorem d_Presser_putDistance_44 : decode prog_8_method_8_code 44 = .ok (.aload_n 0, 1) := by decide +kernel
theorem d_Presser_putDistance_45 : decode prog_8_method_8_code 45 = .ok (.iload_n 1, 1) := by decide +kernel
theorem d_Presser_putDistance_46 : decode prog_8_method_8_code 46 = .ok (.iload_n 2, 1) := by decide +kernel
theorem d_Presser_putDistance_47 : decode prog_8_method_8_code 47 = .ok (.invokevirtual 48, 3) := by decide +kernel
theorem d_Presser_putDistance_50 : decode prog_8_method_8_code 50 = .ok (.return_, 1) := by decide +kernel
theorem d_Presser_putDistance_15 : decode prog_8_method_8_code 15 = .ok (.iload_n 1, 1) := by decide +kernel
theorem d_Presser_putDistance_16 : decode prog_8_method_8_code 16 = .ok (.iload_n 2, 1) := by decide +kernel
theorem d_Presser_putDistance_17 : decode prog_8_method_8_code 17 = .ok (.ishr, 1) := by decide +kernel
theorem d_Presser_putDistance_18 : decode prog_8_method_8_code 18 = .ok (.iconst 4, 1) := by decide +kernel
theorem d_Presser_putDistance_19 : decode prog_8_method_8_code 19 = .ok (.if_icmp .lt 9, 3) := by decide +kernel
theorem d_Presser_putDistance_22 : decode prog_8_method_8_code 22 = .ok (.iinc 2 1, 3) := by decide +kernel
theorem d_Presser_putDistance_25 : decode prog_8_method_8_code 25 = .ok (.goto (-16), 3) := by decide +kernel
abbrev y_Presser_putDistance : MethodName := ⟨"PackageBook$Presser", "putDistance", "()V"⟩
abbrev i_Presser_putDistance : pb_I := (y_Presser_putDistance, prog_8_method_8_code, 3, (Option.none : Option Jvm.ClassFile.FieldType), [], { frames := 1, cells := 0, slots := 0, locals := 23 })
set_option maxRecDepth 100000 in
set_option maxHeartbeats 4000000 in
theorem g_Pr_putDistance {l : Launch} (hl : l.stackTraces = false) (G : pb_G) (h : Nat) (pp : Nat) (pl : Nat) (pe : Nat) (pr : Nat) (pb : Nat) (bg : Int32) (sz : Int32) (bt : Int32) (ln : Int32) (ds : Int32) (f : Nat → Int32) (ps : Int32) (k0 : 0 ≤ bt.toInt) (k1 : bt.toInt ≤ 990000) (k2 : 0 ≤ ps.toInt) (k3 : ps.toInt ≤ 4502) (k4 : 1 ≤ ps.toInt ∨ bt.toInt = 0) (F_f : sb_Fit f) : Cn l G i_Presser_putDistance [.ref h] [(h, .inr (4, [.ref pp, .ref pl, .ref pe, .ref pr, .int bg, .int sz, .int bt, .int ln, .int ds])), (pp, .inr (0, [.ref pb, .int ps])), (pb, .inl (G.2.1, 4502, .inl f))] (S := Int32 × Int32 × (Nat → Int32)) (fun rv_ u => rv_ = none ∧ (bt.toInt ≤ u.1.toInt) ∧ (u.1.toInt ≤ bt.toInt + 18) ∧ (0 ≤ u.2.1.toInt) ∧ (u.2.1.toInt ≤ 4502) ∧ (1 ≤ u.2.1.toInt ∨ u.1.toInt = 0) ∧ (sb_Fit u.2.2)) (fun u => [(h, .inr (4, [.ref pp, .ref pl, .ref pe, .ref pr, .int bg, .int sz, .int u.1, .int ln, .int ds])), (pp, .inr (0, [.ref pb, .int u.2.1])), (pb, .inl (G.2.1, 4502, .inl u.2.2))]) := by
  refine Cn.of hl (by decide +kernel) rfl (Nat.le_of_ble_eq_true rfl) (fun M hQ => ?_)
  refine pb_eq (pc' := 0) (lo' := [(0, .ref h)]) (rest' := []) (ws' := [(h, .inr (4, [.ref pp, .ref pl, .ref pe, .ref pr, .int bg, .int sz, .int bt, .int ln, .int ds])), (pp, .inr (0, [.ref pb, .int ps])), (pb, .inl (G.2.1, 4502, .inl f))]) ?_
  have zl0 : (0 : Int32).toInt = 0 := by decide
  have zl1 : (1 : Int32).toInt = 1 := by decide
  have zl2 : (2 : Int32).toInt = 2 := by decide
  have zl4 : (4 : Int32).toInt = 4 := by decide
  have zl5 : (5 : Int32).toInt = 5 := by decide
  have zl13 : (13 : Int32).toInt = 13 := by decide
  refine pb_aload_n (pc := 0) d_Presser_putDistance_0 0 rfl rfl ?_
  refine pb_get (pc := 1) d_Presser_putDistance_1 0 8 rfl rfl (by decide) in_Presser k_191 rfl ?_
  refine pb_iconst (pc := 4) (v := 1) d_Presser_putDistance_4 (by decide) ?_
  refine pb_isub (pc := 5) d_Presser_putDistance_5 ?_
  refine pb_topi (fun i1 ei1 => ?_)
  try have ti1 : i1.toInt = ds.toInt - 1 := ti_sub ei1 rfl (by decide) (by omega) (by omega)
  refine pb_istore_n (pc := 6) (lo' := [(1, .int i1), (0, .ref h)]) d_Presser_putDistance_6 rfl (by decide) rfl ?_
  refine pb_iconst (pc := 7) (v := 0) d_Presser_putDistance_7 (by decide) ?_
  refine pb_istore_n (pc := 8) (lo' := [(2, .int 0), (1, .int i1), (0, .ref h)]) d_Presser_putDistance_8 rfl (by decide) rfl ?_
  have hL9_2 : ∀ (N9 : Nat) (v : Int32) (m : Int32), (0 ≤ m.toInt) → (m.toInt ≤ 13) → ((13 - m.toInt).toNat) < N9 → pb_P l G M i_Presser_putDistance 9 [(1, .int v), (2, .int m), (0, .ref h)] [] [(h, .inr (4, [.ref pp, .ref pl, .ref pe, .ref pr, .int bg, .int sz, .int bt, .int ln, .int ds])), (pp, .inr (0, [.ref pb, .int ps])), (pb, .inl (G.2.1, 4502, .inl f))] 0 0 := by
    intro N9
    induction N9 with
    | zero => intro v m hm hm2 hm9; exact absurd hm9 (Nat.not_lt_zero _)
    | succ N9 ih9 =>
      intro v m hm hm2 hm9
      refine pb_iload_n (pc := 9) d_Presser_putDistance_9 1 rfl rfl ?_
      refine pb_bipush (pc := 10) (v := 13) d_Presser_putDistance_10 (by decide) ?_
      refine pb_icmp_ge (pc := 12) (tgt := 28) d_Presser_putDistance_12 (by decide) (fun w3 => ?_) (fun w3 => ?_)
      · have tw3 : 13 ≤ m.toInt := (ti_le (by decide) rfl).mp w3
        refine pb_aload_n (pc := 28) d_Presser_putDistance_28 2 rfl rfl ?_
        refine pb_iconst (pc := 29) (v := 2) d_Presser_putDistance_29 (by decide) ?_
        refine pb_iload_n (pc := 30) d_Presser_putDistance_30 1 rfl rfl ?_
        refine pb_imul (pc := 31) d_Presser_putDistance_31 ?_
        refine pb_topi (fun i4 ei4 => ?_)
        try have ti4 : i4.toInt = 2 * m.toInt := ti_mul ei4 (by decide) rfl (by omega) (by omega)
        refine pb_iload_n (pc := 32) d_Presser_putDistance_32 0 rfl rfl ?_
        refine pb_iload_n (pc := 33) d_Presser_putDistance_33 1 rfl rfl ?_
        refine pb_ishr (pc := 34) d_Presser_putDistance_34 ?_
        refine pb_topi (fun i5 ei5 => ?_)
        refine pb_iadd (pc := 35) d_Presser_putDistance_35 ?_
        refine pb_topi (fun i6 ei6 => ?_)
        try have ti6 : i6.toInt = i4.toInt + i5.toInt := ti_add ei6 rfl rfl (by omega) (by omega)
        refine pb_iconst (pc := 36) (v := 5) d_Presser_putDistance_36 (by decide) ?_
        refine pb_callS (pc := 37) (I := i_Presser_putDistance) (nA := 2) (rest := [.ref h]) (wr := [(h, .inr (4, [.ref pp, .ref pl, .ref pe, .ref pr, .int bg, .int sz, .int bt, .int ln, .int ds])), (pp, .inr (0, [.ref pb, .int ps])), (pb, .inl (G.2.1, 4502, .inl f))]) d_Presser_putDistance_37 (g_Pr_turned hl G i6 5) [] [0, 1, 2] (by decide) rfl rfl rfl (by decide) (by decide) k_530 rfl k_120 k_528 k_529 hy_Presser_turned (by decide) rfl rfl (Nat.le_of_ble_eq_true rfl) (by decide) (fun v9 u8 ch7 => ?_)
        obtain ⟨r_9, rfl⟩ : ∃ z9, z9 = u8 := ⟨_, rfl⟩
        have ech7 := ch7
        have ech7 : v9 = some (.int r_9) := ech7
        subst ech7
        refine pb_eq (pc' := 40) (lo' := [(1, .int v), (2, .int m), (0, .ref h)]) (rest' := [.int r_9, .ref h]) (ws' := [(h, .inr (4, [.ref pp, .ref pl, .ref pe, .ref pr, .int bg, .int sz, .int bt, .int ln, .int ds])), (pp, .inr (0, [.ref pb, .int ps])), (pb, .inl (G.2.1, 4502, .inl f))]) ?_
        refine pb_iconst (pc := 40) (v := 5) d_Presser_putDistance_40 (by decide) ?_
        refine pb_callV (pc := 41) (I := i_Presser_putDistance) (qb := 0) (ci := 4) (nA := 2) (rest := []) (wr := []) d_Presser_putDistance_41 (g_Pr_putNumber hl G h pp pl pe pr pb bg sz bt ln ds f ps r_9 5 (by first | assumption | omega (splitDisjunctions := false) | omega | decide) (by first | assumption | omega (splitDisjunctions := false) | omega | decide) (by first | assumption | omega (splitDisjunctions := false) | omega | decide) (by first | assumption | omega (splitDisjunctions := false) | omega | decide) (by first | assumption | omega (splitDisjunctions := false) | omega | decide) (by first | assumption | omega (splitDisjunctions := false) | omega | decide) (by first | assumption | omega (splitDisjunctions := false) | omega | decide) F_f) rfl rfl [0, 1, 2] [] (by decide) rfl rfl rfl (by decide) (by decide) k_508 rfl k_120 k_505 k_507 k_2 ⟨rfl, hy_Presser_putNumber⟩ (by decide) rfl rfl (Nat.le_of_ble_eq_true rfl) (by decide) (fun v9 u11 ch10 => ?_)
        obtain ⟨b_12, p_13, f_14⟩ := u11
        obtain ⟨ech10, ch10⟩ := ch10
        have ech10 : v9 = none := ech10
        subst ech10
        obtain ⟨fh15, fh16, fh17, fh18, fh19, fh20, fh21⟩ : (bt.toInt ≤ b_12.toInt) ∧ (b_12.toInt ≤ bt.toInt + (5 : Int32).toInt) ∧ (0 ≤ p_13.toInt) ∧ (p_13.toInt ≤ 4502) ∧ (1 ≤ p_13.toInt ∨ b_12.toInt = 0) ∧ (b_12.toInt = bt.toInt + (5 : Int32).toInt) ∧ (sb_Fit f_14) := ch10
        refine pb_eq (pc' := 44) (lo' := [(1, .int v), (2, .int m), (0, .ref h)]) (rest' := []) (ws' := [(h, .inr (4, [.ref pp, .ref pl, .ref pe, .ref pr, .int bg, .int sz, .int b_12, .int ln, .int ds])), (pp, .inr (0, [.ref pb, .int p_13])), (pb, .inl (G.2.1, 4502, .inl f_14))]) ?_
        refine pb_aload_n (pc := 44) d_Presser_putDistance_44 2 rfl rfl ?_
        refine pb_iload_n (pc := 45) d_Presser_putDistance_45 0 rfl rfl ?_
        refine pb_iload_n (pc := 46) d_Presser_putDistance_46 1 rfl rfl ?_
        refine pb_callV (pc := 47) (I := i_Presser_putDistance) (qb := 0) (ci := 4) (nA := 2) (rest := []) (wr := []) d_Presser_putDistance_47 (g_Pr_putNumber hl G h pp pl pe pr pb bg sz b_12 ln ds f_14 p_13 v m (by first | assumption | omega (splitDisjunctions := false) | omega | decide) (by first | assumption | omega (splitDisjunctions := false) | omega | decide) (by first | assumption | omega (splitDisjunctions := false) | omega | decide) (by first | assumption | omega (splitDisjunctions := false) | omega | decide) (by first | assumption | omega (splitDisjunctions := false) | omega | decide) (by first | assumption | omega (splitDisjunctions := false) | omega | decide) (by first | assumption | omega (splitDisjunctions := false) | omega | decide) fh21) rfl rfl [0, 1, 2] [] (by decide) rfl rfl rfl (by decide) (by decide) k_508 rfl k_120 k_505 k_507 k_2 ⟨rfl, hy_Presser_putNumber⟩ (by decide) rfl rfl (Nat.le_of_ble_eq_true rfl) (by decide) (fun v9 u23 ch22 => ?_)
        obtain ⟨b_24, p_25, f_26⟩ := u23
        obtain ⟨ech22, ch22⟩ := ch22
        have ech22 : v9 = none := ech22
        subst ech22
        obtain ⟨fh27, fh28, fh29, fh30, fh31, fh32, fh33⟩ : (b_12.toInt ≤ b_24.toInt) ∧ (b_24.toInt ≤ b_12.toInt + m.toInt) ∧ (0 ≤ p_25.toInt) ∧ (p_25.toInt ≤ 4502) ∧ (1 ≤ p_25.toInt ∨ b_24.toInt = 0) ∧ (b_24.toInt = b_12.toInt + m.toInt) ∧ (sb_Fit f_26) := ch22
        refine pb_eq (pc' := 50) (lo' := [(1, .int v), (2, .int m), (0, .ref h)]) (rest' := []) (ws' := [(h, .inr (4, [.ref pp, .ref pl, .ref pe, .ref pr, .int bg, .int sz, .int b_24, .int ln, .int ds])), (pp, .inr (0, [.ref pb, .int p_25])), (pb, .inl (G.2.1, 4502, .inl f_26))]) ?_
        exact pb_vret (pc := 50) hQ d_Presser_putDistance_50 rfl (b_24, p_25, f_26) ⟨rfl, (by (try dsimp only); first | done | assumption | omega (splitDisjunctions := false) | omega | decide), (by (try dsimp only); first | done | assumption | omega (splitDisjunctions := false) | omega | decide), (by (try dsimp only); first | done | assumption | omega (splitDisjunctions := false) | omega | decide), (by (try dsimp only); first | done | assumption | omega (splitDisjunctions := false) | omega | decide), (by (try dsimp only); first | done | assumption | omega (splitDisjunctions := false) | omega | decide), fh33⟩ [0, 1, 2] (by decide) rfl rfl (by decide) (by decide)
      · have tw3 : ¬ 13 ≤ m.toInt := fun z9 => w3 ((ti_le (by decide) rfl).mpr z9)
        refine pb_iload_n (pc := 15) d_Presser_putDistance_15 0 rfl rfl ?_
        refine pb_iload_n (pc := 16) d_Presser_putDistance_16 1 rfl rfl ?_
        refine pb_ishr (pc := 17) d_Presser_putDistance_17 ?_
        refine pb_topi (fun i34 ei34 => ?_)
        refine pb_iconst (pc := 18) (v := 4) d_Presser_putDistance_18 (by decide) ?_
        refine pb_icmp_lt (pc := 19) (tgt := 28) d_Presser_putDistance_19 (by decide) (fun w35 => ?_) (fun w35 => ?_)
        · have tw35 : i34.toInt < 4 := (ti_lt rfl (by decide)).mp w35
          refine pb_aload_n (pc := 28) d_Presser_putDistance_28 2 rfl rfl ?_
          refine pb_iconst (pc := 29) (v := 2) d_Presser_putDistance_29 (by decide) ?_
          refine pb_iload_n (pc := 30) d_Presser_putDistance_30 1 rfl rfl ?_
          refine pb_imul (pc := 31) d_Presser_putDistance_31 ?_
          refine pb_topi (fun i36 ei36 => ?_)
          try have ti36 : i36.toInt = 2 * m.toInt := ti_mul ei36 (by decide) rfl (by omega) (by omega)
          refine pb_iload_n (pc := 32) d_Presser_putDistance_32 0 rfl rfl ?_
          refine pb_iload_n (pc := 33) d_Presser_putDistance_33 1 rfl rfl ?_
          refine pb_ishr (pc := 34) d_Presser_putDistance_34 ?_
          refine pb_topi (fun i37 ei37 => ?_)
          refine pb_iadd (pc := 35) d_Presser_putDistance_35 ?_
          refine pb_topi (fun i38 ei38 => ?_)
          try have ti38 : i38.toInt = i36.toInt + i37.toInt := ti_add ei38 rfl rfl (by omega) (by omega)
          refine pb_iconst (pc := 36) (v := 5) d_Presser_putDistance_36 (by decide) ?_
          refine pb_callS (pc := 37) (I := i_Presser_putDistance) (nA := 2) (rest := [.ref h]) (wr := [(h, .inr (4, [.ref pp, .ref pl, .ref pe, .ref pr, .int bg, .int sz, .int bt, .int ln, .int ds])), (pp, .inr (0, [.ref pb, .int ps])), (pb, .inl (G.2.1, 4502, .inl f))]) d_Presser_putDistance_37 (g_Pr_turned hl G i38 5) [] [0, 1, 2] (by decide) rfl rfl rfl (by decide) (by decide) k_530 rfl k_120 k_528 k_529 hy_Presser_turned (by decide) rfl rfl (Nat.le_of_ble_eq_true rfl) (by decide) (fun v9 u40 ch39 => ?_)
          obtain ⟨r_41, rfl⟩ : ∃ z9, z9 = u40 := ⟨_, rfl⟩
          have ech39 := ch39
          have ech39 : v9 = some (.int r_41) := ech39
          subst ech39
          refine pb_eq (pc' := 40) (lo' := [(1, .int v), (2, .int m), (0, .ref h)]) (rest' := [.int r_41, .ref h]) (ws' := [(h, .inr (4, [.ref pp, .ref pl, .ref pe, .ref pr, .int bg, .int sz, .int bt, .int ln, .int ds])), (pp, .inr (0, [.ref pb, .int ps])), (pb, .inl (G.2.1, 4502, .inl f))]) ?_
          refine pb_iconst (pc := 40) (v := 5) d_Presser_putDistance_40 (by decide) ?_
          refine pb_callV (pc := 41) (I := i_Presser_putDistance) (qb := 0) (ci := 4) (nA := 2) (rest := []) (wr := []) d_Presser_putDistance_41 (g_Pr_putNumber hl G h pp pl pe pr pb bg sz bt ln ds f ps r_41 5 (by first | assumption | omega (splitDisjunctions := false) | omega | decide) (by first | assumption | omega (splitDisjunctions := false) | omega | decide) (by first | assumption | omega (splitDisjunctions := false) | omega | decide) (by first | assumption | omega (splitDisjunctions := false) | omega | decide) (by first | assumption | omega (splitDisjunctions := false) | omega | decide) (by first | assumption | omega (splitDisjunctions := false) | omega | decide) (by first | assumption | omega (splitDisjunctions := false) | omega | decide) F_f) rfl rfl [0, 1, 2] [] (by decide) rfl rfl rfl (by decide) (by decide) k_508 rfl k_120 k_505 k_507 k_2 ⟨rfl, hy_Presser_putNumber⟩ (by decide) rfl rfl (Nat.le_of_ble_eq_true rfl) (by decide) (fun v9 u43 ch42 => ?_)
          obtain ⟨b_44, p_45, f_46⟩ := u43
          obtain ⟨ech42, ch42⟩ := ch42
          have ech42 : v9 = none := ech42
          subst ech42
          obtain ⟨fh47, fh48, fh49, fh50, fh51, fh52, fh53⟩ : (bt.toInt ≤ b_44.toInt) ∧ (b_44.toInt ≤ bt.toInt + (5 : Int32).toInt) ∧ (0 ≤ p_45.toInt) ∧ (p_45.toInt ≤ 4502) ∧ (1 ≤ p_45.toInt ∨ b_44.toInt = 0) ∧ (b_44.toInt = bt.toInt + (5 : Int32).toInt) ∧ (sb_Fit f_46) := ch42
          refine pb_eq (pc' := 44) (lo' := [(1, .int v), (2, .int m), (0, .ref h)]) (rest' := []) (ws' := [(h, .inr (4, [.ref pp, .ref pl, .ref pe, .ref pr, .int bg, .int sz, .int b_44, .int ln, .int ds])), (pp, .inr (0, [.ref pb, .int p_45])), (pb, .inl (G.2.1, 4502, .inl f_46))]) ?_
          refine pb_aload_n (pc := 44) d_Presser_putDistance_44 2 rfl rfl ?_
          refine pb_iload_n (pc := 45) d_Presser_putDistance_45 0 rfl rfl ?_
          refine pb_iload_n (pc := 46) d_Presser_putDistance_46 1 rfl rfl ?_
          refine pb_callV (pc := 47) (I := i_Presser_putDistance) (qb := 0) (ci := 4) (nA := 2) (rest := []) (wr := []) d_Presser_putDistance_47 (g_Pr_putNumber hl G h pp pl pe pr pb bg sz b_44 ln ds f_46 p_45 v m (by first | assumption | omega (splitDisjunctions := false) | omega | decide) (by first | assumption | omega (splitDisjunctions := false) | omega | decide) (by first | assumption | omega (splitDisjunctions := false) | omega | decide) (by first | assumption | omega (splitDisjunctions := false) | omega | decide) (by first | assumption | omega (splitDisjunctions := false) | omega | decide) (by first | assumption | omega (splitDisjunctions := false) | omega | decide) (by first | assumption | omega (splitDisjunctions := false) | omega | decide) fh53) rfl rfl [0, 1, 2] [] (by decide) rfl rfl rfl (by decide) (by decide) k_508 rfl k_120 k_505 k_507 k_2 ⟨rfl, hy_Presser_putNumber⟩ (by decide) rfl rfl (Nat.le_of_ble_eq_true rfl) (by decide) (fun v9 u55 ch54 => ?_)
          obtain ⟨b_56, p_57, f_58⟩ := u55
          obtain ⟨ech54, ch54⟩ := ch54
          have ech54 : v9 = none := ech54
          subst ech54
          obtain ⟨fh59, fh60, fh61, fh62, fh63, fh64, fh65⟩ : (b_44.toInt ≤ b_56.toInt) ∧ (b_56.toInt ≤ b_44.toInt + m.toInt) ∧ (0 ≤ p_57.toInt) ∧ (p_57.toInt ≤ 4502) ∧ (1 ≤ p_57.toInt ∨ b_56.toInt = 0) ∧ (b_56.toInt = b_44.toInt + m.toInt) ∧ (sb_Fit f_58) := ch54
          refine pb_eq (pc' := 50) (lo' := [(1, .int v), (2, .int m), (0, .ref h)]) (rest' := []) (ws' := [(h, .inr (4, [.ref pp, .ref pl, .ref pe, .ref pr, .int bg, .int sz, .int b_56, .int ln, .int ds])), (pp, .inr (0, [.ref pb, .int p_57])), (pb, .inl (G.2.1, 4502, .inl f_58))]) ?_
          exact pb_vret (pc := 50) hQ d_Presser_putDistance_50 rfl (b_56, p_57, f_58) ⟨rfl, (by (try dsimp only); first | done | assumption | omega (splitDisjunctions := false) | omega | decide), (by (try dsimp only); first | done | assumption | omega (splitDisjunctions := false) | omega | decide), (by (try dsimp only); first | done | assumption | omega (splitDisjunctions := false) | omega | decide), (by (try dsimp only); first | done | assumption | omega (splitDisjunctions := false) | omega | decide), (by (try dsimp only); first | done | assumption | omega (splitDisjunctions := false) | omega | decide), fh65⟩ [0, 1, 2] (by decide) rfl rfl (by decide) (by decide)
        · have tw35 : ¬ i34.toInt < 4 := fun z9 => w35 ((ti_lt rfl (by decide)).mpr z9)
          refine pb_iincN (pc := 22) (c := 1) d_Presser_putDistance_22 1 rfl (by decide) (by decide) (fun i66 ei66 => ?_)
          have ti66 : i66.toInt = m.toInt + 1 := ti_add ei66 rfl (by decide) (by omega) (by omega)
          refine pb_eq (pc' := 25) (lo' := [(2, .int i66), (1, .int v), (0, .ref h)]) (rest' := []) (ws' := [(h, .inr (4, [.ref pp, .ref pl, .ref pe, .ref pr, .int bg, .int sz, .int bt, .int ln, .int ds])), (pp, .inr (0, [.ref pb, .int ps])), (pb, .inl (G.2.1, 4502, .inl f))]) ?_
          refine pb_goto (pc := 25) (tgt := 9) d_Presser_putDistance_25 (by decide) ?_
          refine pb_re (ws' := [(h, .inr (4, [.ref pp, .ref pl, .ref pe, .ref pr, .int bg, .int sz, .int bt, .int ln, .int ds])), (pp, .inr (0, [.ref pb, .int ps])), (pb, .inl (G.2.1, 4502, .inl f))]) (lo' := [(1, .int v), (2, .int i66), (0, .ref h)]) [0, 1, 2] [1, 0, 2] (by decide) rfl rfl rfl ?_
          exact ih9 v i66 (by first | assumption | omega (splitDisjunctions := false) | omega | decide) (by first | assumption | omega (splitDisjunctions := false) | omega | decide) (by omega)
  refine pb_re (ws' := [(h, .inr (4, [.ref pp, .ref pl, .ref pe, .ref pr, .int bg, .int sz, .int bt, .int ln, .int ds])), (pp, .inr (0, [.ref pb, .int ps])), (pb, .inl (G.2.1, 4502, .inl f))]) (lo' := [(1, .int i1), (2, .int 0), (0, .ref h)]) [0, 1, 2] [1, 0, 2] (by decide) rfl rfl rfl ?_
  exact hL9_2 _ i1 0 (by first | assumption | omega (splitDisjunctions := false) | omega | decide) (by first | assumption | omega (splitDisjunctions := false) | omega | decide) (Nat.lt_succ_self _)

theorem d_Presser_mixAt_0 : decode prog_8_method_6_code 0 = .ok (.aload_n 0, 1) := by decide +kernel
theorem d_Presser_mixAt_1 : decode prog_8_method_6_code 1 = .ok (.getfield 31, 3) := by decide +kernel
theorem k_187 : (Jvm.Cond.fieldLink "PackageBook$Presser" (31 : Nat) "PackageBook$Presser" "begin" "I") ∈ uW := uW_of 187 (by decide +kernel) (by decide +kernel)
theorem d_Presser_mixAt_4 : decode prog_8_method_6_code 4 = .ok (.iload_n 1, 1) := by decide +kernel
theorem d_Presser_mixAt_5 : decode prog_8_method_6_code 5 = .ok (.iadd, 1) := by decide +kernel
theorem d_Presser_mixAt_6 : decode prog_8_method_6_code 6 = .ok (.istore_n 2, 1) := by decide +kernel
theorem d_Presser_mixAt_7 : decode prog_8_method_6_code 7 = .ok (.aload_n 0, 1) := by decide +kernel
theorem d_Presser_mixAt_8 : decode prog_8_method_6_code 8 = .ok (.getfield 27, 3) := by decide +kernel
theorem d_Presser_mixAt_11 : decode prog_8_method_6_code 11 = .ok (.iload_n 2, 1) := by decide +kernel
theorem d_Presser_mixAt_12 : decode prog_8_method_6_code 12 = .ok (.baload, 1) := by decide +kernel
theorem d_Presser_mixAt_13 : decode prog_8_method_6_code 13 = .ok (.bipush 6, 2) := by decide +kernel
theorem d_Presser_mixAt_15 : decode prog_8_method_6_code 15 = .ok (.ishl, 1) := by decide +kernel
theorem d_Presser_mixAt_16 : decode prog_8_method_6_code 16 = .ok (.aload_n 0, 1) := by decide +kernel
theorem d_Presser_mixAt_17 : decode prog_8_method_6_code 17 = .ok (.getfield 27, 3) := by decide +kernel
theorem d_Presser_mixAt_20 : decode prog_8_method_6_code 20 = .ok (.iload_n 2, 1) := by decide +kernel
theorem d_Presser_mixAt_21 : decode prog_8_method_6_code 21 = .ok (.iconst 1, 1) := by decide +kernel
theorem d_Presser_mixAt_22 : decode prog_8_method_6_code 22 = .ok (.iadd, 1) := by decide +kernel
theorem d_Presser_mixAt_23 : decode prog_8_method_6_code 23 = .ok (.baload, 1) := by decide +kernel
theorem d_Presser_mixAt_24 : decode prog_8_method_6_code 24 = .ok (.iconst 3, 1) := by decide +kernel
theorem d_Presser_mixAt_25 : decode prog_8_method_6_code 25 = .ok (.ishl, 1) := by decide +kernel
theorem d_Presser_mixAt_26 : decode prog_8_method_6_code 26 = .ok (.ixor, 1) := by decide +kernel
theorem d_Presser_mixAt_27 : decode prog_8_method_6_code 27 = .ok (.aload_n 0, 1) := by decide +kernel
theorem d_Presser_mixAt_28 : decode prog_8_method_6_code 28 = .ok (.getfield 27, 3) := by decide +kernel
theorem d_Presser_mixAt_31 : decode prog_8_method_6_code 31 = .ok (.iload_n 2, 1) := by decide +kernel
theorem d_Presser_mixAt_32 : decode prog_8_method_6_code 32 = .ok (.iconst 2, 1) := by decide +kernel
theorem d_Presser_mixAt_33 : decode prog_8_method_6_code 33 = .ok (.iadd, 1) := by decide +kernel
theorem d_Presser_mixAt_34 : decode prog_8_method_6_code 34 = .ok (.baload, 1) := by decide +kernel
theorem d_Presser_mixAt_35 : decode prog_8_method_6_code 35 = .ok (.ixor, 1) := by decide +kernel
theorem d_Presser_mixAt_36 : decode prog_8_method_6_code 36 = .ok (.sipush 1023, 3) := by decide +kernel
theorem d_Presser_mixAt_39 : decode prog_8_method_6_code 39 = .ok (.iand, 1) := by decide +kernel
theorem d_Presser_mixAt_40 : decode prog_8_method_6_code 40 = .ok (.ireturn, 1) := by decide +kernel
abbrev y_Presser_mixAt : MethodName := ⟨"PackageBook$Presser", "mixAt", "(I)I"⟩
abbrev i_Presser_mixAt : pb_I := (y_Presser_mixAt, prog_8_method_6_code, 3, (some Jvm.ClassFile.FieldType.int), [], { frames := 0, cells := 0, slots := 0, locals := 0 })
set_option maxRecDepth 100000 in
set_option maxHeartbeats 4000000 in
theorem g_Pr_mixAt {l : Launch} (hl : l.stackTraces = false) (G : pb_G) (h : Nat) (pp : Nat) (pl : Nat) (pe : Nat) (pr : Nat) (pb : Nat) (bg : Int32) (sz : Int32) (bt : Int32) (ln : Int32) (ds : Int32) (N : Nat) (fr : Nat → Int32) (x : Int32) (r0 : 0 ≤ bg.toInt) (r1 : bg.toInt + sz.toInt ≤ N) (r2 : N ≤ 100000) (r3 : sz.toInt ≤ 4000) (r4 : 0 ≤ sz.toInt) (x0 : 0 ≤ x.toInt) (x1 : x.toInt + 3 ≤ sz.toInt) (F_fr : sb_Fit fr) : Cn l G i_Presser_mixAt [.ref h, .int x] [(h, .inr (4, [.ref pp, .ref pl, .ref pe, .ref pr, .int bg, .int sz, .int bt, .int ln, .int ds])), (pr, .inl (G.2.1, N, .inl fr))] (S := Int32) (fun rv_ u => rv_ = some (.int u) ∧ (0 ≤ u.toInt) ∧ (u.toInt ≤ 1023)) (fun u => [(h, .inr (4, [.ref pp, .ref pl, .ref pe, .ref pr, .int bg, .int sz, .int bt, .int ln, .int ds])), (pr, .inl (G.2.1, N, .inl fr))]) := by
  refine Cn.of hl (by decide +kernel) rfl (Nat.le_of_ble_eq_true rfl) (fun M hQ => ?_)
  refine pb_eq (pc' := 0) (lo' := [(0, .ref h), (1, .int x)]) (rest' := []) (ws' := [(h, .inr (4, [.ref pp, .ref pl, .ref pe, .ref pr, .int bg, .int sz, .int bt, .int ln, .int ds])), (pr, .inl (G.2.1, N, .inl fr))]) ?_
  have zl0 : (0 : Int32).toInt = 0 := by decide
  have zl1 : (1 : Int32).toInt = 1 := by decide
  have zl2 : (2 : Int32).toInt = 2 := by decide
  have zl3 : (3 : Int32).toInt = 3 := by decide
  have zl6 : (6 : Int32).toInt = 6 := by decide
  have zl1023 : (1023 : Int32).toInt = 1023 := by decide
  refine pb_aload_n (pc := 0) d_Presser_mixAt_0 0 rfl rfl ?_
  refine pb_get (pc := 1) d_Presser_mixAt_1 0 4 rfl rfl (by decide) in_Presser k_187 rfl ?_
  refine pb_iload_n (pc := 4) d_Presser_mixAt_4 1 rfl rfl ?_
  refine pb_iadd (pc := 5) d_Presser_mixAt_5 ?_
  refine pb_topi (fun i1 ei1 => ?_)
  try have ti1 : i1.toInt = bg.toInt + x.toInt := ti_add ei1 rfl rfl (by omega) (by omega)
  refine pb_istore_n (pc := 6) (lo' := [(2, .int i1), (0, .ref h), (1, .int x)]) d_Presser_mixAt_6 rfl (by decide) rfl ?_
  refine pb_aload_n (pc := 7) d_Presser_mixAt_7 1 rfl rfl ?_
  refine pb_get (pc := 8) d_Presser_mixAt_8 0 3 rfl rfl (by decide) in_Presser k_186 rfl ?_
  refine pb_iload_n (pc := 11) d_Presser_mixAt_11 0 rfl rfl ?_
  refine pb_bald (pc := 12) d_Presser_mixAt_12 1 rfl (vp_in_iff.mpr (by constructor <;> omega)) ?_
  refine pb_topi (fun i2 ei2 => ?_)
  have ti2 : -128 ≤ i2.toInt ∧ i2.toInt ≤ 127 := ti_fit (F_fr _) ei2
  refine pb_bipush (pc := 13) (v := 6) d_Presser_mixAt_13 (by decide) ?_
  refine pb_ishl (pc := 15) d_Presser_mixAt_15 ?_
  refine pb_topi (fun i3 ei3 => ?_)
  try have ti3 : i3.toInt = i2.toInt * 64 := ti_shl ei3 rfl 6 (by decide) (by decide) (by omega) (by omega)
  refine pb_aload_n (pc := 16) d_Presser_mixAt_16 1 rfl rfl ?_
  refine pb_get (pc := 17) d_Presser_mixAt_17 0 3 rfl rfl (by decide) in_Presser k_186 rfl ?_
  refine pb_iload_n (pc := 20) d_Presser_mixAt_20 0 rfl rfl ?_
  refine pb_iconst (pc := 21) (v := 1) d_Presser_mixAt_21 (by decide) ?_
  refine pb_iadd (pc := 22) d_Presser_mixAt_22 ?_
  refine pb_topi (fun i4 ei4 => ?_)
  try have ti4 : i4.toInt = i1.toInt + 1 := ti_add ei4 rfl (by decide) (by omega) (by omega)
  refine pb_bald (pc := 23) d_Presser_mixAt_23 1 rfl (vp_in_iff.mpr (by constructor <;> omega)) ?_
  refine pb_topi (fun i5 ei5 => ?_)
  have ti5 : -128 ≤ i5.toInt ∧ i5.toInt ≤ 127 := ti_fit (F_fr _) ei5
  refine pb_iconst (pc := 24) (v := 3) d_Presser_mixAt_24 (by decide) ?_
  refine pb_ishl (pc := 25) d_Presser_mixAt_25 ?_
  refine pb_topi (fun i6 ei6 => ?_)
  try have ti6 : i6.toInt = i5.toInt * 8 := ti_shl ei6 rfl 3 (by decide) (by decide) (by omega) (by omega)
  refine pb_ixor (pc := 26) d_Presser_mixAt_26 ?_
  refine pb_topi (fun i7 ei7 => ?_)
  refine pb_aload_n (pc := 27) d_Presser_mixAt_27 1 rfl rfl ?_
  refine pb_get (pc := 28) d_Presser_mixAt_28 0 3 rfl rfl (by decide) in_Presser k_186 rfl ?_
  refine pb_iload_n (pc := 31) d_Presser_mixAt_31 0 rfl rfl ?_
  refine pb_iconst (pc := 32) (v := 2) d_Presser_mixAt_32 (by decide) ?_
  refine pb_iadd (pc := 33) d_Presser_mixAt_33 ?_
  refine pb_topi (fun i8 ei8 => ?_)
  try have ti8 : i8.toInt = i1.toInt + 2 := ti_add ei8 rfl (by decide) (by omega) (by omega)
  refine pb_bald (pc := 34) d_Presser_mixAt_34 1 rfl (vp_in_iff.mpr (by constructor <;> omega)) ?_
  refine pb_topi (fun i9 ei9 => ?_)
  have ti9 : -128 ≤ i9.toInt ∧ i9.toInt ≤ 127 := ti_fit (F_fr _) ei9
  refine pb_ixor (pc := 35) d_Presser_mixAt_35 ?_
  refine pb_topi (fun i10 ei10 => ?_)
  refine pb_sipush (pc := 36) (v := 1023) d_Presser_mixAt_36 (by decide) ?_
  refine pb_iand (pc := 39) d_Presser_mixAt_39 ?_
  refine pb_topi (fun i11 ei11 => ?_)
  have ti11 : 0 ≤ i11.toInt ∧ i11.toInt ≤ 1023 := ti_and 10 ei11 (by decide) (by decide)
  exact pb_iret (pc := 40) hQ d_Presser_mixAt_40 rfl rfl (i11) ⟨rfl, (by (try dsimp only); first | done | assumption | omega (splitDisjunctions := false) | omega | decide), (by (try dsimp only); first | done | assumption | omega (splitDisjunctions := false) | omega | decide)⟩ [0, 1] (by decide) rfl rfl (by decide) (by decide)

theorem d_Presser_remember_0 : decode prog_8_method_5_code 0 = .ok (.aload_n 0, 1) := by decide +kernel
theorem d_Presser_remember_1 : decode prog_8_method_5_code 1 = .ok (.getfield 35, 3) := by decide +kernel
theorem k_188 : (Jvm.Cond.fieldLink "PackageBook$Presser" (35 : Nat) "PackageBook$Presser" "size" "I") ∈ uW := uW_of 188 (by decide +kernel) (by decide +kernel)
theorem d_Presser_remember_4 : decode prog_8_method_5_code 4 = .ok (.iload_n 1, 1) := by decide +kernel
theorem d_Presser_remember_5 : decode prog_8_method_5_code 5 = .ok (.isub, 1) := by decide +kernel
theorem d_Presser_remember_6 : decode prog_8_method_5_code 6 = .ok (.iconst 3, 1) := by decide +kernel
theorem d_Presser_remember_7 : decode prog_8_method_5_code 7 = .ok (.if_icmp .lt 28, 3) := by decide +kernel
theorem d_Presser_remember_35 : decode prog_8_method_5_code 35 = .ok (.return_, 1) := by decide +kernel
theorem d_Presser_remember_10 : decode prog_8_method_5_code 10 = .ok (.aload_n 0, 1) := by decide +kernel
theorem d_Presser_remember_11 : decode prog_8_method_5_code 11 = .ok (.iload_n 1, 1) := by decide +kernel
theorem d_Presser_remember_12 : decode prog_8_method_5_code 12 = .ok (.invokevirtual 76, 3) := by decide +kernel
theorem k_516 : (Jvm.Cond.methodLink "PackageBook$Presser" (76 : Nat) ({ cls := "PackageBook$Presser", name := "mixAt", desc := "(I)I" } : Jvm.MethodName)) ∈ uW := uW_of 516 (by decide +kernel) (by decide +kernel)
theorem k_519 : (Jvm.Cond.code ({ cls := "PackageBook$Presser", name := "mixAt", desc := "(I)I" } : Jvm.MethodName) prog_8_method_6_code (3 : Nat) (Option.some Jvm.ClassFile.FieldType.int)) ∈ uW := uW_of 519 (by decide +kernel) (by decide +kernel)
theorem k_518 : (Jvm.Cond.instanceMethod ({ cls := "PackageBook$Presser", name := "mixAt", desc := "(I)I" } : Jvm.MethodName)) ∈ uW := uW_of 518 (by decide +kernel) (by decide +kernel)
theorem k_4 : Cond.selects "PackageBook$Presser" ⟨"PackageBook$Presser", "mixAt", "(I)I"⟩ ⟨"PackageBook$Presser", "mixAt", "(I)I"⟩ ∈ uW := uW_of 4 (by decide +kernel) (by decide +kernel)
theorem hy_Presser_mixAt : (y_Presser_mixAt).cls ≠ "java/lang/invoke/MethodHandle" ∧ (y_Presser_mixAt).cls ≠ "java/lang/invoke/VarHandle" ∧ (parseMethodDescriptor (y_Presser_mixAt).desc).map (fun d => d.parameters.length) = some 1 := by decide +kernel
theorem d_Presser_remember_15 : decode prog_8_method_5_code 15 = .ok (.istore_n 2, 1) := by decide +kernel
theorem d_Presser_remember_16 : decode prog_8_method_5_code 16 = .ok (.aload_n 0, 1) := by decide +kernel
theorem d_Presser_remember_17 : decode prog_8_method_5_code 17 = .ok (.getfield 24, 3) := by decide +kernel
theorem d_Presser_remember_20 : decode prog_8_method_5_code 20 = .ok (.iload_n 1, 1) := by decide +kernel
theorem d_Presser_remember_21 : decode prog_8_method_5_code 21 = .ok (.aload_n 0, 1) := by decide +kernel
theorem d_Presser_remember_22 : decode prog_8_method_5_code 22 = .ok (.getfield 20, 3) := by decide +kernel
theorem d_Presser_remember_25 : decode prog_8_method_5_code 25 = .ok (.iload_n 2, 1) := by decide +kernel
theorem d_Presser_remember_26 : decode prog_8_method_5_code 26 = .ok (.iaload, 1) := by decide +kernel
theorem d_Presser_remember_27 : decode prog_8_method_5_code 27 = .ok (.iastore, 1) := by decide +kernel
theorem d_Presser_remember_28 : decode prog_8_method_5_code 28 = .ok (.aload_n 0, 1) := by decide +kernel
theorem d_Presser_remember_29 : decode prog_8_method_5_code 29 = .ok (.getfield 20, 3) := by decide +kernel
theorem d_Presser_remember_32 : decode prog_8_method_5_code 32 = .ok (.iload_n 2, 1) := by decide +kernel
theorem d_Presser_remember_33 : decode prog_8_method_5_code 33 = .ok (.iload_n 1, 1) := by decide +kernel
theorem d_Presser_remember_34 : decode prog_8_method_5_code 34 = .ok (.iastore, 1) := by decide +kernel
abbrev y_Presser_remember : MethodName := ⟨"PackageBook$Presser", "remember", "(I)V"⟩
abbrev i_Presser_remember : pb_I := (y_Presser_remember, prog_8_method_5_code, 3, (Option.none : Option Jvm.ClassFile.FieldType), [], { frames := 1, cells := 0, slots := 0, locals := 22 })
set_option maxRecDepth 100000 in
set_option maxHeartbeats 4000000 in
theorem g_Pr_remember {l : Launch} (hl : l.stackTraces = false) (G : pb_G) (h : Nat) (pp : Nat) (pl : Nat) (pe : Nat) (pr : Nat) (pb : Nat) (bg : Int32) (sz : Int32) (bt : Int32) (ln : Int32) (ds : Int32) (N : Nat) (fr : Nat → Int32) (fl : Nat → Int32) (fe : Nat → Int32) (x : Int32) (r0 : 0 ≤ bg.toInt) (r1 : bg.toInt + sz.toInt ≤ N) (r2 : N ≤ 100000) (r3 : sz.toInt ≤ 4000) (r4 : 0 ≤ sz.toInt) (x0 : 0 ≤ x.toInt) (x1 : x.toInt < sz.toInt) (I : pr_I x.toInt sz.toInt fl fe) (F_fr : sb_Fit fr) : Cn l G i_Presser_remember [.ref h, .int x] [(h, .inr (4, [.ref pp, .ref pl, .ref pe, .ref pr, .int bg, .int sz, .int bt, .int ln, .int ds])), (pr, .inl (G.2.1, N, .inl fr)), (pl, .inl (G.2.2.1, 1024, .inl fl)), (pe, .inl (G.2.2.1, 4000, .inl fe))] (S := (Nat → Int32) × (Nat → Int32)) (fun rv_ u => rv_ = none ∧ (pr_I (x.toInt + 1) sz.toInt u.1 u.2)) (fun u => [(h, .inr (4, [.ref pp, .ref pl, .ref pe, .ref pr, .int bg, .int sz, .int bt, .int ln, .int ds])), (pr, .inl (G.2.1, N, .inl fr)), (pl, .inl (G.2.2.1, 1024, .inl u.1)), (pe, .inl (G.2.2.1, 4000, .inl u.2))]) := by
  refine Cn.of hl (by decide +kernel) rfl (Nat.le_of_ble_eq_true rfl) (fun M hQ => ?_)
  refine pb_eq (pc' := 0) (lo' := [(0, .ref h), (1, .int x)]) (rest' := []) (ws' := [(h, .inr (4, [.ref pp, .ref pl, .ref pe, .ref pr, .int bg, .int sz, .int bt, .int ln, .int ds])), (pr, .inl (G.2.1, N, .inl fr)), (pl, .inl (G.2.2.1, 1024, .inl fl)), (pe, .inl (G.2.2.1, 4000, .inl fe))]) ?_
  have zl0 : (0 : Int32).toInt = 0 := by decide
  have zl1 : (1 : Int32).toInt = 1 := by decide
  have zl3 : (3 : Int32).toInt = 3 := by decide
  refine pb_aload_n (pc := 0) d_Presser_remember_0 0 rfl rfl ?_
  refine pb_get (pc := 1) d_Presser_remember_1 0 5 rfl rfl (by decide) in_Presser k_188 rfl ?_
  refine pb_iload_n (pc := 4) d_Presser_remember_4 1 rfl rfl ?_
  refine pb_isub (pc := 5) d_Presser_remember_5 ?_
  refine pb_topi (fun i1 ei1 => ?_)
  try have ti1 : i1.toInt = sz.toInt - x.toInt := ti_sub ei1 rfl rfl (by omega) (by omega)
  refine pb_iconst (pc := 6) (v := 3) d_Presser_remember_6 (by decide) ?_
  refine pb_icmp_lt (pc := 7) (tgt := 35) d_Presser_remember_7 (by decide) (fun w2 => ?_) (fun w2 => ?_)
  · have tw2 : i1.toInt < 3 := (ti_lt rfl (by decide)).mp w2
    exact pb_vret (pc := 35) hQ d_Presser_remember_35 rfl (fl, fe) ⟨rfl, (by first | exact pr_skip I (by omega) rfl | exact pr_step I (by omega) rfl rfl (by omega) (by omega) (by omega) rfl rfl)⟩ [0, 1, 2, 3] (by decide) rfl rfl (by decide) (by decide)
  · have tw2 : ¬ i1.toInt < 3 := fun z9 => w2 ((ti_lt rfl (by decide)).mpr z9)
    refine pb_aload_n (pc := 10) d_Presser_remember_10 0 rfl rfl ?_
    refine pb_iload_n (pc := 11) d_Presser_remember_11 1 rfl rfl ?_
    refine pb_callV (pc := 12) (I := i_Presser_remember) (qb := 0) (ci := 4) (nA := 1) (rest := []) (wr := [(pl, .inl (G.2.2.1, 1024, .inl fl)), (pe, .inl (G.2.2.1, 4000, .inl fe))]) d_Presser_remember_12 (g_Pr_mixAt hl G h pp pl pe pr pb bg sz bt ln ds N fr x (by first | assumption | omega (splitDisjunctions := false) | omega | decide) (by first | assumption | omega (splitDisjunctions := false) | omega | decide) (by first | assumption | omega (splitDisjunctions := false) | omega | decide) (by first | assumption | omega (splitDisjunctions := false) | omega | decide) (by first | assumption | omega (splitDisjunctions := false) | omega | decide) (by first | assumption | omega (splitDisjunctions := false) | omega | decide) (by first | assumption | omega (splitDisjunctions := false) | omega | decide) F_fr) rfl rfl [0, 1] [2, 3] (by decide) rfl rfl rfl (by decide) (by decide) k_519 rfl k_120 k_516 k_518 k_4 ⟨rfl, hy_Presser_mixAt⟩ (by decide) rfl rfl (Nat.le_of_ble_eq_true rfl) (by decide) (fun v9 u4 ch3 => ?_)
    obtain ⟨r_5, rfl⟩ : ∃ z9, z9 = u4 := ⟨_, rfl⟩
    obtain ⟨ech3, ch3⟩ := ch3
    have ech3 : v9 = some (.int r_5) := ech3
    subst ech3
    obtain ⟨fh6, fh7⟩ : (0 ≤ r_5.toInt) ∧ (r_5.toInt ≤ 1023) := ch3
    refine pb_eq (pc' := 15) (lo' := [(0, .ref h), (1, .int x)]) (rest' := [.int r_5]) (ws' := [(pl, .inl (G.2.2.1, 1024, .inl fl)), (pe, .inl (G.2.2.1, 4000, .inl fe)), (h, .inr (4, [.ref pp, .ref pl, .ref pe, .ref pr, .int bg, .int sz, .int bt, .int ln, .int ds])), (pr, .inl (G.2.1, N, .inl fr))]) ?_
    refine pb_istore_n (pc := 15) (lo' := [(2, .int r_5), (0, .ref h), (1, .int x)]) d_Presser_remember_15 rfl (by decide) rfl ?_
    refine pb_aload_n (pc := 16) d_Presser_remember_16 1 rfl rfl ?_
    refine pb_get (pc := 17) d_Presser_remember_17 2 2 rfl rfl (by decide) in_Presser k_185 rfl ?_
    refine pb_iload_n (pc := 20) d_Presser_remember_20 2 rfl rfl ?_
    refine pb_aload_n (pc := 21) d_Presser_remember_21 1 rfl rfl ?_
    refine pb_get (pc := 22) d_Presser_remember_22 2 1 rfl rfl (by decide) in_Presser k_184 rfl ?_
    refine pb_iload_n (pc := 25) d_Presser_remember_25 0 rfl rfl ?_
    refine pb_iald (pc := 26) d_Presser_remember_26 0 rfl (vp_in_iff.mpr (by constructor <;> omega)) ?_
    refine pb_topi (fun i8 ei8 => ?_)
    have ti8 : i8.toInt = gx fl (r_5.toInt) := gx_ld ei8 rfl
    refine pb_iast (pc := 27) (ws' := [(pl, .inl (G.2.2.1, 1024, .inl fl)), (pe, .inl (G.2.2.1, 4000, .inl (upd fe ((x : Int32).toNatClampNeg) i8))), (h, .inr (4, [.ref pp, .ref pl, .ref pe, .ref pr, .int bg, .int sz, .int bt, .int ln, .int ds])), (pr, .inl (G.2.1, N, .inl fr))]) d_Presser_remember_27 1 rfl (vp_in_iff.mpr (by constructor <;> omega)) rfl ?_
    refine pb_aload_n (pc := 28) d_Presser_remember_28 1 rfl rfl ?_
    refine pb_get (pc := 29) d_Presser_remember_29 2 1 rfl rfl (by decide) in_Presser k_184 rfl ?_
    refine pb_iload_n (pc := 32) d_Presser_remember_32 0 rfl rfl ?_
    refine pb_iload_n (pc := 33) d_Presser_remember_33 2 rfl rfl ?_
    refine pb_iast (pc := 34) (ws' := [(pl, .inl (G.2.2.1, 1024, .inl (upd fl ((r_5 : Int32).toNatClampNeg) x))), (pe, .inl (G.2.2.1, 4000, .inl (upd fe ((x : Int32).toNatClampNeg) i8))), (h, .inr (4, [.ref pp, .ref pl, .ref pe, .ref pr, .int bg, .int sz, .int bt, .int ln, .int ds])), (pr, .inl (G.2.1, N, .inl fr))]) d_Presser_remember_34 0 rfl (vp_in_iff.mpr (by constructor <;> omega)) rfl ?_
    exact pb_vret (pc := 35) hQ d_Presser_remember_35 rfl ((upd fl ((r_5 : Int32).toNatClampNeg) x), (upd fe ((x : Int32).toNatClampNeg) i8)) ⟨rfl, (by first | exact pr_skip I (by omega) rfl | exact pr_step I (by omega) rfl rfl (by omega) (by omega) (by omega) rfl rfl)⟩ [2, 3, 0, 1] (by decide) rfl rfl (by decide) (by decide)

theorem d_Presser_sameFrom_0 : decode prog_8_method_4_code 0 = .ok (.iconst 0, 1) := by decide +kernel
theorem d_Presser_sameFrom_1 : decode prog_8_method_4_code 1 = .ok (.istore 4, 2) := by decide +kernel
theorem d_Presser_sameFrom_3 : decode prog_8_method_4_code 3 = .ok (.iload 4, 2) := by decide +kernel
theorem d_Presser_sameFrom_5 : decode prog_8_method_4_code 5 = .ok (.iload_n 3, 1) := by decide +kernel
theorem d_Presser_sameFrom_6 : decode prog_8_method_4_code 6 = .ok (.if_icmp .ge 40, 3) := by decide +kernel
theorem d_Presser_sameFrom_46 : decode prog_8_method_4_code 46 = .ok (.iload 4, 2) := by decide +kernel
theorem d_Presser_sameFrom_48 : decode prog_8_method_4_code 48 = .ok (.ireturn, 1) := by decide +kernel
theorem d_Presser_sameFrom_9 : decode prog_8_method_4_code 9 = .ok (.aload_n 0, 1) := by decide +kernel
theorem d_Presser_sameFrom_10 : decode prog_8_method_4_code 10 = .ok (.getfield 27, 3) := by decide +kernel
theorem d_Presser_sameFrom_13 : decode prog_8_method_4_code 13 = .ok (.aload_n 0, 1) := by decide +kernel
theorem d_Presser_sameFrom_14 : decode prog_8_method_4_code 14 = .ok (.getfield 31, 3) := by decide +kernel
theorem d_Presser_sameFrom_17 : decode prog_8_method_4_code 17 = .ok (.iload_n 1, 1) := by decide +kernel
theorem d_Presser_sameFrom_18 : decode prog_8_method_4_code 18 = .ok (.iadd, 1) := by decide +kernel
theorem d_Presser_sameFrom_19 : decode prog_8_method_4_code 19 = .ok (.iload 4, 2) := by decide +kernel
theorem d_Presser_sameFrom_21 : decode prog_8_method_4_code 21 = .ok (.iadd, 1) := by decide +kernel
theorem d_Presser_sameFrom_22 : decode prog_8_method_4_code 22 = .ok (.baload, 1) := by decide +kernel
theorem d_Presser_sameFrom_23 : decode prog_8_method_4_code 23 = .ok (.aload_n 0, 1) := by decide +kernel
theorem d_Presser_sameFrom_24 : decode prog_8_method_4_code 24 = .ok (.getfield 27, 3) := by decide +kernel
theorem d_Presser_sameFrom_27 : decode prog_8_method_4_code 27 = .ok (.aload_n 0, 1) := by decide +kernel
theorem d_Presser_sameFrom_28 : decode prog_8_method_4_code 28 = .ok (.getfield 31, 3) := by decide +kernel
theorem d_Presser_sameFrom_31 : decode prog_8_method_4_code 31 = .ok (.iload_n 2, 1) := by decide +kernel
theorem d_Presser_sameFrom_32 : decode prog_8_method_4_code 32 = .ok (.iadd, 1) := by decide +kernel
theorem d_Presser_sameFrom_33 : decode prog_8_method_4_code 33 = .ok (.iload 4, 2) := by decide +kernel
theorem d_Presser_sameFrom_35 : decode prog_8_method_4_code 35 = .ok (.iadd, 1) := by decide +kernel
theorem d_Presser_sameFrom_36 : decode prog_8_method_4_code 36 = .ok (.baload, 1) := by decide +kernel
theorem d_Presser_sameFrom_37 : decode prog_8_method_4_code 37 = .ok (.if_icmp .ne 9, 3) := by decide +kernel
theorem d_Presser_sameFrom_40 : decode prog_8_method_4_code 40 = .ok (.iinc 4 1, 3) := by decide +kernel
theorem d_Presser_sameFrom_43 : decode prog_8_method_4_code 43 = .ok (.goto (-40), 3) := by decide +kernel
abbrev y_Presser_sameFrom : MethodName := ⟨"PackageBook$Presser", "sameFrom", "(III)I"⟩
abbrev i_Presser_sameFrom : pb_I := (y_Presser_sameFrom, prog_8_method_4_code, 5, (some Jvm.ClassFile.FieldType.int), [], { frames := 0, cells := 0, slots := 0, locals := 0 })
set_option maxRecDepth 100000 in
set_option maxHeartbeats 4000000 in
theorem g_Pr_sameFrom {l : Launch} (hl : l.stackTraces = false) (G : pb_G) (h : Nat) (pp : Nat) (pl : Nat) (pe : Nat) (pr : Nat) (pb : Nat) (bg : Int32) (sz : Int32) (bt : Int32) (ln : Int32) (ds : Int32) (N : Nat) (fr : Nat → Int32) (x : Int32) (y : Int32) (n : Int32) (r0 : 0 ≤ bg.toInt) (r2 : N ≤ 100000) (x0 : 0 ≤ x.toInt) (x1 : x.toInt ≤ y.toInt) (x2 : bg.toInt + y.toInt + n.toInt ≤ N) (x3 : y.toInt ≤ 100000) (x4 : bg.toInt ≤ 100000) (F_fr : sb_Fit fr) : Cn l G i_Presser_sameFrom [.ref h, .int x, .int y, .int n] [(h, .inr (4, [.ref pp, .ref pl, .ref pe, .ref pr, .int bg, .int sz, .int bt, .int ln, .int ds])), (pr, .inl (G.2.1, N, .inl fr))] (S := Int32) (fun rv_ u => rv_ = some (.int u) ∧ (0 ≤ u.toInt)) (fun u => [(h, .inr (4, [.ref pp, .ref pl, .ref pe, .ref pr, .int bg, .int sz, .int bt, .int ln, .int ds])), (pr, .inl (G.2.1, N, .inl fr))]) := by
  refine Cn.of hl (by decide +kernel) rfl (Nat.le_of_ble_eq_true rfl) (fun M hQ => ?_)
  refine pb_eq (pc' := 0) (lo' := [(0, .ref h), (1, .int x), (2, .int y), (3, .int n)]) (rest' := []) (ws' := [(h, .inr (4, [.ref pp, .ref pl, .ref pe, .ref pr, .int bg, .int sz, .int bt, .int ln, .int ds])), (pr, .inl (G.2.1, N, .inl fr))]) ?_
  have zl0 : (0 : Int32).toInt = 0 := by decide
  have zl1 : (1 : Int32).toInt = 1 := by decide
  refine pb_iconst (pc := 0) (v := 0) d_Presser_sameFrom_0 (by decide) ?_
  refine pb_istore (pc := 1) (lo' := [(4, .int 0), (0, .ref h), (1, .int x), (2, .int y), (3, .int n)]) d_Presser_sameFrom_1 (by decide) rfl ?_
  have hL3_1 : ∀ (N9 : Nat) (k : Int32), (0 ≤ k.toInt) → ((n.toInt - k.toInt).toNat) < N9 → pb_P l G M i_Presser_sameFrom 3 [(4, .int k), (0, .ref h), (1, .int x), (2, .int y), (3, .int n)] [] [(h, .inr (4, [.ref pp, .ref pl, .ref pe, .ref pr, .int bg, .int sz, .int bt, .int ln, .int ds])), (pr, .inl (G.2.1, N, .inl fr))] 0 0 := by
    intro N9
    induction N9 with
    | zero => intro k hk hm9; exact absurd hm9 (Nat.not_lt_zero _)
    | succ N9 ih3 =>
      intro k hk hm9
      refine pb_iload (pc := 3) d_Presser_sameFrom_3 0 rfl ?_
      refine pb_iload_n (pc := 5) d_Presser_sameFrom_5 4 rfl rfl ?_
      refine pb_icmp_ge (pc := 6) (tgt := 46) d_Presser_sameFrom_6 (by decide) (fun w2 => ?_) (fun w2 => ?_)
      · have tw2 : n.toInt ≤ k.toInt := (ti_le rfl rfl).mp w2
        refine pb_iload (pc := 46) d_Presser_sameFrom_46 0 rfl ?_
        exact pb_iret (pc := 48) hQ d_Presser_sameFrom_48 rfl rfl (k) ⟨rfl, (by (try dsimp only); first | done | assumption | omega (splitDisjunctions := false) | omega | decide)⟩ [0, 1] (by decide) rfl rfl (by decide) (by decide)
      · have tw2 : ¬ n.toInt ≤ k.toInt := fun z9 => w2 ((ti_le rfl rfl).mpr z9)
        refine pb_aload_n (pc := 9) d_Presser_sameFrom_9 1 rfl rfl ?_
        refine pb_get (pc := 10) d_Presser_sameFrom_10 0 3 rfl rfl (by decide) in_Presser k_186 rfl ?_
        refine pb_aload_n (pc := 13) d_Presser_sameFrom_13 1 rfl rfl ?_
        refine pb_get (pc := 14) d_Presser_sameFrom_14 0 4 rfl rfl (by decide) in_Presser k_187 rfl ?_
        refine pb_iload_n (pc := 17) d_Presser_sameFrom_17 2 rfl rfl ?_
        refine pb_iadd (pc := 18) d_Presser_sameFrom_18 ?_
        refine pb_topi (fun i3 ei3 => ?_)
        try have ti3 : i3.toInt = bg.toInt + x.toInt := ti_add ei3 rfl rfl (by omega) (by omega)
        refine pb_iload (pc := 19) d_Presser_sameFrom_19 0 rfl ?_
        refine pb_iadd (pc := 21) d_Presser_sameFrom_21 ?_
        refine pb_topi (fun i4 ei4 => ?_)
        try have ti4 : i4.toInt = i3.toInt + k.toInt := ti_add ei4 rfl rfl (by omega) (by omega)
        refine pb_bald (pc := 22) d_Presser_sameFrom_22 1 rfl (vp_in_iff.mpr (by constructor <;> omega)) ?_
        refine pb_topi (fun i5 ei5 => ?_)
        have ti5 : -128 ≤ i5.toInt ∧ i5.toInt ≤ 127 := ti_fit (F_fr _) ei5
        refine pb_aload_n (pc := 23) d_Presser_sameFrom_23 1 rfl rfl ?_
        refine pb_get (pc := 24) d_Presser_sameFrom_24 0 3 rfl rfl (by decide) in_Presser k_186 rfl ?_
        refine pb_aload_n (pc := 27) d_Presser_sameFrom_27 1 rfl rfl ?_
        refine pb_get (pc := 28) d_Presser_sameFrom_28 0 4 rfl rfl (by decide) in_Presser k_187 rfl ?_
        refine pb_iload_n (pc := 31) d_Presser_sameFrom_31 3 rfl rfl ?_
        refine pb_iadd (pc := 32) d_Presser_sameFrom_32 ?_
        refine pb_topi (fun i6 ei6 => ?_)
        try have ti6 : i6.toInt = bg.toInt + y.toInt := ti_add ei6 rfl rfl (by omega) (by omega)
        refine pb_iload (pc := 33) d_Presser_sameFrom_33 0 rfl ?_
        refine pb_iadd (pc := 35) d_Presser_sameFrom_35 ?_
        refine pb_topi (fun i7 ei7 => ?_)
        try have ti7 : i7.toInt = i6.toInt + k.toInt := ti_add ei7 rfl rfl (by omega) (by omega)
        refine pb_bald (pc := 36) d_Presser_sameFrom_36 1 rfl (vp_in_iff.mpr (by constructor <;> omega)) ?_
        refine pb_topi (fun i8 ei8 => ?_)
        have ti8 : -128 ≤ i8.toInt ∧ i8.toInt ≤ 127 := ti_fit (F_fr _) ei8
        refine pb_icmp_ne (pc := 37) (tgt := 46) d_Presser_sameFrom_37 (by decide) (fun w9 => ?_) (fun w9 => ?_)
        · have tw9 : ¬ i5.toInt = i8.toInt := fun z9 => w9 ((ti_eq rfl rfl).mpr z9)
          refine pb_iload (pc := 46) d_Presser_sameFrom_46 0 rfl ?_
          exact pb_iret (pc := 48) hQ d_Presser_sameFrom_48 rfl rfl (k) ⟨rfl, (by (try dsimp only); first | done | assumption | omega (splitDisjunctions := false) | omega | decide)⟩ [0, 1] (by decide) rfl rfl (by decide) (by decide)
        · have tw9 : i5.toInt = i8.toInt := (ti_eq rfl rfl).mp w9
          refine pb_iincN (pc := 40) (c := 1) d_Presser_sameFrom_40 0 rfl (by decide) (by decide) (fun i10 ei10 => ?_)
          have ti10 : i10.toInt = k.toInt + 1 := ti_add ei10 rfl (by decide) (by omega) (by omega)
          refine pb_eq (pc' := 43) (lo' := [(4, .int i10), (0, .ref h), (1, .int x), (2, .int y), (3, .int n)]) (rest' := []) (ws' := [(h, .inr (4, [.ref pp, .ref pl, .ref pe, .ref pr, .int bg, .int sz, .int bt, .int ln, .int ds])), (pr, .inl (G.2.1, N, .inl fr))]) ?_
          refine pb_goto (pc := 43) (tgt := 3) d_Presser_sameFrom_43 (by decide) ?_
          exact ih3 i10 (by first | assumption | omega (splitDisjunctions := false) | omega | decide) (by omega)
  exact hL3_1 _ 0 (by first | assumption | omega (splitDisjunctions := false) | omega | decide) (Nat.lt_succ_self _)

theorem d_Presser_findLongest_0 : decode prog_8_method_3_code 0 = .ok (.sipush 258, 3) := by decide +kernel
theorem d_Presser_findLongest_3 : decode prog_8_method_3_code 3 = .ok (.aload_n 0, 1) := by decide +kernel
theorem d_Presser_findLongest_4 : decode prog_8_method_3_code 4 = .ok (.getfield 35, 3) := by decide +kernel
theorem d_Presser_findLongest_7 : decode prog_8_method_3_code 7 = .ok (.iload_n 1, 1) := by decide +kernel
theorem d_Presser_findLongest_8 : decode prog_8_method_3_code 8 = .ok (.isub, 1) := by decide +kernel
theorem d_Presser_findLongest_9 : decode prog_8_method_3_code 9 = .ok (.invokestatic 70, 3) := by decide +kernel
theorem k_513 : (Jvm.Cond.methodLink "PackageBook$Presser" (70 : Nat) ({ cls := "java/lang/Math", name := "min", desc := "(II)I" } : Jvm.MethodName)) ∈ uW := uW_of 513 (by decide +kernel) (by decide +kernel)
theorem k_514 : (Jvm.Cond.static ({ cls := "java/lang/Math", name := "min", desc := "(II)I" } : Jvm.MethodName)) ∈ uW := uW_of 514 (by decide +kernel) (by decide +kernel)
theorem k_137 : (Jvm.Cond.initialized "java/lang/Math") ∈ uW := uW_of 137 (by decide +kernel) (by decide +kernel)
theorem k_515 : (Jvm.Cond.code ({ cls := "java/lang/Math", name := "min", desc := "(II)I" } : Jvm.MethodName) prog_16_method_69_code (2 : Nat) (Option.some Jvm.ClassFile.FieldType.int)) ∈ uW := uW_of 515 (by decide +kernel) (by decide +kernel)
theorem d_Presser_findLongest_12 : decode prog_8_method_3_code 12 = .ok (.istore_n 2, 1) := by decide +kernel
theorem d_Presser_findLongest_13 : decode prog_8_method_3_code 13 = .ok (.aload_n 0, 1) := by decide +kernel
theorem d_Presser_findLongest_14 : decode prog_8_method_3_code 14 = .ok (.iconst 1, 1) := by decide +kernel
theorem d_Presser_findLongest_15 : decode prog_8_method_3_code 15 = .ok (.putfield 55, 3) := by decide +kernel
theorem d_Presser_findLongest_18 : decode prog_8_method_3_code 18 = .ok (.iload_n 2, 1) := by decide +kernel
theorem d_Presser_findLongest_19 : decode prog_8_method_3_code 19 = .ok (.iconst 3, 1) := by decide +kernel
theorem d_Presser_findLongest_20 : decode prog_8_method_3_code 20 = .ok (.if_icmp .ge 4, 3) := by decide +kernel
theorem d_Presser_findLongest_24 : decode prog_8_method_3_code 24 = .ok (.aload_n 0, 1) := by decide +kernel
theorem d_Presser_findLongest_25 : decode prog_8_method_3_code 25 = .ok (.getfield 20, 3) := by decide +kernel
theorem d_Presser_findLongest_28 : decode prog_8_method_3_code 28 = .ok (.aload_n 0, 1) := by decide +kernel
theorem d_Presser_findLongest_29 : decode prog_8_method_3_code 29 = .ok (.iload_n 1, 1) := by decide +kernel
theorem d_Presser_findLongest_30 : decode prog_8_method_3_code 30 = .ok (.invokevirtual 76, 3) := by decide +kernel
theorem d_Presser_findLongest_33 : decode prog_8_method_3_code 33 = .ok (.iaload, 1) := by decide +kernel
theorem d_Presser_findLongest_34 : decode prog_8_method_3_code 34 = .ok (.istore_n 3, 1) := by decide +kernel
theorem d_Presser_findLongest_35 : decode prog_8_method_3_code 35 = .ok (.iconst 0, 1) := by decide +kernel
theorem d_Presser_findLongest_36 : decode prog_8_method_3_code 36 = .ok (.istore 4, 2) := by decide +kernel
theorem d_Presser_findLongest_38 : decode prog_8_method_3_code 38 = .ok (.iload 4, 2) := by decide +kernel
theorem d_Presser_findLongest_40 : decode prog_8_method_3_code 40 = .ok (.iload_n 1, 1) := by decide +kernel
theorem d_Presser_findLongest_41 : decode prog_8_method_3_code 41 = .ok (.if_icmp .ge 65, 3) := by decide +kernel
theorem d_Presser_findLongest_106 : decode prog_8_method_3_code 106 = .ok (.return_, 1) := by decide +kernel
theorem d_Presser_findLongest_44 : decode prog_8_method_3_code 44 = .ok (.iload_n 3, 1) := by decide +kernel
theorem d_Presser_findLongest_45 : decode prog_8_method_3_code 45 = .ok (.ifCond .lt 61, 3) := by decide +kernel
theorem d_Presser_findLongest_48 : decode prog_8_method_3_code 48 = .ok (.aload_n 0, 1) := by decide +kernel
theorem d_Presser_findLongest_49 : decode prog_8_method_3_code 49 = .ok (.getfield 55, 3) := by decide +kernel
theorem d_Presser_findLongest_52 : decode prog_8_method_3_code 52 = .ok (.iload_n 2, 1) := by decide +kernel
theorem d_Presser_findLongest_53 : decode prog_8_method_3_code 53 = .ok (.if_icmp .ge 53, 3) := by decide +kernel
theorem d_Presser_findLongest_56 : decode prog_8_method_3_code 56 = .ok (.aload_n 0, 1) := by decide +kernel
theorem d_Presser_findLongest_57 : decode prog_8_method_3_code 57 = .ok (.iload_n 3, 1) := by decide +kernel
theorem d_Presser_findLongest_58 : decode prog_8_method_3_code 58 = .ok (.iload_n 1, 1) := by decide +kernel
theorem d_Presser_findLongest_59 : decode prog_8_method_3_code 59 = .ok (.iload_n 2, 1) := by decide +kernel
theorem d_Presser_findLongest_60 : decode prog_8_method_3_code 60 = .ok (.invokevirtual 80, 3) := by decide +kernel
theorem k_520 : (Jvm.Cond.methodLink "PackageBook$Presser" (80 : Nat) ({ cls := "PackageBook$Presser", name := "sameFrom", desc := "(III)I" } : Jvm.MethodName)) ∈ uW := uW_of 520 (by decide +kernel) (by decide +kernel)
theorem k_523 : (Jvm.Cond.code ({ cls := "PackageBook$Presser", name := "sameFrom", desc := "(III)I" } : Jvm.MethodName) prog_8_method_4_code (5 : Nat) (Option.some Jvm.ClassFile.FieldType.int)) ∈ uW := uW_of 523 (by decide +kernel) (by decide +kernel)
theorem k_522 : (Jvm.Cond.instanceMethod ({ cls := "PackageBook$Presser", name := "sameFrom", desc := "(III)I" } : Jvm.MethodName)) ∈ uW := uW_of 522 (by decide +kernel) (by decide +kernel)
theorem k_5 : Cond.selects "PackageBook$Presser" ⟨"PackageBook$Presser", "sameFrom", "(III)I"⟩ ⟨"PackageBook$Presser", "sameFrom", "(III)I"⟩ ∈ uW := uW_of 5 (by decide +kernel) (by decide +kernel)
theorem hy_Presser_sameFrom : (y_Presser_sameFrom).cls ≠ "java/lang/invoke/MethodHandle" ∧ (y_Presser_sameFrom).cls ≠ "java/lang/invoke/VarHandle" ∧ (parseMethodDescriptor (y_Presser_sameFrom).desc).map (fun d => d.parameters.length) = some 3 := by decide +kernel
theorem d_Presser_findLongest_63 : decode prog_8_method_3_code 63 = .ok (.istore 5, 2) := by decide +kernel
theorem d_Presser_findLongest_93 : decode prog_8_method_3_code 93 = .ok (.aload_n 0, 1) := by decide +kernel
theorem d_Presser_findLongest_94 : decode prog_8_method_3_code 94 = .ok (.getfield 24, 3) := by decide +kernel
theorem d_Presser_findLongest_97 : decode prog_8_method_3_code 97 = .ok (.iload_n 3, 1) := by decide +kernel
theorem d_Presser_findLongest_98 : decode prog_8_method_3_code 98 = .ok (.iaload, 1) := by decide +kernel
theorem d_Presser_findLongest_99 : decode prog_8_method_3_code 99 = .ok (.istore_n 3, 1) := by decide +kernel
theorem d_Presser_findLongest_100 : decode prog_8_method_3_code 100 = .ok (.iinc 4 1, 3) := by decide +kernel
theorem d_Presser_findLongest_103 : decode prog_8_method_3_code 103 = .ok (.goto (-65), 3) := by decide +kernel
theorem d_Presser_findLongest_65 : decode prog_8_method_3_code 65 = .ok (.iload 5, 2) := by decide +kernel
theorem d_Presser_findLongest_67 : decode prog_8_method_3_code 67 = .ok (.iconst 3, 1) := by decide +kernel
theorem d_Presser_findLongest_68 : decode prog_8_method_3_code 68 = .ok (.if_icmp .lt 25, 3) := by decide +kernel
theorem d_Presser_findLongest_71 : decode prog_8_method_3_code 71 = .ok (.iload 5, 2) := by decide +kernel
theorem d_Presser_findLongest_73 : decode prog_8_method_3_code 73 = .ok (.aload_n 0, 1) := by decide +kernel
theorem d_Presser_findLongest_74 : decode prog_8_method_3_code 74 = .ok (.getfield 55, 3) := by decide +kernel
theorem d_Presser_findLongest_77 : decode prog_8_method_3_code 77 = .ok (.if_icmp .le 16, 3) := by decide +kernel
theorem d_Presser_findLongest_80 : decode prog_8_method_3_code 80 = .ok (.aload_n 0, 1) := by decide +kernel
theorem d_Presser_findLongest_81 : decode prog_8_method_3_code 81 = .ok (.iload 5, 2) := by decide +kernel
theorem d_Presser_findLongest_83 : decode prog_8_method_3_code 83 = .ok (.putfield 55, 3) := by decide +kernel
theorem d_Presser_findLongest_86 : decode prog_8_method_3_code 86 = .ok (.aload_n 0, 1) := by decide +kernel
theorem d_Presser_findLongest_87 : decode prog_8_method_3_code 87 = .ok (.iload_n 1, 1) := by decide +kernel
theorem d_Presser_findLongest_88 : decode prog_8_method_3_code 88 = .ok (.iload_n 3, 1) := by decide +kernel
theorem d_Presser_findLongest_89 : decode prog_8_method_3_code 89 = .ok (.isub, 1) := by decide +kernel
theorem d_Presser_findLongest_90 : decode prog_8_method_3_code 90 = .ok (.putfield 84, 3) := by decide +kernel
theorem d_Presser_findLongest_23 : decode prog_8_method_3_code 23 = .ok (.return_, 1) := by decide +kernel
abbrev y_Presser_findLongest : MethodName := ⟨"PackageBook$Presser", "findLongest", "(I)V"⟩
abbrev i_Presser_findLongest : pb_I := (y_Presser_findLongest, prog_8_method_3_code, 6, (Option.none : Option Jvm.ClassFile.FieldType), [], { frames := 1, cells := 0, slots := 0, locals := 40 })
set_option maxRecDepth 100000 in
set_option maxHeartbeats 4000000 in
theorem g_Pr_findLongest {l : Launch} (hl : l.stackTraces = false) (G : pb_G) (h : Nat) (pp : Nat) (pl : Nat) (pe : Nat) (pr : Nat) (pb : Nat) (bg : Int32) (sz : Int32) (bt : Int32) (ln : Int32) (ds : Int32) (N : Nat) (fr : Nat → Int32) (fl : Nat → Int32) (fe : Nat → Int32) (x : Int32) (r0 : 0 ≤ bg.toInt) (r1 : bg.toInt + sz.toInt ≤ N) (r2 : N ≤ 100000) (r3 : sz.toInt ≤ 4000) (r4 : 0 ≤ sz.toInt) (x0 : 0 ≤ x.toInt) (x1 : x.toInt < sz.toInt) (I : pr_I x.toInt sz.toInt fl fe) (F_fr : sb_Fit fr) : Cn l G i_Presser_findLongest [.ref h, .int x] [(h, .inr (4, [.ref pp, .ref pl, .ref pe, .ref pr, .int bg, .int sz, .int bt, .int ln, .int ds])), (pr, .inl (G.2.1, N, .inl fr)), (pl, .inl (G.2.2.1, 1024, .inl fl)), (pe, .inl (G.2.2.1, 4000, .inl fe))] (S := Int32 × Int32) (fun rv_ u => rv_ = none) (fun u => [(h, .inr (4, [.ref pp, .ref pl, .ref pe, .ref pr, .int bg, .int sz, .int bt, .int u.1, .int u.2])), (pr, .inl (G.2.1, N, .inl fr)), (pl, .inl (G.2.2.1, 1024, .inl fl)), (pe, .inl (G.2.2.1, 4000, .inl fe))]) := by
  refine Cn.of hl (by decide +kernel) rfl (Nat.le_of_ble_eq_true rfl) (fun M hQ => ?_)
  refine pb_eq (pc' := 0) (lo' := [(0, .ref h), (1, .int x)]) (rest' := []) (ws' := [(h, .inr (4, [.ref pp, .ref pl, .ref pe, .ref pr, .int bg, .int sz, .int bt, .int ln, .int ds])), (pr, .inl (G.2.1, N, .inl fr)), (pl, .inl (G.2.2.1, 1024, .inl fl)), (pe, .inl (G.2.2.1, 4000, .inl fe))]) ?_
  have zl0 : (0 : Int32).toInt = 0 := by decide
  have zl1 : (1 : Int32).toInt = 1 := by decide
  have zl3 : (3 : Int32).toInt = 3 := by decide
  have zl258 : (258 : Int32).toInt = 258 := by decide
  refine pb_sipush (pc := 0) (v := 258) d_Presser_findLongest_0 (by decide) ?_
  refine pb_aload_n (pc := 3) d_Presser_findLongest_3 0 rfl rfl ?_
  refine pb_get (pc := 4) d_Presser_findLongest_4 0 5 rfl rfl (by decide) in_Presser k_188 rfl ?_
  refine pb_iload_n (pc := 7) d_Presser_findLongest_7 1 rfl rfl ?_
  refine pb_isub (pc := 8) d_Presser_findLongest_8 ?_
  refine pb_topi (fun i1 ei1 => ?_)
  try have ti1 : i1.toInt = sz.toInt - x.toInt := ti_sub ei1 rfl rfl (by omega) (by omega)
  refine pb_mmin (pc := 9) d_Presser_findLongest_9 k_513 k_514 k_137 k_515 (by decide) (Nat.le_of_ble_eq_true rfl) (by decide) (by decide) (fun i2 m0i2 m1i2 m2i2 => ?_)
  refine pb_istore_n (pc := 12) (lo' := [(2, .int i2), (0, .ref h), (1, .int x)]) d_Presser_findLongest_12 rfl (by decide) rfl ?_
  refine pb_aload_n (pc := 13) d_Presser_findLongest_13 1 rfl rfl ?_
  refine pb_iconst (pc := 14) (v := 1) d_Presser_findLongest_14 (by decide) ?_
  refine pb_put (pc := 15) (ty := .int) (ws' := [(h, .inr (4, [.ref pp, .ref pl, .ref pe, .ref pr, .int bg, .int sz, .int bt, .int 1, .int ds])), (pr, .inl (G.2.1, N, .inl fr)), (pl, .inl (G.2.2.1, 1024, .inl fl)), (pe, .inl (G.2.2.1, 4000, .inl fe))]) d_Presser_findLongest_15 0 7 t_Presser t_Presser_ok n_Presser rfl rfl (by decide) in_Presser k_190 rfl (by decide +kernel) rfl rfl (Nat.le_of_ble_eq_true rfl) rfl ?_
  refine pb_iload_n (pc := 18) d_Presser_findLongest_18 0 rfl rfl ?_
  refine pb_iconst (pc := 19) (v := 3) d_Presser_findLongest_19 (by decide) ?_
  refine pb_icmp_ge (pc := 20) (tgt := 24) d_Presser_findLongest_20 (by decide) (fun w3 => ?_) (fun w3 => ?_)
  · have tw3 : 3 ≤ i2.toInt := (ti_le (by decide) rfl).mp w3
    refine pb_aload_n (pc := 24) d_Presser_findLongest_24 1 rfl rfl ?_
    refine pb_get (pc := 25) d_Presser_findLongest_25 0 1 rfl rfl (by decide) in_Presser k_184 rfl ?_
    refine pb_aload_n (pc := 28) d_Presser_findLongest_28 1 rfl rfl ?_
    refine pb_iload_n (pc := 29) d_Presser_findLongest_29 2 rfl rfl ?_
    refine pb_callV (pc := 30) (I := i_Presser_findLongest) (qb := 0) (ci := 4) (nA := 1) (rest := [.ref pl]) (wr := [(pl, .inl (G.2.2.1, 1024, .inl fl)), (pe, .inl (G.2.2.1, 4000, .inl fe))]) d_Presser_findLongest_30 (g_Pr_mixAt hl G h pp pl pe pr pb bg sz bt 1 ds N fr x (by first | assumption | omega (splitDisjunctions := false) | omega | decide) (by first | assumption | omega (splitDisjunctions := false) | omega | decide) (by first | assumption | omega (splitDisjunctions := false) | omega | decide) (by first | assumption | omega (splitDisjunctions := false) | omega | decide) (by first | assumption | omega (splitDisjunctions := false) | omega | decide) (by first | assumption | omega (splitDisjunctions := false) | omega | decide) (by first | assumption | omega (splitDisjunctions := false) | omega | decide) F_fr) rfl rfl [0, 1] [2, 3] (by decide) rfl rfl rfl (by decide) (by decide) k_519 rfl k_120 k_516 k_518 k_4 ⟨rfl, hy_Presser_mixAt⟩ (by decide) rfl rfl (Nat.le_of_ble_eq_true rfl) (by decide) (fun v9 u5 ch4 => ?_)
    obtain ⟨r_6, rfl⟩ : ∃ z9, z9 = u5 := ⟨_, rfl⟩
    obtain ⟨ech4, ch4⟩ := ch4
    have ech4 : v9 = some (.int r_6) := ech4
    subst ech4
    obtain ⟨fh7, fh8⟩ : (0 ≤ r_6.toInt) ∧ (r_6.toInt ≤ 1023) := ch4
    have y1 := I.1 r_6.toInt (by omega) (by omega)
    refine pb_eq (pc' := 33) (lo' := [(2, .int i2), (0, .ref h), (1, .int x)]) (rest' := [.int r_6, .ref pl]) (ws' := [(pl, .inl (G.2.2.1, 1024, .inl fl)), (pe, .inl (G.2.2.1, 4000, .inl fe)), (h, .inr (4, [.ref pp, .ref pl, .ref pe, .ref pr, .int bg, .int sz, .int bt, .int 1, .int ds])), (pr, .inl (G.2.1, N, .inl fr))]) ?_
    refine pb_iald (pc := 33) d_Presser_findLongest_33 0 rfl (vp_in_iff.mpr (by constructor <;> omega)) ?_
    refine pb_topi (fun i9 ei9 => ?_)
    have ti9 : i9.toInt = gx fl (r_6.toInt) := gx_ld ei9 rfl
    refine pb_istore_n (pc := 34) (lo' := [(3, .int i9), (2, .int i2), (0, .ref h), (1, .int x)]) d_Presser_findLongest_34 rfl (by decide) rfl ?_
    refine pb_iconst (pc := 35) (v := 0) d_Presser_findLongest_35 (by decide) ?_
    refine pb_istore (pc := 36) (lo' := [(4, .int 0), (3, .int i9), (2, .int i2), (0, .ref h), (1, .int x)]) d_Presser_findLongest_36 (by decide) rfl ?_
    have hL38_10 : ∀ (N9 : Nat) (sn : Int32) (o : Int32) (ms : Int32) (l3 : Int32) (d3 : Int32), (0 ≤ sn.toInt) → (-1 ≤ o.toInt) → (o.toInt < x.toInt) → (3 ≤ ms.toInt) → (ms.toInt ≤ sz.toInt - x.toInt) → ((x.toInt - sn.toInt).toNat) < N9 → pb_P l G M i_Presser_findLongest 38 [(4, .int sn), (3, .int o), (2, .int ms), (0, .ref h), (1, .int x)] [] [(h, .inr (4, [.ref pp, .ref pl, .ref pe, .ref pr, .int bg, .int sz, .int bt, .int l3, .int d3])), (pr, .inl (G.2.1, N, .inl fr)), (pl, .inl (G.2.2.1, 1024, .inl fl)), (pe, .inl (G.2.2.1, 4000, .inl fe))] 0 0 := by
      intro N9
      induction N9 with
      | zero => intro sn o ms l3 d3 hs ho ho2 hm hm2 hm9; exact absurd hm9 (Nat.not_lt_zero _)
      | succ N9 ih38 =>
        intro sn o ms l3 d3 hs ho ho2 hm hm2 hm9
        refine pb_iload (pc := 38) d_Presser_findLongest_38 0 rfl ?_
        refine pb_iload_n (pc := 40) d_Presser_findLongest_40 4 rfl rfl ?_
        refine pb_icmp_ge (pc := 41) (tgt := 106) d_Presser_findLongest_41 (by decide) (fun w11 => ?_) (fun w11 => ?_)
        · have tw11 : x.toInt ≤ sn.toInt := (ti_le rfl rfl).mp w11
          exact pb_vret (pc := 106) hQ d_Presser_findLongest_106 rfl (l3, d3) rfl [0, 1, 2, 3] (by decide) rfl rfl (by decide) (by decide)
        · have tw11 : ¬ x.toInt ≤ sn.toInt := fun z9 => w11 ((ti_le rfl rfl).mpr z9)
          refine pb_iload_n (pc := 44) d_Presser_findLongest_44 1 rfl rfl ?_
          refine pb_if_lt (pc := 45) (tgt := 106) d_Presser_findLongest_45 (by decide) (fun w12 => ?_) (fun w12 => ?_)
          · have tw12 : o.toInt < 0 := (ti_lt rfl (by decide)).mp w12
            exact pb_vret (pc := 106) hQ d_Presser_findLongest_106 rfl (l3, d3) rfl [0, 1, 2, 3] (by decide) rfl rfl (by decide) (by decide)
          · have tw12 : ¬ o.toInt < 0 := fun z9 => w12 ((ti_lt rfl (by decide)).mpr z9)
            refine pb_aload_n (pc := 48) d_Presser_findLongest_48 3 rfl rfl ?_
            refine pb_get (pc := 49) d_Presser_findLongest_49 0 7 rfl rfl (by decide) in_Presser k_190 rfl ?_
            refine pb_iload_n (pc := 52) d_Presser_findLongest_52 2 rfl rfl ?_
            refine pb_icmp_ge (pc := 53) (tgt := 106) d_Presser_findLongest_53 (by decide) (fun w13 => ?_) (fun w13 => ?_)
            · have tw13 : ms.toInt ≤ l3.toInt := (ti_le rfl rfl).mp w13
              exact pb_vret (pc := 106) hQ d_Presser_findLongest_106 rfl (l3, d3) rfl [0, 1, 2, 3] (by decide) rfl rfl (by decide) (by decide)
            · have tw13 : ¬ ms.toInt ≤ l3.toInt := fun z9 => w13 ((ti_le rfl rfl).mpr z9)
              refine pb_aload_n (pc := 56) d_Presser_findLongest_56 3 rfl rfl ?_
              refine pb_iload_n (pc := 57) d_Presser_findLongest_57 1 rfl rfl ?_
              refine pb_iload_n (pc := 58) d_Presser_findLongest_58 4 rfl rfl ?_
              refine pb_iload_n (pc := 59) d_Presser_findLongest_59 2 rfl rfl ?_
              refine pb_callV (pc := 60) (I := i_Presser_findLongest) (qb := 0) (ci := 4) (nA := 3) (rest := []) (wr := [(pl, .inl (G.2.2.1, 1024, .inl fl)), (pe, .inl (G.2.2.1, 4000, .inl fe))]) d_Presser_findLongest_60 (g_Pr_sameFrom hl G h pp pl pe pr pb bg sz bt l3 d3 N fr o x ms (by first | assumption | omega (splitDisjunctions := false) | omega | decide) (by first | assumption | omega (splitDisjunctions := false) | omega | decide) (by first | assumption | omega (splitDisjunctions := false) | omega | decide) (by first | assumption | omega (splitDisjunctions := false) | omega | decide) (by first | assumption | omega (splitDisjunctions := false) | omega | decide) (by first | assumption | omega (splitDisjunctions := false) | omega | decide) (by first | assumption | omega (splitDisjunctions := false) | omega | decide) F_fr) rfl rfl [0, 1] [2, 3] (by decide) rfl rfl rfl (by decide) (by decide) k_523 rfl k_120 k_520 k_522 k_5 ⟨rfl, hy_Presser_sameFrom⟩ (by decide) rfl rfl (Nat.le_of_ble_eq_true rfl) (by decide) (fun v9 u15 ch14 => ?_)
              obtain ⟨r_16, rfl⟩ : ∃ z9, z9 = u15 := ⟨_, rfl⟩
              obtain ⟨ech14, ch14⟩ := ch14
              have ech14 : v9 = some (.int r_16) := ech14
              subst ech14
              have fh17 : 0 ≤ r_16.toInt := ch14
              refine pb_eq (pc' := 63) (lo' := [(4, .int sn), (3, .int o), (2, .int ms), (0, .ref h), (1, .int x)]) (rest' := [.int r_16]) (ws' := [(pl, .inl (G.2.2.1, 1024, .inl fl)), (pe, .inl (G.2.2.1, 4000, .inl fe)), (h, .inr (4, [.ref pp, .ref pl, .ref pe, .ref pr, .int bg, .int sz, .int bt, .int l3, .int d3])), (pr, .inl (G.2.1, N, .inl fr))]) ?_
              refine pb_istore (pc := 63) (lo' := [(5, .int r_16), (4, .int sn), (3, .int o), (2, .int ms), (0, .ref h), (1, .int x)]) d_Presser_findLongest_63 (by decide) rfl ?_
              have hJ93_18 : ∀ (l4 : Int32) (d4 : Int32), pb_P l G M i_Presser_findLongest 93 [(4, .int sn), (3, .int o), (2, .int ms), (0, .ref h), (1, .int x)] [] [(h, .inr (4, [.ref pp, .ref pl, .ref pe, .ref pr, .int bg, .int sz, .int bt, .int l4, .int d4])), (pr, .inl (G.2.1, N, .inl fr)), (pl, .inl (G.2.2.1, 1024, .inl fl)), (pe, .inl (G.2.2.1, 4000, .inl fe))] 0 0 := by
                intro l4 d4
                refine pb_aload_n (pc := 93) d_Presser_findLongest_93 3 rfl rfl ?_
                refine pb_get (pc := 94) d_Presser_findLongest_94 0 2 rfl rfl (by decide) in_Presser k_185 rfl ?_
                refine pb_iload_n (pc := 97) d_Presser_findLongest_97 1 rfl rfl ?_
                have y2 := I.2 o.toInt (by omega) (by omega) (by omega)
                refine pb_iald (pc := 98) d_Presser_findLongest_98 3 rfl (vp_in_iff.mpr (by constructor <;> omega)) ?_
                refine pb_topi (fun i19 ei19 => ?_)
                have ti19 : i19.toInt = gx fe (o.toInt) := gx_ld ei19 rfl
                refine pb_istore_n (pc := 99) (lo' := [(3, .int i19), (4, .int sn), (2, .int ms), (0, .ref h), (1, .int x)]) d_Presser_findLongest_99 rfl (by decide) rfl ?_
                refine pb_iincN (pc := 100) (c := 1) d_Presser_findLongest_100 1 rfl (by decide) (by decide) (fun i20 ei20 => ?_)
                have ti20 : i20.toInt = sn.toInt + 1 := ti_add ei20 rfl (by decide) (by omega) (by omega)
                refine pb_eq (pc' := 103) (lo' := [(4, .int i20), (3, .int i19), (2, .int ms), (0, .ref h), (1, .int x)]) (rest' := []) (ws' := [(h, .inr (4, [.ref pp, .ref pl, .ref pe, .ref pr, .int bg, .int sz, .int bt, .int l4, .int d4])), (pr, .inl (G.2.1, N, .inl fr)), (pl, .inl (G.2.2.1, 1024, .inl fl)), (pe, .inl (G.2.2.1, 4000, .inl fe))]) ?_
                refine pb_goto (pc := 103) (tgt := 38) d_Presser_findLongest_103 (by decide) ?_
                exact ih38 i20 i19 ms l4 d4 (by first | assumption | omega (splitDisjunctions := false) | omega | decide) (by first | assumption | omega (splitDisjunctions := false) | omega | decide) (by first | assumption | omega (splitDisjunctions := false) | omega | decide) (by first | assumption | omega (splitDisjunctions := false) | omega | decide) (by first | assumption | omega (splitDisjunctions := false) | omega | decide) (by omega)
              refine pb_iload (pc := 65) d_Presser_findLongest_65 0 rfl ?_
              refine pb_iconst (pc := 67) (v := 3) d_Presser_findLongest_67 (by decide) ?_
              refine pb_icmp_lt (pc := 68) (tgt := 93) d_Presser_findLongest_68 (by decide) (fun w21 => ?_) (fun w21 => ?_)
              · have tw21 : r_16.toInt < 3 := (ti_lt rfl (by decide)).mp w21
                refine pb_re (ws' := [(h, .inr (4, [.ref pp, .ref pl, .ref pe, .ref pr, .int bg, .int sz, .int bt, .int l3, .int d3])), (pr, .inl (G.2.1, N, .inl fr)), (pl, .inl (G.2.2.1, 1024, .inl fl)), (pe, .inl (G.2.2.1, 4000, .inl fe))]) (lo' := [(4, .int sn), (3, .int o), (2, .int ms), (0, .ref h), (1, .int x)]) [2, 3, 0, 1] [1, 2, 3, 4, 5] (by decide) rfl rfl rfl ?_
                exact hJ93_18 l3 d3
              · have tw21 : ¬ r_16.toInt < 3 := fun z9 => w21 ((ti_lt rfl (by decide)).mpr z9)
                refine pb_iload (pc := 71) d_Presser_findLongest_71 0 rfl ?_
                refine pb_aload_n (pc := 73) d_Presser_findLongest_73 4 rfl rfl ?_
                refine pb_get (pc := 74) d_Presser_findLongest_74 2 7 rfl rfl (by decide) in_Presser k_190 rfl ?_
                refine pb_icmp_le (pc := 77) (tgt := 93) d_Presser_findLongest_77 (by decide) (fun w22 => ?_) (fun w22 => ?_)
                · have tw22 : r_16.toInt ≤ l3.toInt := (ti_le rfl rfl).mp w22
                  refine pb_re (ws' := [(h, .inr (4, [.ref pp, .ref pl, .ref pe, .ref pr, .int bg, .int sz, .int bt, .int l3, .int d3])), (pr, .inl (G.2.1, N, .inl fr)), (pl, .inl (G.2.2.1, 1024, .inl fl)), (pe, .inl (G.2.2.1, 4000, .inl fe))]) (lo' := [(4, .int sn), (3, .int o), (2, .int ms), (0, .ref h), (1, .int x)]) [2, 3, 0, 1] [1, 2, 3, 4, 5] (by decide) rfl rfl rfl ?_
                  exact hJ93_18 l3 d3
                · have tw22 : ¬ r_16.toInt ≤ l3.toInt := fun z9 => w22 ((ti_le rfl rfl).mpr z9)
                  refine pb_aload_n (pc := 80) d_Presser_findLongest_80 4 rfl rfl ?_
                  refine pb_iload (pc := 81) d_Presser_findLongest_81 0 rfl ?_
                  refine pb_put (pc := 83) (ty := .int) (ws' := [(pl, .inl (G.2.2.1, 1024, .inl fl)), (pe, .inl (G.2.2.1, 4000, .inl fe)), (h, .inr (4, [.ref pp, .ref pl, .ref pe, .ref pr, .int bg, .int sz, .int bt, .int r_16, .int d3])), (pr, .inl (G.2.1, N, .inl fr))]) d_Presser_findLongest_83 2 7 t_Presser t_Presser_ok n_Presser rfl rfl (by decide) in_Presser k_190 rfl (by decide +kernel) rfl rfl (Nat.le_of_ble_eq_true rfl) rfl ?_
                  refine pb_aload_n (pc := 86) d_Presser_findLongest_86 4 rfl rfl ?_
                  refine pb_iload_n (pc := 87) d_Presser_findLongest_87 5 rfl rfl ?_
                  refine pb_iload_n (pc := 88) d_Presser_findLongest_88 2 rfl rfl ?_
                  refine pb_isub (pc := 89) d_Presser_findLongest_89 ?_
                  refine pb_topi (fun i23 ei23 => ?_)
                  try have ti23 : i23.toInt = x.toInt - o.toInt := ti_sub ei23 rfl rfl (by omega) (by omega)
                  refine pb_put (pc := 90) (ty := .int) (ws' := [(pl, .inl (G.2.2.1, 1024, .inl fl)), (pe, .inl (G.2.2.1, 4000, .inl fe)), (h, .inr (4, [.ref pp, .ref pl, .ref pe, .ref pr, .int bg, .int sz, .int bt, .int r_16, .int i23])), (pr, .inl (G.2.1, N, .inl fr))]) d_Presser_findLongest_90 2 8 t_Presser t_Presser_ok n_Presser rfl rfl (by decide) in_Presser k_191 rfl (by decide +kernel) rfl rfl (Nat.le_of_ble_eq_true rfl) rfl ?_
                  refine pb_re (ws' := [(h, .inr (4, [.ref pp, .ref pl, .ref pe, .ref pr, .int bg, .int sz, .int bt, .int r_16, .int i23])), (pr, .inl (G.2.1, N, .inl fr)), (pl, .inl (G.2.2.1, 1024, .inl fl)), (pe, .inl (G.2.2.1, 4000, .inl fe))]) (lo' := [(4, .int sn), (3, .int o), (2, .int ms), (0, .ref h), (1, .int x)]) [2, 3, 0, 1] [1, 2, 3, 4, 5] (by decide) rfl rfl rfl ?_
                  exact hJ93_18 r_16 i23
    refine pb_re (ws' := [(h, .inr (4, [.ref pp, .ref pl, .ref pe, .ref pr, .int bg, .int sz, .int bt, .int 1, .int ds])), (pr, .inl (G.2.1, N, .inl fr)), (pl, .inl (G.2.2.1, 1024, .inl fl)), (pe, .inl (G.2.2.1, 4000, .inl fe))]) (lo' := [(4, .int 0), (3, .int i9), (2, .int i2), (0, .ref h), (1, .int x)]) [2, 3, 0, 1] [0, 1, 2, 3, 4] (by decide) rfl rfl rfl ?_
    exact hL38_10 _ 0 i9 i2 1 ds (by first | assumption | omega (splitDisjunctions := false) | omega | decide) (by first | assumption | omega (splitDisjunctions := false) | omega | decide) (by first | assumption | omega (splitDisjunctions := false) | omega | decide) (by first | assumption | omega (splitDisjunctions := false) | omega | decide) (by first | assumption | omega (splitDisjunctions := false) | omega | decide) (Nat.lt_succ_self _)
  · have tw3 : ¬ 3 ≤ i2.toInt := fun z9 => w3 ((ti_le (by decide) rfl).mpr z9)
    exact pb_vret (pc := 23) hQ d_Presser_findLongest_23 rfl (1, ds) rfl [0, 1, 2, 3] (by decide) rfl rfl (by decide) (by decide)

theorem d_Presser_run_0 : decode prog_8_method_2_code 0 = .ok (.aload_n 0, 1) := by decide +kernel
theorem d_Presser_run_1 : decode prog_8_method_2_code 1 = .ok (.aload_n 1, 1) := by decide +kernel
theorem d_Presser_run_2 : decode prog_8_method_2_code 2 = .ok (.putfield 27, 3) := by decide +kernel
theorem d_Presser_run_5 : decode prog_8_method_2_code 5 = .ok (.aload_n 0, 1) := by decide +kernel
theorem d_Presser_run_6 : decode prog_8_method_2_code 6 = .ok (.iload_n 2, 1) := by decide +kernel
theorem d_Presser_run_7 : decode prog_8_method_2_code 7 = .ok (.putfield 31, 3) := by decide +kernel
theorem d_Presser_run_10 : decode prog_8_method_2_code 10 = .ok (.aload_n 0, 1) := by decide +kernel
theorem d_Presser_run_11 : decode prog_8_method_2_code 11 = .ok (.iload_n 3, 1) := by decide +kernel
theorem d_Presser_run_12 : decode prog_8_method_2_code 12 = .ok (.putfield 35, 3) := by decide +kernel
theorem d_Presser_run_15 : decode prog_8_method_2_code 15 = .ok (.aload_n 0, 1) := by decide +kernel
theorem d_Presser_run_16 : decode prog_8_method_2_code 16 = .ok (.getfield 14, 3) := by decide +kernel
theorem d_Presser_run_19 : decode prog_8_method_2_code 19 = .ok (.iconst 0, 1) := by decide +kernel
theorem d_Presser_run_20 : decode prog_8_method_2_code 20 = .ok (.putfield 38, 3) := by decide +kernel
theorem d_Presser_run_23 : decode prog_8_method_2_code 23 = .ok (.aload_n 0, 1) := by decide +kernel
theorem d_Presser_run_24 : decode prog_8_method_2_code 24 = .ok (.iconst 0, 1) := by decide +kernel
theorem d_Presser_run_25 : decode prog_8_method_2_code 25 = .ok (.putfield 39, 3) := by decide +kernel
theorem d_Presser_run_28 : decode prog_8_method_2_code 28 = .ok (.aload_n 0, 1) := by decide +kernel
theorem d_Presser_run_29 : decode prog_8_method_2_code 29 = .ok (.getfield 20, 3) := by decide +kernel
theorem d_Presser_run_32 : decode prog_8_method_2_code 32 = .ok (.iconst (-1), 1) := by decide +kernel
theorem d_Presser_run_33 : decode prog_8_method_2_code 33 = .ok (.invokestatic 42, 3) := by decide +kernel
theorem k_502 : (Jvm.Cond.methodLink "PackageBook$Presser" (42 : Nat) ({ cls := "java/util/Arrays", name := "fill", desc := "([II)V" } : Jvm.MethodName)) ∈ uW := uW_of 502 (by decide +kernel) (by decide +kernel)
theorem k_136 : (Jvm.Cond.initialized "java/util/Arrays") ∈ uW := uW_of 136 (by decide +kernel) (by decide +kernel)
theorem k_504 : (Jvm.Cond.code ({ cls := "java/util/Arrays", name := "fill", desc := "([II)V" } : Jvm.MethodName) prog_24_method_103_code (4 : Nat) (Option.none : Option Jvm.ClassFile.FieldType)) ∈ uW := uW_of 504 (by decide +kernel) (by decide +kernel)
theorem k_503 : (Jvm.Cond.static ({ cls := "java/util/Arrays", name := "fill", desc := "([II)V" } : Jvm.MethodName)) ∈ uW := uW_of 503 (by decide +kernel) (by decide +kernel)
theorem hy_JArrays_fill : (y_JArrays_fill).cls ≠ "java/lang/invoke/MethodHandle" ∧ (y_JArrays_fill).cls ≠ "java/lang/invoke/VarHandle" ∧ (parseMethodDescriptor (y_JArrays_fill).desc).map (fun d => d.parameters.length) = some 2 := by decide +kernel
theorem d_Presser_run_36 : decode prog_8_method_2_code 36 = .ok (.aload_n 0, 1) := by decide +kernel
theorem d_Presser_run_37 : decode prog_8_method_2_code 37 = .ok (.iconst 1, 1) := by decide +kernel
theorem d_Presser_run_38 : decode prog_8_method_2_code 38 = .ok (.iconst 1, 1) := by decide +kernel
theorem d_Presser_run_39 : decode prog_8_method_2_code 39 = .ok (.invokevirtual 48, 3) := by decide +kernel
theorem d_Presser_run_42 : decode prog_8_method_2_code 42 = .ok (.aload_n 0, 1) := by decide +kernel
theorem d_Presser_run_43 : decode prog_8_method_2_code 43 = .ok (.iconst 1, 1) := by decide +kernel
theorem d_Presser_run_44 : decode prog_8_method_2_code 44 = .ok (.iconst 2, 1) := by decide +kernel
theorem d_Presser_run_45 : decode prog_8_method_2_code 45 = .ok (.invokevirtual 48, 3) := by decide +kernel
theorem d_Presser_run_48 : decode prog_8_method_2_code 48 = .ok (.iconst 0, 1) := by decide +kernel
theorem d_Presser_run_49 : decode prog_8_method_2_code 49 = .ok (.istore 4, 2) := by decide +kernel
theorem d_Presser_run_51 : decode prog_8_method_2_code 51 = .ok (.iconst 0, 1) := by decide +kernel
theorem d_Presser_run_52 : decode prog_8_method_2_code 52 = .ok (.istore 5, 2) := by decide +kernel
theorem d_Presser_run_54 : decode prog_8_method_2_code 54 = .ok (.iload 5, 2) := by decide +kernel
theorem d_Presser_run_56 : decode prog_8_method_2_code 56 = .ok (.aload_n 0, 1) := by decide +kernel
theorem d_Presser_run_57 : decode prog_8_method_2_code 57 = .ok (.getfield 35, 3) := by decide +kernel
theorem d_Presser_run_60 : decode prog_8_method_2_code 60 = .ok (.if_icmp .ge 76, 3) := by decide +kernel
theorem d_Presser_run_136 : decode prog_8_method_2_code 136 = .ok (.aload_n 0, 1) := by decide +kernel
theorem d_Presser_run_137 : decode prog_8_method_2_code 137 = .ok (.sipush 256, 3) := by decide +kernel
theorem d_Presser_run_140 : decode prog_8_method_2_code 140 = .ok (.invokevirtual 58, 3) := by decide +kernel
theorem d_Presser_run_143 : decode prog_8_method_2_code 143 = .ok (.return_, 1) := by decide +kernel
theorem d_Presser_run_124 : decode prog_8_method_2_code 124 = .ok (.aload_n 0, 1) := by decide +kernel
theorem d_Presser_run_125 : decode prog_8_method_2_code 125 = .ok (.iload 5, 2) := by decide +kernel
theorem d_Presser_run_127 : decode prog_8_method_2_code 127 = .ok (.invokevirtual 67, 3) := by decide +kernel
theorem k_539 : (Jvm.Cond.methodLink "PackageBook$Presser" (67 : Nat) ({ cls := "PackageBook$Presser", name := "remember", desc := "(I)V" } : Jvm.MethodName)) ∈ uW := uW_of 539 (by decide +kernel) (by decide +kernel)
theorem k_542 : (Jvm.Cond.code ({ cls := "PackageBook$Presser", name := "remember", desc := "(I)V" } : Jvm.MethodName) prog_8_method_5_code (3 : Nat) (Option.none : Option Jvm.ClassFile.FieldType)) ∈ uW := uW_of 542 (by decide +kernel) (by decide +kernel)
theorem k_541 : (Jvm.Cond.instanceMethod ({ cls := "PackageBook$Presser", name := "remember", desc := "(I)V" } : Jvm.MethodName)) ∈ uW := uW_of 541 (by decide +kernel) (by decide +kernel)
theorem k_9 : Cond.selects "PackageBook$Presser" ⟨"PackageBook$Presser", "remember", "(I)V"⟩ ⟨"PackageBook$Presser", "remember", "(I)V"⟩ ∈ uW := uW_of 9 (by decide +kernel) (by decide +kernel)
theorem hy_Presser_remember : (y_Presser_remember).cls ≠ "java/lang/invoke/MethodHandle" ∧ (y_Presser_remember).cls ≠ "java/lang/invoke/VarHandle" ∧ (parseMethodDescriptor (y_Presser_remember).desc).map (fun d => d.parameters.length) = some 1 := by decide +kernel
theorem d_Presser_run_130 : decode prog_8_method_2_code 130 = .ok (.iinc 5 1, 3) := by decide +kernel
theorem d_Presser_run_133 : decode prog_8_method_2_code 133 = .ok (.goto (-79), 3) := by decide +kernel
theorem d_Presser_run_63 : decode prog_8_method_2_code 63 = .ok (.iload 5, 2) := by decide +kernel
theorem d_Presser_run_65 : decode prog_8_method_2_code 65 = .ok (.iload 4, 2) := by decide +kernel
theorem d_Presser_run_67 : decode prog_8_method_2_code 67 = .ok (.if_icmp .ne 57, 3) := by decide +kernel
theorem d_Presser_run_70 : decode prog_8_method_2_code 70 = .ok (.aload_n 0, 1) := by decide +kernel
theorem d_Presser_run_71 : decode prog_8_method_2_code 71 = .ok (.iload 5, 2) := by decide +kernel
theorem d_Presser_run_73 : decode prog_8_method_2_code 73 = .ok (.invokevirtual 52, 3) := by decide +kernel
theorem k_509 : (Jvm.Cond.methodLink "PackageBook$Presser" (52 : Nat) ({ cls := "PackageBook$Presser", name := "findLongest", desc := "(I)V" } : Jvm.MethodName)) ∈ uW := uW_of 509 (by decide +kernel) (by decide +kernel)
theorem k_512 : (Jvm.Cond.code ({ cls := "PackageBook$Presser", name := "findLongest", desc := "(I)V" } : Jvm.MethodName) prog_8_method_3_code (6 : Nat) (Option.none : Option Jvm.ClassFile.FieldType)) ∈ uW := uW_of 512 (by decide +kernel) (by decide +kernel)
theorem k_511 : (Jvm.Cond.instanceMethod ({ cls := "PackageBook$Presser", name := "findLongest", desc := "(I)V" } : Jvm.MethodName)) ∈ uW := uW_of 511 (by decide +kernel) (by decide +kernel)
theorem k_3 : Cond.selects "PackageBook$Presser" ⟨"PackageBook$Presser", "findLongest", "(I)V"⟩ ⟨"PackageBook$Presser", "findLongest", "(I)V"⟩ ∈ uW := uW_of 3 (by decide +kernel) (by decide +kernel)
theorem hy_Presser_findLongest : (y_Presser_findLongest).cls ≠ "java/lang/invoke/MethodHandle" ∧ (y_Presser_findLongest).cls ≠ "java/lang/invoke/VarHandle" ∧ (parseMethodDescriptor (y_Presser_findLongest).desc).map (fun d => d.parameters.length) = some 1 := by decide +kernel
theorem d_Presser_run_76 : decode prog_8_method_2_code 76 = .ok (.aload_n 0, 1) := by decide +kernel
theorem d_Presser_run_77 : decode prog_8_method_2_code 77 = .ok (.getfield 55, 3) := by decide +kernel
theorem d_Presser_run_80 : decode prog_8_method_2_code 80 = .ok (.iconst 3, 1) := by decide +kernel
theorem d_Presser_run_81 : decode prog_8_method_2_code 81 = .ok (.if_icmp .ge 26, 3) := by decide +kernel
theorem d_Presser_run_107 : decode prog_8_method_2_code 107 = .ok (.aload_n 0, 1) := by decide +kernel
theorem d_Presser_run_108 : decode prog_8_method_2_code 108 = .ok (.invokevirtual 61, 3) := by decide +kernel
theorem k_531 : (Jvm.Cond.methodLink "PackageBook$Presser" (61 : Nat) ({ cls := "PackageBook$Presser", name := "putLength", desc := "()V" } : Jvm.MethodName)) ∈ uW := uW_of 531 (by decide +kernel) (by decide +kernel)
theorem k_534 : (Jvm.Cond.code ({ cls := "PackageBook$Presser", name := "putLength", desc := "()V" } : Jvm.MethodName) prog_8_method_7_code (3 : Nat) (Option.none : Option Jvm.ClassFile.FieldType)) ∈ uW := uW_of 534 (by decide +kernel) (by decide +kernel)
theorem k_533 : (Jvm.Cond.instanceMethod ({ cls := "PackageBook$Presser", name := "putLength", desc := "()V" } : Jvm.MethodName)) ∈ uW := uW_of 533 (by decide +kernel) (by decide +kernel)
theorem k_7 : Cond.selects "PackageBook$Presser" ⟨"PackageBook$Presser", "putLength", "()V"⟩ ⟨"PackageBook$Presser", "putLength", "()V"⟩ ∈ uW := uW_of 7 (by decide +kernel) (by decide +kernel)
theorem hy_Presser_putLength : (y_Presser_putLength).cls ≠ "java/lang/invoke/MethodHandle" ∧ (y_Presser_putLength).cls ≠ "java/lang/invoke/VarHandle" ∧ (parseMethodDescriptor (y_Presser_putLength).desc).map (fun d => d.parameters.length) = some 0 := by decide +kernel
theorem d_Presser_run_111 : decode prog_8_method_2_code 111 = .ok (.aload_n 0, 1) := by decide +kernel
theorem d_Presser_run_112 : decode prog_8_method_2_code 112 = .ok (.invokevirtual 64, 3) := by decide +kernel
theorem k_535 : (Jvm.Cond.methodLink "PackageBook$Presser" (64 : Nat) ({ cls := "PackageBook$Presser", name := "putDistance", desc := "()V" } : Jvm.MethodName)) ∈ uW := uW_of 535 (by decide +kernel) (by decide +kernel)
theorem k_538 : (Jvm.Cond.code ({ cls := "PackageBook$Presser", name := "putDistance", desc := "()V" } : Jvm.MethodName) prog_8_method_8_code (3 : Nat) (Option.none : Option Jvm.ClassFile.FieldType)) ∈ uW := uW_of 538 (by decide +kernel) (by decide +kernel)
theorem k_537 : (Jvm.Cond.instanceMethod ({ cls := "PackageBook$Presser", name := "putDistance", desc := "()V" } : Jvm.MethodName)) ∈ uW := uW_of 537 (by decide +kernel) (by decide +kernel)
theorem k_8 : Cond.selects "PackageBook$Presser" ⟨"PackageBook$Presser", "putDistance", "()V"⟩ ⟨"PackageBook$Presser", "putDistance", "()V"⟩ ∈ uW := uW_of 8 (by decide +kernel) (by decide +kernel)
theorem hy_Presser_putDistance : (y_Presser_putDistance).cls ≠ "java/lang/invoke/MethodHandle" ∧ (y_Presser_putDistance).cls ≠ "java/lang/invoke/VarHandle" ∧ (parseMethodDescriptor (y_Presser_putDistance).desc).map (fun d => d.parameters.length) = some 0 := by decide +kernel
theorem d_Presser_run_115 : decode prog_8_method_2_code 115 = .ok (.iload 4, 2) := by decide +kernel
theorem d_Presser_run_117 : decode prog_8_method_2_code 117 = .ok (.aload_n 0, 1) := by decide +kernel
theorem d_Presser_run_118 : decode prog_8_method_2_code 118 = .ok (.getfield 55, 3) := by decide +kernel
theorem d_Presser_run_121 : decode prog_8_method_2_code 121 = .ok (.iadd, 1) := by decide +kernel
theorem d_Presser_run_122 : decode prog_8_method_2_code 122 = .ok (.istore 4, 2) := by decide +kernel
theorem d_Presser_run_84 : decode prog_8_method_2_code 84 = .ok (.aload_n 0, 1) := by decide +kernel
theorem d_Presser_run_85 : decode prog_8_method_2_code 85 = .ok (.aload_n 0, 1) := by decide +kernel
theorem d_Presser_run_86 : decode prog_8_method_2_code 86 = .ok (.getfield 27, 3) := by decide +kernel
theorem d_Presser_run_89 : decode prog_8_method_2_code 89 = .ok (.aload_n 0, 1) := by decide +kernel
theorem d_Presser_run_90 : decode prog_8_method_2_code 90 = .ok (.getfield 31, 3) := by decide +kernel
theorem d_Presser_run_93 : decode prog_8_method_2_code 93 = .ok (.iload 5, 2) := by decide +kernel
theorem d_Presser_run_95 : decode prog_8_method_2_code 95 = .ok (.iadd, 1) := by decide +kernel
theorem d_Presser_run_96 : decode prog_8_method_2_code 96 = .ok (.baload, 1) := by decide +kernel
theorem d_Presser_run_97 : decode prog_8_method_2_code 97 = .ok (.sipush 255, 3) := by decide +kernel
theorem d_Presser_run_100 : decode prog_8_method_2_code 100 = .ok (.iand, 1) := by decide +kernel
theorem d_Presser_run_101 : decode prog_8_method_2_code 101 = .ok (.invokevirtual 58, 3) := by decide +kernel
theorem d_Presser_run_104 : decode prog_8_method_2_code 104 = .ok (.goto 11, 3) := by decide +kernel
abbrev y_Presser_run : MethodName := ⟨"PackageBook$Presser", "run", "([BII)V"⟩
abbrev i_Presser_run : pb_I := (y_Presser_run, prog_8_method_2_code, 6, (Option.none : Option Jvm.ClassFile.FieldType), [], { frames := 3, cells := 0, slots := 0, locals := 66 })
set_option maxRecDepth 100000 in
set_option maxHeartbeats 4000000 in
theorem g_Pr_run {l : Launch} (hl : l.stackTraces = false) (G : pb_G) (h : Nat) (pp : Nat) (pl : Nat) (pe : Nat) (pr : Nat) (pb : Nat) (bg : Int32) (sz : Int32) (bt : Int32) (ln : Int32) (ds : Int32) (b : Nat) (N : Nat) (f : Nat → Int32) (fr : Nat → Int32) (fl : Nat → Int32) (fe : Nat → Int32) (ps : Int32) (x : Int32) (n : Int32) (x0 : 0 ≤ x.toInt) (x1 : 0 ≤ n.toInt) (x2 : n.toInt ≤ 4000) (x3 : x.toInt + n.toInt ≤ N) (x4 : N ≤ 100000) (F_f : sb_Fit f) (F_fr : sb_Fit fr) : Cn l G i_Presser_run [.ref h, .ref b, .int x, .int n] [(h, .inr (4, [.ref pp, .ref pl, .ref pe, .ref pr, .int bg, .int sz, .int bt, .int ln, .int ds])), (pp, .inr (0, [.ref pb, .int ps])), (pb, .inl (G.2.1, 4502, .inl f)), (pl, .inl (G.2.2.1, 1024, .inl fl)), (pe, .inl (G.2.2.1, 4000, .inl fe)), (b, .inl (G.2.1, N, .inl fr))] (S := Int32 × Int32 × Int32 × Int32 × (Nat → Int32) × (Nat → Int32) × (Nat → Int32)) (fun rv_ u => rv_ = none ∧ (0 ≤ u.2.2.2.1.toInt) ∧ (u.2.2.2.1.toInt ≤ 4502) ∧ (sb_Fit u.2.2.2.2.1)) (fun u => [(h, .inr (4, [.ref pp, .ref pl, .ref pe, .ref b, .int x, .int n, .int u.1, .int u.2.1, .int u.2.2.1])), (pp, .inr (0, [.ref pb, .int u.2.2.2.1])), (pb, .inl (G.2.1, 4502, .inl u.2.2.2.2.1)), (pl, .inl (G.2.2.1, 1024, .inl u.2.2.2.2.2.1)), (pe, .inl (G.2.2.1, 4000, .inl u.2.2.2.2.2.2)), (b, .inl (G.2.1, N, .inl fr))]) := by
  refine Cn.of hl (by decide +kernel) rfl (Nat.le_of_ble_eq_true rfl) (fun M hQ => ?_)
  refine pb_eq (pc' := 0) (lo' := [(0, .ref h), (1, .ref b), (2, .int x), (3, .int n)]) (rest' := []) (ws' := [(h, .inr (4, [.ref pp, .ref pl, .ref pe, .ref pr, .int bg, .int sz, .int bt, .int ln, .int ds])), (pp, .inr (0, [.ref pb, .int ps])), (pb, .inl (G.2.1, 4502, .inl f)), (pl, .inl (G.2.2.1, 1024, .inl fl)), (pe, .inl (G.2.2.1, 4000, .inl fe)), (b, .inl (G.2.1, N, .inl fr))]) ?_
  have zm1 : ((-1) : Int32).toInt = (-1) := by decide
  have zl0 : (0 : Int32).toInt = 0 := by decide
  have zl1 : (1 : Int32).toInt = 1 := by decide
  have zl2 : (2 : Int32).toInt = 2 := by decide
  have zl3 : (3 : Int32).toInt = 3 := by decide
  have zl255 : (255 : Int32).toInt = 255 := by decide
  have zl256 : (256 : Int32).toInt = 256 := by decide
  refine pb_aload_n (pc := 0) d_Presser_run_0 0 rfl rfl ?_
  refine pb_aload_n (pc := 1) d_Presser_run_1 1 rfl rfl ?_
  refine pb_put (pc := 2) (ty := (.array .byte)) (ws' := [(h, .inr (4, [.ref pp, .ref pl, .ref pe, .ref b, .int bg, .int sz, .int bt, .int ln, .int ds])), (pp, .inr (0, [.ref pb, .int ps])), (pb, .inl (G.2.1, 4502, .inl f)), (pl, .inl (G.2.2.1, 1024, .inl fl)), (pe, .inl (G.2.2.1, 4000, .inl fe)), (b, .inl (G.2.1, N, .inl fr))]) d_Presser_run_2 0 3 t_Presser t_Presser_ok n_Presser rfl rfl (by decide) in_Presser k_186 rfl (by decide +kernel) rfl rfl (Nat.le_of_ble_eq_true rfl) rfl ?_
  refine pb_aload_n (pc := 5) d_Presser_run_5 0 rfl rfl ?_
  refine pb_iload_n (pc := 6) d_Presser_run_6 2 rfl rfl ?_
  refine pb_put (pc := 7) (ty := .int) (ws' := [(h, .inr (4, [.ref pp, .ref pl, .ref pe, .ref b, .int x, .int sz, .int bt, .int ln, .int ds])), (pp, .inr (0, [.ref pb, .int ps])), (pb, .inl (G.2.1, 4502, .inl f)), (pl, .inl (G.2.2.1, 1024, .inl fl)), (pe, .inl (G.2.2.1, 4000, .inl fe)), (b, .inl (G.2.1, N, .inl fr))]) d_Presser_run_7 0 4 t_Presser t_Presser_ok n_Presser rfl rfl (by decide) in_Presser k_187 rfl (by decide +kernel) rfl rfl (Nat.le_of_ble_eq_true rfl) rfl ?_
  refine pb_aload_n (pc := 10) d_Presser_run_10 0 rfl rfl ?_
  refine pb_iload_n (pc := 11) d_Presser_run_11 3 rfl rfl ?_
  refine pb_put (pc := 12) (ty := .int) (ws' := [(h, .inr (4, [.ref pp, .ref pl, .ref pe, .ref b, .int x, .int n, .int bt, .int ln, .int ds])), (pp, .inr (0, [.ref pb, .int ps])), (pb, .inl (G.2.1, 4502, .inl f)), (pl, .inl (G.2.2.1, 1024, .inl fl)), (pe, .inl (G.2.2.1, 4000, .inl fe)), (b, .inl (G.2.1, N, .inl fr))]) d_Presser_run_12 0 5 t_Presser t_Presser_ok n_Presser rfl rfl (by decide) in_Presser k_188 rfl (by decide +kernel) rfl rfl (Nat.le_of_ble_eq_true rfl) rfl ?_
  refine pb_aload_n (pc := 15) d_Presser_run_15 0 rfl rfl ?_
  refine pb_get (pc := 16) d_Presser_run_16 0 0 rfl rfl (by decide) in_Presser k_181 rfl ?_
  refine pb_iconst (pc := 19) (v := 0) d_Presser_run_19 (by decide) ?_
  refine pb_putN (pc := 20) (ty := .int) (ws' := [(h, .inr (4, [.ref pp, .ref pl, .ref pe, .ref b, .int x, .int n, .int bt, .int ln, .int ds])), (pp, .inr (0, [.ref pb, .int 0])), (pb, .inl (G.2.1, 4502, .inl f)), (pl, .inl (G.2.2.1, 1024, .inl fl)), (pe, .inl (G.2.2.1, 4000, .inl fe)), (b, .inl (G.2.1, N, .inl fr))]) d_Presser_run_20 1 1 t_Row t_Row_ok n_Row rfl rfl (by decide) in_Row k_164 rfl (by decide +kernel) rfl rfl (Nat.le_of_ble_eq_true rfl) rfl ?_
  refine pb_aload_n (pc := 23) d_Presser_run_23 0 rfl rfl ?_
  refine pb_iconst (pc := 24) (v := 0) d_Presser_run_24 (by decide) ?_
  refine pb_put (pc := 25) (ty := .int) (ws' := [(h, .inr (4, [.ref pp, .ref pl, .ref pe, .ref b, .int x, .int n, .int 0, .int ln, .int ds])), (pp, .inr (0, [.ref pb, .int 0])), (pb, .inl (G.2.1, 4502, .inl f)), (pl, .inl (G.2.2.1, 1024, .inl fl)), (pe, .inl (G.2.2.1, 4000, .inl fe)), (b, .inl (G.2.1, N, .inl fr))]) d_Presser_run_25 0 6 t_Presser t_Presser_ok n_Presser rfl rfl (by decide) in_Presser k_189 rfl (by decide +kernel) rfl rfl (Nat.le_of_ble_eq_true rfl) rfl ?_
  refine pb_aload_n (pc := 28) d_Presser_run_28 0 rfl rfl ?_
  refine pb_get (pc := 29) d_Presser_run_29 0 1 rfl rfl (by decide) in_Presser k_184 rfl ?_
  refine pb_iconst (pc := 32) (v := (-1)) d_Presser_run_32 (by decide) ?_
  refine pb_callS (pc := 33) (I := i_Presser_run) (nA := 2) (rest := []) (wr := [(h, .inr (4, [.ref pp, .ref pl, .ref pe, .ref b, .int x, .int n, .int 0, .int ln, .int ds])), (pp, .inr (0, [.ref pb, .int 0])), (pb, .inl (G.2.1, 4502, .inl f)), (pe, .inl (G.2.2.1, 4000, .inl fe)), (b, .inl (G.2.1, N, .inl fr))]) d_Presser_run_33 (g_fill hl G pl 1024 fl (-1) (by first | assumption | omega (splitDisjunctions := false) | omega | decide)) [3] [0, 1, 2, 4, 5] (by decide) rfl rfl rfl (by decide) (by decide) k_504 rfl k_136 k_502 k_503 hy_JArrays_fill (by decide) rfl rfl (Nat.le_of_ble_eq_true rfl) (by decide) (fun v9 u2 ch1 => ?_)
  obtain ⟨f_3, rfl⟩ : ∃ z9, z9 = u2 := ⟨_, rfl⟩
  obtain ⟨ech1, ch1⟩ := ch1
  have ech1 : v9 = none := ech1
  subst ech1
  have fh4 : ∀ x : Int, 0 ≤ x → x < 1024 → gx f_3 x = ((-1) : Int32).toInt := ch1
  have fillF := fh4
  refine pb_eq (pc' := 36) (lo' := [(0, .ref h), (1, .ref b), (2, .int x), (3, .int n)]) (rest' := []) (ws' := [(h, .inr (4, [.ref pp, .ref pl, .ref pe, .ref b, .int x, .int n, .int 0, .int ln, .int ds])), (pp, .inr (0, [.ref pb, .int 0])), (pb, .inl (G.2.1, 4502, .inl f)), (pe, .inl (G.2.2.1, 4000, .inl fe)), (b, .inl (G.2.1, N, .inl fr)), (pl, .inl (G.2.2.1, 1024, .inl f_3))]) ?_
  refine pb_aload_n (pc := 36) d_Presser_run_36 0 rfl rfl ?_
  refine pb_iconst (pc := 37) (v := 1) d_Presser_run_37 (by decide) ?_
  refine pb_iconst (pc := 38) (v := 1) d_Presser_run_38 (by decide) ?_
  refine pb_callV (pc := 39) (I := i_Presser_run) (qb := 0) (ci := 4) (nA := 2) (rest := []) (wr := [(pe, .inl (G.2.2.1, 4000, .inl fe)), (b, .inl (G.2.1, N, .inl fr)), (pl, .inl (G.2.2.1, 1024, .inl f_3))]) d_Presser_run_39 (g_Pr_putNumber hl G h pp pl pe b pb x n 0 ln ds f 0 1 1 (by first | assumption | omega (splitDisjunctions := false) | omega | decide) (by first | assumption | omega (splitDisjunctions := false) | omega | decide) (by first | assumption | omega (splitDisjunctions := false) | omega | decide) (by first | assumption | omega (splitDisjunctions := false) | omega | decide) (by first | assumption | omega (splitDisjunctions := false) | omega | decide) (by first | assumption | omega (splitDisjunctions := false) | omega | decide) (by first | assumption | omega (splitDisjunctions := false) | omega | decide) F_f) rfl rfl [0, 1, 2] [3, 4, 5] (by decide) rfl rfl rfl (by decide) (by decide) k_508 rfl k_120 k_505 k_507 k_2 ⟨rfl, hy_Presser_putNumber⟩ (by decide) rfl rfl (Nat.le_of_ble_eq_true rfl) (by decide) (fun v9 u6 ch5 => ?_)
  obtain ⟨b_7, p_8, f_9⟩ := u6
  obtain ⟨ech5, ch5⟩ := ch5
  have ech5 : v9 = none := ech5
  subst ech5
  obtain ⟨fh10, fh11, fh12, fh13, fh14, fh15, fh16⟩ : ((0 : Int32).toInt ≤ b_7.toInt) ∧ (b_7.toInt ≤ (0 : Int32).toInt + (1 : Int32).toInt) ∧ (0 ≤ p_8.toInt) ∧ (p_8.toInt ≤ 4502) ∧ (1 ≤ p_8.toInt ∨ b_7.toInt = 0) ∧ (b_7.toInt = (0 : Int32).toInt + (1 : Int32).toInt) ∧ (sb_Fit f_9) := ch5
  refine pb_eq (pc' := 42) (lo' := [(0, .ref h), (1, .ref b), (2, .int x), (3, .int n)]) (rest' := []) (ws' := [(pe, .inl (G.2.2.1, 4000, .inl fe)), (b, .inl (G.2.1, N, .inl fr)), (pl, .inl (G.2.2.1, 1024, .inl f_3)), (h, .inr (4, [.ref pp, .ref pl, .ref pe, .ref b, .int x, .int n, .int b_7, .int ln, .int ds])), (pp, .inr (0, [.ref pb, .int p_8])), (pb, .inl (G.2.1, 4502, .inl f_9))]) ?_
  refine pb_aload_n (pc := 42) d_Presser_run_42 0 rfl rfl ?_
  refine pb_iconst (pc := 43) (v := 1) d_Presser_run_43 (by decide) ?_
  refine pb_iconst (pc := 44) (v := 2) d_Presser_run_44 (by decide) ?_
  refine pb_callV (pc := 45) (I := i_Presser_run) (qb := 3) (ci := 4) (nA := 2) (rest := []) (wr := [(pe, .inl (G.2.2.1, 4000, .inl fe)), (b, .inl (G.2.1, N, .inl fr)), (pl, .inl (G.2.2.1, 1024, .inl f_3))]) d_Presser_run_45 (g_Pr_putNumber hl G h pp pl pe b pb x n b_7 ln ds f_9 p_8 1 2 (by first | assumption | omega (splitDisjunctions := false) | omega | decide) (by first | assumption | omega (splitDisjunctions := false) | omega | decide) (by first | assumption | omega (splitDisjunctions := false) | omega | decide) (by first | assumption | omega (splitDisjunctions := false) | omega | decide) (by first | assumption | omega (splitDisjunctions := false) | omega | decide) (by first | assumption | omega (splitDisjunctions := false) | omega | decide) (by first | assumption | omega (splitDisjunctions := false) | omega | decide) fh16) rfl rfl [3, 4, 5] [0, 1, 2] (by decide) rfl rfl rfl (by decide) (by decide) k_508 rfl k_120 k_505 k_507 k_2 ⟨rfl, hy_Presser_putNumber⟩ (by decide) rfl rfl (Nat.le_of_ble_eq_true rfl) (by decide) (fun v9 u18 ch17 => ?_)
  obtain ⟨b_19, p_20, f_21⟩ := u18
  obtain ⟨ech17, ch17⟩ := ch17
  have ech17 : v9 = none := ech17
  subst ech17
  obtain ⟨fh22, fh23, fh24, fh25, fh26, fh27, fh28⟩ : (b_7.toInt ≤ b_19.toInt) ∧ (b_19.toInt ≤ b_7.toInt + (2 : Int32).toInt) ∧ (0 ≤ p_20.toInt) ∧ (p_20.toInt ≤ 4502) ∧ (1 ≤ p_20.toInt ∨ b_19.toInt = 0) ∧ (b_19.toInt = b_7.toInt + (2 : Int32).toInt) ∧ (sb_Fit f_21) := ch17
  refine pb_eq (pc' := 48) (lo' := [(0, .ref h), (1, .ref b), (2, .int x), (3, .int n)]) (rest' := []) (ws' := [(pe, .inl (G.2.2.1, 4000, .inl fe)), (b, .inl (G.2.1, N, .inl fr)), (pl, .inl (G.2.2.1, 1024, .inl f_3)), (h, .inr (4, [.ref pp, .ref pl, .ref pe, .ref b, .int x, .int n, .int b_19, .int ln, .int ds])), (pp, .inr (0, [.ref pb, .int p_20])), (pb, .inl (G.2.1, 4502, .inl f_21))]) ?_
  refine pb_iconst (pc := 48) (v := 0) d_Presser_run_48 (by decide) ?_
  refine pb_istore (pc := 49) (lo' := [(4, .int 0), (0, .ref h), (1, .ref b), (2, .int x), (3, .int n)]) d_Presser_run_49 (by decide) rfl ?_
  refine pb_iconst (pc := 51) (v := 0) d_Presser_run_51 (by decide) ?_
  refine pb_istore (pc := 52) (lo' := [(5, .int 0), (4, .int 0), (0, .ref h), (1, .ref b), (2, .int x), (3, .int n)]) d_Presser_run_52 (by decide) rfl ?_
  have hL54_29 : ∀ (N9 : Nat) (pl_ : Int32) (nx : Int32) (bt_ : Int32) (ln_ : Int32) (ds_ : Int32) (ps_ : Int32) (f_ : Nat → Int32) (fl_ : Nat → Int32) (fe_ : Nat → Int32), (sb_Fit f_) → (0 ≤ pl_.toInt) → (pl_.toInt ≤ n.toInt) → (0 ≤ bt_.toInt) → (bt_.toInt ≤ 3 + 40 * pl_.toInt) → (0 ≤ ps_.toInt) → (ps_.toInt ≤ 4502) → (1 ≤ ps_.toInt ∨ bt_.toInt = 0) → (pr_I pl_.toInt n.toInt fl_ fe_) → ((n.toInt - pl_.toInt).toNat) < N9 → pb_P l G M i_Presser_run 54 [(5, .int pl_), (4, .int nx), (0, .ref h), (1, .ref b), (2, .int x), (3, .int n)] [] [(h, .inr (4, [.ref pp, .ref pl, .ref pe, .ref b, .int x, .int n, .int bt_, .int ln_, .int ds_])), (pp, .inr (0, [.ref pb, .int ps_])), (pb, .inl (G.2.1, 4502, .inl f_)), (pl, .inl (G.2.2.1, 1024, .inl fl_)), (pe, .inl (G.2.2.1, 4000, .inl fe_)), (b, .inl (G.2.1, N, .inl fr))] 0 0 := by
    intro N9
    induction N9 with
    | zero => intro pl_ nx bt_ ln_ ds_ ps_ f_ fl_ fe_ F_f_ hpl hpl2 hb0 hb1 hz0 hz1 hz2 hI hm9; exact absurd hm9 (Nat.not_lt_zero _)
    | succ N9 ih54 =>
      intro pl_ nx bt_ ln_ ds_ ps_ f_ fl_ fe_ F_f_ hpl hpl2 hb0 hb1 hz0 hz1 hz2 hI hm9
      refine pb_iload (pc := 54) d_Presser_run_54 0 rfl ?_
      refine pb_aload_n (pc := 56) d_Presser_run_56 2 rfl rfl ?_
      refine pb_get (pc := 57) d_Presser_run_57 0 5 rfl rfl (by decide) in_Presser k_188 rfl ?_
      refine pb_icmp_ge (pc := 60) (tgt := 136) d_Presser_run_60 (by decide) (fun w30 => ?_) (fun w30 => ?_)
      · have tw30 : n.toInt ≤ pl_.toInt := (ti_le rfl rfl).mp w30
        refine pb_aload_n (pc := 136) d_Presser_run_136 2 rfl rfl ?_
        refine pb_sipush (pc := 137) (v := 256) d_Presser_run_137 (by decide) ?_
        refine pb_callV (pc := 140) (I := i_Presser_run) (qb := 0) (ci := 4) (nA := 1) (rest := []) (wr := [(pl, .inl (G.2.2.1, 1024, .inl fl_)), (pe, .inl (G.2.2.1, 4000, .inl fe_)), (b, .inl (G.2.1, N, .inl fr))]) d_Presser_run_140 (g_Pr_putSymbol hl G h pp pl pe b pb x n bt_ ln_ ds_ f_ ps_ 256 (by first | assumption | omega (splitDisjunctions := false) | omega | decide) (by first | assumption | omega (splitDisjunctions := false) | omega | decide) (by first | assumption | omega (splitDisjunctions := false) | omega | decide) (by first | assumption | omega (splitDisjunctions := false) | omega | decide) (by first | assumption | omega (splitDisjunctions := false) | omega | decide) F_f_) rfl rfl [0, 1, 2] [3, 4, 5] (by decide) rfl rfl rfl (by decide) (by decide) k_527 rfl k_120 k_524 k_526 k_6 ⟨rfl, hy_Presser_putSymbol⟩ (by decide) rfl rfl (Nat.le_of_ble_eq_true rfl) (by decide) (fun v9 u32 ch31 => ?_)
        obtain ⟨b_33, p_34, f_35⟩ := u32
        obtain ⟨ech31, ch31⟩ := ch31
        have ech31 : v9 = none := ech31
        subst ech31
        obtain ⟨fh36, fh37, fh38, fh39, fh40, fh41⟩ : (bt_.toInt ≤ b_33.toInt) ∧ (b_33.toInt ≤ bt_.toInt + 9) ∧ (0 ≤ p_34.toInt) ∧ (p_34.toInt ≤ 4502) ∧ (1 ≤ p_34.toInt ∨ b_33.toInt = 0) ∧ (sb_Fit f_35) := ch31
        refine pb_eq (pc' := 143) (lo' := [(5, .int pl_), (4, .int nx), (0, .ref h), (1, .ref b), (2, .int x), (3, .int n)]) (rest' := []) (ws' := [(pl, .inl (G.2.2.1, 1024, .inl fl_)), (pe, .inl (G.2.2.1, 4000, .inl fe_)), (b, .inl (G.2.1, N, .inl fr)), (h, .inr (4, [.ref pp, .ref pl, .ref pe, .ref b, .int x, .int n, .int b_33, .int ln_, .int ds_])), (pp, .inr (0, [.ref pb, .int p_34])), (pb, .inl (G.2.1, 4502, .inl f_35))]) ?_
        exact pb_vret (pc := 143) hQ d_Presser_run_143 rfl (b_33, ln_, ds_, p_34, f_35, fl_, fe_) ⟨rfl, (by (try dsimp only); first | done | assumption | omega (splitDisjunctions := false) | omega | decide), (by (try dsimp only); first | done | assumption | omega (splitDisjunctions := false) | omega | decide), fh41⟩ [3, 4, 5, 0, 1, 2] (by decide) rfl rfl (by decide) (by decide)
      · have tw30 : ¬ n.toInt ≤ pl_.toInt := fun z9 => w30 ((ti_le rfl rfl).mpr z9)
        have hJ124_42 : ∀ (nx4 : Int32) (bt4 : Int32) (ln4 : Int32) (ds4 : Int32) (ps4 : Int32) (f4 : Nat → Int32), (sb_Fit f4) → (0 ≤ bt4.toInt) → (bt4.toInt ≤ 3 + 40 * pl_.toInt + 40) → (0 ≤ ps4.toInt) → (ps4.toInt ≤ 4502) → (1 ≤ ps4.toInt ∨ bt4.toInt = 0) → pb_P l G M i_Presser_run 124 [(5, .int pl_), (4, .int nx4), (0, .ref h), (1, .ref b), (2, .int x), (3, .int n)] [] [(h, .inr (4, [.ref pp, .ref pl, .ref pe, .ref b, .int x, .int n, .int bt4, .int ln4, .int ds4])), (pp, .inr (0, [.ref pb, .int ps4])), (pb, .inl (G.2.1, 4502, .inl f4)), (pl, .inl (G.2.2.1, 1024, .inl fl_)), (pe, .inl (G.2.2.1, 4000, .inl fe_)), (b, .inl (G.2.1, N, .inl fr))] 0 0 := by
          intro nx4 bt4 ln4 ds4 ps4 f4 F_f4 hb0_ hb1_ hz0_ hz1_ hz2_
          refine pb_aload_n (pc := 124) d_Presser_run_124 2 rfl rfl ?_
          refine pb_iload (pc := 125) d_Presser_run_125 0 rfl ?_
          refine pb_callV (pc := 127) (I := i_Presser_run) (qb := 0) (ci := 4) (nA := 1) (rest := []) (wr := [(pp, .inr (0, [.ref pb, .int ps4])), (pb, .inl (G.2.1, 4502, .inl f4))]) d_Presser_run_127 (g_Pr_remember hl G h pp pl pe b pb x n bt4 ln4 ds4 N fr fl_ fe_ pl_ (by first | assumption | omega (splitDisjunctions := false) | omega | decide) (by first | assumption | omega (splitDisjunctions := false) | omega | decide) (by first | assumption | omega (splitDisjunctions := false) | omega | decide) (by first | assumption | omega (splitDisjunctions := false) | omega | decide) (by first | assumption | omega (splitDisjunctions := false) | omega | decide) (by first | assumption | omega (splitDisjunctions := false) | omega | decide) (by first | assumption | omega (splitDisjunctions := false) | omega | decide) (by first | assumption | omega (splitDisjunctions := false) | omega | decide) (by first | assumption | omega (splitDisjunctions := false) | omega | decide)) rfl rfl [0, 5, 3, 4] [1, 2] (by decide) rfl rfl rfl (by decide) (by decide) k_542 rfl k_120 k_539 k_541 k_9 ⟨rfl, hy_Presser_remember⟩ (by decide) rfl rfl (Nat.le_of_ble_eq_true rfl) (by decide) (fun v9 u44 ch43 => ?_)
          obtain ⟨fl_45, fe_46⟩ := u44
          obtain ⟨ech43, ch43⟩ := ch43
          have ech43 : v9 = none := ech43
          subst ech43
          have fh47 : pr_I (pl_.toInt + 1) n.toInt fl_45 fe_46 := ch43
          refine pb_eq (pc' := 130) (lo' := [(5, .int pl_), (4, .int nx4), (0, .ref h), (1, .ref b), (2, .int x), (3, .int n)]) (rest' := []) (ws' := [(pp, .inr (0, [.ref pb, .int ps4])), (pb, .inl (G.2.1, 4502, .inl f4)), (h, .inr (4, [.ref pp, .ref pl, .ref pe, .ref b, .int x, .int n, .int bt4, .int ln4, .int ds4])), (b, .inl (G.2.1, N, .inl fr)), (pl, .inl (G.2.2.1, 1024, .inl fl_45)), (pe, .inl (G.2.2.1, 4000, .inl fe_46))]) ?_
          refine pb_iincN (pc := 130) (c := 1) d_Presser_run_130 0 rfl (by decide) (by decide) (fun i48 ei48 => ?_)
          have ti48 : i48.toInt = pl_.toInt + 1 := ti_add ei48 rfl (by decide) (by omega) (by omega)
          refine pb_eq (pc' := 133) (lo' := [(5, .int i48), (4, .int nx4), (0, .ref h), (1, .ref b), (2, .int x), (3, .int n)]) (rest' := []) (ws' := [(pp, .inr (0, [.ref pb, .int ps4])), (pb, .inl (G.2.1, 4502, .inl f4)), (h, .inr (4, [.ref pp, .ref pl, .ref pe, .ref b, .int x, .int n, .int bt4, .int ln4, .int ds4])), (b, .inl (G.2.1, N, .inl fr)), (pl, .inl (G.2.2.1, 1024, .inl fl_45)), (pe, .inl (G.2.2.1, 4000, .inl fe_46))]) ?_
          refine pb_goto (pc := 133) (tgt := 54) d_Presser_run_133 (by decide) ?_
          refine pb_re (ws' := [(h, .inr (4, [.ref pp, .ref pl, .ref pe, .ref b, .int x, .int n, .int bt4, .int ln4, .int ds4])), (pp, .inr (0, [.ref pb, .int ps4])), (pb, .inl (G.2.1, 4502, .inl f4)), (pl, .inl (G.2.2.1, 1024, .inl fl_45)), (pe, .inl (G.2.2.1, 4000, .inl fe_46)), (b, .inl (G.2.1, N, .inl fr))]) (lo' := [(5, .int i48), (4, .int nx4), (0, .ref h), (1, .ref b), (2, .int x), (3, .int n)]) [2, 0, 1, 4, 5, 3] [0, 1, 2, 3, 4, 5] (by decide) rfl rfl rfl ?_
          exact ih54 i48 nx4 bt4 ln4 ds4 ps4 f4 fl_45 fe_46 F_f4 (by first | assumption | omega (splitDisjunctions := false) | omega | decide) (by first | assumption | omega (splitDisjunctions := false) | omega | decide) (by first | assumption | omega (splitDisjunctions := false) | omega | decide) (by first | assumption | omega (splitDisjunctions := false) | omega | decide) (by first | assumption | omega (splitDisjunctions := false) | omega | decide) (by first | assumption | omega (splitDisjunctions := false) | omega | decide) (by first | assumption | omega (splitDisjunctions := false) | omega | decide) (by have hE : i48.toInt = pl_.toInt + 1 := (by omega); rw [hE]; assumption) (by omega)
        refine pb_iload (pc := 63) d_Presser_run_63 0 rfl ?_
        refine pb_iload (pc := 65) d_Presser_run_65 1 rfl ?_
        refine pb_icmp_ne (pc := 67) (tgt := 124) d_Presser_run_67 (by decide) (fun w49 => ?_) (fun w49 => ?_)
        · have tw49 : ¬ pl_.toInt = nx.toInt := fun z9 => w49 ((ti_eq rfl rfl).mpr z9)
          exact hJ124_42 nx bt_ ln_ ds_ ps_ f_ F_f_ (by first | assumption | omega (splitDisjunctions := false) | omega | decide) (by first | assumption | omega (splitDisjunctions := false) | omega | decide) (by first | assumption | omega (splitDisjunctions := false) | omega | decide) (by first | assumption | omega (splitDisjunctions := false) | omega | decide) (by first | assumption | omega (splitDisjunctions := false) | omega | decide)
        · have tw49 : pl_.toInt = nx.toInt := (ti_eq rfl rfl).mp w49
          refine pb_aload_n (pc := 70) d_Presser_run_70 2 rfl rfl ?_
          refine pb_iload (pc := 71) d_Presser_run_71 0 rfl ?_
          refine pb_callV (pc := 73) (I := i_Presser_run) (qb := 0) (ci := 4) (nA := 1) (rest := []) (wr := [(pp, .inr (0, [.ref pb, .int ps_])), (pb, .inl (G.2.1, 4502, .inl f_))]) d_Presser_run_73 (g_Pr_findLongest hl G h pp pl pe b pb x n bt_ ln_ ds_ N fr fl_ fe_ pl_ (by first | assumption | omega (splitDisjunctions := false) | omega | decide) (by first | assumption | omega (splitDisjunctions := false) | omega | decide) (by first | assumption | omega (splitDisjunctions := false) | omega | decide) (by first | assumption | omega (splitDisjunctions := false) | omega | decide) (by first | assumption | omega (splitDisjunctions := false) | omega | decide) (by first | assumption | omega (splitDisjunctions := false) | omega | decide) (by first | assumption | omega (splitDisjunctions := false) | omega | decide) (by first | assumption | omega (splitDisjunctions := false) | omega | decide) F_fr) rfl rfl [0, 5, 3, 4] [1, 2] (by decide) rfl rfl rfl (by decide) (by decide) k_512 rfl k_120 k_509 k_511 k_3 ⟨rfl, hy_Presser_findLongest⟩ (by decide) rfl rfl (Nat.le_of_ble_eq_true rfl) (by decide) (fun v9 u51 ch50 => ?_)
          obtain ⟨ln_52, ds_53⟩ := u51
          have ech50 := ch50
          have ech50 : v9 = none := ech50
          subst ech50
          refine pb_eq (pc' := 76) (lo' := [(5, .int pl_), (4, .int nx), (0, .ref h), (1, .ref b), (2, .int x), (3, .int n)]) (rest' := []) (ws' := [(pp, .inr (0, [.ref pb, .int ps_])), (pb, .inl (G.2.1, 4502, .inl f_)), (h, .inr (4, [.ref pp, .ref pl, .ref pe, .ref b, .int x, .int n, .int bt_, .int ln_52, .int ds_53])), (b, .inl (G.2.1, N, .inl fr)), (pl, .inl (G.2.2.1, 1024, .inl fl_)), (pe, .inl (G.2.2.1, 4000, .inl fe_))]) ?_
          refine pb_aload_n (pc := 76) d_Presser_run_76 2 rfl rfl ?_
          refine pb_get (pc := 77) d_Presser_run_77 2 7 rfl rfl (by decide) in_Presser k_190 rfl ?_
          refine pb_iconst (pc := 80) (v := 3) d_Presser_run_80 (by decide) ?_
          refine pb_icmp_ge (pc := 81) (tgt := 107) d_Presser_run_81 (by decide) (fun w54 => ?_) (fun w54 => ?_)
          · have tw54 : 3 ≤ ln_52.toInt := (ti_le (by decide) rfl).mp w54
            refine pb_aload_n (pc := 107) d_Presser_run_107 2 rfl rfl ?_
            refine pb_callV (pc := 108) (I := i_Presser_run) (qb := 2) (ci := 4) (nA := 0) (rest := []) (wr := [(b, .inl (G.2.1, N, .inl fr)), (pl, .inl (G.2.2.1, 1024, .inl fl_)), (pe, .inl (G.2.2.1, 4000, .inl fe_))]) d_Presser_run_108 (g_Pr_putLength hl G h pp pl pe b pb x n bt_ ln_52 ds_53 f_ ps_ (by first | assumption | omega (splitDisjunctions := false) | omega | decide) (by first | assumption | omega (splitDisjunctions := false) | omega | decide) (by first | assumption | omega (splitDisjunctions := false) | omega | decide) (by first | assumption | omega (splitDisjunctions := false) | omega | decide) (by first | assumption | omega (splitDisjunctions := false) | omega | decide) F_f_) rfl rfl [2, 0, 1] [3, 4, 5] (by decide) rfl rfl rfl (by decide) (by decide) k_534 rfl k_120 k_531 k_533 k_7 ⟨rfl, hy_Presser_putLength⟩ (by decide) rfl rfl (Nat.le_of_ble_eq_true rfl) (by decide) (fun v9 u56 ch55 => ?_)
            obtain ⟨b_57, p_58, f_59⟩ := u56
            obtain ⟨ech55, ch55⟩ := ch55
            have ech55 : v9 = none := ech55
            subst ech55
            obtain ⟨fh60, fh61, fh62, fh63, fh64, fh65⟩ : (bt_.toInt ≤ b_57.toInt) ∧ (b_57.toInt ≤ bt_.toInt + 14) ∧ (0 ≤ p_58.toInt) ∧ (p_58.toInt ≤ 4502) ∧ (1 ≤ p_58.toInt ∨ b_57.toInt = 0) ∧ (sb_Fit f_59) := ch55
            refine pb_eq (pc' := 111) (lo' := [(5, .int pl_), (4, .int nx), (0, .ref h), (1, .ref b), (2, .int x), (3, .int n)]) (rest' := []) (ws' := [(b, .inl (G.2.1, N, .inl fr)), (pl, .inl (G.2.2.1, 1024, .inl fl_)), (pe, .inl (G.2.2.1, 4000, .inl fe_)), (h, .inr (4, [.ref pp, .ref pl, .ref pe, .ref b, .int x, .int n, .int b_57, .int ln_52, .int ds_53])), (pp, .inr (0, [.ref pb, .int p_58])), (pb, .inl (G.2.1, 4502, .inl f_59))]) ?_
            refine pb_aload_n (pc := 111) d_Presser_run_111 2 rfl rfl ?_
            refine pb_callV (pc := 112) (I := i_Presser_run) (qb := 3) (ci := 4) (nA := 0) (rest := []) (wr := [(b, .inl (G.2.1, N, .inl fr)), (pl, .inl (G.2.2.1, 1024, .inl fl_)), (pe, .inl (G.2.2.1, 4000, .inl fe_))]) d_Presser_run_112 (g_Pr_putDistance hl G h pp pl pe b pb x n b_57 ln_52 ds_53 f_59 p_58 (by first | assumption | omega (splitDisjunctions := false) | omega | decide) (by first | assumption | omega (splitDisjunctions := false) | omega | decide) (by first | assumption | omega (splitDisjunctions := false) | omega | decide) (by first | assumption | omega (splitDisjunctions := false) | omega | decide) (by first | assumption | omega (splitDisjunctions := false) | omega | decide) fh65) rfl rfl [3, 4, 5] [0, 1, 2] (by decide) rfl rfl rfl (by decide) (by decide) k_538 rfl k_120 k_535 k_537 k_8 ⟨rfl, hy_Presser_putDistance⟩ (by decide) rfl rfl (Nat.le_of_ble_eq_true rfl) (by decide) (fun v9 u67 ch66 => ?_)
            obtain ⟨b_68, p_69, f_70⟩ := u67
            obtain ⟨ech66, ch66⟩ := ch66
            have ech66 : v9 = none := ech66
            subst ech66
            obtain ⟨fh71, fh72, fh73, fh74, fh75, fh76⟩ : (b_57.toInt ≤ b_68.toInt) ∧ (b_68.toInt ≤ b_57.toInt + 18) ∧ (0 ≤ p_69.toInt) ∧ (p_69.toInt ≤ 4502) ∧ (1 ≤ p_69.toInt ∨ b_68.toInt = 0) ∧ (sb_Fit f_70) := ch66
            refine pb_eq (pc' := 115) (lo' := [(5, .int pl_), (4, .int nx), (0, .ref h), (1, .ref b), (2, .int x), (3, .int n)]) (rest' := []) (ws' := [(b, .inl (G.2.1, N, .inl fr)), (pl, .inl (G.2.2.1, 1024, .inl fl_)), (pe, .inl (G.2.2.1, 4000, .inl fe_)), (h, .inr (4, [.ref pp, .ref pl, .ref pe, .ref b, .int x, .int n, .int b_68, .int ln_52, .int ds_53])), (pp, .inr (0, [.ref pb, .int p_69])), (pb, .inl (G.2.1, 4502, .inl f_70))]) ?_
            refine pb_iload (pc := 115) d_Presser_run_115 1 rfl ?_
            refine pb_aload_n (pc := 117) d_Presser_run_117 2 rfl rfl ?_
            refine pb_get (pc := 118) d_Presser_run_118 3 7 rfl rfl (by decide) in_Presser k_190 rfl ?_
            refine pb_iadd (pc := 121) d_Presser_run_121 ?_
            refine pb_topi (fun i77 ei77 => ?_)
            try have ti77 : i77.toInt = nx.toInt + ln_52.toInt := ti_add ei77 rfl rfl (by omega) (by omega)
            refine pb_istore (pc := 122) (lo' := [(4, .int i77), (5, .int pl_), (0, .ref h), (1, .ref b), (2, .int x), (3, .int n)]) d_Presser_run_122 (by decide) rfl ?_
            refine pb_re (ws' := [(h, .inr (4, [.ref pp, .ref pl, .ref pe, .ref b, .int x, .int n, .int b_68, .int ln_52, .int ds_53])), (pp, .inr (0, [.ref pb, .int p_69])), (pb, .inl (G.2.1, 4502, .inl f_70)), (pl, .inl (G.2.2.1, 1024, .inl fl_)), (pe, .inl (G.2.2.1, 4000, .inl fe_)), (b, .inl (G.2.1, N, .inl fr))]) (lo' := [(5, .int pl_), (4, .int i77), (0, .ref h), (1, .ref b), (2, .int x), (3, .int n)]) [3, 4, 5, 1, 2, 0] [1, 0, 2, 3, 4, 5] (by decide) rfl rfl rfl ?_
            exact hJ124_42 i77 b_68 ln_52 ds_53 p_69 f_70 fh76 (by first | assumption | omega (splitDisjunctions := false) | omega | decide) (by first | assumption | omega (splitDisjunctions := false) | omega | decide) (by first | assumption | omega (splitDisjunctions := false) | omega | decide) (by first | assumption | omega (splitDisjunctions := false) | omega | decide) (by first | assumption | omega (splitDisjunctions := false) | omega | decide)
          · have tw54 : ¬ 3 ≤ ln_52.toInt := fun z9 => w54 ((ti_le (by decide) rfl).mpr z9)
            refine pb_aload_n (pc := 84) d_Presser_run_84 2 rfl rfl ?_
            refine pb_aload_n (pc := 85) d_Presser_run_85 2 rfl rfl ?_
            refine pb_get (pc := 86) d_Presser_run_86 2 3 rfl rfl (by decide) in_Presser k_186 rfl ?_
            refine pb_aload_n (pc := 89) d_Presser_run_89 2 rfl rfl ?_
            refine pb_get (pc := 90) d_Presser_run_90 2 4 rfl rfl (by decide) in_Presser k_187 rfl ?_
            refine pb_iload (pc := 93) d_Presser_run_93 0 rfl ?_
            refine pb_iadd (pc := 95) d_Presser_run_95 ?_
            refine pb_topi (fun i78 ei78 => ?_)
            try have ti78 : i78.toInt = x.toInt + pl_.toInt := ti_add ei78 rfl rfl (by omega) (by omega)
            refine pb_bald (pc := 96) d_Presser_run_96 3 rfl (vp_in_iff.mpr (by constructor <;> omega)) ?_
            refine pb_topi (fun i79 ei79 => ?_)
            have ti79 : -128 ≤ i79.toInt ∧ i79.toInt ≤ 127 := ti_fit (F_fr _) ei79
            refine pb_sipush (pc := 97) (v := 255) d_Presser_run_97 (by decide) ?_
            refine pb_iand (pc := 100) d_Presser_run_100 ?_
            refine pb_topi (fun i80 ei80 => ?_)
            have ti80 : 0 ≤ i80.toInt ∧ i80.toInt ≤ 255 := ti_and 8 ei80 (by decide) (by decide)
            refine pb_callV (pc := 101) (I := i_Presser_run) (qb := 2) (ci := 4) (nA := 1) (rest := []) (wr := [(b, .inl (G.2.1, N, .inl fr)), (pl, .inl (G.2.2.1, 1024, .inl fl_)), (pe, .inl (G.2.2.1, 4000, .inl fe_))]) d_Presser_run_101 (g_Pr_putSymbol hl G h pp pl pe b pb x n bt_ ln_52 ds_53 f_ ps_ i80 (by first | assumption | omega (splitDisjunctions := false) | omega | decide) (by first | assumption | omega (splitDisjunctions := false) | omega | decide) (by first | assumption | omega (splitDisjunctions := false) | omega | decide) (by first | assumption | omega (splitDisjunctions := false) | omega | decide) (by first | assumption | omega (splitDisjunctions := false) | omega | decide) F_f_) rfl rfl [2, 0, 1] [3, 4, 5] (by decide) rfl rfl rfl (by decide) (by decide) k_527 rfl k_120 k_524 k_526 k_6 ⟨rfl, hy_Presser_putSymbol⟩ (by decide) rfl rfl (Nat.le_of_ble_eq_true rfl) (by decide) (fun v9 u82 ch81 => ?_)
            obtain ⟨b_83, p_84, f_85⟩ := u82
            obtain ⟨ech81, ch81⟩ := ch81
            have ech81 : v9 = none := ech81
            subst ech81
            obtain ⟨fh86, fh87, fh88, fh89, fh90, fh91⟩ : (bt_.toInt ≤ b_83.toInt) ∧ (b_83.toInt ≤ bt_.toInt + 9) ∧ (0 ≤ p_84.toInt) ∧ (p_84.toInt ≤ 4502) ∧ (1 ≤ p_84.toInt ∨ b_83.toInt = 0) ∧ (sb_Fit f_85) := ch81
            refine pb_eq (pc' := 104) (lo' := [(5, .int pl_), (4, .int nx), (0, .ref h), (1, .ref b), (2, .int x), (3, .int n)]) (rest' := []) (ws' := [(b, .inl (G.2.1, N, .inl fr)), (pl, .inl (G.2.2.1, 1024, .inl fl_)), (pe, .inl (G.2.2.1, 4000, .inl fe_)), (h, .inr (4, [.ref pp, .ref pl, .ref pe, .ref b, .int x, .int n, .int b_83, .int ln_52, .int ds_53])), (pp, .inr (0, [.ref pb, .int p_84])), (pb, .inl (G.2.1, 4502, .inl f_85))]) ?_
            refine pb_goto (pc := 104) (tgt := 115) d_Presser_run_104 (by decide) ?_
            refine pb_iload (pc := 115) d_Presser_run_115 1 rfl ?_
            refine pb_aload_n (pc := 117) d_Presser_run_117 2 rfl rfl ?_
            refine pb_get (pc := 118) d_Presser_run_118 3 7 rfl rfl (by decide) in_Presser k_190 rfl ?_
            refine pb_iadd (pc := 121) d_Presser_run_121 ?_
            refine pb_topi (fun i92 ei92 => ?_)
            try have ti92 : i92.toInt = nx.toInt + ln_52.toInt := ti_add ei92 rfl rfl (by omega) (by omega)
            refine pb_istore (pc := 122) (lo' := [(4, .int i92), (5, .int pl_), (0, .ref h), (1, .ref b), (2, .int x), (3, .int n)]) d_Presser_run_122 (by decide) rfl ?_
            refine pb_re (ws' := [(h, .inr (4, [.ref pp, .ref pl, .ref pe, .ref b, .int x, .int n, .int b_83, .int ln_52, .int ds_53])), (pp, .inr (0, [.ref pb, .int p_84])), (pb, .inl (G.2.1, 4502, .inl f_85)), (pl, .inl (G.2.2.1, 1024, .inl fl_)), (pe, .inl (G.2.2.1, 4000, .inl fe_)), (b, .inl (G.2.1, N, .inl fr))]) (lo' := [(5, .int pl_), (4, .int i92), (0, .ref h), (1, .ref b), (2, .int x), (3, .int n)]) [3, 4, 5, 1, 2, 0] [1, 0, 2, 3, 4, 5] (by decide) rfl rfl rfl ?_
            exact hJ124_42 i92 b_83 ln_52 ds_53 p_84 f_85 fh91 (by first | assumption | omega (splitDisjunctions := false) | omega | decide) (by first | assumption | omega (splitDisjunctions := false) | omega | decide) (by first | assumption | omega (splitDisjunctions := false) | omega | decide) (by first | assumption | omega (splitDisjunctions := false) | omega | decide) (by first | assumption | omega (splitDisjunctions := false) | omega | decide)
  refine pb_re (ws' := [(h, .inr (4, [.ref pp, .ref pl, .ref pe, .ref b, .int x, .int n, .int b_19, .int ln, .int ds])), (pp, .inr (0, [.ref pb, .int p_20])), (pb, .inl (G.2.1, 4502, .inl f_21)), (pl, .inl (G.2.2.1, 1024, .inl f_3)), (pe, .inl (G.2.2.1, 4000, .inl fe)), (b, .inl (G.2.1, N, .inl fr))]) (lo' := [(5, .int 0), (4, .int 0), (0, .ref h), (1, .ref b), (2, .int x), (3, .int n)]) [3, 4, 5, 2, 0, 1] [0, 1, 2, 3, 4, 5] (by decide) rfl rfl rfl ?_
  exact hL54_29 _ 0 0 b_19 ln ds p_20 f_21 f_3 fe fh28 (by first | assumption | omega (splitDisjunctions := false) | omega | decide) (by first | assumption | omega (splitDisjunctions := false) | omega | decide) (by first | assumption | omega (splitDisjunctions := false) | omega | decide) (by first | assumption | omega (splitDisjunctions := false) | omega | decide) (by first | assumption | omega (splitDisjunctions := false) | omega | decide) (by first | assumption | omega (splitDisjunctions := false) | omega | decide) (by first | assumption | omega (splitDisjunctions := false) | omega | decide) (pr_0 (fun y h0 h1 => (fillF y h0 h1).trans zm1)) (Nat.lt_succ_self _)
