/-! ROWS OF NUMBERS -/
theorem omg_ad049e0dd8 {x0 : Int} {x1 : Int} {x2 : Int} {x3 : Int} {x4 : Int} (a0 : ((0 : Int) ≤ x0)) (a1 : ((0 : Int) ≤ x1)) (a2 : (x2 = (x0 + x1))) (a3 : (x3 = ((x2 + (8 : Int)) / (8 : Int)))) (a4 : (x4 = (x3 - (1 : Int)))) : ((0 : Int) ≤ x4) := by omega
theorem omg_d0d00eef2d {x0 : Int} {x1 : Int} {x2 : Int} {x3 : Int} {x4 : Int} {x5 : Int} (a0 : ((x0 + x1) ≤ (36016 : Int))) (a1 : (x2 = (x0 + x3))) (a2 : (¬ (x1 ≤ x3))) (a3 : (x4 = ((x2 + (8 : Int)) / (8 : Int)))) (a4 : (x5 = (x4 - (1 : Int)))) : (x5 < (((4502 : Nat) : Nat) : Int)) := by omega
theorem omg_02bf512842 {x0 : Int} {x1 : Int} {x2 : Int} {x3 : Int} (a0 : ((0 : Int) ≤ x0)) (a1 : ((0 : Int) ≤ x1)) (a2 : (x2 = (x0 + x1))) (a3 : (x3 = ((x2 + (8 : Int)) / (8 : Int)))) : ((0 : Int) ≤ (x3 - (1 : Int))) := by omega
theorem omg_2c0cb8f15e {x0 : Int} {x1 : Int} {x2 : Int} (a0 : (x0 = ((x1 + (8 : Int)) / (8 : Int)))) (a1 : (x2 = (x1 + (1 : Int)))) : (x0 = ((x2 + (7 : Int)) / (8 : Int))) := by omega
theorem omg_f49d898d2a {x0 : Int} {x1 : Int} {x2 : Int} {x3 : Int} {x4 : Int} (a0 : (x0 = (x1 + x2))) (a1 : (x3 = (x0 + (1 : Int)))) (a2 : (x4 = (x2 + (1 : Int)))) : (x3 = (x1 + x4)) := by omega
theorem omg_bf302c0ba1 {x0 : Int} {x1 : Int} {x2 : Int} (a0 : (x0 = ((x1 + (7 : Int)) / (8 : Int)))) (a1 : (x2 = (x1 % (8 : Int)))) (a2 : (¬ (x2 = (0 : Int)))) : (x0 = ((x1 + (8 : Int)) / (8 : Int))) := by omega
theorem omg_7f8289d8af {x0 : Int} {x1 : Int} {x2 : Int} {x3 : Int} (a0 : ((0 : Int) ≤ x0)) (a1 : ((0 : Int) ≤ x1)) (a2 : (x2 = (x0 + x1))) (a3 : (x3 = ((x2 + (7 : Int)) / (8 : Int)))) : ((0 : Int) ≤ x3) := by omega
theorem d_JArrays_fill_0 : decode prog_24_method_103_code 0 = .ok (.iconst 0, 1) := by decide +kernel
theorem d_JArrays_fill_1 : decode prog_24_method_103_code 1 = .ok (.istore_n 2, 1) := by decide +kernel
theorem d_JArrays_fill_2 : decode prog_24_method_103_code 2 = .ok (.aload_n 0, 1) := by decide +kernel
theorem d_JArrays_fill_3 : decode prog_24_method_103_code 3 = .ok (.arraylength, 1) := by decide +kernel
theorem d_JArrays_fill_4 : decode prog_24_method_103_code 4 = .ok (.istore_n 3, 1) := by decide +kernel
theorem d_JArrays_fill_5 : decode prog_24_method_103_code 5 = .ok (.iload_n 2, 1) := by decide +kernel
theorem d_JArrays_fill_6 : decode prog_24_method_103_code 6 = .ok (.iload_n 3, 1) := by decide +kernel
theorem d_JArrays_fill_7 : decode prog_24_method_103_code 7 = .ok (.if_icmp .ge 13, 3) := by decide +kernel
theorem d_JArrays_fill_20 : decode prog_24_method_103_code 20 = .ok (.return_, 1) := by decide +kernel
theorem d_JArrays_fill_10 : decode prog_24_method_103_code 10 = .ok (.aload_n 0, 1) := by decide +kernel
theorem d_JArrays_fill_11 : decode prog_24_method_103_code 11 = .ok (.iload_n 2, 1) := by decide +kernel
theorem d_JArrays_fill_12 : decode prog_24_method_103_code 12 = .ok (.iload_n 1, 1) := by decide +kernel
theorem d_JArrays_fill_13 : decode prog_24_method_103_code 13 = .ok (.iastore, 1) := by decide +kernel
theorem d_JArrays_fill_14 : decode prog_24_method_103_code 14 = .ok (.iinc 2 1, 3) := by decide +kernel
theorem d_JArrays_fill_17 : decode prog_24_method_103_code 17 = .ok (.goto (-12), 3) := by decide +kernel
abbrev y_JArrays_fill : MethodName := ⟨"java/util/Arrays", "fill", "([II)V"⟩
abbrev i_JArrays_fill : pb_I := (y_JArrays_fill, prog_24_method_103_code, 4, (Option.none : Option Jvm.ClassFile.FieldType), [], { frames := 0, cells := 0, slots := 0, locals := 0 })
set_option maxRecDepth 100000 in
set_option maxHeartbeats 4000000 in
theorem g_fill {l : Launch} (hl : l.stackTraces = false) (G : pb_G) (b : Nat) (N : Nat) (f : Nat → Int32) (vv : Int32) (hN : N ≤ 100000) : Cn l G i_JArrays_fill [.ref b, .int vv] [(b, .inl (G.2.2.1, N, .inl f))] (S := (Nat → Int32)) (fun rv_ u => rv_ = none ∧ (∀ x : Int, 0 ≤ x → x < N → gx u x = vv.toInt)) (fun u => [(b, .inl (G.2.2.1, N, .inl u))]) := by
  refine Cn.of hl (by decide +kernel) rfl (Nat.le_of_ble_eq_true rfl) (fun M hQ => ?_)
  refine pb_eq (pc' := 0) (lo' := [(0, .ref b), (1, .int vv)]) (rest' := []) (ws' := [(b, .inl (G.2.2.1, N, .inl f))]) ?_
  have zl0 : (0 : Int32).toInt = 0 := by decide
  have zl1 : (1 : Int32).toInt = 1 := by decide
  refine pb_iconst (pc := 0) (v := 0) d_JArrays_fill_0 (by decide) ?_
  refine pb_istore_n (pc := 1) (lo' := [(2, .int 0), (0, .ref b), (1, .int vv)]) d_JArrays_fill_1 rfl (by decide) rfl ?_
  refine pb_aload_n (pc := 2) d_JArrays_fill_2 1 rfl rfl ?_
  refine pb_alen (pc := 3) d_JArrays_fill_3 0 1 rfl rfl rfl ?_
  refine pb_topi (fun i1 ei1 => ?_)
  have ti1 : i1.toInt = (N : Int) := ti_ofNat ei1 (by omega)
  refine pb_istore_n (pc := 4) (lo' := [(3, .int i1), (2, .int 0), (0, .ref b), (1, .int vv)]) d_JArrays_fill_4 rfl (by decide) rfl ?_
  have hL5_2 : ∀ (N9 : Nat) (k : Int32) (L : Int32) (g : Nat → Int32), (0 ≤ k.toInt) → (L.toInt = N) → (∀ x : Int, 0 ≤ x → x < k.toInt → gx g x = vv.toInt) → (((N : Int) - k.toInt).toNat) < N9 → pb_P l G M i_JArrays_fill 5 [(3, .int L), (2, .int k), (0, .ref b), (1, .int vv)] [] [(b, .inl (G.2.2.1, N, .inl g))] 0 0 := by
    intro N9
    induction N9 with
    | zero => intro k L g hk hL hg hm9; exact absurd hm9 (Nat.not_lt_zero _)
    | succ N9 ih5 =>
      intro k L g hk hL hg hm9
      refine pb_iload_n (pc := 5) d_JArrays_fill_5 1 rfl rfl ?_
      refine pb_iload_n (pc := 6) d_JArrays_fill_6 0 rfl rfl ?_
      refine pb_icmp_ge (pc := 7) (tgt := 20) d_JArrays_fill_7 (by decide) (fun w3 => ?_) (fun w3 => ?_)
      · have tw3 : L.toInt ≤ k.toInt := (ti_le rfl rfl).mp w3
        exact pb_vret (pc := 20) hQ d_JArrays_fill_20 rfl (g) ⟨rfl, (show ∀ x : Int, 0 ≤ x → x < N → gx g x = vv.toInt from (fun x h0 h1 => hg x h0 (by omega)))⟩ [0] (by decide) rfl rfl (by decide) (by decide)
      · have tw3 : ¬ L.toInt ≤ k.toInt := fun z9 => w3 ((ti_le rfl rfl).mpr z9)
        refine pb_aload_n (pc := 10) d_JArrays_fill_10 2 rfl rfl ?_
        refine pb_iload_n (pc := 11) d_JArrays_fill_11 1 rfl rfl ?_
        refine pb_iload_n (pc := 12) d_JArrays_fill_12 3 rfl rfl ?_
        refine pb_iast (pc := 13) (ws' := [(b, .inl (G.2.2.1, N, .inl (upd g ((k : Int32).toNatClampNeg) vv)))]) d_JArrays_fill_13 0 rfl (vp_in_iff.mpr (by constructor <;> omega)) rfl ?_
        refine pb_iincN (pc := 14) (c := 1) d_JArrays_fill_14 1 rfl (by decide) (by decide) (fun i4 ei4 => ?_)
        have ti4 : i4.toInt = k.toInt + 1 := ti_add ei4 rfl (by decide) (by omega) (by omega)
        refine pb_eq (pc' := 17) (lo' := [(2, .int i4), (3, .int L), (0, .ref b), (1, .int vv)]) (rest' := []) (ws' := [(b, .inl (G.2.2.1, N, .inl (upd g ((k : Int32).toNatClampNeg) vv)))]) ?_
        refine pb_goto (pc := 17) (tgt := 5) d_JArrays_fill_17 (by decide) ?_
        refine pb_re (ws' := [(b, .inl (G.2.2.1, N, .inl (upd g ((k : Int32).toNatClampNeg) vv)))]) (lo' := [(3, .int L), (2, .int i4), (0, .ref b), (1, .int vv)]) [0] [1, 0, 2, 3] (by decide) rfl rfl rfl ?_
        exact ih5 i4 L (upd g ((k : Int32).toNatClampNeg) vv) (by first | (with_reducible assumption) | omega (splitDisjunctions := false) | assumption | omega | decide) (by first | (with_reducible assumption) | omega (splitDisjunctions := false) | assumption | omega | decide) (fun x h0 h1 => by rw [gx_upd rfl x (by omega) h0]; split <;> first | rfl | exact hg x h0 (by omega)) (by omega)
  exact hL5_2 _ 0 i1 f (by first | (with_reducible assumption) | omega (splitDisjunctions := false) | assumption | omega | decide) (by first | (with_reducible assumption) | omega (splitDisjunctions := false) | assumption | omega | decide) (fun x h0 h1 => absurd h1 (by omega)) (Nat.lt_succ_self _)

theorem d_Presser_turned_0 : decode prog_8_method_10_code 0 = .ok (.iconst 0, 1) := by decide +kernel
theorem d_Presser_turned_1 : decode prog_8_method_10_code 1 = .ok (.istore_n 2, 1) := by decide +kernel
theorem d_Presser_turned_2 : decode prog_8_method_10_code 2 = .ok (.iconst 0, 1) := by decide +kernel
theorem d_Presser_turned_3 : decode prog_8_method_10_code 3 = .ok (.istore_n 3, 1) := by decide +kernel
theorem d_Presser_turned_4 : decode prog_8_method_10_code 4 = .ok (.iload_n 3, 1) := by decide +kernel
theorem d_Presser_turned_5 : decode prog_8_method_10_code 5 = .ok (.iload_n 1, 1) := by decide +kernel
theorem d_Presser_turned_6 : decode prog_8_method_10_code 6 = .ok (.if_icmp .ge 19, 3) := by decide +kernel
theorem d_Presser_turned_25 : decode prog_8_method_10_code 25 = .ok (.iload_n 2, 1) := by decide +kernel
theorem d_Presser_turned_26 : decode prog_8_method_10_code 26 = .ok (.ireturn, 1) := by decide +kernel
theorem d_Presser_turned_9 : decode prog_8_method_10_code 9 = .ok (.iconst 2, 1) := by decide +kernel
theorem d_Presser_turned_10 : decode prog_8_method_10_code 10 = .ok (.iload_n 2, 1) := by decide +kernel
theorem d_Presser_turned_11 : decode prog_8_method_10_code 11 = .ok (.imul, 1) := by decide +kernel
theorem d_Presser_turned_12 : decode prog_8_method_10_code 12 = .ok (.iload_n 0, 1) := by decide +kernel
theorem d_Presser_turned_13 : decode prog_8_method_10_code 13 = .ok (.iload_n 3, 1) := by decide +kernel
theorem d_Presser_turned_14 : decode prog_8_method_10_code 14 = .ok (.ishr, 1) := by decide +kernel
theorem d_Presser_turned_15 : decode prog_8_method_10_code 15 = .ok (.iconst 1, 1) := by decide +kernel
theorem d_Presser_turned_16 : decode prog_8_method_10_code 16 = .ok (.iand, 1) := by decide +kernel
theorem d_Presser_turned_17 : decode prog_8_method_10_code 17 = .ok (.iadd, 1) := by decide +kernel
theorem d_Presser_turned_18 : decode prog_8_method_10_code 18 = .ok (.istore_n 2, 1) := by decide +kernel
theorem d_Presser_turned_19 : decode prog_8_method_10_code 19 = .ok (.iinc 3 1, 3) := by decide +kernel
theorem d_Presser_turned_22 : decode prog_8_method_10_code 22 = .ok (.goto (-18), 3) := by decide +kernel
abbrev y_Presser_turned : MethodName := ⟨"PackageBook$Presser", "turned", "(II)I"⟩
abbrev i_Presser_turned : pb_I := (y_Presser_turned, prog_8_method_10_code, 4, (some Jvm.ClassFile.FieldType.int), [], { frames := 0, cells := 0, slots := 0, locals := 0 })
set_option maxRecDepth 100000 in
set_option maxHeartbeats 4000000 in
theorem g_Pr_turned {l : Launch} (hl : l.stackTraces = false) (G : pb_G) (x : Int32) (n : Int32) (x0 : 0 ≤ x.toInt) (n0 : 0 ≤ n.toInt) (n1 : n.toInt ≤ 16) : Cn l G i_Presser_turned [.int x, .int n] [] (S := Int32) (fun rv_ u => rv_ = some (.int u) ∧ (u.toInt = tu_ x.toInt n.toInt.toNat)) (fun u => []) := by
  refine Cn.of hl (by decide +kernel) rfl (Nat.le_of_ble_eq_true rfl) (fun M hQ => ?_)
  refine pb_eq (pc' := 0) (lo' := [(0, .int x), (1, .int n)]) (rest' := []) (ws' := []) ?_
  have zl0 : (0 : Int32).toInt = 0 := by decide
  have zl1 : (1 : Int32).toInt = 1 := by decide
  have zl2 : (2 : Int32).toInt = 2 := by decide
  have rn := ti_rng n
  refine pb_iconst (pc := 0) (v := 0) d_Presser_turned_0 (by decide) ?_
  refine pb_istore_n (pc := 1) (lo' := [(2, .int 0), (0, .int x), (1, .int n)]) d_Presser_turned_1 rfl (by decide) rfl ?_
  refine pb_iconst (pc := 2) (v := 0) d_Presser_turned_2 (by decide) ?_
  refine pb_istore_n (pc := 3) (lo' := [(3, .int 0), (2, .int 0), (0, .int x), (1, .int n)]) d_Presser_turned_3 rfl (by decide) rfl ?_
  have hL4_1 : ∀ (N9 : Nat) (k : Int32) (v : Int32), (0 ≤ k.toInt) → (k.toInt ≤ n.toInt) → (v.toInt = tu_ x.toInt k.toInt.toNat) → ((n.toInt - k.toInt).toNat) < N9 → pb_P l G M i_Presser_turned 4 [(3, .int k), (2, .int v), (0, .int x), (1, .int n)] [] [] 0 0 := by
    intro N9
    induction N9 with
    | zero => intro k v hk hk2 hv hm9; exact absurd hm9 (Nat.not_lt_zero _)
    | succ N9 ih4 =>
      intro k v hk hk2 hv hm9
      have hvr := tu_rng x.toInt k.toInt.toNat
      have hpl := p2_le (k := ((k.toInt.toNat : Nat) : Int)) (by omega)
      refine pb_iload_n (pc := 4) d_Presser_turned_4 0 rfl rfl ?_
      refine pb_iload_n (pc := 5) d_Presser_turned_5 3 rfl rfl ?_
      refine pb_icmp_ge (pc := 6) (tgt := 25) d_Presser_turned_6 (by decide) (fun w2 => ?_) (fun w2 => ?_)
      · have tw2 : n.toInt ≤ k.toInt := (ti_le rfl rfl).mp w2
        refine pb_iload_n (pc := 25) d_Presser_turned_25 1 rfl rfl ?_
        exact pb_iret (pc := 26) hQ d_Presser_turned_26 rfl rfl (v) ⟨rfl, (show v.toInt = tu_ x.toInt n.toInt.toNat from (by rw [show n.toInt = k.toInt by omega]; exact hv))⟩ [] (by decide) rfl rfl (by decide) (by decide)
      · have tw2 : ¬ n.toInt ≤ k.toInt := fun z9 => w2 ((ti_le rfl rfl).mpr z9)
        refine pb_iconst (pc := 9) (v := 2) d_Presser_turned_9 (by decide) ?_
        refine pb_iload_n (pc := 10) d_Presser_turned_10 1 rfl rfl ?_
        refine pb_imul (pc := 11) d_Presser_turned_11 ?_
        refine pb_topi (fun i3 ei3 => ?_)
        try have ti3 : i3.toInt = 2 * v.toInt := ti_mul ei3 (by decide) rfl (by omega) (by omega)
        refine pb_iload_n (pc := 12) d_Presser_turned_12 2 rfl rfl ?_
        refine pb_iload_n (pc := 13) d_Presser_turned_13 0 rfl rfl ?_
        refine pb_ishr (pc := 14) d_Presser_turned_14 ?_
        refine pb_topi (fun i4 ei4 => ?_)
        have eQ := ei4
        refine pb_iconst (pc := 15) (v := 1) d_Presser_turned_15 (by decide) ?_
        refine pb_iand (pc := 16) d_Presser_turned_16 ?_
        refine pb_topi (fun i5 ei5 => ?_)
        have ti5 : 0 ≤ i5.toInt ∧ i5.toInt ≤ 1 := ti_and 1 ei5 (by decide) (by decide)
        have eB := ei5
        refine pb_iadd (pc := 17) d_Presser_turned_17 ?_
        refine pb_topi (fun i6 ei6 => ?_)
        try have ti6 : i6.toInt = i3.toInt + i5.toInt := ti_add ei6 rfl rfl (by omega) (by omega)
        refine pb_istore_n (pc := 18) (lo' := [(2, .int i6), (3, .int k), (0, .int x), (1, .int n)]) d_Presser_turned_18 rfl (by decide) rfl ?_
        refine pb_iincN (pc := 19) (c := 1) d_Presser_turned_19 1 rfl (by decide) (by decide) (fun i7 ei7 => ?_)
        have ti7 : i7.toInt = k.toInt + 1 := ti_add ei7 rfl (by decide) (by omega) (by omega)
        refine pb_eq (pc' := 22) (lo' := [(3, .int i7), (2, .int i6), (0, .int x), (1, .int n)]) (rest' := []) (ws' := []) ?_
        refine pb_goto (pc := 22) (tgt := 4) d_Presser_turned_22 (by decide) ?_
        exact ih4 i7 i6 (by first | (with_reducible assumption) | omega (splitDisjunctions := false) | assumption | omega | decide) (by first | (with_reducible assumption) | omega (splitDisjunctions := false) | assumption | omega | decide) (tu_st hv hk (by omega) (bt_E eB eQ x0 (by omega) (by omega)) (by omega)) (by omega)
  exact hL4_1 _ 0 0 (by first | (with_reducible assumption) | omega (splitDisjunctions := false) | assumption | omega | decide) (by first | (with_reducible assumption) | omega (splitDisjunctions := false) | assumption | omega | decide) (by rw [zl0]; rfl) (Nat.lt_succ_self _)

theorem d_Presser_putNumber_0 : decode prog_8_method_11_code 0 = .ok (.iconst 0, 1) := by decide +kernel
theorem d_Presser_putNumber_1 : decode prog_8_method_11_code 1 = .ok (.istore_n 3, 1) := by decide +kernel
theorem d_Presser_putNumber_2 : decode prog_8_method_11_code 2 = .ok (.iload_n 3, 1) := by decide +kernel
theorem d_Presser_putNumber_3 : decode prog_8_method_11_code 3 = .ok (.iload_n 2, 1) := by decide +kernel
theorem d_Presser_putNumber_4 : decode prog_8_method_11_code 4 = .ok (.if_icmp .ge 106, 3) := by decide +kernel
theorem d_Presser_putNumber_110 : decode prog_8_method_11_code 110 = .ok (.return_, 1) := by decide +kernel
theorem d_Presser_putNumber_59 : decode prog_8_method_11_code 59 = .ok (.aload_n 0, 1) := by decide +kernel
theorem d_Presser_putNumber_60 : decode prog_8_method_11_code 60 = .ok (.getfield 14, 3) := by decide +kernel
theorem d_Presser_putNumber_63 : decode prog_8_method_11_code 63 = .ok (.getfield 90, 3) := by decide +kernel
theorem k_161 : (Jvm.Cond.fieldLinkNest "PackageBook$Presser" (90 : Nat) "PackageBook$Row" "bytes" "[B" "PackageBook") ∈ uN := uN_of 161 (by decide +kernel) (by decide +kernel)
theorem d_Presser_putNumber_66 : decode prog_8_method_11_code 66 = .ok (.aload_n 0, 1) := by decide +kernel
theorem d_Presser_putNumber_67 : decode prog_8_method_11_code 67 = .ok (.getfield 14, 3) := by decide +kernel
theorem d_Presser_putNumber_70 : decode prog_8_method_11_code 70 = .ok (.getfield 38, 3) := by decide +kernel
theorem k_164 : (Jvm.Cond.fieldLinkNest "PackageBook$Presser" (38 : Nat) "PackageBook$Row" "size" "I" "PackageBook") ∈ uN := uN_of 164 (by decide +kernel) (by decide +kernel)
theorem d_Presser_putNumber_73 : decode prog_8_method_11_code 73 = .ok (.iconst 1, 1) := by decide +kernel
theorem d_Presser_putNumber_74 : decode prog_8_method_11_code 74 = .ok (.isub, 1) := by decide +kernel
theorem d_Presser_putNumber_75 : decode prog_8_method_11_code 75 = .ok (.dup2, 1) := by decide +kernel
theorem d_Presser_putNumber_76 : decode prog_8_method_11_code 76 = .ok (.baload, 1) := by decide +kernel
theorem d_Presser_putNumber_77 : decode prog_8_method_11_code 77 = .ok (.iload_n 1, 1) := by decide +kernel
theorem d_Presser_putNumber_78 : decode prog_8_method_11_code 78 = .ok (.iload_n 3, 1) := by decide +kernel
theorem d_Presser_putNumber_79 : decode prog_8_method_11_code 79 = .ok (.ishr, 1) := by decide +kernel
theorem d_Presser_putNumber_80 : decode prog_8_method_11_code 80 = .ok (.iconst 1, 1) := by decide +kernel
theorem d_Presser_putNumber_81 : decode prog_8_method_11_code 81 = .ok (.iand, 1) := by decide +kernel
theorem d_Presser_putNumber_82 : decode prog_8_method_11_code 82 = .ok (.aload_n 0, 1) := by decide +kernel
theorem d_Presser_putNumber_83 : decode prog_8_method_11_code 83 = .ok (.getfield 39, 3) := by decide +kernel
theorem k_189 : (Jvm.Cond.fieldLink "PackageBook$Presser" (39 : Nat) "PackageBook$Presser" "bits" "I") ∈ uW := uW_of 189 (by decide +kernel) (by decide +kernel)
theorem d_Presser_putNumber_86 : decode prog_8_method_11_code 86 = .ok (.bipush 8, 2) := by decide +kernel
theorem d_Presser_putNumber_88 : decode prog_8_method_11_code 88 = .ok (.irem, 1) := by decide +kernel
theorem d_Presser_putNumber_89 : decode prog_8_method_11_code 89 = .ok (.ishl, 1) := by decide +kernel
theorem d_Presser_putNumber_90 : decode prog_8_method_11_code 90 = .ok (.i2b, 1) := by decide +kernel
theorem d_Presser_putNumber_91 : decode prog_8_method_11_code 91 = .ok (.ior, 1) := by decide +kernel
theorem d_Presser_putNumber_92 : decode prog_8_method_11_code 92 = .ok (.i2b, 1) := by decide +kernel
theorem d_Presser_putNumber_93 : decode prog_8_method_11_code 93 = .ok (.bastore, 1) := by decide +kernel
theorem d_Presser_putNumber_94 : decode prog_8_method_11_code 94 = .ok (.aload_n 0, 1) := by decide +kernel
theorem d_Presser_putNumber_95 : decode prog_8_method_11_code 95 = .ok (.dup, 1) := by decide +kernel
theorem d_Presser_putNumber_96 : decode prog_8_method_11_code 96 = .ok (.getfield 39, 3) := by decide +kernel
theorem d_Presser_putNumber_99 : decode prog_8_method_11_code 99 = .ok (.iconst 1, 1) := by decide +kernel
theorem d_Presser_putNumber_100 : decode prog_8_method_11_code 100 = .ok (.iadd, 1) := by decide +kernel
theorem d_Presser_putNumber_101 : decode prog_8_method_11_code 101 = .ok (.putfield 39, 3) := by decide +kernel
theorem d_Presser_putNumber_104 : decode prog_8_method_11_code 104 = .ok (.iinc 3 1, 3) := by decide +kernel
theorem d_Presser_putNumber_107 : decode prog_8_method_11_code 107 = .ok (.goto (-105), 3) := by decide +kernel
theorem d_Presser_putNumber_7 : decode prog_8_method_11_code 7 = .ok (.aload_n 0, 1) := by decide +kernel
theorem d_Presser_putNumber_8 : decode prog_8_method_11_code 8 = .ok (.getfield 39, 3) := by decide +kernel
theorem d_Presser_putNumber_11 : decode prog_8_method_11_code 11 = .ok (.bipush 8, 2) := by decide +kernel
theorem d_Presser_putNumber_13 : decode prog_8_method_11_code 13 = .ok (.irem, 1) := by decide +kernel
theorem d_Presser_putNumber_14 : decode prog_8_method_11_code 14 = .ok (.ifCond .ne 45, 3) := by decide +kernel
theorem d_Presser_putNumber_17 : decode prog_8_method_11_code 17 = .ok (.aload_n 0, 1) := by decide +kernel
theorem d_Presser_putNumber_18 : decode prog_8_method_11_code 18 = .ok (.getfield 14, 3) := by decide +kernel
theorem d_Presser_putNumber_21 : decode prog_8_method_11_code 21 = .ok (.getfield 38, 3) := by decide +kernel
theorem d_Presser_putNumber_24 : decode prog_8_method_11_code 24 = .ok (.sipush 4502, 3) := by decide +kernel
theorem d_Presser_putNumber_27 : decode prog_8_method_11_code 27 = .ok (.if_icmp .ge 32, 3) := by decide +kernel
theorem d_Presser_putNumber_30 : decode prog_8_method_11_code 30 = .ok (.aload_n 0, 1) := by decide +kernel
theorem d_Presser_putNumber_31 : decode prog_8_method_11_code 31 = .ok (.getfield 14, 3) := by decide +kernel
theorem d_Presser_putNumber_34 : decode prog_8_method_11_code 34 = .ok (.getfield 90, 3) := by decide +kernel
theorem d_Presser_putNumber_37 : decode prog_8_method_11_code 37 = .ok (.aload_n 0, 1) := by decide +kernel
theorem d_Presser_putNumber_38 : decode prog_8_method_11_code 38 = .ok (.getfield 14, 3) := by decide +kernel
theorem d_Presser_putNumber_41 : decode prog_8_method_11_code 41 = .ok (.getfield 38, 3) := by decide +kernel
theorem d_Presser_putNumber_44 : decode prog_8_method_11_code 44 = .ok (.iconst 0, 1) := by decide +kernel
theorem d_Presser_putNumber_45 : decode prog_8_method_11_code 45 = .ok (.bastore, 1) := by decide +kernel
theorem d_Presser_putNumber_46 : decode prog_8_method_11_code 46 = .ok (.aload_n 0, 1) := by decide +kernel
theorem d_Presser_putNumber_47 : decode prog_8_method_11_code 47 = .ok (.getfield 14, 3) := by decide +kernel
theorem d_Presser_putNumber_50 : decode prog_8_method_11_code 50 = .ok (.dup, 1) := by decide +kernel
theorem d_Presser_putNumber_51 : decode prog_8_method_11_code 51 = .ok (.getfield 38, 3) := by decide +kernel
theorem d_Presser_putNumber_54 : decode prog_8_method_11_code 54 = .ok (.iconst 1, 1) := by decide +kernel
theorem d_Presser_putNumber_55 : decode prog_8_method_11_code 55 = .ok (.iadd, 1) := by decide +kernel
theorem d_Presser_putNumber_56 : decode prog_8_method_11_code 56 = .ok (.putfield 38, 3) := by decide +kernel
abbrev y_Presser_putNumber : MethodName := ⟨"PackageBook$Presser", "putNumber", "(II)V"⟩
abbrev i_Presser_putNumber : pb_I := (y_Presser_putNumber, prog_8_method_11_code, 4, (Option.none : Option Jvm.ClassFile.FieldType), [], { frames := 0, cells := 0, slots := 0, locals := 0 })
set_option maxRecDepth 100000 in
set_option maxHeartbeats 4000000 in
theorem g_Pr_putNumber {l : Launch} (hl : l.stackTraces = false) (G : pb_G) (h : Nat) (pp : Nat) (pl : Nat) (pe : Nat) (pr : Nat) (pb : Nat) (bg : Int32) (sz : Int32) (bt : Int32) (ln : Int32) (ds : Int32) (f : Nat → Int32) (ps : Int32) (v : Int32) (n : Int32) (S : Int × (Int → Int)) (k0 : 0 ≤ bt.toInt) (k1 : bt.toInt + n.toInt ≤ 36016) (k5 : ps.toInt = (bt.toInt + 7) / 8) (n0 : 0 ≤ n.toInt) (n1 : n.toInt ≤ 100) (hS : pC_ f ps.toInt bt.toInt S) (v0 : 0 ≤ v.toInt) (n9 : n.toInt ≤ 30) (F_f : sb_Fit f) : Cn l G i_Presser_putNumber [.ref h, .int v, .int n] [(h, .inr (4, [.ref pp, .ref pl, .ref pe, .ref pr, .int bg, .int sz, .int bt, .int ln, .int ds])), (pp, .inr (0, [.ref pb, .int ps])), (pb, .inl (G.2.1, 4502, .inl f))] (S := Int32 × Int32 × (Nat → Int32)) (fun rv_ u => rv_ = none ∧ (u.1.toInt = bt.toInt + n.toInt) ∧ (u.2.1.toInt = (u.1.toInt + 7) / 8) ∧ (pC_ u.2.2 u.2.1.toInt u.1.toInt (bn_ S v.toInt n.toInt.toNat)) ∧ (sb_Fit u.2.2)) (fun u => [(h, .inr (4, [.ref pp, .ref pl, .ref pe, .ref pr, .int bg, .int sz, .int u.1, .int ln, .int ds])), (pp, .inr (0, [.ref pb, .int u.2.1])), (pb, .inl (G.2.1, 4502, .inl u.2.2))]) := by
  refine Cn.of hl (by decide +kernel) rfl (Nat.le_of_ble_eq_true rfl) (fun M hQ => ?_)
  refine pb_eq (pc' := 0) (lo' := [(0, .ref h), (1, .int v), (2, .int n)]) (rest' := []) (ws' := [(h, .inr (4, [.ref pp, .ref pl, .ref pe, .ref pr, .int bg, .int sz, .int bt, .int ln, .int ds])), (pp, .inr (0, [.ref pb, .int ps])), (pb, .inl (G.2.1, 4502, .inl f))]) ?_
  have zl0 : (0 : Int32).toInt = 0 := by decide
  have zl1 : (1 : Int32).toInt = 1 := by decide
  have zl8 : (8 : Int32).toInt = 8 := by decide
  have zl4502 : (4502 : Int32).toInt = 4502 := by decide
  refine pb_iconst (pc := 0) (v := 0) d_Presser_putNumber_0 (by decide) ?_
  refine pb_istore_n (pc := 1) (lo' := [(3, .int 0), (0, .ref h), (1, .int v), (2, .int n)]) d_Presser_putNumber_1 rfl (by decide) rfl ?_
  have hL2_1 : ∀ (N9 : Nat) (k : Int32) (b : Int32) (s : Int32) (g : Nat → Int32), (sb_Fit g) → (0 ≤ k.toInt) → (k.toInt ≤ n.toInt) → (b.toInt = bt.toInt + k.toInt) → (s.toInt = (b.toInt + 7) / 8) → (pC_ g s.toInt b.toInt (bn_ S v.toInt k.toInt.toNat)) → ((n.toInt - k.toInt).toNat) < N9 → pb_P l G M i_Presser_putNumber 2 [(3, .int k), (0, .ref h), (1, .int v), (2, .int n)] [] [(h, .inr (4, [.ref pp, .ref pl, .ref pe, .ref pr, .int bg, .int sz, .int b, .int ln, .int ds])), (pp, .inr (0, [.ref pb, .int s])), (pb, .inl (G.2.1, 4502, .inl g))] 0 0 := by
    intro N9
    induction N9 with
    | zero => intro k b s g F_g hk hk2 hb hz hS2 hm9; exact absurd hm9 (Nat.not_lt_zero _)
    | succ N9 ih2 =>
      intro k b s g F_g hk hk2 hb hz hS2 hm9
      refine pb_iload_n (pc := 2) d_Presser_putNumber_2 0 rfl rfl ?_
      refine pb_iload_n (pc := 3) d_Presser_putNumber_3 3 rfl rfl ?_
      refine pb_icmp_ge (pc := 4) (tgt := 110) d_Presser_putNumber_4 (by decide) (fun w2 => ?_) (fun w2 => ?_)
      · have tw2 : n.toInt ≤ k.toInt := (ti_le rfl rfl).mp w2
        exact pb_vret (pc := 110) hQ d_Presser_putNumber_110 rfl (b, s, g) ⟨rfl, (by (try dsimp only); first | done | (with_reducible assumption) | omega (splitDisjunctions := false) | assumption | omega | decide), (by (try dsimp only); first | done | (with_reducible assumption) | omega (splitDisjunctions := false) | assumption | omega | decide), (show pC_ g s.toInt b.toInt (bn_ S v.toInt n.toInt.toNat) from (by rw [show n.toInt = k.toInt by omega]; exact hS2)), F_g⟩ [0, 1, 2] (by decide) rfl rfl (by decide) (by decide)
      · have tw2 : ¬ n.toInt ≤ k.toInt := fun z9 => w2 ((ti_le rfl rfl).mpr z9)
        have hJ59_3 : ∀ (s3 : Int32) (g3 : Nat → Int32), (sb_Fit g3) → (s3.toInt = (b.toInt + 8) / 8) → (pD_ g3 s3.toInt b.toInt (bn_ S v.toInt k.toInt.toNat)) → pb_P l G M i_Presser_putNumber 59 [(3, .int k), (0, .ref h), (1, .int v), (2, .int n)] [] [(h, .inr (4, [.ref pp, .ref pl, .ref pe, .ref pr, .int bg, .int sz, .int b, .int ln, .int ds])), (pp, .inr (0, [.ref pb, .int s3])), (pb, .inl (G.2.1, 4502, .inl g3))] 0 0 := by
          intro s3 g3 F_g3 hq hD
          refine pb_aload_n (pc := 59) d_Presser_putNumber_59 1 rfl rfl ?_
          refine pb_get (pc := 60) d_Presser_putNumber_60 0 0 rfl rfl (by decide) in_Presser k_181 rfl ?_
          refine pb_getN (pc := 63) d_Presser_putNumber_63 1 0 rfl rfl (by decide) in_Row k_161 rfl ?_
          refine pb_aload_n (pc := 66) d_Presser_putNumber_66 1 rfl rfl ?_
          refine pb_get (pc := 67) d_Presser_putNumber_67 0 0 rfl rfl (by decide) in_Presser k_181 rfl ?_
          refine pb_getN (pc := 70) d_Presser_putNumber_70 1 1 rfl rfl (by decide) in_Row k_164 rfl ?_
          refine pb_iconst (pc := 73) (v := 1) d_Presser_putNumber_73 (by decide) ?_
          refine pb_isub (pc := 74) d_Presser_putNumber_74 ?_
          refine pb_topi (fun i4 ei4 => ?_)
          try have ti4 : i4.toInt = s3.toInt - 1 := ti_sub ei4 rfl (by decide) (by omega) (by omega)
          refine pb_dup2_11 (pc := 75) d_Presser_putNumber_75 rfl rfl ?_
          refine pb_bald (pc := 76) d_Presser_putNumber_76 2 rfl (vp_in_iff.mpr (by constructor <;> (first | exact omg_ad049e0dd8 k0 hk hb hq ti4 | exact omg_d0d00eef2d k1 hb tw2 hq ti4 | omega))) ?_
          refine pb_topi (fun i5 ei5 => ?_)
          have xi5 : i5 = gr g3 (s3.toInt - 1) := gr_ld ei5 (by omega)
          have yi5 : i5.toInt = gx g3 (s3.toInt - 1) := congrArg Int32.toInt xi5
          have ti5 : -128 ≤ i5.toInt ∧ i5.toInt ≤ 127 := ti_fit (F_g3 _) ei5
          refine pb_iload_n (pc := 77) d_Presser_putNumber_77 2 rfl rfl ?_
          refine pb_iload_n (pc := 78) d_Presser_putNumber_78 0 rfl rfl ?_
          refine pb_ishr (pc := 79) d_Presser_putNumber_79 ?_
          refine pb_topi (fun i6 ei6 => ?_)
          have eQ := ei6
          refine pb_iconst (pc := 80) (v := 1) d_Presser_putNumber_80 (by decide) ?_
          refine pb_iand (pc := 81) d_Presser_putNumber_81 ?_
          refine pb_topi (fun i7 ei7 => ?_)
          have ti7 : 0 ≤ i7.toInt ∧ i7.toInt ≤ 1 := ti_and 1 ei7 (by decide) (by decide)
          have eB := ei7
          refine pb_aload_n (pc := 82) d_Presser_putNumber_82 1 rfl rfl ?_
          refine pb_get (pc := 83) d_Presser_putNumber_83 0 6 rfl rfl (by decide) in_Presser k_189 rfl ?_
          refine pb_bipush (pc := 86) (v := 8) d_Presser_putNumber_86 (by decide) ?_
          refine pb_irem (pc := 88) d_Presser_putNumber_88 (by decide) ?_
          refine pb_topi (fun i8 ei8 => ?_)
          try have ti8 : i8.toInt = b.toInt % 8 := ti_rem 8 ei8 rfl (by decide) (by omega) (by decide)
          refine pb_ishl (pc := 89) d_Presser_putNumber_89 ?_
          refine pb_topi (fun i9 ei9 => ?_)
          have eC := ei9
          refine pb_i2b (pc := 90) d_Presser_putNumber_90 rfl ?_
          refine pb_topi (fun i10 ei10 => ?_)
          have ti10 : -128 ≤ i10.toInt ∧ i10.toInt ≤ 127 := ti_i2b ei10
          have eU := ei10
          have eO := xi5
          refine pb_ior (pc := 91) d_Presser_putNumber_91 ?_
          refine pb_topi (fun i11 ei11 => ?_)
          have eW := ei11
          refine pb_i2b (pc := 92) d_Presser_putNumber_92 rfl ?_
          refine pb_topi (fun i12 ei12 => ?_)
          have ti12 : -128 ≤ i12.toInt ∧ i12.toInt ≤ 127 := ti_i2b ei12
          have eV := ei12
          refine pb_bast (pc := 93) (ws' := [(h, .inr (4, [.ref pp, .ref pl, .ref pe, .ref pr, .int bg, .int sz, .int b, .int ln, .int ds])), (pp, .inr (0, [.ref pb, .int s3])), (pb, .inl (G.2.1, 4502, .inl (upd g3 ((i4 : Int32).toNatClampNeg) (vp_nar .byte i12))))]) d_Presser_putNumber_93 2 rfl (vp_in_iff.mpr (by constructor <;> (first | exact omg_ad049e0dd8 k0 hk hb hq ti4 | exact omg_d0d00eef2d k1 hb tw2 hq ti4 | omega))) rfl ?_
          refine pb_aload_n (pc := 94) d_Presser_putNumber_94 1 rfl rfl ?_
          refine pb_dup (pc := 95) d_Presser_putNumber_95 rfl ?_
          refine pb_get (pc := 96) d_Presser_putNumber_96 0 6 rfl rfl (by decide) in_Presser k_189 rfl ?_
          refine pb_iconst (pc := 99) (v := 1) d_Presser_putNumber_99 (by decide) ?_
          refine pb_iadd (pc := 100) d_Presser_putNumber_100 ?_
          refine pb_topi (fun i13 ei13 => ?_)
          try have ti13 : i13.toInt = b.toInt + 1 := ti_add ei13 rfl (by decide) (by omega) (by omega)
          refine pb_put (pc := 101) (ty := .int) (ws' := [(h, .inr (4, [.ref pp, .ref pl, .ref pe, .ref pr, .int bg, .int sz, .int i13, .int ln, .int ds])), (pp, .inr (0, [.ref pb, .int s3])), (pb, .inl (G.2.1, 4502, .inl (upd g3 ((i4 : Int32).toNatClampNeg) (vp_nar .byte i12))))]) d_Presser_putNumber_101 0 6 t_Presser t_Presser_ok n_Presser rfl rfl (by decide) in_Presser k_189 rfl (by decide +kernel) rfl rfl (Nat.le_of_ble_eq_true rfl) rfl ?_
          refine pb_iincN (pc := 104) (c := 1) d_Presser_putNumber_104 0 rfl (by decide) (by decide) (fun i14 ei14 => ?_)
          have ti14 : i14.toInt = k.toInt + 1 := ti_add ei14 rfl (by decide) (by omega) (by omega)
          refine pb_eq (pc' := 107) (lo' := [(3, .int i14), (0, .ref h), (1, .int v), (2, .int n)]) (rest' := []) (ws' := [(h, .inr (4, [.ref pp, .ref pl, .ref pe, .ref pr, .int bg, .int sz, .int i13, .int ln, .int ds])), (pp, .inr (0, [.ref pb, .int s3])), (pb, .inl (G.2.1, 4502, .inl (upd g3 ((i4 : Int32).toNatClampNeg) (vp_nar .byte i12))))]) ?_
          refine pb_goto (pc := 107) (tgt := 2) d_Presser_putNumber_107 (by decide) ?_
          exact ih2 i14 i13 s3 (upd g3 ((i4 : Int32).toNatClampNeg) (vp_nar .byte i12)) (sb_fitU F_g3 (fit_nar _)) (by first | (with_reducible assumption) | omega (splitDisjunctions := false) | assumption | omega | decide) (by first | (with_reducible assumption) | omega (splitDisjunctions := false) | assumption | omega | decide) (by first | (with_reducible assumption) | omega (splitDisjunctions := false) | assumption | (exact omg_f49d898d2a hb ti13 ti14) | decide) (by first | (with_reducible assumption) | omega (splitDisjunctions := false) | assumption | (exact omg_2c0cb8f15e hq ti13) | decide) (pC_put hD hk (by omega) rfl rfl (by omega) v0 eW eU eC eB eQ eO (by omega) (by omega) (fun j hj => gr_updb (by omega) j (by (exact omg_02bf512842 k0 hk hb hq)) hj) eV (by omega) (by omega)) (by (exact omg_7c8a06b1f5 hm9 tw2 ti14))
        refine pb_aload_n (pc := 7) d_Presser_putNumber_7 1 rfl rfl ?_
        refine pb_get (pc := 8) d_Presser_putNumber_8 0 6 rfl rfl (by decide) in_Presser k_189 rfl ?_
        refine pb_bipush (pc := 11) (v := 8) d_Presser_putNumber_11 (by decide) ?_
        refine pb_irem (pc := 13) d_Presser_putNumber_13 (by decide) ?_
        refine pb_topi (fun i15 ei15 => ?_)
        try have ti15 : i15.toInt = b.toInt % 8 := ti_rem 8 ei15 rfl (by decide) (by omega) (by decide)
        refine pb_if_ne (pc := 14) (tgt := 59) d_Presser_putNumber_14 (by decide) (fun w16 => ?_) (fun w16 => ?_)
        · have tw16 : ¬ i15.toInt = 0 := fun z9 => w16 ((ti_eq rfl (by decide)).mpr z9)
          exact hJ59_3 s g F_g (by first | (with_reducible assumption) | omega (splitDisjunctions := false) | assumption | (exact omg_bf302c0ba1 hz ti15 tw16) | decide) (by first | exact pD_old hS2 (by omega) | exact pD_new hS2 (by omega) (by omega) (fun j hj => gr_updb rfl j (by omega) hj) rfl)
        · have tw16 : i15.toInt = 0 := (ti_eq rfl (by decide)).mp w16
          refine pb_aload_n (pc := 17) d_Presser_putNumber_17 1 rfl rfl ?_
          refine pb_get (pc := 18) d_Presser_putNumber_18 0 0 rfl rfl (by decide) in_Presser k_181 rfl ?_
          refine pb_getN (pc := 21) d_Presser_putNumber_21 1 1 rfl rfl (by decide) in_Row k_164 rfl ?_
          refine pb_sipush (pc := 24) (v := 4502) d_Presser_putNumber_24 (by decide) ?_
          refine pb_icmp_ge (pc := 27) (tgt := 59) d_Presser_putNumber_27 (by decide) (fun w17 => ?_) (fun w17 => ?_)
          · have tw17 : 4502 ≤ s.toInt := (ti_le (by decide) rfl).mp w17
            exact hJ59_3 s g F_g (by first | (with_reducible assumption) | omega (splitDisjunctions := false) | assumption | omega | decide) (by first | exact pD_old hS2 (by omega) | exact pD_new hS2 (by omega) (by omega) (fun j hj => gr_updb rfl j (by omega) hj) rfl)
          · have tw17 : ¬ 4502 ≤ s.toInt := fun z9 => w17 ((ti_le (by decide) rfl).mpr z9)
            refine pb_aload_n (pc := 30) d_Presser_putNumber_30 1 rfl rfl ?_
            refine pb_get (pc := 31) d_Presser_putNumber_31 0 0 rfl rfl (by decide) in_Presser k_181 rfl ?_
            refine pb_getN (pc := 34) d_Presser_putNumber_34 1 0 rfl rfl (by decide) in_Row k_161 rfl ?_
            refine pb_aload_n (pc := 37) d_Presser_putNumber_37 1 rfl rfl ?_
            refine pb_get (pc := 38) d_Presser_putNumber_38 0 0 rfl rfl (by decide) in_Presser k_181 rfl ?_
            refine pb_getN (pc := 41) d_Presser_putNumber_41 1 1 rfl rfl (by decide) in_Row k_164 rfl ?_
            refine pb_iconst (pc := 44) (v := 0) d_Presser_putNumber_44 (by decide) ?_
            refine pb_bast (pc := 45) (ws' := [(h, .inr (4, [.ref pp, .ref pl, .ref pe, .ref pr, .int bg, .int sz, .int b, .int ln, .int ds])), (pp, .inr (0, [.ref pb, .int s])), (pb, .inl (G.2.1, 4502, .inl (upd g ((s : Int32).toNatClampNeg) (vp_nar .byte 0))))]) d_Presser_putNumber_45 2 rfl (vp_in_iff.mpr (by constructor <;> (first | exact omg_7f8289d8af k0 hk hb hz | omega))) rfl ?_
            refine pb_aload_n (pc := 46) d_Presser_putNumber_46 1 rfl rfl ?_
            refine pb_get (pc := 47) d_Presser_putNumber_47 0 0 rfl rfl (by decide) in_Presser k_181 rfl ?_
            refine pb_dup (pc := 50) d_Presser_putNumber_50 rfl ?_
            refine pb_getN (pc := 51) d_Presser_putNumber_51 1 1 rfl rfl (by decide) in_Row k_164 rfl ?_
            refine pb_iconst (pc := 54) (v := 1) d_Presser_putNumber_54 (by decide) ?_
            refine pb_iadd (pc := 55) d_Presser_putNumber_55 ?_
            refine pb_topi (fun i18 ei18 => ?_)
            try have ti18 : i18.toInt = s.toInt + 1 := ti_add ei18 rfl (by decide) (by omega) (by omega)
            refine pb_putN (pc := 56) (ty := .int) (ws' := [(h, .inr (4, [.ref pp, .ref pl, .ref pe, .ref pr, .int bg, .int sz, .int b, .int ln, .int ds])), (pp, .inr (0, [.ref pb, .int i18])), (pb, .inl (G.2.1, 4502, .inl (upd g ((s : Int32).toNatClampNeg) (vp_nar .byte 0))))]) d_Presser_putNumber_56 1 1 t_Row t_Row_ok n_Row rfl rfl (by decide) in_Row k_164 rfl (by decide +kernel) rfl rfl (Nat.le_of_ble_eq_true rfl) rfl ?_
            exact hJ59_3 i18 (upd g ((s : Int32).toNatClampNeg) (vp_nar .byte 0)) (sb_fitU F_g (fit_nar _)) (by first | (with_reducible assumption) | omega (splitDisjunctions := false) | assumption | omega | decide) (by first | exact pD_old hS2 (by omega) | exact pD_new hS2 (by omega) (by omega) (fun j hj => gr_updb rfl j (by (exact omg_7f8289d8af k0 hk hb hz)) hj) rfl)
  exact hL2_1 _ 0 bt ps f F_f (by first | (with_reducible assumption) | omega (splitDisjunctions := false) | assumption | omega | decide) (by first | (with_reducible assumption) | omega (splitDisjunctions := false) | assumption | omega | decide) (by first | (with_reducible assumption) | omega (splitDisjunctions := false) | assumption | omega | decide) (by first | (with_reducible assumption) | omega (splitDisjunctions := false) | assumption | omega | decide) (by rw [zl0]; exact hS) (Nat.lt_succ_self _)

theorem d_Presser_putSymbol_0 : decode prog_8_method_9_code 0 = .ok (.iload_n 1, 1) := by decide +kernel
theorem d_Presser_putSymbol_1 : decode prog_8_method_9_code 1 = .ok (.sipush 144, 3) := by decide +kernel
theorem d_Presser_putSymbol_4 : decode prog_8_method_9_code 4 = .ok (.if_icmp .ge 21, 3) := by decide +kernel
theorem d_Presser_putSymbol_25 : decode prog_8_method_9_code 25 = .ok (.iload_n 1, 1) := by decide +kernel
theorem d_Presser_putSymbol_26 : decode prog_8_method_9_code 26 = .ok (.sipush 256, 3) := by decide +kernel
theorem d_Presser_putSymbol_29 : decode prog_8_method_9_code 29 = .ok (.if_icmp .ge 26, 3) := by decide +kernel
theorem d_Presser_putSymbol_55 : decode prog_8_method_9_code 55 = .ok (.iload_n 1, 1) := by decide +kernel
theorem d_Presser_putSymbol_56 : decode prog_8_method_9_code 56 = .ok (.sipush 280, 3) := by decide +kernel
theorem d_Presser_putSymbol_59 : decode prog_8_method_9_code 59 = .ok (.if_icmp .ge 22, 3) := by decide +kernel
theorem d_Presser_putSymbol_81 : decode prog_8_method_9_code 81 = .ok (.aload_n 0, 1) := by decide +kernel
theorem d_Presser_putSymbol_82 : decode prog_8_method_9_code 82 = .ok (.sipush 192, 3) := by decide +kernel
theorem d_Presser_putSymbol_85 : decode prog_8_method_9_code 85 = .ok (.iload_n 1, 1) := by decide +kernel
theorem d_Presser_putSymbol_86 : decode prog_8_method_9_code 86 = .ok (.iadd, 1) := by decide +kernel
theorem d_Presser_putSymbol_87 : decode prog_8_method_9_code 87 = .ok (.sipush 280, 3) := by decide +kernel
theorem d_Presser_putSymbol_90 : decode prog_8_method_9_code 90 = .ok (.isub, 1) := by decide +kernel
theorem d_Presser_putSymbol_91 : decode prog_8_method_9_code 91 = .ok (.bipush 8, 2) := by decide +kernel
theorem d_Presser_putSymbol_93 : decode prog_8_method_9_code 93 = .ok (.invokestatic 87, 3) := by decide +kernel
theorem k_528 : (Jvm.Cond.methodLink "PackageBook$Presser" (87 : Nat) ({ cls := "PackageBook$Presser", name := "turned", desc := "(II)I" } : Jvm.MethodName)) ∈ uW := uW_of 528 (by decide +kernel) (by decide +kernel)
theorem k_120 : (Jvm.Cond.initialized "PackageBook$Presser") ∈ uW := uW_of 120 (by decide +kernel) (by decide +kernel)
theorem k_530 : (Jvm.Cond.code ({ cls := "PackageBook$Presser", name := "turned", desc := "(II)I" } : Jvm.MethodName) prog_8_method_10_code (4 : Nat) (Option.some Jvm.ClassFile.FieldType.int)) ∈ uW := uW_of 530 (by decide +kernel) (by decide +kernel)
theorem k_529 : (Jvm.Cond.static ({ cls := "PackageBook$Presser", name := "turned", desc := "(II)I" } : Jvm.MethodName)) ∈ uW := uW_of 529 (by decide +kernel) (by decide +kernel)
theorem hy_Presser_turned : (y_Presser_turned).cls ≠ "java/lang/invoke/MethodHandle" ∧ (y_Presser_turned).cls ≠ "java/lang/invoke/VarHandle" ∧ (parseMethodDescriptor (y_Presser_turned).desc).map (fun d => d.parameters.length) = some 2 := by decide +kernel
theorem d_Presser_putSymbol_96 : decode prog_8_method_9_code 96 = .ok (.bipush 8, 2) := by decide +kernel
theorem d_Presser_putSymbol_98 : decode prog_8_method_9_code 98 = .ok (.invokevirtual 48, 3) := by decide +kernel
theorem k_505 : (Jvm.Cond.methodLink "PackageBook$Presser" (48 : Nat) ({ cls := "PackageBook$Presser", name := "putNumber", desc := "(II)V" } : Jvm.MethodName)) ∈ uW := uW_of 505 (by decide +kernel) (by decide +kernel)
theorem k_508 : (Jvm.Cond.code ({ cls := "PackageBook$Presser", name := "putNumber", desc := "(II)V" } : Jvm.MethodName) prog_8_method_11_code (4 : Nat) (Option.none : Option Jvm.ClassFile.FieldType)) ∈ uW := uW_of 508 (by decide +kernel) (by decide +kernel)
theorem k_507 : (Jvm.Cond.instanceMethod ({ cls := "PackageBook$Presser", name := "putNumber", desc := "(II)V" } : Jvm.MethodName)) ∈ uW := uW_of 507 (by decide +kernel) (by decide +kernel)
theorem k_2 : Cond.selects "PackageBook$Presser" ⟨"PackageBook$Presser", "putNumber", "(II)V"⟩ ⟨"PackageBook$Presser", "putNumber", "(II)V"⟩ ∈ uW := uW_of 2 (by decide +kernel) (by decide +kernel)
theorem hy_Presser_putNumber : (y_Presser_putNumber).cls ≠ "java/lang/invoke/MethodHandle" ∧ (y_Presser_putNumber).cls ≠ "java/lang/invoke/VarHandle" ∧ (parseMethodDescriptor (y_Presser_putNumber).desc).map (fun d => d.parameters.length) = some 2 := by decide +kernel
theorem d_Presser_putSymbol_101 : decode prog_8_method_9_code 101 = .ok (.return_, 1) := by decide +kernel
theorem d_Presser_putSymbol_62 : decode prog_8_method_9_code 62 = .ok (.aload_n 0, 1) := by decide +kernel
theorem d_Presser_putSymbol_63 : decode prog_8_method_9_code 63 = .ok (.iload_n 1, 1) := by decide +kernel
theorem d_Presser_putSymbol_64 : decode prog_8_method_9_code 64 = .ok (.sipush 256, 3) := by decide +kernel
theorem d_Presser_putSymbol_67 : decode prog_8_method_9_code 67 = .ok (.isub, 1) := by decide +kernel
theorem d_Presser_putSymbol_68 : decode prog_8_method_9_code 68 = .ok (.bipush 7, 2) := by decide +kernel
theorem d_Presser_putSymbol_70 : decode prog_8_method_9_code 70 = .ok (.invokestatic 87, 3) := by decide +kernel
theorem d_Presser_putSymbol_73 : decode prog_8_method_9_code 73 = .ok (.bipush 7, 2) := by decide +kernel
theorem d_Presser_putSymbol_75 : decode prog_8_method_9_code 75 = .ok (.invokevirtual 48, 3) := by decide +kernel
theorem d_Presser_putSymbol_78 : decode prog_8_method_9_code 78 = .ok (.goto 23, 3) := by decide +kernel
theorem d_Presser_putSymbol_32 : decode prog_8_method_9_code 32 = .ok (.aload_n 0, 1) := by decide +kernel
theorem d_Presser_putSymbol_33 : decode prog_8_method_9_code 33 = .ok (.sipush 400, 3) := by decide +kernel
theorem d_Presser_putSymbol_36 : decode prog_8_method_9_code 36 = .ok (.iload_n 1, 1) := by decide +kernel
theorem d_Presser_putSymbol_37 : decode prog_8_method_9_code 37 = .ok (.iadd, 1) := by decide +kernel
theorem d_Presser_putSymbol_38 : decode prog_8_method_9_code 38 = .ok (.sipush 144, 3) := by decide +kernel
theorem d_Presser_putSymbol_41 : decode prog_8_method_9_code 41 = .ok (.isub, 1) := by decide +kernel
theorem d_Presser_putSymbol_42 : decode prog_8_method_9_code 42 = .ok (.bipush 9, 2) := by decide +kernel
theorem d_Presser_putSymbol_44 : decode prog_8_method_9_code 44 = .ok (.invokestatic 87, 3) := by decide +kernel
theorem d_Presser_putSymbol_47 : decode prog_8_method_9_code 47 = .ok (.bipush 9, 2) := by decide +kernel
theorem d_Presser_putSymbol_49 : decode prog_8_method_9_code 49 = .ok (.invokevirtual 48, 3) := by decide +kernel
theorem d_Presser_putSymbol_52 : decode prog_8_method_9_code 52 = .ok (.goto 49, 3) := by decide +kernel
theorem d_Presser_putSymbol_7 : decode prog_8_method_9_code 7 = .ok (.aload_n 0, 1) := by decide +kernel
theorem d_Presser_putSymbol_8 : decode prog_8_method_9_code 8 = .ok (.bipush 48, 2) := by decide +kernel
theorem d_Presser_putSymbol_10 : decode prog_8_method_9_code 10 = .ok (.iload_n 1, 1) := by decide +kernel
theorem d_Presser_putSymbol_11 : decode prog_8_method_9_code 11 = .ok (.iadd, 1) := by decide +kernel
theorem d_Presser_putSymbol_12 : decode prog_8_method_9_code 12 = .ok (.bipush 8, 2) := by decide +kernel
theorem d_Presser_putSymbol_14 : decode prog_8_method_9_code 14 = .ok (.invokestatic 87, 3) := by decide +kernel
theorem d_Presser_putSymbol_17 : decode prog_8_method_9_code 17 = .ok (.bipush 8, 2) := by decide +kernel
theorem d_Presser_putSymbol_19 : decode prog_8_method_9_code 19 = .ok (.invokevirtual 48, 3) := by decide +kernel
theorem d_Presser_putSymbol_22 : decode prog_8_method_9_code 22 = .ok (.goto 79, 3) := by decide +kernel
abbrev y_Presser_putSymbol : MethodName := ⟨"PackageBook$Presser", "putSymbol", "(I)V"⟩
abbrev i_Presser_putSymbol : pb_I := (y_Presser_putSymbol, prog_8_method_9_code, 2, (Option.none : Option Jvm.ClassFile.FieldType), [], { frames := 1, cells := 0, slots := 0, locals := 23 })
set_option maxRecDepth 100000 in
set_option maxHeartbeats 4000000 in
theorem g_Pr_putSymbol {l : Launch} (hl : l.stackTraces = false) (G : pb_G) (h : Nat) (pp : Nat) (pl : Nat) (pe : Nat) (pr : Nat) (pb : Nat) (bg : Int32) (sz : Int32) (bt : Int32) (ln : Int32) (ds : Int32) (f : Nat → Int32) (ps : Int32) (v : Int32) (S : Int × (Int → Int)) (k0 : 0 ≤ bt.toInt) (k1 : bt.toInt + 9 ≤ 36016) (k5 : ps.toInt = (bt.toInt + 7) / 8) (hS : pC_ f ps.toInt bt.toInt S) (v0 : 0 ≤ v.toInt) (v1 : v.toInt ≤ 287) (F_f : sb_Fit f) : Cn l G i_Presser_putSymbol [.ref h, .int v] [(h, .inr (4, [.ref pp, .ref pl, .ref pe, .ref pr, .int bg, .int sz, .int bt, .int ln, .int ds])), (pp, .inr (0, [.ref pb, .int ps])), (pb, .inl (G.2.1, 4502, .inl f))] (S := Int32 × Int32 × (Nat → Int32)) (fun rv_ u => rv_ = none ∧ (v.toInt < 144 → u.1.toInt = bt.toInt + 8) ∧ (144 ≤ v.toInt → v.toInt < 256 → u.1.toInt = bt.toInt + 9) ∧ (256 ≤ v.toInt → v.toInt < 280 → u.1.toInt = bt.toInt + 7) ∧ (280 ≤ v.toInt → u.1.toInt = bt.toInt + 8) ∧ (u.2.1.toInt = (u.1.toInt + 7) / 8) ∧ (pC_ u.2.2 u.2.1.toInt u.1.toInt (sb_ S v.toInt)) ∧ (sb_Fit u.2.2)) (fun u => [(h, .inr (4, [.ref pp, .ref pl, .ref pe, .ref pr, .int bg, .int sz, .int u.1, .int ln, .int ds])), (pp, .inr (0, [.ref pb, .int u.2.1])), (pb, .inl (G.2.1, 4502, .inl u.2.2))]) := by
  refine Cn.of hl (by decide +kernel) rfl (Nat.le_of_ble_eq_true rfl) (fun M hQ => ?_)
  refine pb_eq (pc' := 0) (lo' := [(0, .ref h), (1, .int v)]) (rest' := []) (ws' := [(h, .inr (4, [.ref pp, .ref pl, .ref pe, .ref pr, .int bg, .int sz, .int bt, .int ln, .int ds])), (pp, .inr (0, [.ref pb, .int ps])), (pb, .inl (G.2.1, 4502, .inl f))]) ?_
  have zl0 : (0 : Int32).toInt = 0 := by decide
  have zl1 : (1 : Int32).toInt = 1 := by decide
  have zl7 : (7 : Int32).toInt = 7 := by decide
  have zl8 : (8 : Int32).toInt = 8 := by decide
  have zl9 : (9 : Int32).toInt = 9 := by decide
  have zl48 : (48 : Int32).toInt = 48 := by decide
  have zl144 : (144 : Int32).toInt = 144 := by decide
  have zl192 : (192 : Int32).toInt = 192 := by decide
  have zl256 : (256 : Int32).toInt = 256 := by decide
  have zl280 : (280 : Int32).toInt = 280 := by decide
  have zl400 : (400 : Int32).toInt = 400 := by decide
  refine pb_iload_n (pc := 0) d_Presser_putSymbol_0 1 rfl rfl ?_
  refine pb_sipush (pc := 1) (v := 144) d_Presser_putSymbol_1 (by decide) ?_
  refine pb_icmp_ge (pc := 4) (tgt := 25) d_Presser_putSymbol_4 (by decide) (fun w1 => ?_) (fun w1 => ?_)
  · have tw1 : 144 ≤ v.toInt := (ti_le (by decide) rfl).mp w1
    refine pb_iload_n (pc := 25) d_Presser_putSymbol_25 1 rfl rfl ?_
    refine pb_sipush (pc := 26) (v := 256) d_Presser_putSymbol_26 (by decide) ?_
    refine pb_icmp_ge (pc := 29) (tgt := 55) d_Presser_putSymbol_29 (by decide) (fun w2 => ?_) (fun w2 => ?_)
    · have tw2 : 256 ≤ v.toInt := (ti_le (by decide) rfl).mp w2
      refine pb_iload_n (pc := 55) d_Presser_putSymbol_55 1 rfl rfl ?_
      refine pb_sipush (pc := 56) (v := 280) d_Presser_putSymbol_56 (by decide) ?_
      refine pb_icmp_ge (pc := 59) (tgt := 81) d_Presser_putSymbol_59 (by decide) (fun w3 => ?_) (fun w3 => ?_)
      · have tw3 : 280 ≤ v.toInt := (ti_le (by decide) rfl).mp w3
        refine pb_aload_n (pc := 81) d_Presser_putSymbol_81 0 rfl rfl ?_
        refine pb_sipush (pc := 82) (v := 192) d_Presser_putSymbol_82 (by decide) ?_
        refine pb_iload_n (pc := 85) d_Presser_putSymbol_85 1 rfl rfl ?_
        refine pb_iadd (pc := 86) d_Presser_putSymbol_86 ?_
        refine pb_topi (fun i4 ei4 => ?_)
        try have ti4 : i4.toInt = 192 + v.toInt := ti_add ei4 (by decide) rfl (by omega) (by omega)
        refine pb_sipush (pc := 87) (v := 280) d_Presser_putSymbol_87 (by decide) ?_
        refine pb_isub (pc := 90) d_Presser_putSymbol_90 ?_
        refine pb_topi (fun i5 ei5 => ?_)
        try have ti5 : i5.toInt = i4.toInt - 280 := ti_sub ei5 rfl (by decide) (by omega) (by omega)
        refine pb_bipush (pc := 91) (v := 8) d_Presser_putSymbol_91 (by decide) ?_
        refine pb_callS (pc := 93) (I := i_Presser_putSymbol) (nA := 2) (rest := [.ref h]) (wr := [(h, .inr (4, [.ref pp, .ref pl, .ref pe, .ref pr, .int bg, .int sz, .int bt, .int ln, .int ds])), (pp, .inr (0, [.ref pb, .int ps])), (pb, .inl (G.2.1, 4502, .inl f))]) d_Presser_putSymbol_93 (g_Pr_turned hl G i5 8 (by first | (with_reducible assumption) | omega (splitDisjunctions := false) | assumption | omega | decide) (by first | (with_reducible assumption) | omega (splitDisjunctions := false) | assumption | omega | decide) (by first | (with_reducible assumption) | omega (splitDisjunctions := false) | assumption | omega | decide)) [] [0, 1, 2] (by decide) rfl rfl rfl (by decide) (by decide) k_530 rfl k_120 k_528 k_529 hy_Presser_turned (by decide) rfl rfl (Nat.le_of_ble_eq_true rfl) (by decide) (fun v9 u7 ch6 => ?_)
        obtain ⟨r_8, rfl⟩ : ∃ z9, z9 = u7 := ⟨_, rfl⟩
        obtain ⟨ech6, ch6⟩ := ch6
        have ech6 : v9 = some (.int r_8) := ech6
        subst ech6
        have fh9 : r_8.toInt = tu_ i5.toInt (8 : Int32).toInt.toNat := ch6
        have tuF := fh9
        rw [show (8 : Int32).toInt.toNat = 8 by decide] at tuF
        refine pb_eq (pc' := 96) (lo' := [(0, .ref h), (1, .int v)]) (rest' := [.int r_8, .ref h]) (ws' := [(h, .inr (4, [.ref pp, .ref pl, .ref pe, .ref pr, .int bg, .int sz, .int bt, .int ln, .int ds])), (pp, .inr (0, [.ref pb, .int ps])), (pb, .inl (G.2.1, 4502, .inl f))]) ?_
        refine pb_bipush (pc := 96) (v := 8) d_Presser_putSymbol_96 (by decide) ?_
        refine pb_callV (pc := 98) (I := i_Presser_putSymbol) (qb := 0) (ci := 4) (nA := 2) (rest := []) (wr := []) d_Presser_putSymbol_98 (g_Pr_putNumber hl G h pp pl pe pr pb bg sz bt ln ds f ps r_8 8 S (by first | (with_reducible assumption) | omega (splitDisjunctions := false) | assumption | omega | decide) (by first | (with_reducible assumption) | omega (splitDisjunctions := false) | assumption | omega | decide) (by first | (with_reducible assumption) | omega (splitDisjunctions := false) | assumption | omega | decide) (by first | (with_reducible assumption) | omega (splitDisjunctions := false) | assumption | omega | decide) (by first | (with_reducible assumption) | omega (splitDisjunctions := false) | assumption | omega | decide) (by first | (with_reducible assumption) | omega (splitDisjunctions := false) | assumption | omega | decide) (by rw [tuF]; exact (tu_rng _ _).1) (by first | (with_reducible assumption) | omega (splitDisjunctions := false) | assumption | omega | decide) F_f) rfl rfl [0, 1, 2] [] (by decide) rfl rfl rfl (by decide) (by decide) k_508 rfl k_120 k_505 k_507 k_2 ⟨rfl, hy_Presser_putNumber⟩ (by decide) rfl rfl (Nat.le_of_ble_eq_true rfl) (by decide) (fun v9 u11 ch10 => ?_)
        obtain ⟨b_12, p_13, f_14⟩ := u11
        obtain ⟨ech10, ch10⟩ := ch10
        have ech10 : v9 = none := ech10
        subst ech10
        obtain ⟨fh15, fh16, fh17, fh18⟩ : (b_12.toInt = bt.toInt + (8 : Int32).toInt) ∧ (p_13.toInt = (b_12.toInt + 7) / 8) ∧ (pC_ f_14 p_13.toInt b_12.toInt (bn_ S r_8.toInt (8 : Int32).toInt.toNat)) ∧ (sb_Fit f_14) := ch10
        have pnF := fh17
        rw [show (8 : Int32).toInt.toNat = 8 by decide] at pnF
        have kSF : pC_ _ _ _ (sb_ S v.toInt) := pC_sy (n := 8) pnF tuF rfl rfl (sb_3 (by omega) (by omega))
        refine pb_eq (pc' := 101) (lo' := [(0, .ref h), (1, .int v)]) (rest' := []) (ws' := [(h, .inr (4, [.ref pp, .ref pl, .ref pe, .ref pr, .int bg, .int sz, .int b_12, .int ln, .int ds])), (pp, .inr (0, [.ref pb, .int p_13])), (pb, .inl (G.2.1, 4502, .inl f_14))]) ?_
        exact pb_vret (pc := 101) hQ d_Presser_putSymbol_101 rfl (b_12, p_13, f_14) ⟨rfl, (by (try dsimp only); first | done | (with_reducible assumption) | omega (splitDisjunctions := false) | assumption | omega | decide), (by (try dsimp only); first | done | (with_reducible assumption) | omega (splitDisjunctions := false) | assumption | omega | decide), (by (try dsimp only); first | done | (with_reducible assumption) | omega (splitDisjunctions := false) | assumption | omega | decide), (by (try dsimp only); first | done | (with_reducible assumption) | omega (splitDisjunctions := false) | assumption | omega | decide), (by (try dsimp only); first | done | (with_reducible assumption) | omega (splitDisjunctions := false) | assumption | omega | decide), kSF, fh18⟩ [0, 1, 2] (by decide) rfl rfl (by decide) (by decide)
      · have tw3 : ¬ 280 ≤ v.toInt := fun z9 => w3 ((ti_le (by decide) rfl).mpr z9)
        refine pb_aload_n (pc := 62) d_Presser_putSymbol_62 0 rfl rfl ?_
        refine pb_iload_n (pc := 63) d_Presser_putSymbol_63 1 rfl rfl ?_
        refine pb_sipush (pc := 64) (v := 256) d_Presser_putSymbol_64 (by decide) ?_
        refine pb_isub (pc := 67) d_Presser_putSymbol_67 ?_
        refine pb_topi (fun i19 ei19 => ?_)
        try have ti19 : i19.toInt = v.toInt - 256 := ti_sub ei19 rfl (by decide) (by omega) (by omega)
        refine pb_bipush (pc := 68) (v := 7) d_Presser_putSymbol_68 (by decide) ?_
        refine pb_callS (pc := 70) (I := i_Presser_putSymbol) (nA := 2) (rest := [.ref h]) (wr := [(h, .inr (4, [.ref pp, .ref pl, .ref pe, .ref pr, .int bg, .int sz, .int bt, .int ln, .int ds])), (pp, .inr (0, [.ref pb, .int ps])), (pb, .inl (G.2.1, 4502, .inl f))]) d_Presser_putSymbol_70 (g_Pr_turned hl G i19 7 (by first | (with_reducible assumption) | omega (splitDisjunctions := false) | assumption | omega | decide) (by first | (with_reducible assumption) | omega (splitDisjunctions := false) | assumption | omega | decide) (by first | (with_reducible assumption) | omega (splitDisjunctions := false) | assumption | omega | decide)) [] [0, 1, 2] (by decide) rfl rfl rfl (by decide) (by decide) k_530 rfl k_120 k_528 k_529 hy_Presser_turned (by decide) rfl rfl (Nat.le_of_ble_eq_true rfl) (by decide) (fun v9 u21 ch20 => ?_)
        obtain ⟨r_22, rfl⟩ : ∃ z9, z9 = u21 := ⟨_, rfl⟩
        obtain ⟨ech20, ch20⟩ := ch20
        have ech20 : v9 = some (.int r_22) := ech20
        subst ech20
        have fh23 : r_22.toInt = tu_ i19.toInt (7 : Int32).toInt.toNat := ch20
        have tuF := fh23
        rw [show (7 : Int32).toInt.toNat = 7 by decide] at tuF
        refine pb_eq (pc' := 73) (lo' := [(0, .ref h), (1, .int v)]) (rest' := [.int r_22, .ref h]) (ws' := [(h, .inr (4, [.ref pp, .ref pl, .ref pe, .ref pr, .int bg, .int sz, .int bt, .int ln, .int ds])), (pp, .inr (0, [.ref pb, .int ps])), (pb, .inl (G.2.1, 4502, .inl f))]) ?_
        refine pb_bipush (pc := 73) (v := 7) d_Presser_putSymbol_73 (by decide) ?_
        refine pb_callV (pc := 75) (I := i_Presser_putSymbol) (qb := 0) (ci := 4) (nA := 2) (rest := []) (wr := []) d_Presser_putSymbol_75 (g_Pr_putNumber hl G h pp pl pe pr pb bg sz bt ln ds f ps r_22 7 S (by first | (with_reducible assumption) | omega (splitDisjunctions := false) | assumption | omega | decide) (by first | (with_reducible assumption) | omega (splitDisjunctions := false) | assumption | omega | decide) (by first | (with_reducible assumption) | omega (splitDisjunctions := false) | assumption | omega | decide) (by first | (with_reducible assumption) | omega (splitDisjunctions := false) | assumption | omega | decide) (by first | (with_reducible assumption) | omega (splitDisjunctions := false) | assumption | omega | decide) (by first | (with_reducible assumption) | omega (splitDisjunctions := false) | assumption | omega | decide) (by rw [tuF]; exact (tu_rng _ _).1) (by first | (with_reducible assumption) | omega (splitDisjunctions := false) | assumption | omega | decide) F_f) rfl rfl [0, 1, 2] [] (by decide) rfl rfl rfl (by decide) (by decide) k_508 rfl k_120 k_505 k_507 k_2 ⟨rfl, hy_Presser_putNumber⟩ (by decide) rfl rfl (Nat.le_of_ble_eq_true rfl) (by decide) (fun v9 u25 ch24 => ?_)
        obtain ⟨b_26, p_27, f_28⟩ := u25
        obtain ⟨ech24, ch24⟩ := ch24
        have ech24 : v9 = none := ech24
        subst ech24
        obtain ⟨fh29, fh30, fh31, fh32⟩ : (b_26.toInt = bt.toInt + (7 : Int32).toInt) ∧ (p_27.toInt = (b_26.toInt + 7) / 8) ∧ (pC_ f_28 p_27.toInt b_26.toInt (bn_ S r_22.toInt (7 : Int32).toInt.toNat)) ∧ (sb_Fit f_28) := ch24
        have pnF := fh31
        rw [show (7 : Int32).toInt.toNat = 7 by decide] at pnF
        have kSF : pC_ _ _ _ (sb_ S v.toInt) := pC_sy (n := 7) pnF tuF rfl rfl (sb_2 (by omega) (by omega) (by omega))
        refine pb_eq (pc' := 78) (lo' := [(0, .ref h), (1, .int v)]) (rest' := []) (ws' := [(h, .inr (4, [.ref pp, .ref pl, .ref pe, .ref pr, .int bg, .int sz, .int b_26, .int ln, .int ds])), (pp, .inr (0, [.ref pb, .int p_27])), (pb, .inl (G.2.1, 4502, .inl f_28))]) ?_
        refine pb_goto (pc := 78) (tgt := 101) d_Presser_putSymbol_78 (by decide) ?_
        exact pb_vret (pc := 101) hQ d_Presser_putSymbol_101 rfl (b_26, p_27, f_28) ⟨rfl, (by (try dsimp only); first | done | (with_reducible assumption) | omega (splitDisjunctions := false) | assumption | omega | decide), (by (try dsimp only); first | done | (with_reducible assumption) | omega (splitDisjunctions := false) | assumption | omega | decide), (by (try dsimp only); first | done | (with_reducible assumption) | omega (splitDisjunctions := false) | assumption | omega | decide), (by (try dsimp only); first | done | (with_reducible assumption) | omega (splitDisjunctions := false) | assumption | omega | decide), (by (try dsimp only); first | done | (with_reducible assumption) | omega (splitDisjunctions := false) | assumption | omega | decide), kSF, fh32⟩ [0, 1, 2] (by decide) rfl rfl (by decide) (by decide)
    · have tw2 : ¬ 256 ≤ v.toInt := fun z9 => w2 ((ti_le (by decide) rfl).mpr z9)
      refine pb_aload_n (pc := 32) d_Presser_putSymbol_32 0 rfl rfl ?_
      refine pb_sipush (pc := 33) (v := 400) d_Presser_putSymbol_33 (by decide) ?_
      refine pb_iload_n (pc := 36) d_Presser_putSymbol_36 1 rfl rfl ?_
      refine pb_iadd (pc := 37) d_Presser_putSymbol_37 ?_
      refine pb_topi (fun i33 ei33 => ?_)
      try have ti33 : i33.toInt = 400 + v.toInt := ti_add ei33 (by decide) rfl (by omega) (by omega)
      refine pb_sipush (pc := 38) (v := 144) d_Presser_putSymbol_38 (by decide) ?_
      refine pb_isub (pc := 41) d_Presser_putSymbol_41 ?_
      refine pb_topi (fun i34 ei34 => ?_)
      try have ti34 : i34.toInt = i33.toInt - 144 := ti_sub ei34 rfl (by decide) (by omega) (by omega)
      refine pb_bipush (pc := 42) (v := 9) d_Presser_putSymbol_42 (by decide) ?_
      refine pb_callS (pc := 44) (I := i_Presser_putSymbol) (nA := 2) (rest := [.ref h]) (wr := [(h, .inr (4, [.ref pp, .ref pl, .ref pe, .ref pr, .int bg, .int sz, .int bt, .int ln, .int ds])), (pp, .inr (0, [.ref pb, .int ps])), (pb, .inl (G.2.1, 4502, .inl f))]) d_Presser_putSymbol_44 (g_Pr_turned hl G i34 9 (by first | (with_reducible assumption) | omega (splitDisjunctions := false) | assumption | omega | decide) (by first | (with_reducible assumption) | omega (splitDisjunctions := false) | assumption | omega | decide) (by first | (with_reducible assumption) | omega (splitDisjunctions := false) | assumption | omega | decide)) [] [0, 1, 2] (by decide) rfl rfl rfl (by decide) (by decide) k_530 rfl k_120 k_528 k_529 hy_Presser_turned (by decide) rfl rfl (Nat.le_of_ble_eq_true rfl) (by decide) (fun v9 u36 ch35 => ?_)
      obtain ⟨r_37, rfl⟩ : ∃ z9, z9 = u36 := ⟨_, rfl⟩
      obtain ⟨ech35, ch35⟩ := ch35
      have ech35 : v9 = some (.int r_37) := ech35
      subst ech35
      have fh38 : r_37.toInt = tu_ i34.toInt (9 : Int32).toInt.toNat := ch35
      have tuF := fh38
      rw [show (9 : Int32).toInt.toNat = 9 by decide] at tuF
      refine pb_eq (pc' := 47) (lo' := [(0, .ref h), (1, .int v)]) (rest' := [.int r_37, .ref h]) (ws' := [(h, .inr (4, [.ref pp, .ref pl, .ref pe, .ref pr, .int bg, .int sz, .int bt, .int ln, .int ds])), (pp, .inr (0, [.ref pb, .int ps])), (pb, .inl (G.2.1, 4502, .inl f))]) ?_
      refine pb_bipush (pc := 47) (v := 9) d_Presser_putSymbol_47 (by decide) ?_
      refine pb_callV (pc := 49) (I := i_Presser_putSymbol) (qb := 0) (ci := 4) (nA := 2) (rest := []) (wr := []) d_Presser_putSymbol_49 (g_Pr_putNumber hl G h pp pl pe pr pb bg sz bt ln ds f ps r_37 9 S (by first | (with_reducible assumption) | omega (splitDisjunctions := false) | assumption | omega | decide) (by first | (with_reducible assumption) | omega (splitDisjunctions := false) | assumption | omega | decide) (by first | (with_reducible assumption) | omega (splitDisjunctions := false) | assumption | omega | decide) (by first | (with_reducible assumption) | omega (splitDisjunctions := false) | assumption | omega | decide) (by first | (with_reducible assumption) | omega (splitDisjunctions := false) | assumption | omega | decide) (by first | (with_reducible assumption) | omega (splitDisjunctions := false) | assumption | omega | decide) (by rw [tuF]; exact (tu_rng _ _).1) (by first | (with_reducible assumption) | omega (splitDisjunctions := false) | assumption | omega | decide) F_f) rfl rfl [0, 1, 2] [] (by decide) rfl rfl rfl (by decide) (by decide) k_508 rfl k_120 k_505 k_507 k_2 ⟨rfl, hy_Presser_putNumber⟩ (by decide) rfl rfl (Nat.le_of_ble_eq_true rfl) (by decide) (fun v9 u40 ch39 => ?_)
      obtain ⟨b_41, p_42, f_43⟩ := u40
      obtain ⟨ech39, ch39⟩ := ch39
      have ech39 : v9 = none := ech39
      subst ech39
      obtain ⟨fh44, fh45, fh46, fh47⟩ : (b_41.toInt = bt.toInt + (9 : Int32).toInt) ∧ (p_42.toInt = (b_41.toInt + 7) / 8) ∧ (pC_ f_43 p_42.toInt b_41.toInt (bn_ S r_37.toInt (9 : Int32).toInt.toNat)) ∧ (sb_Fit f_43) := ch39
      have pnF := fh46
      rw [show (9 : Int32).toInt.toNat = 9 by decide] at pnF
      have kSF : pC_ _ _ _ (sb_ S v.toInt) := pC_sy (n := 9) pnF tuF rfl rfl (sb_1 (by omega) (by omega) (by omega))
      refine pb_eq (pc' := 52) (lo' := [(0, .ref h), (1, .int v)]) (rest' := []) (ws' := [(h, .inr (4, [.ref pp, .ref pl, .ref pe, .ref pr, .int bg, .int sz, .int b_41, .int ln, .int ds])), (pp, .inr (0, [.ref pb, .int p_42])), (pb, .inl (G.2.1, 4502, .inl f_43))]) ?_
      refine pb_goto (pc := 52) (tgt := 101) d_Presser_putSymbol_52 (by decide) ?_
      exact pb_vret (pc := 101) hQ d_Presser_putSymbol_101 rfl (b_41, p_42, f_43) ⟨rfl, (by (try dsimp only); first | done | (with_reducible assumption) | omega (splitDisjunctions := false) | assumption | omega | decide), (by (try dsimp only); first | done | (with_reducible assumption) | omega (splitDisjunctions := false) | assumption | omega | decide), (by (try dsimp only); first | done | (with_reducible assumption) | omega (splitDisjunctions := false) | assumption | omega | decide), (by (try dsimp only); first | done | (with_reducible assumption) | omega (splitDisjunctions := false) | assumption | omega | decide), (by (try dsimp only); first | done | (with_reducible assumption) | omega (splitDisjunctions := false) | assumption | omega | decide), kSF, fh47⟩ [0, 1, 2] (by decide) rfl rfl (by decide) (by decide)
  · have tw1 : ¬ 144 ≤ v.toInt := fun z9 => w1 ((ti_le (by decide) rfl).mpr z9)
    refine pb_aload_n (pc := 7) d_Presser_putSymbol_7 0 rfl rfl ?_
    refine pb_bipush (pc := 8) (v := 48) d_Presser_putSymbol_8 (by decide) ?_
    refine pb_iload_n (pc := 10) d_Presser_putSymbol_10 1 rfl rfl ?_
    refine pb_iadd (pc := 11) d_Presser_putSymbol_11 ?_
    refine pb_topi (fun i48 ei48 => ?_)
    try have ti48 : i48.toInt = 48 + v.toInt := ti_add ei48 (by decide) rfl (by omega) (by omega)
    refine pb_bipush (pc := 12) (v := 8) d_Presser_putSymbol_12 (by decide) ?_
    refine pb_callS (pc := 14) (I := i_Presser_putSymbol) (nA := 2) (rest := [.ref h]) (wr := [(h, .inr (4, [.ref pp, .ref pl, .ref pe, .ref pr, .int bg, .int sz, .int bt, .int ln, .int ds])), (pp, .inr (0, [.ref pb, .int ps])), (pb, .inl (G.2.1, 4502, .inl f))]) d_Presser_putSymbol_14 (g_Pr_turned hl G i48 8 (by first | (with_reducible assumption) | omega (splitDisjunctions := false) | assumption | omega | decide) (by first | (with_reducible assumption) | omega (splitDisjunctions := false) | assumption | omega | decide) (by first | (with_reducible assumption) | omega (splitDisjunctions := false) | assumption | omega | decide)) [] [0, 1, 2] (by decide) rfl rfl rfl (by decide) (by decide) k_530 rfl k_120 k_528 k_529 hy_Presser_turned (by decide) rfl rfl (Nat.le_of_ble_eq_true rfl) (by decide) (fun v9 u50 ch49 => ?_)
    obtain ⟨r_51, rfl⟩ : ∃ z9, z9 = u50 := ⟨_, rfl⟩
    obtain ⟨ech49, ch49⟩ := ch49
    have ech49 : v9 = some (.int r_51) := ech49
    subst ech49
    have fh52 : r_51.toInt = tu_ i48.toInt (8 : Int32).toInt.toNat := ch49
    have tuF := fh52
    rw [show (8 : Int32).toInt.toNat = 8 by decide] at tuF
    refine pb_eq (pc' := 17) (lo' := [(0, .ref h), (1, .int v)]) (rest' := [.int r_51, .ref h]) (ws' := [(h, .inr (4, [.ref pp, .ref pl, .ref pe, .ref pr, .int bg, .int sz, .int bt, .int ln, .int ds])), (pp, .inr (0, [.ref pb, .int ps])), (pb, .inl (G.2.1, 4502, .inl f))]) ?_
    refine pb_bipush (pc := 17) (v := 8) d_Presser_putSymbol_17 (by decide) ?_
    refine pb_callV (pc := 19) (I := i_Presser_putSymbol) (qb := 0) (ci := 4) (nA := 2) (rest := []) (wr := []) d_Presser_putSymbol_19 (g_Pr_putNumber hl G h pp pl pe pr pb bg sz bt ln ds f ps r_51 8 S (by first | (with_reducible assumption) | omega (splitDisjunctions := false) | assumption | omega | decide) (by first | (with_reducible assumption) | omega (splitDisjunctions := false) | assumption | omega | decide) (by first | (with_reducible assumption) | omega (splitDisjunctions := false) | assumption | omega | decide) (by first | (with_reducible assumption) | omega (splitDisjunctions := false) | assumption | omega | decide) (by first | (with_reducible assumption) | omega (splitDisjunctions := false) | assumption | omega | decide) (by first | (with_reducible assumption) | omega (splitDisjunctions := false) | assumption | omega | decide) (by rw [tuF]; exact (tu_rng _ _).1) (by first | (with_reducible assumption) | omega (splitDisjunctions := false) | assumption | omega | decide) F_f) rfl rfl [0, 1, 2] [] (by decide) rfl rfl rfl (by decide) (by decide) k_508 rfl k_120 k_505 k_507 k_2 ⟨rfl, hy_Presser_putNumber⟩ (by decide) rfl rfl (Nat.le_of_ble_eq_true rfl) (by decide) (fun v9 u54 ch53 => ?_)
    obtain ⟨b_55, p_56, f_57⟩ := u54
    obtain ⟨ech53, ch53⟩ := ch53
    have ech53 : v9 = none := ech53
    subst ech53
    obtain ⟨fh58, fh59, fh60, fh61⟩ : (b_55.toInt = bt.toInt + (8 : Int32).toInt) ∧ (p_56.toInt = (b_55.toInt + 7) / 8) ∧ (pC_ f_57 p_56.toInt b_55.toInt (bn_ S r_51.toInt (8 : Int32).toInt.toNat)) ∧ (sb_Fit f_57) := ch53
    have pnF := fh60
    rw [show (8 : Int32).toInt.toNat = 8 by decide] at pnF
    have kSF : pC_ _ _ _ (sb_ S v.toInt) := pC_sy (n := 8) pnF tuF rfl rfl (sb_0 (by omega) (by omega))
    refine pb_eq (pc' := 22) (lo' := [(0, .ref h), (1, .int v)]) (rest' := []) (ws' := [(h, .inr (4, [.ref pp, .ref pl, .ref pe, .ref pr, .int bg, .int sz, .int b_55, .int ln, .int ds])), (pp, .inr (0, [.ref pb, .int p_56])), (pb, .inl (G.2.1, 4502, .inl f_57))]) ?_
    refine pb_goto (pc := 22) (tgt := 101) d_Presser_putSymbol_22 (by decide) ?_
    exact pb_vret (pc := 101) hQ d_Presser_putSymbol_101 rfl (b_55, p_56, f_57) ⟨rfl, (by (try dsimp only); first | done | (with_reducible assumption) | omega (splitDisjunctions := false) | assumption | omega | decide), (by (try dsimp only); first | done | (with_reducible assumption) | omega (splitDisjunctions := false) | assumption | omega | decide), (by (try dsimp only); first | done | (with_reducible assumption) | omega (splitDisjunctions := false) | assumption | omega | decide), (by (try dsimp only); first | done | (with_reducible assumption) | omega (splitDisjunctions := false) | assumption | omega | decide), (by (try dsimp only); first | done | (with_reducible assumption) | omega (splitDisjunctions := false) | assumption | omega | decide), kSF, fh61⟩ [0, 1, 2] (by decide) rfl rfl (by decide) (by decide)
