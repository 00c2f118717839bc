/-! ROWS OF NUMBERS -/
theorem omg_8f8dd291d6 {x0 : Int} {x1 : Int} {x2 : Nat} {x3 : Nat} {x4 : Nat} {x5 : Int} {x6 : Nat} {x7 : Int} {x8 : Nat} {x9 : Nat} (a0 : ((x0 + x1) ≤ ((x2 : Nat) : Int))) (a1 : (x2 ≤ (100000 : Nat))) (a2 : (((x3 : Nat) : Int) = x0)) (a3 : (((x4 : Nat) : Int) = x1)) (a4 : (x5 = ((x6 : Nat) : Int))) (a5 : (x7 = (((x6 : Nat) : Int) + ((x8 : Nat) : Int)))) (a6 : ((x6 + x8) = x9)) (a7 : (x9 ≤ x4)) : ((x7 - x5) < (2147483648 : Int)) := by omega
theorem omg_da822fc3fa {x0 : Int} {x1 : Int} (a0 : (x0 ≤ x1)) (a1 : (x1 ≤ x0)) : ((Int.toNat x1) = (Int.toNat x0)) := by omega
theorem omg_4ae52722b8 {x0 : Int} {x1 : Int} {x2 : Nat} {x3 : Nat} {x4 : Int} (a0 : ((x0 + x1) ≤ ((x2 : Nat) : Int))) (a1 : (x2 ≤ (100000 : Nat))) (a2 : (((x3 : Nat) : Int) = x0)) (a3 : (¬ (x1 ≤ x4))) : ((x4 + (1 : Int)) < (2147483648 : Int)) := by omega
theorem omg_90e46e9da7 {x0 : Nat} {x1 : Int} {x2 : Int} {x3 : Nat} (a0 : (((x0 : Nat) : Int) = x1)) (a1 : (x2 = (x1 + (1 : Int)))) (a2 : (((x3 : Nat) : Int) = x2)) : (x3 = (x0 + (1 : Nat))) := by omega
theorem omg_796e88ddd9 {x0 : Int} {x1 : Int} {x2 : Int} (a0 : (x0 = x1)) (a1 : (x1 = x2)) : (x0 = x2) := by omega
theorem omg_ce8fc39c01 {x0 : Int} {x1 : Nat} {x2 : Nat} (a0 : (x0 = (((x1 : Nat) : Int) + ((x2 : Nat) : Int)))) : ((0 : Int) ≤ x0) := by omega
theorem omg_09b75e0929 {x0 : Int} {x1 : Nat} {x2 : Int} (a0 : ((Int.toNat ((16 : Int) - x0)) < (x1 + (1 : Nat)))) (a1 : (¬ ((15 : Int) < x0))) (a2 : (x2 = (x0 + (1 : Int)))) : ((Int.toNat ((16 : Int) - x2)) < x1) := by omega
theorem omg_4b44cbffe3 {x0 : Int} {x1 : Int} (a0 : (¬ ((15 : Int) < x0))) (a1 : (x1 = (x0 + (1 : Int)))) : ((Int.toNat ((16 : Int) - x0)) = ((Int.toNat ((16 : Int) - x1)) + (1 : Nat))) := by omega
theorem d_Code_tell_0 : decode prog_2_method_2_code 0 = .ok (.aload_n 0, 1) := by decide +kernel
theorem d_Code_tell_1 : decode prog_2_method_2_code 1 = .ok (.iconst 0, 1) := by decide +kernel
theorem d_Code_tell_2 : decode prog_2_method_2_code 2 = .ok (.putfield 16, 3) := by decide +kernel
theorem k_230 : (Jvm.Cond.fieldLink "PackageBook$Code" (16 : Nat) "PackageBook$Code" "size" "I") ∈ uW := uW_of 230 (by decide +kernel) (by decide +kernel)
theorem d_Code_tell_5 : decode prog_2_method_2_code 5 = .ok (.aload_n 0, 1) := by decide +kernel
theorem d_Code_tell_6 : decode prog_2_method_2_code 6 = .ok (.getfield 9, 3) := by decide +kernel
theorem d_Code_tell_9 : decode prog_2_method_2_code 9 = .ok (.iconst 0, 1) := by decide +kernel
theorem d_Code_tell_10 : decode prog_2_method_2_code 10 = .ok (.iconst 0, 1) := by decide +kernel
theorem d_Code_tell_11 : decode prog_2_method_2_code 11 = .ok (.iastore, 1) := by decide +kernel
theorem d_Code_tell_12 : decode prog_2_method_2_code 12 = .ok (.iconst 1, 1) := by decide +kernel
theorem d_Code_tell_13 : decode prog_2_method_2_code 13 = .ok (.istore 4, 2) := by decide +kernel
theorem d_Code_tell_15 : decode prog_2_method_2_code 15 = .ok (.iload 4, 2) := by decide +kernel
theorem d_Code_tell_17 : decode prog_2_method_2_code 17 = .ok (.bipush 15, 2) := by decide +kernel
theorem d_Code_tell_19 : decode prog_2_method_2_code 19 = .ok (.if_icmp .gt 76, 3) := by decide +kernel
theorem d_Code_tell_95 : decode prog_2_method_2_code 95 = .ok (.return_, 1) := by decide +kernel
theorem d_Code_tell_22 : decode prog_2_method_2_code 22 = .ok (.aload_n 0, 1) := by decide +kernel
theorem d_Code_tell_23 : decode prog_2_method_2_code 23 = .ok (.getfield 16, 3) := by decide +kernel
theorem d_Code_tell_26 : decode prog_2_method_2_code 26 = .ok (.istore 5, 2) := by decide +kernel
theorem d_Code_tell_28 : decode prog_2_method_2_code 28 = .ok (.iconst 0, 1) := by decide +kernel
theorem d_Code_tell_29 : decode prog_2_method_2_code 29 = .ok (.istore 6, 2) := by decide +kernel
theorem d_Code_tell_31 : decode prog_2_method_2_code 31 = .ok (.iload 6, 2) := by decide +kernel
theorem d_Code_tell_33 : decode prog_2_method_2_code 33 = .ok (.iload_n 3, 1) := by decide +kernel
theorem d_Code_tell_34 : decode prog_2_method_2_code 34 = .ok (.if_icmp .ge 41, 3) := by decide +kernel
theorem d_Code_tell_75 : decode prog_2_method_2_code 75 = .ok (.aload_n 0, 1) := by decide +kernel
theorem d_Code_tell_76 : decode prog_2_method_2_code 76 = .ok (.getfield 9, 3) := by decide +kernel
theorem d_Code_tell_79 : decode prog_2_method_2_code 79 = .ok (.iload 4, 2) := by decide +kernel
theorem d_Code_tell_81 : decode prog_2_method_2_code 81 = .ok (.aload_n 0, 1) := by decide +kernel
theorem d_Code_tell_82 : decode prog_2_method_2_code 82 = .ok (.getfield 16, 3) := by decide +kernel
theorem d_Code_tell_85 : decode prog_2_method_2_code 85 = .ok (.iload 5, 2) := by decide +kernel
theorem d_Code_tell_87 : decode prog_2_method_2_code 87 = .ok (.isub, 1) := by decide +kernel
theorem d_Code_tell_88 : decode prog_2_method_2_code 88 = .ok (.iastore, 1) := by decide +kernel
theorem d_Code_tell_89 : decode prog_2_method_2_code 89 = .ok (.iinc 4 1, 3) := by decide +kernel
theorem d_Code_tell_92 : decode prog_2_method_2_code 92 = .ok (.goto (-77), 3) := by decide +kernel
theorem d_Code_tell_37 : decode prog_2_method_2_code 37 = .ok (.aload_n 1, 1) := by decide +kernel
theorem d_Code_tell_38 : decode prog_2_method_2_code 38 = .ok (.iload_n 2, 1) := by decide +kernel
theorem d_Code_tell_39 : decode prog_2_method_2_code 39 = .ok (.iload 6, 2) := by decide +kernel
theorem d_Code_tell_41 : decode prog_2_method_2_code 41 = .ok (.iadd, 1) := by decide +kernel
theorem d_Code_tell_42 : decode prog_2_method_2_code 42 = .ok (.iaload, 1) := by decide +kernel
theorem d_Code_tell_43 : decode prog_2_method_2_code 43 = .ok (.iload 4, 2) := by decide +kernel
theorem d_Code_tell_45 : decode prog_2_method_2_code 45 = .ok (.if_icmp .ne 24, 3) := by decide +kernel
theorem d_Code_tell_69 : decode prog_2_method_2_code 69 = .ok (.iinc 6 1, 3) := by decide +kernel
theorem d_Code_tell_72 : decode prog_2_method_2_code 72 = .ok (.goto (-41), 3) := by decide +kernel
theorem d_Code_tell_48 : decode prog_2_method_2_code 48 = .ok (.aload_n 0, 1) := by decide +kernel
theorem d_Code_tell_49 : decode prog_2_method_2_code 49 = .ok (.getfield 13, 3) := by decide +kernel
theorem d_Code_tell_52 : decode prog_2_method_2_code 52 = .ok (.aload_n 0, 1) := by decide +kernel
theorem d_Code_tell_53 : decode prog_2_method_2_code 53 = .ok (.getfield 16, 3) := by decide +kernel
theorem d_Code_tell_56 : decode prog_2_method_2_code 56 = .ok (.iload 6, 2) := by decide +kernel
theorem d_Code_tell_58 : decode prog_2_method_2_code 58 = .ok (.iastore, 1) := by decide +kernel
theorem d_Code_tell_59 : decode prog_2_method_2_code 59 = .ok (.aload_n 0, 1) := by decide +kernel
theorem d_Code_tell_60 : decode prog_2_method_2_code 60 = .ok (.dup, 1) := by decide +kernel
theorem d_Code_tell_61 : decode prog_2_method_2_code 61 = .ok (.getfield 16, 3) := by decide +kernel
theorem d_Code_tell_64 : decode prog_2_method_2_code 64 = .ok (.iconst 1, 1) := by decide +kernel
theorem d_Code_tell_65 : decode prog_2_method_2_code 65 = .ok (.iadd, 1) := by decide +kernel
theorem d_Code_tell_66 : decode prog_2_method_2_code 66 = .ok (.putfield 16, 3) := by decide +kernel
abbrev y_Code_tell : MethodName := ⟨"PackageBook$Code", "tell", "([III)V"⟩
abbrev i_Code_tell : pb_I := (y_Code_tell, prog_2_method_2_code, 7, (Option.none : Option Jvm.ClassFile.FieldType), [], { frames := 0, cells := 0, slots := 0, locals := 0 })
set_option maxRecDepth 100000 in
set_option maxHeartbeats 4000000 in
theorem g_Code_tell {l : Launch} (hl : l.stackTraces = false) (G : pb_G) (h : Nat) (c : Nat) (y : Nat) (b : Nat) (Ny : Nat) (Nb : Nat) (sz : Int32) (fc : Nat → Int32) (fy : Nat → Int32) (fb : Nat → Int32) (from_ : Int32) (n : Int32) (L : Int → Int) (h0 : 0 ≤ from_.toInt) (h1 : 0 ≤ n.toInt) (h2 : from_.toInt + n.toInt ≤ Nb) (h3 : n.toInt ≤ Ny) (h4 : Nb ≤ 100000) (h5 : Ny ≤ 100000) (hL : ∀ k : Int, 0 ≤ k → k < n.toInt → L k = gx fb (from_.toInt + k)) : Cn l G i_Code_tell [.ref h, .ref b, .int from_, .int n] [(h, .inr (1, [.ref c, .ref y, .int sz])), (c, .inl (G.2.2.1, 16, .inl fc)), (y, .inl (G.2.2.1, Ny, .inl fy)), (b, .inl (G.2.2.1, Nb, .inl fb))] (S := Int32 × (Nat → Int32) × (Nat → Int32)) (fun rv_ u => rv_ = none ∧ (co_I u.1.toInt u.2.1 u.2.2 n.toInt) ∧ (u.1.toInt ≤ n.toInt) ∧ ((∀ k : Int, 0 ≤ k → k < n.toInt → 0 ≤ L k ∧ L k ≤ 15) → cs_R u.1.toInt u.2.1 u.2.2 L n.toInt)) (fun u => [(h, .inr (1, [.ref c, .ref y, .int u.1])), (c, .inl (G.2.2.1, 16, .inl u.2.1)), (y, .inl (G.2.2.1, Ny, .inl u.2.2)), (b, .inl (G.2.2.1, Nb, .inl fb))]) := by
  refine Cn.of hl (by decide +kernel) rfl (Nat.le_of_ble_eq_true rfl) (fun M hQ => ?_)
  refine pb_eq (pc' := 0) (lo' := [(0, .ref h), (1, .ref b), (2, .int from_), (3, .int n)]) (rest' := []) (ws' := [(h, .inr (1, [.ref c, .ref y, .int sz])), (c, .inl (G.2.2.1, 16, .inl fc)), (y, .inl (G.2.2.1, Ny, .inl fy)), (b, .inl (G.2.2.1, Nb, .inl fb))]) ?_
  have zl0 : (0 : Int32).toInt = 0 := by decide
  have zl1 : (1 : Int32).toInt = 1 := by decide
  have zl15 : (15 : Int32).toInt = 15 := by decide
  have z2 : (0 : Int32).toNatClampNeg = 0 := by decide
  have c1 := ti_clamp h0
  have c4 := ti_clamp h1
  refine pb_aload_n (pc := 0) d_Code_tell_0 0 rfl rfl ?_
  refine pb_iconst (pc := 1) (v := 0) d_Code_tell_1 (by decide) ?_
  refine pb_put (pc := 2) (ty := .int) (ws' := [(h, .inr (1, [.ref c, .ref y, .int 0])), (c, .inl (G.2.2.1, 16, .inl fc)), (y, .inl (G.2.2.1, Ny, .inl fy)), (b, .inl (G.2.2.1, Nb, .inl fb))]) d_Code_tell_2 0 2 t_Code t_Code_ok n_Code rfl rfl (by decide) in_Code k_230 rfl (by decide +kernel) rfl rfl (Nat.le_of_ble_eq_true rfl) rfl ?_
  refine pb_aload_n (pc := 5) d_Code_tell_5 0 rfl rfl ?_
  refine pb_get (pc := 6) d_Code_tell_6 0 0 rfl rfl (by decide) in_Code k_226 rfl ?_
  refine pb_iconst (pc := 9) (v := 0) d_Code_tell_9 (by decide) ?_
  refine pb_iconst (pc := 10) (v := 0) d_Code_tell_10 (by decide) ?_
  refine pb_iast (pc := 11) (ws' := [(h, .inr (1, [.ref c, .ref y, .int 0])), (c, .inl (G.2.2.1, 16, .inl (upd fc ((0 : Int32).toNatClampNeg) 0))), (y, .inl (G.2.2.1, Ny, .inl fy)), (b, .inl (G.2.2.1, Nb, .inl fb))]) d_Code_tell_11 1 rfl (by unfold vp_in; decide) rfl ?_
  refine pb_iconst (pc := 12) (v := 1) d_Code_tell_12 (by decide) ?_
  refine pb_istore (pc := 13) (lo' := [(4, .int 1), (0, .ref h), (1, .ref b), (2, .int from_), (3, .int n)]) d_Code_tell_13 (by decide) rfl ?_
  have hL15_1 : ∀ (N9 : Nat) (m : Int32) (s1 : Int32) (g1 : Nat → Int32) (g2 : Nat → Int32), (1 ≤ m.toInt) → (m.toInt ≤ 16) → (s1.toInt = (cd_n fb from_.toNatClampNeg m.toInt n.toNatClampNeg : Int)) → (∀ j : Int, 1 ≤ j → j < m.toInt → 0 ≤ gx g1 j) → (co_s g1 (m.toInt - 1) = s1.toInt) → (∀ j : Int, 0 ≤ j → j < s1.toInt → 0 ≤ gx g2 j ∧ gx g2 j < n.toInt) → (s1.toInt = lt_ L m.toInt n.toInt.toNat) → (∀ b : Int, 1 ≤ b → b < m.toInt → gx g1 b = ct_ L b n.toInt.toNat) → (tq_ g2 L n.toInt m.toInt 0) → ((16 - m.toInt).toNat) < N9 → pb_P l G M i_Code_tell 15 [(4, .int m), (0, .ref h), (1, .ref b), (2, .int from_), (3, .int n)] [] [(h, .inr (1, [.ref c, .ref y, .int s1])), (c, .inl (G.2.2.1, 16, .inl g1)), (y, .inl (G.2.2.1, Ny, .inl g2)), (b, .inl (G.2.2.1, Nb, .inl fb))] 0 0 := by
    intro N9
    induction N9 with
    | zero => intro m s1 g1 g2 hm1 hm2 hs hc0 hc1 hy hl hcc hq hm9; exact absurd hm9 (Nat.not_lt_zero _)
    | succ N9 ih15 =>
      intro m s1 g1 g2 hm1 hm2 hs hc0 hc1 hy hl hcc hq hm9
      refine pb_iload (pc := 15) d_Code_tell_15 0 rfl ?_
      refine pb_bipush (pc := 17) (v := 15) d_Code_tell_17 (by decide) ?_
      refine pb_icmp_gt (pc := 19) (tgt := 95) d_Code_tell_19 (by decide) (fun w2 => ?_) (fun w2 => ?_)
      · have tw2 : 15 < m.toInt := (ti_lt (by decide) rfl).mp w2
        have hm3 : m.toInt = 16 := by omega
        rw [hm3] at hc0 hc1
        have hle := cd_le fb from_.toNatClampNeg m.toInt n.toNatClampNeg
        exact pb_vret (pc := 95) hQ d_Code_tell_95 rfl (s1, g1, g2) ⟨rfl, (show co_I s1.toInt g1 g2 n.toInt from ⟨(by (try dsimp only); omega), fun j h0 h1 => hc0 j h0 (by omega), hc1, hy⟩), (by (try dsimp only); first | done | (with_reducible assumption) | omega (splitDisjunctions := false) | assumption | omega | decide), (show (∀ k : Int, 0 ≤ k → k < n.toInt → 0 ≤ L k ∧ L k ≤ 15) → cs_R s1.toInt g1 g2 L n.toInt from (fun q9 => cs_mk (m := m.toInt) (by omega) hcc hl hq q9))⟩ [0, 1, 2, 3] (by decide) rfl rfl (by decide) (by decide)
      · have tw2 : ¬ 15 < m.toInt := fun z9 => w2 ((ti_lt (by decide) rfl).mpr z9)
        refine pb_aload_n (pc := 22) d_Code_tell_22 1 rfl rfl ?_
        refine pb_get (pc := 23) d_Code_tell_23 0 2 rfl rfl (by decide) in_Code k_230 rfl ?_
        refine pb_istore (pc := 26) (lo' := [(5, .int s1), (4, .int m), (0, .ref h), (1, .ref b), (2, .int from_), (3, .int n)]) d_Code_tell_26 (by decide) rfl ?_
        refine pb_iconst (pc := 28) (v := 0) d_Code_tell_28 (by decide) ?_
        refine pb_istore (pc := 29) (lo' := [(6, .int 0), (5, .int s1), (4, .int m), (0, .ref h), (1, .ref b), (2, .int from_), (3, .int n)]) d_Code_tell_29 (by decide) rfl ?_
        have hL31_3 : ∀ (N9 : Nat) (k : Int32) (s3 : Int32) (g4 : Nat → Int32), (0 ≤ k.toInt) → (k.toInt ≤ n.toInt) → (s3.toInt = (cd_n fb from_.toNatClampNeg m.toInt n.toNatClampNeg : Int) + (cd_e fb from_.toNatClampNeg m.toInt k.toNatClampNeg : Int)) → (∀ j : Int, 0 ≤ j → j < s3.toInt → 0 ≤ gx g4 j ∧ gx g4 j < n.toInt) → (s3.toInt = lt_ L m.toInt n.toInt.toNat + ct_ L m.toInt k.toInt.toNat) → (tq_ g4 L n.toInt m.toInt k.toInt) → ((n.toInt - k.toInt).toNat) < N9 → pb_P l G M i_Code_tell 31 [(6, .int k), (5, .int s1), (4, .int m), (0, .ref h), (1, .ref b), (2, .int from_), (3, .int n)] [] [(h, .inr (1, [.ref c, .ref y, .int s3])), (c, .inl (G.2.2.1, 16, .inl g1)), (y, .inl (G.2.2.1, Ny, .inl g4)), (b, .inl (G.2.2.1, Nb, .inl fb))] 0 0 := by
          intro N9
          induction N9 with
          | zero => intro k s3 g4 hk hk2 hs3 hy3 hl3 hq3 hm9; exact absurd hm9 (Nat.not_lt_zero _)
          | succ N9 ih31 =>
            intro k s3 g4 hk hk2 hs3 hy3 hl3 hq3 hm9
            refine pb_iload (pc := 31) d_Code_tell_31 0 rfl ?_
            refine pb_iload_n (pc := 33) d_Code_tell_33 6 rfl rfl ?_
            refine pb_icmp_ge (pc := 34) (tgt := 75) d_Code_tell_34 (by decide) (fun w4 => ?_) (fun w4 => ?_)
            · have tw4 : n.toInt ≤ k.toInt := (ti_le rfl rfl).mp w4
              have c2 := ti_clamp hk
              have hx := cd_sum fb from_.toNatClampNeg hm1 n.toNatClampNeg
              have hkn : k.toNatClampNeg = n.toNatClampNeg := by omega
              rw [hkn] at hs3
              have hle := cd_le fb from_.toNatClampNeg m.toInt n.toNatClampNeg
              have hle2 := cd_le fb from_.toNatClampNeg (m.toInt + 1) n.toNatClampNeg
              refine pb_aload_n (pc := 75) d_Code_tell_75 3 rfl rfl ?_
              refine pb_get (pc := 76) d_Code_tell_76 0 0 rfl rfl (by decide) in_Code k_226 rfl ?_
              refine pb_iload (pc := 79) d_Code_tell_79 2 rfl ?_
              refine pb_aload_n (pc := 81) d_Code_tell_81 3 rfl rfl ?_
              refine pb_get (pc := 82) d_Code_tell_82 0 2 rfl rfl (by decide) in_Code k_230 rfl ?_
              refine pb_iload (pc := 85) d_Code_tell_85 1 rfl ?_
              refine pb_isub (pc := 87) d_Code_tell_87 ?_
              refine pb_topi (fun i5 ei5 => ?_)
              try have ti5 : i5.toInt = s3.toInt - s1.toInt := ti_sub ei5 rfl rfl (by omega) (by (exact omg_8f8dd291d6 h2 h4 c1 c4 hs hs3 hx hle2))
              refine pb_iast (pc := 88) (ws' := [(h, .inr (1, [.ref c, .ref y, .int s3])), (c, .inl (G.2.2.1, 16, .inl (upd g1 ((m : Int32).toNatClampNeg) i5))), (y, .inl (G.2.2.1, Ny, .inl g4)), (b, .inl (G.2.2.1, Nb, .inl fb))]) d_Code_tell_88 1 rfl (vp_in_iff.mpr (by constructor <;> omega)) rfl ?_
              refine pb_iincN (pc := 89) (c := 1) d_Code_tell_89 2 rfl (by decide) (by decide) (fun i6 ei6 => ?_)
              have ti6 : i6.toInt = m.toInt + 1 := ti_add ei6 rfl (by decide) (by omega) (by omega)
              refine pb_eq (pc' := 92) (lo' := [(4, .int i6), (6, .int k), (5, .int s1), (0, .ref h), (1, .ref b), (2, .int from_), (3, .int n)]) (rest' := []) (ws' := [(h, .inr (1, [.ref c, .ref y, .int s3])), (c, .inl (G.2.2.1, 16, .inl (upd g1 ((m : Int32).toNatClampNeg) i5))), (y, .inl (G.2.2.1, Ny, .inl g4)), (b, .inl (G.2.2.1, Nb, .inl fb))]) ?_
              refine pb_goto (pc := 92) (tgt := 15) d_Code_tell_92 (by decide) ?_
              refine pb_re (ws' := [(h, .inr (1, [.ref c, .ref y, .int s3])), (c, .inl (G.2.2.1, 16, .inl (upd g1 ((m : Int32).toNatClampNeg) i5))), (y, .inl (G.2.2.1, Ny, .inl g4)), (b, .inl (G.2.2.1, Nb, .inl fb))]) (lo' := [(4, .int i6), (0, .ref h), (1, .ref b), (2, .int from_), (3, .int n)]) [0, 1, 2, 3] [0, 3, 4, 5, 6] (by decide) rfl rfl rfl ?_
              exact ih15 i6 s3 (upd g1 ((m : Int32).toNatClampNeg) i5) g4 (by first | (with_reducible assumption) | omega (splitDisjunctions := false) | assumption | omega | decide) (by first | (with_reducible assumption) | omega (splitDisjunctions := false) | assumption | omega | decide) (by rw [show i6.toInt = m.toInt + 1 by omega]; omega) (fun j h0 h1 => by rw [gx_upd rfl j (by omega) (by omega)]; split <;> first | omega | exact hc0 j h0 (by omega)) (by rw [show i6.toInt - 1 = m.toInt by omega]; exact co_put rfl hm1 hc1 (by omega)) hy3 (by rw [show i6.toInt = m.toInt + 1 by omega, ← lt_sum L hm1, show n.toInt.toNat = k.toInt.toNat by (exact omg_da822fc3fa hk2 tw4)] ; rw [show n.toInt.toNat = k.toInt.toNat by omega] at hl3; exact hl3) (fun b h0 h1 => by rw [gx_upd rfl b (by omega) (by omega)]; split <;> first | (rename_i w9; rw [w9]; rw [show n.toInt.toNat = k.toInt.toNat by (first | exact omg_da822fc3fa hk2 tw4 | omega)] at hl hl3 ⊢; omega) | exact hcc b h0 (by omega)) (tq_nx hq3 (by omega) (by omega)) (by omega)
            · have tw4 : ¬ n.toInt ≤ k.toInt := fun z9 => w4 ((ti_le rfl rfl).mpr z9)
              refine pb_aload_n (pc := 37) d_Code_tell_37 4 rfl rfl ?_
              refine pb_iload_n (pc := 38) d_Code_tell_38 5 rfl rfl ?_
              refine pb_iload (pc := 39) d_Code_tell_39 0 rfl ?_
              refine pb_iadd (pc := 41) d_Code_tell_41 ?_
              refine pb_topi (fun i7 ei7 => ?_)
              try have ti7 : i7.toInt = from_.toInt + k.toInt := ti_add ei7 rfl rfl (by omega) (by omega)
              refine pb_iald (pc := 42) d_Code_tell_42 3 rfl (vp_in_iff.mpr (by constructor <;> omega)) ?_
              refine pb_topi (fun i8 ei8 => ?_)
              have ti8 : i8.toInt = gx fb (i7.toInt) := gx_ld ei8 rfl
              have hLk := hL k.toInt hk (by omega)
              rw [show from_.toInt + k.toInt = i7.toInt by omega, ← ti8] at hLk
              have cS := ct_s (L := L) (b := m.toInt) (k := k.toInt) (m := k.toInt + 1) hk rfl
              refine pb_iload (pc := 43) d_Code_tell_43 2 rfl ?_
              have c2 := ti_clamp hk
              have hBB : (fb (from_.toNatClampNeg + k.toNatClampNeg)).toInt = i8.toInt := by rw [ei8, show from_.toNatClampNeg + k.toNatClampNeg = i7.toNatClampNeg by have := ti_clamp (x := i7) (by omega); omega]
              refine pb_icmp_ne (pc := 45) (tgt := 69) d_Code_tell_45 (by decide) (fun w9 => ?_) (fun w9 => ?_)
              · have tw9 : ¬ i8.toInt = m.toInt := fun z9 => w9 ((ti_eq rfl rfl).mpr z9)
                refine pb_iincN (pc := 69) (c := 1) d_Code_tell_69 0 rfl (by decide) (by decide) (fun i10 ei10 => ?_)
                have ti10 : i10.toInt = k.toInt + 1 := ti_add ei10 rfl (by decide) (by omega) (by (exact omg_4ae52722b8 h2 h4 c1 tw4))
                refine pb_eq (pc' := 72) (lo' := [(6, .int i10), (5, .int s1), (4, .int m), (0, .ref h), (1, .ref b), (2, .int from_), (3, .int n)]) (rest' := []) (ws' := [(h, .inr (1, [.ref c, .ref y, .int s3])), (c, .inl (G.2.2.1, 16, .inl g1)), (y, .inl (G.2.2.1, Ny, .inl g4)), (b, .inl (G.2.2.1, Nb, .inl fb))]) ?_
                refine pb_goto (pc := 72) (tgt := 31) d_Code_tell_72 (by decide) ?_
                exact ih31 i10 s3 g4 (by first | (with_reducible assumption) | omega (splitDisjunctions := false) | assumption | omega | decide) (by first | (with_reducible assumption) | omega (splitDisjunctions := false) | assumption | omega | decide) (by rw [show i10.toNatClampNeg = k.toNatClampNeg + 1 by have := ti_clamp (x := i10) (by omega); (exact omg_90e46e9da7 c2 ti10 this)]; simp only [cd_e]; split <;> omega) (by first | exact hy3 | exact fun j h0 h1 => by rw [gx_upd rfl j (by omega) h0]; split <;> first | omega | exact hy3 j h0 (by omega)) (by rw [show i10.toInt = k.toInt + 1 by omega, cS]; split <;> omega) (by first | exact tq_skip hq3 (by omega) (by omega) | exact tq_put hq3 (by omega) hk (by omega) hm1 hl3 (by omega) rfl rfl) (by (exact omg_7c8a06b1f5 hm9 tw4 ti10))
              · have tw9 : i8.toInt = m.toInt := (ti_eq rfl rfl).mp w9
                have hR := cd_room fb from_.toNatClampNeg hm1 (j := k.toNatClampNeg) (k := n.toNatClampNeg) (by omega) (by (exact omg_796e88ddd9 hBB tw9))
                refine pb_aload_n (pc := 48) d_Code_tell_48 3 rfl rfl ?_
                refine pb_get (pc := 49) d_Code_tell_49 0 1 rfl rfl (by decide) in_Code k_228 rfl ?_
                refine pb_aload_n (pc := 52) d_Code_tell_52 3 rfl rfl ?_
                refine pb_get (pc := 53) d_Code_tell_53 0 2 rfl rfl (by decide) in_Code k_230 rfl ?_
                refine pb_iload (pc := 56) d_Code_tell_56 0 rfl ?_
                refine pb_iast (pc := 58) (ws' := [(h, .inr (1, [.ref c, .ref y, .int s3])), (c, .inl (G.2.2.1, 16, .inl g1)), (y, .inl (G.2.2.1, Ny, .inl (upd g4 ((s3 : Int32).toNatClampNeg) k))), (b, .inl (G.2.2.1, Nb, .inl fb))]) d_Code_tell_58 2 rfl (vp_in_iff.mpr (by constructor <;> (first | exact omg_ce8fc39c01 hs3 | omega))) rfl ?_
                refine pb_aload_n (pc := 59) d_Code_tell_59 3 rfl rfl ?_
                refine pb_dup (pc := 60) d_Code_tell_60 rfl ?_
                refine pb_get (pc := 61) d_Code_tell_61 0 2 rfl rfl (by decide) in_Code k_230 rfl ?_
                refine pb_iconst (pc := 64) (v := 1) d_Code_tell_64 (by decide) ?_
                refine pb_iadd (pc := 65) d_Code_tell_65 ?_
                refine pb_topi (fun i11 ei11 => ?_)
                try have ti11 : i11.toInt = s3.toInt + 1 := ti_add ei11 rfl (by decide) (by omega) (by omega)
                refine pb_put (pc := 66) (ty := .int) (ws' := [(h, .inr (1, [.ref c, .ref y, .int i11])), (c, .inl (G.2.2.1, 16, .inl g1)), (y, .inl (G.2.2.1, Ny, .inl (upd g4 ((s3 : Int32).toNatClampNeg) k))), (b, .inl (G.2.2.1, Nb, .inl fb))]) d_Code_tell_66 0 2 t_Code t_Code_ok n_Code rfl rfl (by decide) in_Code k_230 rfl (by decide +kernel) rfl rfl (Nat.le_of_ble_eq_true rfl) rfl ?_
                refine pb_iincN (pc := 69) (c := 1) d_Code_tell_69 0 rfl (by decide) (by decide) (fun i12 ei12 => ?_)
                have ti12 : i12.toInt = k.toInt + 1 := ti_add ei12 rfl (by decide) (by omega) (by (exact omg_4ae52722b8 h2 h4 c1 tw4))
                refine pb_eq (pc' := 72) (lo' := [(6, .int i12), (5, .int s1), (4, .int m), (0, .ref h), (1, .ref b), (2, .int from_), (3, .int n)]) (rest' := []) (ws' := [(h, .inr (1, [.ref c, .ref y, .int i11])), (c, .inl (G.2.2.1, 16, .inl g1)), (y, .inl (G.2.2.1, Ny, .inl (upd g4 ((s3 : Int32).toNatClampNeg) k))), (b, .inl (G.2.2.1, Nb, .inl fb))]) ?_
                refine pb_goto (pc := 72) (tgt := 31) d_Code_tell_72 (by decide) ?_
                exact ih31 i12 i11 (upd g4 ((s3 : Int32).toNatClampNeg) k) (by first | (with_reducible assumption) | omega (splitDisjunctions := false) | assumption | omega | decide) (by first | (with_reducible assumption) | omega (splitDisjunctions := false) | assumption | omega | decide) (by rw [show i12.toNatClampNeg = k.toNatClampNeg + 1 by have := ti_clamp (x := i12) (by omega); (exact omg_90e46e9da7 c2 ti12 this)]; simp only [cd_e]; split <;> omega) (by first | exact hy3 | exact fun j h0 h1 => by rw [gx_upd rfl j (by (exact omg_ce8fc39c01 hs3)) h0]; split <;> first | omega | exact hy3 j h0 (by omega)) (by rw [show i12.toInt = k.toInt + 1 by omega, cS]; split <;> omega) (by first | exact tq_skip hq3 (by omega) (by omega) | exact tq_put hq3 (by omega) hk (by (exact omg_796e88ddd9 hLk tw9)) hm1 hl3 (by (exact omg_ce8fc39c01 hs3)) rfl rfl) (by (exact omg_7c8a06b1f5 hm9 tw4 ti12))
        exact hL31_3 _ 0 s1 g2 (by first | (with_reducible assumption) | omega (splitDisjunctions := false) | assumption | omega | decide) (by first | (with_reducible assumption) | omega (splitDisjunctions := false) | assumption | omega | decide) (by rw [z2]; simp only [cd_e]; omega) hy (by rw [zl0, show (0 : Int).toNat = 0 from rfl, ct_]; omega) (by rw [zl0]; exact hq) (Nat.lt_succ_self _)
  exact hL15_1 _ 1 0 (upd fc ((0 : Int32).toNatClampNeg) 0) fy (by first | (with_reducible assumption) | omega (splitDisjunctions := false) | assumption | omega | decide) (by first | (with_reducible assumption) | omega (splitDisjunctions := false) | assumption | omega | decide) (by rw [zl0, zl1, cd_one]; rfl) (fun j h0 h1 => absurd h1 (by omega)) (by rw [zl1, zl0]; rfl) (fun j h0 h1 => absurd h1 (by omega)) (by rw [zl1, lt_one, zl0]) (fun b h0 h1 => absurd h1 (by omega)) (by rw [zl1]; exact tq_1) (Nat.lt_succ_self _)

theorem d_Code_isRight_0 : decode prog_2_method_3_code 0 = .ok (.iconst 1, 1) := by decide +kernel
theorem d_Code_isRight_1 : decode prog_2_method_3_code 1 = .ok (.istore_n 1, 1) := by decide +kernel
theorem d_Code_isRight_2 : decode prog_2_method_3_code 2 = .ok (.iconst 1, 1) := by decide +kernel
theorem d_Code_isRight_3 : decode prog_2_method_3_code 3 = .ok (.istore_n 2, 1) := by decide +kernel
theorem d_Code_isRight_4 : decode prog_2_method_3_code 4 = .ok (.iload_n 2, 1) := by decide +kernel
theorem d_Code_isRight_5 : decode prog_2_method_3_code 5 = .ok (.bipush 15, 2) := by decide +kernel
theorem d_Code_isRight_7 : decode prog_2_method_3_code 7 = .ok (.if_icmp .gt 26, 3) := by decide +kernel
theorem d_Code_isRight_33 : decode prog_2_method_3_code 33 = .ok (.iload_n 1, 1) := by decide +kernel
theorem d_Code_isRight_34 : decode prog_2_method_3_code 34 = .ok (.ifCond .eq 21, 3) := by decide +kernel
theorem d_Code_isRight_55 : decode prog_2_method_3_code 55 = .ok (.iconst 1, 1) := by decide +kernel
theorem d_Code_isRight_56 : decode prog_2_method_3_code 56 = .ok (.goto 4, 3) := by decide +kernel
theorem d_Code_isRight_60 : decode prog_2_method_3_code 60 = .ok (.ireturn, 1) := by decide +kernel
theorem d_Code_isRight_37 : decode prog_2_method_3_code 37 = .ok (.aload_n 0, 1) := by decide +kernel
theorem d_Code_isRight_38 : decode prog_2_method_3_code 38 = .ok (.getfield 16, 3) := by decide +kernel
theorem d_Code_isRight_41 : decode prog_2_method_3_code 41 = .ok (.iconst 1, 1) := by decide +kernel
theorem d_Code_isRight_42 : decode prog_2_method_3_code 42 = .ok (.if_icmp .ne 17, 3) := by decide +kernel
theorem d_Code_isRight_59 : decode prog_2_method_3_code 59 = .ok (.iconst 0, 1) := by decide +kernel
theorem d_Code_isRight_45 : decode prog_2_method_3_code 45 = .ok (.aload_n 0, 1) := by decide +kernel
theorem d_Code_isRight_46 : decode prog_2_method_3_code 46 = .ok (.getfield 9, 3) := by decide +kernel
theorem d_Code_isRight_49 : decode prog_2_method_3_code 49 = .ok (.iconst 1, 1) := by decide +kernel
theorem d_Code_isRight_50 : decode prog_2_method_3_code 50 = .ok (.iaload, 1) := by decide +kernel
theorem d_Code_isRight_51 : decode prog_2_method_3_code 51 = .ok (.iconst 1, 1) := by decide +kernel
theorem d_Code_isRight_52 : decode prog_2_method_3_code 52 = .ok (.if_icmp .ne 7, 3) := by decide +kernel
theorem d_Code_isRight_10 : decode prog_2_method_3_code 10 = .ok (.iconst 2, 1) := by decide +kernel
theorem d_Code_isRight_11 : decode prog_2_method_3_code 11 = .ok (.iload_n 1, 1) := by decide +kernel
theorem d_Code_isRight_12 : decode prog_2_method_3_code 12 = .ok (.imul, 1) := by decide +kernel
theorem d_Code_isRight_13 : decode prog_2_method_3_code 13 = .ok (.aload_n 0, 1) := by decide +kernel
theorem d_Code_isRight_14 : decode prog_2_method_3_code 14 = .ok (.getfield 9, 3) := by decide +kernel
theorem d_Code_isRight_17 : decode prog_2_method_3_code 17 = .ok (.iload_n 2, 1) := by decide +kernel
theorem d_Code_isRight_18 : decode prog_2_method_3_code 18 = .ok (.iaload, 1) := by decide +kernel
theorem d_Code_isRight_19 : decode prog_2_method_3_code 19 = .ok (.isub, 1) := by decide +kernel
theorem d_Code_isRight_20 : decode prog_2_method_3_code 20 = .ok (.istore_n 1, 1) := by decide +kernel
theorem d_Code_isRight_21 : decode prog_2_method_3_code 21 = .ok (.iload_n 1, 1) := by decide +kernel
theorem d_Code_isRight_22 : decode prog_2_method_3_code 22 = .ok (.ifCond .ge 5, 3) := by decide +kernel
theorem d_Code_isRight_27 : decode prog_2_method_3_code 27 = .ok (.iinc 2 1, 3) := by decide +kernel
theorem d_Code_isRight_30 : decode prog_2_method_3_code 30 = .ok (.goto (-26), 3) := by decide +kernel
theorem d_Code_isRight_25 : decode prog_2_method_3_code 25 = .ok (.iconst 0, 1) := by decide +kernel
theorem d_Code_isRight_26 : decode prog_2_method_3_code 26 = .ok (.ireturn, 1) := by decide +kernel
abbrev y_Code_isRight : MethodName := ⟨"PackageBook$Code", "isRight", "()Z"⟩
abbrev i_Code_isRight : pb_I := (y_Code_isRight, prog_2_method_3_code, 3, (some Jvm.ClassFile.FieldType.boolean), [], { frames := 0, cells := 0, slots := 0, locals := 0 })
set_option maxRecDepth 100000 in
set_option maxHeartbeats 4000000 in
theorem g_Code_isRight {l : Launch} (hl : l.stackTraces = false) (G : pb_G) (h : Nat) (c : Nat) (y : Nat) (Ny : Nat) (sz : Int32) (fc : Nat → Int32) (fy : Nat → Int32) (B : Int) (L : Int → Int) (nL : Int) (hco : co_I sz.toInt fc fy B) : Cn l G i_Code_isRight [.ref h] [(h, .inr (1, [.ref c, .ref y, .int sz])), (c, .inl (G.2.2.1, 16, .inl fc)), (y, .inl (G.2.2.1, Ny, .inl fy))] (S := Int32) (fun rv_ u => rv_ = some (.int u) ∧ (u.toInt = 0 ∨ u.toInt = 1) ∧ (cs_R sz.toInt fc fy L nL → u.toInt = rt_f L nL)) (fun u => [(h, .inr (1, [.ref c, .ref y, .int sz])), (c, .inl (G.2.2.1, 16, .inl fc)), (y, .inl (G.2.2.1, Ny, .inl fy))]) := by
  refine Cn.of hl (by decide +kernel) rfl (Nat.le_of_ble_eq_true rfl) (fun M hQ => ?_)
  refine pb_eq (pc' := 0) (lo' := [(0, .ref h)]) (rest' := []) (ws' := [(h, .inr (1, [.ref c, .ref y, .int sz])), (c, .inl (G.2.2.1, 16, .inl fc)), (y, .inl (G.2.2.1, Ny, .inl fy))]) ?_
  have zl0 : (0 : Int32).toInt = 0 := by decide
  have zl1 : (1 : Int32).toInt = 1 := by decide
  have zl2 : (2 : Int32).toInt = 2 := by decide
  have zl15 : (15 : Int32).toInt = 15 := by decide
  have hsz := hco.1
  refine pb_iconst (pc := 0) (v := 1) d_Code_isRight_0 (by decide) ?_
  refine pb_istore_n (pc := 1) (lo' := [(1, .int 1), (0, .ref h)]) d_Code_isRight_1 rfl (by decide) rfl ?_
  refine pb_iconst (pc := 2) (v := 1) d_Code_isRight_2 (by decide) ?_
  refine pb_istore_n (pc := 3) (lo' := [(2, .int 1), (1, .int 1), (0, .ref h)]) d_Code_isRight_3 rfl (by decide) rfl ?_
  have hL4_1 : ∀ (N9 : Nat) (fr : Int32) (m : Int32), (1 ≤ m.toInt) → (m.toInt ≤ 16) → (0 ≤ fr.toInt) → (fr.toInt ≤ p2 (m.toInt - 1)) → (cs_R sz.toInt fc fy L nL → rt_l L nL (16 - m.toInt).toNat m.toInt fr.toInt = rt_f L nL) → ((16 - m.toInt).toNat) < N9 → pb_P l G M i_Code_isRight 4 [(1, .int fr), (2, .int m), (0, .ref h)] [] [(h, .inr (1, [.ref c, .ref y, .int sz])), (c, .inl (G.2.2.1, 16, .inl fc)), (y, .inl (G.2.2.1, Ny, .inl fy))] 0 0 := by
    intro N9
    induction N9 with
    | zero => intro fr m hm hm2 hf0 hf1 hR hm9; exact absurd hm9 (Nat.not_lt_zero _)
    | succ N9 ih4 =>
      intro fr m hm hm2 hf0 hf1 hR hm9
      refine pb_iload_n (pc := 4) d_Code_isRight_4 1 rfl rfl ?_
      refine pb_bipush (pc := 5) (v := 15) d_Code_isRight_5 (by decide) ?_
      refine pb_icmp_gt (pc := 7) (tgt := 33) d_Code_isRight_7 (by decide) (fun w2 => ?_) (fun w2 => ?_)
      · have tw2 : 15 < m.toInt := (ti_lt (by decide) rfl).mp w2
        refine pb_iload_n (pc := 33) d_Code_isRight_33 0 rfl rfl ?_
        refine pb_if_eq (pc := 34) (tgt := 55) d_Code_isRight_34 (by decide) (fun w3 => ?_) (fun w3 => ?_)
        · have tw3 : fr.toInt = 0 := (ti_eq rfl (by decide)).mp w3
          refine pb_iconst (pc := 55) (v := 1) d_Code_isRight_55 (by decide) ?_
          refine pb_goto (pc := 56) (tgt := 60) d_Code_isRight_56 (by decide) ?_
          exact pb_iret (pc := 60) hQ d_Code_isRight_60 rfl rfl (1) ⟨rfl, (by (try dsimp only); first | done | (with_reducible assumption) | omega (splitDisjunctions := false) | assumption | omega | decide), (show cs_R sz.toInt fc fy L nL → (1 : Int32).toInt = rt_f L nL from (fun q9 => (rt_end (t := sz.toInt) (c := gx fc 1) (by omega) q9.2.1 (q9.1 1 (by omega) (by omega)) (by omega)).symm.trans (hR q9)))⟩ [0, 1, 2] (by decide) rfl rfl (by decide) (by decide)
        · have tw3 : ¬ fr.toInt = 0 := fun z9 => w3 ((ti_eq rfl (by decide)).mpr z9)
          refine pb_aload_n (pc := 37) d_Code_isRight_37 2 rfl rfl ?_
          refine pb_get (pc := 38) d_Code_isRight_38 0 2 rfl rfl (by decide) in_Code k_230 rfl ?_
          refine pb_iconst (pc := 41) (v := 1) d_Code_isRight_41 (by decide) ?_
          refine pb_icmp_ne (pc := 42) (tgt := 59) d_Code_isRight_42 (by decide) (fun w4 => ?_) (fun w4 => ?_)
          · have tw4 : ¬ sz.toInt = 1 := fun z9 => w4 ((ti_eq rfl (by decide)).mpr z9)
            refine pb_iconst (pc := 59) (v := 0) d_Code_isRight_59 (by decide) ?_
            exact pb_iret (pc := 60) hQ d_Code_isRight_60 rfl rfl (0) ⟨rfl, (by (try dsimp only); first | done | (with_reducible assumption) | omega (splitDisjunctions := false) | assumption | omega | decide), (show cs_R sz.toInt fc fy L nL → (0 : Int32).toInt = rt_f L nL from (fun q9 => (rt_end (t := sz.toInt) (c := gx fc 1) (by omega) q9.2.1 (q9.1 1 (by omega) (by omega)) (by omega)).symm.trans (hR q9)))⟩ [0, 1, 2] (by decide) rfl rfl (by decide) (by decide)
          · have tw4 : sz.toInt = 1 := (ti_eq rfl (by decide)).mp w4
            refine pb_aload_n (pc := 45) d_Code_isRight_45 2 rfl rfl ?_
            refine pb_get (pc := 46) d_Code_isRight_46 0 0 rfl rfl (by decide) in_Code k_226 rfl ?_
            refine pb_iconst (pc := 49) (v := 1) d_Code_isRight_49 (by decide) ?_
            refine pb_iald (pc := 50) d_Code_isRight_50 1 rfl (by unfold vp_in; decide) ?_
            refine pb_topi (fun i5 ei5 => ?_)
            have ti5 : i5.toInt = gx fc (1) := gx_ld ei5 (by omega)
            refine pb_iconst (pc := 51) (v := 1) d_Code_isRight_51 (by decide) ?_
            refine pb_icmp_ne (pc := 52) (tgt := 59) d_Code_isRight_52 (by decide) (fun w6 => ?_) (fun w6 => ?_)
            · have tw6 : ¬ i5.toInt = 1 := fun z9 => w6 ((ti_eq rfl (by decide)).mpr z9)
              refine pb_iconst (pc := 59) (v := 0) d_Code_isRight_59 (by decide) ?_
              exact pb_iret (pc := 60) hQ d_Code_isRight_60 rfl rfl (0) ⟨rfl, (by (try dsimp only); first | done | (with_reducible assumption) | omega (splitDisjunctions := false) | assumption | omega | decide), (show cs_R sz.toInt fc fy L nL → (0 : Int32).toInt = rt_f L nL from (fun q9 => (rt_end (t := sz.toInt) (c := gx fc 1) (by omega) q9.2.1 (q9.1 1 (by omega) (by omega)) (by omega)).symm.trans (hR q9)))⟩ [0, 1, 2] (by decide) rfl rfl (by decide) (by decide)
            · have tw6 : i5.toInt = 1 := (ti_eq rfl (by decide)).mp w6
              refine pb_iconst (pc := 55) (v := 1) d_Code_isRight_55 (by decide) ?_
              refine pb_goto (pc := 56) (tgt := 60) d_Code_isRight_56 (by decide) ?_
              exact pb_iret (pc := 60) hQ d_Code_isRight_60 rfl rfl (1) ⟨rfl, (by (try dsimp only); first | done | (with_reducible assumption) | omega (splitDisjunctions := false) | assumption | omega | decide), (show cs_R sz.toInt fc fy L nL → (1 : Int32).toInt = rt_f L nL from (fun q9 => (rt_end (t := sz.toInt) (c := gx fc 1) (by omega) q9.2.1 (q9.1 1 (by omega) (by omega)) (by omega)).symm.trans (hR q9)))⟩ [0, 1, 2] (by decide) rfl rfl (by decide) (by decide)
      · have tw2 : ¬ 15 < m.toInt := fun z9 => w2 ((ti_lt (by decide) rfl).mpr z9)
        refine pb_iconst (pc := 10) (v := 2) d_Code_isRight_10 (by decide) ?_
        refine pb_iload_n (pc := 11) d_Code_isRight_11 0 rfl rfl ?_
        have q1 := hco.2.1 m.toInt (by omega) (by omega)
        have q2 := p2_s (k := m.toInt - 1) (m := m.toInt) (by omega) (by omega)
        have q3 := p2_le (k := m.toInt) (by omega)
        refine pb_imul (pc := 12) d_Code_isRight_12 ?_
        refine pb_topi (fun i7 ei7 => ?_)
        try have ti7 : i7.toInt = 2 * fr.toInt := ti_mul ei7 (by decide) rfl (by omega) (by omega)
        refine pb_aload_n (pc := 13) d_Code_isRight_13 2 rfl rfl ?_
        refine pb_get (pc := 14) d_Code_isRight_14 0 0 rfl rfl (by decide) in_Code k_226 rfl ?_
        refine pb_iload_n (pc := 17) d_Code_isRight_17 1 rfl rfl ?_
        refine pb_iald (pc := 18) d_Code_isRight_18 1 rfl (vp_in_iff.mpr (by constructor <;> omega)) ?_
        refine pb_topi (fun i8 ei8 => ?_)
        have ti8 : i8.toInt = gx fc (m.toInt) := gx_ld ei8 rfl
        have r8 := ti_rng i8
        refine pb_isub (pc := 19) d_Code_isRight_19 ?_
        refine pb_topi (fun i9 ei9 => ?_)
        try have ti9 : i9.toInt = i7.toInt - i8.toInt := ti_sub ei9 rfl rfl (by omega) (by omega)
        refine pb_istore_n (pc := 20) (lo' := [(1, .int i9), (2, .int m), (0, .ref h)]) d_Code_isRight_20 rfl (by decide) rfl ?_
        refine pb_iload_n (pc := 21) d_Code_isRight_21 0 rfl rfl ?_
        refine pb_if_ge (pc := 22) (tgt := 27) d_Code_isRight_22 (by decide) (fun w10 => ?_) (fun w10 => ?_)
        · have tw10 : 0 ≤ i9.toInt := (ti_le (by decide) rfl).mp w10
          refine pb_iincN (pc := 27) (c := 1) d_Code_isRight_27 1 rfl (by decide) (by decide) (fun i11 ei11 => ?_)
          have ti11 : i11.toInt = m.toInt + 1 := ti_add ei11 rfl (by decide) (by omega) (by omega)
          refine pb_eq (pc' := 30) (lo' := [(2, .int i11), (1, .int i9), (0, .ref h)]) (rest' := []) (ws' := [(h, .inr (1, [.ref c, .ref y, .int sz])), (c, .inl (G.2.2.1, 16, .inl fc)), (y, .inl (G.2.2.1, Ny, .inl fy))]) ?_
          refine pb_goto (pc := 30) (tgt := 4) d_Code_isRight_30 (by decide) ?_
          refine pb_re (ws' := [(h, .inr (1, [.ref c, .ref y, .int sz])), (c, .inl (G.2.2.1, 16, .inl fc)), (y, .inl (G.2.2.1, Ny, .inl fy))]) (lo' := [(1, .int i9), (2, .int i11), (0, .ref h)]) [0, 1, 2] [1, 0, 2] (by decide) rfl rfl rfl ?_
          exact ih4 i9 i11 (by first | (with_reducible assumption) | omega (splitDisjunctions := false) | assumption | omega | decide) (by first | (with_reducible assumption) | omega (splitDisjunctions := false) | assumption | omega | decide) (by first | (with_reducible assumption) | omega (splitDisjunctions := false) | assumption | omega | decide) (by rw [show i11.toInt - 1 = m.toInt by omega]; omega) (fun q9 => (rt_go (c := gx fc m.toInt) (by (exact omg_4b44cbffe3 tw2 ti11)) (q9.1 m.toInt (by omega) (by omega)) (by omega) (by omega) (by omega)).symm.trans (hR q9)) (by (exact omg_09b75e0929 hm9 tw2 ti11))
        · have tw10 : ¬ 0 ≤ i9.toInt := fun z9 => w10 ((ti_le (by decide) rfl).mpr z9)
          refine pb_iconst (pc := 25) (v := 0) d_Code_isRight_25 (by decide) ?_
          exact pb_iret (pc := 26) hQ d_Code_isRight_26 rfl rfl (0) ⟨rfl, (by (try dsimp only); first | done | (with_reducible assumption) | omega (splitDisjunctions := false) | assumption | omega | decide), (show cs_R sz.toInt fc fy L nL → (0 : Int32).toInt = rt_f L nL from (fun q9 => (rt_no (c := gx fc m.toInt) (by omega) (q9.1 m.toInt (by omega) (by omega)) (by omega) zl0).symm.trans (hR q9)))⟩ [0, 1, 2] (by decide) rfl rfl (by decide) (by decide)
  refine pb_re (ws' := [(h, .inr (1, [.ref c, .ref y, .int sz])), (c, .inl (G.2.2.1, 16, .inl fc)), (y, .inl (G.2.2.1, Ny, .inl fy))]) (lo' := [(1, .int 1), (2, .int 1), (0, .ref h)]) [0, 1, 2] [1, 0, 2] (by decide) rfl rfl rfl ?_
  exact hL4_1 _ 1 1 (by first | (with_reducible assumption) | omega (splitDisjunctions := false) | assumption | omega | decide) (by first | (with_reducible assumption) | omega (splitDisjunctions := false) | assumption | omega | decide) (by first | (with_reducible assumption) | omega (splitDisjunctions := false) | assumption | omega | decide) (by rw [zl1]; decide) (fun _ => by rw [zl1]; rfl) (Nat.lt_succ_self _)

theorem d_Expander_setAll_0 : decode prog_3_method_2_code 0 = .ok (.iload_n 1, 1) := by decide +kernel
theorem d_Expander_setAll_1 : decode prog_3_method_2_code 1 = .ok (.istore 4, 2) := by decide +kernel
theorem d_Expander_setAll_3 : decode prog_3_method_2_code 3 = .ok (.iload 4, 2) := by decide +kernel
theorem d_Expander_setAll_5 : decode prog_3_method_2_code 5 = .ok (.iload_n 2, 1) := by decide +kernel
theorem d_Expander_setAll_6 : decode prog_3_method_2_code 6 = .ok (.if_icmp .ge 14, 3) := by decide +kernel
theorem d_Expander_setAll_20 : decode prog_3_method_2_code 20 = .ok (.return_, 1) := by decide +kernel
theorem d_Expander_setAll_9 : decode prog_3_method_2_code 9 = .ok (.aload_n 0, 1) := by decide +kernel
theorem d_Expander_setAll_10 : decode prog_3_method_2_code 10 = .ok (.iload 4, 2) := by decide +kernel
theorem d_Expander_setAll_12 : decode prog_3_method_2_code 12 = .ok (.iload_n 3, 1) := by decide +kernel
theorem d_Expander_setAll_13 : decode prog_3_method_2_code 13 = .ok (.iastore, 1) := by decide +kernel
theorem d_Expander_setAll_14 : decode prog_3_method_2_code 14 = .ok (.iinc 4 1, 3) := by decide +kernel
theorem d_Expander_setAll_17 : decode prog_3_method_2_code 17 = .ok (.goto (-14), 3) := by decide +kernel
abbrev y_Expander_setAll : MethodName := ⟨"PackageBook$Expander", "setAll", "([IIII)V"⟩
abbrev i_Expander_setAll : pb_I := (y_Expander_setAll, prog_3_method_2_code, 5, (Option.none : Option Jvm.ClassFile.FieldType), [], { frames := 0, cells := 0, slots := 0, locals := 0 })
set_option maxRecDepth 100000 in
set_option maxHeartbeats 4000000 in
theorem g_Exp_setAll {l : Launch} (hl : l.stackTraces = false) (G : pb_G) (b : Nat) (N : Nat) (f : Nat → Int32) (from_ : Int32) (end_ : Int32) (v : Int32) (h0 : 0 ≤ from_.toInt) (h1 : end_.toInt ≤ N) (h2 : N ≤ 100000) : Cn l G i_Expander_setAll [.ref b, .int from_, .int end_, .int v] [(b, .inl (G.2.2.1, N, .inl f))] (S := (Nat → Int32)) (fun rv_ u => rv_ = none ∧ (∀ j : Int, 0 ≤ j → gx u j = if from_.toInt ≤ j ∧ j < end_.toInt then v.toInt else gx f j)) (fun u => [(b, .inl (G.2.2.1, N, .inl u))]) := by
  refine Cn.of hl (by decide +kernel) rfl (Nat.le_of_ble_eq_true rfl) (fun M hQ => ?_)
  refine pb_eq (pc' := 0) (lo' := [(0, .ref b), (1, .int from_), (2, .int end_), (3, .int v)]) (rest' := []) (ws' := [(b, .inl (G.2.2.1, N, .inl f))]) ?_
  have zl0 : (0 : Int32).toInt = 0 := by decide
  have zl1 : (1 : Int32).toInt = 1 := by decide
  refine pb_iload_n (pc := 0) d_Expander_setAll_0 1 rfl rfl ?_
  refine pb_istore (pc := 1) (lo' := [(4, .int from_), (0, .ref b), (1, .int from_), (2, .int end_), (3, .int v)]) d_Expander_setAll_1 (by decide) rfl ?_
  have hL3_1 : ∀ (N9 : Nat) (k : Int32) (g : Nat → Int32), (from_.toInt ≤ k.toInt) → (k.toInt ≤ end_.toInt ∨ k.toInt = from_.toInt) → (∀ j : Int, 0 ≤ j → gx g j = if from_.toInt ≤ j ∧ j < k.toInt then v.toInt else gx f j) → ((end_.toInt - k.toInt).toNat) < N9 → pb_P l G M i_Expander_setAll 3 [(4, .int k), (0, .ref b), (1, .int from_), (2, .int end_), (3, .int v)] [] [(b, .inl (G.2.2.1, N, .inl g))] 0 0 := by
    intro N9
    induction N9 with
    | zero => intro k g hk hk2 hg hm9; exact absurd hm9 (Nat.not_lt_zero _)
    | succ N9 ih3 =>
      intro k g hk hk2 hg hm9
      refine pb_iload (pc := 3) d_Expander_setAll_3 0 rfl ?_
      refine pb_iload_n (pc := 5) d_Expander_setAll_5 3 rfl rfl ?_
      refine pb_icmp_ge (pc := 6) (tgt := 20) d_Expander_setAll_6 (by decide) (fun w2 => ?_) (fun w2 => ?_)
      · have tw2 : end_.toInt ≤ k.toInt := (ti_le rfl rfl).mp w2
        exact pb_vret (pc := 20) hQ d_Expander_setAll_20 rfl (g) ⟨rfl, (show ∀ j : Int, 0 ≤ j → gx g j = if from_.toInt ≤ j ∧ j < end_.toInt then v.toInt else gx f j from (fun j hj => by rw [hg j hj]; (repeat' split) <;> first | rfl | omega))⟩ [0] (by decide) rfl rfl (by decide) (by decide)
      · have tw2 : ¬ end_.toInt ≤ k.toInt := fun z9 => w2 ((ti_le rfl rfl).mpr z9)
        refine pb_aload_n (pc := 9) d_Expander_setAll_9 1 rfl rfl ?_
        refine pb_iload (pc := 10) d_Expander_setAll_10 0 rfl ?_
        refine pb_iload_n (pc := 12) d_Expander_setAll_12 4 rfl rfl ?_
        refine pb_iast (pc := 13) (ws' := [(b, .inl (G.2.2.1, N, .inl (upd g ((k : Int32).toNatClampNeg) v)))]) d_Expander_setAll_13 0 rfl (vp_in_iff.mpr (by constructor <;> omega)) rfl ?_
        refine pb_iincN (pc := 14) (c := 1) d_Expander_setAll_14 0 rfl (by decide) (by decide) (fun i3 ei3 => ?_)
        have ti3 : i3.toInt = k.toInt + 1 := ti_add ei3 rfl (by decide) (by omega) (by omega)
        refine pb_eq (pc' := 17) (lo' := [(4, .int i3), (0, .ref b), (1, .int from_), (2, .int end_), (3, .int v)]) (rest' := []) (ws' := [(b, .inl (G.2.2.1, N, .inl (upd g ((k : Int32).toNatClampNeg) v)))]) ?_
        refine pb_goto (pc := 17) (tgt := 3) d_Expander_setAll_17 (by decide) ?_
        exact ih3 i3 (upd g ((k : Int32).toNatClampNeg) v) (by first | (with_reducible assumption) | omega (splitDisjunctions := false) | assumption | omega | decide) (by first | (with_reducible assumption) | omega (splitDisjunctions := false) | assumption | omega | decide) (fun j hj => by rw [gx_upd rfl j (by omega) hj, hg j hj]; (repeat' split) <;> first | rfl | omega) (by omega)
  exact hL3_1 _ from_ f (by first | (with_reducible assumption) | omega (splitDisjunctions := false) | assumption | omega | decide) (by first | (with_reducible assumption) | omega (splitDisjunctions := false) | assumption | omega | decide) (fun j hj => by rw [if_neg (by omega)]) (Nat.lt_succ_self _)
