/-! counting how many of a row's numbers are 1 .. m-1, or m -/
def cd_n (f : Nat → Int32) (o : Nat) (m : Int) : Nat → Nat
  | 0 => 0
  | k + 1 => cd_n f o m k + (if 1 ≤ (f (o + k)).toInt ∧ (f (o + k)).toInt < m then 1 else 0)
def cd_e (f : Nat → Int32) (o : Nat) (m : Int) : Nat → Nat
  | 0 => 0
  | k + 1 => cd_e f o m k + (if (f (o + k)).toInt = m then 1 else 0)
theorem cd_le (f : Nat → Int32) (o : Nat) (m : Int) : ∀ k, cd_n f o m k ≤ k
  | 0 => Nat.le_refl _
  | k + 1 => by
    have h := cd_le f o m k
    simp only [cd_n]
    split <;> omega
theorem cd_one (f : Nat → Int32) (o : Nat) : ∀ k, cd_n f o 1 k = 0
  | 0 => rfl
  | k + 1 => by
    simp only [cd_n, cd_one f o k]
    split <;> omega
theorem cd_sum (f : Nat → Int32) (o : Nat) {m : Int} (hm : 1 ≤ m) : ∀ k, cd_n f o m k + cd_e f o m k = cd_n f o (m + 1) k
  | 0 => rfl
  | k + 1 => by
    have h := cd_sum f o hm k
    simp only [cd_n, cd_e]
    split <;> split <;> split <;> omega
theorem cd_mono (f : Nat → Int32) (o : Nat) (m : Int) (j : Nat) : ∀ k, j ≤ k → cd_e f o m j ≤ cd_e f o m k
  | 0, h => by
    obtain rfl : j = 0 := by omega
    exact Nat.le_refl _
  | k + 1, h => by
    by_cases e : j = k + 1
    · subst e; exact Nat.le_refl _
    · have h1 := cd_mono f o m j k (by omega)
      simp only [cd_e]
      omega
theorem cd_room (f : Nat → Int32) (o : Nat) {m : Int} (hm : 1 ≤ m) {j k : Nat} (hj : j < k) (he : (f (o + j)).toInt = m) : cd_n f o m k + cd_e f o m j < k := by
  have h1 := cd_mono f o m (j + 1) k hj
  have h2 := cd_sum f o hm k
  have h3 := cd_le f o (m + 1) k
  simp only [cd_e] at h1
  rw [if_pos he] at h1
  omega

theorem d_Code_init_0 : decode prog_2_method_1_code 0 = .ok (.aload_n 0, 1) := by decide +kernel
theorem d_Code_init_1 : decode prog_2_method_1_code 1 = .ok (.invokespecial 1, 3) := by decide +kernel
theorem k_225 : (Jvm.Cond.methodLink "PackageBook$Code" (1 : Nat) ({ cls := "java/lang/Object", name := "<init>", desc := "()V" } : Jvm.MethodName)) ∈ uW := uW_of 225 (by decide +kernel) (by decide +kernel)
theorem d_Code_init_4 : decode prog_2_method_1_code 4 = .ok (.aload_n 0, 1) := by decide +kernel
theorem d_Code_init_5 : decode prog_2_method_1_code 5 = .ok (.bipush 16, 2) := by decide +kernel
theorem d_Code_init_7 : decode prog_2_method_1_code 7 = .ok (.newarray .int, 2) := by decide +kernel
theorem k_211 : (Jvm.Cond.arrayClass Jvm.ClassFile.FieldType.int) ∈ uW := uW_of 211 (by decide +kernel) (by decide +kernel)
theorem d_Code_init_9 : decode prog_2_method_1_code 9 = .ok (.putfield 9, 3) := by decide +kernel
theorem k_226 : (Jvm.Cond.fieldLink "PackageBook$Code" (9 : Nat) "PackageBook$Code" "counts" "[I") ∈ uW := uW_of 226 (by decide +kernel) (by decide +kernel)
theorem d_Code_init_12 : decode prog_2_method_1_code 12 = .ok (.aload_n 0, 1) := by decide +kernel
theorem d_Code_init_13 : decode prog_2_method_1_code 13 = .ok (.iload_n 1, 1) := by decide +kernel
theorem d_Code_init_14 : decode prog_2_method_1_code 14 = .ok (.newarray .int, 2) := by decide +kernel
theorem d_Code_init_16 : decode prog_2_method_1_code 16 = .ok (.putfield 13, 3) := by decide +kernel
theorem k_228 : (Jvm.Cond.fieldLink "PackageBook$Code" (13 : Nat) "PackageBook$Code" "symbols" "[I") ∈ uW := uW_of 228 (by decide +kernel) (by decide +kernel)
theorem d_Code_init_19 : decode prog_2_method_1_code 19 = .ok (.return_, 1) := by decide +kernel
abbrev y_Code_init : MethodName := ⟨"PackageBook$Code", "<init>", "(I)V"⟩
abbrev i_Code_init : pb_I := (y_Code_init, prog_2_method_1_code, 2, (Option.none : Option Jvm.ClassFile.FieldType), [], { frames := 1, cells := 2, slots := 316, locals := 20 })
set_option maxRecDepth 100000 in
set_option maxHeartbeats 4000000 in
theorem c_Code_init {l : Launch} (hl : l.stackTraces = false) (G : pb_G) (h : Nat) (n : Int32) (N : Nat) (hn : ¬ n < 0) (hN : n.toNatClampNeg = N) (hb : N ≤ 300) : Cn l G i_Code_init [.ref h, .int n] [(h, .inr (1, [.null, .null, .int 0]))] (S := Nat × Nat) (fun v u => v = none) (fun u => [(h, .inr (1, [.ref u.1, .ref u.2, .int 0])), (u.1, .inl (G.2.2.1, 16, .inl (fun _ => 0))), (u.2, .inl (G.2.2.1, N, .inl (fun _ => 0)))]) := by
  refine Cn.of hl (by decide +kernel) rfl (Nat.le_of_ble_eq_true rfl) (fun M hQ => ?_)
  refine pb_eq (pc' := 0) (lo' := [(0, .ref h), (1, .int n)]) (rest' := []) (ws' := [(h, .inr (1, [.null, .null, .int 0]))]) ?_
  refine pb_aload_n (pc := 0) d_Code_init_0 0 rfl rfl ?_
  refine pb_objInit (pc := 1) d_Code_init_1 k_225 k_148 k_149 (by decide) (Nat.le_of_ble_eq_true rfl) ?_
  refine pb_aload_n (pc := 4) d_Code_init_4 0 rfl rfl ?_
  refine pb_bipush (pc := 5) (v := 16) d_Code_init_5 (by decide) ?_
  refine pb_newi (pc := 7) (N := 16) d_Code_init_7 k_211 (by decide) (by decide) (by decide) (by decide) (by decide) (fun q1 => ?_)
  refine pb_eq (pc' := 9) (lo' := [(0, .ref h), (1, .int n)]) (rest' := [.ref q1, .ref h]) (ws' := [(h, .inr (1, [.null, .null, .int 0])), (q1, .inl (G.2.2.1, 16, .inl (fun _ => 0)))]) ?_
  refine pb_putF (pc := 9) (ty := (.array .int)) (ws' := [(h, .inr (1, [.ref q1, .null, .int 0])), (q1, .inl (G.2.2.1, 16, .inl (fun _ => 0)))]) d_Code_init_9 0 0 t_Code t_Code_ok n_Code rfl rfl (by decide) in_Code k_226 rfl rfl rfl (by decide +kernel) rfl rfl (Nat.le_of_ble_eq_true rfl) rfl ?_
  refine pb_aload_n (pc := 12) d_Code_init_12 0 rfl rfl ?_
  refine pb_iload_n (pc := 13) d_Code_init_13 1 rfl rfl ?_
  refine pb_newi (pc := 14) (N := N) d_Code_init_14 k_211 hn hN (by rw [show componentBytes .int = 4 from rfl]; omega) (by decide) (by show 16 + N ≤ 316; omega) (fun q2 => ?_)
  refine pb_widen (k' := 2) (n' := 316) (by decide) (by omega) ?_
  refine pb_eq (pc' := 16) (lo' := [(0, .ref h), (1, .int n)]) (rest' := [.ref q2, .ref h]) (ws' := [(h, .inr (1, [.ref q1, .null, .int 0])), (q1, .inl (G.2.2.1, 16, .inl (fun _ => 0))), (q2, .inl (G.2.2.1, N, .inl (fun _ => 0)))]) ?_
  refine pb_putF (pc := 16) (ty := (.array .int)) (ws' := [(h, .inr (1, [.ref q1, .ref q2, .int 0])), (q1, .inl (G.2.2.1, 16, .inl (fun _ => 0))), (q2, .inl (G.2.2.1, N, .inl (fun _ => 0)))]) d_Code_init_16 0 1 t_Code t_Code_ok n_Code rfl rfl (by decide) in_Code k_228 rfl rfl rfl (by decide +kernel) rfl rfl (Nat.le_of_ble_eq_true rfl) rfl ?_
  exact pb_vret (pc := 19) hQ d_Code_init_19 rfl (q1, q2) rfl [0, 1, 2] (by decide) rfl rfl (by decide) (by decide)

theorem d_Code_tell_0 : decode prog_2_method_2_code 0 = .ok (.aload_n 0, 1) := by decide +kernel
theorem d_Code_tell_1 : decode prog_2_method_2_code 1 = .ok (.iconst 0, 1) := by decide +kernel
theorem d_Code_tell_2 : decode prog_2_method_2_code 2 = .ok (.putfield 16, 3) := by decide +kernel
theorem k_230 : (Jvm.Cond.fieldLink "PackageBook$Code" (16 : Nat) "PackageBook$Code" "size" "I") ∈ uW := uW_of 230 (by decide +kernel) (by decide +kernel)
theorem d_Code_tell_5 : decode prog_2_method_2_code 5 = .ok (.aload_n 0, 1) := by decide +kernel
theorem d_Code_tell_6 : decode prog_2_method_2_code 6 = .ok (.getfield 9, 3) := by decide +kernel
theorem d_Code_tell_9 : decode prog_2_method_2_code 9 = .ok (.iconst 0, 1) := by decide +kernel
theorem d_Code_tell_10 : decode prog_2_method_2_code 10 = .ok (.iconst 0, 1) := by decide +kernel
theorem d_Code_tell_11 : decode prog_2_method_2_code 11 = .ok (.iastore, 1) := by decide +kernel
theorem d_Code_tell_12 : decode prog_2_method_2_code 12 = .ok (.iconst 1, 1) := by decide +kernel
theorem d_Code_tell_13 : decode prog_2_method_2_code 13 = .ok (.istore 4, 2) := by decide +kernel
theorem d_Code_tell_15 : decode prog_2_method_2_code 15 = .ok (.iload 4, 2) := by decide +kernel
theorem d_Code_tell_17 : decode prog_2_method_2_code 17 = .ok (.bipush 15, 2) := by decide +kernel
theorem d_Code_tell_19 : decode prog_2_method_2_code 19 = .ok (.if_icmp .gt 76, 3) := by decide +kernel
theorem d_Code_tell_95 : decode prog_2_method_2_code 95 = .ok (.return_, 1) := by decide +kernel
theorem d_Code_tell_22 : decode prog_2_method_2_code 22 = .ok (.aload_n 0, 1) := by decide +kernel
theorem d_Code_tell_23 : decode prog_2_method_2_code 23 = .ok (.getfield 16, 3) := by decide +kernel
theorem d_Code_tell_26 : decode prog_2_method_2_code 26 = .ok (.istore 5, 2) := by decide +kernel
theorem d_Code_tell_28 : decode prog_2_method_2_code 28 = .ok (.iconst 0, 1) := by decide +kernel
theorem d_Code_tell_29 : decode prog_2_method_2_code 29 = .ok (.istore 6, 2) := by decide +kernel
theorem d_Code_tell_31 : decode prog_2_method_2_code 31 = .ok (.iload 6, 2) := by decide +kernel
theorem d_Code_tell_33 : decode prog_2_method_2_code 33 = .ok (.iload_n 3, 1) := by decide +kernel
theorem d_Code_tell_34 : decode prog_2_method_2_code 34 = .ok (.if_icmp .ge 41, 3) := by decide +kernel
theorem d_Code_tell_75 : decode prog_2_method_2_code 75 = .ok (.aload_n 0, 1) := by decide +kernel
theorem d_Code_tell_76 : decode prog_2_method_2_code 76 = .ok (.getfield 9, 3) := by decide +kernel
theorem d_Code_tell_79 : decode prog_2_method_2_code 79 = .ok (.iload 4, 2) := by decide +kernel
theorem d_Code_tell_81 : decode prog_2_method_2_code 81 = .ok (.aload_n 0, 1) := by decide +kernel
theorem d_Code_tell_82 : decode prog_2_method_2_code 82 = .ok (.getfield 16, 3) := by decide +kernel
theorem d_Code_tell_85 : decode prog_2_method_2_code 85 = .ok (.iload 5, 2) := by decide +kernel
theorem d_Code_tell_87 : decode prog_2_method_2_code 87 = .ok (.isub, 1) := by decide +kernel
theorem d_Code_tell_88 : decode prog_2_method_2_code 88 = .ok (.iastore, 1) := by decide +kernel
theorem d_Code_tell_89 : decode prog_2_method_2_code 89 = .ok (.iinc 4 1, 3) := by decide +kernel
theorem d_Code_tell_92 : decode prog_2_method_2_code 92 = .ok (.goto (-77), 3) := by decide +kernel
theorem d_Code_tell_37 : decode prog_2_method_2_code 37 = .ok (.aload_n 1, 1) := by decide +kernel
theorem d_Code_tell_38 : decode prog_2_method_2_code 38 = .ok (.iload_n 2, 1) := by decide +kernel
theorem d_Code_tell_39 : decode prog_2_method_2_code 39 = .ok (.iload 6, 2) := by decide +kernel
theorem d_Code_tell_41 : decode prog_2_method_2_code 41 = .ok (.iadd, 1) := by decide +kernel
theorem d_Code_tell_42 : decode prog_2_method_2_code 42 = .ok (.iaload, 1) := by decide +kernel
theorem d_Code_tell_43 : decode prog_2_method_2_code 43 = .ok (.iload 4, 2) := by decide +kernel
theorem d_Code_tell_45 : decode prog_2_method_2_code 45 = .ok (.if_icmp .ne 24, 3) := by decide +kernel
theorem d_Code_tell_69 : decode prog_2_method_2_code 69 = .ok (.iinc 6 1, 3) := by decide +kernel
theorem d_Code_tell_72 : decode prog_2_method_2_code 72 = .ok (.goto (-41), 3) := by decide +kernel
theorem d_Code_tell_48 : decode prog_2_method_2_code 48 = .ok (.aload_n 0, 1) := by decide +kernel
theorem d_Code_tell_49 : decode prog_2_method_2_code 49 = .ok (.getfield 13, 3) := by decide +kernel
theorem d_Code_tell_52 : decode prog_2_method_2_code 52 = .ok (.aload_n 0, 1) := by decide +kernel
theorem d_Code_tell_53 : decode prog_2_method_2_code 53 = .ok (.getfield 16, 3) := by decide +kernel
theorem d_Code_tell_56 : decode prog_2_method_2_code 56 = .ok (.iload 6, 2) := by decide +kernel
theorem d_Code_tell_58 : decode prog_2_method_2_code 58 = .ok (.iastore, 1) := by decide +kernel
theorem d_Code_tell_59 : decode prog_2_method_2_code 59 = .ok (.aload_n 0, 1) := by decide +kernel
theorem d_Code_tell_60 : decode prog_2_method_2_code 60 = .ok (.dup, 1) := by decide +kernel
theorem d_Code_tell_61 : decode prog_2_method_2_code 61 = .ok (.getfield 16, 3) := by decide +kernel
theorem d_Code_tell_64 : decode prog_2_method_2_code 64 = .ok (.iconst 1, 1) := by decide +kernel
theorem d_Code_tell_65 : decode prog_2_method_2_code 65 = .ok (.iadd, 1) := by decide +kernel
theorem d_Code_tell_66 : decode prog_2_method_2_code 66 = .ok (.putfield 16, 3) := by decide +kernel
abbrev y_Code_tell : MethodName := ⟨"PackageBook$Code", "tell", "([III)V"⟩
abbrev i_Code_tell : pb_I := (y_Code_tell, prog_2_method_2_code, 7, (Option.none : Option Jvm.ClassFile.FieldType), [], { frames := 0, cells := 0, slots := 0, locals := 0 })
set_option maxRecDepth 100000 in
set_option maxHeartbeats 4000000 in
theorem c_Code_tell {l : Launch} (hl : l.stackTraces = false) (G : pb_G) (h : Nat) (c : Nat) (y : Nat) (b : Nat) (sz : Int32) (fc : Nat → Int32) (fy : Nat → Int32) (fb : Nat → Int32) (Ny : Nat) (Nb : Nat) (from_ : Int32) (n : Int32) (h0 : 0 ≤ from_.toInt) (h1 : 0 ≤ n.toInt) (h2 : from_.toInt + n.toInt ≤ Nb) (h3 : n.toInt ≤ Ny) (h4 : Nb ≤ 100000) (h5 : Ny ≤ 100000) : Cn l G i_Code_tell [.ref h, .ref b, .int from_, .int n] [(h, .inr (1, [.ref c, .ref y, .int sz])), (c, .inl (G.2.2.1, 16, .inl fc)), (y, .inl (G.2.2.1, Ny, .inl fy)), (b, .inl (G.2.2.1, Nb, .inl fb))] (S := Int32 × (Nat → Int32) × (Nat → Int32)) (fun v u => v = none) (fun u => [(h, .inr (1, [.ref c, .ref y, .int u.1])), (c, .inl (G.2.2.1, 16, .inl u.2.1)), (y, .inl (G.2.2.1, Ny, .inl u.2.2)), (b, .inl (G.2.2.1, Nb, .inl fb))]) := by
  refine Cn.of hl (by decide +kernel) rfl (Nat.le_of_ble_eq_true rfl) (fun M hQ => ?_)
  refine pb_eq (pc' := 0) (lo' := [(0, .ref h), (1, .ref b), (2, .int from_), (3, .int n)]) (rest' := []) (ws' := [(h, .inr (1, [.ref c, .ref y, .int sz])), (c, .inl (G.2.2.1, 16, .inl fc)), (y, .inl (G.2.2.1, Ny, .inl fy)), (b, .inl (G.2.2.1, Nb, .inl fb))]) ?_
  have z0 : (0 : Int32).toInt = 0 := by decide
  have z1 : (1 : Int32).toInt = 1 := by decide
  have z2 : (0 : Int32).toNatClampNeg = 0 := by decide
  have c1 := ti_clamp h0
  have c4 := ti_clamp h1
  refine pb_aload_n (pc := 0) d_Code_tell_0 0 rfl rfl ?_
  refine pb_iconst (pc := 1) (v := 0) d_Code_tell_1 (by decide) ?_
  refine pb_put (pc := 2) (ty := .int) (ws' := [(h, .inr (1, [.ref c, .ref y, .int 0])), (c, .inl (G.2.2.1, 16, .inl fc)), (y, .inl (G.2.2.1, Ny, .inl fy)), (b, .inl (G.2.2.1, Nb, .inl fb))]) d_Code_tell_2 0 2 t_Code t_Code_ok n_Code rfl rfl (by decide) in_Code k_230 rfl (by decide +kernel) rfl rfl (Nat.le_of_ble_eq_true rfl) rfl ?_
  refine pb_aload_n (pc := 5) d_Code_tell_5 0 rfl rfl ?_
  refine pb_get (pc := 6) d_Code_tell_6 0 0 rfl rfl (by decide) in_Code k_226 rfl ?_
  refine pb_iconst (pc := 9) (v := 0) d_Code_tell_9 (by decide) ?_
  refine pb_iconst (pc := 10) (v := 0) d_Code_tell_10 (by decide) ?_
  refine pb_iast (pc := 11) (ws' := [(h, .inr (1, [.ref c, .ref y, .int 0])), (c, .inl (G.2.2.1, 16, .inl (upd fc ((0 : Int32).toNatClampNeg) 0))), (y, .inl (G.2.2.1, Ny, .inl fy)), (b, .inl (G.2.2.1, Nb, .inl fb))]) d_Code_tell_11 1 rfl (by unfold vp_in; decide) rfl ?_
  refine pb_iconst (pc := 12) (v := 1) d_Code_tell_12 (by decide) ?_
  refine pb_istore (pc := 13) (lo' := [(4, .int 1), (0, .ref h), (1, .ref b), (2, .int from_), (3, .int n)]) d_Code_tell_13 (by decide) rfl ?_
  have hL15 : ∀ (N9 : Nat) (m : Int32) (s1 : Int32) (g1 : Nat → Int32) (g2 : Nat → Int32), (1 ≤ m.toInt) → (m.toInt ≤ 16) → (s1.toInt = (cd_n fb from_.toNatClampNeg m.toInt n.toNatClampNeg : Int)) → ((16 - m.toInt).toNat) < N9 → pb_P l G M i_Code_tell 15 [(4, .int m), (0, .ref h), (1, .ref b), (2, .int from_), (3, .int n)] [] [(h, .inr (1, [.ref c, .ref y, .int s1])), (c, .inl (G.2.2.1, 16, .inl g1)), (y, .inl (G.2.2.1, Ny, .inl g2)), (b, .inl (G.2.2.1, Nb, .inl fb))] 0 0 := by
    intro N9
    induction N9 with
    | zero => intro m s1 g1 g2 hm1 hm2 hs hm9; exact absurd hm9 (Nat.not_lt_zero _)
    | succ N9 ih15 =>
      intro m s1 g1 g2 hm1 hm2 hs hm9
      refine pb_iload (pc := 15) d_Code_tell_15 0 rfl ?_
      refine pb_bipush (pc := 17) (v := 15) d_Code_tell_17 (by decide) ?_
      refine pb_icmp_gt (pc := 19) (tgt := 95) d_Code_tell_19 (by decide) (fun w1 => ?_) (fun w1 => ?_)
      · have tw1 : 15 < m.toInt := (ti_lt (by decide) rfl).mp w1
        exact pb_vret (pc := 95) hQ d_Code_tell_95 rfl (s1, g1, g2) rfl [0, 1, 2, 3] (by decide) rfl rfl (by decide) (by decide)
      · have tw1 : ¬ 15 < m.toInt := fun z9 => w1 ((ti_lt (by decide) rfl).mpr z9)
        refine pb_aload_n (pc := 22) d_Code_tell_22 1 rfl rfl ?_
        refine pb_get (pc := 23) d_Code_tell_23 0 2 rfl rfl (by decide) in_Code k_230 rfl ?_
        refine pb_istore (pc := 26) (lo' := [(5, .int s1), (4, .int m), (0, .ref h), (1, .ref b), (2, .int from_), (3, .int n)]) d_Code_tell_26 (by decide) rfl ?_
        refine pb_iconst (pc := 28) (v := 0) d_Code_tell_28 (by decide) ?_
        refine pb_istore (pc := 29) (lo' := [(6, .int 0), (5, .int s1), (4, .int m), (0, .ref h), (1, .ref b), (2, .int from_), (3, .int n)]) d_Code_tell_29 (by decide) rfl ?_
        have hL31 : ∀ (N9 : Nat) (k : Int32) (s3 : Int32) (g4 : Nat → Int32), (0 ≤ k.toInt) → (k.toInt ≤ n.toInt) → (s3.toInt = (cd_n fb from_.toNatClampNeg m.toInt n.toNatClampNeg : Int) + (cd_e fb from_.toNatClampNeg m.toInt k.toNatClampNeg : Int)) → ((n.toInt - k.toInt).toNat) < N9 → pb_P l G M i_Code_tell 31 [(6, .int k), (5, .int s1), (4, .int m), (0, .ref h), (1, .ref b), (2, .int from_), (3, .int n)] [] [(h, .inr (1, [.ref c, .ref y, .int s3])), (c, .inl (G.2.2.1, 16, .inl g1)), (y, .inl (G.2.2.1, Ny, .inl g4)), (b, .inl (G.2.2.1, Nb, .inl fb))] 0 0 := by
          intro N9
          induction N9 with
          | zero => intro k s3 g4 hk hk2 hs3 hm9; exact absurd hm9 (Nat.not_lt_zero _)
          | succ N9 ih31 =>
            intro k s3 g4 hk hk2 hs3 hm9
            refine pb_iload (pc := 31) d_Code_tell_31 0 rfl ?_
            refine pb_iload_n (pc := 33) d_Code_tell_33 6 rfl rfl ?_
            refine pb_icmp_ge (pc := 34) (tgt := 75) d_Code_tell_34 (by decide) (fun w2 => ?_) (fun w2 => ?_)
            · have tw2 : n.toInt ≤ k.toInt := (ti_le rfl rfl).mp w2
              have c2 := ti_clamp hk
              have hx := cd_sum fb from_.toNatClampNeg hm1 n.toNatClampNeg
              have hkn : k.toNatClampNeg = n.toNatClampNeg := by omega
              rw [hkn] at hs3
              have hle := cd_le fb from_.toNatClampNeg m.toInt n.toNatClampNeg
              have hle2 := cd_le fb from_.toNatClampNeg (m.toInt + 1) n.toNatClampNeg
              refine pb_aload_n (pc := 75) d_Code_tell_75 3 rfl rfl ?_
              refine pb_get (pc := 76) d_Code_tell_76 0 0 rfl rfl (by decide) in_Code k_226 rfl ?_
              refine pb_iload (pc := 79) d_Code_tell_79 2 rfl ?_
              refine pb_aload_n (pc := 81) d_Code_tell_81 3 rfl rfl ?_
              refine pb_get (pc := 82) d_Code_tell_82 0 2 rfl rfl (by decide) in_Code k_230 rfl ?_
              refine pb_iload (pc := 85) d_Code_tell_85 1 rfl ?_
              refine pb_isub (pc := 87) d_Code_tell_87 ?_
              refine pb_topi (fun i3 ei3 => ?_)
              have ti3 : i3.toInt = s3.toInt - s1.toInt := ti_sub ei3 rfl rfl (by omega) (by omega)
              refine pb_iast (pc := 88) (ws' := [(h, .inr (1, [.ref c, .ref y, .int s3])), (c, .inl (G.2.2.1, 16, .inl (upd g1 ((m : Int32).toNatClampNeg) i3))), (y, .inl (G.2.2.1, Ny, .inl g4)), (b, .inl (G.2.2.1, Nb, .inl fb))]) d_Code_tell_88 1 rfl (vp_in_iff.mpr (by constructor <;> omega)) rfl ?_
              refine pb_iincN (pc := 89) (c := 1) d_Code_tell_89 2 rfl (by decide) (by decide) (fun i4 ei4 => ?_)
              have ti4 : i4.toInt = m.toInt + 1 := ti_add ei4 rfl (by decide) (by omega) (by omega)
              refine pb_eq (pc' := 92) (lo' := [(4, .int i4), (6, .int k), (5, .int s1), (0, .ref h), (1, .ref b), (2, .int from_), (3, .int n)]) (rest' := []) (ws' := [(h, .inr (1, [.ref c, .ref y, .int s3])), (c, .inl (G.2.2.1, 16, .inl (upd g1 ((m : Int32).toNatClampNeg) i3))), (y, .inl (G.2.2.1, Ny, .inl g4)), (b, .inl (G.2.2.1, Nb, .inl fb))]) ?_
              refine pb_goto (pc := 92) (tgt := 15) d_Code_tell_92 (by decide) ?_
              refine pb_re (ws' := [(h, .inr (1, [.ref c, .ref y, .int s3])), (c, .inl (G.2.2.1, 16, .inl (upd g1 ((m : Int32).toNatClampNeg) i3))), (y, .inl (G.2.2.1, Ny, .inl g4)), (b, .inl (G.2.2.1, Nb, .inl fb))]) (lo' := [(4, .int i4), (0, .ref h), (1, .ref b), (2, .int from_), (3, .int n)]) [0, 1, 2, 3] [0, 3, 4, 5, 6] (by decide) rfl rfl rfl ?_
              exact ih15 i4 s3 (upd g1 ((m : Int32).toNatClampNeg) i3) g4 (by omega) (by omega) (by rw [show i4.toInt = m.toInt + 1 by omega]; omega) (by omega)
            · have tw2 : ¬ n.toInt ≤ k.toInt := fun z9 => w2 ((ti_le rfl rfl).mpr z9)
              refine pb_aload_n (pc := 37) d_Code_tell_37 4 rfl rfl ?_
              refine pb_iload_n (pc := 38) d_Code_tell_38 5 rfl rfl ?_
              refine pb_iload (pc := 39) d_Code_tell_39 0 rfl ?_
              refine pb_iadd (pc := 41) d_Code_tell_41 ?_
              refine pb_topi (fun i5 ei5 => ?_)
              have ti5 : i5.toInt = from_.toInt + k.toInt := ti_add ei5 rfl rfl (by omega) (by omega)
              refine pb_iald (pc := 42) d_Code_tell_42 3 rfl (vp_in_iff.mpr (by constructor <;> omega)) ?_
              refine pb_topi (fun i6 ei6 => ?_)
              refine pb_iload (pc := 43) d_Code_tell_43 2 rfl ?_
              have c2 := ti_clamp hk
              have hBB : (fb (from_.toNatClampNeg + k.toNatClampNeg)).toInt = i6.toInt := by rw [ei6, show from_.toNatClampNeg + k.toNatClampNeg = i5.toNatClampNeg by have := ti_clamp (x := i5) (by omega); omega]
              refine pb_icmp_ne (pc := 45) (tgt := 69) d_Code_tell_45 (by decide) (fun w7 => ?_) (fun w7 => ?_)
              · have tw7 : ¬ i6.toInt = m.toInt := fun z9 => w7 ((ti_eq rfl rfl).mpr z9)
                refine pb_iincN (pc := 69) (c := 1) d_Code_tell_69 0 rfl (by decide) (by decide) (fun i8 ei8 => ?_)
                have ti8 : i8.toInt = k.toInt + 1 := ti_add ei8 rfl (by decide) (by omega) (by omega)
                refine pb_eq (pc' := 72) (lo' := [(6, .int i8), (5, .int s1), (4, .int m), (0, .ref h), (1, .ref b), (2, .int from_), (3, .int n)]) (rest' := []) (ws' := [(h, .inr (1, [.ref c, .ref y, .int s3])), (c, .inl (G.2.2.1, 16, .inl g1)), (y, .inl (G.2.2.1, Ny, .inl g4)), (b, .inl (G.2.2.1, Nb, .inl fb))]) ?_
                refine pb_goto (pc := 72) (tgt := 31) d_Code_tell_72 (by decide) ?_
                exact ih31 i8 s3 g4 (by omega) (by omega) (by rw [show i8.toNatClampNeg = k.toNatClampNeg + 1 by have := ti_clamp (x := i8) (by omega); omega]; simp only [cd_e]; split <;> omega) (by omega)
              · have tw7 : i6.toInt = m.toInt := (ti_eq rfl rfl).mp w7
                have hR := cd_room fb from_.toNatClampNeg hm1 (j := k.toNatClampNeg) (k := n.toNatClampNeg) (by omega) (by omega)
                refine pb_aload_n (pc := 48) d_Code_tell_48 3 rfl rfl ?_
                refine pb_get (pc := 49) d_Code_tell_49 0 1 rfl rfl (by decide) in_Code k_228 rfl ?_
                refine pb_aload_n (pc := 52) d_Code_tell_52 3 rfl rfl ?_
                refine pb_get (pc := 53) d_Code_tell_53 0 2 rfl rfl (by decide) in_Code k_230 rfl ?_
                refine pb_iload (pc := 56) d_Code_tell_56 0 rfl ?_
                refine pb_iast (pc := 58) (ws' := [(h, .inr (1, [.ref c, .ref y, .int s3])), (c, .inl (G.2.2.1, 16, .inl g1)), (y, .inl (G.2.2.1, Ny, .inl (upd g4 ((s3 : Int32).toNatClampNeg) k))), (b, .inl (G.2.2.1, Nb, .inl fb))]) d_Code_tell_58 2 rfl (vp_in_iff.mpr (by constructor <;> omega)) rfl ?_
                refine pb_aload_n (pc := 59) d_Code_tell_59 3 rfl rfl ?_
                refine pb_dup (pc := 60) d_Code_tell_60 rfl ?_
                refine pb_get (pc := 61) d_Code_tell_61 0 2 rfl rfl (by decide) in_Code k_230 rfl ?_
                refine pb_iconst (pc := 64) (v := 1) d_Code_tell_64 (by decide) ?_
                refine pb_iadd (pc := 65) d_Code_tell_65 ?_
                refine pb_topi (fun i9 ei9 => ?_)
                have ti9 : i9.toInt = s3.toInt + 1 := ti_add ei9 rfl (by decide) (by omega) (by omega)
                refine pb_put (pc := 66) (ty := .int) (ws' := [(h, .inr (1, [.ref c, .ref y, .int i9])), (c, .inl (G.2.2.1, 16, .inl g1)), (y, .inl (G.2.2.1, Ny, .inl (upd g4 ((s3 : Int32).toNatClampNeg) k))), (b, .inl (G.2.2.1, Nb, .inl fb))]) d_Code_tell_66 0 2 t_Code t_Code_ok n_Code rfl rfl (by decide) in_Code k_230 rfl (by decide +kernel) rfl rfl (Nat.le_of_ble_eq_true rfl) rfl ?_
                refine pb_iincN (pc := 69) (c := 1) d_Code_tell_69 0 rfl (by decide) (by decide) (fun i10 ei10 => ?_)
                have ti10 : i10.toInt = k.toInt + 1 := ti_add ei10 rfl (by decide) (by omega) (by omega)
                refine pb_eq (pc' := 72) (lo' := [(6, .int i10), (5, .int s1), (4, .int m), (0, .ref h), (1, .ref b), (2, .int from_), (3, .int n)]) (rest' := []) (ws' := [(h, .inr (1, [.ref c, .ref y, .int i9])), (c, .inl (G.2.2.1, 16, .inl g1)), (y, .inl (G.2.2.1, Ny, .inl (upd g4 ((s3 : Int32).toNatClampNeg) k))), (b, .inl (G.2.2.1, Nb, .inl fb))]) ?_
                refine pb_goto (pc := 72) (tgt := 31) d_Code_tell_72 (by decide) ?_
                exact ih31 i10 i9 (upd g4 ((s3 : Int32).toNatClampNeg) k) (by omega) (by omega) (by rw [show i10.toNatClampNeg = k.toNatClampNeg + 1 by have := ti_clamp (x := i10) (by omega); omega]; simp only [cd_e]; split <;> omega) (by omega)
        exact hL31 _ 0 s1 g2 (by omega) (by omega) (by rw [z2]; simp only [cd_e]; omega) (Nat.lt_succ_self _)
  exact hL15 _ 1 0 (upd fc ((0 : Int32).toNatClampNeg) 0) fy (by omega) (by omega) (by rw [z0, z1, cd_one]; rfl) (Nat.lt_succ_self _)

theorem d_Expander_setAll_0 : decode prog_3_method_2_code 0 = .ok (.iload_n 1, 1) := by decide +kernel
theorem d_Expander_setAll_1 : decode prog_3_method_2_code 1 = .ok (.istore 4, 2) := by decide +kernel
theorem d_Expander_setAll_3 : decode prog_3_method_2_code 3 = .ok (.iload 4, 2) := by decide +kernel
theorem d_Expander_setAll_5 : decode prog_3_method_2_code 5 = .ok (.iload_n 2, 1) := by decide +kernel
theorem d_Expander_setAll_6 : decode prog_3_method_2_code 6 = .ok (.if_icmp .ge 14, 3) := by decide +kernel
theorem d_Expander_setAll_20 : decode prog_3_method_2_code 20 = .ok (.return_, 1) := by decide +kernel
theorem d_Expander_setAll_9 : decode prog_3_method_2_code 9 = .ok (.aload_n 0, 1) := by decide +kernel
theorem d_Expander_setAll_10 : decode prog_3_method_2_code 10 = .ok (.iload 4, 2) := by decide +kernel
theorem d_Expander_setAll_12 : decode prog_3_method_2_code 12 = .ok (.iload_n 3, 1) := by decide +kernel
theorem d_Expander_setAll_13 : decode prog_3_method_2_code 13 = .ok (.iastore, 1) := by decide +kernel
theorem d_Expander_setAll_14 : decode prog_3_method_2_code 14 = .ok (.iinc 4 1, 3) := by decide +kernel
theorem d_Expander_setAll_17 : decode prog_3_method_2_code 17 = .ok (.goto (-14), 3) := by decide +kernel
abbrev y_Expander_setAll : MethodName := ⟨"PackageBook$Expander", "setAll", "([IIII)V"⟩
abbrev i_Expander_setAll : pb_I := (y_Expander_setAll, prog_3_method_2_code, 5, (Option.none : Option Jvm.ClassFile.FieldType), [], { frames := 0, cells := 0, slots := 0, locals := 0 })
set_option maxRecDepth 100000 in
set_option maxHeartbeats 4000000 in
theorem c_Exp_setAll {l : Launch} (hl : l.stackTraces = false) (G : pb_G) (b : Nat) (N : Nat) (f : Nat → Int32) (from_ : Int32) (end_ : Int32) (v : Int32) (h0 : 0 ≤ from_.toInt) (h1 : end_.toInt ≤ N) (h2 : N ≤ 100000) : Cn l G i_Expander_setAll [.ref b, .int from_, .int end_, .int v] [(b, .inl (G.2.2.1, N, .inl f))] (S := (Nat → Int32)) (fun v u => v = none) (fun u => [(b, .inl (G.2.2.1, N, .inl u))]) := by
  refine Cn.of hl (by decide +kernel) rfl (Nat.le_of_ble_eq_true rfl) (fun M hQ => ?_)
  refine pb_eq (pc' := 0) (lo' := [(0, .ref b), (1, .int from_), (2, .int end_), (3, .int v)]) (rest' := []) (ws' := [(b, .inl (G.2.2.1, N, .inl f))]) ?_
  refine pb_iload_n (pc := 0) d_Expander_setAll_0 1 rfl rfl ?_
  refine pb_istore (pc := 1) (lo' := [(4, .int from_), (0, .ref b), (1, .int from_), (2, .int end_), (3, .int v)]) d_Expander_setAll_1 (by decide) rfl ?_
  have hL3 : ∀ (N9 : Nat) (k : Int32) (g : Nat → Int32), (from_.toInt ≤ k.toInt) → ((end_.toInt - k.toInt).toNat) < N9 → pb_P l G M i_Expander_setAll 3 [(4, .int k), (0, .ref b), (1, .int from_), (2, .int end_), (3, .int v)] [] [(b, .inl (G.2.2.1, N, .inl g))] 0 0 := by
    intro N9
    induction N9 with
    | zero => intro k g hk hm9; exact absurd hm9 (Nat.not_lt_zero _)
    | succ N9 ih3 =>
      intro k g hk hm9
      refine pb_iload (pc := 3) d_Expander_setAll_3 0 rfl ?_
      refine pb_iload_n (pc := 5) d_Expander_setAll_5 3 rfl rfl ?_
      refine pb_icmp_ge (pc := 6) (tgt := 20) d_Expander_setAll_6 (by decide) (fun w1 => ?_) (fun w1 => ?_)
      · have tw1 : end_.toInt ≤ k.toInt := (ti_le rfl rfl).mp w1
        exact pb_vret (pc := 20) hQ d_Expander_setAll_20 rfl (g) rfl [0] (by decide) rfl rfl (by decide) (by decide)
      · have tw1 : ¬ end_.toInt ≤ k.toInt := fun z9 => w1 ((ti_le rfl rfl).mpr z9)
        refine pb_aload_n (pc := 9) d_Expander_setAll_9 1 rfl rfl ?_
        refine pb_iload (pc := 10) d_Expander_setAll_10 0 rfl ?_
        refine pb_iload_n (pc := 12) d_Expander_setAll_12 4 rfl rfl ?_
        refine pb_iast (pc := 13) (ws' := [(b, .inl (G.2.2.1, N, .inl (upd g ((k : Int32).toNatClampNeg) v)))]) d_Expander_setAll_13 0 rfl (vp_in_iff.mpr (by constructor <;> omega)) rfl ?_
        refine pb_iincN (pc := 14) (c := 1) d_Expander_setAll_14 0 rfl (by decide) (by decide) (fun i2 ei2 => ?_)
        have ti2 : i2.toInt = k.toInt + 1 := ti_add ei2 rfl (by decide) (by omega) (by omega)
        refine pb_eq (pc' := 17) (lo' := [(4, .int i2), (0, .ref b), (1, .int from_), (2, .int end_), (3, .int v)]) (rest' := []) (ws' := [(b, .inl (G.2.2.1, N, .inl (upd g ((k : Int32).toNatClampNeg) v)))]) ?_
        refine pb_goto (pc := 17) (tgt := 3) d_Expander_setAll_17 (by decide) ?_
        exact ih3 i2 (upd g ((k : Int32).toNatClampNeg) v) (by omega) (by omega)
  exact hL3 _ from_ f (by omega) (Nat.lt_succ_self _)
