/-! ROWS OF NUMBERS -/
theorem omg_e9639d82c6 {x0 : Int} {x1 : Int} {x2 : Int} {x3 : Int} {x4 : Int} (a0 : (x0 = (x1 % (4 : Int)))) (a1 : (x2 = ((4 : Int) + x0))) (a2 : (((x3 = (0 : Int)) ∧ (x4 = x2)) ∨ (((x3 = (1 : Int)) ∧ (x4 = (x2 * (2 : Int)))) ∨ (((x3 = (2 : Int)) ∧ (x4 = (x2 * (4 : Int)))) ∨ (((x3 = (3 : Int)) ∧ (x4 = (x2 * (8 : Int)))) ∨ (((x3 = (4 : Int)) ∧ (x4 = (x2 * (16 : Int)))) ∨ (((x3 = (5 : Int)) ∧ (x4 = (x2 * (32 : Int)))) ∨ (((x3 = (6 : Int)) ∧ (x4 = (x2 * (64 : Int)))) ∨ (((x3 = (7 : Int)) ∧ (x4 = (x2 * (128 : Int)))) ∨ (((x3 = (8 : Int)) ∧ (x4 = (x2 * (256 : Int)))) ∨ (((x3 = (9 : Int)) ∧ (x4 = (x2 * (512 : Int)))) ∨ (((x3 = (10 : Int)) ∧ (x4 = (x2 * (1024 : Int)))) ∨ (((x3 = (11 : Int)) ∧ (x4 = (x2 * (2048 : Int)))) ∨ (((x3 = (12 : Int)) ∧ (x4 = (x2 * (4096 : Int)))) ∨ ((x3 = (13 : Int)) ∧ (x4 = (x2 * (8192 : Int)))))))))))))))))) : (((-(2147483648 : Int)) ≤ ((3 : Int) + x4)) ∧ (((3 : Int) + x4) < (2147483648 : Int))) := by omega
theorem omg_68c0e5a607 {x0 : Int} {x1 : Int} {x2 : Int} {x3 : Int} {x4 : Int} (a0 : (x0 = (x1 % (2 : Int)))) (a1 : (x2 = ((2 : Int) + x0))) (a2 : (((x3 = (0 : Int)) ∧ (x4 = x2)) ∨ (((x3 = (1 : Int)) ∧ (x4 = (x2 * (2 : Int)))) ∨ (((x3 = (2 : Int)) ∧ (x4 = (x2 * (4 : Int)))) ∨ (((x3 = (3 : Int)) ∧ (x4 = (x2 * (8 : Int)))) ∨ (((x3 = (4 : Int)) ∧ (x4 = (x2 * (16 : Int)))) ∨ (((x3 = (5 : Int)) ∧ (x4 = (x2 * (32 : Int)))) ∨ (((x3 = (6 : Int)) ∧ (x4 = (x2 * (64 : Int)))) ∨ (((x3 = (7 : Int)) ∧ (x4 = (x2 * (128 : Int)))) ∨ (((x3 = (8 : Int)) ∧ (x4 = (x2 * (256 : Int)))) ∨ (((x3 = (9 : Int)) ∧ (x4 = (x2 * (512 : Int)))) ∨ (((x3 = (10 : Int)) ∧ (x4 = (x2 * (1024 : Int)))) ∨ (((x3 = (11 : Int)) ∧ (x4 = (x2 * (2048 : Int)))) ∨ (((x3 = (12 : Int)) ∧ (x4 = (x2 * (4096 : Int)))) ∨ ((x3 = (13 : Int)) ∧ (x4 = (x2 * (8192 : Int)))))))))))))))))) : (((1 : Int) + x4) < (2147483648 : Int)) := by omega
theorem omg_ef7619423d {x0 : Int} {x1 : Int} {x2 : Int} {x3 : Int} {x4 : Int} (a0 : (x0 = (x1 % (2 : Int)))) (a1 : (x2 = ((2 : Int) + x0))) (a2 : (((x3 = (0 : Int)) ∧ (x4 = x2)) ∨ (((x3 = (1 : Int)) ∧ (x4 = (x2 * (2 : Int)))) ∨ (((x3 = (2 : Int)) ∧ (x4 = (x2 * (4 : Int)))) ∨ (((x3 = (3 : Int)) ∧ (x4 = (x2 * (8 : Int)))) ∨ (((x3 = (4 : Int)) ∧ (x4 = (x2 * (16 : Int)))) ∨ (((x3 = (5 : Int)) ∧ (x4 = (x2 * (32 : Int)))) ∨ (((x3 = (6 : Int)) ∧ (x4 = (x2 * (64 : Int)))) ∨ (((x3 = (7 : Int)) ∧ (x4 = (x2 * (128 : Int)))) ∨ (((x3 = (8 : Int)) ∧ (x4 = (x2 * (256 : Int)))) ∨ (((x3 = (9 : Int)) ∧ (x4 = (x2 * (512 : Int)))) ∨ (((x3 = (10 : Int)) ∧ (x4 = (x2 * (1024 : Int)))) ∨ (((x3 = (11 : Int)) ∧ (x4 = (x2 * (2048 : Int)))) ∨ (((x3 = (12 : Int)) ∧ (x4 = (x2 * (4096 : Int)))) ∨ ((x3 = (13 : Int)) ∧ (x4 = (x2 * (8192 : Int)))))))))))))))))) : ((-(2147483648 : Int)) ≤ ((1 : Int) + x4)) := by omega
theorem omg_1337aeffc0 {x0 : Int} {x1 : Int} {x2 : Int} {x3 : Int} (a0 : (x0 = (x1 + x2))) (a1 : (x3 = (x0 / (8 : Int)))) : (x3 = ((x1 + x2) / (8 : Int))) := by omega
theorem omg_bf9cd5a31e {x0 : Int} {x1 : Int} (a0 : ((0 : Int) ≤ x0)) (a1 : ((0 : Int) ≤ x1)) : ((0 : Int) ≤ ((x0 + x1) / (8 : Int))) := by omega
theorem omg_cf7b5f4de2 {x0 : Int} {x1 : Int} {x2 : Int} {x3 : Int} (a0 : (x0 = (x1 + x2))) (a1 : (x3 = (x0 % (8 : Int)))) : (x3 = ((x1 + x2) % (8 : Int))) := by omega
theorem omg_742de62412 {x0 : Int} {x1 : Int} {x2 : Int} {x3 : Int} {x4 : Int} {x5 : Int} (a0 : ((0 : Int) ≤ x0)) (a1 : (x0 ≤ x1)) (a2 : (x1 < x2)) (a3 : (x3 = ((2 : Int) * x2))) (a4 : (x3 ≤ (65536 : Int))) (a5 : (x4 = ((2 : Int) * x1))) (a6 : (((0 : Int) ≤ x5) ∧ (x5 ≤ (1 : Int)))) : (((-(2147483648 : Int)) ≤ (x4 + x5)) ∧ ((x4 + x5) < (2147483648 : Int))) := by omega
theorem omg_7cd683a882 {x0 : Int} {x1 : Int} {x2 : Int} {x3 : Int} {x4 : Int} {x5 : Int} {x6 : Int} {x7 : Int} (a0 : ((0 : Int) ≤ x0)) (a1 : (x0 ≤ x1)) (a2 : (x1 < x2)) (a3 : (x3 = ((2 : Int) * x2))) (a4 : (x3 ≤ (65536 : Int))) (a5 : (x4 = ((2 : Int) * x1))) (a6 : (((0 : Int) ≤ x5) ∧ (x5 ≤ (1 : Int)))) (a7 : (x6 = (x4 + x5))) (a8 : (x7 = ((2 : Int) * x0))) : (((-(2147483648 : Int)) ≤ (x6 - x7)) ∧ ((x6 - x7) < (2147483648 : Int))) := by omega
theorem omg_3c7bc5acdd {x0 : Int} {x1 : Int} {x2 : Int} {x3 : Int} {x4 : Int} {x5 : Int} {x6 : Int} {x7 : Int} {x8 : Int} {x9 : Int} {x10 : Int} (a0 : ((0 : Int) ≤ x0)) (a1 : (x1 < x2)) (a2 : (x3 = ((2 : Int) * x2))) (a3 : (x3 ≤ (65536 : Int))) (a4 : (x4 = ((2 : Int) * x1))) (a5 : (((0 : Int) ≤ x5) ∧ (x5 ≤ (1 : Int)))) (a6 : (x6 = (x4 + x5))) (a7 : (x7 = ((2 : Int) * x0))) (a8 : (x8 = x9)) (a9 : ((0 : Int) ≤ x9)) (a10 : (x10 = (x6 - x7))) (a11 : (x8 ≤ x10)) : (((-(2147483648 : Int)) ≤ (x7 + x8)) ∧ ((x7 + x8) < (2147483648 : Int))) := by omega
theorem omg_c5c19ad744 {x0 : Int} {x1 : Int} {x2 : Int} {x3 : Int} {x4 : Int} {x5 : Int} (a0 : (x0 = x1)) (a1 : (x2 = ((2 : Int) * x3))) (a2 : (x4 = x0)) (a3 : (x5 = (x2 + x4))) : (x5 = (((2 : Int) * x3) + x1)) := by omega
theorem omg_3113d64374 {x0 : Int} {x1 : Int} {x2 : Int} {x3 : Int} {x4 : Int} {x5 : Int} {x6 : Int} (a0 : (x0 = x1)) (a1 : (x2 = ((2 : Int) * x3))) (a2 : (x4 = x0)) (a3 : (x5 = (x6 - x2))) (a4 : (x4 ≤ x5)) : (¬ ((x6 - ((2 : Int) * x3)) < x1)) := by omega
theorem omg_0a68554054 {x0 : Int} {x1 : Int} {x2 : Int} {x3 : Int} {x4 : Int} (a0 : (x0 = ((2 : Int) * x1))) (a1 : (x2 = x3)) (a2 : (x4 = (x0 + x2))) : (x4 = (((2 : Int) * x1) + x3)) := by omega
theorem omg_7a2756d7e5 {x0 : Int} {x1 : Int} {x2 : Int} (a0 : (x0 < x1)) (a1 : (x2 = (x0 + (1 : Int)))) : (x2 ≤ x1) := by omega
theorem omg_43a000c987 {x0 : Int} {x1 : Int} {x2 : Int} {x3 : Int} {x4 : Int} {x5 : Int} (a0 : (x0 < x1)) (a1 : (x2 = ((2 : Int) * x1))) (a2 : (x3 = ((2 : Int) * x0))) (a3 : (((0 : Int) ≤ x4) ∧ (x4 ≤ (1 : Int)))) (a4 : (x5 = (x3 + x4))) : (x5 < x2) := by omega
theorem omg_8f91fe36e2 {x0 : Int} {x1 : Int} {x2 : Int} {x3 : Int} {x4 : Int} (a0 : (x0 = (x1 - x2))) (a1 : (x3 ≤ x0)) (a2 : (x4 = (x2 + x3))) : (x4 ≤ x1) := by omega
theorem omg_7699e87d20 {x0 : Int} {x1 : Int} (a0 : ((1 : Int) ≤ x0)) (a1 : (x1 = (x0 + (1 : Int)))) : ((1 : Int) ≤ x1) := by omega
theorem omg_47b1ac9714 {x0 : Int} {x1 : Nat} {x2 : Int} {x3 : Int} {x4 : Int} {x5 : Int} {x6 : Int} {x7 : Int} {x8 : Int} {x9 : Int} {x10 : Int} (a0 : (x0 ≤ ((x1 : Nat) : Int))) (a1 : (x1 ≤ (100000 : Nat))) (a2 : (x2 = x3)) (a3 : ((0 : Int) ≤ x4)) (a4 : (x4 ≤ x5)) (a5 : (x5 < x6)) (a6 : (x7 = ((2 : Int) * x6))) (a7 : (x7 ≤ (65536 : Int))) (a8 : (x8 = ((2 : Int) * x5))) (a9 : (((0 : Int) ≤ x9) ∧ (x9 ≤ (1 : Int)))) (a10 : (x10 = (x8 + x9))) (a11 : (((0 : Int) ≤ x3) ∧ (x3 ≤ x0))) : (((-(2147483648 : Int)) ≤ (x2 + x10)) ∧ ((x2 + x10) < (2147483648 : Int))) := by omega
theorem omg_35838ba919 {x0 : Int} {x1 : Nat} {x2 : Int} {x3 : Int} {x4 : Int} {x5 : Int} {x6 : Int} {x7 : Int} {x8 : Int} {x9 : Int} {x10 : Int} {x11 : Int} {x12 : Int} {x13 : Int} {x14 : Int} (a0 : (x0 ≤ ((x1 : Nat) : Int))) (a1 : (x1 ≤ (100000 : Nat))) (a2 : (x2 = x3)) (a3 : (x4 ≤ x5)) (a4 : (x6 = ((2 : Int) * x5))) (a5 : (((0 : Int) ≤ x7) ∧ (x7 ≤ (1 : Int)))) (a6 : (x8 = (x6 + x7))) (a7 : (x9 = ((2 : Int) * x4))) (a8 : (x10 = x11)) (a9 : (x12 = (x3 + x11))) (a10 : (((0 : Int) ≤ x12) ∧ (x12 ≤ x0))) (a11 : (((0 : Int) ≤ x3) ∧ (x3 ≤ x0))) (a12 : (x13 = (x8 - x9))) (a13 : (¬ (x10 ≤ x13))) (a14 : (x14 = (x2 + x8))) : (((-(2147483648 : Int)) ≤ (x14 - x9)) ∧ ((x14 - x9) < (2147483648 : Int))) := by omega
theorem omg_c60df5e4a8 {x0 : Int} {x1 : Nat} {x2 : Int} {x3 : Int} {x4 : Int} {x5 : Int} {x6 : Int} {x7 : Int} {x8 : Int} {x9 : Int} {x10 : Int} {x11 : Int} {x12 : Int} {x13 : Int} {x14 : Int} {x15 : Int} (a0 : (x0 ≤ ((x1 : Nat) : Int))) (a1 : (x2 = x3)) (a2 : (x4 ≤ x5)) (a3 : (x6 = ((2 : Int) * x5))) (a4 : (((0 : Int) ≤ x7) ∧ (x7 ≤ (1 : Int)))) (a5 : (x8 = (x6 + x7))) (a6 : (x9 = ((2 : Int) * x4))) (a7 : (x10 = x11)) (a8 : (x12 = (x3 + x11))) (a9 : (((0 : Int) ≤ x12) ∧ (x12 ≤ x0))) (a10 : (((0 : Int) ≤ x3) ∧ (x3 ≤ x0))) (a11 : (x13 = (x8 - x9))) (a12 : (¬ (x10 ≤ x13))) (a13 : (x14 = (x2 + x8))) (a14 : (x15 = (x14 - x9))) : (((0 : Int) ≤ x15) ∧ (x15 < ((x1 : Nat) : Int))) := by omega
theorem omg_1b3b53c737 {x0 : Int} {x1 : Int} {x2 : Int} {x3 : Int} {x4 : Int} {x5 : Int} {x6 : Int} {x7 : Int} {x8 : Int} {x9 : Int} {x10 : Int} (a0 : (x0 = x1)) (a1 : (x2 = x3)) (a2 : (x4 = (x1 + x3))) (a3 : (((0 : Int) ≤ x4) ∧ (x4 ≤ x5))) (a4 : (x6 = (x7 - x8))) (a5 : (¬ (x2 ≤ x6))) (a6 : (x9 = (x0 + x7))) (a7 : (x10 = (x9 - x8))) : (x10 < x5) := by omega
theorem omg_7f31d3fb9e {x0 : Int} {x1 : Int} {x2 : Int} {x3 : Int} {x4 : Int} {x5 : Int} {x6 : Int} {x7 : Int} {x8 : Int} {x9 : Int} {x10 : Int} (a0 : (x0 = x1)) (a1 : (x2 ≤ x3)) (a2 : (x4 = ((2 : Int) * x3))) (a3 : (((0 : Int) ≤ x5) ∧ (x5 ≤ (1 : Int)))) (a4 : (x6 = (x4 + x5))) (a5 : (x7 = ((2 : Int) * x2))) (a6 : (((0 : Int) ≤ x1) ∧ (x1 ≤ x8))) (a7 : (x9 = (x0 + x6))) (a8 : (x10 = (x9 - x7))) : ((0 : Int) ≤ x10) := by omega
theorem omg_badb799da3 {x0 : Int} {x1 : Int} {x2 : Int} {x3 : Int} {x4 : Int} {x5 : Int} {x6 : Int} {x7 : Int} (a0 : (x0 = x1)) (a1 : (x2 = (x3 - x4))) (a2 : (x5 = x2)) (a3 : (x6 = (x0 + x3))) (a4 : (x7 = (x6 - x4))) : (x7 = (x1 + x5)) := by omega
theorem omg_acbb64b388 {x0 : Int} {x1 : Int} {x2 : Int} {x3 : Int} {x4 : Int} (a0 : (x0 = x1)) (a1 : (x2 = x0)) (a2 : (x3 = x4)) (a3 : (¬ (x2 ≤ x4))) : (x3 < x1) := by omega
theorem omg_4b0a5357d9 {x0 : Int} {x1 : Int} {x2 : Int} {x3 : Int} {x4 : Int} {x5 : Int} {x6 : Int} {x7 : Int} (a0 : (x0 ≤ x1)) (a1 : (x2 = ((2 : Int) * x1))) (a2 : (((0 : Int) ≤ x3) ∧ (x3 ≤ (1 : Int)))) (a3 : (x4 = (x2 + x3))) (a4 : (x5 = ((2 : Int) * x0))) (a5 : (x6 = (x4 - x5))) (a6 : (x7 = x6)) : ((0 : Int) ≤ x7) := by omega
theorem omg_4e273d12d1 {x0 : Int} {x1 : Int} {x2 : Int} {x3 : Int} {x4 : Int} {x5 : Int} {x6 : Int} {x7 : Int} {x8 : Int} (a0 : (x0 = ((2 : Int) * x1))) (a1 : (x2 = x3)) (a2 : (x4 = (x0 + x2))) (a3 : (x5 = ((2 : Int) * x6))) (a4 : (x7 = (x4 - x5))) (a5 : (x8 = x7)) : (x8 = ((((2 : Int) * x1) + x3) - ((2 : Int) * x6))) := by omega
theorem omg_e766ba8f99 {x0 : Int} (a0 : (¬ ((15 : Int) < x0))) : ((Int.toNat ((16 : Int) - x0)) ≠ (0 : Nat)) := by omega
theorem d_Expander_leastTimes_0 : decode prog_3_method_7_code 0 = .ok (.iload_n 0, 1) := by decide +kernel
theorem d_Expander_leastTimes_1 : decode prog_3_method_7_code 1 = .ok (.bipush 16, 2) := by decide +kernel
theorem d_Expander_leastTimes_3 : decode prog_3_method_7_code 3 = .ok (.if_icmp .ge 7, 3) := by decide +kernel
theorem d_Expander_leastTimes_10 : decode prog_3_method_7_code 10 = .ok (.iload_n 0, 1) := by decide +kernel
theorem d_Expander_leastTimes_11 : decode prog_3_method_7_code 11 = .ok (.bipush 18, 2) := by decide +kernel
theorem d_Expander_leastTimes_13 : decode prog_3_method_7_code 13 = .ok (.if_icmp .ge 7, 3) := by decide +kernel
theorem d_Expander_leastTimes_20 : decode prog_3_method_7_code 20 = .ok (.bipush 11, 2) := by decide +kernel
theorem d_Expander_leastTimes_22 : decode prog_3_method_7_code 22 = .ok (.ireturn, 1) := by decide +kernel
theorem d_Expander_leastTimes_16 : decode prog_3_method_7_code 16 = .ok (.iconst 3, 1) := by decide +kernel
theorem d_Expander_leastTimes_17 : decode prog_3_method_7_code 17 = .ok (.goto 5, 3) := by decide +kernel
theorem d_Expander_leastTimes_6 : decode prog_3_method_7_code 6 = .ok (.iconst 1, 1) := by decide +kernel
theorem d_Expander_leastTimes_7 : decode prog_3_method_7_code 7 = .ok (.goto 15, 3) := by decide +kernel
abbrev y_Expander_leastTimes : MethodName := ⟨"PackageBook$Expander", "leastTimes", "(I)I"⟩
abbrev i_Expander_leastTimes : pb_I := (y_Expander_leastTimes, prog_3_method_7_code, 1, (some Jvm.ClassFile.FieldType.int), [], { frames := 0, cells := 0, slots := 0, locals := 0 })
set_option maxRecDepth 100000 in
set_option maxHeartbeats 4000000 in
theorem g_Exp_leastTimes {l : Launch} (hl : l.stackTraces = false) (G : pb_G) (k : Int32) : Cn l G i_Expander_leastTimes [.int k] [] (S := Int32) (fun rv_ u => rv_ = some (.int u) ∧ (1 ≤ u.toInt) ∧ (u.toInt ≤ 11) ∧ (u.toInt = tl_ k.toInt)) (fun u => []) := by
  refine Cn.of hl (by decide +kernel) rfl (Nat.le_of_ble_eq_true rfl) (fun M hQ => ?_)
  refine pb_eq (pc' := 0) (lo' := [(0, .int k)]) (rest' := []) (ws' := []) ?_
  have zl0 : (0 : Int32).toInt = 0 := by decide
  have zl1 : (1 : Int32).toInt = 1 := by decide
  have zl3 : (3 : Int32).toInt = 3 := by decide
  have zl11 : (11 : Int32).toInt = 11 := by decide
  refine pb_iload_n (pc := 0) d_Expander_leastTimes_0 0 rfl rfl ?_
  refine pb_bipush (pc := 1) (v := 16) d_Expander_leastTimes_1 (by decide) ?_
  refine pb_icmp_ge (pc := 3) (tgt := 10) d_Expander_leastTimes_3 (by decide) (fun w1 => ?_) (fun w1 => ?_)
  · have tw1 : 16 ≤ k.toInt := (ti_le (by decide) rfl).mp w1
    refine pb_iload_n (pc := 10) d_Expander_leastTimes_10 0 rfl rfl ?_
    refine pb_bipush (pc := 11) (v := 18) d_Expander_leastTimes_11 (by decide) ?_
    refine pb_icmp_ge (pc := 13) (tgt := 20) d_Expander_leastTimes_13 (by decide) (fun w2 => ?_) (fun w2 => ?_)
    · have tw2 : 18 ≤ k.toInt := (ti_le (by decide) rfl).mp w2
      refine pb_bipush (pc := 20) (v := 11) d_Expander_leastTimes_20 (by decide) ?_
      exact pb_iret (pc := 22) hQ d_Expander_leastTimes_22 rfl rfl (11) ⟨rfl, (by (try dsimp only); first | done | (with_reducible assumption) | omega (splitDisjunctions := false) | assumption | omega | decide), (by (try dsimp only); first | done | (with_reducible assumption) | omega (splitDisjunctions := false) | assumption | omega | decide), (show (11 : Int32).toInt = tl_ k.toInt from (by unfold tl_; (repeat' split) <;> omega))⟩ [] (by decide) rfl rfl (by decide) (by decide)
    · have tw2 : ¬ 18 ≤ k.toInt := fun z9 => w2 ((ti_le (by decide) rfl).mpr z9)
      refine pb_iconst (pc := 16) (v := 3) d_Expander_leastTimes_16 (by decide) ?_
      refine pb_goto (pc := 17) (tgt := 22) d_Expander_leastTimes_17 (by decide) ?_
      exact pb_iret (pc := 22) hQ d_Expander_leastTimes_22 rfl rfl (3) ⟨rfl, (by (try dsimp only); first | done | (with_reducible assumption) | omega (splitDisjunctions := false) | assumption | omega | decide), (by (try dsimp only); first | done | (with_reducible assumption) | omega (splitDisjunctions := false) | assumption | omega | decide), (show (3 : Int32).toInt = tl_ k.toInt from (by unfold tl_; (repeat' split) <;> omega))⟩ [] (by decide) rfl rfl (by decide) (by decide)
  · have tw1 : ¬ 16 ≤ k.toInt := fun z9 => w1 ((ti_le (by decide) rfl).mpr z9)
    refine pb_iconst (pc := 6) (v := 1) d_Expander_leastTimes_6 (by decide) ?_
    refine pb_goto (pc := 7) (tgt := 22) d_Expander_leastTimes_7 (by decide) ?_
    exact pb_iret (pc := 22) hQ d_Expander_leastTimes_22 rfl rfl (1) ⟨rfl, (by (try dsimp only); first | done | (with_reducible assumption) | omega (splitDisjunctions := false) | assumption | omega | decide), (by (try dsimp only); first | done | (with_reducible assumption) | omega (splitDisjunctions := false) | assumption | omega | decide), (show (1 : Int32).toInt = tl_ k.toInt from (by unfold tl_; (repeat' split) <;> omega))⟩ [] (by decide) rfl rfl (by decide) (by decide)

theorem d_Expander_bitsOfTimes_0 : decode prog_3_method_8_code 0 = .ok (.iload_n 0, 1) := by decide +kernel
theorem d_Expander_bitsOfTimes_1 : decode prog_3_method_8_code 1 = .ok (.bipush 16, 2) := by decide +kernel
theorem d_Expander_bitsOfTimes_3 : decode prog_3_method_8_code 3 = .ok (.if_icmp .ge 7, 3) := by decide +kernel
theorem d_Expander_bitsOfTimes_10 : decode prog_3_method_8_code 10 = .ok (.iload_n 0, 1) := by decide +kernel
theorem d_Expander_bitsOfTimes_11 : decode prog_3_method_8_code 11 = .ok (.bipush 16, 2) := by decide +kernel
theorem d_Expander_bitsOfTimes_13 : decode prog_3_method_8_code 13 = .ok (.if_icmp .ne 7, 3) := by decide +kernel
theorem d_Expander_bitsOfTimes_20 : decode prog_3_method_8_code 20 = .ok (.iload_n 0, 1) := by decide +kernel
theorem d_Expander_bitsOfTimes_21 : decode prog_3_method_8_code 21 = .ok (.bipush 17, 2) := by decide +kernel
theorem d_Expander_bitsOfTimes_23 : decode prog_3_method_8_code 23 = .ok (.if_icmp .ne 7, 3) := by decide +kernel
theorem d_Expander_bitsOfTimes_30 : decode prog_3_method_8_code 30 = .ok (.bipush 7, 2) := by decide +kernel
theorem d_Expander_bitsOfTimes_32 : decode prog_3_method_8_code 32 = .ok (.ireturn, 1) := by decide +kernel
theorem d_Expander_bitsOfTimes_26 : decode prog_3_method_8_code 26 = .ok (.iconst 3, 1) := by decide +kernel
theorem d_Expander_bitsOfTimes_27 : decode prog_3_method_8_code 27 = .ok (.goto 5, 3) := by decide +kernel
theorem d_Expander_bitsOfTimes_16 : decode prog_3_method_8_code 16 = .ok (.iconst 2, 1) := by decide +kernel
theorem d_Expander_bitsOfTimes_17 : decode prog_3_method_8_code 17 = .ok (.goto 15, 3) := by decide +kernel
theorem d_Expander_bitsOfTimes_6 : decode prog_3_method_8_code 6 = .ok (.iconst 0, 1) := by decide +kernel
theorem d_Expander_bitsOfTimes_7 : decode prog_3_method_8_code 7 = .ok (.goto 25, 3) := by decide +kernel
abbrev y_Expander_bitsOfTimes : MethodName := ⟨"PackageBook$Expander", "bitsOfTimes", "(I)I"⟩
abbrev i_Expander_bitsOfTimes : pb_I := (y_Expander_bitsOfTimes, prog_3_method_8_code, 1, (some Jvm.ClassFile.FieldType.int), [], { frames := 0, cells := 0, slots := 0, locals := 0 })
set_option maxRecDepth 100000 in
set_option maxHeartbeats 4000000 in
theorem g_Exp_bitsOfTimes {l : Launch} (hl : l.stackTraces = false) (G : pb_G) (k : Int32) : Cn l G i_Expander_bitsOfTimes [.int k] [] (S := Int32) (fun rv_ u => rv_ = some (.int u) ∧ (0 ≤ u.toInt) ∧ (u.toInt ≤ 7) ∧ (u.toInt = tb_ k.toInt)) (fun u => []) := by
  refine Cn.of hl (by decide +kernel) rfl (Nat.le_of_ble_eq_true rfl) (fun M hQ => ?_)
  refine pb_eq (pc' := 0) (lo' := [(0, .int k)]) (rest' := []) (ws' := []) ?_
  have zl0 : (0 : Int32).toInt = 0 := by decide
  have zl1 : (1 : Int32).toInt = 1 := by decide
  have zl2 : (2 : Int32).toInt = 2 := by decide
  have zl3 : (3 : Int32).toInt = 3 := by decide
  have zl7 : (7 : Int32).toInt = 7 := by decide
  refine pb_iload_n (pc := 0) d_Expander_bitsOfTimes_0 0 rfl rfl ?_
  refine pb_bipush (pc := 1) (v := 16) d_Expander_bitsOfTimes_1 (by decide) ?_
  refine pb_icmp_ge (pc := 3) (tgt := 10) d_Expander_bitsOfTimes_3 (by decide) (fun w1 => ?_) (fun w1 => ?_)
  · have tw1 : 16 ≤ k.toInt := (ti_le (by decide) rfl).mp w1
    refine pb_iload_n (pc := 10) d_Expander_bitsOfTimes_10 0 rfl rfl ?_
    refine pb_bipush (pc := 11) (v := 16) d_Expander_bitsOfTimes_11 (by decide) ?_
    refine pb_icmp_ne (pc := 13) (tgt := 20) d_Expander_bitsOfTimes_13 (by decide) (fun w2 => ?_) (fun w2 => ?_)
    · have tw2 : ¬ k.toInt = 16 := fun z9 => w2 ((ti_eq rfl (by decide)).mpr z9)
      refine pb_iload_n (pc := 20) d_Expander_bitsOfTimes_20 0 rfl rfl ?_
      refine pb_bipush (pc := 21) (v := 17) d_Expander_bitsOfTimes_21 (by decide) ?_
      refine pb_icmp_ne (pc := 23) (tgt := 30) d_Expander_bitsOfTimes_23 (by decide) (fun w3 => ?_) (fun w3 => ?_)
      · have tw3 : ¬ k.toInt = 17 := fun z9 => w3 ((ti_eq rfl (by decide)).mpr z9)
        refine pb_bipush (pc := 30) (v := 7) d_Expander_bitsOfTimes_30 (by decide) ?_
        exact pb_iret (pc := 32) hQ d_Expander_bitsOfTimes_32 rfl rfl (7) ⟨rfl, (by (try dsimp only); first | done | (with_reducible assumption) | omega (splitDisjunctions := false) | assumption | omega | decide), (by (try dsimp only); first | done | (with_reducible assumption) | omega (splitDisjunctions := false) | assumption | omega | decide), (show (7 : Int32).toInt = tb_ k.toInt from (by unfold tb_; (repeat' split) <;> omega))⟩ [] (by decide) rfl rfl (by decide) (by decide)
      · have tw3 : k.toInt = 17 := (ti_eq rfl (by decide)).mp w3
        refine pb_iconst (pc := 26) (v := 3) d_Expander_bitsOfTimes_26 (by decide) ?_
        refine pb_goto (pc := 27) (tgt := 32) d_Expander_bitsOfTimes_27 (by decide) ?_
        exact pb_iret (pc := 32) hQ d_Expander_bitsOfTimes_32 rfl rfl (3) ⟨rfl, (by (try dsimp only); first | done | (with_reducible assumption) | omega (splitDisjunctions := false) | assumption | omega | decide), (by (try dsimp only); first | done | (with_reducible assumption) | omega (splitDisjunctions := false) | assumption | omega | decide), (show (3 : Int32).toInt = tb_ k.toInt from (by unfold tb_; (repeat' split) <;> omega))⟩ [] (by decide) rfl rfl (by decide) (by decide)
    · have tw2 : k.toInt = 16 := (ti_eq rfl (by decide)).mp w2
      refine pb_iconst (pc := 16) (v := 2) d_Expander_bitsOfTimes_16 (by decide) ?_
      refine pb_goto (pc := 17) (tgt := 32) d_Expander_bitsOfTimes_17 (by decide) ?_
      exact pb_iret (pc := 32) hQ d_Expander_bitsOfTimes_32 rfl rfl (2) ⟨rfl, (by (try dsimp only); first | done | (with_reducible assumption) | omega (splitDisjunctions := false) | assumption | omega | decide), (by (try dsimp only); first | done | (with_reducible assumption) | omega (splitDisjunctions := false) | assumption | omega | decide), (show (2 : Int32).toInt = tb_ k.toInt from (by unfold tb_; (repeat' split) <;> omega))⟩ [] (by decide) rfl rfl (by decide) (by decide)
  · have tw1 : ¬ 16 ≤ k.toInt := fun z9 => w1 ((ti_le (by decide) rfl).mpr z9)
    refine pb_iconst (pc := 6) (v := 0) d_Expander_bitsOfTimes_6 (by decide) ?_
    refine pb_goto (pc := 7) (tgt := 32) d_Expander_bitsOfTimes_7 (by decide) ?_
    exact pb_iret (pc := 32) hQ d_Expander_bitsOfTimes_32 rfl rfl (0) ⟨rfl, (by (try dsimp only); first | done | (with_reducible assumption) | omega (splitDisjunctions := false) | assumption | omega | decide), (by (try dsimp only); first | done | (with_reducible assumption) | omega (splitDisjunctions := false) | assumption | omega | decide), (show (0 : Int32).toInt = tb_ k.toInt from (by unfold tb_; (repeat' split) <;> omega))⟩ [] (by decide) rfl rfl (by decide) (by decide)

theorem d_Expander_bitsOfLength_0 : decode prog_3_method_11_code 0 = .ok (.iload_n 0, 1) := by decide +kernel
theorem d_Expander_bitsOfLength_1 : decode prog_3_method_11_code 1 = .ok (.bipush 8, 2) := by decide +kernel
theorem d_Expander_bitsOfLength_3 : decode prog_3_method_11_code 3 = .ok (.if_icmp .lt 9, 3) := by decide +kernel
theorem d_Expander_bitsOfLength_12 : decode prog_3_method_11_code 12 = .ok (.iconst 0, 1) := by decide +kernel
theorem d_Expander_bitsOfLength_13 : decode prog_3_method_11_code 13 = .ok (.goto 8, 3) := by decide +kernel
theorem d_Expander_bitsOfLength_21 : decode prog_3_method_11_code 21 = .ok (.ireturn, 1) := by decide +kernel
theorem d_Expander_bitsOfLength_6 : decode prog_3_method_11_code 6 = .ok (.iload_n 0, 1) := by decide +kernel
theorem d_Expander_bitsOfLength_7 : decode prog_3_method_11_code 7 = .ok (.bipush 28, 2) := by decide +kernel
theorem d_Expander_bitsOfLength_9 : decode prog_3_method_11_code 9 = .ok (.if_icmp .lt 7, 3) := by decide +kernel
theorem d_Expander_bitsOfLength_16 : decode prog_3_method_11_code 16 = .ok (.iload_n 0, 1) := by decide +kernel
theorem d_Expander_bitsOfLength_17 : decode prog_3_method_11_code 17 = .ok (.iconst 4, 1) := by decide +kernel
theorem d_Expander_bitsOfLength_18 : decode prog_3_method_11_code 18 = .ok (.idiv, 1) := by decide +kernel
theorem d_Expander_bitsOfLength_19 : decode prog_3_method_11_code 19 = .ok (.iconst 1, 1) := by decide +kernel
theorem d_Expander_bitsOfLength_20 : decode prog_3_method_11_code 20 = .ok (.isub, 1) := by decide +kernel
abbrev y_Expander_bitsOfLength : MethodName := ⟨"PackageBook$Expander", "bitsOfLength", "(I)I"⟩
abbrev i_Expander_bitsOfLength : pb_I := (y_Expander_bitsOfLength, prog_3_method_11_code, 1, (some Jvm.ClassFile.FieldType.int), [], { frames := 0, cells := 0, slots := 0, locals := 0 })
set_option maxRecDepth 100000 in
set_option maxHeartbeats 4000000 in
theorem g_Exp_bitsOfLength {l : Launch} (hl : l.stackTraces = false) (G : pb_G) (k : Int32) : Cn l G i_Expander_bitsOfLength [.int k] [] (S := Int32) (fun rv_ u => rv_ = some (.int u) ∧ (0 ≤ u.toInt) ∧ (u.toInt ≤ 6) ∧ (u.toInt = lb_f k.toInt)) (fun u => []) := by
  refine Cn.of hl (by decide +kernel) rfl (Nat.le_of_ble_eq_true rfl) (fun M hQ => ?_)
  refine pb_eq (pc' := 0) (lo' := [(0, .int k)]) (rest' := []) (ws' := []) ?_
  have zl0 : (0 : Int32).toInt = 0 := by decide
  have zl1 : (1 : Int32).toInt = 1 := by decide
  refine pb_iload_n (pc := 0) d_Expander_bitsOfLength_0 0 rfl rfl ?_
  refine pb_bipush (pc := 1) (v := 8) d_Expander_bitsOfLength_1 (by decide) ?_
  refine pb_icmp_lt (pc := 3) (tgt := 12) d_Expander_bitsOfLength_3 (by decide) (fun w1 => ?_) (fun w1 => ?_)
  · have tw1 : k.toInt < 8 := (ti_lt rfl (by decide)).mp w1
    refine pb_iconst (pc := 12) (v := 0) d_Expander_bitsOfLength_12 (by decide) ?_
    refine pb_goto (pc := 13) (tgt := 21) d_Expander_bitsOfLength_13 (by decide) ?_
    exact pb_iret (pc := 21) hQ d_Expander_bitsOfLength_21 rfl rfl (0) ⟨rfl, (by (try dsimp only); first | done | (with_reducible assumption) | omega (splitDisjunctions := false) | assumption | omega | decide), (by (try dsimp only); first | done | (with_reducible assumption) | omega (splitDisjunctions := false) | assumption | omega | decide), (show (0 : Int32).toInt = lb_f k.toInt from (by unfold lb_f; (repeat' split) <;> omega))⟩ [] (by decide) rfl rfl (by decide) (by decide)
  · have tw1 : ¬ k.toInt < 8 := fun z9 => w1 ((ti_lt rfl (by decide)).mpr z9)
    refine pb_iload_n (pc := 6) d_Expander_bitsOfLength_6 0 rfl rfl ?_
    refine pb_bipush (pc := 7) (v := 28) d_Expander_bitsOfLength_7 (by decide) ?_
    refine pb_icmp_lt (pc := 9) (tgt := 16) d_Expander_bitsOfLength_9 (by decide) (fun w2 => ?_) (fun w2 => ?_)
    · have tw2 : k.toInt < 28 := (ti_lt rfl (by decide)).mp w2
      refine pb_iload_n (pc := 16) d_Expander_bitsOfLength_16 0 rfl rfl ?_
      refine pb_iconst (pc := 17) (v := 4) d_Expander_bitsOfLength_17 (by decide) ?_
      refine pb_idiv (pc := 18) d_Expander_bitsOfLength_18 (by decide) ?_
      refine pb_topi (fun i3 ei3 => ?_)
      try have ti3 : i3.toInt = k.toInt / 4 := ti_div 4 ei3 rfl (by decide) (by omega) (by decide)
      refine pb_iconst (pc := 19) (v := 1) d_Expander_bitsOfLength_19 (by decide) ?_
      refine pb_isub (pc := 20) d_Expander_bitsOfLength_20 ?_
      refine pb_topi (fun i4 ei4 => ?_)
      try have ti4 : i4.toInt = i3.toInt - 1 := t2_sub ei4 rfl (by decide) (by omega)
      exact pb_iret (pc := 21) hQ d_Expander_bitsOfLength_21 rfl rfl (i4) ⟨rfl, (by (try dsimp only); first | done | (with_reducible assumption) | omega (splitDisjunctions := false) | assumption | omega | decide), (by (try dsimp only); first | done | (with_reducible assumption) | omega (splitDisjunctions := false) | assumption | omega | decide), (show i4.toInt = lb_f k.toInt from (by unfold lb_f; (repeat' split) <;> omega))⟩ [] (by decide) rfl rfl (by decide) (by decide)
    · have tw2 : ¬ k.toInt < 28 := fun z9 => w2 ((ti_lt rfl (by decide)).mpr z9)
      refine pb_iconst (pc := 12) (v := 0) d_Expander_bitsOfLength_12 (by decide) ?_
      refine pb_goto (pc := 13) (tgt := 21) d_Expander_bitsOfLength_13 (by decide) ?_
      exact pb_iret (pc := 21) hQ d_Expander_bitsOfLength_21 rfl rfl (0) ⟨rfl, (by (try dsimp only); first | done | (with_reducible assumption) | omega (splitDisjunctions := false) | assumption | omega | decide), (by (try dsimp only); first | done | (with_reducible assumption) | omega (splitDisjunctions := false) | assumption | omega | decide), (show (0 : Int32).toInt = lb_f k.toInt from (by unfold lb_f; (repeat' split) <;> omega))⟩ [] (by decide) rfl rfl (by decide) (by decide)

theorem d_Expander_leastLength_0 : decode prog_3_method_12_code 0 = .ok (.iload_n 0, 1) := by decide +kernel
theorem d_Expander_leastLength_1 : decode prog_3_method_12_code 1 = .ok (.bipush 8, 2) := by decide +kernel
theorem d_Expander_leastLength_3 : decode prog_3_method_12_code 3 = .ok (.if_icmp .ge 9, 3) := by decide +kernel
theorem d_Expander_leastLength_12 : decode prog_3_method_12_code 12 = .ok (.iload_n 0, 1) := by decide +kernel
theorem d_Expander_leastLength_13 : decode prog_3_method_12_code 13 = .ok (.bipush 28, 2) := by decide +kernel
theorem d_Expander_leastLength_15 : decode prog_3_method_12_code 15 = .ok (.if_icmp .lt 9, 3) := by decide +kernel
theorem d_Expander_leastLength_24 : decode prog_3_method_12_code 24 = .ok (.iconst 3, 1) := by decide +kernel
theorem d_Expander_leastLength_25 : decode prog_3_method_12_code 25 = .ok (.iconst 4, 1) := by decide +kernel
theorem d_Expander_leastLength_26 : decode prog_3_method_12_code 26 = .ok (.iload_n 0, 1) := by decide +kernel
theorem d_Expander_leastLength_27 : decode prog_3_method_12_code 27 = .ok (.iconst 4, 1) := by decide +kernel
theorem d_Expander_leastLength_28 : decode prog_3_method_12_code 28 = .ok (.irem, 1) := by decide +kernel
theorem d_Expander_leastLength_29 : decode prog_3_method_12_code 29 = .ok (.iadd, 1) := by decide +kernel
theorem d_Expander_leastLength_30 : decode prog_3_method_12_code 30 = .ok (.iload_n 0, 1) := by decide +kernel
theorem d_Expander_leastLength_31 : decode prog_3_method_12_code 31 = .ok (.iconst 4, 1) := by decide +kernel
theorem d_Expander_leastLength_32 : decode prog_3_method_12_code 32 = .ok (.idiv, 1) := by decide +kernel
theorem d_Expander_leastLength_33 : decode prog_3_method_12_code 33 = .ok (.iconst 1, 1) := by decide +kernel
theorem d_Expander_leastLength_34 : decode prog_3_method_12_code 34 = .ok (.isub, 1) := by decide +kernel
theorem d_Expander_leastLength_35 : decode prog_3_method_12_code 35 = .ok (.ishl, 1) := by decide +kernel
theorem d_Expander_leastLength_36 : decode prog_3_method_12_code 36 = .ok (.iadd, 1) := by decide +kernel
theorem d_Expander_leastLength_37 : decode prog_3_method_12_code 37 = .ok (.ireturn, 1) := by decide +kernel
theorem d_Expander_leastLength_18 : decode prog_3_method_12_code 18 = .ok (.sipush 258, 3) := by decide +kernel
theorem d_Expander_leastLength_21 : decode prog_3_method_12_code 21 = .ok (.goto 16, 3) := by decide +kernel
theorem d_Expander_leastLength_6 : decode prog_3_method_12_code 6 = .ok (.iconst 3, 1) := by decide +kernel
theorem d_Expander_leastLength_7 : decode prog_3_method_12_code 7 = .ok (.iload_n 0, 1) := by decide +kernel
theorem d_Expander_leastLength_8 : decode prog_3_method_12_code 8 = .ok (.iadd, 1) := by decide +kernel
theorem d_Expander_leastLength_9 : decode prog_3_method_12_code 9 = .ok (.goto 28, 3) := by decide +kernel
abbrev y_Expander_leastLength : MethodName := ⟨"PackageBook$Expander", "leastLength", "(I)I"⟩
abbrev i_Expander_leastLength : pb_I := (y_Expander_leastLength, prog_3_method_12_code, 1, (some Jvm.ClassFile.FieldType.int), [], { frames := 0, cells := 0, slots := 0, locals := 0 })
set_option maxRecDepth 100000 in
set_option maxHeartbeats 4000000 in
theorem g_Exp_leastLength {l : Launch} (hl : l.stackTraces = false) (G : pb_G) (k : Int32) (h0 : 0 ≤ k.toInt) : Cn l G i_Expander_leastLength [.int k] [] (S := Int32) (fun rv_ u => rv_ = some (.int u) ∧ (0 ≤ k.toInt → u.toInt = ll_f k.toInt)) (fun u => []) := by
  refine Cn.of hl (by decide +kernel) rfl (Nat.le_of_ble_eq_true rfl) (fun M hQ => ?_)
  refine pb_eq (pc' := 0) (lo' := [(0, .int k)]) (rest' := []) (ws' := []) ?_
  have zl0 : (0 : Int32).toInt = 0 := by decide
  have zl1 : (1 : Int32).toInt = 1 := by decide
  have zl3 : (3 : Int32).toInt = 3 := by decide
  have zl4 : (4 : Int32).toInt = 4 := by decide
  have zl258 : (258 : Int32).toInt = 258 := by decide
  refine pb_iload_n (pc := 0) d_Expander_leastLength_0 0 rfl rfl ?_
  refine pb_bipush (pc := 1) (v := 8) d_Expander_leastLength_1 (by decide) ?_
  refine pb_icmp_ge (pc := 3) (tgt := 12) d_Expander_leastLength_3 (by decide) (fun w1 => ?_) (fun w1 => ?_)
  · have tw1 : 8 ≤ k.toInt := (ti_le (by decide) rfl).mp w1
    refine pb_iload_n (pc := 12) d_Expander_leastLength_12 0 rfl rfl ?_
    refine pb_bipush (pc := 13) (v := 28) d_Expander_leastLength_13 (by decide) ?_
    refine pb_icmp_lt (pc := 15) (tgt := 24) d_Expander_leastLength_15 (by decide) (fun w2 => ?_) (fun w2 => ?_)
    · have tw2 : k.toInt < 28 := (ti_lt rfl (by decide)).mp w2
      refine pb_iconst (pc := 24) (v := 3) d_Expander_leastLength_24 (by decide) ?_
      refine pb_iconst (pc := 25) (v := 4) d_Expander_leastLength_25 (by decide) ?_
      refine pb_iload_n (pc := 26) d_Expander_leastLength_26 0 rfl rfl ?_
      refine pb_iconst (pc := 27) (v := 4) d_Expander_leastLength_27 (by decide) ?_
      refine pb_irem (pc := 28) d_Expander_leastLength_28 (by decide) ?_
      refine pb_topi (fun i3 ei3 => ?_)
      try have ti3 : i3.toInt = k.toInt % 4 := ti_rem 4 ei3 rfl (by decide) (by omega) (by decide)
      refine pb_iadd (pc := 29) d_Expander_leastLength_29 ?_
      refine pb_topi (fun i4 ei4 => ?_)
      try have ti4 : i4.toInt = 4 + i3.toInt := t2_add ei4 (by decide) rfl (by omega)
      refine pb_iload_n (pc := 30) d_Expander_leastLength_30 0 rfl rfl ?_
      refine pb_iconst (pc := 31) (v := 4) d_Expander_leastLength_31 (by decide) ?_
      refine pb_idiv (pc := 32) d_Expander_leastLength_32 (by decide) ?_
      refine pb_topi (fun i5 ei5 => ?_)
      try have ti5 : i5.toInt = k.toInt / 4 := ti_div 4 ei5 rfl (by decide) (by omega) (by decide)
      refine pb_iconst (pc := 33) (v := 1) d_Expander_leastLength_33 (by decide) ?_
      refine pb_isub (pc := 34) d_Expander_leastLength_34 ?_
      refine pb_topi (fun i6 ei6 => ?_)
      try have ti6 : i6.toInt = i5.toInt - 1 := t2_sub ei6 rfl (by decide) (by omega)
      refine pb_ishl (pc := 35) d_Expander_leastLength_35 ?_
      refine pb_topi (fun i7 ei7 => ?_)
      have ti7 := ti_slv ei7 (by omega) (by omega) (by omega) (by omega)
      refine pb_iadd (pc := 36) d_Expander_leastLength_36 ?_
      refine pb_topi (fun i8 ei8 => ?_)
      try have ti8 : i8.toInt = 3 + i7.toInt := t2_add ei8 (by decide) rfl (by (exact omg_e9639d82c6 ti3 ti4 ti7))
      exact pb_iret (pc := 37) hQ d_Expander_leastLength_37 rfl rfl (i8) ⟨rfl, (show 0 ≤ k.toInt → i8.toInt = ll_f k.toInt from (fun q9 => by unfold ll_f; (repeat' split) <;> omega))⟩ [] (by decide) rfl rfl (by decide) (by decide)
    · have tw2 : ¬ k.toInt < 28 := fun z9 => w2 ((ti_lt rfl (by decide)).mpr z9)
      refine pb_sipush (pc := 18) (v := 258) d_Expander_leastLength_18 (by decide) ?_
      refine pb_goto (pc := 21) (tgt := 37) d_Expander_leastLength_21 (by decide) ?_
      exact pb_iret (pc := 37) hQ d_Expander_leastLength_37 rfl rfl (258) ⟨rfl, (show 0 ≤ k.toInt → (258 : Int32).toInt = ll_f k.toInt from (fun q9 => by unfold ll_f; (repeat' split) <;> omega))⟩ [] (by decide) rfl rfl (by decide) (by decide)
  · have tw1 : ¬ 8 ≤ k.toInt := fun z9 => w1 ((ti_le (by decide) rfl).mpr z9)
    refine pb_iconst (pc := 6) (v := 3) d_Expander_leastLength_6 (by decide) ?_
    refine pb_iload_n (pc := 7) d_Expander_leastLength_7 0 rfl rfl ?_
    refine pb_iadd (pc := 8) d_Expander_leastLength_8 ?_
    refine pb_topi (fun i9 ei9 => ?_)
    try have ti9 : i9.toInt = 3 + k.toInt := t2_add ei9 (by decide) rfl (by omega)
    refine pb_goto (pc := 9) (tgt := 37) d_Expander_leastLength_9 (by decide) ?_
    exact pb_iret (pc := 37) hQ d_Expander_leastLength_37 rfl rfl (i9) ⟨rfl, (show 0 ≤ k.toInt → i9.toInt = ll_f k.toInt from (fun q9 => by unfold ll_f; (repeat' split) <;> omega))⟩ [] (by decide) rfl rfl (by decide) (by decide)

theorem d_Expander_bitsOfDistance_0 : decode prog_3_method_13_code 0 = .ok (.iload_n 0, 1) := by decide +kernel
theorem d_Expander_bitsOfDistance_1 : decode prog_3_method_13_code 1 = .ok (.iconst 4, 1) := by decide +kernel
theorem d_Expander_bitsOfDistance_2 : decode prog_3_method_13_code 2 = .ok (.if_icmp .ge 7, 3) := by decide +kernel
theorem d_Expander_bitsOfDistance_9 : decode prog_3_method_13_code 9 = .ok (.iload_n 0, 1) := by decide +kernel
theorem d_Expander_bitsOfDistance_10 : decode prog_3_method_13_code 10 = .ok (.iconst 2, 1) := by decide +kernel
theorem d_Expander_bitsOfDistance_11 : decode prog_3_method_13_code 11 = .ok (.idiv, 1) := by decide +kernel
theorem d_Expander_bitsOfDistance_12 : decode prog_3_method_13_code 12 = .ok (.iconst 1, 1) := by decide +kernel
theorem d_Expander_bitsOfDistance_13 : decode prog_3_method_13_code 13 = .ok (.isub, 1) := by decide +kernel
theorem d_Expander_bitsOfDistance_14 : decode prog_3_method_13_code 14 = .ok (.ireturn, 1) := by decide +kernel
theorem d_Expander_bitsOfDistance_5 : decode prog_3_method_13_code 5 = .ok (.iconst 0, 1) := by decide +kernel
theorem d_Expander_bitsOfDistance_6 : decode prog_3_method_13_code 6 = .ok (.goto 8, 3) := by decide +kernel
abbrev y_Expander_bitsOfDistance : MethodName := ⟨"PackageBook$Expander", "bitsOfDistance", "(I)I"⟩
abbrev i_Expander_bitsOfDistance : pb_I := (y_Expander_bitsOfDistance, prog_3_method_13_code, 1, (some Jvm.ClassFile.FieldType.int), [], { frames := 0, cells := 0, slots := 0, locals := 0 })
set_option maxRecDepth 100000 in
set_option maxHeartbeats 4000000 in
theorem g_Exp_bitsOfDistance {l : Launch} (hl : l.stackTraces = false) (G : pb_G) (d : Int32) (h0 : 0 ≤ d.toInt) (h1 : d.toInt ≤ 31) : Cn l G i_Expander_bitsOfDistance [.int d] [] (S := Int32) (fun rv_ u => rv_ = some (.int u) ∧ (0 ≤ u.toInt) ∧ (u.toInt ≤ 14) ∧ (u.toInt = db_f d.toInt)) (fun u => []) := by
  refine Cn.of hl (by decide +kernel) rfl (Nat.le_of_ble_eq_true rfl) (fun M hQ => ?_)
  refine pb_eq (pc' := 0) (lo' := [(0, .int d)]) (rest' := []) (ws' := []) ?_
  have zl0 : (0 : Int32).toInt = 0 := by decide
  have zl1 : (1 : Int32).toInt = 1 := by decide
  refine pb_iload_n (pc := 0) d_Expander_bitsOfDistance_0 0 rfl rfl ?_
  refine pb_iconst (pc := 1) (v := 4) d_Expander_bitsOfDistance_1 (by decide) ?_
  refine pb_icmp_ge (pc := 2) (tgt := 9) d_Expander_bitsOfDistance_2 (by decide) (fun w1 => ?_) (fun w1 => ?_)
  · have tw1 : 4 ≤ d.toInt := (ti_le (by decide) rfl).mp w1
    refine pb_iload_n (pc := 9) d_Expander_bitsOfDistance_9 0 rfl rfl ?_
    refine pb_iconst (pc := 10) (v := 2) d_Expander_bitsOfDistance_10 (by decide) ?_
    refine pb_idiv (pc := 11) d_Expander_bitsOfDistance_11 (by decide) ?_
    refine pb_topi (fun i2 ei2 => ?_)
    try have ti2 : i2.toInt = d.toInt / 2 := ti_div 2 ei2 rfl (by decide) (by omega) (by decide)
    refine pb_iconst (pc := 12) (v := 1) d_Expander_bitsOfDistance_12 (by decide) ?_
    refine pb_isub (pc := 13) d_Expander_bitsOfDistance_13 ?_
    refine pb_topi (fun i3 ei3 => ?_)
    try have ti3 : i3.toInt = i2.toInt - 1 := t2_sub ei3 rfl (by decide) (by omega)
    exact pb_iret (pc := 14) hQ d_Expander_bitsOfDistance_14 rfl rfl (i3) ⟨rfl, (by (try dsimp only); first | done | (with_reducible assumption) | omega (splitDisjunctions := false) | assumption | omega | decide), (by (try dsimp only); first | done | (with_reducible assumption) | omega (splitDisjunctions := false) | assumption | omega | decide), (show i3.toInt = db_f d.toInt from (by unfold db_f; (repeat' split) <;> omega))⟩ [] (by decide) rfl rfl (by decide) (by decide)
  · have tw1 : ¬ 4 ≤ d.toInt := fun z9 => w1 ((ti_le (by decide) rfl).mpr z9)
    refine pb_iconst (pc := 5) (v := 0) d_Expander_bitsOfDistance_5 (by decide) ?_
    refine pb_goto (pc := 6) (tgt := 14) d_Expander_bitsOfDistance_6 (by decide) ?_
    exact pb_iret (pc := 14) hQ d_Expander_bitsOfDistance_14 rfl rfl (0) ⟨rfl, (by (try dsimp only); first | done | (with_reducible assumption) | omega (splitDisjunctions := false) | assumption | omega | decide), (by (try dsimp only); first | done | (with_reducible assumption) | omega (splitDisjunctions := false) | assumption | omega | decide), (show (0 : Int32).toInt = db_f d.toInt from (by unfold db_f; (repeat' split) <;> omega))⟩ [] (by decide) rfl rfl (by decide) (by decide)

theorem d_Expander_leastDistance_0 : decode prog_3_method_14_code 0 = .ok (.iload_n 0, 1) := by decide +kernel
theorem d_Expander_leastDistance_1 : decode prog_3_method_14_code 1 = .ok (.iconst 4, 1) := by decide +kernel
theorem d_Expander_leastDistance_2 : decode prog_3_method_14_code 2 = .ok (.if_icmp .ge 9, 3) := by decide +kernel
theorem d_Expander_leastDistance_11 : decode prog_3_method_14_code 11 = .ok (.iconst 1, 1) := by decide +kernel
theorem d_Expander_leastDistance_12 : decode prog_3_method_14_code 12 = .ok (.iconst 2, 1) := by decide +kernel
theorem d_Expander_leastDistance_13 : decode prog_3_method_14_code 13 = .ok (.iload_n 0, 1) := by decide +kernel
theorem d_Expander_leastDistance_14 : decode prog_3_method_14_code 14 = .ok (.iconst 2, 1) := by decide +kernel
theorem d_Expander_leastDistance_15 : decode prog_3_method_14_code 15 = .ok (.irem, 1) := by decide +kernel
theorem d_Expander_leastDistance_16 : decode prog_3_method_14_code 16 = .ok (.iadd, 1) := by decide +kernel
theorem d_Expander_leastDistance_17 : decode prog_3_method_14_code 17 = .ok (.iload_n 0, 1) := by decide +kernel
theorem d_Expander_leastDistance_18 : decode prog_3_method_14_code 18 = .ok (.iconst 2, 1) := by decide +kernel
theorem d_Expander_leastDistance_19 : decode prog_3_method_14_code 19 = .ok (.idiv, 1) := by decide +kernel
theorem d_Expander_leastDistance_20 : decode prog_3_method_14_code 20 = .ok (.iconst 1, 1) := by decide +kernel
theorem d_Expander_leastDistance_21 : decode prog_3_method_14_code 21 = .ok (.isub, 1) := by decide +kernel
theorem d_Expander_leastDistance_22 : decode prog_3_method_14_code 22 = .ok (.ishl, 1) := by decide +kernel
theorem d_Expander_leastDistance_23 : decode prog_3_method_14_code 23 = .ok (.iadd, 1) := by decide +kernel
theorem d_Expander_leastDistance_24 : decode prog_3_method_14_code 24 = .ok (.ireturn, 1) := by decide +kernel
theorem d_Expander_leastDistance_5 : decode prog_3_method_14_code 5 = .ok (.iconst 1, 1) := by decide +kernel
theorem d_Expander_leastDistance_6 : decode prog_3_method_14_code 6 = .ok (.iload_n 0, 1) := by decide +kernel
theorem d_Expander_leastDistance_7 : decode prog_3_method_14_code 7 = .ok (.iadd, 1) := by decide +kernel
theorem d_Expander_leastDistance_8 : decode prog_3_method_14_code 8 = .ok (.goto 16, 3) := by decide +kernel
abbrev y_Expander_leastDistance : MethodName := ⟨"PackageBook$Expander", "leastDistance", "(I)I"⟩
abbrev i_Expander_leastDistance : pb_I := (y_Expander_leastDistance, prog_3_method_14_code, 1, (some Jvm.ClassFile.FieldType.int), [], { frames := 0, cells := 0, slots := 0, locals := 0 })
set_option maxRecDepth 100000 in
set_option maxHeartbeats 4000000 in
theorem g_Exp_leastDistance {l : Launch} (hl : l.stackTraces = false) (G : pb_G) (d : Int32) (h0 : 0 ≤ d.toInt) (h1 : d.toInt ≤ 31) : Cn l G i_Expander_leastDistance [.int d] [] (S := Int32) (fun rv_ u => rv_ = some (.int u) ∧ (1 ≤ u.toInt) ∧ (u.toInt ≤ 65536) ∧ (d.toInt ≤ 29 → u.toInt = ld_f d.toInt)) (fun u => []) := by
  refine Cn.of hl (by decide +kernel) rfl (Nat.le_of_ble_eq_true rfl) (fun M hQ => ?_)
  refine pb_eq (pc' := 0) (lo' := [(0, .int d)]) (rest' := []) (ws' := []) ?_
  have zl0 : (0 : Int32).toInt = 0 := by decide
  have zl1 : (1 : Int32).toInt = 1 := by decide
  have zl2 : (2 : Int32).toInt = 2 := by decide
  refine pb_iload_n (pc := 0) d_Expander_leastDistance_0 0 rfl rfl ?_
  refine pb_iconst (pc := 1) (v := 4) d_Expander_leastDistance_1 (by decide) ?_
  refine pb_icmp_ge (pc := 2) (tgt := 11) d_Expander_leastDistance_2 (by decide) (fun w1 => ?_) (fun w1 => ?_)
  · have tw1 : 4 ≤ d.toInt := (ti_le (by decide) rfl).mp w1
    refine pb_iconst (pc := 11) (v := 1) d_Expander_leastDistance_11 (by decide) ?_
    refine pb_iconst (pc := 12) (v := 2) d_Expander_leastDistance_12 (by decide) ?_
    refine pb_iload_n (pc := 13) d_Expander_leastDistance_13 0 rfl rfl ?_
    refine pb_iconst (pc := 14) (v := 2) d_Expander_leastDistance_14 (by decide) ?_
    refine pb_irem (pc := 15) d_Expander_leastDistance_15 (by decide) ?_
    refine pb_topi (fun i2 ei2 => ?_)
    try have ti2 : i2.toInt = d.toInt % 2 := ti_rem 2 ei2 rfl (by decide) (by omega) (by decide)
    refine pb_iadd (pc := 16) d_Expander_leastDistance_16 ?_
    refine pb_topi (fun i3 ei3 => ?_)
    try have ti3 : i3.toInt = 2 + i2.toInt := t2_add ei3 (by decide) rfl (by omega)
    refine pb_iload_n (pc := 17) d_Expander_leastDistance_17 0 rfl rfl ?_
    refine pb_iconst (pc := 18) (v := 2) d_Expander_leastDistance_18 (by decide) ?_
    refine pb_idiv (pc := 19) d_Expander_leastDistance_19 (by decide) ?_
    refine pb_topi (fun i4 ei4 => ?_)
    try have ti4 : i4.toInt = d.toInt / 2 := ti_div 2 ei4 rfl (by decide) (by omega) (by decide)
    refine pb_iconst (pc := 20) (v := 1) d_Expander_leastDistance_20 (by decide) ?_
    refine pb_isub (pc := 21) d_Expander_leastDistance_21 ?_
    refine pb_topi (fun i5 ei5 => ?_)
    try have ti5 : i5.toInt = i4.toInt - 1 := t2_sub ei5 rfl (by decide) (by omega)
    refine pb_ishl (pc := 22) d_Expander_leastDistance_22 ?_
    refine pb_topi (fun i6 ei6 => ?_)
    have eS := ei6
    refine pb_iadd (pc := 23) d_Expander_leastDistance_23 ?_
    refine pb_topi (fun i7 ei7 => ?_)
    try have ti7 : i7.toInt = 1 + i6.toInt := t2_add ei7 (by decide) rfl (by omega)
    have eA := ei7
    exact pb_iret (pc := 24) hQ d_Expander_leastDistance_24 rfl rfl (i7) ⟨rfl, (show 1 ≤ i7.toInt from (by first | omega | exact (ld_pos (by omega) h1 (by simp only [ei2, ei3, ei4, ei5, ei6, ei7])).1)), (show i7.toInt ≤ 65536 from (by first | omega | exact (ld_pos (by omega) h1 (by simp only [ei2, ei3, ei4, ei5, ei6, ei7])).2)), (show d.toInt ≤ 29 → i7.toInt = ld_f d.toInt from (fun q9 => by first | (have t9 := ti_slv eS (by omega) (by omega) (by omega) (by omega); have t8 := ti_add (a := 1) eA (by decide) rfl (by (exact omg_ef7619423d ti2 ti3 t9)) (by (exact omg_68c0e5a607 ti2 ti3 t9)); unfold ld_f; first | omega | ((repeat' split) <;> omega)) | (unfold ld_f; (repeat' split) <;> omega)))⟩ [] (by decide) rfl rfl (by decide) (by decide)
  · have tw1 : ¬ 4 ≤ d.toInt := fun z9 => w1 ((ti_le (by decide) rfl).mpr z9)
    refine pb_iconst (pc := 5) (v := 1) d_Expander_leastDistance_5 (by decide) ?_
    refine pb_iload_n (pc := 6) d_Expander_leastDistance_6 0 rfl rfl ?_
    refine pb_iadd (pc := 7) d_Expander_leastDistance_7 ?_
    refine pb_topi (fun i8 ei8 => ?_)
    try have ti8 : i8.toInt = 1 + d.toInt := t2_add ei8 (by decide) rfl (by omega)
    refine pb_goto (pc := 8) (tgt := 24) d_Expander_leastDistance_8 (by decide) ?_
    have eA := ei8
    exact pb_iret (pc := 24) hQ d_Expander_leastDistance_24 rfl rfl (i8) ⟨rfl, (show 1 ≤ i8.toInt from (by first | omega | exact (ld_pos (by omega) h1 (by simp only [ei8])).1)), (show i8.toInt ≤ 65536 from (by first | omega | exact (ld_pos (by omega) h1 (by simp only [ei8])).2)), (show d.toInt ≤ 29 → i8.toInt = ld_f d.toInt from (fun q9 => by first | (have t9 := ti_slv eS (by omega) (by omega) (by omega) (by omega); have t8 := ti_add (a := 1) eA (by decide) rfl (by omega) (by omega); unfold ld_f; first | omega | ((repeat' split) <;> omega)) | (unfold ld_f; (repeat' split) <;> omega)))⟩ [] (by decide) rfl rfl (by decide) (by decide)

theorem d_Expander_fail_0 : decode prog_3_method_18_code 0 = .ok (.aload_n 0, 1) := by decide +kernel
theorem d_Expander_fail_1 : decode prog_3_method_18_code 1 = .ok (.getfield 65, 3) := by decide +kernel
theorem k_260 : (Jvm.Cond.fieldLink "PackageBook$Expander" (65 : Nat) "PackageBook$Expander" "fault" "I") ∈ uW := uW_of 260 (by decide +kernel) (by decide +kernel)
theorem d_Expander_fail_4 : decode prog_3_method_18_code 4 = .ok (.ifCond .ne 8, 3) := by decide +kernel
theorem d_Expander_fail_12 : decode prog_3_method_18_code 12 = .ok (.return_, 1) := by decide +kernel
theorem d_Expander_fail_7 : decode prog_3_method_18_code 7 = .ok (.aload_n 0, 1) := by decide +kernel
theorem d_Expander_fail_8 : decode prog_3_method_18_code 8 = .ok (.iload_n 1, 1) := by decide +kernel
theorem d_Expander_fail_9 : decode prog_3_method_18_code 9 = .ok (.putfield 65, 3) := by decide +kernel
abbrev y_Expander_fail : MethodName := ⟨"PackageBook$Expander", "fail", "(I)V"⟩
abbrev i_Expander_fail : pb_I := (y_Expander_fail, prog_3_method_18_code, 2, (Option.none : Option Jvm.ClassFile.FieldType), [], { frames := 0, cells := 0, slots := 0, locals := 0 })
set_option maxRecDepth 100000 in
set_option maxHeartbeats 4000000 in
theorem g_Exp_fail {l : Launch} (hl : l.stackTraces = false) (G : pb_G) (h : Nat) (ex : Nat) (et : Nat) (ea : Nat) (eb : Nat) (ec : Nat) (ed : Nat) (ef : Nat) (er : Nat) (at_ : Int32) (en : Int32) (fl : Int32) (w : Int32) (a4 : 0 ≤ fl.toInt) (w0 : 0 < w.toInt) : Cn l G i_Expander_fail [.ref h, .int w] [(h, .inr (5, [.ref ex, .ref et, .ref ea, .ref eb, .ref ec, .ref ed, .ref ef, .ref er, .int at_, .int en, .int fl]))] (S := Int32) (fun rv_ u => rv_ = none ∧ (0 < u.toInt) ∧ (fl.toInt = 0 ∧ u.toInt = w.toInt ∨ fl.toInt ≠ 0 ∧ u.toInt = fl.toInt)) (fun u => [(h, .inr (5, [.ref ex, .ref et, .ref ea, .ref eb, .ref ec, .ref ed, .ref ef, .ref er, .int at_, .int en, .int u]))]) := by
  refine Cn.of hl (by decide +kernel) rfl (Nat.le_of_ble_eq_true rfl) (fun M hQ => ?_)
  refine pb_eq (pc' := 0) (lo' := [(0, .ref h), (1, .int w)]) (rest' := []) (ws' := [(h, .inr (5, [.ref ex, .ref et, .ref ea, .ref eb, .ref ec, .ref ed, .ref ef, .ref er, .int at_, .int en, .int fl]))]) ?_
  have zl0 : (0 : Int32).toInt = 0 := by decide
  have zl1 : (1 : Int32).toInt = 1 := by decide
  refine pb_aload_n (pc := 0) d_Expander_fail_0 0 rfl rfl ?_
  refine pb_get (pc := 1) d_Expander_fail_1 0 10 rfl rfl (by decide) in_Expander k_260 rfl ?_
  refine pb_if_ne (pc := 4) (tgt := 12) d_Expander_fail_4 (by decide) (fun w1 => ?_) (fun w1 => ?_)
  · have tw1 : ¬ fl.toInt = 0 := fun z9 => w1 ((ti_eq rfl (by decide)).mpr z9)
    exact pb_vret (pc := 12) hQ d_Expander_fail_12 rfl (fl) ⟨rfl, (by (try dsimp only); first | done | (with_reducible assumption) | omega (splitDisjunctions := false) | assumption | omega | decide), (by (try dsimp only); first | done | (with_reducible assumption) | omega (splitDisjunctions := false) | assumption | omega | decide)⟩ [0] (by decide) rfl rfl (by decide) (by decide)
  · have tw1 : fl.toInt = 0 := (ti_eq rfl (by decide)).mp w1
    refine pb_aload_n (pc := 7) d_Expander_fail_7 0 rfl rfl ?_
    refine pb_iload_n (pc := 8) d_Expander_fail_8 1 rfl rfl ?_
    refine pb_put (pc := 9) (ty := .int) (ws' := [(h, .inr (5, [.ref ex, .ref et, .ref ea, .ref eb, .ref ec, .ref ed, .ref ef, .ref er, .int at_, .int en, .int w]))]) d_Expander_fail_9 0 10 t_Expander t_Expander_ok n_Expander rfl rfl (by decide) in_Expander k_260 rfl (by decide +kernel) rfl rfl (Nat.le_of_ble_eq_true rfl) rfl ?_
    exact pb_vret (pc := 12) hQ d_Expander_fail_12 rfl (w) ⟨rfl, (by (try dsimp only); first | done | (with_reducible assumption) | omega (splitDisjunctions := false) | assumption | omega | decide), (by (try dsimp only); first | done | (with_reducible assumption) | omega (splitDisjunctions := false) | assumption | omega | decide)⟩ [0] (by decide) rfl rfl (by decide) (by decide)

theorem d_Expander_number_25 : decode prog_3_method_17_code 25 = .ok (.aload_n 0, 1) := by decide +kernel
theorem d_Expander_number_26 : decode prog_3_method_17_code 26 = .ok (.getfield 65, 3) := by decide +kernel
theorem d_Expander_number_29 : decode prog_3_method_17_code 29 = .ok (.ifCond .eq 5, 3) := by decide +kernel
theorem d_Expander_number_34 : decode prog_3_method_17_code 34 = .ok (.iconst 0, 1) := by decide +kernel
theorem d_Expander_number_35 : decode prog_3_method_17_code 35 = .ok (.istore_n 2, 1) := by decide +kernel
theorem d_Expander_number_36 : decode prog_3_method_17_code 36 = .ok (.iconst 0, 1) := by decide +kernel
theorem d_Expander_number_37 : decode prog_3_method_17_code 37 = .ok (.istore_n 3, 1) := by decide +kernel
theorem d_Expander_number_38 : decode prog_3_method_17_code 38 = .ok (.iload_n 3, 1) := by decide +kernel
theorem d_Expander_number_39 : decode prog_3_method_17_code 39 = .ok (.iload_n 1, 1) := by decide +kernel
theorem d_Expander_number_40 : decode prog_3_method_17_code 40 = .ok (.if_icmp .ge 45, 3) := by decide +kernel
theorem d_Expander_number_85 : decode prog_3_method_17_code 85 = .ok (.iload_n 2, 1) := by decide +kernel
theorem d_Expander_number_86 : decode prog_3_method_17_code 86 = .ok (.ireturn, 1) := by decide +kernel
theorem d_Expander_number_43 : decode prog_3_method_17_code 43 = .ok (.iload_n 2, 1) := by decide +kernel
theorem d_Expander_number_44 : decode prog_3_method_17_code 44 = .ok (.aload_n 0, 1) := by decide +kernel
theorem d_Expander_number_45 : decode prog_3_method_17_code 45 = .ok (.getfield 46, 3) := by decide +kernel
theorem k_257 : (Jvm.Cond.fieldLink "PackageBook$Expander" (46 : Nat) "PackageBook$Expander" "row" "[B") ∈ uW := uW_of 257 (by decide +kernel) (by decide +kernel)
theorem d_Expander_number_48 : decode prog_3_method_17_code 48 = .ok (.aload_n 0, 1) := by decide +kernel
theorem d_Expander_number_49 : decode prog_3_method_17_code 49 = .ok (.getfield 58, 3) := by decide +kernel
theorem k_258 : (Jvm.Cond.fieldLink "PackageBook$Expander" (58 : Nat) "PackageBook$Expander" "at" "I") ∈ uW := uW_of 258 (by decide +kernel) (by decide +kernel)
theorem d_Expander_number_52 : decode prog_3_method_17_code 52 = .ok (.iconst 3, 1) := by decide +kernel
theorem d_Expander_number_53 : decode prog_3_method_17_code 53 = .ok (.ishr, 1) := by decide +kernel
theorem d_Expander_number_54 : decode prog_3_method_17_code 54 = .ok (.baload, 1) := by decide +kernel
theorem d_Expander_number_55 : decode prog_3_method_17_code 55 = .ok (.aload_n 0, 1) := by decide +kernel
theorem d_Expander_number_56 : decode prog_3_method_17_code 56 = .ok (.getfield 58, 3) := by decide +kernel
theorem d_Expander_number_59 : decode prog_3_method_17_code 59 = .ok (.bipush 7, 2) := by decide +kernel
theorem d_Expander_number_61 : decode prog_3_method_17_code 61 = .ok (.iand, 1) := by decide +kernel
theorem d_Expander_number_62 : decode prog_3_method_17_code 62 = .ok (.ishr, 1) := by decide +kernel
theorem d_Expander_number_63 : decode prog_3_method_17_code 63 = .ok (.iconst 1, 1) := by decide +kernel
theorem d_Expander_number_64 : decode prog_3_method_17_code 64 = .ok (.iand, 1) := by decide +kernel
theorem d_Expander_number_65 : decode prog_3_method_17_code 65 = .ok (.iload_n 3, 1) := by decide +kernel
theorem d_Expander_number_66 : decode prog_3_method_17_code 66 = .ok (.ishl, 1) := by decide +kernel
theorem d_Expander_number_67 : decode prog_3_method_17_code 67 = .ok (.ior, 1) := by decide +kernel
theorem d_Expander_number_68 : decode prog_3_method_17_code 68 = .ok (.istore_n 2, 1) := by decide +kernel
theorem d_Expander_number_69 : decode prog_3_method_17_code 69 = .ok (.aload_n 0, 1) := by decide +kernel
theorem d_Expander_number_70 : decode prog_3_method_17_code 70 = .ok (.dup, 1) := by decide +kernel
theorem d_Expander_number_71 : decode prog_3_method_17_code 71 = .ok (.getfield 58, 3) := by decide +kernel
theorem d_Expander_number_74 : decode prog_3_method_17_code 74 = .ok (.iconst 1, 1) := by decide +kernel
theorem d_Expander_number_75 : decode prog_3_method_17_code 75 = .ok (.iadd, 1) := by decide +kernel
theorem d_Expander_number_76 : decode prog_3_method_17_code 76 = .ok (.putfield 58, 3) := by decide +kernel
theorem d_Expander_number_79 : decode prog_3_method_17_code 79 = .ok (.iinc 3 1, 3) := by decide +kernel
theorem d_Expander_number_82 : decode prog_3_method_17_code 82 = .ok (.goto (-44), 3) := by decide +kernel
theorem d_Expander_number_32 : decode prog_3_method_17_code 32 = .ok (.iconst 0, 1) := by decide +kernel
theorem d_Expander_number_33 : decode prog_3_method_17_code 33 = .ok (.ireturn, 1) := by decide +kernel
theorem d_Expander_number_0 : decode prog_3_method_17_code 0 = .ok (.aload_n 0, 1) := by decide +kernel
theorem d_Expander_number_1 : decode prog_3_method_17_code 1 = .ok (.getfield 65, 3) := by decide +kernel
theorem d_Expander_number_4 : decode prog_3_method_17_code 4 = .ok (.ifCond .ne 21, 3) := by decide +kernel
theorem d_Expander_number_7 : decode prog_3_method_17_code 7 = .ok (.iload_n 1, 1) := by decide +kernel
theorem d_Expander_number_8 : decode prog_3_method_17_code 8 = .ok (.aload_n 0, 1) := by decide +kernel
theorem d_Expander_number_9 : decode prog_3_method_17_code 9 = .ok (.getfield 62, 3) := by decide +kernel
theorem k_259 : (Jvm.Cond.fieldLink "PackageBook$Expander" (62 : Nat) "PackageBook$Expander" "end" "I") ∈ uW := uW_of 259 (by decide +kernel) (by decide +kernel)
theorem d_Expander_number_12 : decode prog_3_method_17_code 12 = .ok (.aload_n 0, 1) := by decide +kernel
theorem d_Expander_number_13 : decode prog_3_method_17_code 13 = .ok (.getfield 58, 3) := by decide +kernel
theorem d_Expander_number_16 : decode prog_3_method_17_code 16 = .ok (.isub, 1) := by decide +kernel
theorem d_Expander_number_17 : decode prog_3_method_17_code 17 = .ok (.if_icmp .le 8, 3) := by decide +kernel
theorem d_Expander_number_20 : decode prog_3_method_17_code 20 = .ok (.aload_n 0, 1) := by decide +kernel
theorem d_Expander_number_21 : decode prog_3_method_17_code 21 = .ok (.iconst 1, 1) := by decide +kernel
theorem d_Expander_number_22 : decode prog_3_method_17_code 22 = .ok (.putfield 65, 3) := by decide +kernel
abbrev y_Expander_number : MethodName := ⟨"PackageBook$Expander", "number", "(I)I"⟩
abbrev i_Expander_number : pb_I := (y_Expander_number, prog_3_method_17_code, 4, (some Jvm.ClassFile.FieldType.int), [], { frames := 0, cells := 0, slots := 0, locals := 0 })
set_option maxRecDepth 100000 in
set_option maxHeartbeats 4000000 in
theorem g_Exp_number {l : Launch} (hl : l.stackTraces = false) (G : pb_G) (h : Nat) (ex : Nat) (et : Nat) (ea : Nat) (eb : Nat) (ec : Nat) (ed : Nat) (ef : Nat) (er : Nat) (at_ : Int32) (en : Int32) (fl : Int32) (N : Nat) (fr : Nat → Int32) (n : Int32) (A : Int → Int32) (a0 : 0 ≤ at_.toInt) (a1 : at_.toInt ≤ en.toInt) (a2 : en.toInt ≤ 8 * N) (a3 : N ≤ 100000) (a4 : 0 ≤ fl.toInt) (n0 : 0 ≤ n.toInt) (n1 : n.toInt ≤ 16) (hA : ∀ j : Int, 0 ≤ j → 8 * j < en.toInt → A j = gr fr j) (F_fr : sb_Fit fr) : Cn l G i_Expander_number [.ref h, .int n] [(h, .inr (5, [.ref ex, .ref et, .ref ea, .ref eb, .ref ec, .ref ed, .ref ef, .ref er, .int at_, .int en, .int fl])), (er, .inl (G.2.1, N, .inl fr))] (S := Int32 × Int32 × Int32) (fun rv_ u => rv_ = some (.int u.1) ∧ (0 ≤ u.1.toInt) ∧ (u.1.toInt < p2 n.toInt) ∧ (u.1.toInt ≤ 65535) ∧ (at_.toInt ≤ u.2.1.toInt) ∧ (u.2.1.toInt ≤ en.toInt) ∧ (0 ≤ u.2.2.toInt) ∧ (fl.toInt ≠ 0 → u.2.2.toInt ≠ 0) ∧ (nu_w A en.toInt fl.toInt at_.toInt n.toInt = oc_ u.2.2.toInt u.1.toInt u.2.1.toInt) ∧ (u.2.2.toInt = 0 → u.2.1.toInt = at_.toInt + n.toInt)) (fun u => [(h, .inr (5, [.ref ex, .ref et, .ref ea, .ref eb, .ref ec, .ref ed, .ref ef, .ref er, .int u.2.1, .int en, .int u.2.2])), (er, .inl (G.2.1, N, .inl fr))]) := by
  refine Cn.of hl (by decide +kernel) rfl (Nat.le_of_ble_eq_true rfl) (fun M hQ => ?_)
  refine pb_eq (pc' := 0) (lo' := [(0, .ref h), (1, .int n)]) (rest' := []) (ws' := [(h, .inr (5, [.ref ex, .ref et, .ref ea, .ref eb, .ref ec, .ref ed, .ref ef, .ref er, .int at_, .int en, .int fl])), (er, .inl (G.2.1, N, .inl fr))]) ?_
  have zl0 : (0 : Int32).toInt = 0 := by decide
  have zl1 : (1 : Int32).toInt = 1 := by decide
  have hJ25_1 : ∀ (f3 : Int32), (0 ≤ f3.toInt) → (fl.toInt ≠ 0 → f3.toInt ≠ 0) → (f3.toInt = 0 → n.toInt ≤ en.toInt - at_.toInt) → (fl.toInt = 0 ∧ n.toInt ≤ en.toInt - at_.toInt ∧ f3.toInt = 0 ∨ fl.toInt = 0 ∧ en.toInt - at_.toInt < n.toInt ∧ f3.toInt = 1 ∨ fl.toInt ≠ 0 ∧ f3.toInt = fl.toInt) → pb_P l G M i_Expander_number 25 [(0, .ref h), (1, .int n)] [] [(h, .inr (5, [.ref ex, .ref et, .ref ea, .ref eb, .ref ec, .ref ed, .ref ef, .ref er, .int at_, .int en, .int f3])), (er, .inl (G.2.1, N, .inl fr))] 0 0 := by
    intro f3 y0 y1 y2 y3
    refine pb_aload_n (pc := 25) d_Expander_number_25 0 rfl rfl ?_
    refine pb_get (pc := 26) d_Expander_number_26 0 10 rfl rfl (by decide) in_Expander k_260 rfl ?_
    refine pb_if_eq (pc := 29) (tgt := 34) d_Expander_number_29 (by decide) (fun w2 => ?_) (fun w2 => ?_)
    · have tw2 : f3.toInt = 0 := (ti_eq rfl (by decide)).mp w2
      refine pb_iconst (pc := 34) (v := 0) d_Expander_number_34 (by decide) ?_
      refine pb_istore_n (pc := 35) (lo' := [(2, .int 0), (0, .ref h), (1, .int n)]) d_Expander_number_35 rfl (by decide) rfl ?_
      refine pb_iconst (pc := 36) (v := 0) d_Expander_number_36 (by decide) ?_
      refine pb_istore_n (pc := 37) (lo' := [(3, .int 0), (2, .int 0), (0, .ref h), (1, .int n)]) d_Expander_number_37 rfl (by decide) rfl ?_
      have hL38_3 : ∀ (N9 : Nat) (k : Int32) (v : Int32) (a3_ : Int32) (f3_ : Int32), (0 ≤ k.toInt) → (k.toInt ≤ n.toInt) → (a3_.toInt = at_.toInt + k.toInt) → (0 ≤ f3_.toInt) → (fl.toInt ≠ 0 → f3_.toInt ≠ 0) → (n.toInt ≤ en.toInt - at_.toInt) → (0 ≤ v.toInt) → (v.toInt < p2 k.toInt) → (f3_.toInt = 0) → (fl.toInt = 0) → (v = nu_v A at_.toInt k.toInt.toNat) → ((n.toInt - k.toInt).toNat) < N9 → pb_P l G M i_Expander_number 38 [(3, .int k), (2, .int v), (0, .ref h), (1, .int n)] [] [(h, .inr (5, [.ref ex, .ref et, .ref ea, .ref eb, .ref ec, .ref ed, .ref ef, .ref er, .int a3_, .int en, .int f3_])), (er, .inl (G.2.1, N, .inl fr))] 0 0 := by
        intro N9
        induction N9 with
        | zero => intro k v a3_ f3_ hk hk2 ha hf hf2 hn hv hv2 hz hfl hV hm9; exact absurd hm9 (Nat.not_lt_zero _)
        | succ N9 ih38 =>
          intro k v a3_ f3_ hk hk2 ha hf hf2 hn hv hv2 hz hfl hV hm9
          refine pb_iload_n (pc := 38) d_Expander_number_38 0 rfl rfl ?_
          refine pb_iload_n (pc := 39) d_Expander_number_39 3 rfl rfl ?_
          refine pb_icmp_ge (pc := 40) (tgt := 85) d_Expander_number_40 (by decide) (fun w4 => ?_) (fun w4 => ?_)
          · have tw4 : n.toInt ≤ k.toInt := (ti_le rfl rfl).mp w4
            refine pb_iload_n (pc := 85) d_Expander_number_85 1 rfl rfl ?_
            exact pb_iret (pc := 86) hQ d_Expander_number_86 rfl rfl (v, a3_, f3_) ⟨rfl, (by (try dsimp only); first | done | (with_reducible assumption) | omega (splitDisjunctions := false) | assumption | (have y90 := y2 tw2; clear y1 y2 hf2 hm9; first | omega (splitDisjunctions := false) | omega) | omega | decide), (show v.toInt < p2 n.toInt from (by rw [show n.toInt = k.toInt by omega]; exact hv2)), (show v.toInt ≤ 65535 from (by first | omega | (have q9 := p2_le (k := k.toInt) (by omega); (try dsimp only); omega))), (by (try dsimp only); first | done | (with_reducible assumption) | omega (splitDisjunctions := false) | assumption | (have y90 := y2 tw2; clear y1 y2 hf2 hm9; first | omega (splitDisjunctions := false) | omega) | omega | decide), (by (try dsimp only); first | done | (with_reducible assumption) | omega (splitDisjunctions := false) | assumption | (have y90 := y2 tw2; clear y1 y2 hf2 hm9; first | omega (splitDisjunctions := false) | omega) | omega | decide), (by (try dsimp only); first | done | (with_reducible assumption) | omega (splitDisjunctions := false) | assumption | (have y90 := y2 tw2; clear y1 y2 hf2 hm9; first | omega (splitDisjunctions := false) | omega) | omega | decide), (by (try dsimp only); first | done | (with_reducible assumption) | omega (splitDisjunctions := false) | assumption | exact fun q90 => (by have y90 := y1 q90; have y91 := y2 tw2; have y92 := hf2 q90; clear y1 y2 hf2 hm9; first | omega (splitDisjunctions := false) | omega) | omega | decide), (show nu_w A en.toInt fl.toInt at_.toInt n.toInt = oc_ f3_.toInt v.toInt a3_.toInt from (nu_ok hfl hz (by omega) (by rw [show n.toInt.toNat = k.toInt.toNat by (exact omg_da822fc3fa hk2 tw4), ← hV]) (by omega))), (by (try dsimp only); first | done | (with_reducible assumption) | omega (splitDisjunctions := false) | assumption | exact fun q90 => (by have y90 := y2 tw2; clear y1 y2 hf2 hm9; first | omega (splitDisjunctions := false) | omega) | omega | decide)⟩ [0, 1] (by decide) rfl rfl (by decide) (by decide)
          · have tw4 : ¬ n.toInt ≤ k.toInt := fun z9 => w4 ((ti_le rfl rfl).mpr z9)
            refine pb_iload_n (pc := 43) d_Expander_number_43 1 rfl rfl ?_
            refine pb_aload_n (pc := 44) d_Expander_number_44 2 rfl rfl ?_
            refine pb_get (pc := 45) d_Expander_number_45 0 7 rfl rfl (by decide) in_Expander k_257 rfl ?_
            refine pb_aload_n (pc := 48) d_Expander_number_48 2 rfl rfl ?_
            refine pb_get (pc := 49) d_Expander_number_49 0 8 rfl rfl (by decide) in_Expander k_258 rfl ?_
            refine pb_iconst (pc := 52) (v := 3) d_Expander_number_52 (by decide) ?_
            refine pb_ishr (pc := 53) d_Expander_number_53 ?_
            refine pb_topi (fun i5 ei5 => ?_)
            have ti5 : i5.toInt = a3_.toInt / 8 := ti_shr ei5 rfl 3 (by decide) (by decide)
            refine pb_bald (pc := 54) d_Expander_number_54 1 rfl (vp_in_iff.mpr (by omega)) ?_
            refine pb_topi (fun i6 ei6 => ?_)
            have xi6 : i6 = gr fr ((at_.toInt + k.toInt) / 8) := gr_ld ei6 (by (exact omg_1337aeffc0 ha ti5))
            have yi6 : i6.toInt = gx fr ((at_.toInt + k.toInt) / 8) := congrArg Int32.toInt xi6
            refine pb_aload_n (pc := 55) d_Expander_number_55 2 rfl rfl ?_
            refine pb_get (pc := 56) d_Expander_number_56 0 8 rfl rfl (by decide) in_Expander k_258 rfl ?_
            refine pb_bipush (pc := 59) (v := 7) d_Expander_number_59 (by decide) ?_
            refine pb_iand (pc := 61) d_Expander_number_61 ?_
            refine pb_topi (fun i7 ei7 => ?_)
            have ti7 : i7.toInt = a3_.toInt % 8 := ti_and7 ei7 (by omega)
            refine pb_ishr (pc := 62) d_Expander_number_62 ?_
            refine pb_topi (fun i8 ei8 => ?_)
            refine pb_iconst (pc := 63) (v := 1) d_Expander_number_63 (by decide) ?_
            refine pb_iand (pc := 64) d_Expander_number_64 ?_
            refine pb_topi (fun i9 ei9 => ?_)
            have ti9 : 0 ≤ i9.toInt ∧ i9.toInt ≤ 1 := ti_and 1 ei9 (by decide) (by decide)
            refine pb_iload_n (pc := 65) d_Expander_number_65 0 rfl rfl ?_
            refine pb_ishl (pc := 66) d_Expander_number_66 ?_
            refine pb_topi (fun i10 ei10 => ?_)
            have g67 := num_bit (k := k) ei10 (by omega) hk (by omega)
            refine pb_ior (pc := 67) d_Expander_number_67 ?_
            refine pb_topi (fun i11 ei11 => ?_)
            have g68 := num_or (k := k.toInt) (m := k.toInt + 1) ei11 hv hv2 g67 hk rfl
            refine pb_istore_n (pc := 68) (lo' := [(2, .int i11), (3, .int k), (0, .ref h), (1, .int n)]) d_Expander_number_68 rfl (by decide) rfl ?_
            refine pb_aload_n (pc := 69) d_Expander_number_69 2 rfl rfl ?_
            refine pb_dup (pc := 70) d_Expander_number_70 rfl ?_
            refine pb_get (pc := 71) d_Expander_number_71 0 8 rfl rfl (by decide) in_Expander k_258 rfl ?_
            refine pb_iconst (pc := 74) (v := 1) d_Expander_number_74 (by decide) ?_
            refine pb_iadd (pc := 75) d_Expander_number_75 ?_
            refine pb_topi (fun i12 ei12 => ?_)
            try have ti12 : i12.toInt = a3_.toInt + 1 := t2_add ei12 rfl (by decide) (by omega)
            refine pb_put (pc := 76) (ty := .int) (ws' := [(h, .inr (5, [.ref ex, .ref et, .ref ea, .ref eb, .ref ec, .ref ed, .ref ef, .ref er, .int i12, .int en, .int f3_])), (er, .inl (G.2.1, N, .inl fr))]) d_Expander_number_76 0 8 t_Expander t_Expander_ok n_Expander rfl rfl (by decide) in_Expander k_258 rfl (by decide +kernel) rfl rfl (Nat.le_of_ble_eq_true rfl) rfl ?_
            refine pb_iincN (pc := 79) (c := 1) d_Expander_number_79 1 rfl (by decide) (by decide) (fun i13 ei13 => ?_)
            have ti13 : i13.toInt = k.toInt + 1 := t2_add ei13 rfl (by decide) (by omega)
            refine pb_eq (pc' := 82) (lo' := [(3, .int i13), (2, .int i11), (0, .ref h), (1, .int n)]) (rest' := []) (ws' := [(h, .inr (5, [.ref ex, .ref et, .ref ea, .ref eb, .ref ec, .ref ed, .ref ef, .ref er, .int i12, .int en, .int f3_])), (er, .inl (G.2.1, N, .inl fr))]) ?_
            refine pb_goto (pc := 82) (tgt := 38) d_Expander_number_82 (by decide) ?_
            exact ih38 i13 i11 i12 f3_ (by first | (with_reducible assumption) | omega (splitDisjunctions := false) | assumption | (have y90 := y2 tw2; clear y1 y2 hf2 hm9; first | omega (splitDisjunctions := false) | omega) | omega | decide) (by first | (with_reducible assumption) | omega (splitDisjunctions := false) | assumption | (have y90 := y2 tw2; clear y1 y2 hf2 hm9; first | omega (splitDisjunctions := false) | omega) | omega | decide) (by first | (with_reducible assumption) | omega (splitDisjunctions := false) | assumption | (have y90 := y2 tw2; clear y1 y2 hf2 hm9; first | omega (splitDisjunctions := false) | (exact omg_f49d898d2a ha ti12 ti13)) | omega | decide) (by first | (with_reducible assumption) | omega (splitDisjunctions := false) | assumption | (have y90 := y2 tw2; clear y1 y2 hf2 hm9; first | omega (splitDisjunctions := false) | omega) | omega | decide) (by first | (with_reducible assumption) | omega (splitDisjunctions := false) | assumption | exact fun q90 => (by have y90 := y1 q90; have y91 := y2 tw2; have y92 := hf2 q90; clear y1 y2 hf2 hm9; first | omega (splitDisjunctions := false) | omega) | omega | decide) (by first | (with_reducible assumption) | omega (splitDisjunctions := false) | assumption | (have y90 := y2 tw2; clear y1 y2 hf2 hm9; first | omega (splitDisjunctions := false) | omega) | omega | decide) g68.1 (by rw [show i13.toInt = k.toInt + 1 by omega]; exact g68.2) (by first | (with_reducible assumption) | omega (splitDisjunctions := false) | assumption | (have y90 := y2 tw2; clear y1 y2 hf2 hm9; first | omega (splitDisjunctions := false) | omega) | omega | decide) (by first | (with_reducible assumption) | omega (splitDisjunctions := false) | assumption | (have y90 := y2 tw2; clear y1 y2 hf2 hm9; first | omega (splitDisjunctions := false) | omega) | omega | decide) (by refine nu_st hV hk (by omega) ?_ rfl (by assumption) (by assumption); exact bq_E (by assumption) (by assumption) (by assumption) (by (exact omg_cf7b5f4de2 ha ti7)) (hA _ (by (exact omg_bf9cd5a31e a0 hk)) (by omega))) (by first | (have y90 := y2 tw2; clear y1 y2 hf2; (exact omg_7c8a06b1f5 hm9 tw4 ti13)) | omega)
      exact hL38_3 _ 0 0 at_ f3 (by first | (with_reducible assumption) | omega (splitDisjunctions := false) | assumption | (have y90 := y2 tw2; clear y1 y2; first | omega (splitDisjunctions := false) | omega) | omega | decide) (by first | (with_reducible assumption) | omega (splitDisjunctions := false) | assumption | (have y90 := y2 tw2; clear y1 y2; first | omega (splitDisjunctions := false) | omega) | omega | decide) (by first | (with_reducible assumption) | omega (splitDisjunctions := false) | assumption | (have y90 := y2 tw2; clear y1 y2; first | omega (splitDisjunctions := false) | omega) | omega | decide) (by first | (with_reducible assumption) | omega (splitDisjunctions := false) | assumption | (have y90 := y2 tw2; clear y1 y2; first | omega (splitDisjunctions := false) | omega) | omega | decide) (by first | (with_reducible assumption) | omega (splitDisjunctions := false) | assumption | exact fun q90 => (by have y90 := y1 q90; have y91 := y2 tw2; clear y1 y2; first | omega (splitDisjunctions := false) | omega) | omega | decide) (by first | (with_reducible assumption) | omega (splitDisjunctions := false) | assumption | (have y90 := y2 tw2; clear y1 y2; first | omega (splitDisjunctions := false) | omega) | omega | decide) (by first | (with_reducible assumption) | omega (splitDisjunctions := false) | assumption | (have y90 := y2 tw2; clear y1 y2; first | omega (splitDisjunctions := false) | omega) | omega | decide) (by rw [zl0, p2_0]; omega) (by first | (with_reducible assumption) | omega (splitDisjunctions := false) | assumption | (have y90 := y2 tw2; clear y1 y2; first | omega (splitDisjunctions := false) | omega) | omega | decide) (by first | (with_reducible assumption) | omega (splitDisjunctions := false) | assumption | (have y90 := y2 tw2; clear y1 y2; first | omega (splitDisjunctions := false) | omega) | omega | decide) (by rw [zl0]; rfl) (Nat.lt_succ_self _)
    · have tw2 : ¬ f3.toInt = 0 := fun z9 => w2 ((ti_eq rfl (by decide)).mpr z9)
      refine pb_iconst (pc := 32) (v := 0) d_Expander_number_32 (by decide) ?_
      exact pb_iret (pc := 33) hQ d_Expander_number_33 rfl rfl (0, at_, f3) ⟨rfl, (by (try dsimp only); first | done | (with_reducible assumption) | omega (splitDisjunctions := false) | assumption | (clear y1 y2; first | omega (splitDisjunctions := false) | omega) | omega | decide), (show (0 : Int32).toInt < p2 n.toInt from (by have := p2_pos n.toInt; (try dsimp only); omega)), (show (0 : Int32).toInt ≤ 65535 from (by (try dsimp only); omega)), (by (try dsimp only); first | done | (with_reducible assumption) | omega (splitDisjunctions := false) | assumption | (clear y1 y2; first | omega (splitDisjunctions := false) | omega) | omega | decide), (by (try dsimp only); first | done | (with_reducible assumption) | omega (splitDisjunctions := false) | assumption | (clear y1 y2; first | omega (splitDisjunctions := false) | omega) | omega | decide), (by (try dsimp only); first | done | (with_reducible assumption) | omega (splitDisjunctions := false) | assumption | (clear y1 y2; first | omega (splitDisjunctions := false) | omega) | omega | decide), (by (try dsimp only); first | done | (with_reducible assumption) | omega (splitDisjunctions := false) | assumption | exact fun q90 => (by have y90 := y1 q90; clear y1 y2; first | omega (splitDisjunctions := false) | omega) | omega | decide), (show nu_w A en.toInt fl.toInt at_.toInt n.toInt = oc_ f3.toInt (0 : Int32).toInt at_.toInt from (by rcases y3 with ⟨y4, y5, y6⟩ | ⟨y4, y5, y6⟩ | ⟨y4, y6⟩; exact absurd y6 (by omega); exact nu_no y4 y6 (by omega); exact nu_wr y4 y6)), (by (try dsimp only); first | done | (with_reducible assumption) | omega (splitDisjunctions := false) | assumption | exact fun q90 => (by have y90 := y2 q90; clear y1 y2; first | omega (splitDisjunctions := false) | omega) | omega | decide)⟩ [0, 1] (by decide) rfl rfl (by decide) (by decide)
  refine pb_aload_n (pc := 0) d_Expander_number_0 0 rfl rfl ?_
  refine pb_get (pc := 1) d_Expander_number_1 0 10 rfl rfl (by decide) in_Expander k_260 rfl ?_
  refine pb_if_ne (pc := 4) (tgt := 25) d_Expander_number_4 (by decide) (fun w14 => ?_) (fun w14 => ?_)
  · have tw14 : ¬ fl.toInt = 0 := fun z9 => w14 ((ti_eq rfl (by decide)).mpr z9)
    exact hJ25_1 fl (by first | (with_reducible assumption) | omega (splitDisjunctions := false) | assumption | omega | decide) (by first | (with_reducible assumption) | omega (splitDisjunctions := false) | assumption | omega | decide) (by first | (with_reducible assumption) | omega (splitDisjunctions := false) | assumption | omega | decide) (by first | (with_reducible assumption) | omega (splitDisjunctions := false) | assumption | omega | decide)
  · have tw14 : fl.toInt = 0 := (ti_eq rfl (by decide)).mp w14
    refine pb_iload_n (pc := 7) d_Expander_number_7 1 rfl rfl ?_
    refine pb_aload_n (pc := 8) d_Expander_number_8 0 rfl rfl ?_
    refine pb_get (pc := 9) d_Expander_number_9 0 9 rfl rfl (by decide) in_Expander k_259 rfl ?_
    refine pb_aload_n (pc := 12) d_Expander_number_12 0 rfl rfl ?_
    refine pb_get (pc := 13) d_Expander_number_13 0 8 rfl rfl (by decide) in_Expander k_258 rfl ?_
    refine pb_isub (pc := 16) d_Expander_number_16 ?_
    refine pb_topi (fun i15 ei15 => ?_)
    try have ti15 : i15.toInt = en.toInt - at_.toInt := t2_sub ei15 rfl rfl (by omega)
    refine pb_icmp_le (pc := 17) (tgt := 25) d_Expander_number_17 (by decide) (fun w16 => ?_) (fun w16 => ?_)
    · have tw16 : n.toInt ≤ i15.toInt := (ti_le rfl rfl).mp w16
      exact hJ25_1 fl (by first | (with_reducible assumption) | omega (splitDisjunctions := false) | assumption | omega | decide) (by first | (with_reducible assumption) | omega (splitDisjunctions := false) | assumption | omega | decide) (by first | (with_reducible assumption) | omega (splitDisjunctions := false) | assumption | omega | decide) (by first | (with_reducible assumption) | omega (splitDisjunctions := false) | assumption | omega | decide)
    · have tw16 : ¬ n.toInt ≤ i15.toInt := fun z9 => w16 ((ti_le rfl rfl).mpr z9)
      refine pb_aload_n (pc := 20) d_Expander_number_20 0 rfl rfl ?_
      refine pb_iconst (pc := 21) (v := 1) d_Expander_number_21 (by decide) ?_
      refine pb_put (pc := 22) (ty := .int) (ws' := [(h, .inr (5, [.ref ex, .ref et, .ref ea, .ref eb, .ref ec, .ref ed, .ref ef, .ref er, .int at_, .int en, .int 1])), (er, .inl (G.2.1, N, .inl fr))]) d_Expander_number_22 0 10 t_Expander t_Expander_ok n_Expander rfl rfl (by decide) in_Expander k_260 rfl (by decide +kernel) rfl rfl (Nat.le_of_ble_eq_true rfl) rfl ?_
      exact hJ25_1 1 (by first | (with_reducible assumption) | omega (splitDisjunctions := false) | assumption | omega | decide) (by first | (with_reducible assumption) | omega (splitDisjunctions := false) | assumption | omega | decide) (by first | (with_reducible assumption) | omega (splitDisjunctions := false) | assumption | omega | decide) (by first | (with_reducible assumption) | omega (splitDisjunctions := false) | assumption | omega | decide)

theorem d_Expander_symbol_0 : decode prog_3_method_16_code 0 = .ok (.iconst 0, 1) := by decide +kernel
theorem d_Expander_symbol_1 : decode prog_3_method_16_code 1 = .ok (.istore_n 2, 1) := by decide +kernel
theorem d_Expander_symbol_2 : decode prog_3_method_16_code 2 = .ok (.iconst 0, 1) := by decide +kernel
theorem d_Expander_symbol_3 : decode prog_3_method_16_code 3 = .ok (.istore_n 3, 1) := by decide +kernel
theorem d_Expander_symbol_4 : decode prog_3_method_16_code 4 = .ok (.iconst 0, 1) := by decide +kernel
theorem d_Expander_symbol_5 : decode prog_3_method_16_code 5 = .ok (.istore 4, 2) := by decide +kernel
theorem d_Expander_symbol_7 : decode prog_3_method_16_code 7 = .ok (.iconst 1, 1) := by decide +kernel
theorem d_Expander_symbol_8 : decode prog_3_method_16_code 8 = .ok (.istore 5, 2) := by decide +kernel
theorem d_Expander_symbol_10 : decode prog_3_method_16_code 10 = .ok (.iload 5, 2) := by decide +kernel
theorem d_Expander_symbol_12 : decode prog_3_method_16_code 12 = .ok (.bipush 15, 2) := by decide +kernel
theorem d_Expander_symbol_14 : decode prog_3_method_16_code 14 = .ok (.if_icmp .gt 124, 3) := by decide +kernel
theorem d_Expander_symbol_138 : decode prog_3_method_16_code 138 = .ok (.aload_n 0, 1) := by decide +kernel
theorem d_Expander_symbol_139 : decode prog_3_method_16_code 139 = .ok (.aload_n 0, 1) := by decide +kernel
theorem d_Expander_symbol_140 : decode prog_3_method_16_code 140 = .ok (.getfield 65, 3) := by decide +kernel
theorem d_Expander_symbol_143 : decode prog_3_method_16_code 143 = .ok (.ifCond .ne 7, 3) := by decide +kernel
theorem d_Expander_symbol_150 : decode prog_3_method_16_code 150 = .ok (.aload_n 0, 1) := by decide +kernel
theorem d_Expander_symbol_151 : decode prog_3_method_16_code 151 = .ok (.getfield 65, 3) := by decide +kernel
theorem d_Expander_symbol_154 : decode prog_3_method_16_code 154 = .ok (.putfield 65, 3) := by decide +kernel
theorem d_Expander_symbol_157 : decode prog_3_method_16_code 157 = .ok (.iconst 0, 1) := by decide +kernel
theorem d_Expander_symbol_158 : decode prog_3_method_16_code 158 = .ok (.ireturn, 1) := by decide +kernel
theorem d_Expander_symbol_146 : decode prog_3_method_16_code 146 = .ok (.iconst 5, 1) := by decide +kernel
theorem d_Expander_symbol_147 : decode prog_3_method_16_code 147 = .ok (.goto 7, 3) := by decide +kernel
theorem d_Expander_symbol_17 : decode prog_3_method_16_code 17 = .ok (.iload 4, 2) := by decide +kernel
theorem d_Expander_symbol_19 : decode prog_3_method_16_code 19 = .ok (.aload_n 1, 1) := by decide +kernel
theorem d_Expander_symbol_20 : decode prog_3_method_16_code 20 = .ok (.getfield 105, 3) := by decide +kernel
theorem k_231 : (Jvm.Cond.fieldLinkNest "PackageBook$Expander" (105 : Nat) "PackageBook$Code" "size" "I" "PackageBook") ∈ uN := uN_of 231 (by decide +kernel) (by decide +kernel)
theorem d_Expander_symbol_23 : decode prog_3_method_16_code 23 = .ok (.if_icmp .ge 115, 3) := by decide +kernel
theorem d_Expander_symbol_26 : decode prog_3_method_16_code 26 = .ok (.aload_n 0, 1) := by decide +kernel
theorem d_Expander_symbol_27 : decode prog_3_method_16_code 27 = .ok (.getfield 65, 3) := by decide +kernel
theorem d_Expander_symbol_30 : decode prog_3_method_16_code 30 = .ok (.ifCond .ne 108, 3) := by decide +kernel
theorem d_Expander_symbol_33 : decode prog_3_method_16_code 33 = .ok (.aload_n 0, 1) := by decide +kernel
theorem d_Expander_symbol_34 : decode prog_3_method_16_code 34 = .ok (.getfield 58, 3) := by decide +kernel
theorem d_Expander_symbol_37 : decode prog_3_method_16_code 37 = .ok (.aload_n 0, 1) := by decide +kernel
theorem d_Expander_symbol_38 : decode prog_3_method_16_code 38 = .ok (.getfield 62, 3) := by decide +kernel
theorem d_Expander_symbol_41 : decode prog_3_method_16_code 41 = .ok (.if_icmp .lt 10, 3) := by decide +kernel
theorem d_Expander_symbol_51 : decode prog_3_method_16_code 51 = .ok (.iconst 2, 1) := by decide +kernel
theorem d_Expander_symbol_52 : decode prog_3_method_16_code 52 = .ok (.iload_n 2, 1) := by decide +kernel
theorem d_Expander_symbol_53 : decode prog_3_method_16_code 53 = .ok (.imul, 1) := by decide +kernel
theorem d_Expander_symbol_54 : decode prog_3_method_16_code 54 = .ok (.aload_n 0, 1) := by decide +kernel
theorem d_Expander_symbol_55 : decode prog_3_method_16_code 55 = .ok (.getfield 46, 3) := by decide +kernel
theorem d_Expander_symbol_58 : decode prog_3_method_16_code 58 = .ok (.aload_n 0, 1) := by decide +kernel
theorem d_Expander_symbol_59 : decode prog_3_method_16_code 59 = .ok (.getfield 58, 3) := by decide +kernel
theorem d_Expander_symbol_62 : decode prog_3_method_16_code 62 = .ok (.iconst 3, 1) := by decide +kernel
theorem d_Expander_symbol_63 : decode prog_3_method_16_code 63 = .ok (.ishr, 1) := by decide +kernel
theorem d_Expander_symbol_64 : decode prog_3_method_16_code 64 = .ok (.baload, 1) := by decide +kernel
theorem d_Expander_symbol_65 : decode prog_3_method_16_code 65 = .ok (.aload_n 0, 1) := by decide +kernel
theorem d_Expander_symbol_66 : decode prog_3_method_16_code 66 = .ok (.getfield 58, 3) := by decide +kernel
theorem d_Expander_symbol_69 : decode prog_3_method_16_code 69 = .ok (.bipush 7, 2) := by decide +kernel
theorem d_Expander_symbol_71 : decode prog_3_method_16_code 71 = .ok (.iand, 1) := by decide +kernel
theorem d_Expander_symbol_72 : decode prog_3_method_16_code 72 = .ok (.ishr, 1) := by decide +kernel
theorem d_Expander_symbol_73 : decode prog_3_method_16_code 73 = .ok (.iconst 1, 1) := by decide +kernel
theorem d_Expander_symbol_74 : decode prog_3_method_16_code 74 = .ok (.iand, 1) := by decide +kernel
theorem d_Expander_symbol_75 : decode prog_3_method_16_code 75 = .ok (.iadd, 1) := by decide +kernel
theorem d_Expander_symbol_76 : decode prog_3_method_16_code 76 = .ok (.istore_n 2, 1) := by decide +kernel
theorem d_Expander_symbol_77 : decode prog_3_method_16_code 77 = .ok (.aload_n 0, 1) := by decide +kernel
theorem d_Expander_symbol_78 : decode prog_3_method_16_code 78 = .ok (.dup, 1) := by decide +kernel
theorem d_Expander_symbol_79 : decode prog_3_method_16_code 79 = .ok (.getfield 58, 3) := by decide +kernel
theorem d_Expander_symbol_82 : decode prog_3_method_16_code 82 = .ok (.iconst 1, 1) := by decide +kernel
theorem d_Expander_symbol_83 : decode prog_3_method_16_code 83 = .ok (.iadd, 1) := by decide +kernel
theorem d_Expander_symbol_84 : decode prog_3_method_16_code 84 = .ok (.putfield 58, 3) := by decide +kernel
theorem d_Expander_symbol_87 : decode prog_3_method_16_code 87 = .ok (.iconst 2, 1) := by decide +kernel
theorem d_Expander_symbol_88 : decode prog_3_method_16_code 88 = .ok (.iload_n 3, 1) := by decide +kernel
theorem d_Expander_symbol_89 : decode prog_3_method_16_code 89 = .ok (.imul, 1) := by decide +kernel
theorem d_Expander_symbol_90 : decode prog_3_method_16_code 90 = .ok (.istore_n 3, 1) := by decide +kernel
theorem d_Expander_symbol_91 : decode prog_3_method_16_code 91 = .ok (.aload_n 1, 1) := by decide +kernel
theorem d_Expander_symbol_92 : decode prog_3_method_16_code 92 = .ok (.getfield 136, 3) := by decide +kernel
theorem k_227 : (Jvm.Cond.fieldLinkNest "PackageBook$Expander" (136 : Nat) "PackageBook$Code" "counts" "[I" "PackageBook") ∈ uN := uN_of 227 (by decide +kernel) (by decide +kernel)
theorem d_Expander_symbol_95 : decode prog_3_method_16_code 95 = .ok (.iload 5, 2) := by decide +kernel
theorem d_Expander_symbol_97 : decode prog_3_method_16_code 97 = .ok (.iaload, 1) := by decide +kernel
theorem d_Expander_symbol_98 : decode prog_3_method_16_code 98 = .ok (.istore 6, 2) := by decide +kernel
theorem d_Expander_symbol_100 : decode prog_3_method_16_code 100 = .ok (.iload_n 2, 1) := by decide +kernel
theorem d_Expander_symbol_101 : decode prog_3_method_16_code 101 = .ok (.iload_n 3, 1) := by decide +kernel
theorem d_Expander_symbol_102 : decode prog_3_method_16_code 102 = .ok (.isub, 1) := by decide +kernel
theorem d_Expander_symbol_103 : decode prog_3_method_16_code 103 = .ok (.iload 6, 2) := by decide +kernel
theorem d_Expander_symbol_105 : decode prog_3_method_16_code 105 = .ok (.if_icmp .ge 15, 3) := by decide +kernel
theorem d_Expander_symbol_120 : decode prog_3_method_16_code 120 = .ok (.iload_n 3, 1) := by decide +kernel
theorem d_Expander_symbol_121 : decode prog_3_method_16_code 121 = .ok (.iload 6, 2) := by decide +kernel
theorem d_Expander_symbol_123 : decode prog_3_method_16_code 123 = .ok (.iadd, 1) := by decide +kernel
theorem d_Expander_symbol_124 : decode prog_3_method_16_code 124 = .ok (.istore_n 3, 1) := by decide +kernel
theorem d_Expander_symbol_125 : decode prog_3_method_16_code 125 = .ok (.iload 4, 2) := by decide +kernel
theorem d_Expander_symbol_127 : decode prog_3_method_16_code 127 = .ok (.iload 6, 2) := by decide +kernel
theorem d_Expander_symbol_129 : decode prog_3_method_16_code 129 = .ok (.iadd, 1) := by decide +kernel
theorem d_Expander_symbol_130 : decode prog_3_method_16_code 130 = .ok (.istore 4, 2) := by decide +kernel
theorem d_Expander_symbol_132 : decode prog_3_method_16_code 132 = .ok (.iinc 5 1, 3) := by decide +kernel
theorem d_Expander_symbol_135 : decode prog_3_method_16_code 135 = .ok (.goto (-125), 3) := by decide +kernel
theorem d_Expander_symbol_108 : decode prog_3_method_16_code 108 = .ok (.aload_n 1, 1) := by decide +kernel
theorem d_Expander_symbol_109 : decode prog_3_method_16_code 109 = .ok (.getfield 139, 3) := by decide +kernel
theorem k_229 : (Jvm.Cond.fieldLinkNest "PackageBook$Expander" (139 : Nat) "PackageBook$Code" "symbols" "[I" "PackageBook") ∈ uN := uN_of 229 (by decide +kernel) (by decide +kernel)
theorem d_Expander_symbol_112 : decode prog_3_method_16_code 112 = .ok (.iload 4, 2) := by decide +kernel
theorem d_Expander_symbol_114 : decode prog_3_method_16_code 114 = .ok (.iload_n 2, 1) := by decide +kernel
theorem d_Expander_symbol_115 : decode prog_3_method_16_code 115 = .ok (.iadd, 1) := by decide +kernel
theorem d_Expander_symbol_116 : decode prog_3_method_16_code 116 = .ok (.iload_n 3, 1) := by decide +kernel
theorem d_Expander_symbol_117 : decode prog_3_method_16_code 117 = .ok (.isub, 1) := by decide +kernel
theorem d_Expander_symbol_118 : decode prog_3_method_16_code 118 = .ok (.iaload, 1) := by decide +kernel
theorem d_Expander_symbol_119 : decode prog_3_method_16_code 119 = .ok (.ireturn, 1) := by decide +kernel
theorem d_Expander_symbol_44 : decode prog_3_method_16_code 44 = .ok (.aload_n 0, 1) := by decide +kernel
theorem d_Expander_symbol_45 : decode prog_3_method_16_code 45 = .ok (.iconst 1, 1) := by decide +kernel
theorem d_Expander_symbol_46 : decode prog_3_method_16_code 46 = .ok (.putfield 65, 3) := by decide +kernel
theorem d_Expander_symbol_49 : decode prog_3_method_16_code 49 = .ok (.iconst 0, 1) := by decide +kernel
theorem d_Expander_symbol_50 : decode prog_3_method_16_code 50 = .ok (.ireturn, 1) := by decide +kernel
abbrev y_Expander_symbol : MethodName := ⟨"PackageBook$Expander", "symbol", "(LPackageBook$Code;)I"⟩
abbrev i_Expander_symbol : pb_I := (y_Expander_symbol, prog_3_method_16_code, 7, (some Jvm.ClassFile.FieldType.int), [], { frames := 0, cells := 0, slots := 0, locals := 0 })
set_option maxRecDepth 100000 in
set_option maxHeartbeats 4000000 in
theorem g_Exp_symbol {l : Launch} (hl : l.stackTraces = false) (G : pb_G) (h : Nat) (ex : Nat) (et : Nat) (ea : Nat) (eb : Nat) (ec : Nat) (ed : Nat) (ef : Nat) (er : Nat) (at_ : Int32) (en : Int32) (fl : Int32) (N : Nat) (fr : Nat → Int32) (kh : Nat) (kc : Nat) (ky : Nat) (Ny : Nat) (ks : Int32) (kfc : Nat → Int32) (kfy : Nat → Int32) (B : Int) (L : Int → Int) (nL : Int) (A : Int → Int32) (a0 : 0 ≤ at_.toInt) (a1 : at_.toInt ≤ en.toInt) (a2 : en.toInt ≤ 8 * N) (a3 : N ≤ 100000) (a4 : 0 ≤ fl.toInt) (hco : co_I ks.toInt kfc kfy B) (hB : 1 ≤ B) (hNy : ks.toInt ≤ Ny) (hNy2 : Ny ≤ 100000) (hcs : fl.toInt = 0 → cs_R ks.toInt kfc kfy L nL) (hnL : 0 ≤ nL) (hA : ∀ j : Int, 0 ≤ j → 8 * j < en.toInt → A j = gr fr j) (F_fr : sb_Fit fr) : Cn l G i_Expander_symbol [.ref h, .ref kh] [(h, .inr (5, [.ref ex, .ref et, .ref ea, .ref eb, .ref ec, .ref ed, .ref ef, .ref er, .int at_, .int en, .int fl])), (er, .inl (G.2.1, N, .inl fr)), (kh, .inr (1, [.ref kc, .ref ky, .int ks])), (kc, .inl (G.2.2.1, 16, .inl kfc)), (ky, .inl (G.2.2.1, Ny, .inl kfy))] (S := Int32 × Int32 × Int32) (fun rv_ u => rv_ = some (.int u.1) ∧ (0 ≤ u.1.toInt) ∧ (u.1.toInt < B) ∧ (at_.toInt ≤ u.2.1.toInt) ∧ (u.2.1.toInt ≤ en.toInt) ∧ (0 ≤ u.2.2.toInt) ∧ (fl.toInt ≠ 0 → u.2.2.toInt ≠ 0) ∧ (sy_w A en.toInt L nL fl.toInt at_.toInt = oc_ u.2.2.toInt u.1.toInt u.2.1.toInt) ∧ (u.2.2.toInt = 0 → at_.toInt < u.2.1.toInt)) (fun u => [(h, .inr (5, [.ref ex, .ref et, .ref ea, .ref eb, .ref ec, .ref ed, .ref ef, .ref er, .int u.2.1, .int en, .int u.2.2])), (er, .inl (G.2.1, N, .inl fr)), (kh, .inr (1, [.ref kc, .ref ky, .int ks])), (kc, .inl (G.2.2.1, 16, .inl kfc)), (ky, .inl (G.2.2.1, Ny, .inl kfy))]) := by
  refine Cn.of hl (by decide +kernel) rfl (Nat.le_of_ble_eq_true rfl) (fun M hQ => ?_)
  refine pb_eq (pc' := 0) (lo' := [(0, .ref h), (1, .ref kh)]) (rest' := []) (ws' := [(h, .inr (5, [.ref ex, .ref et, .ref ea, .ref eb, .ref ec, .ref ed, .ref ef, .ref er, .int at_, .int en, .int fl])), (er, .inl (G.2.1, N, .inl fr)), (kh, .inr (1, [.ref kc, .ref ky, .int ks])), (kc, .inl (G.2.2.1, 16, .inl kfc)), (ky, .inl (G.2.2.1, Ny, .inl kfy))]) ?_
  have zl0 : (0 : Int32).toInt = 0 := by decide
  have zl1 : (1 : Int32).toInt = 1 := by decide
  have zl2 : (2 : Int32).toInt = 2 := by decide
  have zl5 : (5 : Int32).toInt = 5 := by decide
  refine pb_iconst (pc := 0) (v := 0) d_Expander_symbol_0 (by decide) ?_
  refine pb_istore_n (pc := 1) (lo' := [(2, .int 0), (0, .ref h), (1, .ref kh)]) d_Expander_symbol_1 rfl (by decide) rfl ?_
  refine pb_iconst (pc := 2) (v := 0) d_Expander_symbol_2 (by decide) ?_
  refine pb_istore_n (pc := 3) (lo' := [(3, .int 0), (2, .int 0), (0, .ref h), (1, .ref kh)]) d_Expander_symbol_3 rfl (by decide) rfl ?_
  refine pb_iconst (pc := 4) (v := 0) d_Expander_symbol_4 (by decide) ?_
  refine pb_istore (pc := 5) (lo' := [(4, .int 0), (3, .int 0), (2, .int 0), (0, .ref h), (1, .ref kh)]) d_Expander_symbol_5 (by decide) rfl ?_
  refine pb_iconst (pc := 7) (v := 1) d_Expander_symbol_7 (by decide) ?_
  refine pb_istore (pc := 8) (lo' := [(5, .int 1), (4, .int 0), (3, .int 0), (2, .int 0), (0, .ref h), (1, .ref kh)]) d_Expander_symbol_8 (by decide) rfl ?_
  have hL10_1 : ∀ (N9 : Nat) (b : Int32) (g : Int32) (p : Int32) (m : Int32) (a3_ : Int32), (1 ≤ m.toInt) → (m.toInt ≤ 16) → (p.toInt = co_s kfc (m.toInt - 1)) → (0 ≤ g.toInt) → (g.toInt ≤ b.toInt) → (b.toInt < p2 (m.toInt - 1)) → (at_.toInt ≤ a3_.toInt) → (a3_.toInt ≤ en.toInt) → (fl.toInt = 0 → sy_l A en.toInt L nL (16 - m.toInt).toNat m.toInt b.toInt g.toInt a3_.toInt = sy_l A en.toInt L nL 15 1 0 0 at_.toInt) → ((16 - m.toInt).toNat) < N9 → pb_P l G M i_Expander_symbol 10 [(2, .int b), (3, .int g), (4, .int p), (5, .int m), (0, .ref h), (1, .ref kh)] [] [(h, .inr (5, [.ref ex, .ref et, .ref ea, .ref eb, .ref ec, .ref ed, .ref ef, .ref er, .int a3_, .int en, .int fl])), (er, .inl (G.2.1, N, .inl fr)), (kh, .inr (1, [.ref kc, .ref ky, .int ks])), (kc, .inl (G.2.2.1, 16, .inl kfc)), (ky, .inl (G.2.2.1, Ny, .inl kfy))] 0 0 := by
    intro N9
    induction N9 with
    | zero => intro b g p m a3_ hm hm2 hp hg hgb hb ha ha2 hR hm9; exact absurd hm9 (Nat.not_lt_zero _)
    | succ N9 ih10 =>
      intro b g p m a3_ hm hm2 hp hg hgb hb ha ha2 hR hm9
      refine pb_iload (pc := 10) d_Expander_symbol_10 3 rfl ?_
      refine pb_bipush (pc := 12) (v := 15) d_Expander_symbol_12 (by decide) ?_
      refine pb_icmp_gt (pc := 14) (tgt := 138) d_Expander_symbol_14 (by decide) (fun w2 => ?_) (fun w2 => ?_)
      · have tw2 : 15 < m.toInt := (ti_lt (by decide) rfl).mp w2
        refine pb_aload_n (pc := 138) d_Expander_symbol_138 4 rfl rfl ?_
        refine pb_aload_n (pc := 139) d_Expander_symbol_139 4 rfl rfl ?_
        refine pb_get (pc := 140) d_Expander_symbol_140 0 10 rfl rfl (by decide) in_Expander k_260 rfl ?_
        refine pb_if_ne (pc := 143) (tgt := 150) d_Expander_symbol_143 (by decide) (fun w3 => ?_) (fun w3 => ?_)
        · have tw3 : ¬ fl.toInt = 0 := fun z9 => w3 ((ti_eq rfl (by decide)).mpr z9)
          refine pb_aload_n (pc := 150) d_Expander_symbol_150 4 rfl rfl ?_
          refine pb_get (pc := 151) d_Expander_symbol_151 0 10 rfl rfl (by decide) in_Expander k_260 rfl ?_
          refine pb_put (pc := 154) (ty := .int) (ws' := [(h, .inr (5, [.ref ex, .ref et, .ref ea, .ref eb, .ref ec, .ref ed, .ref ef, .ref er, .int a3_, .int en, .int fl])), (er, .inl (G.2.1, N, .inl fr)), (kh, .inr (1, [.ref kc, .ref ky, .int ks])), (kc, .inl (G.2.2.1, 16, .inl kfc)), (ky, .inl (G.2.2.1, Ny, .inl kfy))]) d_Expander_symbol_154 0 10 t_Expander t_Expander_ok n_Expander rfl rfl (by decide) in_Expander k_260 rfl (by decide +kernel) rfl rfl (Nat.le_of_ble_eq_true rfl) rfl ?_
          refine pb_iconst (pc := 157) (v := 0) d_Expander_symbol_157 (by decide) ?_
          exact pb_iret (pc := 158) hQ d_Expander_symbol_158 rfl rfl (0, a3_, fl) ⟨rfl, (by (try dsimp only); first | done | (with_reducible assumption) | omega (splitDisjunctions := false) | assumption | (clear hcs hR hm9; first | omega (splitDisjunctions := false) | omega) | omega | decide), (by (try dsimp only); first | done | (with_reducible assumption) | omega (splitDisjunctions := false) | assumption | (clear hcs hR hm9; first | omega (splitDisjunctions := false) | omega) | omega | decide), (by (try dsimp only); first | done | (with_reducible assumption) | omega (splitDisjunctions := false) | assumption | (clear hcs hR hm9; first | omega (splitDisjunctions := false) | omega) | omega | decide), (by (try dsimp only); first | done | (with_reducible assumption) | omega (splitDisjunctions := false) | assumption | (clear hcs hR hm9; first | omega (splitDisjunctions := false) | omega) | omega | decide), (by (try dsimp only); first | done | (with_reducible assumption) | omega (splitDisjunctions := false) | assumption | (clear hcs hR hm9; first | omega (splitDisjunctions := false) | omega) | omega | decide), (by (try dsimp only); first | done | (with_reducible assumption) | omega (splitDisjunctions := false) | assumption | exact fun q90 => (by clear hcs hR hm9; first | omega (splitDisjunctions := false) | omega) | omega | decide), (show sy_w A en.toInt L nL fl.toInt at_.toInt = oc_ fl.toInt (0 : Int32).toInt a3_.toInt from (by first | exact sy_ww (by omega) (by omega) | exact (sy_w0 (by omega)).trans ((hR (by omega)).symm.trans (sy_5 (by first | exact Or.inl (by omega) | exact Or.inr (by have q8 := (cs_more (hcs (by omega)) hm hm2); omega)) (by omega))))), (by (try dsimp only); first | done | (with_reducible assumption) | omega (splitDisjunctions := false) | assumption | exact fun q90 => (by have y90 := hcs q90; have y91 := hR q90; clear hcs hR hm9; first | omega (splitDisjunctions := false) | omega) | omega | decide)⟩ [0, 1, 2, 3, 4] (by decide) rfl rfl (by decide) (by decide)
        · have tw3 : fl.toInt = 0 := (ti_eq rfl (by decide)).mp w3
          refine pb_iconst (pc := 146) (v := 5) d_Expander_symbol_146 (by decide) ?_
          refine pb_goto (pc := 147) (tgt := 154) d_Expander_symbol_147 (by decide) ?_
          refine pb_put (pc := 154) (ty := .int) (ws' := [(h, .inr (5, [.ref ex, .ref et, .ref ea, .ref eb, .ref ec, .ref ed, .ref ef, .ref er, .int a3_, .int en, .int 5])), (er, .inl (G.2.1, N, .inl fr)), (kh, .inr (1, [.ref kc, .ref ky, .int ks])), (kc, .inl (G.2.2.1, 16, .inl kfc)), (ky, .inl (G.2.2.1, Ny, .inl kfy))]) d_Expander_symbol_154 0 10 t_Expander t_Expander_ok n_Expander rfl rfl (by decide) in_Expander k_260 rfl (by decide +kernel) rfl rfl (Nat.le_of_ble_eq_true rfl) rfl ?_
          refine pb_iconst (pc := 157) (v := 0) d_Expander_symbol_157 (by decide) ?_
          exact pb_iret (pc := 158) hQ d_Expander_symbol_158 rfl rfl (0, a3_, 5) ⟨rfl, (by (try dsimp only); first | done | (with_reducible assumption) | omega (splitDisjunctions := false) | assumption | (have y90 := hcs tw3; have y91 := hR tw3; clear hcs hR hm9; first | omega (splitDisjunctions := false) | omega) | omega | decide), (by (try dsimp only); first | done | (with_reducible assumption) | omega (splitDisjunctions := false) | assumption | (have y90 := hcs tw3; have y91 := hR tw3; clear hcs hR hm9; first | omega (splitDisjunctions := false) | omega) | omega | decide), (by (try dsimp only); first | done | (with_reducible assumption) | omega (splitDisjunctions := false) | assumption | (have y90 := hcs tw3; have y91 := hR tw3; clear hcs hR hm9; first | omega (splitDisjunctions := false) | omega) | omega | decide), (by (try dsimp only); first | done | (with_reducible assumption) | omega (splitDisjunctions := false) | assumption | (have y90 := hcs tw3; have y91 := hR tw3; clear hcs hR hm9; first | omega (splitDisjunctions := false) | omega) | omega | decide), (by (try dsimp only); first | done | (with_reducible assumption) | omega (splitDisjunctions := false) | assumption | (have y90 := hcs tw3; have y91 := hR tw3; clear hcs hR hm9; first | omega (splitDisjunctions := false) | omega) | omega | decide), (by (try dsimp only); first | done | (with_reducible assumption) | omega (splitDisjunctions := false) | assumption | exact fun q90 => (by have y90 := hcs tw3; have y91 := hR tw3; clear hcs hR hm9; first | omega (splitDisjunctions := false) | omega) | omega | decide), (show sy_w A en.toInt L nL fl.toInt at_.toInt = oc_ (5 : Int32).toInt (0 : Int32).toInt a3_.toInt from (by first | exact sy_ww (by omega) (by omega) | exact (sy_w0 (by omega)).trans ((hR (by omega)).symm.trans (sy_5 (by first | exact Or.inl (by omega) | exact Or.inr (by have q8 := (cs_more (hcs (by omega)) hm hm2); omega)) (by omega))))), (by (try dsimp only); first | done | (with_reducible assumption) | omega (splitDisjunctions := false) | assumption | exact fun q90 => (by have y90 := hcs tw3; have y91 := hR tw3; clear hcs hR hm9; first | omega (splitDisjunctions := false) | omega) | omega | decide)⟩ [0, 1, 2, 3, 4] (by decide) rfl rfl (by decide) (by decide)
      · have tw2 : ¬ 15 < m.toInt := fun z9 => w2 ((ti_lt (by decide) rfl).mpr z9)
        refine pb_iload (pc := 17) d_Expander_symbol_17 2 rfl ?_
        refine pb_aload_n (pc := 19) d_Expander_symbol_19 5 rfl rfl ?_
        refine pb_getN (pc := 20) d_Expander_symbol_20 2 2 rfl rfl (by decide) in_Code k_231 rfl ?_
        refine pb_icmp_ge (pc := 23) (tgt := 138) d_Expander_symbol_23 (by decide) (fun w4 => ?_) (fun w4 => ?_)
        · have tw4 : ks.toInt ≤ p.toInt := (ti_le rfl rfl).mp w4
          refine pb_aload_n (pc := 138) d_Expander_symbol_138 4 rfl rfl ?_
          refine pb_aload_n (pc := 139) d_Expander_symbol_139 4 rfl rfl ?_
          refine pb_get (pc := 140) d_Expander_symbol_140 0 10 rfl rfl (by decide) in_Expander k_260 rfl ?_
          refine pb_if_ne (pc := 143) (tgt := 150) d_Expander_symbol_143 (by decide) (fun w5 => ?_) (fun w5 => ?_)
          · have tw5 : ¬ fl.toInt = 0 := fun z9 => w5 ((ti_eq rfl (by decide)).mpr z9)
            refine pb_aload_n (pc := 150) d_Expander_symbol_150 4 rfl rfl ?_
            refine pb_get (pc := 151) d_Expander_symbol_151 0 10 rfl rfl (by decide) in_Expander k_260 rfl ?_
            refine pb_put (pc := 154) (ty := .int) (ws' := [(h, .inr (5, [.ref ex, .ref et, .ref ea, .ref eb, .ref ec, .ref ed, .ref ef, .ref er, .int a3_, .int en, .int fl])), (er, .inl (G.2.1, N, .inl fr)), (kh, .inr (1, [.ref kc, .ref ky, .int ks])), (kc, .inl (G.2.2.1, 16, .inl kfc)), (ky, .inl (G.2.2.1, Ny, .inl kfy))]) d_Expander_symbol_154 0 10 t_Expander t_Expander_ok n_Expander rfl rfl (by decide) in_Expander k_260 rfl (by decide +kernel) rfl rfl (Nat.le_of_ble_eq_true rfl) rfl ?_
            refine pb_iconst (pc := 157) (v := 0) d_Expander_symbol_157 (by decide) ?_
            exact pb_iret (pc := 158) hQ d_Expander_symbol_158 rfl rfl (0, a3_, fl) ⟨rfl, (by (try dsimp only); first | done | (with_reducible assumption) | omega (splitDisjunctions := false) | assumption | (clear hcs hR hm9; first | omega (splitDisjunctions := false) | omega) | omega | decide), (by (try dsimp only); first | done | (with_reducible assumption) | omega (splitDisjunctions := false) | assumption | (clear hcs hR hm9; first | omega (splitDisjunctions := false) | omega) | omega | decide), (by (try dsimp only); first | done | (with_reducible assumption) | omega (splitDisjunctions := false) | assumption | (clear hcs hR hm9; first | omega (splitDisjunctions := false) | omega) | omega | decide), (by (try dsimp only); first | done | (with_reducible assumption) | omega (splitDisjunctions := false) | assumption | (clear hcs hR hm9; first | omega (splitDisjunctions := false) | omega) | omega | decide), (by (try dsimp only); first | done | (with_reducible assumption) | omega (splitDisjunctions := false) | assumption | (clear hcs hR hm9; first | omega (splitDisjunctions := false) | omega) | omega | decide), (by (try dsimp only); first | done | (with_reducible assumption) | omega (splitDisjunctions := false) | assumption | exact fun q90 => (by clear hcs hR hm9; first | omega (splitDisjunctions := false) | omega) | omega | decide), (show sy_w A en.toInt L nL fl.toInt at_.toInt = oc_ fl.toInt (0 : Int32).toInt a3_.toInt from (by first | exact sy_ww (by omega) (by omega) | exact (sy_w0 (by omega)).trans ((hR (by omega)).symm.trans (sy_5 (by first | exact Or.inl (by omega) | exact Or.inr (by have q8 := (cs_more (hcs (by omega)) hm hm2); omega)) (by omega))))), (by (try dsimp only); first | done | (with_reducible assumption) | omega (splitDisjunctions := false) | assumption | exact fun q90 => (by have y90 := hcs q90; have y91 := hR q90; clear hcs hR hm9; first | omega (splitDisjunctions := false) | omega) | omega | decide)⟩ [0, 1, 2, 3, 4] (by decide) rfl rfl (by decide) (by decide)
          · have tw5 : fl.toInt = 0 := (ti_eq rfl (by decide)).mp w5
            refine pb_iconst (pc := 146) (v := 5) d_Expander_symbol_146 (by decide) ?_
            refine pb_goto (pc := 147) (tgt := 154) d_Expander_symbol_147 (by decide) ?_
            refine pb_put (pc := 154) (ty := .int) (ws' := [(h, .inr (5, [.ref ex, .ref et, .ref ea, .ref eb, .ref ec, .ref ed, .ref ef, .ref er, .int a3_, .int en, .int 5])), (er, .inl (G.2.1, N, .inl fr)), (kh, .inr (1, [.ref kc, .ref ky, .int ks])), (kc, .inl (G.2.2.1, 16, .inl kfc)), (ky, .inl (G.2.2.1, Ny, .inl kfy))]) d_Expander_symbol_154 0 10 t_Expander t_Expander_ok n_Expander rfl rfl (by decide) in_Expander k_260 rfl (by decide +kernel) rfl rfl (Nat.le_of_ble_eq_true rfl) rfl ?_
            refine pb_iconst (pc := 157) (v := 0) d_Expander_symbol_157 (by decide) ?_
            exact pb_iret (pc := 158) hQ d_Expander_symbol_158 rfl rfl (0, a3_, 5) ⟨rfl, (by (try dsimp only); first | done | (with_reducible assumption) | omega (splitDisjunctions := false) | assumption | (have y90 := hcs tw5; have y91 := hR tw5; clear hcs hR hm9; first | omega (splitDisjunctions := false) | omega) | omega | decide), (by (try dsimp only); first | done | (with_reducible assumption) | omega (splitDisjunctions := false) | assumption | (have y90 := hcs tw5; have y91 := hR tw5; clear hcs hR hm9; first | omega (splitDisjunctions := false) | omega) | omega | decide), (by (try dsimp only); first | done | (with_reducible assumption) | omega (splitDisjunctions := false) | assumption | (have y90 := hcs tw5; have y91 := hR tw5; clear hcs hR hm9; first | omega (splitDisjunctions := false) | omega) | omega | decide), (by (try dsimp only); first | done | (with_reducible assumption) | omega (splitDisjunctions := false) | assumption | (have y90 := hcs tw5; have y91 := hR tw5; clear hcs hR hm9; first | omega (splitDisjunctions := false) | omega) | omega | decide), (by (try dsimp only); first | done | (with_reducible assumption) | omega (splitDisjunctions := false) | assumption | (have y90 := hcs tw5; have y91 := hR tw5; clear hcs hR hm9; first | omega (splitDisjunctions := false) | omega) | omega | decide), (by (try dsimp only); first | done | (with_reducible assumption) | omega (splitDisjunctions := false) | assumption | exact fun q90 => (by have y90 := hcs tw5; have y91 := hR tw5; clear hcs hR hm9; first | omega (splitDisjunctions := false) | omega) | omega | decide), (show sy_w A en.toInt L nL fl.toInt at_.toInt = oc_ (5 : Int32).toInt (0 : Int32).toInt a3_.toInt from (by first | exact sy_ww (by omega) (by omega) | exact (sy_w0 (by omega)).trans ((hR (by omega)).symm.trans (sy_5 (by first | exact Or.inl (by omega) | exact Or.inr (by have q8 := (cs_more (hcs (by omega)) hm hm2); omega)) (by omega))))), (by (try dsimp only); first | done | (with_reducible assumption) | omega (splitDisjunctions := false) | assumption | exact fun q90 => (by have y90 := hcs tw5; have y91 := hR tw5; clear hcs hR hm9; first | omega (splitDisjunctions := false) | omega) | omega | decide)⟩ [0, 1, 2, 3, 4] (by decide) rfl rfl (by decide) (by decide)
        · have tw4 : ¬ ks.toInt ≤ p.toInt := fun z9 => w4 ((ti_le rfl rfl).mpr z9)
          refine pb_aload_n (pc := 26) d_Expander_symbol_26 4 rfl rfl ?_
          refine pb_get (pc := 27) d_Expander_symbol_27 0 10 rfl rfl (by decide) in_Expander k_260 rfl ?_
          refine pb_if_ne (pc := 30) (tgt := 138) d_Expander_symbol_30 (by decide) (fun w6 => ?_) (fun w6 => ?_)
          · have tw6 : ¬ fl.toInt = 0 := fun z9 => w6 ((ti_eq rfl (by decide)).mpr z9)
            refine pb_aload_n (pc := 138) d_Expander_symbol_138 4 rfl rfl ?_
            refine pb_aload_n (pc := 139) d_Expander_symbol_139 4 rfl rfl ?_
            refine pb_get (pc := 140) d_Expander_symbol_140 0 10 rfl rfl (by decide) in_Expander k_260 rfl ?_
            refine pb_if_ne (pc := 143) (tgt := 150) d_Expander_symbol_143 (by decide) (fun w7 => ?_) (fun w7 => ?_)
            · have tw7 : ¬ fl.toInt = 0 := fun z9 => w7 ((ti_eq rfl (by decide)).mpr z9)
              refine pb_aload_n (pc := 150) d_Expander_symbol_150 4 rfl rfl ?_
              refine pb_get (pc := 151) d_Expander_symbol_151 0 10 rfl rfl (by decide) in_Expander k_260 rfl ?_
              refine pb_put (pc := 154) (ty := .int) (ws' := [(h, .inr (5, [.ref ex, .ref et, .ref ea, .ref eb, .ref ec, .ref ed, .ref ef, .ref er, .int a3_, .int en, .int fl])), (er, .inl (G.2.1, N, .inl fr)), (kh, .inr (1, [.ref kc, .ref ky, .int ks])), (kc, .inl (G.2.2.1, 16, .inl kfc)), (ky, .inl (G.2.2.1, Ny, .inl kfy))]) d_Expander_symbol_154 0 10 t_Expander t_Expander_ok n_Expander rfl rfl (by decide) in_Expander k_260 rfl (by decide +kernel) rfl rfl (Nat.le_of_ble_eq_true rfl) rfl ?_
              refine pb_iconst (pc := 157) (v := 0) d_Expander_symbol_157 (by decide) ?_
              exact pb_iret (pc := 158) hQ d_Expander_symbol_158 rfl rfl (0, a3_, fl) ⟨rfl, (by (try dsimp only); first | done | (with_reducible assumption) | omega (splitDisjunctions := false) | assumption | (clear hcs hR hm9; first | omega (splitDisjunctions := false) | omega) | omega | decide), (by (try dsimp only); first | done | (with_reducible assumption) | omega (splitDisjunctions := false) | assumption | (clear hcs hR hm9; first | omega (splitDisjunctions := false) | omega) | omega | decide), (by (try dsimp only); first | done | (with_reducible assumption) | omega (splitDisjunctions := false) | assumption | (clear hcs hR hm9; first | omega (splitDisjunctions := false) | omega) | omega | decide), (by (try dsimp only); first | done | (with_reducible assumption) | omega (splitDisjunctions := false) | assumption | (clear hcs hR hm9; first | omega (splitDisjunctions := false) | omega) | omega | decide), (by (try dsimp only); first | done | (with_reducible assumption) | omega (splitDisjunctions := false) | assumption | (clear hcs hR hm9; first | omega (splitDisjunctions := false) | omega) | omega | decide), (by (try dsimp only); first | done | (with_reducible assumption) | omega (splitDisjunctions := false) | assumption | exact fun q90 => (by clear hcs hR hm9; first | omega (splitDisjunctions := false) | omega) | omega | decide), (show sy_w A en.toInt L nL fl.toInt at_.toInt = oc_ fl.toInt (0 : Int32).toInt a3_.toInt from (by first | exact sy_ww (by omega) (by omega) | exact (sy_w0 (by omega)).trans ((hR (by omega)).symm.trans (sy_5 (by first | exact Or.inl (by omega) | exact Or.inr (by have q8 := (cs_more (hcs (by omega)) hm hm2); omega)) (by omega))))), (by (try dsimp only); first | done | (with_reducible assumption) | omega (splitDisjunctions := false) | assumption | exact fun q90 => (by have y90 := hcs q90; have y91 := hR q90; clear hcs hR hm9; first | omega (splitDisjunctions := false) | omega) | omega | decide)⟩ [0, 1, 2, 3, 4] (by decide) rfl rfl (by decide) (by decide)
            · have tw7 : fl.toInt = 0 := (ti_eq rfl (by decide)).mp w7
              refine pb_iconst (pc := 146) (v := 5) d_Expander_symbol_146 (by decide) ?_
              refine pb_goto (pc := 147) (tgt := 154) d_Expander_symbol_147 (by decide) ?_
              refine pb_put (pc := 154) (ty := .int) (ws' := [(h, .inr (5, [.ref ex, .ref et, .ref ea, .ref eb, .ref ec, .ref ed, .ref ef, .ref er, .int a3_, .int en, .int 5])), (er, .inl (G.2.1, N, .inl fr)), (kh, .inr (1, [.ref kc, .ref ky, .int ks])), (kc, .inl (G.2.2.1, 16, .inl kfc)), (ky, .inl (G.2.2.1, Ny, .inl kfy))]) d_Expander_symbol_154 0 10 t_Expander t_Expander_ok n_Expander rfl rfl (by decide) in_Expander k_260 rfl (by decide +kernel) rfl rfl (Nat.le_of_ble_eq_true rfl) rfl ?_
              refine pb_iconst (pc := 157) (v := 0) d_Expander_symbol_157 (by decide) ?_
              exact pb_iret (pc := 158) hQ d_Expander_symbol_158 rfl rfl (0, a3_, 5) ⟨rfl, (by (try dsimp only); first | done | (with_reducible assumption) | omega (splitDisjunctions := false) | assumption | (have y90 := hcs tw7; have y91 := hR tw7; clear hcs hR hm9; first | omega (splitDisjunctions := false) | omega) | omega | decide), (by (try dsimp only); first | done | (with_reducible assumption) | omega (splitDisjunctions := false) | assumption | (have y90 := hcs tw7; have y91 := hR tw7; clear hcs hR hm9; first | omega (splitDisjunctions := false) | omega) | omega | decide), (by (try dsimp only); first | done | (with_reducible assumption) | omega (splitDisjunctions := false) | assumption | (have y90 := hcs tw7; have y91 := hR tw7; clear hcs hR hm9; first | omega (splitDisjunctions := false) | omega) | omega | decide), (by (try dsimp only); first | done | (with_reducible assumption) | omega (splitDisjunctions := false) | assumption | (have y90 := hcs tw7; have y91 := hR tw7; clear hcs hR hm9; first | omega (splitDisjunctions := false) | omega) | omega | decide), (by (try dsimp only); first | done | (with_reducible assumption) | omega (splitDisjunctions := false) | assumption | (have y90 := hcs tw7; have y91 := hR tw7; clear hcs hR hm9; first | omega (splitDisjunctions := false) | omega) | omega | decide), (by (try dsimp only); first | done | (with_reducible assumption) | omega (splitDisjunctions := false) | assumption | exact fun q90 => (by have y90 := hcs tw7; have y91 := hR tw7; clear hcs hR hm9; first | omega (splitDisjunctions := false) | omega) | omega | decide), (show sy_w A en.toInt L nL fl.toInt at_.toInt = oc_ (5 : Int32).toInt (0 : Int32).toInt a3_.toInt from (by first | exact sy_ww (by omega) (by omega) | exact (sy_w0 (by omega)).trans ((hR (by omega)).symm.trans (sy_5 (by first | exact Or.inl (by omega) | exact Or.inr (by have q8 := (cs_more (hcs (by omega)) hm hm2); omega)) (by omega))))), (by (try dsimp only); first | done | (with_reducible assumption) | omega (splitDisjunctions := false) | assumption | exact fun q90 => (by have y90 := hcs tw7; have y91 := hR tw7; clear hcs hR hm9; first | omega (splitDisjunctions := false) | omega) | omega | decide)⟩ [0, 1, 2, 3, 4] (by decide) rfl rfl (by decide) (by decide)
          · have tw6 : fl.toInt = 0 := (ti_eq rfl (by decide)).mp w6
            have q1 := p2_s (k := m.toInt - 1) (m := m.toInt) (by omega) (by omega)
            have q2 := p2_le (k := m.toInt) (by omega)
            refine pb_aload_n (pc := 33) d_Expander_symbol_33 4 rfl rfl ?_
            refine pb_get (pc := 34) d_Expander_symbol_34 0 8 rfl rfl (by decide) in_Expander k_258 rfl ?_
            refine pb_aload_n (pc := 37) d_Expander_symbol_37 4 rfl rfl ?_
            refine pb_get (pc := 38) d_Expander_symbol_38 0 9 rfl rfl (by decide) in_Expander k_259 rfl ?_
            refine pb_icmp_lt (pc := 41) (tgt := 51) d_Expander_symbol_41 (by decide) (fun w8 => ?_) (fun w8 => ?_)
            · have tw8 : a3_.toInt < en.toInt := (ti_lt rfl rfl).mp w8
              refine pb_iconst (pc := 51) (v := 2) d_Expander_symbol_51 (by decide) ?_
              refine pb_iload_n (pc := 52) d_Expander_symbol_52 0 rfl rfl ?_
              refine pb_imul (pc := 53) d_Expander_symbol_53 ?_
              refine pb_topi (fun i9 ei9 => ?_)
              try have ti9 : i9.toInt = 2 * b.toInt := ti_mul ei9 (by decide) rfl (by omega) (by omega)
              refine pb_aload_n (pc := 54) d_Expander_symbol_54 4 rfl rfl ?_
              refine pb_get (pc := 55) d_Expander_symbol_55 0 7 rfl rfl (by decide) in_Expander k_257 rfl ?_
              refine pb_aload_n (pc := 58) d_Expander_symbol_58 4 rfl rfl ?_
              refine pb_get (pc := 59) d_Expander_symbol_59 0 8 rfl rfl (by decide) in_Expander k_258 rfl ?_
              refine pb_iconst (pc := 62) (v := 3) d_Expander_symbol_62 (by decide) ?_
              refine pb_ishr (pc := 63) d_Expander_symbol_63 ?_
              refine pb_topi (fun i10 ei10 => ?_)
              have ti10 : i10.toInt = a3_.toInt / 8 := ti_shr ei10 rfl 3 (by decide) (by decide)
              refine pb_bald (pc := 64) d_Expander_symbol_64 1 rfl (vp_in_iff.mpr (by omega)) ?_
              refine pb_topi (fun i11 ei11 => ?_)
              have xi11 : i11 = gr fr (a3_.toInt / 8) := gr_ld ei11 (by omega)
              have yi11 : i11.toInt = gx fr (a3_.toInt / 8) := congrArg Int32.toInt xi11
              have ti11 : -128 ≤ i11.toInt ∧ i11.toInt ≤ 127 := ti_fit (F_fr _) ei11
              refine pb_aload_n (pc := 65) d_Expander_symbol_65 4 rfl rfl ?_
              refine pb_get (pc := 66) d_Expander_symbol_66 0 8 rfl rfl (by decide) in_Expander k_258 rfl ?_
              refine pb_bipush (pc := 69) (v := 7) d_Expander_symbol_69 (by decide) ?_
              refine pb_iand (pc := 71) d_Expander_symbol_71 ?_
              refine pb_topi (fun i12 ei12 => ?_)
              have ti12 : i12.toInt = a3_.toInt % 8 := ti_and7 ei12 (by omega)
              refine pb_ishr (pc := 72) d_Expander_symbol_72 ?_
              refine pb_topi (fun i13 ei13 => ?_)
              refine pb_iconst (pc := 73) (v := 1) d_Expander_symbol_73 (by decide) ?_
              refine pb_iand (pc := 74) d_Expander_symbol_74 ?_
              refine pb_topi (fun i14 ei14 => ?_)
              have ti14 : 0 ≤ i14.toInt ∧ i14.toInt ≤ 1 := ti_and 1 ei14 (by decide) (by decide)
              have gB : i14.toInt = bi_ A a3_.toInt := congrArg Int32.toInt (bq_E (by assumption) (by assumption) (by assumption) (by omega) (hA _ (by omega) (by omega)))
              have hC := hcs (by omega)
              have hMl := (cs_more hC hm hm2).mp (by omega)
              have hct := hC.1 m.toInt (by omega) (by omega)
              refine pb_iadd (pc := 75) d_Expander_symbol_75 ?_
              refine pb_topi (fun i15 ei15 => ?_)
              try have ti15 : i15.toInt = i9.toInt + i14.toInt := t2_add ei15 rfl rfl (by (exact omg_742de62412 hg hgb hb q1 q2 ti9 ti14))
              refine pb_istore_n (pc := 76) (lo' := [(2, .int i15), (3, .int g), (4, .int p), (5, .int m), (0, .ref h), (1, .ref kh)]) d_Expander_symbol_76 rfl (by decide) rfl ?_
              refine pb_aload_n (pc := 77) d_Expander_symbol_77 4 rfl rfl ?_
              refine pb_dup (pc := 78) d_Expander_symbol_78 rfl ?_
              refine pb_get (pc := 79) d_Expander_symbol_79 0 8 rfl rfl (by decide) in_Expander k_258 rfl ?_
              refine pb_iconst (pc := 82) (v := 1) d_Expander_symbol_82 (by decide) ?_
              refine pb_iadd (pc := 83) d_Expander_symbol_83 ?_
              refine pb_topi (fun i16 ei16 => ?_)
              try have ti16 : i16.toInt = a3_.toInt + 1 := t2_add ei16 rfl (by decide) (by omega)
              refine pb_put (pc := 84) (ty := .int) (ws' := [(h, .inr (5, [.ref ex, .ref et, .ref ea, .ref eb, .ref ec, .ref ed, .ref ef, .ref er, .int i16, .int en, .int fl])), (er, .inl (G.2.1, N, .inl fr)), (kh, .inr (1, [.ref kc, .ref ky, .int ks])), (kc, .inl (G.2.2.1, 16, .inl kfc)), (ky, .inl (G.2.2.1, Ny, .inl kfy))]) d_Expander_symbol_84 0 8 t_Expander t_Expander_ok n_Expander rfl rfl (by decide) in_Expander k_258 rfl (by decide +kernel) rfl rfl (Nat.le_of_ble_eq_true rfl) rfl ?_
              refine pb_iconst (pc := 87) (v := 2) d_Expander_symbol_87 (by decide) ?_
              refine pb_iload_n (pc := 88) d_Expander_symbol_88 1 rfl rfl ?_
              refine pb_imul (pc := 89) d_Expander_symbol_89 ?_
              refine pb_topi (fun i17 ei17 => ?_)
              try have ti17 : i17.toInt = 2 * g.toInt := ti_mul ei17 (by decide) rfl (by omega) (by omega)
              refine pb_istore_n (pc := 90) (lo' := [(3, .int i17), (2, .int i15), (4, .int p), (5, .int m), (0, .ref h), (1, .ref kh)]) d_Expander_symbol_90 rfl (by decide) rfl ?_
              refine pb_aload_n (pc := 91) d_Expander_symbol_91 5 rfl rfl ?_
              refine pb_getN (pc := 92) d_Expander_symbol_92 2 0 rfl rfl (by decide) in_Code k_227 rfl ?_
              refine pb_iload (pc := 95) d_Expander_symbol_95 3 rfl ?_
              refine pb_iald (pc := 97) d_Expander_symbol_97 3 rfl (vp_in_iff.mpr (by omega)) ?_
              refine pb_topi (fun i18 ei18 => ?_)
              have ti18 : i18.toInt = gx kfc (m.toInt) := gx_ld ei18 rfl
              have y1 := hco.2.1 m.toInt (by omega) (by omega)
              have y2 := co_ss (f := kfc) (k := m.toInt - 1) (m := m.toInt) (by omega) (by omega)
              have y3 := co_pref hco (k := m.toInt) (by omega) (by omega)
              have y4 := co_pref hco (k := m.toInt - 1) (by omega) (by omega)
              refine pb_istore (pc := 98) (lo' := [(6, .int i18), (3, .int i17), (2, .int i15), (4, .int p), (5, .int m), (0, .ref h), (1, .ref kh)]) d_Expander_symbol_98 (by decide) rfl ?_
              refine pb_iload_n (pc := 100) d_Expander_symbol_100 2 rfl rfl ?_
              refine pb_iload_n (pc := 101) d_Expander_symbol_101 1 rfl rfl ?_
              refine pb_isub (pc := 102) d_Expander_symbol_102 ?_
              refine pb_topi (fun i19 ei19 => ?_)
              try have ti19 : i19.toInt = i15.toInt - i17.toInt := t2_sub ei19 rfl rfl (by (exact omg_7cd683a882 hg hgb hb q1 q2 ti9 ti14 ti15 ti17))
              obtain ⟨xx, exx⟩ : ∃ z : Int, z = i19.toInt := ⟨_, rfl⟩
              refine pb_iload (pc := 103) d_Expander_symbol_103 0 rfl ?_
              refine pb_icmp_ge (pc := 105) (tgt := 120) d_Expander_symbol_105 (by decide) (fun w20 => ?_) (fun w20 => ?_)
              · have tw20 : i18.toInt ≤ i19.toInt := (ti_le rfl rfl).mp w20
                refine pb_iload_n (pc := 120) d_Expander_symbol_120 1 rfl rfl ?_
                refine pb_iload (pc := 121) d_Expander_symbol_121 0 rfl ?_
                refine pb_iadd (pc := 123) d_Expander_symbol_123 ?_
                refine pb_topi (fun i21 ei21 => ?_)
                try have ti21 : i21.toInt = i17.toInt + i18.toInt := t2_add ei21 rfl rfl (by (exact omg_3c7bc5acdd hg hb q1 q2 ti9 ti14 ti15 ti17 ti18 y1 ti19 tw20))
                refine pb_istore_n (pc := 124) (lo' := [(3, .int i21), (6, .int i18), (2, .int i15), (4, .int p), (5, .int m), (0, .ref h), (1, .ref kh)]) d_Expander_symbol_124 rfl (by decide) rfl ?_
                refine pb_iload (pc := 125) d_Expander_symbol_125 3 rfl ?_
                refine pb_iload (pc := 127) d_Expander_symbol_127 1 rfl ?_
                refine pb_iadd (pc := 129) d_Expander_symbol_129 ?_
                refine pb_topi (fun i22 ei22 => ?_)
                try have ti22 : i22.toInt = p.toInt + i18.toInt := t2_add ei22 rfl rfl (by omega)
                refine pb_istore (pc := 130) (lo' := [(4, .int i22), (3, .int i21), (6, .int i18), (2, .int i15), (5, .int m), (0, .ref h), (1, .ref kh)]) d_Expander_symbol_130 (by decide) rfl ?_
                refine pb_iincN (pc := 132) (c := 1) d_Expander_symbol_132 4 rfl (by decide) (by decide) (fun i23 ei23 => ?_)
                have ti23 : i23.toInt = m.toInt + 1 := t2_add ei23 rfl (by decide) (by omega)
                refine pb_eq (pc' := 135) (lo' := [(5, .int i23), (4, .int i22), (3, .int i21), (6, .int i18), (2, .int i15), (0, .ref h), (1, .ref kh)]) (rest' := []) (ws' := [(h, .inr (5, [.ref ex, .ref et, .ref ea, .ref eb, .ref ec, .ref ed, .ref ef, .ref er, .int i16, .int en, .int fl])), (er, .inl (G.2.1, N, .inl fr)), (kh, .inr (1, [.ref kc, .ref ky, .int ks])), (kc, .inl (G.2.2.1, 16, .inl kfc)), (ky, .inl (G.2.2.1, Ny, .inl kfy))]) ?_
                refine pb_goto (pc := 135) (tgt := 10) d_Expander_symbol_135 (by decide) ?_
                refine pb_re (ws' := [(h, .inr (5, [.ref ex, .ref et, .ref ea, .ref eb, .ref ec, .ref ed, .ref ef, .ref er, .int i16, .int en, .int fl])), (er, .inl (G.2.1, N, .inl fr)), (kh, .inr (1, [.ref kc, .ref ky, .int ks])), (kc, .inl (G.2.2.1, 16, .inl kfc)), (ky, .inl (G.2.2.1, Ny, .inl kfy))]) (lo' := [(2, .int i15), (3, .int i21), (4, .int i22), (5, .int i23), (0, .ref h), (1, .ref kh)]) [0, 1, 2, 3, 4] [4, 2, 1, 0, 5, 6] (by decide) rfl rfl rfl ?_
                exact ih10 i15 i21 i22 i23 i16 (by first | (with_reducible assumption) | (exact omg_7699e87d20 hm ti23) | assumption | (have y90 := hcs tw6; have y91 := hR tw6; clear hcs hR hm9; first | omega (splitDisjunctions := false) | omega) | omega | decide) (by first | (with_reducible assumption) | omega (splitDisjunctions := false) | assumption | (have y90 := hcs tw6; have y91 := hR tw6; clear hcs hR hm9; first | omega (splitDisjunctions := false) | omega) | omega | decide) (by rw [show i23.toInt - 1 = m.toInt by omega]; omega) (by first | (with_reducible assumption) | omega (splitDisjunctions := false) | assumption | (have y90 := hcs tw6; have y91 := hR tw6; clear hcs hR hm9; first | omega (splitDisjunctions := false) | omega) | omega | decide) (by first | (with_reducible assumption) | (exact omg_8f91fe36e2 ti19 tw20 ti21) | assumption | (have y90 := hcs tw6; have y91 := hR tw6; clear hcs hR hm9; first | omega (splitDisjunctions := false) | omega) | omega | decide) (by rw [show i23.toInt - 1 = m.toInt by omega]; (exact omg_43a000c987 hb q1 ti9 ti14 ti15)) (by first | (with_reducible assumption) | (exact omg_fa94e12e03 ha ti16) | assumption | (have y90 := hcs tw6; have y91 := hR tw6; clear hcs hR hm9; first | omega (splitDisjunctions := false) | omega) | omega | decide) (by first | (with_reducible assumption) | (exact omg_7a2756d7e5 tw8 ti16) | assumption | (have y90 := hcs tw6; have y91 := hR tw6; clear hcs hR hm9; first | omega (splitDisjunctions := false) | omega) | omega | decide) (fun q9 => (sy_go (by (exact omg_4b44cbffe3 tw2 ti23)) hMl (by omega) (by (exact omg_0a68554054 ti9 gB ti15)) (by (exact omg_3113d64374 hct ti17 ti18 ti19 tw20)) (by (exact omg_c5c19ad744 hct ti17 ti18 ti21)) (by omega) (by omega)).symm.trans (hR q9)) (by first | (have y90 := hcs tw6; have y91 := hR tw6; clear hcs hR; (exact omg_09b75e0929 hm9 tw2 ti23)) | omega)
              · have tw20 : ¬ i18.toInt ≤ i19.toInt := fun z9 => w20 ((ti_le rfl rfl).mpr z9)
                refine pb_aload_n (pc := 108) d_Expander_symbol_108 6 rfl rfl ?_
                refine pb_getN (pc := 109) d_Expander_symbol_109 2 1 rfl rfl (by decide) in_Code k_229 rfl ?_
                refine pb_iload (pc := 112) d_Expander_symbol_112 3 rfl ?_
                refine pb_iload_n (pc := 114) d_Expander_symbol_114 2 rfl rfl ?_
                refine pb_iadd (pc := 115) d_Expander_symbol_115 ?_
                refine pb_topi (fun i24 ei24 => ?_)
                try have ti24 : i24.toInt = p.toInt + i15.toInt := t2_add ei24 rfl rfl (by (exact omg_47b1ac9714 hNy hNy2 hp hg hgb hb q1 q2 ti9 ti14 ti15 y4))
                refine pb_iload_n (pc := 116) d_Expander_symbol_116 1 rfl rfl ?_
                refine pb_isub (pc := 117) d_Expander_symbol_117 ?_
                refine pb_topi (fun i25 ei25 => ?_)
                try have ti25 : i25.toInt = i24.toInt - i17.toInt := t2_sub ei25 rfl rfl (by (exact omg_35838ba919 hNy hNy2 hp hgb ti9 ti14 ti15 ti17 ti18 y2 y3 y4 ti19 tw20 ti24))
                refine pb_iald (pc := 118) d_Expander_symbol_118 4 rfl (vp_in_iff.mpr (by (exact omg_c60df5e4a8 hNy hp hgb ti9 ti14 ti15 ti17 ti18 y2 y3 y4 ti19 tw20 ti24 ti25))) ?_
                refine pb_topi (fun i26 ei26 => ?_)
                have ti26 : i26.toInt = gx kfy (i25.toInt) := gx_ld ei26 rfl
                have y5 := hco.2.2.2 i25.toInt (by (exact omg_7f31d3fb9e hp hgb ti9 ti14 ti15 ti17 y4 ti24 ti25)) (by (exact omg_1b3b53c737 hp ti18 y2 y3 ti19 tw20 ti24 ti25))
                have yv : i26.toInt = nt_ L m.toInt nL.toNat 0 xx := by rw [ti26]; exact cs_at hC hnL (by omega) (by omega) (by (exact omg_4b0a5357d9 hgb ti9 ti14 ti15 ti17 ti19 exx)) (by (exact omg_acbb64b388 hct ti18 exx tw20)) (by (exact omg_badb799da3 hp ti19 exx ti24 ti25))
                exact pb_iret (pc := 119) hQ d_Expander_symbol_119 rfl rfl (i26, i16, fl) ⟨rfl, (by (try dsimp only); first | done | (with_reducible assumption) | omega (splitDisjunctions := false) | assumption | (have y90 := hcs tw6; have y91 := hR tw6; clear hcs hR hm9; first | omega (splitDisjunctions := false) | omega) | omega | decide), (by (try dsimp only); first | done | (with_reducible assumption) | omega (splitDisjunctions := false) | assumption | (have y90 := hcs tw6; have y91 := hR tw6; clear hcs hR hm9; first | omega (splitDisjunctions := false) | omega) | omega | decide), (by (try dsimp only); first | done | (with_reducible assumption) | (exact omg_fa94e12e03 ha ti16) | assumption | (have y90 := hcs tw6; have y91 := hR tw6; clear hcs hR hm9; first | omega (splitDisjunctions := false) | omega) | omega | decide), (by (try dsimp only); first | done | (with_reducible assumption) | (exact omg_7a2756d7e5 tw8 ti16) | assumption | (have y90 := hcs tw6; have y91 := hR tw6; clear hcs hR hm9; first | omega (splitDisjunctions := false) | omega) | omega | decide), (by (try dsimp only); first | done | (with_reducible assumption) | omega (splitDisjunctions := false) | assumption | (have y90 := hcs tw6; have y91 := hR tw6; clear hcs hR hm9; first | omega (splitDisjunctions := false) | omega) | omega | decide), (by (try dsimp only); first | done | (with_reducible assumption) | omega (splitDisjunctions := false) | assumption | exact fun q90 => (by have y90 := hcs tw6; have y91 := hR tw6; clear hcs hR hm9; first | omega (splitDisjunctions := false) | omega) | omega | decide), (show sy_w A en.toInt L nL fl.toInt at_.toInt = oc_ fl.toInt i26.toInt i16.toInt from ((sy_w0 (by omega)).trans ((hR (by omega)).symm.trans (sy_ok (x := xx) (by (exact omg_e766ba8f99 tw2)) hMl (by omega) (by (exact omg_4e273d12d1 ti9 gB ti15 ti17 ti19 exx)) (by omega) yv (by omega) (by omega))))), (by (try dsimp only); first | done | (with_reducible assumption) | omega (splitDisjunctions := false) | assumption | exact fun q90 => (by have y90 := hcs q90; have y91 := hR q90; clear hcs hR hm9; first | omega (splitDisjunctions := false) | omega) | omega | decide)⟩ [0, 1, 2, 3, 4] (by decide) rfl rfl (by decide) (by decide)
            · have tw8 : ¬ a3_.toInt < en.toInt := fun z9 => w8 ((ti_lt rfl rfl).mpr z9)
              refine pb_aload_n (pc := 44) d_Expander_symbol_44 4 rfl rfl ?_
              refine pb_iconst (pc := 45) (v := 1) d_Expander_symbol_45 (by decide) ?_
              refine pb_put (pc := 46) (ty := .int) (ws' := [(h, .inr (5, [.ref ex, .ref et, .ref ea, .ref eb, .ref ec, .ref ed, .ref ef, .ref er, .int a3_, .int en, .int 1])), (er, .inl (G.2.1, N, .inl fr)), (kh, .inr (1, [.ref kc, .ref ky, .int ks])), (kc, .inl (G.2.2.1, 16, .inl kfc)), (ky, .inl (G.2.2.1, Ny, .inl kfy))]) d_Expander_symbol_46 0 10 t_Expander t_Expander_ok n_Expander rfl rfl (by decide) in_Expander k_260 rfl (by decide +kernel) rfl rfl (Nat.le_of_ble_eq_true rfl) rfl ?_
              refine pb_iconst (pc := 49) (v := 0) d_Expander_symbol_49 (by decide) ?_
              exact pb_iret (pc := 50) hQ d_Expander_symbol_50 rfl rfl (0, a3_, 1) ⟨rfl, (by (try dsimp only); first | done | (with_reducible assumption) | omega (splitDisjunctions := false) | assumption | (have y90 := hcs tw6; have y91 := hR tw6; clear hcs hR hm9; first | omega (splitDisjunctions := false) | omega) | omega | decide), (by (try dsimp only); first | done | (with_reducible assumption) | omega (splitDisjunctions := false) | assumption | (have y90 := hcs tw6; have y91 := hR tw6; clear hcs hR hm9; first | omega (splitDisjunctions := false) | omega) | omega | decide), (by (try dsimp only); first | done | (with_reducible assumption) | omega (splitDisjunctions := false) | assumption | (have y90 := hcs tw6; have y91 := hR tw6; clear hcs hR hm9; first | omega (splitDisjunctions := false) | omega) | omega | decide), (by (try dsimp only); first | done | (with_reducible assumption) | omega (splitDisjunctions := false) | assumption | (have y90 := hcs tw6; have y91 := hR tw6; clear hcs hR hm9; first | omega (splitDisjunctions := false) | omega) | omega | decide), (by (try dsimp only); first | done | (with_reducible assumption) | omega (splitDisjunctions := false) | assumption | (have y90 := hcs tw6; have y91 := hR tw6; clear hcs hR hm9; first | omega (splitDisjunctions := false) | omega) | omega | decide), (by (try dsimp only); first | done | (with_reducible assumption) | omega (splitDisjunctions := false) | assumption | exact fun q90 => (by have y90 := hcs tw6; have y91 := hR tw6; clear hcs hR hm9; first | omega (splitDisjunctions := false) | omega) | omega | decide), (show sy_w A en.toInt L nL fl.toInt at_.toInt = oc_ (1 : Int32).toInt (0 : Int32).toInt a3_.toInt from ((sy_w0 (by omega)).trans ((hR (by omega)).symm.trans (sy_1 (by (exact omg_e766ba8f99 tw2)) ((cs_more (hcs (by omega)) hm hm2).mp (by omega)) (by omega) zl1)))), (by (try dsimp only); first | done | (with_reducible assumption) | omega (splitDisjunctions := false) | assumption | exact fun q90 => (by have y90 := hcs tw6; have y91 := hR tw6; clear hcs hR hm9; first | omega (splitDisjunctions := false) | omega) | omega | decide)⟩ [0, 1, 2, 3, 4] (by decide) rfl rfl (by decide) (by decide)
  refine pb_re (ws' := [(h, .inr (5, [.ref ex, .ref et, .ref ea, .ref eb, .ref ec, .ref ed, .ref ef, .ref er, .int at_, .int en, .int fl])), (er, .inl (G.2.1, N, .inl fr)), (kh, .inr (1, [.ref kc, .ref ky, .int ks])), (kc, .inl (G.2.2.1, 16, .inl kfc)), (ky, .inl (G.2.2.1, Ny, .inl kfy))]) (lo' := [(2, .int 0), (3, .int 0), (4, .int 0), (5, .int 1), (0, .ref h), (1, .ref kh)]) [0, 1, 2, 3, 4] [3, 2, 1, 0, 4, 5] (by decide) rfl rfl rfl ?_
  exact hL10_1 _ 0 0 0 1 at_ (by first | (with_reducible assumption) | omega (splitDisjunctions := false) | assumption | (clear hcs; first | omega (splitDisjunctions := false) | omega) | omega | decide) (by first | (with_reducible assumption) | omega (splitDisjunctions := false) | assumption | (clear hcs; first | omega (splitDisjunctions := false) | omega) | omega | decide) (by rw [zl1, zl0]; rfl) (by first | (with_reducible assumption) | omega (splitDisjunctions := false) | assumption | (clear hcs; first | omega (splitDisjunctions := false) | omega) | omega | decide) (by first | (with_reducible assumption) | omega (splitDisjunctions := false) | assumption | (clear hcs; first | omega (splitDisjunctions := false) | omega) | omega | decide) (by rw [zl1, zl0]; decide) (by first | (with_reducible assumption) | omega (splitDisjunctions := false) | assumption | (clear hcs; first | omega (splitDisjunctions := false) | omega) | omega | decide) (by first | (with_reducible assumption) | omega (splitDisjunctions := false) | assumption | (clear hcs; first | omega (splitDisjunctions := false) | omega) | omega | decide) (fun _ => by rw [zl1, zl0]; rfl) (Nat.lt_succ_self _)
