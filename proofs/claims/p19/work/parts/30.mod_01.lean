/-! ROWS OF NUMBERS -/
theorem omg_04d2c0c64d {x0 : Int} {x1 : Int} {x2 : Int} (a0 : ((0 : Int) ≤ x0)) (a1 : (x0 ≤ (1000000 : Int))) (a2 : ((x1 = (0 : Int)) ∨ (x1 = (1 : Int)))) (a3 : ((x1 = (1 : Int)) → (((1 : Int) ≤ x2) ∧ (x2 ≤ (24 : Int))))) (a4 : (¬ (x1 = (0 : Int)))) : (((-(2147483648 : Int)) ≤ (x0 + x2)) ∧ ((x0 + x2) < (2147483648 : Int))) := by omega
theorem omg_577cbf759c {x0 : Int} {x1 : Int} (a0 : ((x0 = (1 : Int)) → (((1 : Int) ≤ x1) ∧ (x1 ≤ (24 : Int))))) (a1 : (x0 = (1 : Int))) : (x1 ≤ (24 : Int)) := by omega
theorem omg_4a5932b457 {x0 : Int} {x1 : Int} (a0 : ((x0 = (1 : Int)) → (((1 : Int) ≤ x1) ∧ (x1 ≤ (24 : Int))))) (a1 : (x0 = (1 : Int))) : ((1 : Int) ≤ x1) := by omega
theorem omg_71594c4e8f {x0 : Int} {x1 : Int} {x2 : Int} {x3 : Int} {x4 : Int} {x5 : Int} (a0 : ((x0 = (1 : Int)) → (((1 : Int) ≤ x1) ∧ (x1 ≤ (24 : Int))))) (a1 : (((1 : Int) ≤ x1) → ((x1 ≤ (24 : Int)) → (x2 ≤ ((x3 + x1) + (1 : Int)))))) (a2 : ((x0 = (1 : Int)) → ((x2 = ((x3 + x1) + (1 : Int))) → (x4 = ((x3 + x1) + (1 : Int)))))) (a3 : (x5 = (x3 + x1))) (a4 : (x5 < x2)) (a5 : (x0 = (1 : Int))) : (x4 = ((x3 + x1) + (1 : Int))) := by omega
theorem omg_bf06e25df8 {x0 : Int} {x1 : Int} {x2 : Int} {x3 : Int} {x4 : Int} {x5 : Int} (a0 : (x0 ≤ x1)) (a1 : (x2 = (x3 + x4))) (a2 : (¬ (x2 < x1))) (a3 : ((x0 = x3) ∨ ((x5 = (47 : Int)) ∨ (x0 = ((x3 + x4) + (1 : Int)))))) : ((x0 = x3) ∨ (x5 = (47 : Int))) := by omega
theorem omg_2e68d70059 {x0 : Int} {x1 : Int} {x2 : Int} {x3 : Nat} {x4 : Int} (a0 : ((Int.toNat (((x0 + x1) + (1 : Int)) - x2)) < (x3 + (1 : Nat)))) (a1 : (x2 < (x0 + x1))) (a2 : (x4 = (x2 + (1 : Int)))) : ((Int.toNat (((x0 + x1) + (1 : Int)) - x4)) < x3) := by omega
theorem omg_f7e32c029d {x0 : Int} {x1 : Nat} {x2 : Int} {x3 : Int} {x4 : Int} {x5 : Int} (a0 : ((0 : Int) ≤ x0)) (a1 : (x1 ≤ (1000000 : Nat))) (a2 : (x0 ≤ x2)) (a3 : (x2 ≤ x3)) (a4 : (x4 = (x0 + x5))) (a5 : (¬ (x4 < x3))) (a6 : ((x0 + x5) ≤ ((x1 : Nat) : Int))) : (((-(2147483648 : Int)) ≤ (x3 + (1 : Int))) ∧ ((x3 + (1 : Int)) < (2147483648 : Int))) := by omega
theorem omg_5018db78c1 {x0 : Int} {x1 : Nat} {x2 : Int} {x3 : Int} {x4 : Int} (a0 : ((0 : Int) ≤ x0)) (a1 : (x1 ≤ (1000000 : Nat))) (a2 : (x0 ≤ x2)) (a3 : (x3 = (x0 + x4))) (a4 : (¬ (x3 < x2))) (a5 : ((x0 + x4) ≤ ((x1 : Nat) : Int))) : (((-(2147483648 : Int)) ≤ (x2 + (1 : Int))) ∧ ((x2 + (1 : Int)) < (2147483648 : Int))) := by omega
theorem omg_a556a8cae0 {x0 : Int} {x1 : Int} {x2 : Int} {x3 : Nat} {x4 : Int} {x5 : Int} (a0 : ((Int.toNat (((x0 + x1) + (1 : Int)) - x2)) < (x3 + (1 : Nat)))) (a1 : (x4 = (x0 + x1))) (a2 : (¬ (x4 < x2))) (a3 : (x5 = (x2 + (1 : Int)))) : ((Int.toNat (((x0 + x1) + (1 : Int)) - x5)) < x3) := by omega
theorem omg_421f35943a {x0 : Int} {x1 : Int} {x2 : Int} {x3 : Int} (a0 : (x0 = (x1 + x2))) (a1 : (¬ (x0 < x3))) : (x3 ≤ (x1 + x2)) := by omega
theorem omg_aeefa2a770 {x0 : Int} {x1 : Int} {x2 : Int} {x3 : Int} {x4 : Int} (a0 : (x0 = (x1 + x2))) (a1 : (¬ (x0 < x3))) (a2 : (x4 = (x3 + (1 : Int)))) : (((1 : Int) ≤ x2) → ((x2 ≤ (24 : Int)) → (x4 ≤ ((x1 + x2) + (1 : Int))))) := by omega
theorem omg_774282cffe {x0 : Int} {x1 : Int} {x2 : Int} (a0 : (x0 = (x1 + (1 : Int)))) (a1 : (x2 = (x1 + (1 : Int)))) : (x0 ≤ x2) := by omega
theorem omg_b4c2612531 {x0 : Int} {x1 : Nat} {x2 : Int} {x3 : Int} {x4 : Int} {x5 : Int} {x6 : Int} (a0 : ((0 : Int) ≤ x0)) (a1 : (x1 ≤ (1000000 : Nat))) (a2 : (x0 ≤ x2)) (a3 : (x3 = (x0 + x4))) (a4 : (¬ (x3 < x5))) (a5 : ((x0 + x4) ≤ ((x1 : Nat) : Int))) (a6 : (x6 = (x5 - x2))) (a7 : (¬ (x6 ≤ (0 : Int)))) : (((-(2147483648 : Int)) ≤ (x5 + (1 : Int))) ∧ ((x5 + (1 : Int)) < (2147483648 : Int))) := by omega
theorem omg_c03ca91bfd {x0 : Int} {x1 : Int} {x2 : Int} {x3 : Int} {x4 : Int} {x5 : Int} (a0 : ((x0 = (0 : Int)) ∨ (x0 = (1 : Int)))) (a1 : ((x0 = (1 : Int)) → (((x1 = (1 : Int)) ∧ (x2 = (46 : Int))) ∨ ((x1 = (2 : Int)) ∧ ((x2 = (46 : Int)) ∧ (x3 = (46 : Int))))))) (a2 : (x1 = (x4 - x5))) (a3 : (¬ (x0 = (0 : Int)))) : ((¬ (x5 < x4)) ∨ ((((x4 - x5) = (1 : Int)) ∧ (x2 = (46 : Int))) ∨ (((x4 - x5) = (2 : Int)) ∧ ((x2 = (46 : Int)) ∧ (x3 = (46 : Int)))))) := by omega
theorem omg_01daf8051b {x0 : Int} {x1 : Int} {x2 : Int} {x3 : Int} {x4 : Int} (a0 : (x0 = (x1 + (1 : Int)))) (a1 : ((x1 = (x2 + x3)) ∨ (x4 = (47 : Int)))) : ((x0 = x2) ∨ ((x4 = (47 : Int)) ∨ (x0 = ((x2 + x3) + (1 : Int))))) := by omega
theorem omg_aa3c743a5f {x0 : Int} {x1 : Int} {x2 : Int} {x3 : Int} {x4 : Int} {x5 : Int} (a0 : ((x0 = (0 : Int)) → (¬ (((x1 = (1 : Int)) ∧ (x2 = (46 : Int))) ∨ ((x1 = (2 : Int)) ∧ ((x2 = (46 : Int)) ∧ (x3 = (46 : Int)))))))) (a1 : (x1 = (x4 - x5))) (a2 : (x0 = (0 : Int))) : (¬ ((((x4 - x5) = (1 : Int)) ∧ (x2 = (46 : Int))) ∨ (((x4 - x5) = (2 : Int)) ∧ ((x2 = (46 : Int)) ∧ (x3 = (46 : Int)))))) := by omega
theorem omg_20c348c8a2 {x0 : Int} {x1 : Nat} {x2 : Int} {x3 : Int} {x4 : Int} {x5 : Int} {x6 : Int} (a0 : ((0 : Int) ≤ x0)) (a1 : (x1 ≤ (1000000 : Nat))) (a2 : (x0 ≤ x2)) (a3 : (x3 = (x0 + x4))) (a4 : (¬ (x3 < x5))) (a5 : ((x0 + x4) ≤ ((x1 : Nat) : Int))) (a6 : (x6 = (x5 - x2))) (a7 : (x6 = (2 : Int))) : (((-(2147483648 : Int)) ≤ (x2 + (1 : Int))) ∧ ((x2 + (1 : Int)) < (2147483648 : Int))) := by omega
theorem omg_e4b551ed1e {x0 : Int} {x1 : Int} {x2 : Int} {x3 : Int} {x4 : Int} {x5 : Nat} {x6 : Int} {x7 : Int} (a0 : ((0 : Int) ≤ x0)) (a1 : (x0 ≤ x1)) (a2 : (x2 = (x0 + x3))) (a3 : (¬ (x2 < x4))) (a4 : ((x0 + x3) ≤ ((x5 : Nat) : Int))) (a5 : (x6 = (x4 - x1))) (a6 : (x6 = (2 : Int))) (a7 : (x7 = (x1 + (1 : Int)))) : (((0 : Int) ≤ x7) ∧ (x7 < ((x5 : Nat) : Int))) := by omega
theorem d_Mod_isOfName_0 : decode prog_12_method_5_code 0 = .ok (.iload_n 0, 1) := by decide +kernel
theorem d_Mod_isOfName_1 : decode prog_12_method_5_code 1 = .ok (.bipush 97, 2) := by decide +kernel
theorem d_Mod_isOfName_3 : decode prog_12_method_5_code 3 = .ok (.if_icmp .lt 9, 3) := by decide +kernel
theorem d_Mod_isOfName_12 : decode prog_12_method_5_code 12 = .ok (.iload_n 0, 1) := by decide +kernel
theorem d_Mod_isOfName_13 : decode prog_12_method_5_code 13 = .ok (.bipush 48, 2) := by decide +kernel
theorem d_Mod_isOfName_15 : decode prog_12_method_5_code 15 = .ok (.if_icmp .lt 9, 3) := by decide +kernel
theorem d_Mod_isOfName_24 : decode prog_12_method_5_code 24 = .ok (.iload_n 0, 1) := by decide +kernel
theorem d_Mod_isOfName_25 : decode prog_12_method_5_code 25 = .ok (.bipush 46, 2) := by decide +kernel
theorem d_Mod_isOfName_27 : decode prog_12_method_5_code 27 = .ok (.if_icmp .eq 9, 3) := by decide +kernel
theorem d_Mod_isOfName_36 : decode prog_12_method_5_code 36 = .ok (.iconst 1, 1) := by decide +kernel
theorem d_Mod_isOfName_37 : decode prog_12_method_5_code 37 = .ok (.goto 4, 3) := by decide +kernel
theorem d_Mod_isOfName_41 : decode prog_12_method_5_code 41 = .ok (.ireturn, 1) := by decide +kernel
theorem d_Mod_isOfName_30 : decode prog_12_method_5_code 30 = .ok (.iload_n 0, 1) := by decide +kernel
theorem d_Mod_isOfName_31 : decode prog_12_method_5_code 31 = .ok (.bipush 95, 2) := by decide +kernel
theorem d_Mod_isOfName_33 : decode prog_12_method_5_code 33 = .ok (.if_icmp .ne 7, 3) := by decide +kernel
theorem d_Mod_isOfName_40 : decode prog_12_method_5_code 40 = .ok (.iconst 0, 1) := by decide +kernel
theorem d_Mod_isOfName_18 : decode prog_12_method_5_code 18 = .ok (.iload_n 0, 1) := by decide +kernel
theorem d_Mod_isOfName_19 : decode prog_12_method_5_code 19 = .ok (.bipush 57, 2) := by decide +kernel
theorem d_Mod_isOfName_21 : decode prog_12_method_5_code 21 = .ok (.if_icmp .le 15, 3) := by decide +kernel
theorem d_Mod_isOfName_6 : decode prog_12_method_5_code 6 = .ok (.iload_n 0, 1) := by decide +kernel
theorem d_Mod_isOfName_7 : decode prog_12_method_5_code 7 = .ok (.bipush 122, 2) := by decide +kernel
theorem d_Mod_isOfName_9 : decode prog_12_method_5_code 9 = .ok (.if_icmp .le 27, 3) := by decide +kernel
abbrev y_Mod_isOfName : MethodName := ⟨"PackageBookModel", "isOfName", "(I)Z"⟩
abbrev i_Mod_isOfName : pb_I := (y_Mod_isOfName, prog_12_method_5_code, 1, (some Jvm.ClassFile.FieldType.boolean), [], { frames := 0, cells := 0, slots := 0, locals := 0 })
set_option maxRecDepth 100000 in
set_option maxHeartbeats 4000000 in
theorem g_Mod_isOfName {l : Launch} (hl : l.stackTraces = false) (G : pb_G) (b : Int32) : Cn l G i_Mod_isOfName [.int b] [] (S := Int32) (fun rv_ u => rv_ = some (.int u) ∧ (u.toInt = 0 ∨ u.toInt = 1) ∧ (u.toInt = 1 → ch_ b.toInt) ∧ (u.toInt = 0 → ¬ ch_ b.toInt)) (fun u => []) := by
  refine Cn.of hl (by decide +kernel) rfl (Nat.le_of_ble_eq_true rfl) (fun M hQ => ?_)
  refine pb_eq (pc' := 0) (lo' := [(0, .int b)]) (rest' := []) (ws' := []) ?_
  have zl0 : (0 : Int32).toInt = 0 := by decide
  have zl1 : (1 : Int32).toInt = 1 := by decide
  refine pb_iload_n (pc := 0) d_Mod_isOfName_0 0 rfl rfl ?_
  refine pb_bipush (pc := 1) (v := 97) d_Mod_isOfName_1 (by decide) ?_
  refine pb_icmp_lt (pc := 3) (tgt := 12) d_Mod_isOfName_3 (by decide) (fun w1 => ?_) (fun w1 => ?_)
  · have tw1 : b.toInt < 97 := (ti_lt rfl (by decide)).mp w1
    refine pb_iload_n (pc := 12) d_Mod_isOfName_12 0 rfl rfl ?_
    refine pb_bipush (pc := 13) (v := 48) d_Mod_isOfName_13 (by decide) ?_
    refine pb_icmp_lt (pc := 15) (tgt := 24) d_Mod_isOfName_15 (by decide) (fun w2 => ?_) (fun w2 => ?_)
    · have tw2 : b.toInt < 48 := (ti_lt rfl (by decide)).mp w2
      refine pb_iload_n (pc := 24) d_Mod_isOfName_24 0 rfl rfl ?_
      refine pb_bipush (pc := 25) (v := 46) d_Mod_isOfName_25 (by decide) ?_
      refine pb_icmp_eq (pc := 27) (tgt := 36) d_Mod_isOfName_27 (by decide) (fun w3 => ?_) (fun w3 => ?_)
      · have tw3 : b.toInt = 46 := (ti_eq rfl (by decide)).mp w3
        refine pb_iconst (pc := 36) (v := 1) d_Mod_isOfName_36 (by decide) ?_
        refine pb_goto (pc := 37) (tgt := 41) d_Mod_isOfName_37 (by decide) ?_
        exact pb_iret (pc := 41) hQ d_Mod_isOfName_41 rfl rfl (1) ⟨rfl, (by (try dsimp only); first | done | (with_reducible assumption) | omega (splitDisjunctions := false) | assumption | omega | decide), (show (1 : Int32).toInt = 1 → ch_ b.toInt from (by first | exact fun q9 => absurd q9 (by omega) | exact fun _ => by unfold ch_; omega)), (show (1 : Int32).toInt = 0 → ¬ ch_ b.toInt from (by first | exact fun q9 => absurd q9 (by omega) | exact fun _ => by unfold ch_; omega))⟩ [] (by decide) rfl rfl (by decide) (by decide)
      · have tw3 : ¬ b.toInt = 46 := fun z9 => w3 ((ti_eq rfl (by decide)).mpr z9)
        refine pb_iload_n (pc := 30) d_Mod_isOfName_30 0 rfl rfl ?_
        refine pb_bipush (pc := 31) (v := 95) d_Mod_isOfName_31 (by decide) ?_
        refine pb_icmp_ne (pc := 33) (tgt := 40) d_Mod_isOfName_33 (by decide) (fun w4 => ?_) (fun w4 => ?_)
        · have tw4 : ¬ b.toInt = 95 := fun z9 => w4 ((ti_eq rfl (by decide)).mpr z9)
          refine pb_iconst (pc := 40) (v := 0) d_Mod_isOfName_40 (by decide) ?_
          exact pb_iret (pc := 41) hQ d_Mod_isOfName_41 rfl rfl (0) ⟨rfl, (by (try dsimp only); first | done | (with_reducible assumption) | omega (splitDisjunctions := false) | assumption | omega | decide), (show (0 : Int32).toInt = 1 → ch_ b.toInt from (by first | exact fun q9 => absurd q9 (by omega) | exact fun _ => by unfold ch_; omega)), (show (0 : Int32).toInt = 0 → ¬ ch_ b.toInt from (by first | exact fun q9 => absurd q9 (by omega) | exact fun _ => by unfold ch_; omega))⟩ [] (by decide) rfl rfl (by decide) (by decide)
        · have tw4 : b.toInt = 95 := (ti_eq rfl (by decide)).mp w4
          refine pb_iconst (pc := 36) (v := 1) d_Mod_isOfName_36 (by decide) ?_
          refine pb_goto (pc := 37) (tgt := 41) d_Mod_isOfName_37 (by decide) ?_
          exact pb_iret (pc := 41) hQ d_Mod_isOfName_41 rfl rfl (1) ⟨rfl, (by (try dsimp only); first | done | (with_reducible assumption) | omega (splitDisjunctions := false) | assumption | omega | decide), (show (1 : Int32).toInt = 1 → ch_ b.toInt from (by first | exact fun q9 => absurd q9 (by omega) | exact fun _ => by unfold ch_; omega)), (show (1 : Int32).toInt = 0 → ¬ ch_ b.toInt from (by first | exact fun q9 => absurd q9 (by omega) | exact fun _ => by unfold ch_; omega))⟩ [] (by decide) rfl rfl (by decide) (by decide)
    · have tw2 : ¬ b.toInt < 48 := fun z9 => w2 ((ti_lt rfl (by decide)).mpr z9)
      refine pb_iload_n (pc := 18) d_Mod_isOfName_18 0 rfl rfl ?_
      refine pb_bipush (pc := 19) (v := 57) d_Mod_isOfName_19 (by decide) ?_
      refine pb_icmp_le (pc := 21) (tgt := 36) d_Mod_isOfName_21 (by decide) (fun w5 => ?_) (fun w5 => ?_)
      · have tw5 : b.toInt ≤ 57 := (ti_le rfl (by decide)).mp w5
        refine pb_iconst (pc := 36) (v := 1) d_Mod_isOfName_36 (by decide) ?_
        refine pb_goto (pc := 37) (tgt := 41) d_Mod_isOfName_37 (by decide) ?_
        exact pb_iret (pc := 41) hQ d_Mod_isOfName_41 rfl rfl (1) ⟨rfl, (by (try dsimp only); first | done | (with_reducible assumption) | omega (splitDisjunctions := false) | assumption | omega | decide), (show (1 : Int32).toInt = 1 → ch_ b.toInt from (by first | exact fun q9 => absurd q9 (by omega) | exact fun _ => by unfold ch_; omega)), (show (1 : Int32).toInt = 0 → ¬ ch_ b.toInt from (by first | exact fun q9 => absurd q9 (by omega) | exact fun _ => by unfold ch_; omega))⟩ [] (by decide) rfl rfl (by decide) (by decide)
      · have tw5 : ¬ b.toInt ≤ 57 := fun z9 => w5 ((ti_le rfl (by decide)).mpr z9)
        refine pb_iload_n (pc := 24) d_Mod_isOfName_24 0 rfl rfl ?_
        refine pb_bipush (pc := 25) (v := 46) d_Mod_isOfName_25 (by decide) ?_
        refine pb_icmp_eq (pc := 27) (tgt := 36) d_Mod_isOfName_27 (by decide) (fun w6 => ?_) (fun w6 => ?_)
        · have tw6 : b.toInt = 46 := (ti_eq rfl (by decide)).mp w6
          refine pb_iconst (pc := 36) (v := 1) d_Mod_isOfName_36 (by decide) ?_
          refine pb_goto (pc := 37) (tgt := 41) d_Mod_isOfName_37 (by decide) ?_
          exact pb_iret (pc := 41) hQ d_Mod_isOfName_41 rfl rfl (1) ⟨rfl, (by (try dsimp only); first | done | (with_reducible assumption) | omega (splitDisjunctions := false) | assumption | omega | decide), (show (1 : Int32).toInt = 1 → ch_ b.toInt from (by first | exact fun q9 => absurd q9 (by omega) | exact fun _ => by unfold ch_; omega)), (show (1 : Int32).toInt = 0 → ¬ ch_ b.toInt from (by first | exact fun q9 => absurd q9 (by omega) | exact fun _ => by unfold ch_; omega))⟩ [] (by decide) rfl rfl (by decide) (by decide)
        · have tw6 : ¬ b.toInt = 46 := fun z9 => w6 ((ti_eq rfl (by decide)).mpr z9)
          refine pb_iload_n (pc := 30) d_Mod_isOfName_30 0 rfl rfl ?_
          refine pb_bipush (pc := 31) (v := 95) d_Mod_isOfName_31 (by decide) ?_
          refine pb_icmp_ne (pc := 33) (tgt := 40) d_Mod_isOfName_33 (by decide) (fun w7 => ?_) (fun w7 => ?_)
          · have tw7 : ¬ b.toInt = 95 := fun z9 => w7 ((ti_eq rfl (by decide)).mpr z9)
            refine pb_iconst (pc := 40) (v := 0) d_Mod_isOfName_40 (by decide) ?_
            exact pb_iret (pc := 41) hQ d_Mod_isOfName_41 rfl rfl (0) ⟨rfl, (by (try dsimp only); first | done | (with_reducible assumption) | omega (splitDisjunctions := false) | assumption | omega | decide), (show (0 : Int32).toInt = 1 → ch_ b.toInt from (by first | exact fun q9 => absurd q9 (by omega) | exact fun _ => by unfold ch_; omega)), (show (0 : Int32).toInt = 0 → ¬ ch_ b.toInt from (by first | exact fun q9 => absurd q9 (by omega) | exact fun _ => by unfold ch_; omega))⟩ [] (by decide) rfl rfl (by decide) (by decide)
          · have tw7 : b.toInt = 95 := (ti_eq rfl (by decide)).mp w7
            refine pb_iconst (pc := 36) (v := 1) d_Mod_isOfName_36 (by decide) ?_
            refine pb_goto (pc := 37) (tgt := 41) d_Mod_isOfName_37 (by decide) ?_
            exact pb_iret (pc := 41) hQ d_Mod_isOfName_41 rfl rfl (1) ⟨rfl, (by (try dsimp only); first | done | (with_reducible assumption) | omega (splitDisjunctions := false) | assumption | omega | decide), (show (1 : Int32).toInt = 1 → ch_ b.toInt from (by first | exact fun q9 => absurd q9 (by omega) | exact fun _ => by unfold ch_; omega)), (show (1 : Int32).toInt = 0 → ¬ ch_ b.toInt from (by first | exact fun q9 => absurd q9 (by omega) | exact fun _ => by unfold ch_; omega))⟩ [] (by decide) rfl rfl (by decide) (by decide)
  · have tw1 : ¬ b.toInt < 97 := fun z9 => w1 ((ti_lt rfl (by decide)).mpr z9)
    refine pb_iload_n (pc := 6) d_Mod_isOfName_6 0 rfl rfl ?_
    refine pb_bipush (pc := 7) (v := 122) d_Mod_isOfName_7 (by decide) ?_
    refine pb_icmp_le (pc := 9) (tgt := 36) d_Mod_isOfName_9 (by decide) (fun w8 => ?_) (fun w8 => ?_)
    · have tw8 : b.toInt ≤ 122 := (ti_le rfl (by decide)).mp w8
      refine pb_iconst (pc := 36) (v := 1) d_Mod_isOfName_36 (by decide) ?_
      refine pb_goto (pc := 37) (tgt := 41) d_Mod_isOfName_37 (by decide) ?_
      exact pb_iret (pc := 41) hQ d_Mod_isOfName_41 rfl rfl (1) ⟨rfl, (by (try dsimp only); first | done | (with_reducible assumption) | omega (splitDisjunctions := false) | assumption | omega | decide), (show (1 : Int32).toInt = 1 → ch_ b.toInt from (by first | exact fun q9 => absurd q9 (by omega) | exact fun _ => by unfold ch_; omega)), (show (1 : Int32).toInt = 0 → ¬ ch_ b.toInt from (by first | exact fun q9 => absurd q9 (by omega) | exact fun _ => by unfold ch_; omega))⟩ [] (by decide) rfl rfl (by decide) (by decide)
    · have tw8 : ¬ b.toInt ≤ 122 := fun z9 => w8 ((ti_le rfl (by decide)).mpr z9)
      refine pb_iload_n (pc := 12) d_Mod_isOfName_12 0 rfl rfl ?_
      refine pb_bipush (pc := 13) (v := 48) d_Mod_isOfName_13 (by decide) ?_
      refine pb_icmp_lt (pc := 15) (tgt := 24) d_Mod_isOfName_15 (by decide) (fun w9 => ?_) (fun w9 => ?_)
      · have tw9 : b.toInt < 48 := (ti_lt rfl (by decide)).mp w9
        refine pb_iload_n (pc := 24) d_Mod_isOfName_24 0 rfl rfl ?_
        refine pb_bipush (pc := 25) (v := 46) d_Mod_isOfName_25 (by decide) ?_
        refine pb_icmp_eq (pc := 27) (tgt := 36) d_Mod_isOfName_27 (by decide) (fun w10 => ?_) (fun w10 => ?_)
        · have tw10 : b.toInt = 46 := (ti_eq rfl (by decide)).mp w10
          refine pb_iconst (pc := 36) (v := 1) d_Mod_isOfName_36 (by decide) ?_
          refine pb_goto (pc := 37) (tgt := 41) d_Mod_isOfName_37 (by decide) ?_
          exact pb_iret (pc := 41) hQ d_Mod_isOfName_41 rfl rfl (1) ⟨rfl, (by (try dsimp only); first | done | (with_reducible assumption) | omega (splitDisjunctions := false) | assumption | omega | decide), (show (1 : Int32).toInt = 1 → ch_ b.toInt from (by first | exact fun q9 => absurd q9 (by omega) | exact fun _ => by unfold ch_; omega)), (show (1 : Int32).toInt = 0 → ¬ ch_ b.toInt from (by first | exact fun q9 => absurd q9 (by omega) | exact fun _ => by unfold ch_; omega))⟩ [] (by decide) rfl rfl (by decide) (by decide)
        · have tw10 : ¬ b.toInt = 46 := fun z9 => w10 ((ti_eq rfl (by decide)).mpr z9)
          refine pb_iload_n (pc := 30) d_Mod_isOfName_30 0 rfl rfl ?_
          refine pb_bipush (pc := 31) (v := 95) d_Mod_isOfName_31 (by decide) ?_
          refine pb_icmp_ne (pc := 33) (tgt := 40) d_Mod_isOfName_33 (by decide) (fun w11 => ?_) (fun w11 => ?_)
          · have tw11 : ¬ b.toInt = 95 := fun z9 => w11 ((ti_eq rfl (by decide)).mpr z9)
            refine pb_iconst (pc := 40) (v := 0) d_Mod_isOfName_40 (by decide) ?_
            exact pb_iret (pc := 41) hQ d_Mod_isOfName_41 rfl rfl (0) ⟨rfl, (by (try dsimp only); first | done | (with_reducible assumption) | omega (splitDisjunctions := false) | assumption | omega | decide), (show (0 : Int32).toInt = 1 → ch_ b.toInt from (by first | exact fun q9 => absurd q9 (by omega) | exact fun _ => by unfold ch_; omega)), (show (0 : Int32).toInt = 0 → ¬ ch_ b.toInt from (by first | exact fun q9 => absurd q9 (by omega) | exact fun _ => by unfold ch_; omega))⟩ [] (by decide) rfl rfl (by decide) (by decide)
          · have tw11 : b.toInt = 95 := (ti_eq rfl (by decide)).mp w11
            refine pb_iconst (pc := 36) (v := 1) d_Mod_isOfName_36 (by decide) ?_
            refine pb_goto (pc := 37) (tgt := 41) d_Mod_isOfName_37 (by decide) ?_
            exact pb_iret (pc := 41) hQ d_Mod_isOfName_41 rfl rfl (1) ⟨rfl, (by (try dsimp only); first | done | (with_reducible assumption) | omega (splitDisjunctions := false) | assumption | omega | decide), (show (1 : Int32).toInt = 1 → ch_ b.toInt from (by first | exact fun q9 => absurd q9 (by omega) | exact fun _ => by unfold ch_; omega)), (show (1 : Int32).toInt = 0 → ¬ ch_ b.toInt from (by first | exact fun q9 => absurd q9 (by omega) | exact fun _ => by unfold ch_; omega))⟩ [] (by decide) rfl rfl (by decide) (by decide)
      · have tw9 : ¬ b.toInt < 48 := fun z9 => w9 ((ti_lt rfl (by decide)).mpr z9)
        refine pb_iload_n (pc := 18) d_Mod_isOfName_18 0 rfl rfl ?_
        refine pb_bipush (pc := 19) (v := 57) d_Mod_isOfName_19 (by decide) ?_
        refine pb_icmp_le (pc := 21) (tgt := 36) d_Mod_isOfName_21 (by decide) (fun w12 => ?_) (fun w12 => ?_)
        · have tw12 : b.toInt ≤ 57 := (ti_le rfl (by decide)).mp w12
          refine pb_iconst (pc := 36) (v := 1) d_Mod_isOfName_36 (by decide) ?_
          refine pb_goto (pc := 37) (tgt := 41) d_Mod_isOfName_37 (by decide) ?_
          exact pb_iret (pc := 41) hQ d_Mod_isOfName_41 rfl rfl (1) ⟨rfl, (by (try dsimp only); first | done | (with_reducible assumption) | omega (splitDisjunctions := false) | assumption | omega | decide), (show (1 : Int32).toInt = 1 → ch_ b.toInt from (by first | exact fun q9 => absurd q9 (by omega) | exact fun _ => by unfold ch_; omega)), (show (1 : Int32).toInt = 0 → ¬ ch_ b.toInt from (by first | exact fun q9 => absurd q9 (by omega) | exact fun _ => by unfold ch_; omega))⟩ [] (by decide) rfl rfl (by decide) (by decide)
        · have tw12 : ¬ b.toInt ≤ 57 := fun z9 => w12 ((ti_le rfl (by decide)).mpr z9)
          refine pb_iload_n (pc := 24) d_Mod_isOfName_24 0 rfl rfl ?_
          refine pb_bipush (pc := 25) (v := 46) d_Mod_isOfName_25 (by decide) ?_
          refine pb_icmp_eq (pc := 27) (tgt := 36) d_Mod_isOfName_27 (by decide) (fun w13 => ?_) (fun w13 => ?_)
          · have tw13 : b.toInt = 46 := (ti_eq rfl (by decide)).mp w13
            refine pb_iconst (pc := 36) (v := 1) d_Mod_isOfName_36 (by decide) ?_
            refine pb_goto (pc := 37) (tgt := 41) d_Mod_isOfName_37 (by decide) ?_
            exact pb_iret (pc := 41) hQ d_Mod_isOfName_41 rfl rfl (1) ⟨rfl, (by (try dsimp only); first | done | (with_reducible assumption) | omega (splitDisjunctions := false) | assumption | omega | decide), (show (1 : Int32).toInt = 1 → ch_ b.toInt from (by first | exact fun q9 => absurd q9 (by omega) | exact fun _ => by unfold ch_; omega)), (show (1 : Int32).toInt = 0 → ¬ ch_ b.toInt from (by first | exact fun q9 => absurd q9 (by omega) | exact fun _ => by unfold ch_; omega))⟩ [] (by decide) rfl rfl (by decide) (by decide)
          · have tw13 : ¬ b.toInt = 46 := fun z9 => w13 ((ti_eq rfl (by decide)).mpr z9)
            refine pb_iload_n (pc := 30) d_Mod_isOfName_30 0 rfl rfl ?_
            refine pb_bipush (pc := 31) (v := 95) d_Mod_isOfName_31 (by decide) ?_
            refine pb_icmp_ne (pc := 33) (tgt := 40) d_Mod_isOfName_33 (by decide) (fun w14 => ?_) (fun w14 => ?_)
            · have tw14 : ¬ b.toInt = 95 := fun z9 => w14 ((ti_eq rfl (by decide)).mpr z9)
              refine pb_iconst (pc := 40) (v := 0) d_Mod_isOfName_40 (by decide) ?_
              exact pb_iret (pc := 41) hQ d_Mod_isOfName_41 rfl rfl (0) ⟨rfl, (by (try dsimp only); first | done | (with_reducible assumption) | omega (splitDisjunctions := false) | assumption | omega | decide), (show (0 : Int32).toInt = 1 → ch_ b.toInt from (by first | exact fun q9 => absurd q9 (by omega) | exact fun _ => by unfold ch_; omega)), (show (0 : Int32).toInt = 0 → ¬ ch_ b.toInt from (by first | exact fun q9 => absurd q9 (by omega) | exact fun _ => by unfold ch_; omega))⟩ [] (by decide) rfl rfl (by decide) (by decide)
            · have tw14 : b.toInt = 95 := (ti_eq rfl (by decide)).mp w14
              refine pb_iconst (pc := 36) (v := 1) d_Mod_isOfName_36 (by decide) ?_
              refine pb_goto (pc := 37) (tgt := 41) d_Mod_isOfName_37 (by decide) ?_
              exact pb_iret (pc := 41) hQ d_Mod_isOfName_41 rfl rfl (1) ⟨rfl, (by (try dsimp only); first | done | (with_reducible assumption) | omega (splitDisjunctions := false) | assumption | omega | decide), (show (1 : Int32).toInt = 1 → ch_ b.toInt from (by first | exact fun q9 => absurd q9 (by omega) | exact fun _ => by unfold ch_; omega)), (show (1 : Int32).toInt = 0 → ¬ ch_ b.toInt from (by first | exact fun q9 => absurd q9 (by omega) | exact fun _ => by unfold ch_; omega))⟩ [] (by decide) rfl rfl (by decide) (by decide)

theorem d_Mod_isName_17 : decode prog_12_method_6_code 17 = .ok (.iload_n 1, 1) := by decide +kernel
theorem d_Mod_isName_18 : decode prog_12_method_6_code 18 = .ok (.istore 4, 2) := by decide +kernel
theorem d_Mod_isName_20 : decode prog_12_method_6_code 20 = .ok (.iload_n 1, 1) := by decide +kernel
theorem d_Mod_isName_21 : decode prog_12_method_6_code 21 = .ok (.istore 5, 2) := by decide +kernel
theorem d_Mod_isName_23 : decode prog_12_method_6_code 23 = .ok (.iload_n 3, 1) := by decide +kernel
theorem d_Mod_isName_24 : decode prog_12_method_6_code 24 = .ok (.ifCond .eq 134, 3) := by decide +kernel
theorem d_Mod_isName_158 : decode prog_12_method_6_code 158 = .ok (.iload_n 3, 1) := by decide +kernel
theorem d_Mod_isName_159 : decode prog_12_method_6_code 159 = .ok (.ireturn, 1) := by decide +kernel
theorem d_Mod_isName_27 : decode prog_12_method_6_code 27 = .ok (.iload 5, 2) := by decide +kernel
theorem d_Mod_isName_29 : decode prog_12_method_6_code 29 = .ok (.iload_n 1, 1) := by decide +kernel
theorem d_Mod_isName_30 : decode prog_12_method_6_code 30 = .ok (.iload_n 2, 1) := by decide +kernel
theorem d_Mod_isName_31 : decode prog_12_method_6_code 31 = .ok (.iadd, 1) := by decide +kernel
theorem d_Mod_isName_32 : decode prog_12_method_6_code 32 = .ok (.if_icmp .gt 126, 3) := by decide +kernel
theorem d_Mod_isName_35 : decode prog_12_method_6_code 35 = .ok (.iload 5, 2) := by decide +kernel
theorem d_Mod_isName_59 : decode prog_12_method_6_code 59 = .ok (.iload 6, 2) := by decide +kernel
theorem d_Mod_isName_61 : decode prog_12_method_6_code 61 = .ok (.ifCond .eq 83, 3) := by decide +kernel
theorem d_Mod_isName_144 : decode prog_12_method_6_code 144 = .ok (.aload_n 0, 1) := by decide +kernel
theorem d_Mod_isName_145 : decode prog_12_method_6_code 145 = .ok (.iload 5, 2) := by decide +kernel
theorem d_Mod_isName_147 : decode prog_12_method_6_code 147 = .ok (.baload, 1) := by decide +kernel
theorem d_Mod_isName_148 : decode prog_12_method_6_code 148 = .ok (.invokestatic 110, 3) := by decide +kernel
theorem k_1323 : (Jvm.Cond.methodLink "PackageBookModel" (110 : Nat) ({ cls := "PackageBookModel", name := "isOfName", desc := "(I)Z" } : Jvm.MethodName)) ∈ uW := uW_of 1323 (by decide +kernel) (by decide +kernel)
theorem k_128 : (Jvm.Cond.initialized "PackageBookModel") ∈ uW := uW_of 128 (by decide +kernel) (by decide +kernel)
theorem k_1325 : (Jvm.Cond.code ({ cls := "PackageBookModel", name := "isOfName", desc := "(I)Z" } : Jvm.MethodName) prog_12_method_5_code (1 : Nat) (Option.some Jvm.ClassFile.FieldType.boolean)) ∈ uW := uW_of 1325 (by decide +kernel) (by decide +kernel)
theorem k_1324 : (Jvm.Cond.static ({ cls := "PackageBookModel", name := "isOfName", desc := "(I)Z" } : Jvm.MethodName)) ∈ uW := uW_of 1324 (by decide +kernel) (by decide +kernel)
theorem hy_Mod_isOfName : (y_Mod_isOfName).cls ≠ "java/lang/invoke/MethodHandle" ∧ (y_Mod_isOfName).cls ≠ "java/lang/invoke/VarHandle" ∧ (parseMethodDescriptor (y_Mod_isOfName).desc).map (fun d => d.parameters.length) = some 1 := by decide +kernel
theorem d_Mod_isName_151 : decode prog_12_method_6_code 151 = .ok (.istore_n 3, 1) := by decide +kernel
theorem d_Mod_isName_152 : decode prog_12_method_6_code 152 = .ok (.iinc 5 1, 3) := by decide +kernel
theorem d_Mod_isName_155 : decode prog_12_method_6_code 155 = .ok (.goto (-132), 3) := by decide +kernel
theorem d_Mod_isName_64 : decode prog_12_method_6_code 64 = .ok (.iload 5, 2) := by decide +kernel
theorem d_Mod_isName_66 : decode prog_12_method_6_code 66 = .ok (.iload 4, 2) := by decide +kernel
theorem d_Mod_isName_68 : decode prog_12_method_6_code 68 = .ok (.isub, 1) := by decide +kernel
theorem d_Mod_isName_69 : decode prog_12_method_6_code 69 = .ok (.istore 7, 2) := by decide +kernel
theorem d_Mod_isName_119 : decode prog_12_method_6_code 119 = .ok (.iload 7, 2) := by decide +kernel
theorem d_Mod_isName_121 : decode prog_12_method_6_code 121 = .ok (.ifCond .le 12, 3) := by decide +kernel
theorem d_Mod_isName_133 : decode prog_12_method_6_code 133 = .ok (.iconst 0, 1) := by decide +kernel
theorem d_Mod_isName_134 : decode prog_12_method_6_code 134 = .ok (.istore_n 3, 1) := by decide +kernel
theorem d_Mod_isName_135 : decode prog_12_method_6_code 135 = .ok (.iload 5, 2) := by decide +kernel
theorem d_Mod_isName_137 : decode prog_12_method_6_code 137 = .ok (.iconst 1, 1) := by decide +kernel
theorem d_Mod_isName_138 : decode prog_12_method_6_code 138 = .ok (.iadd, 1) := by decide +kernel
theorem d_Mod_isName_139 : decode prog_12_method_6_code 139 = .ok (.istore 4, 2) := by decide +kernel
theorem d_Mod_isName_141 : decode prog_12_method_6_code 141 = .ok (.goto 11, 3) := by decide +kernel
theorem d_Mod_isName_124 : decode prog_12_method_6_code 124 = .ok (.iload 8, 2) := by decide +kernel
theorem d_Mod_isName_126 : decode prog_12_method_6_code 126 = .ok (.ifCond .ne 7, 3) := by decide +kernel
theorem d_Mod_isName_129 : decode prog_12_method_6_code 129 = .ok (.iconst 1, 1) := by decide +kernel
theorem d_Mod_isName_130 : decode prog_12_method_6_code 130 = .ok (.goto 4, 3) := by decide +kernel
theorem d_Mod_isName_71 : decode prog_12_method_6_code 71 = .ok (.iload 7, 2) := by decide +kernel
theorem d_Mod_isName_73 : decode prog_12_method_6_code 73 = .ok (.iconst 1, 1) := by decide +kernel
theorem d_Mod_isName_74 : decode prog_12_method_6_code 74 = .ok (.if_icmp .ne 12, 3) := by decide +kernel
theorem d_Mod_isName_86 : decode prog_12_method_6_code 86 = .ok (.iload 7, 2) := by decide +kernel
theorem d_Mod_isName_88 : decode prog_12_method_6_code 88 = .ok (.iconst 2, 1) := by decide +kernel
theorem d_Mod_isName_89 : decode prog_12_method_6_code 89 = .ok (.if_icmp .ne 27, 3) := by decide +kernel
theorem d_Mod_isName_116 : decode prog_12_method_6_code 116 = .ok (.iconst 0, 1) := by decide +kernel
theorem d_Mod_isName_117 : decode prog_12_method_6_code 117 = .ok (.istore 8, 2) := by decide +kernel
theorem d_Mod_isName_92 : decode prog_12_method_6_code 92 = .ok (.aload_n 0, 1) := by decide +kernel
theorem d_Mod_isName_93 : decode prog_12_method_6_code 93 = .ok (.iload 4, 2) := by decide +kernel
theorem d_Mod_isName_95 : decode prog_12_method_6_code 95 = .ok (.baload, 1) := by decide +kernel
theorem d_Mod_isName_96 : decode prog_12_method_6_code 96 = .ok (.bipush 46, 2) := by decide +kernel
theorem d_Mod_isName_98 : decode prog_12_method_6_code 98 = .ok (.if_icmp .ne 18, 3) := by decide +kernel
theorem d_Mod_isName_101 : decode prog_12_method_6_code 101 = .ok (.aload_n 0, 1) := by decide +kernel
theorem d_Mod_isName_102 : decode prog_12_method_6_code 102 = .ok (.iload 4, 2) := by decide +kernel
theorem d_Mod_isName_104 : decode prog_12_method_6_code 104 = .ok (.iconst 1, 1) := by decide +kernel
theorem d_Mod_isName_105 : decode prog_12_method_6_code 105 = .ok (.iadd, 1) := by decide +kernel
theorem d_Mod_isName_106 : decode prog_12_method_6_code 106 = .ok (.baload, 1) := by decide +kernel
theorem d_Mod_isName_107 : decode prog_12_method_6_code 107 = .ok (.bipush 46, 2) := by decide +kernel
theorem d_Mod_isName_109 : decode prog_12_method_6_code 109 = .ok (.if_icmp .ne 7, 3) := by decide +kernel
theorem d_Mod_isName_112 : decode prog_12_method_6_code 112 = .ok (.iconst 1, 1) := by decide +kernel
theorem d_Mod_isName_113 : decode prog_12_method_6_code 113 = .ok (.goto 4, 3) := by decide +kernel
theorem d_Mod_isName_77 : decode prog_12_method_6_code 77 = .ok (.aload_n 0, 1) := by decide +kernel
theorem d_Mod_isName_78 : decode prog_12_method_6_code 78 = .ok (.iload 4, 2) := by decide +kernel
theorem d_Mod_isName_80 : decode prog_12_method_6_code 80 = .ok (.baload, 1) := by decide +kernel
theorem d_Mod_isName_81 : decode prog_12_method_6_code 81 = .ok (.bipush 46, 2) := by decide +kernel
theorem d_Mod_isName_83 : decode prog_12_method_6_code 83 = .ok (.if_icmp .eq 29, 3) := by decide +kernel
theorem d_Mod_isName_37 : decode prog_12_method_6_code 37 = .ok (.iload_n 1, 1) := by decide +kernel
theorem d_Mod_isName_38 : decode prog_12_method_6_code 38 = .ok (.iload_n 2, 1) := by decide +kernel
theorem d_Mod_isName_39 : decode prog_12_method_6_code 39 = .ok (.iadd, 1) := by decide +kernel
theorem d_Mod_isName_40 : decode prog_12_method_6_code 40 = .ok (.if_icmp .eq 12, 3) := by decide +kernel
theorem d_Mod_isName_52 : decode prog_12_method_6_code 52 = .ok (.iconst 1, 1) := by decide +kernel
theorem d_Mod_isName_53 : decode prog_12_method_6_code 53 = .ok (.goto 4, 3) := by decide +kernel
theorem d_Mod_isName_57 : decode prog_12_method_6_code 57 = .ok (.istore 6, 2) := by decide +kernel
theorem d_Mod_isName_43 : decode prog_12_method_6_code 43 = .ok (.aload_n 0, 1) := by decide +kernel
theorem d_Mod_isName_44 : decode prog_12_method_6_code 44 = .ok (.iload 5, 2) := by decide +kernel
theorem d_Mod_isName_46 : decode prog_12_method_6_code 46 = .ok (.baload, 1) := by decide +kernel
theorem d_Mod_isName_47 : decode prog_12_method_6_code 47 = .ok (.bipush 47, 2) := by decide +kernel
theorem d_Mod_isName_49 : decode prog_12_method_6_code 49 = .ok (.if_icmp .ne 7, 3) := by decide +kernel
theorem d_Mod_isName_56 : decode prog_12_method_6_code 56 = .ok (.iconst 0, 1) := by decide +kernel
theorem d_Mod_isName_0 : decode prog_12_method_6_code 0 = .ok (.iload_n 2, 1) := by decide +kernel
theorem d_Mod_isName_1 : decode prog_12_method_6_code 1 = .ok (.iconst 1, 1) := by decide +kernel
theorem d_Mod_isName_2 : decode prog_12_method_6_code 2 = .ok (.if_icmp .lt 13, 3) := by decide +kernel
theorem d_Mod_isName_15 : decode prog_12_method_6_code 15 = .ok (.iconst 0, 1) := by decide +kernel
theorem d_Mod_isName_16 : decode prog_12_method_6_code 16 = .ok (.istore_n 3, 1) := by decide +kernel
theorem d_Mod_isName_5 : decode prog_12_method_6_code 5 = .ok (.iload_n 2, 1) := by decide +kernel
theorem d_Mod_isName_6 : decode prog_12_method_6_code 6 = .ok (.bipush 24, 2) := by decide +kernel
theorem d_Mod_isName_8 : decode prog_12_method_6_code 8 = .ok (.if_icmp .gt 7, 3) := by decide +kernel
theorem d_Mod_isName_11 : decode prog_12_method_6_code 11 = .ok (.iconst 1, 1) := by decide +kernel
theorem d_Mod_isName_12 : decode prog_12_method_6_code 12 = .ok (.goto 4, 3) := by decide +kernel
abbrev y_Mod_isName : MethodName := ⟨"PackageBookModel", "isName", "([BII)Z"⟩
abbrev i_Mod_isName : pb_I := (y_Mod_isName, prog_12_method_6_code, 9, (some Jvm.ClassFile.FieldType.boolean), [], { frames := 1, cells := 0, slots := 0, locals := 20 })
set_option maxRecDepth 100000 in
set_option maxHeartbeats 4000000 in
theorem g_Mod_isName {l : Launch} (hl : l.stackTraces = false) (G : pb_G) (a : Nat) (Na : Nat) (f : Nat → Int32) (x : Int32) (n : Int32) (h0 : 0 ≤ x.toInt) (h1 : 1 ≤ n.toInt → n.toInt ≤ 24 → x.toInt + n.toInt ≤ Na) (h2 : Na ≤ 1000000) (h3 : x.toInt ≤ 1000000) (F_f : sb_Fit f) : Cn l G i_Mod_isName [.ref a, .int x, .int n] [(a, .inl (G.2.1, Na, .inl f))] (S := Int32) (fun rv_ u => rv_ = some (.int u) ∧ (u.toInt = 0 ∨ u.toInt = 1) ∧ (u.toInt = 1 → 1 ≤ n.toInt ∧ n.toInt ≤ 24) ∧ (u.toInt = 1 → iA_ (gx f) x.toInt n.toInt) ∧ (u.toInt = 0 → ¬ iA_ (gx f) x.toInt n.toInt)) (fun u => [(a, .inl (G.2.1, Na, .inl f))]) := by
  refine Cn.of hl (by decide +kernel) rfl (Nat.le_of_ble_eq_true rfl) (fun M hQ => ?_)
  refine pb_eq (pc' := 0) (lo' := [(0, .ref a), (1, .int x), (2, .int n)]) (rest' := []) (ws' := [(a, .inl (G.2.1, Na, .inl f))]) ?_
  have zl0 : (0 : Int32).toInt = 0 := by decide
  have zl1 : (1 : Int32).toInt = 1 := by decide
  have hJ17_1 : ∀ (g0 : Int32), (g0.toInt = 0 ∨ g0.toInt = 1) → (g0.toInt = 1 → 1 ≤ n.toInt ∧ n.toInt ≤ 24) → (g0.toInt = 0 → ¬ (1 ≤ n.toInt ∧ n.toInt ≤ 24)) → pb_P l G M i_Mod_isName 17 [(3, .int g0), (0, .ref a), (1, .int x), (2, .int n)] [] [(a, .inl (G.2.1, Na, .inl f))] 0 0 := by
    intro g0 j0 j1 j2
    refine pb_iload_n (pc := 17) d_Mod_isName_17 2 rfl rfl ?_
    refine pb_istore (pc := 18) (lo' := [(4, .int x), (3, .int g0), (0, .ref a), (1, .int x), (2, .int n)]) d_Mod_isName_18 (by decide) rfl ?_
    refine pb_iload_n (pc := 20) d_Mod_isName_20 3 rfl rfl ?_
    refine pb_istore (pc := 21) (lo' := [(5, .int x), (4, .int x), (3, .int g0), (0, .ref a), (1, .int x), (2, .int n)]) d_Mod_isName_21 (by decide) rfl ?_
    have hL23_2 : ∀ (N9 : Nat) (g1 : Int32) (bg : Int32) (k : Int32), (g1.toInt = 0 ∨ g1.toInt = 1) → (g1.toInt = 1 → 1 ≤ n.toInt ∧ n.toInt ≤ 24) → (x.toInt ≤ k.toInt) → (x.toInt ≤ bg.toInt) → (bg.toInt ≤ k.toInt) → (1 ≤ n.toInt → n.toInt ≤ 24 → k.toInt ≤ x.toInt + n.toInt + 1) → (g1.toInt = 1 → k.toInt = x.toInt + n.toInt + 1 → bg.toInt = x.toInt + n.toInt + 1) → (g1.toInt = 1 → iB_ (gx f) x.toInt n.toInt bg.toInt) → (g1.toInt = 1 → bg.toInt = x.toInt ∨ gx f (bg.toInt - 1) = 47 ∨ bg.toInt = x.toInt + n.toInt + 1) → (g1.toInt = 1 → ∀ j : Int, bg.toInt ≤ j → j < k.toInt → ch_ (gx f j) ∧ ¬ gx f j = 47) → (g1.toInt = 0 → ¬ iA_ (gx f) x.toInt n.toInt) → ((x.toInt + n.toInt + 1 - k.toInt).toNat) < N9 → pb_P l G M i_Mod_isName 23 [(3, .int g1), (4, .int bg), (5, .int k), (0, .ref a), (1, .int x), (2, .int n)] [] [(a, .inl (G.2.1, Na, .inl f))] 0 0 := by
      intro N9
      induction N9 with
      | zero => intro g1 bg k k0 k1 k2 k3 k4 k5 k6 hB hb3 hch hno hm9; exact absurd hm9 (Nat.not_lt_zero _)
      | succ N9 ih23 =>
        intro g1 bg k k0 k1 k2 k3 k4 k5 k6 hB hb3 hch hno hm9
        refine pb_iload_n (pc := 23) d_Mod_isName_23 0 rfl rfl ?_
        refine pb_if_eq (pc := 24) (tgt := 158) d_Mod_isName_24 (by decide) (fun w3 => ?_) (fun w3 => ?_)
        · have tw3 : g1.toInt = 0 := (ti_eq rfl (by decide)).mp w3
          refine pb_iload_n (pc := 158) d_Mod_isName_158 0 rfl rfl ?_
          exact pb_iret (pc := 159) hQ d_Mod_isName_159 rfl (nar_b (by omega)) (g1) ⟨rfl, (by (try dsimp only); first | done | (with_reducible assumption) | omega (splitDisjunctions := false) | assumption | (have y90 := hno tw3; clear h1 j1 j2 k1 k5 k6 hB hb3 hch hno hm9; first | omega (splitDisjunctions := false) | omega) | omega | decide), (by (try dsimp only); first | done | (with_reducible assumption) | omega (splitDisjunctions := false) | assumption | exact fun q90 => (by have y90 := k1 q90; have y91 := k5 y90.1; have y92 := k6 q90; have y93 := hB q90; have y94 := hb3 q90; have y95 := hch q90; have y96 := hno tw3; have y97 := h1 y90.1; have y98 := y91 y90.2; have y99 := y97 y90.2; clear h1 j1 j2 k1 k5 k6 hB hb3 hch hno hm9 y91 y92 y95 y97; first | omega (splitDisjunctions := false) | omega) | omega | decide), (show g1.toInt = 1 → iA_ (gx f) x.toInt n.toInt from (fun q9 => iA_of (hB q9) (by omega) (by omega) (by omega))), (show g1.toInt = 0 → ¬ iA_ (gx f) x.toInt n.toInt from (fun q9 => hno q9))⟩ [0] (by decide) rfl rfl (by decide) (by decide)
        · have tw3 : ¬ g1.toInt = 0 := fun z9 => w3 ((ti_eq rfl (by decide)).mpr z9)
          refine pb_iload (pc := 27) d_Mod_isName_27 2 rfl ?_
          refine pb_iload_n (pc := 29) d_Mod_isName_29 4 rfl rfl ?_
          refine pb_iload_n (pc := 30) d_Mod_isName_30 5 rfl rfl ?_
          refine pb_iadd (pc := 31) d_Mod_isName_31 ?_
          refine pb_topi (fun i4 ei4 => ?_)
          try have ti4 : i4.toInt = x.toInt + n.toInt := t2_add ei4 rfl rfl (by (exact omg_04d2c0c64d h0 h3 k0 k1 tw3))
          refine pb_icmp_gt (pc := 32) (tgt := 158) d_Mod_isName_32 (by decide) (fun w5 => ?_) (fun w5 => ?_)
          · have tw5 : i4.toInt < k.toInt := (ti_lt rfl rfl).mp w5
            refine pb_iload_n (pc := 158) d_Mod_isName_158 0 rfl rfl ?_
            exact pb_iret (pc := 159) hQ d_Mod_isName_159 rfl (nar_b (by omega)) (g1) ⟨rfl, (by (try dsimp only); first | done | (with_reducible assumption) | omega (splitDisjunctions := false) | assumption | (clear h1 j1 j2 k1 k5 k6 hB hb3 hch hno hm9; first | omega (splitDisjunctions := false) | omega) | omega | decide), (by (try dsimp only); first | done | (with_reducible assumption) | omega (splitDisjunctions := false) | assumption | exact fun q90 => (by have y90 := k1 q90; have y91 := k5 y90.1; have y92 := k6 q90; have y93 := hB q90; have y94 := hb3 q90; have y95 := hch q90; have y96 := h1 y90.1; have y97 := y91 y90.2; have y98 := y96 y90.2; clear h1 j1 j2 k1 k5 k6 hB hb3 hch hno hm9 y91 y92 y95 y96; first | omega (splitDisjunctions := false) | omega) | omega | decide), (show g1.toInt = 1 → iA_ (gx f) x.toInt n.toInt from (fun q9 => iA_of (hB q9) (by (exact omg_71594c4e8f k1 k5 k6 ti4 tw5 q9)) (by (exact omg_4a5932b457 k1 q9)) (by (exact omg_577cbf759c k1 q9)))), (show g1.toInt = 0 → ¬ iA_ (gx f) x.toInt n.toInt from (fun q9 => hno q9))⟩ [0] (by decide) rfl rfl (by decide) (by decide)
          · have tw5 : ¬ i4.toInt < k.toInt := fun z9 => w5 ((ti_lt rfl rfl).mpr z9)
            rename ¬ (_ : Int) = 0 => zq
            have G1 : g1.toInt = 1 := by (exact omg_d9c3f42b32 k0 zq)
            have N1 := k1 G1
            have H1 := h1 N1.1 N1.2
            have B1 := hB G1
            have B3 : bg.toInt = x.toInt ∨ gx f (bg.toInt - 1) = 47 := by have q9 := hb3 G1; (exact omg_bf06e25df8 k4 ti4 tw5 q9)
            have B3h := hid_i B3
            have B4 := hch G1
            clear B3 zq j0 j1 j2 k0 k1 k5 k6 hB hb3 hch hno h1
            refine pb_iload (pc := 35) d_Mod_isName_35 2 rfl ?_
            have hJ59_6 : ∀ (en : Int32), (en.toInt = 0 ∨ en.toInt = 1) → (en.toInt = 0 → k.toInt < x.toInt + n.toInt) → (en.toInt = 1 → k.toInt = x.toInt + n.toInt ∨ gx f k.toInt = 47) → (en.toInt = 0 → ¬ gx f k.toInt = 47) → pb_P l G M i_Mod_isName 59 [(6, .int en), (3, .int g1), (4, .int bg), (5, .int k), (0, .ref a), (1, .int x), (2, .int n)] [] [(a, .inl (G.2.1, Na, .inl f))] 0 0 := by
              intro en l0 l1 l2 l3
              refine pb_iload (pc := 59) d_Mod_isName_59 0 rfl ?_
              refine pb_if_eq (pc := 61) (tgt := 144) d_Mod_isName_61 (by decide) (fun w7 => ?_) (fun w7 => ?_)
              · have tw7 : en.toInt = 0 := (ti_eq rfl (by decide)).mp w7
                have L1 := l1 (by omega)
                have L3 := l3 (by omega)
                clear l0 l1 l2 l3
                refine pb_aload_n (pc := 144) d_Mod_isName_144 4 rfl rfl ?_
                refine pb_iload (pc := 145) d_Mod_isName_145 3 rfl ?_
                refine pb_bald (pc := 147) d_Mod_isName_147 0 rfl (vp_in_iff.mpr (by omega)) ?_
                refine pb_topi (fun i8 ei8 => ?_)
                have xi8 : i8 = gr f (k.toInt) := gr_ld ei8 (by omega)
                have yi8 : i8.toInt = gx f (k.toInt) := congrArg Int32.toInt xi8
                refine pb_callS (pc := 148) (I := i_Mod_isName) (nA := 1) (rest := []) (wr := [(a, .inl (G.2.1, Na, .inl f))]) d_Mod_isName_148 (g_Mod_isOfName hl G i8) [] [0] (by decide) rfl rfl rfl (by decide) (by decide) k_1325 rfl k_128 k_1323 k_1324 hy_Mod_isOfName (by decide) rfl rfl (Nat.le_of_ble_eq_true rfl) (by decide) (fun v9 u10 ch9 => ?_)
                obtain ⟨r_11, rfl⟩ : ∃ z9, z9 = u10 := ⟨_, rfl⟩
                obtain ⟨ech9, ch9⟩ := ch9
                have ech9 : v9 = some (.int r_11) := ech9
                subst ech9
                obtain ⟨fh12, fh13, fh14⟩ : (r_11.toInt = 0 ∨ r_11.toInt = 1) ∧ (r_11.toInt = 1 → ch_ i8.toInt) ∧ (r_11.toInt = 0 → ¬ ch_ i8.toInt) := ch9
                have cF1 := fh13
                have cF0 := fh14
                rw [show i8.toInt = gx f k.toInt by omega] at cF1 cF0
                refine pb_eq (pc' := 151) (lo' := [(6, .int en), (3, .int g1), (4, .int bg), (5, .int k), (0, .ref a), (1, .int x), (2, .int n)]) (rest' := [.int r_11]) (ws' := [(a, .inl (G.2.1, Na, .inl f))]) ?_
                refine pb_istore_n (pc := 151) (lo' := [(3, .int r_11), (6, .int en), (4, .int bg), (5, .int k), (0, .ref a), (1, .int x), (2, .int n)]) d_Mod_isName_151 rfl (by decide) rfl ?_
                refine pb_iincN (pc := 152) (c := 1) d_Mod_isName_152 3 rfl (by decide) (by decide) (fun i15 ei15 => ?_)
                have ti15 : i15.toInt = k.toInt + 1 := t2_add ei15 rfl (by decide) (by first | omega | (have r90 := ti_rng k; have r91 := ti_rng i15; have r92 := ti_rng r_11; have r93 := ti_rng en; have r94 := ti_rng bg; have r95 := ti_rng x; have r96 := ti_rng n; omega))
                refine pb_eq (pc' := 155) (lo' := [(5, .int i15), (3, .int r_11), (6, .int en), (4, .int bg), (0, .ref a), (1, .int x), (2, .int n)]) (rest' := []) (ws' := [(a, .inl (G.2.1, Na, .inl f))]) ?_
                refine pb_goto (pc := 155) (tgt := 23) d_Mod_isName_155 (by decide) ?_
                refine pb_re (ws' := [(a, .inl (G.2.1, Na, .inl f))]) (lo' := [(3, .int r_11), (4, .int bg), (5, .int i15), (0, .ref a), (1, .int x), (2, .int n)]) [0] [1, 3, 0, 4, 5, 6] (by decide) rfl rfl rfl ?_
                exact ih23 r_11 bg i15 (by first | (with_reducible assumption) | omega (splitDisjunctions := false) | assumption | (clear fh13 fh14 hm9; first | omega (splitDisjunctions := false) | omega) | omega | decide) (by first | (with_reducible assumption) | omega (splitDisjunctions := false) | assumption | exact fun q90 => (by have y90 := fh13 q90; clear fh13 fh14 hm9; first | omega (splitDisjunctions := false) | omega) | omega | decide) (by first | (with_reducible assumption) | omega (splitDisjunctions := false) | assumption | (clear fh13 fh14 hm9; first | omega (splitDisjunctions := false) | omega) | omega | decide) (by first | (with_reducible assumption) | omega (splitDisjunctions := false) | assumption | (clear fh13 fh14 hm9; first | omega (splitDisjunctions := false) | omega) | omega | decide) (by first | (with_reducible assumption) | omega (splitDisjunctions := false) | assumption | (clear fh13 fh14 hm9; first | omega (splitDisjunctions := false) | omega) | omega | decide) (by first | (with_reducible assumption) | omega (splitDisjunctions := false) | assumption | exact fun q90 q91 => (by clear fh13 fh14 hm9; first | omega (splitDisjunctions := false) | omega) | omega | decide) (by first | (with_reducible assumption) | omega (splitDisjunctions := false) | assumption | exact fun q90 q91 => (by have y90 := fh13 q90; clear fh13 fh14 hm9; first | omega (splitDisjunctions := false) | omega) | omega | decide) (by first | exact fun q9 => absurd q9 (by decide) | exact fun _ => B1 | exact fun _ => iB_s B1 (by omega) (hid_o B3h) (by omega) (fun j h0 h1 => (B4 j h0 h1).2) (by omega) (pe_r (by omega) (fun j h0 h1 => (B4 j h0 h1).1) (by omega)) (by omega)) (by first | exact fun q9 => absurd q9 (by decide) | exact fun _ => (hid_o B3h).elim Or.inl (fun q8 => Or.inr (Or.inl q8)) | exact fun _ => by have q8 := hid_o L2h; rw [show bg.toInt - 1 = k.toInt by omega]; omega) (by first | exact fun q9 => absurd q9 (by decide) | exact fun _ => lq_st B4 (by omega) ⟨cF1 (by omega), by omega⟩ | exact fun _ j h0 h1 => absurd h1 (by omega)) (by first | exact fun q9 => absurd q9 (by decide) | exact fun _ => iA_no (by omega) (hid_o B3h) (by omega) (by omega) (fun j h0 h1 => (B4 j h0 h1).2) (hid_o L2h) (pe_q (by omega)) | exact fun _ => iA_ch (by omega) (hid_o B3h) (by omega) (by omega) (fun j h0 h1 => (B4 j h0 h1).2) (cF0 (by omega)) (by omega)) (by first | (clear fh13 fh14; (exact omg_2e68d70059 hm9 L1 ti15)) | omega)
              · have tw7 : ¬ en.toInt = 0 := fun z9 => w7 ((ti_eq rfl (by decide)).mpr z9)
                rename ¬ (_ : Int) = 0 => zq
                have L2h := hid_i (l2 (by (exact omg_d9c3f42b32 l0 zq)))
                clear zq l0 l1 l2 l3
                refine pb_iload (pc := 64) d_Mod_isName_64 3 rfl ?_
                refine pb_iload (pc := 66) d_Mod_isName_66 2 rfl ?_
                refine pb_isub (pc := 68) d_Mod_isName_68 ?_
                refine pb_topi (fun i16 ei16 => ?_)
                try have ti16 : i16.toInt = k.toInt - bg.toInt := t2_sub ei16 rfl rfl (by omega)
                refine pb_istore (pc := 69) (lo' := [(7, .int i16), (6, .int en), (3, .int g1), (4, .int bg), (5, .int k), (0, .ref a), (1, .int x), (2, .int n)]) d_Mod_isName_69 (by decide) rfl ?_
                have hJ119_17 : ∀ (dt : Int32) (pc_ : Int32), (dt.toInt = 0 ∨ dt.toInt = 1) → (dt.toInt = 1 → (pc_.toInt = 1 ∧ gx f bg.toInt = 46 ∨ pc_.toInt = 2 ∧ gx f bg.toInt = 46 ∧ gx f (bg.toInt + 1) = 46)) → (dt.toInt = 0 → ¬ (pc_.toInt = 1 ∧ gx f bg.toInt = 46 ∨ pc_.toInt = 2 ∧ gx f bg.toInt = 46 ∧ gx f (bg.toInt + 1) = 46)) → (pc_.toInt = k.toInt - bg.toInt) → pb_P l G M i_Mod_isName 119 [(8, .int dt), (7, .int pc_), (3, .int g1), (4, .int bg), (5, .int k), (0, .ref a), (1, .int x), (2, .int n)] [] [(a, .inl (G.2.1, Na, .inl f))] 0 0 := by
                  intro dt pc_ d0 d1 d2 d3
                  refine pb_iload (pc := 119) d_Mod_isName_119 1 rfl ?_
                  refine pb_if_le (pc := 121) (tgt := 133) d_Mod_isName_121 (by decide) (fun w18 => ?_) (fun w18 => ?_)
                  · have tw18 : pc_.toInt ≤ 0 := (ti_le rfl (by decide)).mp w18
                    refine pb_iconst (pc := 133) (v := 0) d_Mod_isName_133 (by decide) ?_
                    refine pb_istore_n (pc := 134) (lo' := [(3, .int 0), (8, .int dt), (7, .int pc_), (4, .int bg), (5, .int k), (0, .ref a), (1, .int x), (2, .int n)]) d_Mod_isName_134 rfl (by decide) rfl ?_
                    refine pb_iload (pc := 135) d_Mod_isName_135 4 rfl ?_
                    refine pb_iconst (pc := 137) (v := 1) d_Mod_isName_137 (by decide) ?_
                    refine pb_iadd (pc := 138) d_Mod_isName_138 ?_
                    refine pb_topi (fun i19 ei19 => ?_)
                    try have ti19 : i19.toInt = k.toInt + 1 := t2_add ei19 rfl (by decide) (by (exact omg_f7e32c029d h0 h2 k3 k4 ti4 tw5 H1))
                    refine pb_istore (pc := 139) (lo' := [(4, .int i19), (3, .int 0), (8, .int dt), (7, .int pc_), (5, .int k), (0, .ref a), (1, .int x), (2, .int n)]) d_Mod_isName_139 (by decide) rfl ?_
                    refine pb_goto (pc := 141) (tgt := 152) d_Mod_isName_141 (by decide) ?_
                    refine pb_iincN (pc := 152) (c := 1) d_Mod_isName_152 4 rfl (by decide) (by decide) (fun i20 ei20 => ?_)
                    have ti20 : i20.toInt = k.toInt + 1 := t2_add ei20 rfl (by decide) (by first | (exact omg_5018db78c1 h0 h2 k2 ti4 tw5 H1) | (have r90 := ti_rng k; have r91 := ti_rng i20; have r92 := ti_rng i19; have r93 := ti_rng dt; have r94 := ti_rng pc_; have r95 := ti_rng x; have r96 := ti_rng n; omega))
                    refine pb_eq (pc' := 155) (lo' := [(5, .int i20), (4, .int i19), (3, .int 0), (8, .int dt), (7, .int pc_), (0, .ref a), (1, .int x), (2, .int n)]) (rest' := []) (ws' := [(a, .inl (G.2.1, Na, .inl f))]) ?_
                    refine pb_goto (pc := 155) (tgt := 23) d_Mod_isName_155 (by decide) ?_
                    refine pb_re (ws' := [(a, .inl (G.2.1, Na, .inl f))]) (lo' := [(3, .int 0), (4, .int i19), (5, .int i20), (0, .ref a), (1, .int x), (2, .int n)]) [0] [2, 1, 0, 5, 6, 7] (by decide) rfl rfl rfl ?_
                    exact ih23 0 i19 i20 (by first | (with_reducible assumption) | omega (splitDisjunctions := false) | assumption | (clear d1 d2 hm9; first | omega (splitDisjunctions := false) | omega) | omega | decide) (by first | (with_reducible assumption) | omega (splitDisjunctions := false) | assumption | exact fun q90 => (by clear d1 d2 hm9; first | omega (splitDisjunctions := false) | omega) | omega | decide) (by first | (with_reducible assumption) | (exact omg_fa94e12e03 k2 ti20) | assumption | (clear d1 d2 hm9; first | omega (splitDisjunctions := false) | omega) | omega | decide) (by first | (with_reducible assumption) | (exact omg_fa94e12e03 k2 ti19) | assumption | (clear d1 d2 hm9; first | omega (splitDisjunctions := false) | omega) | omega | decide) (by first | (with_reducible assumption) | (exact omg_774282cffe ti19 ti20) | assumption | (clear d1 d2 hm9; first | omega (splitDisjunctions := false) | omega) | omega | decide) (by first | (with_reducible assumption) | (exact omg_aeefa2a770 ti4 tw5 ti20) | assumption | exact fun q90 q91 => (by clear d1 d2 hm9; first | omega (splitDisjunctions := false) | omega) | omega | decide) (by first | (with_reducible assumption) | omega (splitDisjunctions := false) | assumption | exact fun q90 q91 => (by clear d1 d2 hm9; first | omega (splitDisjunctions := false) | omega) | omega | decide) (by first | exact fun q9 => absurd q9 (by decide) | exact fun _ => B1 | exact fun _ => iB_s B1 (by omega) (hid_o B3h) (by omega) (fun j h0 h1 => (B4 j h0 h1).2) (by omega) (pe_r (by omega) (fun j h0 h1 => (B4 j h0 h1).1) (by omega)) (by omega)) (by first | exact fun q9 => absurd q9 (by decide) | exact fun _ => (hid_o B3h).elim Or.inl (fun q8 => Or.inr (Or.inl q8)) | exact fun _ => by have q8 := hid_o L2h; rw [show i19.toInt - 1 = k.toInt by omega]; omega) (by first | exact fun q9 => absurd q9 (by decide) | exact fun _ => lq_st B4 (by omega) ⟨cF1 (by omega), by omega⟩ | exact fun _ j h0 h1 => absurd h1 (by omega)) (by first | exact fun q9 => absurd q9 (by decide) | exact fun _ => iA_no (by omega) (hid_o B3h) (by omega) (by (exact omg_421f35943a ti4 tw5)) (fun j h0 h1 => (B4 j h0 h1).2) (hid_o L2h) (pe_q (by omega)) | exact fun _ => iA_ch (by omega) (hid_o B3h) (by omega) (by omega) (fun j h0 h1 => (B4 j h0 h1).2) (cF0 (by omega)) (by omega)) (by first | (clear d1 d2; (exact omg_a556a8cae0 hm9 ti4 tw5 ti20)) | omega)
                  · have tw18 : ¬ pc_.toInt ≤ 0 := fun z9 => w18 ((ti_le rfl (by decide)).mpr z9)
                    refine pb_iload (pc := 124) d_Mod_isName_124 0 rfl ?_
                    refine pb_if_ne (pc := 126) (tgt := 133) d_Mod_isName_126 (by decide) (fun w21 => ?_) (fun w21 => ?_)
                    · have tw21 : ¬ dt.toInt = 0 := fun z9 => w21 ((ti_eq rfl (by decide)).mpr z9)
                      refine pb_iconst (pc := 133) (v := 0) d_Mod_isName_133 (by decide) ?_
                      refine pb_istore_n (pc := 134) (lo' := [(3, .int 0), (8, .int dt), (7, .int pc_), (4, .int bg), (5, .int k), (0, .ref a), (1, .int x), (2, .int n)]) d_Mod_isName_134 rfl (by decide) rfl ?_
                      refine pb_iload (pc := 135) d_Mod_isName_135 4 rfl ?_
                      refine pb_iconst (pc := 137) (v := 1) d_Mod_isName_137 (by decide) ?_
                      refine pb_iadd (pc := 138) d_Mod_isName_138 ?_
                      refine pb_topi (fun i22 ei22 => ?_)
                      try have ti22 : i22.toInt = k.toInt + 1 := t2_add ei22 rfl (by decide) (by (exact omg_b4c2612531 h0 h2 k3 ti4 tw5 H1 d3 tw18))
                      refine pb_istore (pc := 139) (lo' := [(4, .int i22), (3, .int 0), (8, .int dt), (7, .int pc_), (5, .int k), (0, .ref a), (1, .int x), (2, .int n)]) d_Mod_isName_139 (by decide) rfl ?_
                      refine pb_goto (pc := 141) (tgt := 152) d_Mod_isName_141 (by decide) ?_
                      refine pb_iincN (pc := 152) (c := 1) d_Mod_isName_152 4 rfl (by decide) (by decide) (fun i23 ei23 => ?_)
                      have ti23 : i23.toInt = k.toInt + 1 := t2_add ei23 rfl (by decide) (by first | (exact omg_b4c2612531 h0 h2 k3 ti4 tw5 H1 d3 tw18) | (have r90 := ti_rng k; have r91 := ti_rng i23; have r92 := ti_rng i22; have r93 := ti_rng dt; have r94 := ti_rng pc_; have r95 := ti_rng x; have r96 := ti_rng n; omega))
                      refine pb_eq (pc' := 155) (lo' := [(5, .int i23), (4, .int i22), (3, .int 0), (8, .int dt), (7, .int pc_), (0, .ref a), (1, .int x), (2, .int n)]) (rest' := []) (ws' := [(a, .inl (G.2.1, Na, .inl f))]) ?_
                      refine pb_goto (pc := 155) (tgt := 23) d_Mod_isName_155 (by decide) ?_
                      refine pb_re (ws' := [(a, .inl (G.2.1, Na, .inl f))]) (lo' := [(3, .int 0), (4, .int i22), (5, .int i23), (0, .ref a), (1, .int x), (2, .int n)]) [0] [2, 1, 0, 5, 6, 7] (by decide) rfl rfl rfl ?_
                      exact ih23 0 i22 i23 (by first | (with_reducible assumption) | omega (splitDisjunctions := false) | assumption | (clear d1 d2 hm9; first | omega (splitDisjunctions := false) | omega) | omega | decide) (by first | (with_reducible assumption) | omega (splitDisjunctions := false) | assumption | exact fun q90 => (by clear d1 d2 hm9; first | omega (splitDisjunctions := false) | omega) | omega | decide) (by first | (with_reducible assumption) | (exact omg_fa94e12e03 k2 ti23) | assumption | (clear d1 d2 hm9; first | omega (splitDisjunctions := false) | omega) | omega | decide) (by first | (with_reducible assumption) | (exact omg_fa94e12e03 k2 ti22) | assumption | (clear d1 d2 hm9; first | omega (splitDisjunctions := false) | omega) | omega | decide) (by first | (with_reducible assumption) | omega (splitDisjunctions := false) | assumption | (clear d1 d2 hm9; first | omega (splitDisjunctions := false) | omega) | omega | decide) (by first | (with_reducible assumption) | (exact omg_aeefa2a770 ti4 tw5 ti23) | assumption | exact fun q90 q91 => (by clear d1 d2 hm9; first | omega (splitDisjunctions := false) | omega) | omega | decide) (by first | (with_reducible assumption) | omega (splitDisjunctions := false) | assumption | exact fun q90 q91 => (by clear d1 d2 hm9; first | omega (splitDisjunctions := false) | omega) | omega | decide) (by first | exact fun q9 => absurd q9 (by decide) | exact fun _ => B1 | exact fun _ => iB_s B1 (by omega) (hid_o B3h) (by omega) (fun j h0 h1 => (B4 j h0 h1).2) (by omega) (pe_r (by omega) (fun j h0 h1 => (B4 j h0 h1).1) (by omega)) (by omega)) (by first | exact fun q9 => absurd q9 (by decide) | exact fun _ => (hid_o B3h).elim Or.inl (fun q8 => Or.inr (Or.inl q8)) | exact fun _ => by have q8 := hid_o L2h; rw [show i22.toInt - 1 = k.toInt by omega]; omega) (by first | exact fun q9 => absurd q9 (by decide) | exact fun _ => lq_st B4 (by omega) ⟨cF1 (by omega), by omega⟩ | exact fun _ j h0 h1 => absurd h1 (by omega)) (by first | exact fun q9 => absurd q9 (by decide) | exact fun _ => iA_no (by omega) (hid_o B3h) (by omega) (by (exact omg_421f35943a ti4 tw5)) (fun j h0 h1 => (B4 j h0 h1).2) (hid_o L2h) (pe_q (by (exact omg_c03ca91bfd d0 d1 d3 tw21))) | exact fun _ => iA_ch (by omega) (hid_o B3h) (by omega) (by omega) (fun j h0 h1 => (B4 j h0 h1).2) (cF0 (by omega)) (by omega)) (by first | (clear d1 d2; (exact omg_a556a8cae0 hm9 ti4 tw5 ti23)) | omega)
                    · have tw21 : dt.toInt = 0 := (ti_eq rfl (by decide)).mp w21
                      refine pb_iconst (pc := 129) (v := 1) d_Mod_isName_129 (by decide) ?_
                      refine pb_goto (pc := 130) (tgt := 134) d_Mod_isName_130 (by decide) ?_
                      refine pb_istore_n (pc := 134) (lo' := [(3, .int 1), (8, .int dt), (7, .int pc_), (4, .int bg), (5, .int k), (0, .ref a), (1, .int x), (2, .int n)]) d_Mod_isName_134 rfl (by decide) rfl ?_
                      refine pb_iload (pc := 135) d_Mod_isName_135 4 rfl ?_
                      refine pb_iconst (pc := 137) (v := 1) d_Mod_isName_137 (by decide) ?_
                      refine pb_iadd (pc := 138) d_Mod_isName_138 ?_
                      refine pb_topi (fun i24 ei24 => ?_)
                      try have ti24 : i24.toInt = k.toInt + 1 := t2_add ei24 rfl (by decide) (by (exact omg_b4c2612531 h0 h2 k3 ti4 tw5 H1 d3 tw18))
                      refine pb_istore (pc := 139) (lo' := [(4, .int i24), (3, .int 1), (8, .int dt), (7, .int pc_), (5, .int k), (0, .ref a), (1, .int x), (2, .int n)]) d_Mod_isName_139 (by decide) rfl ?_
                      refine pb_goto (pc := 141) (tgt := 152) d_Mod_isName_141 (by decide) ?_
                      refine pb_iincN (pc := 152) (c := 1) d_Mod_isName_152 4 rfl (by decide) (by decide) (fun i25 ei25 => ?_)
                      have ti25 : i25.toInt = k.toInt + 1 := t2_add ei25 rfl (by decide) (by first | (exact omg_b4c2612531 h0 h2 k3 ti4 tw5 H1 d3 tw18) | (have r90 := ti_rng k; have r91 := ti_rng i25; have r92 := ti_rng i24; have r93 := ti_rng dt; have r94 := ti_rng pc_; have r95 := ti_rng x; have r96 := ti_rng n; omega))
                      refine pb_eq (pc' := 155) (lo' := [(5, .int i25), (4, .int i24), (3, .int 1), (8, .int dt), (7, .int pc_), (0, .ref a), (1, .int x), (2, .int n)]) (rest' := []) (ws' := [(a, .inl (G.2.1, Na, .inl f))]) ?_
                      refine pb_goto (pc := 155) (tgt := 23) d_Mod_isName_155 (by decide) ?_
                      refine pb_re (ws' := [(a, .inl (G.2.1, Na, .inl f))]) (lo' := [(3, .int 1), (4, .int i24), (5, .int i25), (0, .ref a), (1, .int x), (2, .int n)]) [0] [2, 1, 0, 5, 6, 7] (by decide) rfl rfl rfl ?_
                      exact ih23 1 i24 i25 (by first | (with_reducible assumption) | omega (splitDisjunctions := false) | assumption | (have y90 := d2 tw21; clear d1 d2 hm9; first | omega (splitDisjunctions := false) | omega) | omega | decide) (by first | (with_reducible assumption) | omega (splitDisjunctions := false) | assumption | exact fun q90 => (by have y90 := d2 tw21; clear d1 d2 hm9; first | omega (splitDisjunctions := false) | omega) | omega | decide) (by first | (with_reducible assumption) | (exact omg_fa94e12e03 k2 ti25) | assumption | (have y90 := d2 tw21; clear d1 d2 hm9; first | omega (splitDisjunctions := false) | omega) | omega | decide) (by first | (with_reducible assumption) | (exact omg_fa94e12e03 k2 ti24) | assumption | (have y90 := d2 tw21; clear d1 d2 hm9; first | omega (splitDisjunctions := false) | omega) | omega | decide) (by first | (with_reducible assumption) | (exact omg_774282cffe ti24 ti25) | assumption | (have y90 := d2 tw21; clear d1 d2 hm9; first | omega (splitDisjunctions := false) | omega) | omega | decide) (by first | (with_reducible assumption) | (exact omg_aeefa2a770 ti4 tw5 ti25) | assumption | exact fun q90 q91 => (by have y90 := d2 tw21; clear d1 d2 hm9; first | omega (splitDisjunctions := false) | omega) | omega | decide) (by first | (with_reducible assumption) | omega (splitDisjunctions := false) | assumption | exact fun q90 q91 => (by have y90 := d2 tw21; clear d1 d2 hm9; first | omega (splitDisjunctions := false) | omega) | omega | decide) (by first | exact fun q9 => absurd q9 (by decide) | exact fun _ => B1 | exact fun _ => iB_s B1 (by omega) (hid_o B3h) (by omega) (fun j h0 h1 => (B4 j h0 h1).2) (by (exact omg_421f35943a ti4 tw5)) (pe_r (by omega) (fun j h0 h1 => (B4 j h0 h1).1) (by (exact omg_aa3c743a5f d2 d3 tw21))) (by omega)) (by first | exact fun q9 => absurd q9 (by decide) | exact fun _ => (hid_o B3h).elim Or.inl (fun q8 => Or.inr (Or.inl q8)) | exact fun _ => by have q8 := hid_o L2h; rw [show i24.toInt - 1 = k.toInt by omega]; (exact omg_01daf8051b ti24 q8)) (by first | exact fun q9 => absurd q9 (by decide) | exact fun _ => lq_st B4 (by omega) ⟨cF1 (by omega), by omega⟩ | exact fun _ j h0 h1 => absurd h1 (by omega)) (by first | exact fun q9 => absurd q9 (by decide) | exact fun _ => iA_no (by omega) (hid_o B3h) (by omega) (by omega) (fun j h0 h1 => (B4 j h0 h1).2) (hid_o L2h) (pe_q (by omega)) | exact fun _ => iA_ch (by omega) (hid_o B3h) (by omega) (by omega) (fun j h0 h1 => (B4 j h0 h1).2) (cF0 (by omega)) (by omega)) (by first | (have y90 := d2 tw21; clear d1 d2; (exact omg_a556a8cae0 hm9 ti4 tw5 ti25)) | omega)
                refine pb_iload (pc := 71) d_Mod_isName_71 0 rfl ?_
                refine pb_iconst (pc := 73) (v := 1) d_Mod_isName_73 (by decide) ?_
                refine pb_icmp_ne (pc := 74) (tgt := 86) d_Mod_isName_74 (by decide) (fun w26 => ?_) (fun w26 => ?_)
                · have tw26 : ¬ i16.toInt = 1 := fun z9 => w26 ((ti_eq rfl (by decide)).mpr z9)
                  refine pb_iload (pc := 86) d_Mod_isName_86 0 rfl ?_
                  refine pb_iconst (pc := 88) (v := 2) d_Mod_isName_88 (by decide) ?_
                  refine pb_icmp_ne (pc := 89) (tgt := 116) d_Mod_isName_89 (by decide) (fun w27 => ?_) (fun w27 => ?_)
                  · have tw27 : ¬ i16.toInt = 2 := fun z9 => w27 ((ti_eq rfl (by decide)).mpr z9)
                    refine pb_iconst (pc := 116) (v := 0) d_Mod_isName_116 (by decide) ?_
                    refine pb_istore (pc := 117) (lo' := [(8, .int 0), (7, .int i16), (6, .int en), (3, .int g1), (4, .int bg), (5, .int k), (0, .ref a), (1, .int x), (2, .int n)]) d_Mod_isName_117 (by decide) rfl ?_
                    refine pb_re (ws' := [(a, .inl (G.2.1, Na, .inl f))]) (lo' := [(8, .int 0), (7, .int i16), (3, .int g1), (4, .int bg), (5, .int k), (0, .ref a), (1, .int x), (2, .int n)]) [0] [0, 1, 3, 4, 5, 6, 7, 8] (by decide) rfl rfl rfl ?_
                    exact hJ119_17 0 i16 (by first | (with_reducible assumption) | omega (splitDisjunctions := false) | assumption | omega | decide) (by first | (with_reducible assumption) | omega (splitDisjunctions := false) | assumption | omega | decide) (by first | (with_reducible assumption) | omega (splitDisjunctions := false) | assumption | omega | decide) (by first | (with_reducible assumption) | omega (splitDisjunctions := false) | assumption | omega | decide)
                  · have tw27 : i16.toInt = 2 := (ti_eq rfl (by decide)).mp w27
                    refine pb_aload_n (pc := 92) d_Mod_isName_92 5 rfl rfl ?_
                    refine pb_iload (pc := 93) d_Mod_isName_93 3 rfl ?_
                    refine pb_bald (pc := 95) d_Mod_isName_95 0 rfl (vp_in_iff.mpr (by omega)) ?_
                    refine pb_topi (fun i28 ei28 => ?_)
                    have xi28 : i28 = gr f (bg.toInt) := gr_ld ei28 (by omega)
                    have yi28 : i28.toInt = gx f (bg.toInt) := congrArg Int32.toInt xi28
                    refine pb_bipush (pc := 96) (v := 46) d_Mod_isName_96 (by decide) ?_
                    refine pb_icmp_ne (pc := 98) (tgt := 116) d_Mod_isName_98 (by decide) (fun w29 => ?_) (fun w29 => ?_)
                    · have tw29 : ¬ i28.toInt = 46 := fun z9 => w29 ((ti_eq rfl (by decide)).mpr z9)
                      refine pb_iconst (pc := 116) (v := 0) d_Mod_isName_116 (by decide) ?_
                      refine pb_istore (pc := 117) (lo' := [(8, .int 0), (7, .int i16), (6, .int en), (3, .int g1), (4, .int bg), (5, .int k), (0, .ref a), (1, .int x), (2, .int n)]) d_Mod_isName_117 (by decide) rfl ?_
                      refine pb_re (ws' := [(a, .inl (G.2.1, Na, .inl f))]) (lo' := [(8, .int 0), (7, .int i16), (3, .int g1), (4, .int bg), (5, .int k), (0, .ref a), (1, .int x), (2, .int n)]) [0] [0, 1, 3, 4, 5, 6, 7, 8] (by decide) rfl rfl rfl ?_
                      exact hJ119_17 0 i16 (by first | (with_reducible assumption) | omega (splitDisjunctions := false) | assumption | omega | decide) (by first | (with_reducible assumption) | omega (splitDisjunctions := false) | assumption | omega | decide) (by first | (with_reducible assumption) | omega (splitDisjunctions := false) | assumption | omega | decide) (by first | (with_reducible assumption) | omega (splitDisjunctions := false) | assumption | omega | decide)
                    · have tw29 : i28.toInt = 46 := (ti_eq rfl (by decide)).mp w29
                      refine pb_aload_n (pc := 101) d_Mod_isName_101 5 rfl rfl ?_
                      refine pb_iload (pc := 102) d_Mod_isName_102 3 rfl ?_
                      refine pb_iconst (pc := 104) (v := 1) d_Mod_isName_104 (by decide) ?_
                      refine pb_iadd (pc := 105) d_Mod_isName_105 ?_
                      refine pb_topi (fun i30 ei30 => ?_)
                      try have ti30 : i30.toInt = bg.toInt + 1 := t2_add ei30 rfl (by decide) (by (exact omg_20c348c8a2 h0 h2 k3 ti4 tw5 H1 ti16 tw27))
                      refine pb_bald (pc := 106) d_Mod_isName_106 0 rfl (vp_in_iff.mpr (by (exact omg_e4b551ed1e h0 k3 ti4 tw5 H1 ti16 tw27 ti30))) ?_
                      refine pb_topi (fun i31 ei31 => ?_)
                      have xi31 : i31 = gr f (bg.toInt + 1) := gr_ld ei31 (by omega)
                      have yi31 : i31.toInt = gx f (bg.toInt + 1) := congrArg Int32.toInt xi31
                      refine pb_bipush (pc := 107) (v := 46) d_Mod_isName_107 (by decide) ?_
                      refine pb_icmp_ne (pc := 109) (tgt := 116) d_Mod_isName_109 (by decide) (fun w32 => ?_) (fun w32 => ?_)
                      · have tw32 : ¬ i31.toInt = 46 := fun z9 => w32 ((ti_eq rfl (by decide)).mpr z9)
                        refine pb_iconst (pc := 116) (v := 0) d_Mod_isName_116 (by decide) ?_
                        refine pb_istore (pc := 117) (lo' := [(8, .int 0), (7, .int i16), (6, .int en), (3, .int g1), (4, .int bg), (5, .int k), (0, .ref a), (1, .int x), (2, .int n)]) d_Mod_isName_117 (by decide) rfl ?_
                        refine pb_re (ws' := [(a, .inl (G.2.1, Na, .inl f))]) (lo' := [(8, .int 0), (7, .int i16), (3, .int g1), (4, .int bg), (5, .int k), (0, .ref a), (1, .int x), (2, .int n)]) [0] [0, 1, 3, 4, 5, 6, 7, 8] (by decide) rfl rfl rfl ?_
                        exact hJ119_17 0 i16 (by first | (with_reducible assumption) | omega (splitDisjunctions := false) | assumption | omega | decide) (by first | (with_reducible assumption) | omega (splitDisjunctions := false) | assumption | omega | decide) (by first | (with_reducible assumption) | omega (splitDisjunctions := false) | assumption | omega | decide) (by first | (with_reducible assumption) | omega (splitDisjunctions := false) | assumption | omega | decide)
                      · have tw32 : i31.toInt = 46 := (ti_eq rfl (by decide)).mp w32
                        refine pb_iconst (pc := 112) (v := 1) d_Mod_isName_112 (by decide) ?_
                        refine pb_goto (pc := 113) (tgt := 117) d_Mod_isName_113 (by decide) ?_
                        refine pb_istore (pc := 117) (lo' := [(8, .int 1), (7, .int i16), (6, .int en), (3, .int g1), (4, .int bg), (5, .int k), (0, .ref a), (1, .int x), (2, .int n)]) d_Mod_isName_117 (by decide) rfl ?_
                        refine pb_re (ws' := [(a, .inl (G.2.1, Na, .inl f))]) (lo' := [(8, .int 1), (7, .int i16), (3, .int g1), (4, .int bg), (5, .int k), (0, .ref a), (1, .int x), (2, .int n)]) [0] [0, 1, 3, 4, 5, 6, 7, 8] (by decide) rfl rfl rfl ?_
                        exact hJ119_17 1 i16 (by first | (with_reducible assumption) | omega (splitDisjunctions := false) | assumption | omega | decide) (by first | (with_reducible assumption) | omega (splitDisjunctions := false) | assumption | omega | decide) (by first | (with_reducible assumption) | omega (splitDisjunctions := false) | assumption | omega | decide) (by first | (with_reducible assumption) | omega (splitDisjunctions := false) | assumption | omega | decide)
                · have tw26 : i16.toInt = 1 := (ti_eq rfl (by decide)).mp w26
                  refine pb_aload_n (pc := 77) d_Mod_isName_77 5 rfl rfl ?_
                  refine pb_iload (pc := 78) d_Mod_isName_78 3 rfl ?_
                  refine pb_bald (pc := 80) d_Mod_isName_80 0 rfl (vp_in_iff.mpr (by omega)) ?_
                  refine pb_topi (fun i33 ei33 => ?_)
                  have xi33 : i33 = gr f (bg.toInt) := gr_ld ei33 (by omega)
                  have yi33 : i33.toInt = gx f (bg.toInt) := congrArg Int32.toInt xi33
                  refine pb_bipush (pc := 81) (v := 46) d_Mod_isName_81 (by decide) ?_
                  refine pb_icmp_eq (pc := 83) (tgt := 112) d_Mod_isName_83 (by decide) (fun w34 => ?_) (fun w34 => ?_)
                  · have tw34 : i33.toInt = 46 := (ti_eq rfl (by decide)).mp w34
                    refine pb_iconst (pc := 112) (v := 1) d_Mod_isName_112 (by decide) ?_
                    refine pb_goto (pc := 113) (tgt := 117) d_Mod_isName_113 (by decide) ?_
                    refine pb_istore (pc := 117) (lo' := [(8, .int 1), (7, .int i16), (6, .int en), (3, .int g1), (4, .int bg), (5, .int k), (0, .ref a), (1, .int x), (2, .int n)]) d_Mod_isName_117 (by decide) rfl ?_
                    refine pb_re (ws' := [(a, .inl (G.2.1, Na, .inl f))]) (lo' := [(8, .int 1), (7, .int i16), (3, .int g1), (4, .int bg), (5, .int k), (0, .ref a), (1, .int x), (2, .int n)]) [0] [0, 1, 3, 4, 5, 6, 7, 8] (by decide) rfl rfl rfl ?_
                    exact hJ119_17 1 i16 (by first | (with_reducible assumption) | omega (splitDisjunctions := false) | assumption | omega | decide) (by first | (with_reducible assumption) | omega (splitDisjunctions := false) | assumption | omega | decide) (by first | (with_reducible assumption) | omega (splitDisjunctions := false) | assumption | omega | decide) (by first | (with_reducible assumption) | omega (splitDisjunctions := false) | assumption | omega | decide)
                  · have tw34 : ¬ i33.toInt = 46 := fun z9 => w34 ((ti_eq rfl (by decide)).mpr z9)
                    refine pb_iload (pc := 86) d_Mod_isName_86 0 rfl ?_
                    refine pb_iconst (pc := 88) (v := 2) d_Mod_isName_88 (by decide) ?_
                    refine pb_icmp_ne (pc := 89) (tgt := 116) d_Mod_isName_89 (by decide) (fun w35 => ?_) (fun w35 => ?_)
                    · have tw35 : ¬ i16.toInt = 2 := fun z9 => w35 ((ti_eq rfl (by decide)).mpr z9)
                      refine pb_iconst (pc := 116) (v := 0) d_Mod_isName_116 (by decide) ?_
                      refine pb_istore (pc := 117) (lo' := [(8, .int 0), (7, .int i16), (6, .int en), (3, .int g1), (4, .int bg), (5, .int k), (0, .ref a), (1, .int x), (2, .int n)]) d_Mod_isName_117 (by decide) rfl ?_
                      refine pb_re (ws' := [(a, .inl (G.2.1, Na, .inl f))]) (lo' := [(8, .int 0), (7, .int i16), (3, .int g1), (4, .int bg), (5, .int k), (0, .ref a), (1, .int x), (2, .int n)]) [0] [0, 1, 3, 4, 5, 6, 7, 8] (by decide) rfl rfl rfl ?_
                      exact hJ119_17 0 i16 (by first | (with_reducible assumption) | omega (splitDisjunctions := false) | assumption | omega | decide) (by first | (with_reducible assumption) | omega (splitDisjunctions := false) | assumption | omega | decide) (by first | (with_reducible assumption) | omega (splitDisjunctions := false) | assumption | omega | decide) (by first | (with_reducible assumption) | omega (splitDisjunctions := false) | assumption | omega | decide)
                    · have tw35 : i16.toInt = 2 := (ti_eq rfl (by decide)).mp w35
                      refine pb_aload_n (pc := 92) d_Mod_isName_92 5 rfl rfl ?_
                      refine pb_iload (pc := 93) d_Mod_isName_93 3 rfl ?_
                      refine pb_bald (pc := 95) d_Mod_isName_95 0 rfl (vp_in_iff.mpr (by omega)) ?_
                      refine pb_topi (fun i36 ei36 => ?_)
                      have xi36 : i36 = gr f (bg.toInt) := gr_ld ei36 (by omega)
                      have yi36 : i36.toInt = gx f (bg.toInt) := congrArg Int32.toInt xi36
                      refine pb_bipush (pc := 96) (v := 46) d_Mod_isName_96 (by decide) ?_
                      refine pb_icmp_ne (pc := 98) (tgt := 116) d_Mod_isName_98 (by decide) (fun w37 => ?_) (fun w37 => ?_)
                      · have tw37 : ¬ i36.toInt = 46 := fun z9 => w37 ((ti_eq rfl (by decide)).mpr z9)
                        refine pb_iconst (pc := 116) (v := 0) d_Mod_isName_116 (by decide) ?_
                        refine pb_istore (pc := 117) (lo' := [(8, .int 0), (7, .int i16), (6, .int en), (3, .int g1), (4, .int bg), (5, .int k), (0, .ref a), (1, .int x), (2, .int n)]) d_Mod_isName_117 (by decide) rfl ?_
                        refine pb_re (ws' := [(a, .inl (G.2.1, Na, .inl f))]) (lo' := [(8, .int 0), (7, .int i16), (3, .int g1), (4, .int bg), (5, .int k), (0, .ref a), (1, .int x), (2, .int n)]) [0] [0, 1, 3, 4, 5, 6, 7, 8] (by decide) rfl rfl rfl ?_
                        exact hJ119_17 0 i16 (by first | (with_reducible assumption) | omega (splitDisjunctions := false) | assumption | omega | decide) (by first | (with_reducible assumption) | omega (splitDisjunctions := false) | assumption | omega | decide) (by first | (with_reducible assumption) | omega (splitDisjunctions := false) | assumption | omega | decide) (by first | (with_reducible assumption) | omega (splitDisjunctions := false) | assumption | omega | decide)
                      · have tw37 : i36.toInt = 46 := (ti_eq rfl (by decide)).mp w37
                        refine pb_aload_n (pc := 101) d_Mod_isName_101 5 rfl rfl ?_
                        refine pb_iload (pc := 102) d_Mod_isName_102 3 rfl ?_
                        refine pb_iconst (pc := 104) (v := 1) d_Mod_isName_104 (by decide) ?_
                        refine pb_iadd (pc := 105) d_Mod_isName_105 ?_
                        refine pb_topi (fun i38 ei38 => ?_)
                        try have ti38 : i38.toInt = bg.toInt + 1 := t2_add ei38 rfl (by decide) (by omega)
                        refine pb_bald (pc := 106) d_Mod_isName_106 0 rfl (vp_in_iff.mpr (by omega)) ?_
                        refine pb_topi (fun i39 ei39 => ?_)
                        have xi39 : i39 = gr f (bg.toInt + 1) := gr_ld ei39 (by omega)
                        have yi39 : i39.toInt = gx f (bg.toInt + 1) := congrArg Int32.toInt xi39
                        refine pb_bipush (pc := 107) (v := 46) d_Mod_isName_107 (by decide) ?_
                        refine pb_icmp_ne (pc := 109) (tgt := 116) d_Mod_isName_109 (by decide) (fun w40 => ?_) (fun w40 => ?_)
                        · have tw40 : ¬ i39.toInt = 46 := fun z9 => w40 ((ti_eq rfl (by decide)).mpr z9)
                          refine pb_iconst (pc := 116) (v := 0) d_Mod_isName_116 (by decide) ?_
                          refine pb_istore (pc := 117) (lo' := [(8, .int 0), (7, .int i16), (6, .int en), (3, .int g1), (4, .int bg), (5, .int k), (0, .ref a), (1, .int x), (2, .int n)]) d_Mod_isName_117 (by decide) rfl ?_
                          refine pb_re (ws' := [(a, .inl (G.2.1, Na, .inl f))]) (lo' := [(8, .int 0), (7, .int i16), (3, .int g1), (4, .int bg), (5, .int k), (0, .ref a), (1, .int x), (2, .int n)]) [0] [0, 1, 3, 4, 5, 6, 7, 8] (by decide) rfl rfl rfl ?_
                          exact hJ119_17 0 i16 (by first | (with_reducible assumption) | omega (splitDisjunctions := false) | assumption | omega | decide) (by first | (with_reducible assumption) | omega (splitDisjunctions := false) | assumption | omega | decide) (by first | (with_reducible assumption) | omega (splitDisjunctions := false) | assumption | omega | decide) (by first | (with_reducible assumption) | omega (splitDisjunctions := false) | assumption | omega | decide)
                        · have tw40 : i39.toInt = 46 := (ti_eq rfl (by decide)).mp w40
                          refine pb_iconst (pc := 112) (v := 1) d_Mod_isName_112 (by decide) ?_
                          refine pb_goto (pc := 113) (tgt := 117) d_Mod_isName_113 (by decide) ?_
                          refine pb_istore (pc := 117) (lo' := [(8, .int 1), (7, .int i16), (6, .int en), (3, .int g1), (4, .int bg), (5, .int k), (0, .ref a), (1, .int x), (2, .int n)]) d_Mod_isName_117 (by decide) rfl ?_
                          refine pb_re (ws' := [(a, .inl (G.2.1, Na, .inl f))]) (lo' := [(8, .int 1), (7, .int i16), (3, .int g1), (4, .int bg), (5, .int k), (0, .ref a), (1, .int x), (2, .int n)]) [0] [0, 1, 3, 4, 5, 6, 7, 8] (by decide) rfl rfl rfl ?_
                          exact hJ119_17 1 i16 (by first | (with_reducible assumption) | omega (splitDisjunctions := false) | assumption | omega | decide) (by first | (with_reducible assumption) | omega (splitDisjunctions := false) | assumption | omega | decide) (by first | (with_reducible assumption) | omega (splitDisjunctions := false) | assumption | omega | decide) (by first | (with_reducible assumption) | omega (splitDisjunctions := false) | assumption | omega | decide)
            refine pb_iload_n (pc := 37) d_Mod_isName_37 4 rfl rfl ?_
            refine pb_iload_n (pc := 38) d_Mod_isName_38 5 rfl rfl ?_
            refine pb_iadd (pc := 39) d_Mod_isName_39 ?_
            refine pb_topi (fun i41 ei41 => ?_)
            try have ti41 : i41.toInt = x.toInt + n.toInt := t2_add ei41 rfl rfl (by omega)
            refine pb_icmp_eq (pc := 40) (tgt := 52) d_Mod_isName_40 (by decide) (fun w42 => ?_) (fun w42 => ?_)
            · have tw42 : k.toInt = i41.toInt := (ti_eq rfl rfl).mp w42
              refine pb_iconst (pc := 52) (v := 1) d_Mod_isName_52 (by decide) ?_
              refine pb_goto (pc := 53) (tgt := 57) d_Mod_isName_53 (by decide) ?_
              refine pb_istore (pc := 57) (lo' := [(6, .int 1), (3, .int g1), (4, .int bg), (5, .int k), (0, .ref a), (1, .int x), (2, .int n)]) d_Mod_isName_57 (by decide) rfl ?_
              exact hJ59_6 1 (by first | (with_reducible assumption) | omega (splitDisjunctions := false) | assumption | omega | decide) (by first | (with_reducible assumption) | omega (splitDisjunctions := false) | assumption | omega | decide) (by first | (with_reducible assumption) | omega (splitDisjunctions := false) | assumption | omega | decide) (by first | (with_reducible assumption) | omega (splitDisjunctions := false) | assumption | omega | decide)
            · have tw42 : ¬ k.toInt = i41.toInt := fun z9 => w42 ((ti_eq rfl rfl).mpr z9)
              refine pb_aload_n (pc := 43) d_Mod_isName_43 3 rfl rfl ?_
              refine pb_iload (pc := 44) d_Mod_isName_44 2 rfl ?_
              refine pb_bald (pc := 46) d_Mod_isName_46 0 rfl (vp_in_iff.mpr (by omega)) ?_
              refine pb_topi (fun i43 ei43 => ?_)
              have xi43 : i43 = gr f (k.toInt) := gr_ld ei43 (by omega)
              have yi43 : i43.toInt = gx f (k.toInt) := congrArg Int32.toInt xi43
              refine pb_bipush (pc := 47) (v := 47) d_Mod_isName_47 (by decide) ?_
              refine pb_icmp_ne (pc := 49) (tgt := 56) d_Mod_isName_49 (by decide) (fun w44 => ?_) (fun w44 => ?_)
              · have tw44 : ¬ i43.toInt = 47 := fun z9 => w44 ((ti_eq rfl (by decide)).mpr z9)
                refine pb_iconst (pc := 56) (v := 0) d_Mod_isName_56 (by decide) ?_
                refine pb_istore (pc := 57) (lo' := [(6, .int 0), (3, .int g1), (4, .int bg), (5, .int k), (0, .ref a), (1, .int x), (2, .int n)]) d_Mod_isName_57 (by decide) rfl ?_
                exact hJ59_6 0 (by first | (with_reducible assumption) | omega (splitDisjunctions := false) | assumption | omega | decide) (by first | (with_reducible assumption) | omega (splitDisjunctions := false) | assumption | omega | decide) (by first | (with_reducible assumption) | omega (splitDisjunctions := false) | assumption | omega | decide) (by first | (with_reducible assumption) | omega (splitDisjunctions := false) | assumption | omega | decide)
              · have tw44 : i43.toInt = 47 := (ti_eq rfl (by decide)).mp w44
                refine pb_iconst (pc := 52) (v := 1) d_Mod_isName_52 (by decide) ?_
                refine pb_goto (pc := 53) (tgt := 57) d_Mod_isName_53 (by decide) ?_
                refine pb_istore (pc := 57) (lo' := [(6, .int 1), (3, .int g1), (4, .int bg), (5, .int k), (0, .ref a), (1, .int x), (2, .int n)]) d_Mod_isName_57 (by decide) rfl ?_
                exact hJ59_6 1 (by first | (with_reducible assumption) | omega (splitDisjunctions := false) | assumption | omega | decide) (by first | (with_reducible assumption) | omega (splitDisjunctions := false) | assumption | omega | decide) (by first | (with_reducible assumption) | omega (splitDisjunctions := false) | assumption | omega | decide) (by first | (with_reducible assumption) | omega (splitDisjunctions := false) | assumption | omega | decide)
    refine pb_re (ws' := [(a, .inl (G.2.1, Na, .inl f))]) (lo' := [(3, .int g0), (4, .int x), (5, .int x), (0, .ref a), (1, .int x), (2, .int n)]) [0] [2, 1, 0, 3, 4, 5] (by decide) rfl rfl rfl ?_
    exact hL23_2 _ g0 x x (by first | (with_reducible assumption) | omega (splitDisjunctions := false) | assumption | (clear h1 j1 j2; first | omega (splitDisjunctions := false) | omega) | omega | decide) (by first | (with_reducible assumption) | omega (splitDisjunctions := false) | assumption | exact fun q90 => (by have y90 := j1 q90; have y91 := h1 y90.1; have y92 := y91 y90.2; clear h1 j1 j2 y91; first | omega (splitDisjunctions := false) | omega) | omega | decide) (by first | (with_reducible assumption) | omega (splitDisjunctions := false) | assumption | (clear h1 j1 j2; first | omega (splitDisjunctions := false) | omega) | omega | decide) (by first | (with_reducible assumption) | omega (splitDisjunctions := false) | assumption | (clear h1 j1 j2; first | omega (splitDisjunctions := false) | omega) | omega | decide) (by first | (with_reducible assumption) | omega (splitDisjunctions := false) | assumption | (clear h1 j1 j2; first | omega (splitDisjunctions := false) | omega) | omega | decide) (by first | (with_reducible assumption) | omega (splitDisjunctions := false) | assumption | exact fun q90 q91 => (by have y90 := h1 q90; have y91 := y90 q91; clear h1 j1 j2 y90; first | omega (splitDisjunctions := false) | omega) | omega | decide) (by first | (with_reducible assumption) | omega (splitDisjunctions := false) | assumption | exact fun q90 q91 => (by have y90 := j1 q90; have y91 := h1 y90.1; have y92 := y91 y90.2; clear h1 j1 j2 y91; first | omega (splitDisjunctions := false) | omega) | omega | decide) (fun _ => iB_0 rfl) (fun _ => Or.inl rfl) (fun _ j h0 h1 => absurd h1 (by omega)) (fun q9 => iA_out (by omega)) (Nat.lt_succ_self _)
  refine pb_iload_n (pc := 0) d_Mod_isName_0 2 rfl rfl ?_
  refine pb_iconst (pc := 1) (v := 1) d_Mod_isName_1 (by decide) ?_
  refine pb_icmp_lt (pc := 2) (tgt := 15) d_Mod_isName_2 (by decide) (fun w45 => ?_) (fun w45 => ?_)
  · have tw45 : n.toInt < 1 := (ti_lt rfl (by decide)).mp w45
    refine pb_iconst (pc := 15) (v := 0) d_Mod_isName_15 (by decide) ?_
    refine pb_istore_n (pc := 16) (lo' := [(3, .int 0), (0, .ref a), (1, .int x), (2, .int n)]) d_Mod_isName_16 rfl (by decide) rfl ?_
    exact hJ17_1 0 (by first | (with_reducible assumption) | omega (splitDisjunctions := false) | assumption | (clear h1; first | omega (splitDisjunctions := false) | omega) | omega | decide) (by first | (with_reducible assumption) | omega (splitDisjunctions := false) | assumption | exact fun q90 => (by clear h1; first | omega (splitDisjunctions := false) | omega) | omega | decide) (by first | (with_reducible assumption) | omega (splitDisjunctions := false) | assumption | exact fun q90 => (by clear h1; first | omega (splitDisjunctions := false) | omega) | omega | decide)
  · have tw45 : ¬ n.toInt < 1 := fun z9 => w45 ((ti_lt rfl (by decide)).mpr z9)
    refine pb_iload_n (pc := 5) d_Mod_isName_5 2 rfl rfl ?_
    refine pb_bipush (pc := 6) (v := 24) d_Mod_isName_6 (by decide) ?_
    refine pb_icmp_gt (pc := 8) (tgt := 15) d_Mod_isName_8 (by decide) (fun w46 => ?_) (fun w46 => ?_)
    · have tw46 : 24 < n.toInt := (ti_lt (by decide) rfl).mp w46
      refine pb_iconst (pc := 15) (v := 0) d_Mod_isName_15 (by decide) ?_
      refine pb_istore_n (pc := 16) (lo' := [(3, .int 0), (0, .ref a), (1, .int x), (2, .int n)]) d_Mod_isName_16 rfl (by decide) rfl ?_
      exact hJ17_1 0 (by first | (with_reducible assumption) | omega (splitDisjunctions := false) | assumption | (clear h1; first | omega (splitDisjunctions := false) | omega) | omega | decide) (by first | (with_reducible assumption) | omega (splitDisjunctions := false) | assumption | exact fun q90 => (by clear h1; first | omega (splitDisjunctions := false) | omega) | omega | decide) (by first | (with_reducible assumption) | omega (splitDisjunctions := false) | assumption | exact fun q90 => (by clear h1; first | omega (splitDisjunctions := false) | omega) | omega | decide)
    · have tw46 : ¬ 24 < n.toInt := fun z9 => w46 ((ti_lt (by decide) rfl).mpr z9)
      refine pb_iconst (pc := 11) (v := 1) d_Mod_isName_11 (by decide) ?_
      refine pb_goto (pc := 12) (tgt := 16) d_Mod_isName_12 (by decide) ?_
      refine pb_istore_n (pc := 16) (lo' := [(3, .int 1), (0, .ref a), (1, .int x), (2, .int n)]) d_Mod_isName_16 rfl (by decide) rfl ?_
      exact hJ17_1 1 (by first | (with_reducible assumption) | omega (splitDisjunctions := false) | assumption | (clear h1; first | omega (splitDisjunctions := false) | omega) | omega | decide) (by first | (with_reducible assumption) | omega (splitDisjunctions := false) | assumption | exact fun q90 => (by clear h1; first | omega (splitDisjunctions := false) | omega) | omega | decide) (by first | (with_reducible assumption) | omega (splitDisjunctions := false) | assumption | exact fun q90 => (by clear h1; first | omega (splitDisjunctions := false) | omega) | omega | decide)

theorem d_Mod_look_0 : decode prog_12_method_7_code 0 = .ok (.aload_n 0, 1) := by decide +kernel
theorem d_Mod_look_1 : decode prog_12_method_7_code 1 = .ok (.iload_n 3, 1) := by decide +kernel
theorem d_Mod_look_2 : decode prog_12_method_7_code 2 = .ok (.putfield 114, 3) := by decide +kernel
theorem k_1162 : (Jvm.Cond.fieldLink "PackageBookModel" (114 : Nat) "PackageBookModel" "lookedSize" "I") ∈ uW := uW_of 1162 (by decide +kernel) (by decide +kernel)
theorem d_Mod_look_5 : decode prog_12_method_7_code 5 = .ok (.iconst 0, 1) := by decide +kernel
theorem d_Mod_look_6 : decode prog_12_method_7_code 6 = .ok (.istore 4, 2) := by decide +kernel
theorem d_Mod_look_8 : decode prog_12_method_7_code 8 = .ok (.iload 4, 2) := by decide +kernel
theorem d_Mod_look_10 : decode prog_12_method_7_code 10 = .ok (.iload_n 3, 1) := by decide +kernel
theorem d_Mod_look_11 : decode prog_12_method_7_code 11 = .ok (.if_icmp .ge 29, 3) := by decide +kernel
theorem d_Mod_look_40 : decode prog_12_method_7_code 40 = .ok (.return_, 1) := by decide +kernel
theorem d_Mod_look_14 : decode prog_12_method_7_code 14 = .ok (.iload 4, 2) := by decide +kernel
theorem d_Mod_look_16 : decode prog_12_method_7_code 16 = .ok (.bipush 40, 2) := by decide +kernel
theorem d_Mod_look_18 : decode prog_12_method_7_code 18 = .ok (.if_icmp .ge 22, 3) := by decide +kernel
theorem d_Mod_look_21 : decode prog_12_method_7_code 21 = .ok (.aload_n 0, 1) := by decide +kernel
theorem d_Mod_look_22 : decode prog_12_method_7_code 22 = .ok (.getfield 54, 3) := by decide +kernel
theorem k_1163 : (Jvm.Cond.fieldLink "PackageBookModel" (54 : Nat) "PackageBookModel" "looked" "[B") ∈ uW := uW_of 1163 (by decide +kernel) (by decide +kernel)
theorem d_Mod_look_25 : decode prog_12_method_7_code 25 = .ok (.iload 4, 2) := by decide +kernel
theorem d_Mod_look_27 : decode prog_12_method_7_code 27 = .ok (.aload_n 1, 1) := by decide +kernel
theorem d_Mod_look_28 : decode prog_12_method_7_code 28 = .ok (.iload_n 2, 1) := by decide +kernel
theorem d_Mod_look_29 : decode prog_12_method_7_code 29 = .ok (.iload 4, 2) := by decide +kernel
theorem d_Mod_look_31 : decode prog_12_method_7_code 31 = .ok (.iadd, 1) := by decide +kernel
theorem d_Mod_look_32 : decode prog_12_method_7_code 32 = .ok (.baload, 1) := by decide +kernel
theorem d_Mod_look_33 : decode prog_12_method_7_code 33 = .ok (.bastore, 1) := by decide +kernel
theorem d_Mod_look_34 : decode prog_12_method_7_code 34 = .ok (.iinc 4 1, 3) := by decide +kernel
theorem d_Mod_look_37 : decode prog_12_method_7_code 37 = .ok (.goto (-29), 3) := by decide +kernel
abbrev y_Mod_look : MethodName := ⟨"PackageBookModel", "look", "([BII)V"⟩
abbrev i_Mod_look : pb_I := (y_Mod_look, prog_12_method_7_code, 5, (Option.none : Option Jvm.ClassFile.FieldType), [], { frames := 0, cells := 0, slots := 0, locals := 0 })
set_option maxRecDepth 100000 in
set_option maxHeartbeats 4000000 in
theorem g_Mod_look {l : Launch} (hl : l.stackTraces = false) (G : pb_G) (h : Nat) (m_rels : Nat) (m_openRels : Nat) (m_closeRels : Nat) (m_openRel : Nat) (m_closeRel : Nat) (m_comment : Nat) (m_ends : Nat) (m_order : Nat) (m_tape : Nat) (m_count : Nat) (m_nameSize : Nat) (m_names : Nat) (m_size : Nat) (m_data : Nat) (m_looked : Nat) (m_file : Nat) (m_directory : Nat) (m_out : Nat) (m_row : Nat) (m_made : Nat) (m_length : Nat) (m_pressed : Nat) (m_mark : Nat) (m_idSize : Nat) (m_ids : Nat) (m_goalSize : Nat) (m_goals : Nat) (m_value : Nat) (m_faults : Nat) (m_reached : Nat) (v_thrown : Int32) (v_taped : Int32) (v_lookedSize : Int32) (v_fileSize : Int32) (v_directorySize : Int32) (v_outSize : Int32) (v_rowSize : Int32) (v_bitAt : Int32) (v_bitEnd : Int32) (v_why : Int32) (v_madeSize : Int32) (v_firstCount : Int32) (v_secondCount : Int32) (v_heldBits : Int32) (v_heldCount : Int32) (v_pressedSize : Int32) (v_at : Int32) (v_bad : Int32) (v_markSize : Int32) (v_relationCount : Int32) (v_valueSize : Int32) (v_faultCount : Int32) (a_looked : Nat → Int32) (a : Nat) (Na : Nat) (f : Nat → Int32) (x : Int32) (n : Int32) (h0 : 0 ≤ x.toInt) (h1 : x.toInt + n.toInt ≤ Na) (h2 : Na ≤ 1000000) (F_a_looked : sb_Fit a_looked) (F_f : sb_Fit f) : Cn l G i_Mod_look [.ref h, .ref a, .int x, .int n] [(h, .inr (10, [.ref m_rels, .ref m_openRels, .ref m_closeRels, .ref m_openRel, .ref m_closeRel, .ref m_comment, .ref m_ends, .ref m_order, .int v_thrown, .int v_taped, .ref m_tape, .ref m_count, .ref m_nameSize, .ref m_names, .ref m_size, .ref m_data, .int v_lookedSize, .ref m_looked, .int v_fileSize, .ref m_file, .int v_directorySize, .ref m_directory, .int v_outSize, .ref m_out, .int v_rowSize, .ref m_row, .int v_bitAt, .int v_bitEnd, .int v_why, .int v_madeSize, .ref m_made, .ref m_length, .int v_firstCount, .int v_secondCount, .int v_heldBits, .int v_heldCount, .int v_pressedSize, .ref m_pressed, .int v_at, .int v_bad, .int v_markSize, .ref m_mark, .int v_relationCount, .ref m_idSize, .ref m_ids, .ref m_goalSize, .ref m_goals, .int v_valueSize, .ref m_value, .int v_faultCount, .ref m_faults, .ref m_reached])), (m_looked, .inl (G.2.1, 40, .inl a_looked)), (a, .inl (G.2.1, Na, .inl f))] (S := (Nat → Int32)) (fun rv_ u => rv_ = none ∧ (∀ k : Int, 0 ≤ k → k < n.toInt → k < 40 → gx u k = gx f (x.toInt + k)) ∧ (sb_Fit u)) (fun u => [(h, .inr (10, [.ref m_rels, .ref m_openRels, .ref m_closeRels, .ref m_openRel, .ref m_closeRel, .ref m_comment, .ref m_ends, .ref m_order, .int v_thrown, .int v_taped, .ref m_tape, .ref m_count, .ref m_nameSize, .ref m_names, .ref m_size, .ref m_data, .int n, .ref m_looked, .int v_fileSize, .ref m_file, .int v_directorySize, .ref m_directory, .int v_outSize, .ref m_out, .int v_rowSize, .ref m_row, .int v_bitAt, .int v_bitEnd, .int v_why, .int v_madeSize, .ref m_made, .ref m_length, .int v_firstCount, .int v_secondCount, .int v_heldBits, .int v_heldCount, .int v_pressedSize, .ref m_pressed, .int v_at, .int v_bad, .int v_markSize, .ref m_mark, .int v_relationCount, .ref m_idSize, .ref m_ids, .ref m_goalSize, .ref m_goals, .int v_valueSize, .ref m_value, .int v_faultCount, .ref m_faults, .ref m_reached])), (m_looked, .inl (G.2.1, 40, .inl u)), (a, .inl (G.2.1, Na, .inl f))]) := by
  refine Cn.of hl (by decide +kernel) rfl (Nat.le_of_ble_eq_true rfl) (fun M hQ => ?_)
  refine pb_eq (pc' := 0) (lo' := [(0, .ref h), (1, .ref a), (2, .int x), (3, .int n)]) (rest' := []) (ws' := [(h, .inr (10, [.ref m_rels, .ref m_openRels, .ref m_closeRels, .ref m_openRel, .ref m_closeRel, .ref m_comment, .ref m_ends, .ref m_order, .int v_thrown, .int v_taped, .ref m_tape, .ref m_count, .ref m_nameSize, .ref m_names, .ref m_size, .ref m_data, .int v_lookedSize, .ref m_looked, .int v_fileSize, .ref m_file, .int v_directorySize, .ref m_directory, .int v_outSize, .ref m_out, .int v_rowSize, .ref m_row, .int v_bitAt, .int v_bitEnd, .int v_why, .int v_madeSize, .ref m_made, .ref m_length, .int v_firstCount, .int v_secondCount, .int v_heldBits, .int v_heldCount, .int v_pressedSize, .ref m_pressed, .int v_at, .int v_bad, .int v_markSize, .ref m_mark, .int v_relationCount, .ref m_idSize, .ref m_ids, .ref m_goalSize, .ref m_goals, .int v_valueSize, .ref m_value, .int v_faultCount, .ref m_faults, .ref m_reached])), (m_looked, .inl (G.2.1, 40, .inl a_looked)), (a, .inl (G.2.1, Na, .inl f))]) ?_
  have zl0 : (0 : Int32).toInt = 0 := by decide
  have zl1 : (1 : Int32).toInt = 1 := by decide
  refine pb_aload_n (pc := 0) d_Mod_look_0 0 rfl rfl ?_
  refine pb_iload_n (pc := 1) d_Mod_look_1 3 rfl rfl ?_
  refine pb_put (pc := 2) (ty := .int) (ws' := [(h, .inr (10, [.ref m_rels, .ref m_openRels, .ref m_closeRels, .ref m_openRel, .ref m_closeRel, .ref m_comment, .ref m_ends, .ref m_order, .int v_thrown, .int v_taped, .ref m_tape, .ref m_count, .ref m_nameSize, .ref m_names, .ref m_size, .ref m_data, .int n, .ref m_looked, .int v_fileSize, .ref m_file, .int v_directorySize, .ref m_directory, .int v_outSize, .ref m_out, .int v_rowSize, .ref m_row, .int v_bitAt, .int v_bitEnd, .int v_why, .int v_madeSize, .ref m_made, .ref m_length, .int v_firstCount, .int v_secondCount, .int v_heldBits, .int v_heldCount, .int v_pressedSize, .ref m_pressed, .int v_at, .int v_bad, .int v_markSize, .ref m_mark, .int v_relationCount, .ref m_idSize, .ref m_ids, .ref m_goalSize, .ref m_goals, .int v_valueSize, .ref m_value, .int v_faultCount, .ref m_faults, .ref m_reached])), (m_looked, .inl (G.2.1, 40, .inl a_looked)), (a, .inl (G.2.1, Na, .inl f))]) d_Mod_look_2 0 16 t_Mod t_Mod_ok n_Mod rfl rfl (by decide) in_Mod k_1162 rfl (by decide +kernel) rfl rfl (Nat.le_of_ble_eq_true rfl) rfl ?_
  refine pb_iconst (pc := 5) (v := 0) d_Mod_look_5 (by decide) ?_
  refine pb_istore (pc := 6) (lo' := [(4, .int 0), (0, .ref h), (1, .ref a), (2, .int x), (3, .int n)]) d_Mod_look_6 (by decide) rfl ?_
  have hL8_1 : ∀ (N9 : Nat) (k : Int32) (g : Nat → Int32), (sb_Fit g) → (0 ≤ k.toInt) → (∀ j : Int, 0 ≤ j → j < k.toInt → gx g j = gx f (x.toInt + j)) → ((n.toInt - k.toInt).toNat) < N9 → pb_P l G M i_Mod_look 8 [(4, .int k), (0, .ref h), (1, .ref a), (2, .int x), (3, .int n)] [] [(h, .inr (10, [.ref m_rels, .ref m_openRels, .ref m_closeRels, .ref m_openRel, .ref m_closeRel, .ref m_comment, .ref m_ends, .ref m_order, .int v_thrown, .int v_taped, .ref m_tape, .ref m_count, .ref m_nameSize, .ref m_names, .ref m_size, .ref m_data, .int n, .ref m_looked, .int v_fileSize, .ref m_file, .int v_directorySize, .ref m_directory, .int v_outSize, .ref m_out, .int v_rowSize, .ref m_row, .int v_bitAt, .int v_bitEnd, .int v_why, .int v_madeSize, .ref m_made, .ref m_length, .int v_firstCount, .int v_secondCount, .int v_heldBits, .int v_heldCount, .int v_pressedSize, .ref m_pressed, .int v_at, .int v_bad, .int v_markSize, .ref m_mark, .int v_relationCount, .ref m_idSize, .ref m_ids, .ref m_goalSize, .ref m_goals, .int v_valueSize, .ref m_value, .int v_faultCount, .ref m_faults, .ref m_reached])), (m_looked, .inl (G.2.1, 40, .inl g)), (a, .inl (G.2.1, Na, .inl f))] 0 0 := by
    intro N9
    induction N9 with
    | zero => intro k g F_g k0 hg hm9; exact absurd hm9 (Nat.not_lt_zero _)
    | succ N9 ih8 =>
      intro k g F_g k0 hg hm9
      refine pb_iload (pc := 8) d_Mod_look_8 0 rfl ?_
      refine pb_iload_n (pc := 10) d_Mod_look_10 4 rfl rfl ?_
      refine pb_icmp_ge (pc := 11) (tgt := 40) d_Mod_look_11 (by decide) (fun w2 => ?_) (fun w2 => ?_)
      · have tw2 : n.toInt ≤ k.toInt := (ti_le rfl rfl).mp w2
        exact pb_vret (pc := 40) hQ d_Mod_look_40 rfl (g) ⟨rfl, (show ∀ k : Int, 0 ≤ k → k < n.toInt → k < 40 → gx g k = gx f (x.toInt + k) from (fun j h0 h1 h2 => hg j h0 (by omega))), F_g⟩ [0, 1, 2] (by decide) rfl rfl (by decide) (by decide)
      · have tw2 : ¬ n.toInt ≤ k.toInt := fun z9 => w2 ((ti_le rfl rfl).mpr z9)
        refine pb_iload (pc := 14) d_Mod_look_14 0 rfl ?_
        refine pb_bipush (pc := 16) (v := 40) d_Mod_look_16 (by decide) ?_
        refine pb_icmp_ge (pc := 18) (tgt := 40) d_Mod_look_18 (by decide) (fun w3 => ?_) (fun w3 => ?_)
        · have tw3 : 40 ≤ k.toInt := (ti_le (by decide) rfl).mp w3
          exact pb_vret (pc := 40) hQ d_Mod_look_40 rfl (g) ⟨rfl, (show ∀ k : Int, 0 ≤ k → k < n.toInt → k < 40 → gx g k = gx f (x.toInt + k) from (fun j h0 h1 h2 => hg j h0 (by omega))), F_g⟩ [0, 1, 2] (by decide) rfl rfl (by decide) (by decide)
        · have tw3 : ¬ 40 ≤ k.toInt := fun z9 => w3 ((ti_le (by decide) rfl).mpr z9)
          refine pb_aload_n (pc := 21) d_Mod_look_21 1 rfl rfl ?_
          refine pb_get (pc := 22) d_Mod_look_22 0 17 rfl rfl (by decide) in_Mod k_1163 rfl ?_
          refine pb_iload (pc := 25) d_Mod_look_25 0 rfl ?_
          refine pb_aload_n (pc := 27) d_Mod_look_27 2 rfl rfl ?_
          refine pb_iload_n (pc := 28) d_Mod_look_28 3 rfl rfl ?_
          refine pb_iload (pc := 29) d_Mod_look_29 0 rfl ?_
          refine pb_iadd (pc := 31) d_Mod_look_31 ?_
          refine pb_topi (fun i4 ei4 => ?_)
          try have ti4 : i4.toInt = x.toInt + k.toInt := t2_add ei4 rfl rfl (by omega)
          refine pb_bald (pc := 32) d_Mod_look_32 2 rfl (vp_in_iff.mpr (by omega)) ?_
          refine pb_topi (fun i5 ei5 => ?_)
          have xi5 : i5 = gr f (x.toInt + k.toInt) := gr_ld ei5 (by omega)
          have yi5 : i5.toInt = gx f (x.toInt + k.toInt) := congrArg Int32.toInt xi5
          have ti5 : -128 ≤ i5.toInt ∧ i5.toInt ≤ 127 := ti_fit (F_f _) ei5
          refine pb_bast (pc := 33) (ws' := [(h, .inr (10, [.ref m_rels, .ref m_openRels, .ref m_closeRels, .ref m_openRel, .ref m_closeRel, .ref m_comment, .ref m_ends, .ref m_order, .int v_thrown, .int v_taped, .ref m_tape, .ref m_count, .ref m_nameSize, .ref m_names, .ref m_size, .ref m_data, .int n, .ref m_looked, .int v_fileSize, .ref m_file, .int v_directorySize, .ref m_directory, .int v_outSize, .ref m_out, .int v_rowSize, .ref m_row, .int v_bitAt, .int v_bitEnd, .int v_why, .int v_madeSize, .ref m_made, .ref m_length, .int v_firstCount, .int v_secondCount, .int v_heldBits, .int v_heldCount, .int v_pressedSize, .ref m_pressed, .int v_at, .int v_bad, .int v_markSize, .ref m_mark, .int v_relationCount, .ref m_idSize, .ref m_ids, .ref m_goalSize, .ref m_goals, .int v_valueSize, .ref m_value, .int v_faultCount, .ref m_faults, .ref m_reached])), (m_looked, .inl (G.2.1, 40, .inl (upd g ((k : Int32).toNatClampNeg) (vp_nar .byte i5)))), (a, .inl (G.2.1, Na, .inl f))]) d_Mod_look_33 1 rfl (vp_in_iff.mpr (by omega)) rfl ?_
          refine pb_iincN (pc := 34) (c := 1) d_Mod_look_34 0 rfl (by decide) (by decide) (fun i6 ei6 => ?_)
          have ti6 : i6.toInt = k.toInt + 1 := t2_add ei6 rfl (by decide) (by first | omega | (have r90 := ti_rng k; have r91 := ti_rng i6; have r92 := ti_rng x; have r93 := ti_rng n; omega))
          refine pb_eq (pc' := 37) (lo' := [(4, .int i6), (0, .ref h), (1, .ref a), (2, .int x), (3, .int n)]) (rest' := []) (ws' := [(h, .inr (10, [.ref m_rels, .ref m_openRels, .ref m_closeRels, .ref m_openRel, .ref m_closeRel, .ref m_comment, .ref m_ends, .ref m_order, .int v_thrown, .int v_taped, .ref m_tape, .ref m_count, .ref m_nameSize, .ref m_names, .ref m_size, .ref m_data, .int n, .ref m_looked, .int v_fileSize, .ref m_file, .int v_directorySize, .ref m_directory, .int v_outSize, .ref m_out, .int v_rowSize, .ref m_row, .int v_bitAt, .int v_bitEnd, .int v_why, .int v_madeSize, .ref m_made, .ref m_length, .int v_firstCount, .int v_secondCount, .int v_heldBits, .int v_heldCount, .int v_pressedSize, .ref m_pressed, .int v_at, .int v_bad, .int v_markSize, .ref m_mark, .int v_relationCount, .ref m_idSize, .ref m_ids, .ref m_goalSize, .ref m_goals, .int v_valueSize, .ref m_value, .int v_faultCount, .ref m_faults, .ref m_reached])), (m_looked, .inl (G.2.1, 40, .inl (upd g ((k : Int32).toNatClampNeg) (vp_nar .byte i5)))), (a, .inl (G.2.1, Na, .inl f))]) ?_
          refine pb_goto (pc := 37) (tgt := 8) d_Mod_look_37 (by decide) ?_
          exact ih8 i6 (upd g ((k : Int32).toNatClampNeg) (vp_nar .byte i5)) (sb_fitU F_g (fit_nar _)) (by first | (with_reducible assumption) | omega (splitDisjunctions := false) | assumption | omega | decide) (fun j h0 h1 => by rw [gx_updb rfl j (by omega) h0 (by omega)]; split <;> first | (rename_i w; rw [w]; omega) | exact hg j h0 (by omega)) (by omega)
  exact hL8_1 _ 0 a_looked F_a_looked (by first | (with_reducible assumption) | omega (splitDisjunctions := false) | assumption | omega | decide) (fun j h0 h1 => absurd h1 (by omega)) (Nat.lt_succ_self _)
