/-! ROWS OF NUMBERS -/
theorem omg_7ffc45122b {x0 : Int} {x1 : Int} (a0 : (x0 ≤ (20000 : Int))) (a1 : (x1 = (x0 - (22 : Int)))) (a2 : (¬ (x1 < (0 : Int)))) : (((-(2147483648 : Int)) ≤ (x1 + (12 : Int))) ∧ ((x1 + (12 : Int)) < (2147483648 : Int))) := by omega
theorem omg_9aadd9d296 {x0 : Int} {x1 : Int} (a0 : ((0 : Int) ≤ x0)) (a1 : (x0 ≤ (20000 : Int))) (a2 : (x1 = (x0 - (22 : Int)))) : (((-(2147483648 : Int)) ≤ (x1 + (8 : Int))) ∧ ((x1 + (8 : Int)) < (2147483648 : Int))) := by omega
theorem omg_87d706a7a1 {x0 : Int} {x1 : Int} (a0 : (x0 = (x1 - (22 : Int)))) (a1 : (¬ (x0 < (0 : Int)))) : ((0 : Int) ≤ ((x1 - (22 : Int)) + (8 : Int))) := by omega
theorem omg_99ead58fc1 {x0 : Int} {x1 : Int} {x2 : Int} (a0 : (x0 = (x1 - (22 : Int)))) (a1 : (x2 = (x0 + (8 : Int)))) : (x2 = ((x1 - (22 : Int)) + (8 : Int))) := by omega
theorem omg_d1b8b97a7b {x0 : Int} {x1 : Int} {x2 : Int} {x3 : Int} (a0 : (x0 = (x1 - (22 : Int)))) (a1 : (x2 = x0)) (a2 : (¬ (x3 = x2))) (a3 : (x3 = (x1 - (22 : Int)))) : False := by omega
theorem omg_36beddd5d0 {x0 : Int} {x1 : Int} {x2 : Int} (a0 : (x0 ≤ x1)) (a1 : (x1 = x2)) (a2 : (x1 ≤ x0)) : ((Int.toNat x2) = (Int.toNat x0)) := by omega
theorem omg_17f4429383 {x0 : Int} {x1 : Int} {x2 : Int} {x3 : Int} (a0 : (x0 = (x1 - (22 : Int)))) (a1 : (x2 = x0)) (a2 : (x3 = x2)) : (x3 = (x1 - (22 : Int))) := by omega
theorem omg_370188a66b {x0 : Int} {x1 : Int} {x2 : Int} {x3 : Nat} (a0 : (x0 = x1)) (a1 : (x0 ≤ x2)) (a2 : (x3 < (Int.toNat x1))) : (x3 < (Int.toNat x2)) := by omega
theorem omg_960fa75daf {x0 : Int} {x1 : Int} {x2 : Int} (a0 : (x0 = (x1 - (22 : Int)))) (a1 : ((x2 + (46 : Int)) ≤ x0)) : ((x2 + (46 : Int)) ≤ (x1 - (22 : Int))) := by omega
theorem omg_b5eed79224 {x0 : Int} {x1 : Int} {x2 : Int} {x3 : Int} {x4 : Int} (a0 : (x0 = (x1 - (22 : Int)))) (a1 : (x2 = x3)) (a2 : (x4 = x0)) (a3 : (x2 = x4)) : (x3 = (x1 - (22 : Int))) := by omega
theorem omg_8aa6819ae4 {x0 : Int} {x1 : Int} {x2 : Int} {x3 : Int} {x4 : Int} {x5 : Int} {x6 : Int} (a0 : (x0 = (x1 - (22 : Int)))) (a1 : (x2 = x3)) (a2 : ((0 : Int) ≤ x4)) (a3 : (x5 = (x2 + x4))) (a4 : (x6 = x0)) (a5 : (x5 = x6)) : (x3 ≤ (x1 - (22 : Int))) := by omega
theorem omg_c10d38c07e {x0 : Int} {x1 : Int} {x2 : Int} (a0 : (x0 ≤ (20000 : Int))) (a1 : (x1 = (x0 - (22 : Int)))) (a2 : (x2 ≤ (x1 + (65600 : Int)))) : ((x2 + (46 : Int)) < (9223372036854775808 : Int)) := by omega
theorem omg_4af15ee253 {x0 : Int} {x1 : Int} {x2 : Int} (a0 : (x0 = x1)) (a1 : ((0 : Int) ≤ x0)) (a2 : (x1 ≤ x2)) : ((-(9223372036854775808 : Int)) ≤ (x2 + (46 : Int))) := by omega
theorem omg_e4476e7288 {x0 : Int} {x1 : Int} {x2 : Int} {x3 : Int} {x4 : Int} (a0 : (x0 ≤ (20000 : Int))) (a1 : (x1 = (x0 - (22 : Int)))) (a2 : (x2 = (x3 + (46 : Int)))) (a3 : (x4 = x1)) (a4 : (x2 ≤ x4)) : (x3 < (2147483648 : Int)) := by omega
theorem omg_4d89c30059 {x0 : Int} {x1 : Int} {x2 : Int} (a0 : (x0 = x1)) (a1 : ((0 : Int) ≤ x0)) (a2 : (x1 ≤ x2)) : ((-(2147483648 : Int)) ≤ x2) := by omega
theorem omg_22111b28ba {x0 : Int} {x1 : Int} {x2 : Int} (a0 : ((0 : Int) ≤ x0)) (a1 : (x1 = x2)) (a2 : (x0 < x1)) : ((Int.toNat x0) < (Int.toNat x2)) := by omega
theorem omg_39a24c78ad {x0 : Int} {x1 : Int} {x2 : Int} {x3 : Int} {x4 : Int} {x5 : Int} {x6 : Int} {x7 : Int} (a0 : (x0 ≤ (20000 : Int))) (a1 : (x1 = x2)) (a2 : ((0 : Int) ≤ x1)) (a3 : (x3 = (x0 - (22 : Int)))) (a4 : (x2 ≤ x4)) (a5 : (x5 = (x4 + (46 : Int)))) (a6 : (x6 = x3)) (a7 : (x5 ≤ x6)) (a8 : (x7 = x4)) : (((-(2147483648 : Int)) ≤ (x7 + (30 : Int))) ∧ ((x7 + (30 : Int)) < (2147483648 : Int))) := by omega
theorem omg_ded7adda34 {x0 : Int} {x1 : Int} {x2 : Int} {x3 : Int} {x4 : Int} (a0 : (x0 = (x1 - (22 : Int)))) (a1 : (x2 = (x3 + (46 : Int)))) (a2 : (x4 = x0)) (a3 : (x2 ≤ x4)) : (((x3 + (30 : Int)) + (((4 : Nat) : Nat) : Int)) ≤ x1) := by omega
theorem omg_5b192cb201 {x0 : Int} {x1 : Int} {x2 : Int} (a0 : (x0 = x1)) (a1 : ((0 : Int) ≤ x0)) (a2 : (x1 ≤ x2)) : ((0 : Int) ≤ (x2 + (30 : Int))) := by omega
theorem omg_d3f919890e {x0 : Int} {x1 : Int} {x2 : Int} (a0 : (x0 = x1)) (a1 : (x2 = (x0 + (30 : Int)))) : (x2 = (x1 + (30 : Int))) := by omega
theorem omg_9153a16913 {x0 : Int} {x1 : Int} {x2 : Int} {x3 : Int} {x4 : Int} {x5 : Int} {x6 : Int} {x7 : Int} (a0 : (x0 ≤ (20000 : Int))) (a1 : (x1 = x2)) (a2 : ((0 : Int) ≤ x1)) (a3 : (x3 = (x0 - (22 : Int)))) (a4 : (x2 ≤ x4)) (a5 : (x5 = (x4 + (46 : Int)))) (a6 : (x6 = x3)) (a7 : (x5 ≤ x6)) (a8 : (x7 = x4)) : (((-(2147483648 : Int)) ≤ (x7 + (34 : Int))) ∧ ((x7 + (34 : Int)) < (2147483648 : Int))) := by omega
theorem omg_6887474981 {x0 : Int} {x1 : Int} {x2 : Int} {x3 : Int} {x4 : Int} (a0 : (x0 = (x1 - (22 : Int)))) (a1 : (x2 = (x3 + (46 : Int)))) (a2 : (x4 = x0)) (a3 : (x2 ≤ x4)) : (((x3 + (34 : Int)) + (((4 : Nat) : Nat) : Int)) ≤ x1) := by omega
theorem omg_eec1f6c99d {x0 : Int} {x1 : Int} {x2 : Int} (a0 : (x0 = x1)) (a1 : ((0 : Int) ≤ x0)) (a2 : (x1 ≤ x2)) : ((0 : Int) ≤ (x2 + (34 : Int))) := by omega
theorem omg_4229b534a4 {x0 : Int} {x1 : Int} {x2 : Int} (a0 : (x0 = x1)) (a1 : (x2 = (x0 + (34 : Int)))) : (x2 = (x1 + (34 : Int))) := by omega
theorem omg_eb23efd836 {x0 : Int} {x1 : Int} {x2 : Int} {x3 : Int} {x4 : Int} {x5 : Int} {x6 : Int} {x7 : Int} (a0 : (x0 ≤ (20000 : Int))) (a1 : (x1 = x2)) (a2 : ((0 : Int) ≤ x1)) (a3 : (x3 = (x0 - (22 : Int)))) (a4 : (x2 ≤ x4)) (a5 : (x5 = (x4 + (46 : Int)))) (a6 : (x6 = x3)) (a7 : (x5 ≤ x6)) (a8 : (x7 = x4)) : (((-(2147483648 : Int)) ≤ (x7 + (38 : Int))) ∧ ((x7 + (38 : Int)) < (2147483648 : Int))) := by omega
theorem omg_11147cd1ec {x0 : Int} {x1 : Int} {x2 : Int} {x3 : Int} {x4 : Int} (a0 : (x0 = (x1 - (22 : Int)))) (a1 : (x2 = (x3 + (46 : Int)))) (a2 : (x4 = x0)) (a3 : (x2 ≤ x4)) : (((x3 + (38 : Int)) + (((4 : Nat) : Nat) : Int)) ≤ x1) := by omega
theorem omg_5173ab9e6b {x0 : Int} {x1 : Int} {x2 : Int} (a0 : (x0 = x1)) (a1 : ((0 : Int) ≤ x0)) (a2 : (x1 ≤ x2)) : ((0 : Int) ≤ (x2 + (38 : Int))) := by omega
theorem omg_52fbd5a9e6 {x0 : Int} {x1 : Int} {x2 : Int} (a0 : (x0 = x1)) (a1 : (x2 = (x0 + (38 : Int)))) : (x2 = (x1 + (38 : Int))) := by omega
theorem omg_6277902315 {x0 : Int} (a0 : ((0 : Int) ≤ x0)) : ((Int.toNat (x0 + (1 : Int))) = ((Int.toNat x0) + (1 : Nat))) := by omega
theorem omg_883f1cc7fe {x0 : Int} {x1 : Int} {x2 : Int} {x3 : Int} {x4 : Int} (a0 : (x0 ≤ (20000 : Int))) (a1 : (x1 = (x0 - (22 : Int)))) (a2 : (x2 = (x3 + (46 : Int)))) (a3 : (x4 = x1)) (a4 : (x2 ≤ x4)) : ((x3 + (46 : Int)) < (9223372036854775808 : Int)) := by omega
theorem omg_b6937c67e3 {x0 : Int} {x1 : Int} {x2 : Int} {x3 : Int} {x4 : Int} {x5 : Int} {x6 : Int} {x7 : Int} (a0 : (x0 ≤ (20000 : Int))) (a1 : (x1 = x2)) (a2 : ((0 : Int) ≤ x1)) (a3 : (x3 = (x0 - (22 : Int)))) (a4 : (x2 ≤ x4)) (a5 : (x5 = (x4 + (46 : Int)))) (a6 : (x6 = x3)) (a7 : (x5 ≤ x6)) (a8 : (x7 = x4)) : (((-(2147483648 : Int)) ≤ (x7 + (28 : Int))) ∧ ((x7 + (28 : Int)) < (2147483648 : Int))) := by omega
theorem omg_773bcafc6f {x0 : Int} {x1 : Int} {x2 : Int} {x3 : Int} {x4 : Int} (a0 : (x0 = (x1 - (22 : Int)))) (a1 : (x2 = (x3 + (46 : Int)))) (a2 : (x4 = x0)) (a3 : (x2 ≤ x4)) : (((x3 + (28 : Int)) + (((2 : Nat) : Nat) : Int)) ≤ x1) := by omega
theorem omg_34c2695c5d {x0 : Int} {x1 : Int} {x2 : Int} (a0 : (x0 = x1)) (a1 : (x2 = (x0 + (28 : Int)))) : (x2 = (x1 + (28 : Int))) := by omega
theorem omg_6cae852cfa {x0 : Int} {x1 : Int} {x2 : Int} {x3 : Int} {x4 : Int} {x5 : Int} {x6 : Int} {x7 : Int} (a0 : (x0 ≤ (20000 : Int))) (a1 : (x1 = (x0 - (22 : Int)))) (a2 : (x2 = (x3 + (46 : Int)))) (a3 : (x4 = x1)) (a4 : (x2 ≤ x4)) (a5 : (((0 : Int) ≤ x5) ∧ (x5 ≤ (65535 : Int)))) (a6 : (x6 = (x3 + (46 : Int)))) (a7 : (x7 = x5)) : ((x6 + x7) < (9223372036854775808 : Int)) := by omega
theorem omg_249ca7e36b {x0 : Int} {x1 : Int} {x2 : Int} {x3 : Int} {x4 : Int} {x5 : Int} (a0 : (x0 = x1)) (a1 : ((0 : Int) ≤ x0)) (a2 : (x1 ≤ x2)) (a3 : (((0 : Int) ≤ x3) ∧ (x3 ≤ (65535 : Int)))) (a4 : (x4 = (x2 + (46 : Int)))) (a5 : (x5 = x3)) : ((-(9223372036854775808 : Int)) ≤ (x4 + x5)) := by omega
theorem omg_869da37f31 {x0 : Int} {x1 : Int} {x2 : Int} {x3 : Int} (a0 : (x0 < (4294967296 : Int))) (a1 : (x0 = x1)) (a2 : (x2 = x1)) (a3 : (x3 < x2)) : ((x3 + (1 : Int)) < (9223372036854775808 : Int)) := by omega
theorem omg_cb6d1a52c2 {x0 : Int} {x1 : Int} {x2 : Int} {x3 : Int} {x4 : Int} (a0 : (x0 = (x1 - (22 : Int)))) (a1 : (x2 = (x3 + (46 : Int)))) (a2 : (x4 = x0)) (a3 : (x2 ≤ x4)) : ((x3 + (46 : Int)) ≤ (x1 - (22 : Int))) := by omega
theorem omg_8dfd9be85f {x0 : Int} {x1 : Int} {x2 : Int} {x3 : Int} {x4 : Int} (a0 : (x0 = (x1 + (46 : Int)))) (a1 : (x2 = x3)) (a2 : (x4 = (x0 + x2))) : (x4 = ((x1 + (46 : Int)) + x3)) := by omega
theorem omg_e90ec815c5 {x0 : Int} {x1 : Int} {x2 : Int} {x3 : Int} (a0 : (x0 = (x1 + (46 : Int)))) (a1 : (x2 = x3)) (a2 : (x0 ≤ x2)) : ((x1 + (46 : Int)) ≤ x3) := by omega
theorem omg_f926a79b38 {x0 : Int} {x1 : Int} {x2 : Nat} (a0 : (x0 = (x1 + (1 : Int)))) (a1 : (x2 < (Int.toNat x0))) (a2 : (¬ (x2 < (Int.toNat x1)))) : (x2 = (Int.toNat x1)) := by omega
theorem omg_398401055d {x0 : Int} {x1 : Int} {x2 : Int} {x3 : Int} {x4 : Int} {x5 : Int} {x6 : Int} {x7 : Int} (a0 : (x0 = (x1 + (46 : Int)))) (a1 : (x2 = x3)) (a2 : (x0 ≤ x2)) (a3 : (((0 : Int) ≤ x4) ∧ (x4 ≤ (65535 : Int)))) (a4 : (x5 = (x1 + (46 : Int)))) (a5 : (x6 = x4)) (a6 : (x7 = (x5 + x6))) : (x7 ≤ (x3 + (65600 : Int))) := by omega
theorem omg_b8480993d2 {x0 : Int} {x1 : Int} {x2 : Int} {x3 : Int} {x4 : Int} {x5 : Int} (a0 : (x0 ≤ x1)) (a1 : (((0 : Int) ≤ x2) ∧ (x2 ≤ (65535 : Int)))) (a2 : (x3 = (x1 + (46 : Int)))) (a3 : (x4 = x2)) (a4 : (x5 = (x3 + x4))) : (x0 ≤ x5) := by omega
theorem omg_9b0826fee8 {x0 : Int} {x1 : Int} {x2 : Int} {x3 : Int} {x4 : Int} (a0 : (x0 = (x1 - (22 : Int)))) (a1 : (x2 = (x3 + (46 : Int)))) (a2 : (x4 = x0)) (a3 : (x2 ≤ x4)) : ((x3 + (((4 : Nat) : Nat) : Int)) ≤ x1) := by omega
theorem omg_df842543cd {x0 : Int} {x1 : Int} {x2 : Int} (a0 : (x0 = x1)) (a1 : ((0 : Int) ≤ x0)) (a2 : (x1 ≤ x2)) : ((0 : Int) ≤ x2) := by omega
theorem omg_4c226eb738 {x0 : Int} {x1 : Int} {x2 : Int} {x3 : Int} {x4 : Int} {x5 : Int} {x6 : Int} {x7 : Int} (a0 : (x0 ≤ (20000 : Int))) (a1 : (x1 = x2)) (a2 : ((0 : Int) ≤ x1)) (a3 : (x3 = (x0 - (22 : Int)))) (a4 : (x2 ≤ x4)) (a5 : (x5 = (x4 + (46 : Int)))) (a6 : (x6 = x3)) (a7 : (x5 ≤ x6)) (a8 : (x7 = x4)) : (((-(2147483648 : Int)) ≤ (x7 + (4 : Int))) ∧ ((x7 + (4 : Int)) < (2147483648 : Int))) := by omega
theorem omg_befd074f65 {x0 : Int} {x1 : Int} {x2 : Int} {x3 : Int} {x4 : Int} (a0 : (x0 = (x1 - (22 : Int)))) (a1 : (x2 = (x3 + (46 : Int)))) (a2 : (x4 = x0)) (a3 : (x2 ≤ x4)) : (((x3 + (4 : Int)) + (((4 : Nat) : Nat) : Int)) ≤ x1) := by omega
theorem omg_8fba624501 {x0 : Int} {x1 : Int} {x2 : Int} (a0 : (x0 = x1)) (a1 : ((0 : Int) ≤ x0)) (a2 : (x1 ≤ x2)) : ((0 : Int) ≤ (x2 + (4 : Int))) := by omega
theorem omg_e19fe5d0d1 {x0 : Int} {x1 : Int} {x2 : Int} (a0 : (x0 = x1)) (a1 : (x2 = (x0 + (4 : Int)))) : (x2 = (x1 + (4 : Int))) := by omega
theorem omg_922685428c {x0 : Int} {x1 : Int} {x2 : Int} {x3 : Int} {x4 : Int} {x5 : Int} {x6 : Int} {x7 : Int} (a0 : (x0 ≤ (20000 : Int))) (a1 : (x1 = x2)) (a2 : ((0 : Int) ≤ x1)) (a3 : (x3 = (x0 - (22 : Int)))) (a4 : (x2 ≤ x4)) (a5 : (x5 = (x4 + (46 : Int)))) (a6 : (x6 = x3)) (a7 : (x5 ≤ x6)) (a8 : (x7 = x4)) : (((-(2147483648 : Int)) ≤ (x7 + (8 : Int))) ∧ ((x7 + (8 : Int)) < (2147483648 : Int))) := by omega
theorem omg_f5efd0557b {x0 : Int} {x1 : Int} {x2 : Int} {x3 : Int} {x4 : Int} (a0 : (x0 = (x1 - (22 : Int)))) (a1 : (x2 = (x3 + (46 : Int)))) (a2 : (x4 = x0)) (a3 : (x2 ≤ x4)) : (((x3 + (8 : Int)) + (((2 : Nat) : Nat) : Int)) ≤ x1) := by omega
theorem omg_4c9f55585f {x0 : Int} {x1 : Int} {x2 : Int} (a0 : (x0 = x1)) (a1 : ((0 : Int) ≤ x0)) (a2 : (x1 ≤ x2)) : ((0 : Int) ≤ (x2 + (8 : Int))) := by omega
theorem omg_c647d57480 {x0 : Int} {x1 : Int} {x2 : Int} (a0 : (x0 = x1)) (a1 : (x2 = (x0 + (8 : Int)))) : (x2 = (x1 + (8 : Int))) := by omega
theorem omg_544d97ef14 {x0 : Int} {x1 : Int} {x2 : Int} {x3 : Int} {x4 : Int} {x5 : Int} {x6 : Int} {x7 : Int} (a0 : (x0 ≤ (20000 : Int))) (a1 : (x1 = x2)) (a2 : ((0 : Int) ≤ x1)) (a3 : (x3 = (x0 - (22 : Int)))) (a4 : (x2 ≤ x4)) (a5 : (x5 = (x4 + (46 : Int)))) (a6 : (x6 = x3)) (a7 : (x5 ≤ x6)) (a8 : (x7 = x4)) : (((-(2147483648 : Int)) ≤ (x7 + (10 : Int))) ∧ ((x7 + (10 : Int)) < (2147483648 : Int))) := by omega
theorem omg_026e0903d4 {x0 : Int} {x1 : Int} {x2 : Int} {x3 : Int} {x4 : Int} (a0 : (x0 = (x1 - (22 : Int)))) (a1 : (x2 = (x3 + (46 : Int)))) (a2 : (x4 = x0)) (a3 : (x2 ≤ x4)) : (((x3 + (10 : Int)) + (((2 : Nat) : Nat) : Int)) ≤ x1) := by omega
theorem omg_bbc78c4057 {x0 : Int} {x1 : Int} {x2 : Int} (a0 : (x0 = x1)) (a1 : ((0 : Int) ≤ x0)) (a2 : (x1 ≤ x2)) : ((0 : Int) ≤ (x2 + (10 : Int))) := by omega
theorem omg_e40bc9cb46 {x0 : Int} {x1 : Int} {x2 : Int} (a0 : (x0 = x1)) (a1 : (x2 = (x0 + (10 : Int)))) : (x2 = (x1 + (10 : Int))) := by omega
theorem omg_25fb27318e {x0 : Int} {x1 : Int} (a0 : (x0 = x1)) (a1 : (x0 = (1310740 : Int))) : (x1 = (1310740 : Int)) := by omega
theorem omg_98797605ec {x0 : Int} {x1 : Int} (a0 : (x0 = x1)) (a1 : (x0 = (33639248 : Int))) : (x1 = (33639248 : Int)) := by omega
theorem omg_189f31393b {x0 : Int} {x1 : Int} {x2 : Int} (a0 : (x0 = x1)) (a1 : (¬ (x0 = (0 : Int)))) (a2 : (x2 = x1)) (a3 : (¬ (x2 = (8 : Int)))) (a4 : ((x1 = (0 : Int)) ∨ (x1 = (8 : Int)))) : False := by omega
theorem omg_d94271d85e {x0 : Int} {x1 : Int} {x2 : Int} {x3 : Int} {x4 : Int} (a0 : (x0 = (x1 - (22 : Int)))) (a1 : (x2 = (x3 + (46 : Int)))) (a2 : (x4 = x0)) (a3 : (x4 < x2)) : (¬ ((x3 + (46 : Int)) ≤ (x1 - (22 : Int)))) := by omega
theorem omg_c386195dfe {x0 : Int} {x1 : Int} {x2 : Int} {x3 : Int} {x4 : Int} (a0 : ((0 : Int) ≤ x0)) (a1 : (x1 = (x2 + x0))) (a2 : (x3 = x4)) (a3 : (x1 = x3)) : (x2 ≤ (x4 + (65600 : Int))) := by omega
theorem omg_4e99ee0b06 {x0 : Int} {x1 : Int} {x2 : Int} {x3 : Int} {x4 : Int} {x5 : Int} (a0 : (x0 = x1)) (a1 : ((0 : Int) ≤ x2)) (a2 : (x3 = (x0 + x2))) (a3 : (x4 = x5)) (a4 : (x3 = x4)) : (x1 ≤ x5) := by omega
theorem omg_3907787a03 {x0 : Int} {x1 : Int} (a0 : (x0 = x1)) (a1 : ((0 : Int) ≤ x0)) : ((0 : Int) ≤ x1) := by omega
theorem omg_db7907a2b4 {x0 : Int} (a0 : (¬ (x0 < (0 : Int)))) : ((0 : Int) ≤ x0) := by omega
theorem omg_6fff4b142f {x0 : Int} {x1 : Int} {x2 : Int} {x3 : Int} {x4 : Int} {x5 : Int} {x6 : Int} {x7 : Int} (a0 : (x0 = (x1 - (22 : Int)))) (a1 : (x2 = x3)) (a2 : (x4 = x5)) (a3 : (x6 = (x2 + x4))) (a4 : (x7 = x0)) (a5 : (¬ (x6 = x7))) : (¬ ((x3 + x5) = (x1 - (22 : Int)))) := by omega
/-- the first i parts of set 1 stand in set 0 too -/
def cp_I (z z2 : Nat → Int32) (i : Int) : Prop := ∀ j : Int, 0 ≤ j → gx z2 j = if j < i then gx z (17 + j) else gx z j
def cp_N (n n2 : Nat → Int32) (i : Int) : Prop := ∀ j : Int, 0 ≤ j → ∀ k : Int, 0 ≤ k → k < 24 → gx n2 (24 * j + k) = if j < i then gx n (24 * (17 + j) + k) else gx n (24 * j + k)
theorem cp_0 {z : Nat → Int32} : cp_I z z 0 := fun j h => by rw [if_neg (by omega)]
theorem cp_N0 {n : Nat → Int32} : cp_N n n 0 := fun j h k _ _ => by rw [if_neg (by omega)]
theorem cp_s {z z1 z2 : Nat → Int32} {i i2 fr to : Int} (h : cp_I z z1 i) (h0 : 0 ≤ i) (h1 : i ≤ 16) (hf : fr = 17 + i) (ht : to = i) (hm : mv_Z z1 z2 fr to) (h2 : i2 = i + 1) : cp_I z z2 i2 := by
  subst hf ht h2
  intro j j0
  rw [hm j j0]
  by_cases w : j = to
  · subst w
    rw [if_pos rfl, if_pos (by omega), h _ (by omega), if_neg (by omega)]
  · rw [if_neg w, h j j0]
    by_cases w2 : j < to
    · rw [if_pos w2, if_pos (by omega)]
    · rw [if_neg w2, if_neg (by omega)]
theorem cp_Ns {n n1 n2 : Nat → Int32} {i i2 fr to : Int} (h : cp_N n n1 i) (h0 : 0 ≤ i) (h1 : i ≤ 16) (hf : fr = 17 + i) (ht : to = i) (hm : mv_N n1 n2 fr to) (h2 : i2 = i + 1) : cp_N n n2 i2 := by
  subst hf ht h2
  intro j j0 k k0 k1
  by_cases w : j = to
  · subst w
    rw [hm.1 k k0 k1, if_pos (by omega), h _ (by omega) k k0 k1, if_neg (by omega)]
  · rw [hm.2 _ (by omega) (by omega), h j j0 k k0 k1]
    by_cases w2 : j < to
    · rw [if_pos w2, if_pos (by omega)]
    · rw [if_neg w2, if_neg (by omega)]
theorem cp_end {c : Int} {z s n z2 s2 n2 : Nat → Int32} (h : ms_I 17 c z s n) (hz : cp_I z z2 c) (hs : cp_I s s2 c) (hn : cp_N n n2 c) : ms_I 0 c z2 s2 n2 := by
  obtain ⟨g1, g2, g3, g4, g5⟩ := h
  have ez : ∀ j : Int, 0 ≤ j → j < c → gx z2 (0 + j) = gx z (17 + j) := fun j h0 h1 => by rw [Int.zero_add, hz j h0, if_pos h1]
  have es : ∀ j : Int, 0 ≤ j → j < c → gx s2 (0 + j) = gx s (17 + j) := fun j h0 h1 => by rw [Int.zero_add, hs j h0, if_pos h1]
  refine ⟨g1, g2, fun j h0 h1 => by rw [ez j h0 h1, es j h0 h1]; exact g3 j h0 h1, ?_, fun p q p0 pq qc hnm => ?_⟩
  · have e : ∀ m : Nat, (m : Int) ≤ c → sm s2 0 m = sm s 17 m := by
      intro m
      induction m with
      | zero => intro _; rfl
      | succ m ih =>
        intro hm
        rw [sm, sm, ih (by omega), es m (by omega) (by omega)]
    rw [e c.toNat (by omega)]
    exact g4
  · have hp := g3 p p0 (by omega)
    refine g5 p q p0 pq qc ⟨by rw [← ez p p0 (by omega), ← ez q (by omega) qc]; exact hnm.1, fun k k0 k1 => ?_⟩
    have a := hnm.2 k k0 (by rw [ez p p0 (by omega)]; exact k1)
    rw [show 24 * (0 + p) + k = 24 * p + k by omega, show 24 * (0 + q) + k = 24 * q + k by omega, hn p p0 k k0 (by omega), hn q (by omega) k k0 (by omega), if_pos (by omega), if_pos qc] at a
    exact a
theorem ms_nil {z s n : Nat → Int32} : ms_I 17 0 z s n := ⟨by omega, by omega, fun i h0 h1 => absurd h1 (by omega), by show (0 : Int) ≤ 12000; omega, fun i j h0 h1 h2 => absurd h2 (by omega)⟩
theorem ot_tr {z z1 z2 : Nat → Int32} {b : Int} (h : ot_Z z z1 b) (g : ot_Z z1 z2 b) : ot_Z z z2 b := fun j j0 j1 => (g j j0 j1).trans (h j j0 j1)
theorem ot_trN {n n1 n2 : Nat → Int32} {b : Int} (h : ot_N n n1 b) (g : ot_N n1 n2 b) : ot_N n n2 b := fun j j0 j1 => (g j j0 j1).trans (h j j0 j1)

theorem ot_trD {d d1 d2 : Nat → Int32} {b : Int} (h : ot_D d d1 b) (g : ot_D d1 d2 b) : ot_D d d2 b := fun j j0 j1 => (g j j0 j1).trans (h j j0 j1)
theorem ab_eq {f : Nat → Int32} {A : Int → Int32} {Z p q : Int} {i j : Int32} (hA : ∀ j : Int, 0 ≤ j → j < Z → A j = gr f j) (e1 : i = gr f p) (e2 : j = gr f q) (p0 : 0 ≤ p) (p1 : p < Z) (q0 : 0 ≤ q) (q1 : q < Z) (h : i.toInt = j.toInt) : A p = A q := by
  rw [hA p p0 p1, hA q q0 q1, ← e1, ← e2]
  exact Int32.toInt_inj.mp h
theorem ab_ne {f : Nat → Int32} {A : Int → Int32} {Z p q : Int} {i j : Int32} (hA : ∀ j : Int, 0 ≤ j → j < Z → A j = gr f j) (e1 : i = gr f p) (e2 : j = gr f q) (p0 : 0 ≤ p) (p1 : p < Z) (q0 : 0 ≤ q) (q1 : q < Z) (h : ¬ i.toInt = j.toInt) : ¬ A p = A q := fun z => h (by
  rw [hA p p0 p1, hA q q0 q1, ← e1, ← e2] at z
  rw [z])
theorem rr_Y {A : Int → Int32} {lim e : Int} (hB : ∀ j : Int, -128 ≤ (A j).toInt ∧ (A j).toInt ≤ 127) (hy : ey_ A e) (h0 : aw A (e + 42) 4 + 30 + aw A (e + 28) 2 + aw A (e + 20) 4 ≤ lim) (h : ((aw A (aw A (e + 42) 4) 4 = 67324752 ∧ aw A (aw A (e + 42) 4 + 4) 4 = 20 ∧ aw A (aw A (e + 42) 4 + 28) 2 = 0) ∧ ∀ j : Int, 0 ≤ j → j < 20 → A (aw A (e + 42) 4 + 8 + j) = A (e + 10 + j)) ∧ ∀ j : Int, 0 ≤ j → j < aw A (e + 28) 2 → A (aw A (e + 42) 4 + 30 + j) = A (e + 46 + j)) : rr_ A lim e := (rr_iff rfl hB hy).mpr ⟨h0, h.1.1.1, h.1.1.2.1, h.1.1.2.2, h.1.2, h.2⟩
theorem rr_X {A : Int → Int32} {lim e : Int} (hB : ∀ j : Int, -128 ≤ (A j).toInt ∧ (A j).toInt ≤ 127) (hy : ey_ A e) (h : ¬ (((aw A (aw A (e + 42) 4) 4 = 67324752 ∧ aw A (aw A (e + 42) 4 + 4) 4 = 20 ∧ aw A (aw A (e + 42) 4 + 28) 2 = 0) ∧ ∀ j : Int, 0 ≤ j → j < 20 → A (aw A (e + 42) 4 + 8 + j) = A (e + 10 + j)) ∧ ∀ j : Int, 0 ≤ j → j < aw A (e + 28) 2 → A (aw A (e + 42) 4 + 30 + j) = A (e + 46 + j))) : ¬ rr_ A lim e := fun q => h (by
  have z := (rr_iff rfl hB hy).mp q
  exact ⟨⟨⟨z.2.1, z.2.2.1, z.2.2.2.1⟩, z.2.2.2.2.1⟩, z.2.2.2.2.2⟩)
theorem dz_eq {A : Int → Int32} {x e : Int} {n k : Nat} (h : dy_ A x e n) (hk : dz A x k = e) : k = n := by
  rcases Nat.lt_trichotomy k n with w | w | w
  · have u := (h.1 k w).1
    omega
  · exact w
  · have u := dz_up A x (k - n) n
    rw [show n + (k - n) = k by omega, h.2] at u
    omega
def cp_D (s d d2 : Nat → Int32) (i : Int) : Prop := (∀ j : Int, 0 ≤ j → j < i → ∀ k : Int, 0 ≤ k → k < gx s (17 + j) → gr d2 (4000 * j + k) = gr d (4000 * (17 + j) + k)) ∧ ∀ j : Int, i ≤ j → ∀ k : Int, 0 ≤ k → k < 4000 → gr d2 (4000 * j + k) = gr d (4000 * j + k)
theorem cp_D0 {s d : Nat → Int32} : cp_D s d d 0 := ⟨fun j h0 h1 => absurd h1 (by omega), fun _ _ _ _ _ => rfl⟩
theorem cp_Ds {s d d1 d2 : Nat → Int32} {i i2 fr to m : Int} (h : cp_D s d d1 i) (h0 : 0 ≤ i) (h1 : i ≤ 16) (hf : fr = 17 + i) (ht : to = i) (hm : mv_D d1 d2 fr to m) (em : m = gx s (17 + i)) (m4 : m ≤ 4000) (hs : ∀ j : Int, 0 ≤ j → j < i → gx s (17 + j) ≤ 4000) (h2 : i2 = i + 1) : cp_D s d d2 i2 := by
  subst hf ht h2 em
  refine ⟨fun j j0 j1 k k0 k1 => ?_, fun j j0 k k0 k1 => ?_⟩
  · by_cases c : j = to
    · subst c
      rw [hm.1 k k0 k1]
      exact h.2 (17 + j) (by omega) k k0 (by omega)
    · have q := hs j j0 (by omega)
      rw [hm.2 _ (by omega) (by omega)]
      exact h.1 j j0 (by omega) k k0 k1
  · rw [hm.2 _ (by omega) (by omega)]
    exact h.2 j (by omega) k k0 k1
theorem rM_cp {c : Int} {z s n d z2 s2 n2 d2 : Nat → Int32} {V : VW_} (R : rM_ 17 c z n s d V) (I : ms_I 17 c z s n) (hz : cp_I z z2 c) (hs : cp_I s s2 c) (hn : cp_N n n2 c) (hd : cp_D s d d2 c) : rM_ 0 c z2 n2 s2 d2 V := by
  refine ⟨R.1, fun i i0 i1 => ?_⟩
  obtain ⟨a1, a2, a3, a4⟩ := R.2 i i0 i1
  have q5 := I.2.2.1 i i0 i1
  rw [Int.zero_add]
  refine ⟨?_, ?_, fun k k0 k1 => ?_, fun k k0 k1 => ?_⟩
  · rw [hz i i0, if_pos i1]
    exact a1
  · rw [hs i i0, if_pos i1]
    exact a2
  · rw [hn i i0 k k0 (by omega), if_pos i1]
    exact a3 k k0 k1
  · rw [hd.1 i i0 i1 k k0 (by omega)]
    exact a4 k k0 k1
/-- a row with a byte changed -/
theorem xr_M {F R : Nat → Int32} {A : Int → Int32} {s k j : Int} {ix x u v w : Int32} (hA : A j = xr_ (gr F) k x j) (rl : rl_B F R s) (h0 : 0 ≤ j) (h1 : j < s) (hi : ix.toInt = k) (k0 : 0 ≤ k) (k1 : k < s) (xj : w = gr R k) (xu : u = w ^^^ x) (xv : v = u.toInt8.toInt32) : A j = gr (upd R ix.toNatClampNeg (vp_nar .byte v)) j := by
  rw [hA, gr_updb hi j k0 h0]
  unfold xr_
  by_cases c : j = k
  · rw [if_pos c, if_pos c, xv, i8_i8, xu, xj, ← rl k k0 k1, c]
  · rw [if_neg c, if_neg c]
    exact rl j h0 h1
theorem rs_cg {A : Int → Int32} {x r s : Int} {k : Nat} {W : VW_} (h : rs_ A x k r W) (e : r = s) : rs_ A x k s W := by
  subst e
  exact h

theorem d_Mod_at_0 : decode prog_12_method_54_code 0 = .ok (.lconst 0, 1) := by decide +kernel
theorem d_Mod_at_1 : decode prog_12_method_54_code 1 = .ok (.lstore_n 3, 1) := by decide +kernel
theorem d_Mod_at_2 : decode prog_12_method_54_code 2 = .ok (.iload_n 2, 1) := by decide +kernel
theorem d_Mod_at_3 : decode prog_12_method_54_code 3 = .ok (.iconst 1, 1) := by decide +kernel
theorem d_Mod_at_4 : decode prog_12_method_54_code 4 = .ok (.isub, 1) := by decide +kernel
theorem d_Mod_at_5 : decode prog_12_method_54_code 5 = .ok (.istore 5, 2) := by decide +kernel
theorem d_Mod_at_7 : decode prog_12_method_54_code 7 = .ok (.iload 5, 2) := by decide +kernel
theorem d_Mod_at_9 : decode prog_12_method_54_code 9 = .ok (.ifCond .lt 30, 3) := by decide +kernel
theorem d_Mod_at_39 : decode prog_12_method_54_code 39 = .ok (.lload_n 3, 1) := by decide +kernel
theorem d_Mod_at_40 : decode prog_12_method_54_code 40 = .ok (.lreturn, 1) := by decide +kernel
theorem d_Mod_at_12 : decode prog_12_method_54_code 12 = .ok (.ldc2_w 297, 3) := by decide +kernel
theorem k_1526 : (Jvm.Cond.constantLong "PackageBookModel" (297 : Nat) (256 : Int64)) ∈ uW := uW_c5 209 rfl (by decide +kernel)
theorem d_Mod_at_15 : decode prog_12_method_54_code 15 = .ok (.lload_n 3, 1) := by decide +kernel
theorem d_Mod_at_16 : decode prog_12_method_54_code 16 = .ok (.lmul, 1) := by decide +kernel
theorem d_Mod_at_17 : decode prog_12_method_54_code 17 = .ok (.aload_n 0, 1) := by decide +kernel
theorem d_Mod_at_18 : decode prog_12_method_54_code 18 = .ok (.getfield 66, 3) := by decide +kernel
theorem d_Mod_at_21 : decode prog_12_method_54_code 21 = .ok (.iload_n 1, 1) := by decide +kernel
theorem d_Mod_at_22 : decode prog_12_method_54_code 22 = .ok (.iload 5, 2) := by decide +kernel
theorem d_Mod_at_24 : decode prog_12_method_54_code 24 = .ok (.iadd, 1) := by decide +kernel
theorem d_Mod_at_25 : decode prog_12_method_54_code 25 = .ok (.baload, 1) := by decide +kernel
theorem d_Mod_at_26 : decode prog_12_method_54_code 26 = .ok (.sipush 255, 3) := by decide +kernel
theorem d_Mod_at_29 : decode prog_12_method_54_code 29 = .ok (.iand, 1) := by decide +kernel
theorem d_Mod_at_30 : decode prog_12_method_54_code 30 = .ok (.i2l, 1) := by decide +kernel
theorem d_Mod_at_31 : decode prog_12_method_54_code 31 = .ok (.ladd, 1) := by decide +kernel
theorem d_Mod_at_32 : decode prog_12_method_54_code 32 = .ok (.lstore_n 3, 1) := by decide +kernel
theorem d_Mod_at_33 : decode prog_12_method_54_code 33 = .ok (.iinc 5 (-1), 3) := by decide +kernel
theorem d_Mod_at_36 : decode prog_12_method_54_code 36 = .ok (.goto (-29), 3) := by decide +kernel
abbrev y_Mod_at : MethodName := ⟨"PackageBookModel", "at", "(II)J"⟩
abbrev i_Mod_at : pb_I := (y_Mod_at, prog_12_method_54_code, 6, (some Jvm.ClassFile.FieldType.long), [], { frames := 0, cells := 0, slots := 0, locals := 0 })
set_option maxRecDepth 100000 in
set_option maxHeartbeats 4000000 in
theorem g_Mod_at {l : Launch} (hl : l.stackTraces = false) (G : pb_G) (h : Nat) (m_rels : Nat) (m_openRels : Nat) (m_closeRels : Nat) (m_openRel : Nat) (m_closeRel : Nat) (m_comment : Nat) (m_ends : Nat) (m_order : Nat) (m_tape : Nat) (m_count : Nat) (m_nameSize : Nat) (m_names : Nat) (m_size : Nat) (m_data : Nat) (m_looked : Nat) (m_file : Nat) (m_directory : Nat) (m_out : Nat) (m_row : Nat) (m_made : Nat) (m_length : Nat) (m_pressed : Nat) (m_mark : Nat) (m_idSize : Nat) (m_ids : Nat) (m_goalSize : Nat) (m_goals : Nat) (m_value : Nat) (m_faults : Nat) (m_reached : Nat) (v_thrown : Int32) (v_taped : Int32) (v_lookedSize : Int32) (v_fileSize : Int32) (v_directorySize : Int32) (v_outSize : Int32) (v_rowSize : Int32) (v_bitAt : Int32) (v_bitEnd : Int32) (v_why : Int32) (v_madeSize : Int32) (v_firstCount : Int32) (v_secondCount : Int32) (v_heldBits : Int32) (v_heldCount : Int32) (v_pressedSize : Int32) (v_at : Int32) (v_bad : Int32) (v_markSize : Int32) (v_relationCount : Int32) (v_valueSize : Int32) (v_faultCount : Int32) (a_row : Nat → Int32) (x : Int32) (n : Int32) (h0 : 0 ≤ x.toInt) (h1 : 0 ≤ n.toInt) (h2 : n.toInt ≤ 4) (h3 : x.toInt + n.toInt ≤ 20000) (F_a_row : sb_Fit a_row) : Cn l G i_Mod_at [.ref h, .int x, .int n] [(h, .inr (10, [.ref m_rels, .ref m_openRels, .ref m_closeRels, .ref m_openRel, .ref m_closeRel, .ref m_comment, .ref m_ends, .ref m_order, .int v_thrown, .int v_taped, .ref m_tape, .ref m_count, .ref m_nameSize, .ref m_names, .ref m_size, .ref m_data, .int v_lookedSize, .ref m_looked, .int v_fileSize, .ref m_file, .int v_directorySize, .ref m_directory, .int v_outSize, .ref m_out, .int v_rowSize, .ref m_row, .int v_bitAt, .int v_bitEnd, .int v_why, .int v_madeSize, .ref m_made, .ref m_length, .int v_firstCount, .int v_secondCount, .int v_heldBits, .int v_heldCount, .int v_pressedSize, .ref m_pressed, .int v_at, .int v_bad, .int v_markSize, .ref m_mark, .int v_relationCount, .ref m_idSize, .ref m_ids, .ref m_goalSize, .ref m_goals, .int v_valueSize, .ref m_value, .int v_faultCount, .ref m_faults, .ref m_reached])), (m_row, .inl (G.2.1, 20000, .inl a_row))] (S := Int64) (fun rv_ u => rv_ = some (.long u) ∧ (u.toInt = av a_row x.toInt n.toInt.toNat) ∧ (0 ≤ u.toInt) ∧ (u.toInt < 4294967296)) (fun u => [(h, .inr (10, [.ref m_rels, .ref m_openRels, .ref m_closeRels, .ref m_openRel, .ref m_closeRel, .ref m_comment, .ref m_ends, .ref m_order, .int v_thrown, .int v_taped, .ref m_tape, .ref m_count, .ref m_nameSize, .ref m_names, .ref m_size, .ref m_data, .int v_lookedSize, .ref m_looked, .int v_fileSize, .ref m_file, .int v_directorySize, .ref m_directory, .int v_outSize, .ref m_out, .int v_rowSize, .ref m_row, .int v_bitAt, .int v_bitEnd, .int v_why, .int v_madeSize, .ref m_made, .ref m_length, .int v_firstCount, .int v_secondCount, .int v_heldBits, .int v_heldCount, .int v_pressedSize, .ref m_pressed, .int v_at, .int v_bad, .int v_markSize, .ref m_mark, .int v_relationCount, .ref m_idSize, .ref m_ids, .ref m_goalSize, .ref m_goals, .int v_valueSize, .ref m_value, .int v_faultCount, .ref m_faults, .ref m_reached])), (m_row, .inl (G.2.1, 20000, .inl a_row))]) := by
  refine Cn.of hl (by decide +kernel) rfl (Nat.le_of_ble_eq_true rfl) (fun M hQ => ?_)
  refine pb_eq (pc' := 0) (lo' := [(0, .ref h), (1, .int x), (2, .int n)]) (rest' := []) (ws' := [(h, .inr (10, [.ref m_rels, .ref m_openRels, .ref m_closeRels, .ref m_openRel, .ref m_closeRel, .ref m_comment, .ref m_ends, .ref m_order, .int v_thrown, .int v_taped, .ref m_tape, .ref m_count, .ref m_nameSize, .ref m_names, .ref m_size, .ref m_data, .int v_lookedSize, .ref m_looked, .int v_fileSize, .ref m_file, .int v_directorySize, .ref m_directory, .int v_outSize, .ref m_out, .int v_rowSize, .ref m_row, .int v_bitAt, .int v_bitEnd, .int v_why, .int v_madeSize, .ref m_made, .ref m_length, .int v_firstCount, .int v_secondCount, .int v_heldBits, .int v_heldCount, .int v_pressedSize, .ref m_pressed, .int v_at, .int v_bad, .int v_markSize, .ref m_mark, .int v_relationCount, .ref m_idSize, .ref m_ids, .ref m_goalSize, .ref m_goals, .int v_valueSize, .ref m_value, .int v_faultCount, .ref m_faults, .ref m_reached])), (m_row, .inl (G.2.1, 20000, .inl a_row))]) ?_
  have zl0 : (0 : Int32).toInt = 0 := by decide
  have zl1 : (1 : Int32).toInt = 1 := by decide
  refine pb_lconst (pc := 0) (v := 0) d_Mod_at_0 (by decide) ?_
  refine pb_lstore_n (pc := 1) (lo' := [(3, .long 0), (0, .ref h), (1, .int x), (2, .int n)]) d_Mod_at_1 rfl (by decide) rfl ?_
  refine pb_iload_n (pc := 2) d_Mod_at_2 3 rfl rfl ?_
  refine pb_iconst (pc := 3) (v := 1) d_Mod_at_3 (by decide) ?_
  refine pb_isub (pc := 4) d_Mod_at_4 ?_
  refine pb_topi (fun ix1 eix1 => ?_)
  try have tix1 : ix1.toInt = n.toInt - 1 := t2_sub eix1 rfl (by decide) (by omega)
  refine pb_istore (pc := 5) (lo' := [(5, .int ix1), (3, .long 0), (0, .ref h), (1, .int x), (2, .int n)]) d_Mod_at_5 (by decide) rfl ?_
  have hL7_2 : ∀ (N9 : Nat) (k : Int32) (v : Int64), (-1 ≤ k.toInt) → (k.toInt < n.toInt) → (v.toInt = av a_row (x.toInt + k.toInt + 1) (n.toInt - k.toInt - 1).toNat) → ((k.toInt + 1).toNat) < N9 → pb_P l G M i_Mod_at 7 [(5, .int k), (3, .long v), (0, .ref h), (1, .int x), (2, .int n)] [] [(h, .inr (10, [.ref m_rels, .ref m_openRels, .ref m_closeRels, .ref m_openRel, .ref m_closeRel, .ref m_comment, .ref m_ends, .ref m_order, .int v_thrown, .int v_taped, .ref m_tape, .ref m_count, .ref m_nameSize, .ref m_names, .ref m_size, .ref m_data, .int v_lookedSize, .ref m_looked, .int v_fileSize, .ref m_file, .int v_directorySize, .ref m_directory, .int v_outSize, .ref m_out, .int v_rowSize, .ref m_row, .int v_bitAt, .int v_bitEnd, .int v_why, .int v_madeSize, .ref m_made, .ref m_length, .int v_firstCount, .int v_secondCount, .int v_heldBits, .int v_heldCount, .int v_pressedSize, .ref m_pressed, .int v_at, .int v_bad, .int v_markSize, .ref m_mark, .int v_relationCount, .ref m_idSize, .ref m_ids, .ref m_goalSize, .ref m_goals, .int v_valueSize, .ref m_value, .int v_faultCount, .ref m_faults, .ref m_reached])), (m_row, .inl (G.2.1, 20000, .inl a_row))] 0 0 := by
    intro N9
    induction N9 with
    | zero => intro k v k0 k1 kv hm9; exact absurd hm9 (Nat.not_lt_zero _)
    | succ N9 ih7 =>
      intro k v k0 k1 kv hm9
      have vr := av_le a_row (n := (n.toInt - k.toInt - 1).toNat) (by omega) (x.toInt + k.toInt + 1)
      refine pb_iload (pc := 7) d_Mod_at_7 0 rfl ?_
      refine pb_if_lt (pc := 9) (tgt := 39) d_Mod_at_9 (by decide) (fun wx3 => ?_) (fun wx3 => ?_)
      · have twx3 : k.toInt < 0 := (ti_lt rfl (by decide)).mp wx3
        refine pb_lload_n (pc := 39) d_Mod_at_39 1 rfl rfl ?_
        have kk : k.toInt = -1 := by omega
        rw [kk, show x.toInt + -1 + 1 = x.toInt by omega, show n.toInt - -1 - 1 = n.toInt by omega] at kv vr
        exact pb_lret (pc := 40) hQ d_Mod_at_40 rfl (v) ⟨rfl, kv, (show 0 ≤ v.toInt from (by omega)), (show v.toInt < 4294967296 from (by omega))⟩ [0, 1] (by decide) rfl rfl (by decide) (by decide)
      · have twx3 : ¬ k.toInt < 0 := fun z9 => wx3 ((ti_lt rfl (by decide)).mpr z9)
        refine pb_ldc2 (pc := 12) (v := 256) d_Mod_at_12 k_1526 ?_
        refine pb_lload_n (pc := 15) d_Mod_at_15 1 rfl rfl ?_
        refine pb_lmul (pc := 16) d_Mod_at_16 ?_
        refine pb_topl (fun jx4 ejx4 => ?_)
        try have tjx4 : jx4.toInt = 256 * v.toInt := tl_mul ejx4 (by decide) rfl (by omega) (by omega)
        refine pb_aload_n (pc := 17) d_Mod_at_17 2 rfl rfl ?_
        refine pb_get (pc := 18) d_Mod_at_18 0 25 rfl rfl (by decide) in_Mod k_1171 rfl ?_
        refine pb_iload_n (pc := 21) d_Mod_at_21 3 rfl rfl ?_
        refine pb_iload (pc := 22) d_Mod_at_22 0 rfl ?_
        refine pb_iadd (pc := 24) d_Mod_at_24 ?_
        refine pb_topi (fun ix5 eix5 => ?_)
        try have tix5 : ix5.toInt = x.toInt + k.toInt := t2_add eix5 rfl rfl (by omega)
        refine pb_bald (pc := 25) d_Mod_at_25 1 rfl (vp_in_iff.mpr (by omega)) ?_
        refine pb_topi (fun ix6 eix6 => ?_)
        have xix6 : ix6 = gr a_row (x.toInt + k.toInt) := gr_ld eix6 (by omega)
        have yix6 : ix6.toInt = gx a_row (x.toInt + k.toInt) := congrArg Int32.toInt xix6
        have tix6 : -128 ≤ ix6.toInt ∧ ix6.toInt ≤ 127 := ti_fit (F_a_row _) eix6
        refine pb_sipush (pc := 26) (v := 255) d_Mod_at_26 (by decide) ?_
        refine pb_iand (pc := 29) d_Mod_at_29 ?_
        refine pb_topi (fun ix7 eix7 => ?_)
        have tix7 : 0 ≤ ix7.toInt ∧ ix7.toInt ≤ 255 := ti_and 8 eix7 (by decide) (by decide)
        have bb : ix7.toInt = bv a_row (x.toInt + k.toInt) := by rw [eix7, xix6]; rfl
        refine pb_i2l (pc := 30) d_Mod_at_30 rfl ?_
        refine pb_topl (fun jx8 ejx8 => ?_)
        have tjx8 : jx8.toInt = ix7.toInt := tl_i2l ejx8 rfl
        refine pb_ladd (pc := 31) d_Mod_at_31 ?_
        refine pb_topl (fun jx9 ejx9 => ?_)
        try have tjx9 : jx9.toInt = jx4.toInt + jx8.toInt := tl_add ejx9 rfl rfl (by omega) (by omega)
        refine pb_lstore_n (pc := 32) (lo' := [(3, .long jx9), (5, .int k), (0, .ref h), (1, .int x), (2, .int n)]) d_Mod_at_32 rfl (by decide) rfl ?_
        refine pb_iincN (pc := 33) (c := (-1)) d_Mod_at_33 1 rfl (by decide) (by decide) (fun ix10 eix10 => ?_)
        have tix10 : ix10.toInt = k.toInt + (-1) := t2_add eix10 rfl (by decide) (by first | omega | (have r90 := ti_rng k; have r91 := ti_rng ix10; have r92 := ti_rng x; have r93 := ti_rng n; omega))
        refine pb_eq (pc' := 36) (lo' := [(5, .int ix10), (3, .long jx9), (0, .ref h), (1, .int x), (2, .int n)]) (rest' := []) (ws' := [(h, .inr (10, [.ref m_rels, .ref m_openRels, .ref m_closeRels, .ref m_openRel, .ref m_closeRel, .ref m_comment, .ref m_ends, .ref m_order, .int v_thrown, .int v_taped, .ref m_tape, .ref m_count, .ref m_nameSize, .ref m_names, .ref m_size, .ref m_data, .int v_lookedSize, .ref m_looked, .int v_fileSize, .ref m_file, .int v_directorySize, .ref m_directory, .int v_outSize, .ref m_out, .int v_rowSize, .ref m_row, .int v_bitAt, .int v_bitEnd, .int v_why, .int v_madeSize, .ref m_made, .ref m_length, .int v_firstCount, .int v_secondCount, .int v_heldBits, .int v_heldCount, .int v_pressedSize, .ref m_pressed, .int v_at, .int v_bad, .int v_markSize, .ref m_mark, .int v_relationCount, .ref m_idSize, .ref m_ids, .ref m_goalSize, .ref m_goals, .int v_valueSize, .ref m_value, .int v_faultCount, .ref m_faults, .ref m_reached])), (m_row, .inl (G.2.1, 20000, .inl a_row))]) ?_
        refine pb_goto (pc := 36) (tgt := 7) d_Mod_at_36 (by decide) ?_
        exact ih7 ix10 jx9 (by first | (with_reducible assumption) | omega (splitDisjunctions := false) | assumption | omega | decide) (by first | (with_reducible assumption) | omega (splitDisjunctions := false) | assumption | omega | decide) (by rw [show n.toInt - ix10.toInt - 1 = n.toInt - k.toInt by omega, show x.toInt + ix10.toInt + 1 = x.toInt + k.toInt by omega, av_s (by omega) (by omega)]; omega) (by (first | exact omg_2466cfbdcf hm9 twx3 tix10 | omega))
  exact hL7_2 _ ix1 0 (by first | (with_reducible assumption) | omega (splitDisjunctions := false) | assumption | omega | decide) (by first | (with_reducible assumption) | omega (splitDisjunctions := false) | assumption | omega | decide) (by rw [show (n.toInt - ix1.toInt - 1).toNat = 0 by omega]; rfl) (Nat.lt_succ_self _)

theorem d_Mod_directoryFault_0 : decode prog_12_method_55_code 0 = .ok (.aload_n 0, 1) := by decide +kernel
theorem d_Mod_directoryFault_1 : decode prog_12_method_55_code 1 = .ok (.getfield 260, 3) := by decide +kernel
theorem d_Mod_directoryFault_4 : decode prog_12_method_55_code 4 = .ok (.bipush 22, 2) := by decide +kernel
theorem d_Mod_directoryFault_6 : decode prog_12_method_55_code 6 = .ok (.isub, 1) := by decide +kernel
theorem d_Mod_directoryFault_7 : decode prog_12_method_55_code 7 = .ok (.istore_n 1, 1) := by decide +kernel
theorem d_Mod_directoryFault_8 : decode prog_12_method_55_code 8 = .ok (.iload_n 1, 1) := by decide +kernel
theorem d_Mod_directoryFault_9 : decode prog_12_method_55_code 9 = .ok (.ifCond .lt 65, 3) := by decide +kernel
theorem d_Mod_directoryFault_74 : decode prog_12_method_55_code 74 = .ok (.iconst 1, 1) := by decide +kernel
theorem d_Mod_directoryFault_75 : decode prog_12_method_55_code 75 = .ok (.ireturn, 1) := by decide +kernel
theorem d_Mod_directoryFault_12 : decode prog_12_method_55_code 12 = .ok (.aload_n 0, 1) := by decide +kernel
theorem d_Mod_directoryFault_13 : decode prog_12_method_55_code 13 = .ok (.iload_n 1, 1) := by decide +kernel
theorem d_Mod_directoryFault_14 : decode prog_12_method_55_code 14 = .ok (.iconst 4, 1) := by decide +kernel
theorem d_Mod_directoryFault_15 : decode prog_12_method_55_code 15 = .ok (.invokevirtual 299, 3) := by decide +kernel
theorem k_1522 : (Jvm.Cond.methodLink "PackageBookModel" (299 : Nat) ({ cls := "PackageBookModel", name := "at", desc := "(II)J" } : Jvm.MethodName)) ∈ uW := uW_c5 205 rfl (by decide +kernel)
theorem k_1525 : (Jvm.Cond.code ({ cls := "PackageBookModel", name := "at", desc := "(II)J" } : Jvm.MethodName) prog_12_method_54_code (6 : Nat) (Option.some Jvm.ClassFile.FieldType.long)) ∈ uW := uW_c5 208 rfl (by decide +kernel)
theorem k_1524 : (Jvm.Cond.instanceMethod ({ cls := "PackageBookModel", name := "at", desc := "(II)J" } : Jvm.MethodName)) ∈ uW := uW_c5 207 rfl (by decide +kernel)
theorem k_88 : Cond.selects "PackageBookModel" ⟨"PackageBookModel", "at", "(II)J"⟩ ⟨"PackageBookModel", "at", "(II)J"⟩ ∈ uW := uW_of 88 (by decide +kernel) (by decide +kernel)
theorem hy_Mod_at : (y_Mod_at).cls ≠ "java/lang/invoke/MethodHandle" ∧ (y_Mod_at).cls ≠ "java/lang/invoke/VarHandle" ∧ (parseMethodDescriptor (y_Mod_at).desc).map (fun d => d.parameters.length) = some 2 := by decide +kernel
theorem d_Mod_directoryFault_18 : decode prog_12_method_55_code 18 = .ok (.ldc2_w 295, 3) := by decide +kernel
theorem d_Mod_directoryFault_21 : decode prog_12_method_55_code 21 = .ok (.lcmp, 1) := by decide +kernel
theorem d_Mod_directoryFault_22 : decode prog_12_method_55_code 22 = .ok (.ifCond .ne 52, 3) := by decide +kernel
theorem d_Mod_directoryFault_25 : decode prog_12_method_55_code 25 = .ok (.aload_n 0, 1) := by decide +kernel
theorem d_Mod_directoryFault_26 : decode prog_12_method_55_code 26 = .ok (.iload_n 1, 1) := by decide +kernel
theorem d_Mod_directoryFault_27 : decode prog_12_method_55_code 27 = .ok (.iconst 4, 1) := by decide +kernel
theorem d_Mod_directoryFault_28 : decode prog_12_method_55_code 28 = .ok (.iadd, 1) := by decide +kernel
theorem d_Mod_directoryFault_29 : decode prog_12_method_55_code 29 = .ok (.iconst 4, 1) := by decide +kernel
theorem d_Mod_directoryFault_30 : decode prog_12_method_55_code 30 = .ok (.invokevirtual 299, 3) := by decide +kernel
theorem d_Mod_directoryFault_33 : decode prog_12_method_55_code 33 = .ok (.lconst 0, 1) := by decide +kernel
theorem d_Mod_directoryFault_34 : decode prog_12_method_55_code 34 = .ok (.lcmp, 1) := by decide +kernel
theorem d_Mod_directoryFault_35 : decode prog_12_method_55_code 35 = .ok (.ifCond .ne 39, 3) := by decide +kernel
theorem d_Mod_directoryFault_38 : decode prog_12_method_55_code 38 = .ok (.aload_n 0, 1) := by decide +kernel
theorem d_Mod_directoryFault_39 : decode prog_12_method_55_code 39 = .ok (.iload_n 1, 1) := by decide +kernel
theorem d_Mod_directoryFault_40 : decode prog_12_method_55_code 40 = .ok (.bipush 8, 2) := by decide +kernel
theorem d_Mod_directoryFault_42 : decode prog_12_method_55_code 42 = .ok (.iadd, 1) := by decide +kernel
theorem d_Mod_directoryFault_43 : decode prog_12_method_55_code 43 = .ok (.iconst 2, 1) := by decide +kernel
theorem d_Mod_directoryFault_44 : decode prog_12_method_55_code 44 = .ok (.invokevirtual 299, 3) := by decide +kernel
theorem d_Mod_directoryFault_47 : decode prog_12_method_55_code 47 = .ok (.aload_n 0, 1) := by decide +kernel
theorem d_Mod_directoryFault_48 : decode prog_12_method_55_code 48 = .ok (.iload_n 1, 1) := by decide +kernel
theorem d_Mod_directoryFault_49 : decode prog_12_method_55_code 49 = .ok (.bipush 10, 2) := by decide +kernel
theorem d_Mod_directoryFault_51 : decode prog_12_method_55_code 51 = .ok (.iadd, 1) := by decide +kernel
theorem d_Mod_directoryFault_52 : decode prog_12_method_55_code 52 = .ok (.iconst 2, 1) := by decide +kernel
theorem d_Mod_directoryFault_53 : decode prog_12_method_55_code 53 = .ok (.invokevirtual 299, 3) := by decide +kernel
theorem d_Mod_directoryFault_56 : decode prog_12_method_55_code 56 = .ok (.lcmp, 1) := by decide +kernel
theorem d_Mod_directoryFault_57 : decode prog_12_method_55_code 57 = .ok (.ifCond .ne 17, 3) := by decide +kernel
theorem d_Mod_directoryFault_60 : decode prog_12_method_55_code 60 = .ok (.aload_n 0, 1) := by decide +kernel
theorem d_Mod_directoryFault_61 : decode prog_12_method_55_code 61 = .ok (.iload_n 1, 1) := by decide +kernel
theorem d_Mod_directoryFault_62 : decode prog_12_method_55_code 62 = .ok (.bipush 20, 2) := by decide +kernel
theorem d_Mod_directoryFault_64 : decode prog_12_method_55_code 64 = .ok (.iadd, 1) := by decide +kernel
theorem d_Mod_directoryFault_65 : decode prog_12_method_55_code 65 = .ok (.iconst 2, 1) := by decide +kernel
theorem d_Mod_directoryFault_66 : decode prog_12_method_55_code 66 = .ok (.invokevirtual 299, 3) := by decide +kernel
theorem d_Mod_directoryFault_69 : decode prog_12_method_55_code 69 = .ok (.lconst 0, 1) := by decide +kernel
theorem d_Mod_directoryFault_70 : decode prog_12_method_55_code 70 = .ok (.lcmp, 1) := by decide +kernel
theorem d_Mod_directoryFault_71 : decode prog_12_method_55_code 71 = .ok (.ifCond .eq 5, 3) := by decide +kernel
theorem d_Mod_directoryFault_76 : decode prog_12_method_55_code 76 = .ok (.aload_n 0, 1) := by decide +kernel
theorem d_Mod_directoryFault_77 : decode prog_12_method_55_code 77 = .ok (.iload_n 1, 1) := by decide +kernel
theorem d_Mod_directoryFault_78 : decode prog_12_method_55_code 78 = .ok (.bipush 16, 2) := by decide +kernel
theorem d_Mod_directoryFault_80 : decode prog_12_method_55_code 80 = .ok (.iadd, 1) := by decide +kernel
theorem d_Mod_directoryFault_81 : decode prog_12_method_55_code 81 = .ok (.iconst 4, 1) := by decide +kernel
theorem d_Mod_directoryFault_82 : decode prog_12_method_55_code 82 = .ok (.invokevirtual 299, 3) := by decide +kernel
theorem d_Mod_directoryFault_85 : decode prog_12_method_55_code 85 = .ok (.lstore_n 2, 1) := by decide +kernel
theorem d_Mod_directoryFault_86 : decode prog_12_method_55_code 86 = .ok (.lload_n 2, 1) := by decide +kernel
theorem d_Mod_directoryFault_87 : decode prog_12_method_55_code 87 = .ok (.aload_n 0, 1) := by decide +kernel
theorem d_Mod_directoryFault_88 : decode prog_12_method_55_code 88 = .ok (.iload_n 1, 1) := by decide +kernel
theorem d_Mod_directoryFault_89 : decode prog_12_method_55_code 89 = .ok (.bipush 12, 2) := by decide +kernel
theorem d_Mod_directoryFault_91 : decode prog_12_method_55_code 91 = .ok (.iadd, 1) := by decide +kernel
theorem d_Mod_directoryFault_92 : decode prog_12_method_55_code 92 = .ok (.iconst 4, 1) := by decide +kernel
theorem d_Mod_directoryFault_93 : decode prog_12_method_55_code 93 = .ok (.invokevirtual 299, 3) := by decide +kernel
theorem d_Mod_directoryFault_96 : decode prog_12_method_55_code 96 = .ok (.ladd, 1) := by decide +kernel
theorem d_Mod_directoryFault_97 : decode prog_12_method_55_code 97 = .ok (.iload_n 1, 1) := by decide +kernel
theorem d_Mod_directoryFault_98 : decode prog_12_method_55_code 98 = .ok (.i2l, 1) := by decide +kernel
theorem d_Mod_directoryFault_99 : decode prog_12_method_55_code 99 = .ok (.lcmp, 1) := by decide +kernel
theorem d_Mod_directoryFault_100 : decode prog_12_method_55_code 100 = .ok (.ifCond .eq 5, 3) := by decide +kernel
theorem d_Mod_directoryFault_105 : decode prog_12_method_55_code 105 = .ok (.aload_n 0, 1) := by decide +kernel
theorem d_Mod_directoryFault_106 : decode prog_12_method_55_code 106 = .ok (.iload_n 1, 1) := by decide +kernel
theorem d_Mod_directoryFault_107 : decode prog_12_method_55_code 107 = .ok (.bipush 8, 2) := by decide +kernel
theorem d_Mod_directoryFault_109 : decode prog_12_method_55_code 109 = .ok (.iadd, 1) := by decide +kernel
theorem d_Mod_directoryFault_110 : decode prog_12_method_55_code 110 = .ok (.iconst 2, 1) := by decide +kernel
theorem d_Mod_directoryFault_111 : decode prog_12_method_55_code 111 = .ok (.invokevirtual 299, 3) := by decide +kernel
theorem d_Mod_directoryFault_114 : decode prog_12_method_55_code 114 = .ok (.lstore 4, 2) := by decide +kernel
theorem d_Mod_directoryFault_116 : decode prog_12_method_55_code 116 = .ok (.lconst 0, 1) := by decide +kernel
theorem d_Mod_directoryFault_117 : decode prog_12_method_55_code 117 = .ok (.lstore 6, 2) := by decide +kernel
theorem d_Mod_directoryFault_119 : decode prog_12_method_55_code 119 = .ok (.lload 6, 2) := by decide +kernel
theorem d_Mod_directoryFault_121 : decode prog_12_method_55_code 121 = .ok (.lload 4, 2) := by decide +kernel
theorem d_Mod_directoryFault_123 : decode prog_12_method_55_code 123 = .ok (.lcmp, 1) := by decide +kernel
theorem d_Mod_directoryFault_124 : decode prog_12_method_55_code 124 = .ok (.ifCond .ge 182, 3) := by decide +kernel
theorem d_Mod_directoryFault_306 : decode prog_12_method_55_code 306 = .ok (.lload_n 2, 1) := by decide +kernel
theorem d_Mod_directoryFault_307 : decode prog_12_method_55_code 307 = .ok (.iload_n 1, 1) := by decide +kernel
theorem d_Mod_directoryFault_308 : decode prog_12_method_55_code 308 = .ok (.i2l, 1) := by decide +kernel
theorem d_Mod_directoryFault_309 : decode prog_12_method_55_code 309 = .ok (.lcmp, 1) := by decide +kernel
theorem d_Mod_directoryFault_310 : decode prog_12_method_55_code 310 = .ok (.ifCond .ne 7, 3) := by decide +kernel
theorem d_Mod_directoryFault_317 : decode prog_12_method_55_code 317 = .ok (.iconst 2, 1) := by decide +kernel
theorem d_Mod_directoryFault_318 : decode prog_12_method_55_code 318 = .ok (.ireturn, 1) := by decide +kernel
theorem d_Mod_directoryFault_313 : decode prog_12_method_55_code 313 = .ok (.iconst 0, 1) := by decide +kernel
theorem d_Mod_directoryFault_314 : decode prog_12_method_55_code 314 = .ok (.goto 4, 3) := by decide +kernel
theorem d_Mod_directoryFault_127 : decode prog_12_method_55_code 127 = .ok (.lload_n 2, 1) := by decide +kernel
theorem d_Mod_directoryFault_128 : decode prog_12_method_55_code 128 = .ok (.ldc2_w 303, 3) := by decide +kernel
theorem k_1527 : (Jvm.Cond.constantLong "PackageBookModel" (303 : Nat) (46 : Int64)) ∈ uW := uW_c5 210 rfl (by decide +kernel)
theorem d_Mod_directoryFault_131 : decode prog_12_method_55_code 131 = .ok (.ladd, 1) := by decide +kernel
theorem d_Mod_directoryFault_132 : decode prog_12_method_55_code 132 = .ok (.iload_n 1, 1) := by decide +kernel
theorem d_Mod_directoryFault_133 : decode prog_12_method_55_code 133 = .ok (.i2l, 1) := by decide +kernel
theorem d_Mod_directoryFault_134 : decode prog_12_method_55_code 134 = .ok (.lcmp, 1) := by decide +kernel
theorem d_Mod_directoryFault_135 : decode prog_12_method_55_code 135 = .ok (.ifCond .le 5, 3) := by decide +kernel
theorem d_Mod_directoryFault_140 : decode prog_12_method_55_code 140 = .ok (.lload_n 2, 1) := by decide +kernel
theorem d_Mod_directoryFault_141 : decode prog_12_method_55_code 141 = .ok (.l2i, 1) := by decide +kernel
theorem d_Mod_directoryFault_142 : decode prog_12_method_55_code 142 = .ok (.istore 8, 2) := by decide +kernel
theorem d_Mod_directoryFault_228 : decode prog_12_method_55_code 228 = .ok (.iload 9, 2) := by decide +kernel
theorem d_Mod_directoryFault_230 : decode prog_12_method_55_code 230 = .ok (.ifCond .eq 48, 3) := by decide +kernel
theorem d_Mod_directoryFault_278 : decode prog_12_method_55_code 278 = .ok (.iconst 2, 1) := by decide +kernel
theorem d_Mod_directoryFault_279 : decode prog_12_method_55_code 279 = .ok (.ireturn, 1) := by decide +kernel
theorem d_Mod_directoryFault_233 : decode prog_12_method_55_code 233 = .ok (.aload_n 0, 1) := by decide +kernel
theorem d_Mod_directoryFault_234 : decode prog_12_method_55_code 234 = .ok (.iload 8, 2) := by decide +kernel
theorem d_Mod_directoryFault_236 : decode prog_12_method_55_code 236 = .ok (.bipush 30, 2) := by decide +kernel
theorem d_Mod_directoryFault_238 : decode prog_12_method_55_code 238 = .ok (.iadd, 1) := by decide +kernel
theorem d_Mod_directoryFault_239 : decode prog_12_method_55_code 239 = .ok (.iconst 4, 1) := by decide +kernel
theorem d_Mod_directoryFault_240 : decode prog_12_method_55_code 240 = .ok (.invokevirtual 299, 3) := by decide +kernel
theorem d_Mod_directoryFault_243 : decode prog_12_method_55_code 243 = .ok (.lconst 0, 1) := by decide +kernel
theorem d_Mod_directoryFault_244 : decode prog_12_method_55_code 244 = .ok (.lcmp, 1) := by decide +kernel
theorem d_Mod_directoryFault_245 : decode prog_12_method_55_code 245 = .ok (.ifCond .ne 33, 3) := by decide +kernel
theorem d_Mod_directoryFault_248 : decode prog_12_method_55_code 248 = .ok (.aload_n 0, 1) := by decide +kernel
theorem d_Mod_directoryFault_249 : decode prog_12_method_55_code 249 = .ok (.iload 8, 2) := by decide +kernel
theorem d_Mod_directoryFault_251 : decode prog_12_method_55_code 251 = .ok (.bipush 34, 2) := by decide +kernel
theorem d_Mod_directoryFault_253 : decode prog_12_method_55_code 253 = .ok (.iadd, 1) := by decide +kernel
theorem d_Mod_directoryFault_254 : decode prog_12_method_55_code 254 = .ok (.iconst 4, 1) := by decide +kernel
theorem d_Mod_directoryFault_255 : decode prog_12_method_55_code 255 = .ok (.invokevirtual 299, 3) := by decide +kernel
theorem d_Mod_directoryFault_258 : decode prog_12_method_55_code 258 = .ok (.lconst 0, 1) := by decide +kernel
theorem d_Mod_directoryFault_259 : decode prog_12_method_55_code 259 = .ok (.lcmp, 1) := by decide +kernel
theorem d_Mod_directoryFault_260 : decode prog_12_method_55_code 260 = .ok (.ifCond .ne 18, 3) := by decide +kernel
theorem d_Mod_directoryFault_263 : decode prog_12_method_55_code 263 = .ok (.aload_n 0, 1) := by decide +kernel
theorem d_Mod_directoryFault_264 : decode prog_12_method_55_code 264 = .ok (.iload 8, 2) := by decide +kernel
theorem d_Mod_directoryFault_266 : decode prog_12_method_55_code 266 = .ok (.bipush 38, 2) := by decide +kernel
theorem d_Mod_directoryFault_268 : decode prog_12_method_55_code 268 = .ok (.iadd, 1) := by decide +kernel
theorem d_Mod_directoryFault_269 : decode prog_12_method_55_code 269 = .ok (.iconst 4, 1) := by decide +kernel
theorem d_Mod_directoryFault_270 : decode prog_12_method_55_code 270 = .ok (.invokevirtual 299, 3) := by decide +kernel
theorem d_Mod_directoryFault_273 : decode prog_12_method_55_code 273 = .ok (.lconst 0, 1) := by decide +kernel
theorem d_Mod_directoryFault_274 : decode prog_12_method_55_code 274 = .ok (.lcmp, 1) := by decide +kernel
theorem d_Mod_directoryFault_275 : decode prog_12_method_55_code 275 = .ok (.ifCond .eq 5, 3) := by decide +kernel
theorem d_Mod_directoryFault_280 : decode prog_12_method_55_code 280 = .ok (.lload_n 2, 1) := by decide +kernel
theorem d_Mod_directoryFault_281 : decode prog_12_method_55_code 281 = .ok (.ldc2_w 303, 3) := by decide +kernel
theorem d_Mod_directoryFault_284 : decode prog_12_method_55_code 284 = .ok (.ladd, 1) := by decide +kernel
theorem d_Mod_directoryFault_285 : decode prog_12_method_55_code 285 = .ok (.aload_n 0, 1) := by decide +kernel
theorem d_Mod_directoryFault_286 : decode prog_12_method_55_code 286 = .ok (.iload 8, 2) := by decide +kernel
theorem d_Mod_directoryFault_288 : decode prog_12_method_55_code 288 = .ok (.bipush 28, 2) := by decide +kernel
theorem d_Mod_directoryFault_290 : decode prog_12_method_55_code 290 = .ok (.iadd, 1) := by decide +kernel
theorem d_Mod_directoryFault_291 : decode prog_12_method_55_code 291 = .ok (.iconst 2, 1) := by decide +kernel
theorem d_Mod_directoryFault_292 : decode prog_12_method_55_code 292 = .ok (.invokevirtual 299, 3) := by decide +kernel
theorem d_Mod_directoryFault_295 : decode prog_12_method_55_code 295 = .ok (.ladd, 1) := by decide +kernel
theorem d_Mod_directoryFault_296 : decode prog_12_method_55_code 296 = .ok (.lstore_n 2, 1) := by decide +kernel
theorem d_Mod_directoryFault_297 : decode prog_12_method_55_code 297 = .ok (.lload 6, 2) := by decide +kernel
theorem d_Mod_directoryFault_299 : decode prog_12_method_55_code 299 = .ok (.lconst 1, 1) := by decide +kernel
theorem d_Mod_directoryFault_300 : decode prog_12_method_55_code 300 = .ok (.ladd, 1) := by decide +kernel
theorem d_Mod_directoryFault_301 : decode prog_12_method_55_code 301 = .ok (.lstore 6, 2) := by decide +kernel
theorem d_Mod_directoryFault_303 : decode prog_12_method_55_code 303 = .ok (.goto (-184), 3) := by decide +kernel
theorem d_Mod_directoryFault_144 : decode prog_12_method_55_code 144 = .ok (.aload_n 0, 1) := by decide +kernel
theorem d_Mod_directoryFault_145 : decode prog_12_method_55_code 145 = .ok (.iload 8, 2) := by decide +kernel
theorem d_Mod_directoryFault_147 : decode prog_12_method_55_code 147 = .ok (.iconst 4, 1) := by decide +kernel
theorem d_Mod_directoryFault_148 : decode prog_12_method_55_code 148 = .ok (.invokevirtual 299, 3) := by decide +kernel
theorem d_Mod_directoryFault_151 : decode prog_12_method_55_code 151 = .ok (.ldc2_w 287, 3) := by decide +kernel
theorem d_Mod_directoryFault_154 : decode prog_12_method_55_code 154 = .ok (.lcmp, 1) := by decide +kernel
theorem d_Mod_directoryFault_155 : decode prog_12_method_55_code 155 = .ok (.ifCond .ne 70, 3) := by decide +kernel
theorem d_Mod_directoryFault_225 : decode prog_12_method_55_code 225 = .ok (.iconst 0, 1) := by decide +kernel
theorem d_Mod_directoryFault_226 : decode prog_12_method_55_code 226 = .ok (.istore 9, 2) := by decide +kernel
theorem d_Mod_directoryFault_158 : decode prog_12_method_55_code 158 = .ok (.aload_n 0, 1) := by decide +kernel
theorem d_Mod_directoryFault_159 : decode prog_12_method_55_code 159 = .ok (.iload 8, 2) := by decide +kernel
theorem d_Mod_directoryFault_161 : decode prog_12_method_55_code 161 = .ok (.iconst 4, 1) := by decide +kernel
theorem d_Mod_directoryFault_162 : decode prog_12_method_55_code 162 = .ok (.iadd, 1) := by decide +kernel
theorem d_Mod_directoryFault_163 : decode prog_12_method_55_code 163 = .ok (.iconst 4, 1) := by decide +kernel
theorem d_Mod_directoryFault_164 : decode prog_12_method_55_code 164 = .ok (.invokevirtual 299, 3) := by decide +kernel
theorem d_Mod_directoryFault_167 : decode prog_12_method_55_code 167 = .ok (.ldc2_w 305, 3) := by decide +kernel
theorem k_1528 : (Jvm.Cond.constantLong "PackageBookModel" (305 : Nat) (1310740 : Int64)) ∈ uW := uW_c5 211 rfl (by decide +kernel)
theorem d_Mod_directoryFault_170 : decode prog_12_method_55_code 170 = .ok (.lcmp, 1) := by decide +kernel
theorem d_Mod_directoryFault_171 : decode prog_12_method_55_code 171 = .ok (.ifCond .ne 54, 3) := by decide +kernel
theorem d_Mod_directoryFault_174 : decode prog_12_method_55_code 174 = .ok (.aload_n 0, 1) := by decide +kernel
theorem d_Mod_directoryFault_175 : decode prog_12_method_55_code 175 = .ok (.iload 8, 2) := by decide +kernel
theorem d_Mod_directoryFault_177 : decode prog_12_method_55_code 177 = .ok (.bipush 8, 2) := by decide +kernel
theorem d_Mod_directoryFault_179 : decode prog_12_method_55_code 179 = .ok (.iadd, 1) := by decide +kernel
theorem d_Mod_directoryFault_180 : decode prog_12_method_55_code 180 = .ok (.iconst 2, 1) := by decide +kernel
theorem d_Mod_directoryFault_181 : decode prog_12_method_55_code 181 = .ok (.invokevirtual 299, 3) := by decide +kernel
theorem d_Mod_directoryFault_184 : decode prog_12_method_55_code 184 = .ok (.lconst 0, 1) := by decide +kernel
theorem d_Mod_directoryFault_185 : decode prog_12_method_55_code 185 = .ok (.lcmp, 1) := by decide +kernel
theorem d_Mod_directoryFault_186 : decode prog_12_method_55_code 186 = .ok (.ifCond .ne 39, 3) := by decide +kernel
theorem d_Mod_directoryFault_189 : decode prog_12_method_55_code 189 = .ok (.aload_n 0, 1) := by decide +kernel
theorem d_Mod_directoryFault_190 : decode prog_12_method_55_code 190 = .ok (.iload 8, 2) := by decide +kernel
theorem d_Mod_directoryFault_192 : decode prog_12_method_55_code 192 = .ok (.bipush 10, 2) := by decide +kernel
theorem d_Mod_directoryFault_194 : decode prog_12_method_55_code 194 = .ok (.iadd, 1) := by decide +kernel
theorem d_Mod_directoryFault_195 : decode prog_12_method_55_code 195 = .ok (.iconst 2, 1) := by decide +kernel
theorem d_Mod_directoryFault_196 : decode prog_12_method_55_code 196 = .ok (.invokevirtual 299, 3) := by decide +kernel
theorem d_Mod_directoryFault_199 : decode prog_12_method_55_code 199 = .ok (.lconst 0, 1) := by decide +kernel
theorem d_Mod_directoryFault_200 : decode prog_12_method_55_code 200 = .ok (.lcmp, 1) := by decide +kernel
theorem d_Mod_directoryFault_201 : decode prog_12_method_55_code 201 = .ok (.ifCond .eq 20, 3) := by decide +kernel
theorem d_Mod_directoryFault_221 : decode prog_12_method_55_code 221 = .ok (.iconst 1, 1) := by decide +kernel
theorem d_Mod_directoryFault_222 : decode prog_12_method_55_code 222 = .ok (.goto 4, 3) := by decide +kernel
theorem d_Mod_directoryFault_204 : decode prog_12_method_55_code 204 = .ok (.aload_n 0, 1) := by decide +kernel
theorem d_Mod_directoryFault_205 : decode prog_12_method_55_code 205 = .ok (.iload 8, 2) := by decide +kernel
theorem d_Mod_directoryFault_207 : decode prog_12_method_55_code 207 = .ok (.bipush 10, 2) := by decide +kernel
theorem d_Mod_directoryFault_209 : decode prog_12_method_55_code 209 = .ok (.iadd, 1) := by decide +kernel
theorem d_Mod_directoryFault_210 : decode prog_12_method_55_code 210 = .ok (.iconst 2, 1) := by decide +kernel
theorem d_Mod_directoryFault_211 : decode prog_12_method_55_code 211 = .ok (.invokevirtual 299, 3) := by decide +kernel
theorem d_Mod_directoryFault_214 : decode prog_12_method_55_code 214 = .ok (.ldc2_w 283, 3) := by decide +kernel
theorem d_Mod_directoryFault_217 : decode prog_12_method_55_code 217 = .ok (.lcmp, 1) := by decide +kernel
theorem d_Mod_directoryFault_218 : decode prog_12_method_55_code 218 = .ok (.ifCond .ne 7, 3) := by decide +kernel
theorem d_Mod_directoryFault_138 : decode prog_12_method_55_code 138 = .ok (.iconst 2, 1) := by decide +kernel
theorem d_Mod_directoryFault_139 : decode prog_12_method_55_code 139 = .ok (.ireturn, 1) := by decide +kernel
theorem d_Mod_directoryFault_103 : decode prog_12_method_55_code 103 = .ok (.iconst 2, 1) := by decide +kernel
theorem d_Mod_directoryFault_104 : decode prog_12_method_55_code 104 = .ok (.ireturn, 1) := by decide +kernel
abbrev y_Mod_directoryFault : MethodName := ⟨"PackageBookModel", "directoryFault", "()I"⟩
abbrev i_Mod_directoryFault : pb_I := (y_Mod_directoryFault, prog_12_method_55_code, 10, (some Jvm.ClassFile.FieldType.int), [], { frames := 1, cells := 0, slots := 0, locals := 25 })
set_option maxRecDepth 100000 in
set_option maxHeartbeats 4000000 in
theorem g_Mod_directoryFault {l : Launch} (hl : l.stackTraces = false) (G : pb_G) (h : Nat) (m_rels : Nat) (m_openRels : Nat) (m_closeRels : Nat) (m_openRel : Nat) (m_closeRel : Nat) (m_comment : Nat) (m_ends : Nat) (m_order : Nat) (m_tape : Nat) (m_count : Nat) (m_nameSize : Nat) (m_names : Nat) (m_size : Nat) (m_data : Nat) (m_looked : Nat) (m_file : Nat) (m_directory : Nat) (m_out : Nat) (m_row : Nat) (m_made : Nat) (m_length : Nat) (m_pressed : Nat) (m_mark : Nat) (m_idSize : Nat) (m_ids : Nat) (m_goalSize : Nat) (m_goals : Nat) (m_value : Nat) (m_faults : Nat) (m_reached : Nat) (v_thrown : Int32) (v_taped : Int32) (v_lookedSize : Int32) (v_fileSize : Int32) (v_directorySize : Int32) (v_outSize : Int32) (v_rowSize : Int32) (v_bitAt : Int32) (v_bitEnd : Int32) (v_why : Int32) (v_madeSize : Int32) (v_firstCount : Int32) (v_secondCount : Int32) (v_heldBits : Int32) (v_heldCount : Int32) (v_pressedSize : Int32) (v_at : Int32) (v_bad : Int32) (v_markSize : Int32) (v_relationCount : Int32) (v_valueSize : Int32) (v_faultCount : Int32) (a_row : Nat → Int32) (A : Int → Int32) (h0 : 0 ≤ v_rowSize.toInt) (h1 : v_rowSize.toInt ≤ 20000) (hA : ∀ j : Int, 0 ≤ j → j < v_rowSize.toInt → A j = gr a_row j) (F_a_row : sb_Fit a_row) : Cn l G i_Mod_directoryFault [.ref h] [(h, .inr (10, [.ref m_rels, .ref m_openRels, .ref m_closeRels, .ref m_openRel, .ref m_closeRel, .ref m_comment, .ref m_ends, .ref m_order, .int v_thrown, .int v_taped, .ref m_tape, .ref m_count, .ref m_nameSize, .ref m_names, .ref m_size, .ref m_data, .int v_lookedSize, .ref m_looked, .int v_fileSize, .ref m_file, .int v_directorySize, .ref m_directory, .int v_outSize, .ref m_out, .int v_rowSize, .ref m_row, .int v_bitAt, .int v_bitEnd, .int v_why, .int v_madeSize, .ref m_made, .ref m_length, .int v_firstCount, .int v_secondCount, .int v_heldBits, .int v_heldCount, .int v_pressedSize, .ref m_pressed, .int v_at, .int v_bad, .int v_markSize, .ref m_mark, .int v_relationCount, .ref m_idSize, .ref m_ids, .ref m_goalSize, .ref m_goals, .int v_valueSize, .ref m_value, .int v_faultCount, .ref m_faults, .ref m_reached])), (m_row, .inl (G.2.1, 20000, .inl a_row))] (S := Int32) (fun rv_ u => rv_ = some (.int u) ∧ (0 ≤ u.toInt) ∧ (u.toInt = 0 → 22 ≤ v_rowSize.toInt ∧ dq_ok a_row (av a_row (v_rowSize.toInt - 6) 4) (v_rowSize.toInt - 22)) ∧ ((u.toInt = 1 ∧ ¬ (22 ≤ v_rowSize.toInt ∧ ed_ A (v_rowSize.toInt - 22))) ∨ (u.toInt = 2 ∧ (22 ≤ v_rowSize.toInt ∧ ed_ A (v_rowSize.toInt - 22)) ∧ ¬ dw_ A (v_rowSize.toInt - 22)) ∨ (u.toInt = 0 ∧ (22 ≤ v_rowSize.toInt ∧ ed_ A (v_rowSize.toInt - 22)) ∧ dw_ A (v_rowSize.toInt - 22)))) (fun u => [(h, .inr (10, [.ref m_rels, .ref m_openRels, .ref m_closeRels, .ref m_openRel, .ref m_closeRel, .ref m_comment, .ref m_ends, .ref m_order, .int v_thrown, .int v_taped, .ref m_tape, .ref m_count, .ref m_nameSize, .ref m_names, .ref m_size, .ref m_data, .int v_lookedSize, .ref m_looked, .int v_fileSize, .ref m_file, .int v_directorySize, .ref m_directory, .int v_outSize, .ref m_out, .int v_rowSize, .ref m_row, .int v_bitAt, .int v_bitEnd, .int v_why, .int v_madeSize, .ref m_made, .ref m_length, .int v_firstCount, .int v_secondCount, .int v_heldBits, .int v_heldCount, .int v_pressedSize, .ref m_pressed, .int v_at, .int v_bad, .int v_markSize, .ref m_mark, .int v_relationCount, .ref m_idSize, .ref m_ids, .ref m_goalSize, .ref m_goals, .int v_valueSize, .ref m_value, .int v_faultCount, .ref m_faults, .ref m_reached])), (m_row, .inl (G.2.1, 20000, .inl a_row))]) := by
  refine Cn.of hl (by decide +kernel) rfl (Nat.le_of_ble_eq_true rfl) (fun M hQ => ?_)
  refine pb_eq (pc' := 0) (lo' := [(0, .ref h)]) (rest' := []) (ws' := [(h, .inr (10, [.ref m_rels, .ref m_openRels, .ref m_closeRels, .ref m_openRel, .ref m_closeRel, .ref m_comment, .ref m_ends, .ref m_order, .int v_thrown, .int v_taped, .ref m_tape, .ref m_count, .ref m_nameSize, .ref m_names, .ref m_size, .ref m_data, .int v_lookedSize, .ref m_looked, .int v_fileSize, .ref m_file, .int v_directorySize, .ref m_directory, .int v_outSize, .ref m_out, .int v_rowSize, .ref m_row, .int v_bitAt, .int v_bitEnd, .int v_why, .int v_madeSize, .ref m_made, .ref m_length, .int v_firstCount, .int v_secondCount, .int v_heldBits, .int v_heldCount, .int v_pressedSize, .ref m_pressed, .int v_at, .int v_bad, .int v_markSize, .ref m_mark, .int v_relationCount, .ref m_idSize, .ref m_ids, .ref m_goalSize, .ref m_goals, .int v_valueSize, .ref m_value, .int v_faultCount, .ref m_faults, .ref m_reached])), (m_row, .inl (G.2.1, 20000, .inl a_row))]) ?_
  have zl0 : (0 : Int32).toInt = 0 := by decide
  have zl1 : (1 : Int32).toInt = 1 := by decide
  have zl2 : (2 : Int32).toInt = 2 := by decide
  have zl4 : (4 : Int32).toInt = 4 := by decide
  have n4 : (4 : Int32).toInt.toNat = 4 := by decide
  have n2 : (2 : Int32).toInt.toNat = 2 := by decide
  refine pb_aload_n (pc := 0) d_Mod_directoryFault_0 0 rfl rfl ?_
  refine pb_get (pc := 1) d_Mod_directoryFault_1 0 24 rfl rfl (by decide) in_Mod k_1170 rfl ?_
  refine pb_bipush (pc := 4) (v := 22) d_Mod_directoryFault_4 (by decide) ?_
  refine pb_isub (pc := 6) d_Mod_directoryFault_6 ?_
  refine pb_topi (fun ix1 eix1 => ?_)
  try have tix1 : ix1.toInt = v_rowSize.toInt - 22 := t2_sub eix1 rfl (by decide) (by omega)
  refine pb_istore_n (pc := 7) (lo' := [(1, .int ix1), (0, .ref h)]) d_Mod_directoryFault_7 rfl (by decide) rfl ?_
  refine pb_iload_n (pc := 8) d_Mod_directoryFault_8 0 rfl rfl ?_
  refine pb_if_lt (pc := 9) (tgt := 74) d_Mod_directoryFault_9 (by decide) (fun wx2 => ?_) (fun wx2 => ?_)
  · have twx2 : ix1.toInt < 0 := (ti_lt rfl (by decide)).mp wx2
    refine pb_iconst (pc := 74) (v := 1) d_Mod_directoryFault_74 (by decide) ?_
    exact pb_iret (pc := 75) hQ d_Mod_directoryFault_75 rfl rfl (1) ⟨rfl, (by (try dsimp only); first | done | (with_reducible assumption) | omega (splitDisjunctions := false) | assumption | omega | decide), (show (1 : Int32).toInt = 0 → 22 ≤ v_rowSize.toInt ∧ dq_ok a_row (av a_row (v_rowSize.toInt - 6) 4) (v_rowSize.toInt - 22) from (by first | exact fun h9 => absurd h9 (by omega) | exact fun _ => ⟨by omega, by omega, by omega, k.toInt.toNat, by omega, fun j hj9 => by have q9 := hj j hj9; omega⟩)), (show ((1 : Int32).toInt = 1 ∧ ¬ (22 ≤ v_rowSize.toInt ∧ ed_ A (v_rowSize.toInt - 22))) ∨ ((1 : Int32).toInt = 2 ∧ (22 ≤ v_rowSize.toInt ∧ ed_ A (v_rowSize.toInt - 22)) ∧ ¬ dw_ A (v_rowSize.toInt - 22)) ∨ ((1 : Int32).toInt = 0 ∧ (22 ≤ v_rowSize.toInt ∧ ed_ A (v_rowSize.toInt - 22)) ∧ dw_ A (v_rowSize.toInt - 22)) from (Or.inl ⟨(by first | decide | omega), fun q9 => (by obtain ⟨q8, y1, y2, y3, y4⟩ := q9; omega)⟩))⟩ [0, 1] (by decide) rfl rfl (by decide) (by decide)
  · have twx2 : ¬ ix1.toInt < 0 := fun z9 => wx2 ((ti_lt rfl (by decide)).mpr z9)
    refine pb_aload_n (pc := 12) d_Mod_directoryFault_12 1 rfl rfl ?_
    refine pb_iload_n (pc := 13) d_Mod_directoryFault_13 0 rfl rfl ?_
    refine pb_iconst (pc := 14) (v := 4) d_Mod_directoryFault_14 (by decide) ?_
    refine pb_callV (pc := 15) (I := i_Mod_directoryFault) (qb := 0) (ci := 10) (nA := 2) (rest := []) (wr := []) d_Mod_directoryFault_15 (g_Mod_at hl G h m_rels m_openRels m_closeRels m_openRel m_closeRel m_comment m_ends m_order m_tape m_count m_nameSize m_names m_size m_data m_looked m_file m_directory m_out m_row m_made m_length m_pressed m_mark m_idSize m_ids m_goalSize m_goals m_value m_faults m_reached v_thrown v_taped v_lookedSize v_fileSize v_directorySize v_outSize v_rowSize v_bitAt v_bitEnd v_why v_madeSize v_firstCount v_secondCount v_heldBits v_heldCount v_pressedSize v_at v_bad v_markSize v_relationCount v_valueSize v_faultCount a_row ix1 4 (by first | (with_reducible assumption) | omega (splitDisjunctions := false) | assumption | omega | decide) (by first | (with_reducible assumption) | omega (splitDisjunctions := false) | assumption | omega | decide) (by first | (with_reducible assumption) | omega (splitDisjunctions := false) | assumption | omega | decide) (by first | (with_reducible assumption) | omega (splitDisjunctions := false) | assumption | omega | decide) F_a_row) rfl rfl [0, 1] [] (by decide) rfl rfl rfl (by decide) (by decide) k_1525 rfl k_128 k_1522 k_1524 k_88 ⟨rfl, hy_Mod_at⟩ (by decide) rfl rfl (Nat.le_of_ble_eq_true rfl) (by decide) (fun v9 ux4 ch3 => ?_)
    obtain ⟨r_5, rfl⟩ : ∃ z9, z9 = ux4 := ⟨_, rfl⟩
    obtain ⟨ech3, ch3⟩ := ch3
    have ech3 : v9 = some (.long r_5) := ech3
    subst ech3
    obtain ⟨fh6, fh7, fh8⟩ : (r_5.toInt = av a_row ix1.toInt (4 : Int32).toInt.toNat) ∧ (0 ≤ r_5.toInt) ∧ (r_5.toInt < 4294967296) := ch3
    have u0 : r_5.toInt = aw A (v_rowSize.toInt - 22) 4 := by rw [fh6, n4, show ix1.toInt = v_rowSize.toInt - 22 by omega]; exact av_A hA 4 (by omega) (by omega)
    refine pb_eq (pc' := 18) (lo' := [(1, .int ix1), (0, .ref h)]) (rest' := [.long r_5]) (ws' := [(h, .inr (10, [.ref m_rels, .ref m_openRels, .ref m_closeRels, .ref m_openRel, .ref m_closeRel, .ref m_comment, .ref m_ends, .ref m_order, .int v_thrown, .int v_taped, .ref m_tape, .ref m_count, .ref m_nameSize, .ref m_names, .ref m_size, .ref m_data, .int v_lookedSize, .ref m_looked, .int v_fileSize, .ref m_file, .int v_directorySize, .ref m_directory, .int v_outSize, .ref m_out, .int v_rowSize, .ref m_row, .int v_bitAt, .int v_bitEnd, .int v_why, .int v_madeSize, .ref m_made, .ref m_length, .int v_firstCount, .int v_secondCount, .int v_heldBits, .int v_heldCount, .int v_pressedSize, .ref m_pressed, .int v_at, .int v_bad, .int v_markSize, .ref m_mark, .int v_relationCount, .ref m_idSize, .ref m_ids, .ref m_goalSize, .ref m_goals, .int v_valueSize, .ref m_value, .int v_faultCount, .ref m_faults, .ref m_reached])), (m_row, .inl (G.2.1, 20000, .inl a_row))]) ?_
    refine pb_ldc2 (pc := 18) (v := 101010256) d_Mod_directoryFault_18 k_1505 ?_
    refine pb_lcmp (pc := 21) d_Mod_directoryFault_21 ?_
    refine pb_topi (fun ix9 eix9 => ?_)
    have tix9 : (ix9.toInt < 0 ↔ r_5.toInt < 101010256) ∧ (ix9.toInt = 0 ↔ r_5.toInt = 101010256) ∧ (0 < ix9.toInt ↔ 101010256 < r_5.toInt) := tl_cmp eix9 rfl (by decide)
    refine pb_if_ne (pc := 22) (tgt := 74) d_Mod_directoryFault_22 (by decide) (fun wx10 => ?_) (fun wx10 => ?_)
    · have twx10 : ¬ ix9.toInt = 0 := fun z9 => wx10 ((ti_eq rfl (by decide)).mpr z9)
      have lwx10 : ¬ r_5.toInt = 101010256 := fun z9 => twx10 (tix9.2.1.mpr z9)
      clear tix9 twx10
      refine pb_iconst (pc := 74) (v := 1) d_Mod_directoryFault_74 (by decide) ?_
      exact pb_iret (pc := 75) hQ d_Mod_directoryFault_75 rfl rfl (1) ⟨rfl, (by (try dsimp only); first | done | (with_reducible assumption) | omega (splitDisjunctions := false) | assumption | omega | decide), (show (1 : Int32).toInt = 0 → 22 ≤ v_rowSize.toInt ∧ dq_ok a_row (av a_row (v_rowSize.toInt - 6) 4) (v_rowSize.toInt - 22) from (by first | exact fun h9 => absurd h9 (by omega) | exact fun _ => ⟨by omega, by omega, by omega, k.toInt.toNat, by omega, fun j hj9 => by have q9 := hj j hj9; omega⟩)), (show ((1 : Int32).toInt = 1 ∧ ¬ (22 ≤ v_rowSize.toInt ∧ ed_ A (v_rowSize.toInt - 22))) ∨ ((1 : Int32).toInt = 2 ∧ (22 ≤ v_rowSize.toInt ∧ ed_ A (v_rowSize.toInt - 22)) ∧ ¬ dw_ A (v_rowSize.toInt - 22)) ∨ ((1 : Int32).toInt = 0 ∧ (22 ≤ v_rowSize.toInt ∧ ed_ A (v_rowSize.toInt - 22)) ∧ dw_ A (v_rowSize.toInt - 22)) from (Or.inl ⟨(by first | decide | omega), fun q9 => (by obtain ⟨q8, y1, y2, y3, y4⟩ := q9; omega)⟩))⟩ [0, 1] (by decide) rfl rfl (by decide) (by decide)
    · have twx10 : ix9.toInt = 0 := (ti_eq rfl (by decide)).mp wx10
      have lwx10 : r_5.toInt = 101010256 := tix9.2.1.mp twx10
      clear tix9 twx10
      refine pb_aload_n (pc := 25) d_Mod_directoryFault_25 1 rfl rfl ?_
      refine pb_iload_n (pc := 26) d_Mod_directoryFault_26 0 rfl rfl ?_
      refine pb_iconst (pc := 27) (v := 4) d_Mod_directoryFault_27 (by decide) ?_
      refine pb_iadd (pc := 28) d_Mod_directoryFault_28 ?_
      refine pb_topi (fun ix11 eix11 => ?_)
      try have tix11 : ix11.toInt = ix1.toInt + 4 := t2_add eix11 rfl (by decide) (by omega)
      refine pb_iconst (pc := 29) (v := 4) d_Mod_directoryFault_29 (by decide) ?_
      refine pb_callV (pc := 30) (I := i_Mod_directoryFault) (qb := 0) (ci := 10) (nA := 2) (rest := []) (wr := []) d_Mod_directoryFault_30 (g_Mod_at hl G h m_rels m_openRels m_closeRels m_openRel m_closeRel m_comment m_ends m_order m_tape m_count m_nameSize m_names m_size m_data m_looked m_file m_directory m_out m_row m_made m_length m_pressed m_mark m_idSize m_ids m_goalSize m_goals m_value m_faults m_reached v_thrown v_taped v_lookedSize v_fileSize v_directorySize v_outSize v_rowSize v_bitAt v_bitEnd v_why v_madeSize v_firstCount v_secondCount v_heldBits v_heldCount v_pressedSize v_at v_bad v_markSize v_relationCount v_valueSize v_faultCount a_row ix11 4 (by first | (with_reducible assumption) | omega (splitDisjunctions := false) | assumption | omega | decide) (by first | (with_reducible assumption) | omega (splitDisjunctions := false) | assumption | omega | decide) (by first | (with_reducible assumption) | omega (splitDisjunctions := false) | assumption | omega | decide) (by first | (with_reducible assumption) | omega (splitDisjunctions := false) | assumption | omega | decide) F_a_row) rfl rfl [0, 1] [] (by decide) rfl rfl rfl (by decide) (by decide) k_1525 rfl k_128 k_1522 k_1524 k_88 ⟨rfl, hy_Mod_at⟩ (by decide) rfl rfl (Nat.le_of_ble_eq_true rfl) (by decide) (fun v9 ux13 ch12 => ?_)
      obtain ⟨r_14, rfl⟩ : ∃ z9, z9 = ux13 := ⟨_, rfl⟩
      obtain ⟨ech12, ch12⟩ := ch12
      have ech12 : v9 = some (.long r_14) := ech12
      subst ech12
      obtain ⟨fh15, fh16, fh17⟩ : (r_14.toInt = av a_row ix11.toInt (4 : Int32).toInt.toNat) ∧ (0 ≤ r_14.toInt) ∧ (r_14.toInt < 4294967296) := ch12
      have u4 : r_14.toInt = aw A (v_rowSize.toInt - 22 + 4) 4 := by rw [fh15, n4, show ix11.toInt = v_rowSize.toInt - 22 + 4 by omega]; exact av_A hA 4 (by omega) (by omega)
      refine pb_eq (pc' := 33) (lo' := [(1, .int ix1), (0, .ref h)]) (rest' := [.long r_14]) (ws' := [(h, .inr (10, [.ref m_rels, .ref m_openRels, .ref m_closeRels, .ref m_openRel, .ref m_closeRel, .ref m_comment, .ref m_ends, .ref m_order, .int v_thrown, .int v_taped, .ref m_tape, .ref m_count, .ref m_nameSize, .ref m_names, .ref m_size, .ref m_data, .int v_lookedSize, .ref m_looked, .int v_fileSize, .ref m_file, .int v_directorySize, .ref m_directory, .int v_outSize, .ref m_out, .int v_rowSize, .ref m_row, .int v_bitAt, .int v_bitEnd, .int v_why, .int v_madeSize, .ref m_made, .ref m_length, .int v_firstCount, .int v_secondCount, .int v_heldBits, .int v_heldCount, .int v_pressedSize, .ref m_pressed, .int v_at, .int v_bad, .int v_markSize, .ref m_mark, .int v_relationCount, .ref m_idSize, .ref m_ids, .ref m_goalSize, .ref m_goals, .int v_valueSize, .ref m_value, .int v_faultCount, .ref m_faults, .ref m_reached])), (m_row, .inl (G.2.1, 20000, .inl a_row))]) ?_
      refine pb_lconst (pc := 33) (v := 0) d_Mod_directoryFault_33 (by decide) ?_
      refine pb_lcmp (pc := 34) d_Mod_directoryFault_34 ?_
      refine pb_topi (fun ix18 eix18 => ?_)
      have tix18 : (ix18.toInt < 0 ↔ r_14.toInt < 0) ∧ (ix18.toInt = 0 ↔ r_14.toInt = 0) ∧ (0 < ix18.toInt ↔ 0 < r_14.toInt) := tl_cmp eix18 rfl (by decide)
      refine pb_if_ne (pc := 35) (tgt := 74) d_Mod_directoryFault_35 (by decide) (fun wx19 => ?_) (fun wx19 => ?_)
      · have twx19 : ¬ ix18.toInt = 0 := fun z9 => wx19 ((ti_eq rfl (by decide)).mpr z9)
        have lwx19 : ¬ r_14.toInt = 0 := fun z9 => twx19 (tix18.2.1.mpr z9)
        clear tix18 twx19
        refine pb_iconst (pc := 74) (v := 1) d_Mod_directoryFault_74 (by decide) ?_
        exact pb_iret (pc := 75) hQ d_Mod_directoryFault_75 rfl rfl (1) ⟨rfl, (by (try dsimp only); first | done | (with_reducible assumption) | omega (splitDisjunctions := false) | assumption | omega | decide), (show (1 : Int32).toInt = 0 → 22 ≤ v_rowSize.toInt ∧ dq_ok a_row (av a_row (v_rowSize.toInt - 6) 4) (v_rowSize.toInt - 22) from (by first | exact fun h9 => absurd h9 (by omega) | exact fun _ => ⟨by omega, by omega, by omega, k.toInt.toNat, by omega, fun j hj9 => by have q9 := hj j hj9; omega⟩)), (show ((1 : Int32).toInt = 1 ∧ ¬ (22 ≤ v_rowSize.toInt ∧ ed_ A (v_rowSize.toInt - 22))) ∨ ((1 : Int32).toInt = 2 ∧ (22 ≤ v_rowSize.toInt ∧ ed_ A (v_rowSize.toInt - 22)) ∧ ¬ dw_ A (v_rowSize.toInt - 22)) ∨ ((1 : Int32).toInt = 0 ∧ (22 ≤ v_rowSize.toInt ∧ ed_ A (v_rowSize.toInt - 22)) ∧ dw_ A (v_rowSize.toInt - 22)) from (Or.inl ⟨(by first | decide | omega), fun q9 => (by obtain ⟨q8, y1, y2, y3, y4⟩ := q9; omega)⟩))⟩ [0, 1] (by decide) rfl rfl (by decide) (by decide)
      · have twx19 : ix18.toInt = 0 := (ti_eq rfl (by decide)).mp wx19
        have lwx19 : r_14.toInt = 0 := tix18.2.1.mp twx19
        clear tix18 twx19
        refine pb_aload_n (pc := 38) d_Mod_directoryFault_38 1 rfl rfl ?_
        refine pb_iload_n (pc := 39) d_Mod_directoryFault_39 0 rfl rfl ?_
        refine pb_bipush (pc := 40) (v := 8) d_Mod_directoryFault_40 (by decide) ?_
        refine pb_iadd (pc := 42) d_Mod_directoryFault_42 ?_
        refine pb_topi (fun ix20 eix20 => ?_)
        try have tix20 : ix20.toInt = ix1.toInt + 8 := t2_add eix20 rfl (by decide) (by omega)
        refine pb_iconst (pc := 43) (v := 2) d_Mod_directoryFault_43 (by decide) ?_
        refine pb_callV (pc := 44) (I := i_Mod_directoryFault) (qb := 0) (ci := 10) (nA := 2) (rest := []) (wr := []) d_Mod_directoryFault_44 (g_Mod_at hl G h m_rels m_openRels m_closeRels m_openRel m_closeRel m_comment m_ends m_order m_tape m_count m_nameSize m_names m_size m_data m_looked m_file m_directory m_out m_row m_made m_length m_pressed m_mark m_idSize m_ids m_goalSize m_goals m_value m_faults m_reached v_thrown v_taped v_lookedSize v_fileSize v_directorySize v_outSize v_rowSize v_bitAt v_bitEnd v_why v_madeSize v_firstCount v_secondCount v_heldBits v_heldCount v_pressedSize v_at v_bad v_markSize v_relationCount v_valueSize v_faultCount a_row ix20 2 (by first | (with_reducible assumption) | omega (splitDisjunctions := false) | assumption | omega | decide) (by first | (with_reducible assumption) | omega (splitDisjunctions := false) | assumption | omega | decide) (by first | (with_reducible assumption) | omega (splitDisjunctions := false) | assumption | omega | decide) (by first | (with_reducible assumption) | omega (splitDisjunctions := false) | assumption | omega | decide) F_a_row) rfl rfl [0, 1] [] (by decide) rfl rfl rfl (by decide) (by decide) k_1525 rfl k_128 k_1522 k_1524 k_88 ⟨rfl, hy_Mod_at⟩ (by decide) rfl rfl (Nat.le_of_ble_eq_true rfl) (by decide) (fun v9 ux22 ch21 => ?_)
        obtain ⟨r_23, rfl⟩ : ∃ z9, z9 = ux22 := ⟨_, rfl⟩
        obtain ⟨ech21, ch21⟩ := ch21
        have ech21 : v9 = some (.long r_23) := ech21
        subst ech21
        obtain ⟨fh24, fh25, fh26⟩ : (r_23.toInt = av a_row ix20.toInt (2 : Int32).toInt.toNat) ∧ (0 ≤ r_23.toInt) ∧ (r_23.toInt < 4294967296) := ch21
        have u8 : r_23.toInt = aw A (v_rowSize.toInt - 22 + 8) 2 := by rw [fh24, n2, show ix20.toInt = v_rowSize.toInt - 22 + 8 by omega]; exact av_A hA 2 (by omega) (by omega)
        refine pb_eq (pc' := 47) (lo' := [(1, .int ix1), (0, .ref h)]) (rest' := [.long r_23]) (ws' := [(h, .inr (10, [.ref m_rels, .ref m_openRels, .ref m_closeRels, .ref m_openRel, .ref m_closeRel, .ref m_comment, .ref m_ends, .ref m_order, .int v_thrown, .int v_taped, .ref m_tape, .ref m_count, .ref m_nameSize, .ref m_names, .ref m_size, .ref m_data, .int v_lookedSize, .ref m_looked, .int v_fileSize, .ref m_file, .int v_directorySize, .ref m_directory, .int v_outSize, .ref m_out, .int v_rowSize, .ref m_row, .int v_bitAt, .int v_bitEnd, .int v_why, .int v_madeSize, .ref m_made, .ref m_length, .int v_firstCount, .int v_secondCount, .int v_heldBits, .int v_heldCount, .int v_pressedSize, .ref m_pressed, .int v_at, .int v_bad, .int v_markSize, .ref m_mark, .int v_relationCount, .ref m_idSize, .ref m_ids, .ref m_goalSize, .ref m_goals, .int v_valueSize, .ref m_value, .int v_faultCount, .ref m_faults, .ref m_reached])), (m_row, .inl (G.2.1, 20000, .inl a_row))]) ?_
        refine pb_aload_n (pc := 47) d_Mod_directoryFault_47 1 rfl rfl ?_
        refine pb_iload_n (pc := 48) d_Mod_directoryFault_48 0 rfl rfl ?_
        refine pb_bipush (pc := 49) (v := 10) d_Mod_directoryFault_49 (by decide) ?_
        refine pb_iadd (pc := 51) d_Mod_directoryFault_51 ?_
        refine pb_topi (fun ix27 eix27 => ?_)
        try have tix27 : ix27.toInt = ix1.toInt + 10 := t2_add eix27 rfl (by decide) (by omega)
        refine pb_iconst (pc := 52) (v := 2) d_Mod_directoryFault_52 (by decide) ?_
        refine pb_callV (pc := 53) (I := i_Mod_directoryFault) (qb := 0) (ci := 10) (nA := 2) (rest := [.long r_23]) (wr := []) d_Mod_directoryFault_53 (g_Mod_at hl G h m_rels m_openRels m_closeRels m_openRel m_closeRel m_comment m_ends m_order m_tape m_count m_nameSize m_names m_size m_data m_looked m_file m_directory m_out m_row m_made m_length m_pressed m_mark m_idSize m_ids m_goalSize m_goals m_value m_faults m_reached v_thrown v_taped v_lookedSize v_fileSize v_directorySize v_outSize v_rowSize v_bitAt v_bitEnd v_why v_madeSize v_firstCount v_secondCount v_heldBits v_heldCount v_pressedSize v_at v_bad v_markSize v_relationCount v_valueSize v_faultCount a_row ix27 2 (by first | (with_reducible assumption) | omega (splitDisjunctions := false) | assumption | omega | decide) (by first | (with_reducible assumption) | omega (splitDisjunctions := false) | assumption | omega | decide) (by first | (with_reducible assumption) | omega (splitDisjunctions := false) | assumption | omega | decide) (by first | (with_reducible assumption) | omega (splitDisjunctions := false) | assumption | omega | decide) F_a_row) rfl rfl [0, 1] [] (by decide) rfl rfl rfl (by decide) (by decide) k_1525 rfl k_128 k_1522 k_1524 k_88 ⟨rfl, hy_Mod_at⟩ (by decide) rfl rfl (Nat.le_of_ble_eq_true rfl) (by decide) (fun v9 ux29 ch28 => ?_)
        obtain ⟨r_30, rfl⟩ : ∃ z9, z9 = ux29 := ⟨_, rfl⟩
        obtain ⟨ech28, ch28⟩ := ch28
        have ech28 : v9 = some (.long r_30) := ech28
        subst ech28
        obtain ⟨fh31, fh32, fh33⟩ : (r_30.toInt = av a_row ix27.toInt (2 : Int32).toInt.toNat) ∧ (0 ≤ r_30.toInt) ∧ (r_30.toInt < 4294967296) := ch28
        have u10 : r_30.toInt = aw A (v_rowSize.toInt - 22 + 10) 2 := by rw [fh31, n2, show ix27.toInt = v_rowSize.toInt - 22 + 10 by omega]; exact av_A hA 2 (by omega) (by omega)
        refine pb_eq (pc' := 56) (lo' := [(1, .int ix1), (0, .ref h)]) (rest' := [.long r_30, .long r_23]) (ws' := [(h, .inr (10, [.ref m_rels, .ref m_openRels, .ref m_closeRels, .ref m_openRel, .ref m_closeRel, .ref m_comment, .ref m_ends, .ref m_order, .int v_thrown, .int v_taped, .ref m_tape, .ref m_count, .ref m_nameSize, .ref m_names, .ref m_size, .ref m_data, .int v_lookedSize, .ref m_looked, .int v_fileSize, .ref m_file, .int v_directorySize, .ref m_directory, .int v_outSize, .ref m_out, .int v_rowSize, .ref m_row, .int v_bitAt, .int v_bitEnd, .int v_why, .int v_madeSize, .ref m_made, .ref m_length, .int v_firstCount, .int v_secondCount, .int v_heldBits, .int v_heldCount, .int v_pressedSize, .ref m_pressed, .int v_at, .int v_bad, .int v_markSize, .ref m_mark, .int v_relationCount, .ref m_idSize, .ref m_ids, .ref m_goalSize, .ref m_goals, .int v_valueSize, .ref m_value, .int v_faultCount, .ref m_faults, .ref m_reached])), (m_row, .inl (G.2.1, 20000, .inl a_row))]) ?_
        refine pb_lcmp (pc := 56) d_Mod_directoryFault_56 ?_
        refine pb_topi (fun ix34 eix34 => ?_)
        have tix34 : (ix34.toInt < 0 ↔ r_23.toInt < r_30.toInt) ∧ (ix34.toInt = 0 ↔ r_23.toInt = r_30.toInt) ∧ (0 < ix34.toInt ↔ r_30.toInt < r_23.toInt) := tl_cmp eix34 rfl rfl
        refine pb_if_ne (pc := 57) (tgt := 74) d_Mod_directoryFault_57 (by decide) (fun wx35 => ?_) (fun wx35 => ?_)
        · have twx35 : ¬ ix34.toInt = 0 := fun z9 => wx35 ((ti_eq rfl (by decide)).mpr z9)
          have lwx35 : ¬ r_23.toInt = r_30.toInt := fun z9 => twx35 (tix34.2.1.mpr z9)
          clear tix34 twx35
          refine pb_iconst (pc := 74) (v := 1) d_Mod_directoryFault_74 (by decide) ?_
          exact pb_iret (pc := 75) hQ d_Mod_directoryFault_75 rfl rfl (1) ⟨rfl, (by (try dsimp only); first | done | (with_reducible assumption) | omega (splitDisjunctions := false) | assumption | omega | decide), (show (1 : Int32).toInt = 0 → 22 ≤ v_rowSize.toInt ∧ dq_ok a_row (av a_row (v_rowSize.toInt - 6) 4) (v_rowSize.toInt - 22) from (by first | exact fun h9 => absurd h9 (by omega) | exact fun _ => ⟨by omega, by omega, by omega, k.toInt.toNat, by omega, fun j hj9 => by have q9 := hj j hj9; omega⟩)), (show ((1 : Int32).toInt = 1 ∧ ¬ (22 ≤ v_rowSize.toInt ∧ ed_ A (v_rowSize.toInt - 22))) ∨ ((1 : Int32).toInt = 2 ∧ (22 ≤ v_rowSize.toInt ∧ ed_ A (v_rowSize.toInt - 22)) ∧ ¬ dw_ A (v_rowSize.toInt - 22)) ∨ ((1 : Int32).toInt = 0 ∧ (22 ≤ v_rowSize.toInt ∧ ed_ A (v_rowSize.toInt - 22)) ∧ dw_ A (v_rowSize.toInt - 22)) from (Or.inl ⟨(by first | decide | omega), fun q9 => (by obtain ⟨q8, y1, y2, y3, y4⟩ := q9; (first | exact omg_e6d08f9851 u8 u10 lwx35 y3 | omega))⟩))⟩ [0, 1] (by decide) rfl rfl (by decide) (by decide)
        · have twx35 : ix34.toInt = 0 := (ti_eq rfl (by decide)).mp wx35
          have lwx35 : r_23.toInt = r_30.toInt := tix34.2.1.mp twx35
          clear tix34 twx35
          refine pb_aload_n (pc := 60) d_Mod_directoryFault_60 1 rfl rfl ?_
          refine pb_iload_n (pc := 61) d_Mod_directoryFault_61 0 rfl rfl ?_
          refine pb_bipush (pc := 62) (v := 20) d_Mod_directoryFault_62 (by decide) ?_
          refine pb_iadd (pc := 64) d_Mod_directoryFault_64 ?_
          refine pb_topi (fun ix36 eix36 => ?_)
          try have tix36 : ix36.toInt = ix1.toInt + 20 := t2_add eix36 rfl (by decide) (by omega)
          refine pb_iconst (pc := 65) (v := 2) d_Mod_directoryFault_65 (by decide) ?_
          refine pb_callV (pc := 66) (I := i_Mod_directoryFault) (qb := 0) (ci := 10) (nA := 2) (rest := []) (wr := []) d_Mod_directoryFault_66 (g_Mod_at hl G h m_rels m_openRels m_closeRels m_openRel m_closeRel m_comment m_ends m_order m_tape m_count m_nameSize m_names m_size m_data m_looked m_file m_directory m_out m_row m_made m_length m_pressed m_mark m_idSize m_ids m_goalSize m_goals m_value m_faults m_reached v_thrown v_taped v_lookedSize v_fileSize v_directorySize v_outSize v_rowSize v_bitAt v_bitEnd v_why v_madeSize v_firstCount v_secondCount v_heldBits v_heldCount v_pressedSize v_at v_bad v_markSize v_relationCount v_valueSize v_faultCount a_row ix36 2 (by first | (with_reducible assumption) | omega (splitDisjunctions := false) | assumption | omega | decide) (by first | (with_reducible assumption) | omega (splitDisjunctions := false) | assumption | omega | decide) (by first | (with_reducible assumption) | omega (splitDisjunctions := false) | assumption | omega | decide) (by first | (with_reducible assumption) | omega (splitDisjunctions := false) | assumption | omega | decide) F_a_row) rfl rfl [0, 1] [] (by decide) rfl rfl rfl (by decide) (by decide) k_1525 rfl k_128 k_1522 k_1524 k_88 ⟨rfl, hy_Mod_at⟩ (by decide) rfl rfl (Nat.le_of_ble_eq_true rfl) (by decide) (fun v9 ux38 ch37 => ?_)
          obtain ⟨r_39, rfl⟩ : ∃ z9, z9 = ux38 := ⟨_, rfl⟩
          obtain ⟨ech37, ch37⟩ := ch37
          have ech37 : v9 = some (.long r_39) := ech37
          subst ech37
          obtain ⟨fh40, fh41, fh42⟩ : (r_39.toInt = av a_row ix36.toInt (2 : Int32).toInt.toNat) ∧ (0 ≤ r_39.toInt) ∧ (r_39.toInt < 4294967296) := ch37
          have u20 : r_39.toInt = aw A (v_rowSize.toInt - 22 + 20) 2 := by rw [fh40, n2, show ix36.toInt = v_rowSize.toInt - 22 + 20 by omega]; exact av_A hA 2 (by omega) (by omega)
          refine pb_eq (pc' := 69) (lo' := [(1, .int ix1), (0, .ref h)]) (rest' := [.long r_39]) (ws' := [(h, .inr (10, [.ref m_rels, .ref m_openRels, .ref m_closeRels, .ref m_openRel, .ref m_closeRel, .ref m_comment, .ref m_ends, .ref m_order, .int v_thrown, .int v_taped, .ref m_tape, .ref m_count, .ref m_nameSize, .ref m_names, .ref m_size, .ref m_data, .int v_lookedSize, .ref m_looked, .int v_fileSize, .ref m_file, .int v_directorySize, .ref m_directory, .int v_outSize, .ref m_out, .int v_rowSize, .ref m_row, .int v_bitAt, .int v_bitEnd, .int v_why, .int v_madeSize, .ref m_made, .ref m_length, .int v_firstCount, .int v_secondCount, .int v_heldBits, .int v_heldCount, .int v_pressedSize, .ref m_pressed, .int v_at, .int v_bad, .int v_markSize, .ref m_mark, .int v_relationCount, .ref m_idSize, .ref m_ids, .ref m_goalSize, .ref m_goals, .int v_valueSize, .ref m_value, .int v_faultCount, .ref m_faults, .ref m_reached])), (m_row, .inl (G.2.1, 20000, .inl a_row))]) ?_
          refine pb_lconst (pc := 69) (v := 0) d_Mod_directoryFault_69 (by decide) ?_
          refine pb_lcmp (pc := 70) d_Mod_directoryFault_70 ?_
          refine pb_topi (fun ix43 eix43 => ?_)
          have tix43 : (ix43.toInt < 0 ↔ r_39.toInt < 0) ∧ (ix43.toInt = 0 ↔ r_39.toInt = 0) ∧ (0 < ix43.toInt ↔ 0 < r_39.toInt) := tl_cmp eix43 rfl (by decide)
          refine pb_if_eq (pc := 71) (tgt := 76) d_Mod_directoryFault_71 (by decide) (fun wx44 => ?_) (fun wx44 => ?_)
          · have twx44 : ix43.toInt = 0 := (ti_eq rfl (by decide)).mp wx44
            have lwx44 : r_39.toInt = 0 := tix43.2.1.mp twx44
            clear tix43 twx44
            have edF : 22 ≤ v_rowSize.toInt ∧ ed_ A (v_rowSize.toInt - 22) := ⟨by (first | exact omg_323c347f16 tix1 twx2 | omega), by omega, by omega, by omega, by omega⟩
            refine pb_aload_n (pc := 76) d_Mod_directoryFault_76 1 rfl rfl ?_
            refine pb_iload_n (pc := 77) d_Mod_directoryFault_77 0 rfl rfl ?_
            refine pb_bipush (pc := 78) (v := 16) d_Mod_directoryFault_78 (by decide) ?_
            refine pb_iadd (pc := 80) d_Mod_directoryFault_80 ?_
            refine pb_topi (fun ix45 eix45 => ?_)
            try have tix45 : ix45.toInt = ix1.toInt + 16 := t2_add eix45 rfl (by decide) (by omega)
            refine pb_iconst (pc := 81) (v := 4) d_Mod_directoryFault_81 (by decide) ?_
            refine pb_callV (pc := 82) (I := i_Mod_directoryFault) (qb := 0) (ci := 10) (nA := 2) (rest := []) (wr := []) d_Mod_directoryFault_82 (g_Mod_at hl G h m_rels m_openRels m_closeRels m_openRel m_closeRel m_comment m_ends m_order m_tape m_count m_nameSize m_names m_size m_data m_looked m_file m_directory m_out m_row m_made m_length m_pressed m_mark m_idSize m_ids m_goalSize m_goals m_value m_faults m_reached v_thrown v_taped v_lookedSize v_fileSize v_directorySize v_outSize v_rowSize v_bitAt v_bitEnd v_why v_madeSize v_firstCount v_secondCount v_heldBits v_heldCount v_pressedSize v_at v_bad v_markSize v_relationCount v_valueSize v_faultCount a_row ix45 4 (by first | (with_reducible assumption) | omega (splitDisjunctions := false) | assumption | omega | decide) (by first | (with_reducible assumption) | omega (splitDisjunctions := false) | assumption | omega | decide) (by first | (with_reducible assumption) | omega (splitDisjunctions := false) | assumption | omega | decide) (by first | (with_reducible assumption) | omega (splitDisjunctions := false) | assumption | omega | decide) F_a_row) rfl rfl [0, 1] [] (by decide) rfl rfl rfl (by decide) (by decide) k_1525 rfl k_128 k_1522 k_1524 k_88 ⟨rfl, hy_Mod_at⟩ (by decide) rfl rfl (Nat.le_of_ble_eq_true rfl) (by decide) (fun v9 ux47 ch46 => ?_)
            obtain ⟨r_48, rfl⟩ : ∃ z9, z9 = ux47 := ⟨_, rfl⟩
            obtain ⟨ech46, ch46⟩ := ch46
            have ech46 : v9 = some (.long r_48) := ech46
            subst ech46
            obtain ⟨fh49, fh50, fh51⟩ : (r_48.toInt = av a_row ix45.toInt (4 : Int32).toInt.toNat) ∧ (0 ≤ r_48.toInt) ∧ (r_48.toInt < 4294967296) := ch46
            have u16 : r_48.toInt = aw A (v_rowSize.toInt - 22 + 16) 4 := by rw [fh49, n4, show ix45.toInt = v_rowSize.toInt - 22 + 16 by (first | exact omg_7b9874a233 tix1 tix45 | omega)]; exact av_A hA 4 (by omega) (by omega)
            rw [n4, show ix45.toInt = v_rowSize.toInt - 6 by omega] at fh49
            refine pb_eq (pc' := 85) (lo' := [(1, .int ix1), (0, .ref h)]) (rest' := [.long r_48]) (ws' := [(h, .inr (10, [.ref m_rels, .ref m_openRels, .ref m_closeRels, .ref m_openRel, .ref m_closeRel, .ref m_comment, .ref m_ends, .ref m_order, .int v_thrown, .int v_taped, .ref m_tape, .ref m_count, .ref m_nameSize, .ref m_names, .ref m_size, .ref m_data, .int v_lookedSize, .ref m_looked, .int v_fileSize, .ref m_file, .int v_directorySize, .ref m_directory, .int v_outSize, .ref m_out, .int v_rowSize, .ref m_row, .int v_bitAt, .int v_bitEnd, .int v_why, .int v_madeSize, .ref m_made, .ref m_length, .int v_firstCount, .int v_secondCount, .int v_heldBits, .int v_heldCount, .int v_pressedSize, .ref m_pressed, .int v_at, .int v_bad, .int v_markSize, .ref m_mark, .int v_relationCount, .ref m_idSize, .ref m_ids, .ref m_goalSize, .ref m_goals, .int v_valueSize, .ref m_value, .int v_faultCount, .ref m_faults, .ref m_reached])), (m_row, .inl (G.2.1, 20000, .inl a_row))]) ?_
            refine pb_lstore_n (pc := 85) (lo' := [(2, .long r_48), (1, .int ix1), (0, .ref h)]) d_Mod_directoryFault_85 rfl (by decide) rfl ?_
            refine pb_lload_n (pc := 86) d_Mod_directoryFault_86 0 rfl rfl ?_
            refine pb_aload_n (pc := 87) d_Mod_directoryFault_87 2 rfl rfl ?_
            refine pb_iload_n (pc := 88) d_Mod_directoryFault_88 1 rfl rfl ?_
            refine pb_bipush (pc := 89) (v := 12) d_Mod_directoryFault_89 (by decide) ?_
            refine pb_iadd (pc := 91) d_Mod_directoryFault_91 ?_
            refine pb_topi (fun ix52 eix52 => ?_)
            try have tix52 : ix52.toInt = ix1.toInt + 12 := t2_add eix52 rfl (by decide) (by (first | exact omg_7ffc45122b h1 tix1 twx2 | omega))
            refine pb_iconst (pc := 92) (v := 4) d_Mod_directoryFault_92 (by decide) ?_
            refine pb_callV (pc := 93) (I := i_Mod_directoryFault) (qb := 0) (ci := 10) (nA := 2) (rest := [.long r_48]) (wr := []) d_Mod_directoryFault_93 (g_Mod_at hl G h m_rels m_openRels m_closeRels m_openRel m_closeRel m_comment m_ends m_order m_tape m_count m_nameSize m_names m_size m_data m_looked m_file m_directory m_out m_row m_made m_length m_pressed m_mark m_idSize m_ids m_goalSize m_goals m_value m_faults m_reached v_thrown v_taped v_lookedSize v_fileSize v_directorySize v_outSize v_rowSize v_bitAt v_bitEnd v_why v_madeSize v_firstCount v_secondCount v_heldBits v_heldCount v_pressedSize v_at v_bad v_markSize v_relationCount v_valueSize v_faultCount a_row ix52 4 (by first | (with_reducible assumption) | omega (splitDisjunctions := false) | assumption | omega | decide) (by first | (with_reducible assumption) | omega (splitDisjunctions := false) | assumption | omega | decide) (by first | (with_reducible assumption) | omega (splitDisjunctions := false) | assumption | omega | decide) (by first | (with_reducible assumption) | omega (splitDisjunctions := false) | assumption | omega | decide) F_a_row) rfl rfl [0, 1] [] (by decide) rfl rfl rfl (by decide) (by decide) k_1525 rfl k_128 k_1522 k_1524 k_88 ⟨rfl, hy_Mod_at⟩ (by decide) rfl rfl (Nat.le_of_ble_eq_true rfl) (by decide) (fun v9 ux54 ch53 => ?_)
            obtain ⟨r_55, rfl⟩ : ∃ z9, z9 = ux54 := ⟨_, rfl⟩
            obtain ⟨ech53, ch53⟩ := ch53
            have ech53 : v9 = some (.long r_55) := ech53
            subst ech53
            obtain ⟨fh56, fh57, fh58⟩ : (r_55.toInt = av a_row ix52.toInt (4 : Int32).toInt.toNat) ∧ (0 ≤ r_55.toInt) ∧ (r_55.toInt < 4294967296) := ch53
            have u12 : r_55.toInt = aw A (v_rowSize.toInt - 22 + 12) 4 := by rw [fh56, n4, show ix52.toInt = v_rowSize.toInt - 22 + 12 by (first | exact omg_72b34b9ca2 tix1 tix52 | omega)]; exact av_A hA 4 (by (first | exact omg_8dfcb45615 tix1 twx2 | omega)) (by omega)
            refine pb_eq (pc' := 96) (lo' := [(2, .long r_48), (1, .int ix1), (0, .ref h)]) (rest' := [.long r_55, .long r_48]) (ws' := [(h, .inr (10, [.ref m_rels, .ref m_openRels, .ref m_closeRels, .ref m_openRel, .ref m_closeRel, .ref m_comment, .ref m_ends, .ref m_order, .int v_thrown, .int v_taped, .ref m_tape, .ref m_count, .ref m_nameSize, .ref m_names, .ref m_size, .ref m_data, .int v_lookedSize, .ref m_looked, .int v_fileSize, .ref m_file, .int v_directorySize, .ref m_directory, .int v_outSize, .ref m_out, .int v_rowSize, .ref m_row, .int v_bitAt, .int v_bitEnd, .int v_why, .int v_madeSize, .ref m_made, .ref m_length, .int v_firstCount, .int v_secondCount, .int v_heldBits, .int v_heldCount, .int v_pressedSize, .ref m_pressed, .int v_at, .int v_bad, .int v_markSize, .ref m_mark, .int v_relationCount, .ref m_idSize, .ref m_ids, .ref m_goalSize, .ref m_goals, .int v_valueSize, .ref m_value, .int v_faultCount, .ref m_faults, .ref m_reached])), (m_row, .inl (G.2.1, 20000, .inl a_row))]) ?_
            refine pb_ladd (pc := 96) d_Mod_directoryFault_96 ?_
            refine pb_topl (fun jx59 ejx59 => ?_)
            try have tjx59 : jx59.toInt = r_48.toInt + r_55.toInt := tl_add ejx59 rfl rfl (by (first | exact omg_19de973fa8 fh50 fh57 | omega)) (by (first | exact omg_aeeff30375 fh51 fh58 | omega))
            refine pb_iload_n (pc := 97) d_Mod_directoryFault_97 1 rfl rfl ?_
            refine pb_i2l (pc := 98) d_Mod_directoryFault_98 rfl ?_
            refine pb_topl (fun jx60 ejx60 => ?_)
            have tjx60 : jx60.toInt = ix1.toInt := tl_i2l ejx60 rfl
            refine pb_lcmp (pc := 99) d_Mod_directoryFault_99 ?_
            refine pb_topi (fun ix61 eix61 => ?_)
            have tix61 : (ix61.toInt < 0 ↔ jx59.toInt < jx60.toInt) ∧ (ix61.toInt = 0 ↔ jx59.toInt = jx60.toInt) ∧ (0 < ix61.toInt ↔ jx60.toInt < jx59.toInt) := tl_cmp eix61 rfl rfl
            refine pb_if_eq (pc := 100) (tgt := 105) d_Mod_directoryFault_100 (by decide) (fun wx62 => ?_) (fun wx62 => ?_)
            · have twx62 : ix61.toInt = 0 := (ti_eq rfl (by decide)).mp wx62
              have lwx62 : jx59.toInt = jx60.toInt := tix61.2.1.mp twx62
              clear tix61 twx62
              refine pb_aload_n (pc := 105) d_Mod_directoryFault_105 2 rfl rfl ?_
              refine pb_iload_n (pc := 106) d_Mod_directoryFault_106 1 rfl rfl ?_
              refine pb_bipush (pc := 107) (v := 8) d_Mod_directoryFault_107 (by decide) ?_
              refine pb_iadd (pc := 109) d_Mod_directoryFault_109 ?_
              refine pb_topi (fun ix63 eix63 => ?_)
              try have tix63 : ix63.toInt = ix1.toInt + 8 := t2_add eix63 rfl (by decide) (by (first | exact omg_9aadd9d296 h0 h1 tix1 | omega))
              refine pb_iconst (pc := 110) (v := 2) d_Mod_directoryFault_110 (by decide) ?_
              refine pb_callV (pc := 111) (I := i_Mod_directoryFault) (qb := 0) (ci := 10) (nA := 2) (rest := []) (wr := []) d_Mod_directoryFault_111 (g_Mod_at hl G h m_rels m_openRels m_closeRels m_openRel m_closeRel m_comment m_ends m_order m_tape m_count m_nameSize m_names m_size m_data m_looked m_file m_directory m_out m_row m_made m_length m_pressed m_mark m_idSize m_ids m_goalSize m_goals m_value m_faults m_reached v_thrown v_taped v_lookedSize v_fileSize v_directorySize v_outSize v_rowSize v_bitAt v_bitEnd v_why v_madeSize v_firstCount v_secondCount v_heldBits v_heldCount v_pressedSize v_at v_bad v_markSize v_relationCount v_valueSize v_faultCount a_row ix63 2 (by first | (with_reducible assumption) | omega (splitDisjunctions := false) | assumption | omega | decide) (by first | (with_reducible assumption) | omega (splitDisjunctions := false) | assumption | omega | decide) (by first | (with_reducible assumption) | omega (splitDisjunctions := false) | assumption | omega | decide) (by first | (with_reducible assumption) | omega (splitDisjunctions := false) | assumption | omega | decide) F_a_row) rfl rfl [0, 1] [] (by decide) rfl rfl rfl (by decide) (by decide) k_1525 rfl k_128 k_1522 k_1524 k_88 ⟨rfl, hy_Mod_at⟩ (by decide) rfl rfl (Nat.le_of_ble_eq_true rfl) (by decide) (fun v9 ux65 ch64 => ?_)
              obtain ⟨r_66, rfl⟩ : ∃ z9, z9 = ux65 := ⟨_, rfl⟩
              obtain ⟨ech64, ch64⟩ := ch64
              have ech64 : v9 = some (.long r_66) := ech64
              subst ech64
              obtain ⟨fh67, fh68, fh69⟩ : (r_66.toInt = av a_row ix63.toInt (2 : Int32).toInt.toNat) ∧ (0 ≤ r_66.toInt) ∧ (r_66.toInt < 4294967296) := ch64
              have v8 : r_66.toInt = aw A (v_rowSize.toInt - 22 + 8) 2 := by rw [fh67, n2, show ix63.toInt = v_rowSize.toInt - 22 + 8 by (first | exact omg_99ead58fc1 tix1 tix63 | omega)]; exact av_A hA 2 (by (first | exact omg_87d706a7a1 tix1 twx2 | omega)) (by omega)
              refine pb_eq (pc' := 114) (lo' := [(2, .long r_48), (1, .int ix1), (0, .ref h)]) (rest' := [.long r_66]) (ws' := [(h, .inr (10, [.ref m_rels, .ref m_openRels, .ref m_closeRels, .ref m_openRel, .ref m_closeRel, .ref m_comment, .ref m_ends, .ref m_order, .int v_thrown, .int v_taped, .ref m_tape, .ref m_count, .ref m_nameSize, .ref m_names, .ref m_size, .ref m_data, .int v_lookedSize, .ref m_looked, .int v_fileSize, .ref m_file, .int v_directorySize, .ref m_directory, .int v_outSize, .ref m_out, .int v_rowSize, .ref m_row, .int v_bitAt, .int v_bitEnd, .int v_why, .int v_madeSize, .ref m_made, .ref m_length, .int v_firstCount, .int v_secondCount, .int v_heldBits, .int v_heldCount, .int v_pressedSize, .ref m_pressed, .int v_at, .int v_bad, .int v_markSize, .ref m_mark, .int v_relationCount, .ref m_idSize, .ref m_ids, .ref m_goalSize, .ref m_goals, .int v_valueSize, .ref m_value, .int v_faultCount, .ref m_faults, .ref m_reached])), (m_row, .inl (G.2.1, 20000, .inl a_row))]) ?_
              refine pb_lstore (pc := 114) (lo' := [(4, .long r_66), (2, .long r_48), (1, .int ix1), (0, .ref h)]) d_Mod_directoryFault_114 (by decide) rfl ?_
              refine pb_lconst (pc := 116) (v := 0) d_Mod_directoryFault_116 (by decide) ?_
              refine pb_lstore (pc := 117) (lo' := [(6, .long 0), (4, .long r_66), (2, .long r_48), (1, .int ix1), (0, .ref h)]) d_Mod_directoryFault_117 (by decide) rfl ?_
              have hL119_70 : ∀ (N9 : Nat) (e : Int32) (hr : Int64) (n : Int64) (k : Int64), (e.toInt = (v_rowSize.toInt - 22)) → (0 ≤ e.toInt) → (0 ≤ k.toInt) → (k.toInt ≤ n.toInt) → (n.toInt < 4294967296) → (0 ≤ av a_row (v_rowSize.toInt - 6) 4) → (av a_row (v_rowSize.toInt - 6) 4 ≤ e.toInt) → (av a_row (v_rowSize.toInt - 6) 4 ≤ hr.toInt) → (hr.toInt ≤ e.toInt + 65600) → (hr.toInt = dq a_row (av a_row (v_rowSize.toInt - 6) 4) k.toInt.toNat) → (∀ j : Nat, j < k.toInt.toNat → dq a_row (av a_row (v_rowSize.toInt - 6) 4) j + 46 ≤ e.toInt) → (22 ≤ v_rowSize.toInt ∧ ed_ A (v_rowSize.toInt - 22)) → (aw A (v_rowSize.toInt - 22 + 16) 4 + aw A (v_rowSize.toInt - 22 + 12) 4 = v_rowSize.toInt - 22) → (n.toInt = aw A (v_rowSize.toInt - 22 + 8) 2) → (hr.toInt = dz A (aw A (v_rowSize.toInt - 22 + 16) 4) k.toInt.toNat) → (∀ j : Nat, j < k.toInt.toNat → dz A (aw A (v_rowSize.toInt - 22 + 16) 4) j + 46 ≤ v_rowSize.toInt - 22 ∧ ey_ A (dz A (aw A (v_rowSize.toInt - 22 + 16) 4) j)) → ((n.toInt - k.toInt).toNat) < N9 → pb_P l G M i_Mod_directoryFault 119 [(1, .int e), (2, .long hr), (4, .long n), (6, .long k), (0, .ref h)] [] [(h, .inr (10, [.ref m_rels, .ref m_openRels, .ref m_closeRels, .ref m_openRel, .ref m_closeRel, .ref m_comment, .ref m_ends, .ref m_order, .int v_thrown, .int v_taped, .ref m_tape, .ref m_count, .ref m_nameSize, .ref m_names, .ref m_size, .ref m_data, .int v_lookedSize, .ref m_looked, .int v_fileSize, .ref m_file, .int v_directorySize, .ref m_directory, .int v_outSize, .ref m_out, .int v_rowSize, .ref m_row, .int v_bitAt, .int v_bitEnd, .int v_why, .int v_madeSize, .ref m_made, .ref m_length, .int v_firstCount, .int v_secondCount, .int v_heldBits, .int v_heldCount, .int v_pressedSize, .ref m_pressed, .int v_at, .int v_bad, .int v_markSize, .ref m_mark, .int v_relationCount, .ref m_idSize, .ref m_ids, .ref m_goalSize, .ref m_goals, .int v_valueSize, .ref m_value, .int v_faultCount, .ref m_faults, .ref m_reached])), (m_row, .inl (G.2.1, 20000, .inl a_row))] 0 0 := by
                intro N9
                induction N9 with
                | zero => intro e hr n k e0 e1 k0 k1 k2 a0 a1 a2 a3 hq hj eD5 hw5 hn5 hz hy hm9; exact absurd hm9 (Nat.not_lt_zero _)
                | succ N9 ih119 =>
                  intro e hr n k e0 e1 k0 k1 k2 a0 a1 a2 a3 hq hj eD5 hw5 hn5 hz hy hm9
                  refine pb_lload (pc := 119) d_Mod_directoryFault_119 3 rfl ?_
                  refine pb_lload (pc := 121) d_Mod_directoryFault_121 2 rfl ?_
                  refine pb_lcmp (pc := 123) d_Mod_directoryFault_123 ?_
                  refine pb_topi (fun ix71 eix71 => ?_)
                  have tix71 : (ix71.toInt < 0 ↔ k.toInt < n.toInt) ∧ (ix71.toInt = 0 ↔ k.toInt = n.toInt) ∧ (0 < ix71.toInt ↔ n.toInt < k.toInt) := tl_cmp eix71 rfl rfl
                  refine pb_if_ge (pc := 124) (tgt := 306) d_Mod_directoryFault_124 (by decide) (fun wx72 => ?_) (fun wx72 => ?_)
                  · have twx72 : 0 ≤ ix71.toInt := (ti_le (by decide) rfl).mp wx72
                    have lwx72 : n.toInt ≤ k.toInt := Int.not_lt.mp (fun z9 => absurd (tix71.1.mpr z9) (Int.not_lt.mpr twx72))
                    clear tix71 twx72
                    refine pb_lload_n (pc := 306) d_Mod_directoryFault_306 1 rfl rfl ?_
                    refine pb_iload_n (pc := 307) d_Mod_directoryFault_307 0 rfl rfl ?_
                    refine pb_i2l (pc := 308) d_Mod_directoryFault_308 rfl ?_
                    refine pb_topl (fun jx73 ejx73 => ?_)
                    have tjx73 : jx73.toInt = e.toInt := tl_i2l ejx73 rfl
                    refine pb_lcmp (pc := 309) d_Mod_directoryFault_309 ?_
                    refine pb_topi (fun ix74 eix74 => ?_)
                    have tix74 : (ix74.toInt < 0 ↔ hr.toInt < jx73.toInt) ∧ (ix74.toInt = 0 ↔ hr.toInt = jx73.toInt) ∧ (0 < ix74.toInt ↔ jx73.toInt < hr.toInt) := tl_cmp eix74 rfl rfl
                    refine pb_if_ne (pc := 310) (tgt := 317) d_Mod_directoryFault_310 (by decide) (fun wx75 => ?_) (fun wx75 => ?_)
                    · have twx75 : ¬ ix74.toInt = 0 := fun z9 => wx75 ((ti_eq rfl (by decide)).mpr z9)
                      have lwx75 : ¬ hr.toInt = jx73.toInt := fun z9 => twx75 (tix74.2.1.mpr z9)
                      clear tix74 twx75
                      refine pb_iconst (pc := 317) (v := 2) d_Mod_directoryFault_317 (by decide) ?_
                      exact pb_iret (pc := 318) hQ d_Mod_directoryFault_318 rfl rfl (2) ⟨rfl, (by (try dsimp only); first | done | (with_reducible assumption) | omega (splitDisjunctions := false) | assumption | omega | decide), (show (2 : Int32).toInt = 0 → 22 ≤ v_rowSize.toInt ∧ dq_ok a_row (av a_row (v_rowSize.toInt - 6) 4) (v_rowSize.toInt - 22) from (by first | exact fun h9 => absurd h9 (by omega) | exact fun _ => ⟨by omega, by omega, by omega, k.toInt.toNat, by omega, fun j hj9 => by have q9 := hj j hj9; omega⟩)), (show ((2 : Int32).toInt = 1 ∧ ¬ (22 ≤ v_rowSize.toInt ∧ ed_ A (v_rowSize.toInt - 22))) ∨ ((2 : Int32).toInt = 2 ∧ (22 ≤ v_rowSize.toInt ∧ ed_ A (v_rowSize.toInt - 22)) ∧ ¬ dw_ A (v_rowSize.toInt - 22)) ∨ ((2 : Int32).toInt = 0 ∧ (22 ≤ v_rowSize.toInt ∧ ed_ A (v_rowSize.toInt - 22)) ∧ dw_ A (v_rowSize.toInt - 22)) from (by first | exact Or.inr (Or.inr ⟨(by first | decide | omega), eD5, hw5, fun j h9 => hy j (by omega), by rw [show (aw A (v_rowSize.toInt - 22 + 8) 2).toNat = k.toInt.toNat by omega, ← hz]; omega⟩) | exact Or.inr (Or.inl ⟨(by first | decide | omega), eD5, fun q9 => (by have q8 := q9.2.2; rw [show (aw A (v_rowSize.toInt - 22 + 8) 2).toNat = k.toInt.toNat by (first | exact omg_36beddd5d0 k1 hn5 lwx72 | omega), ← hz] at q8; (first | exact omg_d1b8b97a7b e0 tjx73 lwx75 q8 | omega))⟩)))⟩ [0, 1] (by decide) rfl rfl (by decide) (by decide)
                    · have twx75 : ix74.toInt = 0 := (ti_eq rfl (by decide)).mp wx75
                      have lwx75 : hr.toInt = jx73.toInt := tix74.2.1.mp twx75
                      clear tix74 twx75
                      refine pb_iconst (pc := 313) (v := 0) d_Mod_directoryFault_313 (by decide) ?_
                      refine pb_goto (pc := 314) (tgt := 318) d_Mod_directoryFault_314 (by decide) ?_
                      exact pb_iret (pc := 318) hQ d_Mod_directoryFault_318 rfl rfl (0) ⟨rfl, (by (try dsimp only); first | done | (with_reducible assumption) | omega (splitDisjunctions := false) | assumption | omega | decide), (show (0 : Int32).toInt = 0 → 22 ≤ v_rowSize.toInt ∧ dq_ok a_row (av a_row (v_rowSize.toInt - 6) 4) (v_rowSize.toInt - 22) from (by first | exact fun h9 => absurd h9 (by omega) | exact fun _ => ⟨by (first | exact omg_323c347f16 tix1 twx2 | omega), by omega, by (first | exact omg_8aa6819ae4 tix1 fh49 fh57 tjx59 tjx60 lwx62 | omega), k.toInt.toNat, by (first | exact omg_b5eed79224 e0 hq tjx73 lwx75 | omega), fun j hj9 => by have q9 := hj j hj9; (first | exact omg_960fa75daf e0 q9 | omega)⟩)), (show ((0 : Int32).toInt = 1 ∧ ¬ (22 ≤ v_rowSize.toInt ∧ ed_ A (v_rowSize.toInt - 22))) ∨ ((0 : Int32).toInt = 2 ∧ (22 ≤ v_rowSize.toInt ∧ ed_ A (v_rowSize.toInt - 22)) ∧ ¬ dw_ A (v_rowSize.toInt - 22)) ∨ ((0 : Int32).toInt = 0 ∧ (22 ≤ v_rowSize.toInt ∧ ed_ A (v_rowSize.toInt - 22)) ∧ dw_ A (v_rowSize.toInt - 22)) from (by first | exact Or.inr (Or.inr ⟨(by first | decide | omega), eD5, hw5, fun j h9 => hy j (by (first | exact omg_370188a66b hn5 lwx72 h9 | omega)), by rw [show (aw A (v_rowSize.toInt - 22 + 8) 2).toNat = k.toInt.toNat by (first | exact omg_36beddd5d0 k1 hn5 lwx72 | omega), ← hz]; (first | exact omg_17f4429383 e0 tjx73 lwx75 | omega)⟩) | exact Or.inr (Or.inl ⟨(by first | decide | omega), eD5, fun q9 => (by have q8 := q9.2.2; rw [show (aw A (v_rowSize.toInt - 22 + 8) 2).toNat = k.toInt.toNat by omega, ← hz] at q8; omega)⟩)))⟩ [0, 1] (by decide) rfl rfl (by decide) (by decide)
                  · have twx72 : ¬ 0 ≤ ix71.toInt := fun z9 => wx72 ((ti_le (by decide) rfl).mpr z9)
                    have lwx72 : k.toInt < n.toInt := tix71.1.mp (Int.not_le.mp twx72)
                    clear tix71 twx72
                    refine pb_lload_n (pc := 127) d_Mod_directoryFault_127 1 rfl rfl ?_
                    refine pb_ldc2 (pc := 128) (v := 46) d_Mod_directoryFault_128 k_1527 ?_
                    refine pb_ladd (pc := 131) d_Mod_directoryFault_131 ?_
                    refine pb_topl (fun jx76 ejx76 => ?_)
                    try have tjx76 : jx76.toInt = hr.toInt + 46 := tl_add ejx76 rfl (by decide) (by (first | exact omg_4af15ee253 fh49 fh50 a2 | omega)) (by (first | exact omg_c10d38c07e h1 e0 a3 | omega))
                    refine pb_iload_n (pc := 132) d_Mod_directoryFault_132 0 rfl rfl ?_
                    refine pb_i2l (pc := 133) d_Mod_directoryFault_133 rfl ?_
                    refine pb_topl (fun jx77 ejx77 => ?_)
                    have tjx77 : jx77.toInt = e.toInt := tl_i2l ejx77 rfl
                    refine pb_lcmp (pc := 134) d_Mod_directoryFault_134 ?_
                    refine pb_topi (fun ix78 eix78 => ?_)
                    have tix78 : (ix78.toInt < 0 ↔ jx76.toInt < jx77.toInt) ∧ (ix78.toInt = 0 ↔ jx76.toInt = jx77.toInt) ∧ (0 < ix78.toInt ↔ jx77.toInt < jx76.toInt) := tl_cmp eix78 rfl rfl
                    refine pb_if_le (pc := 135) (tgt := 140) d_Mod_directoryFault_135 (by decide) (fun wx79 => ?_) (fun wx79 => ?_)
                    · have twx79 : ix78.toInt ≤ 0 := (ti_le rfl (by decide)).mp wx79
                      have lwx79 : jx76.toInt ≤ jx77.toInt := Int.not_lt.mp (fun z9 => absurd (tix78.2.2.mpr z9) (Int.not_lt.mpr twx79))
                      clear tix78 twx79
                      refine pb_lload_n (pc := 140) d_Mod_directoryFault_140 1 rfl rfl ?_
                      refine pb_l2i (pc := 141) d_Mod_directoryFault_141 rfl ?_
                      refine pb_topi (fun ix80 eix80 => ?_)
                      try have tix80 : ix80.toInt = hr.toInt := ti_l2i eix80 rfl (by (first | exact omg_4d89c30059 fh49 fh50 a2 | omega)) (by (first | exact omg_e4476e7288 h1 e0 tjx76 tjx77 lwx79 | omega))
                      refine pb_istore (pc := 142) (lo' := [(8, .int ix80), (1, .int e), (2, .long hr), (4, .long n), (6, .long k), (0, .ref h)]) d_Mod_directoryFault_142 (by decide) rfl ?_
                      have hJ228_81 : ∀ (gd : Int32) (e8 : Int32), (e8.toInt = hr.toInt) → (hid_ (gd.toInt = 1 → (aw A hr.toInt 4 = 33639248 ∧ aw A (hr.toInt + 4) 4 = 1310740 ∧ aw A (hr.toInt + 8) 2 = 0 ∧ (aw A (hr.toInt + 10) 2 = 0 ∨ aw A (hr.toInt + 10) 2 = 8)))) → (hid_ (gd.toInt = 0 → ¬ (aw A hr.toInt 4 = 33639248 ∧ aw A (hr.toInt + 4) 4 = 1310740 ∧ aw A (hr.toInt + 8) 2 = 0 ∧ (aw A (hr.toInt + 10) 2 = 0 ∨ aw A (hr.toInt + 10) 2 = 8)))) → (gd.toInt = 0 ∨ gd.toInt = 1) → pb_P l G M i_Mod_directoryFault 228 [(9, .int gd), (8, .int e8), (1, .int e), (2, .long hr), (4, .long n), (6, .long k), (0, .ref h)] [] [(h, .inr (10, [.ref m_rels, .ref m_openRels, .ref m_closeRels, .ref m_openRel, .ref m_closeRel, .ref m_comment, .ref m_ends, .ref m_order, .int v_thrown, .int v_taped, .ref m_tape, .ref m_count, .ref m_nameSize, .ref m_names, .ref m_size, .ref m_data, .int v_lookedSize, .ref m_looked, .int v_fileSize, .ref m_file, .int v_directorySize, .ref m_directory, .int v_outSize, .ref m_out, .int v_rowSize, .ref m_row, .int v_bitAt, .int v_bitEnd, .int v_why, .int v_madeSize, .ref m_made, .ref m_length, .int v_firstCount, .int v_secondCount, .int v_heldBits, .int v_heldCount, .int v_pressedSize, .ref m_pressed, .int v_at, .int v_bad, .int v_markSize, .ref m_mark, .int v_relationCount, .ref m_idSize, .ref m_ids, .ref m_goalSize, .ref m_goals, .int v_valueSize, .ref m_value, .int v_faultCount, .ref m_faults, .ref m_reached])), (m_row, .inl (G.2.1, 20000, .inl a_row))] 0 0 := by
                        intro gd e8 j0 g1 g0 g2
                        refine pb_iload (pc := 228) d_Mod_directoryFault_228 0 rfl ?_
                        refine pb_if_eq (pc := 230) (tgt := 278) d_Mod_directoryFault_230 (by decide) (fun wx82 => ?_) (fun wx82 => ?_)
                        · have twx82 : gd.toInt = 0 := (ti_eq rfl (by decide)).mp wx82
                          refine pb_iconst (pc := 278) (v := 2) d_Mod_directoryFault_278 (by decide) ?_
                          exact pb_iret (pc := 279) hQ d_Mod_directoryFault_279 rfl rfl (2) ⟨rfl, (by (try dsimp only); first | done | (with_reducible assumption) | omega (splitDisjunctions := false) | assumption | omega | decide), (show (2 : Int32).toInt = 0 → 22 ≤ v_rowSize.toInt ∧ dq_ok a_row (av a_row (v_rowSize.toInt - 6) 4) (v_rowSize.toInt - 22) from (by first | exact fun h9 => absurd h9 (by omega) | exact fun _ => ⟨by omega, by omega, by omega, k.toInt.toNat, by omega, fun j hj9 => by have q9 := hj j hj9; omega⟩)), (show ((2 : Int32).toInt = 1 ∧ ¬ (22 ≤ v_rowSize.toInt ∧ ed_ A (v_rowSize.toInt - 22))) ∨ ((2 : Int32).toInt = 2 ∧ (22 ≤ v_rowSize.toInt ∧ ed_ A (v_rowSize.toInt - 22)) ∧ ¬ dw_ A (v_rowSize.toInt - 22)) ∨ ((2 : Int32).toInt = 0 ∧ (22 ≤ v_rowSize.toInt ∧ ed_ A (v_rowSize.toInt - 22)) ∧ dw_ A (v_rowSize.toInt - 22)) from (Or.inr (Or.inl ⟨(by first | decide | omega), eD5, fun q9 => dy_no (k := k.toInt.toNat) (by (first | exact omg_22111b28ba k0 hn5 lwx72 | omega)) (by rw [← hz]; exact fun q8 => (by obtain ⟨y0, y1, y2, y3, y4, y5, y6, y7⟩ := q8; first | exact hid_o g0 (by assumption) ⟨y1, y2, y3, y4⟩ | omega)) q9.2⟩)))⟩ [0, 1] (by decide) rfl rfl (by decide) (by decide)
                        · have twx82 : ¬ gd.toInt = 0 := fun z9 => wx82 ((ti_eq rfl (by decide)).mpr z9)
                          refine pb_aload_n (pc := 233) d_Mod_directoryFault_233 6 rfl rfl ?_
                          refine pb_iload (pc := 234) d_Mod_directoryFault_234 1 rfl ?_
                          refine pb_bipush (pc := 236) (v := 30) d_Mod_directoryFault_236 (by decide) ?_
                          refine pb_iadd (pc := 238) d_Mod_directoryFault_238 ?_
                          refine pb_topi (fun ix83 eix83 => ?_)
                          try have tix83 : ix83.toInt = e8.toInt + 30 := t2_add eix83 rfl (by decide) (by (first | exact omg_39a24c78ad h1 fh49 fh50 e0 a2 tjx76 tjx77 lwx79 j0 | omega))
                          refine pb_iconst (pc := 239) (v := 4) d_Mod_directoryFault_239 (by decide) ?_
                          refine pb_callV (pc := 240) (I := i_Mod_directoryFault) (qb := 0) (ci := 10) (nA := 2) (rest := []) (wr := []) d_Mod_directoryFault_240 (g_Mod_at hl G h m_rels m_openRels m_closeRels m_openRel m_closeRel m_comment m_ends m_order m_tape m_count m_nameSize m_names m_size m_data m_looked m_file m_directory m_out m_row m_made m_length m_pressed m_mark m_idSize m_ids m_goalSize m_goals m_value m_faults m_reached v_thrown v_taped v_lookedSize v_fileSize v_directorySize v_outSize v_rowSize v_bitAt v_bitEnd v_why v_madeSize v_firstCount v_secondCount v_heldBits v_heldCount v_pressedSize v_at v_bad v_markSize v_relationCount v_valueSize v_faultCount a_row ix83 4 (by first | (with_reducible assumption) | omega (splitDisjunctions := false) | assumption | omega | decide) (by first | (with_reducible assumption) | omega (splitDisjunctions := false) | assumption | omega | decide) (by first | (with_reducible assumption) | omega (splitDisjunctions := false) | assumption | omega | decide) (by first | (with_reducible assumption) | omega (splitDisjunctions := false) | assumption | omega | decide) (by first | assumption | decide | omega)) rfl rfl [0, 1] [] (by decide) rfl rfl rfl (by decide) (by decide) k_1525 rfl k_128 k_1522 k_1524 k_88 ⟨rfl, hy_Mod_at⟩ (by decide) rfl rfl (Nat.le_of_ble_eq_true rfl) (by decide) (fun v9 ux85 ch84 => ?_)
                          obtain ⟨r_86, rfl⟩ : ∃ z9, z9 = ux85 := ⟨_, rfl⟩
                          obtain ⟨ech84, ch84⟩ := ch84
                          have ech84 : v9 = some (.long r_86) := ech84
                          subst ech84
                          obtain ⟨fh87, fh88, fh89⟩ : (r_86.toInt = av a_row ix83.toInt (4 : Int32).toInt.toNat) ∧ (0 ≤ r_86.toInt) ∧ (r_86.toInt < 4294967296) := ch84
                          have w30 : r_86.toInt = aw A (hr.toInt + 30) 4 := by rw [fh87, n4, show ix83.toInt = hr.toInt + 30 by (first | exact omg_d3f919890e j0 tix83 | omega)]; exact av_A hA 4 (by (first | exact omg_5b192cb201 fh49 fh50 a2 | omega)) (by (first | exact omg_ded7adda34 e0 tjx76 tjx77 lwx79 | omega))
                          refine pb_eq (pc' := 243) (lo' := [(9, .int gd), (8, .int e8), (1, .int e), (2, .long hr), (4, .long n), (6, .long k), (0, .ref h)]) (rest' := [.long r_86]) (ws' := [(h, .inr (10, [.ref m_rels, .ref m_openRels, .ref m_closeRels, .ref m_openRel, .ref m_closeRel, .ref m_comment, .ref m_ends, .ref m_order, .int v_thrown, .int v_taped, .ref m_tape, .ref m_count, .ref m_nameSize, .ref m_names, .ref m_size, .ref m_data, .int v_lookedSize, .ref m_looked, .int v_fileSize, .ref m_file, .int v_directorySize, .ref m_directory, .int v_outSize, .ref m_out, .int v_rowSize, .ref m_row, .int v_bitAt, .int v_bitEnd, .int v_why, .int v_madeSize, .ref m_made, .ref m_length, .int v_firstCount, .int v_secondCount, .int v_heldBits, .int v_heldCount, .int v_pressedSize, .ref m_pressed, .int v_at, .int v_bad, .int v_markSize, .ref m_mark, .int v_relationCount, .ref m_idSize, .ref m_ids, .ref m_goalSize, .ref m_goals, .int v_valueSize, .ref m_value, .int v_faultCount, .ref m_faults, .ref m_reached])), (m_row, .inl (G.2.1, 20000, .inl a_row))]) ?_
                          refine pb_lconst (pc := 243) (v := 0) d_Mod_directoryFault_243 (by decide) ?_
                          refine pb_lcmp (pc := 244) d_Mod_directoryFault_244 ?_
                          refine pb_topi (fun ix90 eix90 => ?_)
                          have tix90 : (ix90.toInt < 0 ↔ r_86.toInt < 0) ∧ (ix90.toInt = 0 ↔ r_86.toInt = 0) ∧ (0 < ix90.toInt ↔ 0 < r_86.toInt) := tl_cmp eix90 rfl (by decide)
                          refine pb_if_ne (pc := 245) (tgt := 278) d_Mod_directoryFault_245 (by decide) (fun wx91 => ?_) (fun wx91 => ?_)
                          · have twx91 : ¬ ix90.toInt = 0 := fun z9 => wx91 ((ti_eq rfl (by decide)).mpr z9)
                            have lwx91 : ¬ r_86.toInt = 0 := fun z9 => twx91 (tix90.2.1.mpr z9)
                            clear tix90 twx91
                            refine pb_iconst (pc := 278) (v := 2) d_Mod_directoryFault_278 (by decide) ?_
                            exact pb_iret (pc := 279) hQ d_Mod_directoryFault_279 rfl rfl (2) ⟨rfl, (by (try dsimp only); first | done | (with_reducible assumption) | omega (splitDisjunctions := false) | assumption | omega | decide), (show (2 : Int32).toInt = 0 → 22 ≤ v_rowSize.toInt ∧ dq_ok a_row (av a_row (v_rowSize.toInt - 6) 4) (v_rowSize.toInt - 22) from (by first | exact fun h9 => absurd h9 (by omega) | exact fun _ => ⟨by omega, by omega, by omega, k.toInt.toNat, by omega, fun j hj9 => by have q9 := hj j hj9; omega⟩)), (show ((2 : Int32).toInt = 1 ∧ ¬ (22 ≤ v_rowSize.toInt ∧ ed_ A (v_rowSize.toInt - 22))) ∨ ((2 : Int32).toInt = 2 ∧ (22 ≤ v_rowSize.toInt ∧ ed_ A (v_rowSize.toInt - 22)) ∧ ¬ dw_ A (v_rowSize.toInt - 22)) ∨ ((2 : Int32).toInt = 0 ∧ (22 ≤ v_rowSize.toInt ∧ ed_ A (v_rowSize.toInt - 22)) ∧ dw_ A (v_rowSize.toInt - 22)) from (Or.inr (Or.inl ⟨(by first | decide | omega), eD5, fun q9 => dy_no (k := k.toInt.toNat) (by (first | exact omg_22111b28ba k0 hn5 lwx72 | omega)) (by rw [← hz]; exact fun q8 => (by obtain ⟨y0, y1, y2, y3, y4, y5, y6, y7⟩ := q8; first | exact hid_o g0 (by assumption) ⟨y1, y2, y3, y4⟩ | (first | exact omg_acd30192c0 w30 lwx91 y5 | omega))) q9.2⟩)))⟩ [0, 1] (by decide) rfl rfl (by decide) (by decide)
                          · have twx91 : ix90.toInt = 0 := (ti_eq rfl (by decide)).mp wx91
                            have lwx91 : r_86.toInt = 0 := tix90.2.1.mp twx91
                            clear tix90 twx91
                            refine pb_aload_n (pc := 248) d_Mod_directoryFault_248 6 rfl rfl ?_
                            refine pb_iload (pc := 249) d_Mod_directoryFault_249 1 rfl ?_
                            refine pb_bipush (pc := 251) (v := 34) d_Mod_directoryFault_251 (by decide) ?_
                            refine pb_iadd (pc := 253) d_Mod_directoryFault_253 ?_
                            refine pb_topi (fun ix92 eix92 => ?_)
                            try have tix92 : ix92.toInt = e8.toInt + 34 := t2_add eix92 rfl (by decide) (by (first | exact omg_9153a16913 h1 fh49 fh50 e0 a2 tjx76 tjx77 lwx79 j0 | omega))
                            refine pb_iconst (pc := 254) (v := 4) d_Mod_directoryFault_254 (by decide) ?_
                            refine pb_callV (pc := 255) (I := i_Mod_directoryFault) (qb := 0) (ci := 10) (nA := 2) (rest := []) (wr := []) d_Mod_directoryFault_255 (g_Mod_at hl G h m_rels m_openRels m_closeRels m_openRel m_closeRel m_comment m_ends m_order m_tape m_count m_nameSize m_names m_size m_data m_looked m_file m_directory m_out m_row m_made m_length m_pressed m_mark m_idSize m_ids m_goalSize m_goals m_value m_faults m_reached v_thrown v_taped v_lookedSize v_fileSize v_directorySize v_outSize v_rowSize v_bitAt v_bitEnd v_why v_madeSize v_firstCount v_secondCount v_heldBits v_heldCount v_pressedSize v_at v_bad v_markSize v_relationCount v_valueSize v_faultCount a_row ix92 4 (by first | (with_reducible assumption) | omega (splitDisjunctions := false) | assumption | omega | decide) (by first | (with_reducible assumption) | omega (splitDisjunctions := false) | assumption | omega | decide) (by first | (with_reducible assumption) | omega (splitDisjunctions := false) | assumption | omega | decide) (by first | (with_reducible assumption) | omega (splitDisjunctions := false) | assumption | omega | decide) (by first | assumption | decide | omega)) rfl rfl [0, 1] [] (by decide) rfl rfl rfl (by decide) (by decide) k_1525 rfl k_128 k_1522 k_1524 k_88 ⟨rfl, hy_Mod_at⟩ (by decide) rfl rfl (Nat.le_of_ble_eq_true rfl) (by decide) (fun v9 ux94 ch93 => ?_)
                            obtain ⟨r_95, rfl⟩ : ∃ z9, z9 = ux94 := ⟨_, rfl⟩
                            obtain ⟨ech93, ch93⟩ := ch93
                            have ech93 : v9 = some (.long r_95) := ech93
                            subst ech93
                            obtain ⟨fh96, fh97, fh98⟩ : (r_95.toInt = av a_row ix92.toInt (4 : Int32).toInt.toNat) ∧ (0 ≤ r_95.toInt) ∧ (r_95.toInt < 4294967296) := ch93
                            have w34 : r_95.toInt = aw A (hr.toInt + 34) 4 := by rw [fh96, n4, show ix92.toInt = hr.toInt + 34 by (first | exact omg_4229b534a4 j0 tix92 | omega)]; exact av_A hA 4 (by (first | exact omg_eec1f6c99d fh49 fh50 a2 | omega)) (by (first | exact omg_6887474981 e0 tjx76 tjx77 lwx79 | omega))
                            refine pb_eq (pc' := 258) (lo' := [(9, .int gd), (8, .int e8), (1, .int e), (2, .long hr), (4, .long n), (6, .long k), (0, .ref h)]) (rest' := [.long r_95]) (ws' := [(h, .inr (10, [.ref m_rels, .ref m_openRels, .ref m_closeRels, .ref m_openRel, .ref m_closeRel, .ref m_comment, .ref m_ends, .ref m_order, .int v_thrown, .int v_taped, .ref m_tape, .ref m_count, .ref m_nameSize, .ref m_names, .ref m_size, .ref m_data, .int v_lookedSize, .ref m_looked, .int v_fileSize, .ref m_file, .int v_directorySize, .ref m_directory, .int v_outSize, .ref m_out, .int v_rowSize, .ref m_row, .int v_bitAt, .int v_bitEnd, .int v_why, .int v_madeSize, .ref m_made, .ref m_length, .int v_firstCount, .int v_secondCount, .int v_heldBits, .int v_heldCount, .int v_pressedSize, .ref m_pressed, .int v_at, .int v_bad, .int v_markSize, .ref m_mark, .int v_relationCount, .ref m_idSize, .ref m_ids, .ref m_goalSize, .ref m_goals, .int v_valueSize, .ref m_value, .int v_faultCount, .ref m_faults, .ref m_reached])), (m_row, .inl (G.2.1, 20000, .inl a_row))]) ?_
                            refine pb_lconst (pc := 258) (v := 0) d_Mod_directoryFault_258 (by decide) ?_
                            refine pb_lcmp (pc := 259) d_Mod_directoryFault_259 ?_
                            refine pb_topi (fun ix99 eix99 => ?_)
                            have tix99 : (ix99.toInt < 0 ↔ r_95.toInt < 0) ∧ (ix99.toInt = 0 ↔ r_95.toInt = 0) ∧ (0 < ix99.toInt ↔ 0 < r_95.toInt) := tl_cmp eix99 rfl (by decide)
                            refine pb_if_ne (pc := 260) (tgt := 278) d_Mod_directoryFault_260 (by decide) (fun wx100 => ?_) (fun wx100 => ?_)
                            · have twx100 : ¬ ix99.toInt = 0 := fun z9 => wx100 ((ti_eq rfl (by decide)).mpr z9)
                              have lwx100 : ¬ r_95.toInt = 0 := fun z9 => twx100 (tix99.2.1.mpr z9)
                              clear tix99 twx100
                              refine pb_iconst (pc := 278) (v := 2) d_Mod_directoryFault_278 (by decide) ?_
                              exact pb_iret (pc := 279) hQ d_Mod_directoryFault_279 rfl rfl (2) ⟨rfl, (by (try dsimp only); first | done | (with_reducible assumption) | omega (splitDisjunctions := false) | assumption | omega | decide), (show (2 : Int32).toInt = 0 → 22 ≤ v_rowSize.toInt ∧ dq_ok a_row (av a_row (v_rowSize.toInt - 6) 4) (v_rowSize.toInt - 22) from (by first | exact fun h9 => absurd h9 (by omega) | exact fun _ => ⟨by omega, by omega, by omega, k.toInt.toNat, by omega, fun j hj9 => by have q9 := hj j hj9; omega⟩)), (show ((2 : Int32).toInt = 1 ∧ ¬ (22 ≤ v_rowSize.toInt ∧ ed_ A (v_rowSize.toInt - 22))) ∨ ((2 : Int32).toInt = 2 ∧ (22 ≤ v_rowSize.toInt ∧ ed_ A (v_rowSize.toInt - 22)) ∧ ¬ dw_ A (v_rowSize.toInt - 22)) ∨ ((2 : Int32).toInt = 0 ∧ (22 ≤ v_rowSize.toInt ∧ ed_ A (v_rowSize.toInt - 22)) ∧ dw_ A (v_rowSize.toInt - 22)) from (Or.inr (Or.inl ⟨(by first | decide | omega), eD5, fun q9 => dy_no (k := k.toInt.toNat) (by (first | exact omg_22111b28ba k0 hn5 lwx72 | omega)) (by rw [← hz]; exact fun q8 => (by obtain ⟨y0, y1, y2, y3, y4, y5, y6, y7⟩ := q8; first | exact hid_o g0 (by assumption) ⟨y1, y2, y3, y4⟩ | (first | exact omg_acd30192c0 w34 lwx100 y6 | omega))) q9.2⟩)))⟩ [0, 1] (by decide) rfl rfl (by decide) (by decide)
                            · have twx100 : ix99.toInt = 0 := (ti_eq rfl (by decide)).mp wx100
                              have lwx100 : r_95.toInt = 0 := tix99.2.1.mp twx100
                              clear tix99 twx100
                              refine pb_aload_n (pc := 263) d_Mod_directoryFault_263 6 rfl rfl ?_
                              refine pb_iload (pc := 264) d_Mod_directoryFault_264 1 rfl ?_
                              refine pb_bipush (pc := 266) (v := 38) d_Mod_directoryFault_266 (by decide) ?_
                              refine pb_iadd (pc := 268) d_Mod_directoryFault_268 ?_
                              refine pb_topi (fun ix101 eix101 => ?_)
                              try have tix101 : ix101.toInt = e8.toInt + 38 := t2_add eix101 rfl (by decide) (by (first | exact omg_eb23efd836 h1 fh49 fh50 e0 a2 tjx76 tjx77 lwx79 j0 | omega))
                              refine pb_iconst (pc := 269) (v := 4) d_Mod_directoryFault_269 (by decide) ?_
                              refine pb_callV (pc := 270) (I := i_Mod_directoryFault) (qb := 0) (ci := 10) (nA := 2) (rest := []) (wr := []) d_Mod_directoryFault_270 (g_Mod_at hl G h m_rels m_openRels m_closeRels m_openRel m_closeRel m_comment m_ends m_order m_tape m_count m_nameSize m_names m_size m_data m_looked m_file m_directory m_out m_row m_made m_length m_pressed m_mark m_idSize m_ids m_goalSize m_goals m_value m_faults m_reached v_thrown v_taped v_lookedSize v_fileSize v_directorySize v_outSize v_rowSize v_bitAt v_bitEnd v_why v_madeSize v_firstCount v_secondCount v_heldBits v_heldCount v_pressedSize v_at v_bad v_markSize v_relationCount v_valueSize v_faultCount a_row ix101 4 (by first | (with_reducible assumption) | omega (splitDisjunctions := false) | assumption | omega | decide) (by first | (with_reducible assumption) | omega (splitDisjunctions := false) | assumption | omega | decide) (by first | (with_reducible assumption) | omega (splitDisjunctions := false) | assumption | omega | decide) (by first | (with_reducible assumption) | omega (splitDisjunctions := false) | assumption | omega | decide) (by first | assumption | decide | omega)) rfl rfl [0, 1] [] (by decide) rfl rfl rfl (by decide) (by decide) k_1525 rfl k_128 k_1522 k_1524 k_88 ⟨rfl, hy_Mod_at⟩ (by decide) rfl rfl (Nat.le_of_ble_eq_true rfl) (by decide) (fun v9 ux103 ch102 => ?_)
                              obtain ⟨r_104, rfl⟩ : ∃ z9, z9 = ux103 := ⟨_, rfl⟩
                              obtain ⟨ech102, ch102⟩ := ch102
                              have ech102 : v9 = some (.long r_104) := ech102
                              subst ech102
                              obtain ⟨fh105, fh106, fh107⟩ : (r_104.toInt = av a_row ix101.toInt (4 : Int32).toInt.toNat) ∧ (0 ≤ r_104.toInt) ∧ (r_104.toInt < 4294967296) := ch102
                              have w38 : r_104.toInt = aw A (hr.toInt + 38) 4 := by rw [fh105, n4, show ix101.toInt = hr.toInt + 38 by (first | exact omg_52fbd5a9e6 j0 tix101 | omega)]; exact av_A hA 4 (by (first | exact omg_5173ab9e6b fh49 fh50 a2 | omega)) (by (first | exact omg_11147cd1ec e0 tjx76 tjx77 lwx79 | omega))
                              refine pb_eq (pc' := 273) (lo' := [(9, .int gd), (8, .int e8), (1, .int e), (2, .long hr), (4, .long n), (6, .long k), (0, .ref h)]) (rest' := [.long r_104]) (ws' := [(h, .inr (10, [.ref m_rels, .ref m_openRels, .ref m_closeRels, .ref m_openRel, .ref m_closeRel, .ref m_comment, .ref m_ends, .ref m_order, .int v_thrown, .int v_taped, .ref m_tape, .ref m_count, .ref m_nameSize, .ref m_names, .ref m_size, .ref m_data, .int v_lookedSize, .ref m_looked, .int v_fileSize, .ref m_file, .int v_directorySize, .ref m_directory, .int v_outSize, .ref m_out, .int v_rowSize, .ref m_row, .int v_bitAt, .int v_bitEnd, .int v_why, .int v_madeSize, .ref m_made, .ref m_length, .int v_firstCount, .int v_secondCount, .int v_heldBits, .int v_heldCount, .int v_pressedSize, .ref m_pressed, .int v_at, .int v_bad, .int v_markSize, .ref m_mark, .int v_relationCount, .ref m_idSize, .ref m_ids, .ref m_goalSize, .ref m_goals, .int v_valueSize, .ref m_value, .int v_faultCount, .ref m_faults, .ref m_reached])), (m_row, .inl (G.2.1, 20000, .inl a_row))]) ?_
                              refine pb_lconst (pc := 273) (v := 0) d_Mod_directoryFault_273 (by decide) ?_
                              refine pb_lcmp (pc := 274) d_Mod_directoryFault_274 ?_
                              refine pb_topi (fun ix108 eix108 => ?_)
                              have tix108 : (ix108.toInt < 0 ↔ r_104.toInt < 0) ∧ (ix108.toInt = 0 ↔ r_104.toInt = 0) ∧ (0 < ix108.toInt ↔ 0 < r_104.toInt) := tl_cmp eix108 rfl (by decide)
                              refine pb_if_eq (pc := 275) (tgt := 280) d_Mod_directoryFault_275 (by decide) (fun wx109 => ?_) (fun wx109 => ?_)
                              · have twx109 : ix108.toInt = 0 := (ti_eq rfl (by decide)).mp wx109
                                have lwx109 : r_104.toInt = 0 := tix108.2.1.mp twx109
                                clear tix108 twx109
                                have d1 : dq a_row (av a_row (v_rowSize.toInt - 6) 4) (k.toInt + 1).toNat = dq a_row (av a_row (v_rowSize.toInt - 6) 4) k.toInt.toNat + 46 + av a_row (dq a_row (av a_row (v_rowSize.toInt - 6) 4) k.toInt.toNat + 28) 2 := by rw [show (k.toInt + 1).toNat = k.toInt.toNat + 1 by (first | exact omg_6277902315 k0 | omega), dq]
                                rw [← hq] at d1
                                have d2 := av2 a_row (hr.toInt + 28)
                                refine pb_lload_n (pc := 280) d_Mod_directoryFault_280 3 rfl rfl ?_
                                refine pb_ldc2 (pc := 281) (v := 46) d_Mod_directoryFault_281 k_1527 ?_
                                refine pb_ladd (pc := 284) d_Mod_directoryFault_284 ?_
                                refine pb_topl (fun jx110 ejx110 => ?_)
                                try have tjx110 : jx110.toInt = hr.toInt + 46 := tl_add ejx110 rfl (by decide) (by (first | exact omg_4af15ee253 fh49 fh50 a2 | omega)) (by (first | exact omg_883f1cc7fe h1 e0 tjx76 tjx77 lwx79 | omega))
                                refine pb_aload_n (pc := 285) d_Mod_directoryFault_285 6 rfl rfl ?_
                                refine pb_iload (pc := 286) d_Mod_directoryFault_286 1 rfl ?_
                                refine pb_bipush (pc := 288) (v := 28) d_Mod_directoryFault_288 (by decide) ?_
                                refine pb_iadd (pc := 290) d_Mod_directoryFault_290 ?_
                                refine pb_topi (fun ix111 eix111 => ?_)
                                try have tix111 : ix111.toInt = e8.toInt + 28 := t2_add eix111 rfl (by decide) (by (first | exact omg_b6937c67e3 h1 fh49 fh50 e0 a2 tjx76 tjx77 lwx79 j0 | omega))
                                refine pb_iconst (pc := 291) (v := 2) d_Mod_directoryFault_291 (by decide) ?_
                                refine pb_callV (pc := 292) (I := i_Mod_directoryFault) (qb := 0) (ci := 10) (nA := 2) (rest := [.long jx110]) (wr := []) d_Mod_directoryFault_292 (g_Mod_at hl G h m_rels m_openRels m_closeRels m_openRel m_closeRel m_comment m_ends m_order m_tape m_count m_nameSize m_names m_size m_data m_looked m_file m_directory m_out m_row m_made m_length m_pressed m_mark m_idSize m_ids m_goalSize m_goals m_value m_faults m_reached v_thrown v_taped v_lookedSize v_fileSize v_directorySize v_outSize v_rowSize v_bitAt v_bitEnd v_why v_madeSize v_firstCount v_secondCount v_heldBits v_heldCount v_pressedSize v_at v_bad v_markSize v_relationCount v_valueSize v_faultCount a_row ix111 2 (by first | (with_reducible assumption) | omega (splitDisjunctions := false) | assumption | omega | decide) (by first | (with_reducible assumption) | omega (splitDisjunctions := false) | assumption | omega | decide) (by first | (with_reducible assumption) | omega (splitDisjunctions := false) | assumption | omega | decide) (by first | (with_reducible assumption) | omega (splitDisjunctions := false) | assumption | omega | decide) (by first | assumption | decide | omega)) rfl rfl [0, 1] [] (by decide) rfl rfl rfl (by decide) (by decide) k_1525 rfl k_128 k_1522 k_1524 k_88 ⟨rfl, hy_Mod_at⟩ (by decide) rfl rfl (Nat.le_of_ble_eq_true rfl) (by decide) (fun v9 ux113 ch112 => ?_)
                                obtain ⟨r_114, rfl⟩ : ∃ z9, z9 = ux113 := ⟨_, rfl⟩
                                obtain ⟨ech112, ch112⟩ := ch112
                                have ech112 : v9 = some (.long r_114) := ech112
                                subst ech112
                                obtain ⟨fh115, fh116, fh117⟩ : (r_114.toInt = av a_row ix111.toInt (2 : Int32).toInt.toNat) ∧ (0 ≤ r_114.toInt) ∧ (r_114.toInt < 4294967296) := ch112
                                have w28 : r_114.toInt = aw A (hr.toInt + 28) 2 := by rw [fh115, n2, show ix111.toInt = hr.toInt + 28 by (first | exact omg_34c2695c5d j0 tix111 | omega)]; exact av_A hA 2 (by (first | exact omg_000a014e05 fh49 fh50 a2 | omega)) (by (first | exact omg_773bcafc6f e0 tjx76 tjx77 lwx79 | omega))
                                rw [n2, show ix111.toInt = hr.toInt + 28 by (first | exact omg_34c2695c5d j0 tix111 | omega)] at fh115
                                refine pb_eq (pc' := 295) (lo' := [(9, .int gd), (8, .int e8), (1, .int e), (2, .long hr), (4, .long n), (6, .long k), (0, .ref h)]) (rest' := [.long r_114, .long jx110]) (ws' := [(h, .inr (10, [.ref m_rels, .ref m_openRels, .ref m_closeRels, .ref m_openRel, .ref m_closeRel, .ref m_comment, .ref m_ends, .ref m_order, .int v_thrown, .int v_taped, .ref m_tape, .ref m_count, .ref m_nameSize, .ref m_names, .ref m_size, .ref m_data, .int v_lookedSize, .ref m_looked, .int v_fileSize, .ref m_file, .int v_directorySize, .ref m_directory, .int v_outSize, .ref m_out, .int v_rowSize, .ref m_row, .int v_bitAt, .int v_bitEnd, .int v_why, .int v_madeSize, .ref m_made, .ref m_length, .int v_firstCount, .int v_secondCount, .int v_heldBits, .int v_heldCount, .int v_pressedSize, .ref m_pressed, .int v_at, .int v_bad, .int v_markSize, .ref m_mark, .int v_relationCount, .ref m_idSize, .ref m_ids, .ref m_goalSize, .ref m_goals, .int v_valueSize, .ref m_value, .int v_faultCount, .ref m_faults, .ref m_reached])), (m_row, .inl (G.2.1, 20000, .inl a_row))]) ?_
                                refine pb_ladd (pc := 295) d_Mod_directoryFault_295 ?_
                                refine pb_topl (fun jx118 ejx118 => ?_)
                                try have tjx118 : jx118.toInt = jx110.toInt + r_114.toInt := tl_add ejx118 rfl rfl (by (first | exact omg_249ca7e36b fh49 fh50 a2 d2 tjx110 fh115 | omega)) (by (first | exact omg_6cae852cfa h1 e0 tjx76 tjx77 lwx79 d2 tjx110 fh115 | omega))
                                refine pb_lstore_n (pc := 296) (lo' := [(2, .long jx118), (9, .int gd), (8, .int e8), (1, .int e), (4, .long n), (6, .long k), (0, .ref h)]) d_Mod_directoryFault_296 rfl (by decide) rfl ?_
                                refine pb_lload (pc := 297) d_Mod_directoryFault_297 5 rfl ?_
                                refine pb_lconst (pc := 299) (v := 1) d_Mod_directoryFault_299 (by decide) ?_
                                refine pb_ladd (pc := 300) d_Mod_directoryFault_300 ?_
                                refine pb_topl (fun jx119 ejx119 => ?_)
                                try have tjx119 : jx119.toInt = k.toInt + 1 := tl_add ejx119 rfl (by decide) (by omega) (by (first | exact omg_869da37f31 fh69 v8 hn5 lwx72 | omega))
                                refine pb_lstore (pc := 301) (lo' := [(6, .long jx119), (2, .long jx118), (9, .int gd), (8, .int e8), (1, .int e), (4, .long n), (0, .ref h)]) d_Mod_directoryFault_301 (by decide) rfl ?_
                                refine pb_goto (pc := 303) (tgt := 119) d_Mod_directoryFault_303 (by decide) ?_
                                refine pb_re (ws' := [(h, .inr (10, [.ref m_rels, .ref m_openRels, .ref m_closeRels, .ref m_openRel, .ref m_closeRel, .ref m_comment, .ref m_ends, .ref m_order, .int v_thrown, .int v_taped, .ref m_tape, .ref m_count, .ref m_nameSize, .ref m_names, .ref m_size, .ref m_data, .int v_lookedSize, .ref m_looked, .int v_fileSize, .ref m_file, .int v_directorySize, .ref m_directory, .int v_outSize, .ref m_out, .int v_rowSize, .ref m_row, .int v_bitAt, .int v_bitEnd, .int v_why, .int v_madeSize, .ref m_made, .ref m_length, .int v_firstCount, .int v_secondCount, .int v_heldBits, .int v_heldCount, .int v_pressedSize, .ref m_pressed, .int v_at, .int v_bad, .int v_markSize, .ref m_mark, .int v_relationCount, .ref m_idSize, .ref m_ids, .ref m_goalSize, .ref m_goals, .int v_valueSize, .ref m_value, .int v_faultCount, .ref m_faults, .ref m_reached])), (m_row, .inl (G.2.1, 20000, .inl a_row))]) (lo' := [(1, .int e), (2, .long jx118), (4, .long n), (6, .long jx119), (0, .ref h)]) [0, 1] [4, 1, 5, 0, 6] (by decide) rfl rfl rfl ?_
                                exact ih119 e jx118 n jx119 (by first | (with_reducible assumption) | omega (splitDisjunctions := false) | assumption | omega | decide) (by first | (with_reducible assumption) | omega (splitDisjunctions := false) | assumption | omega | decide) (by first | (with_reducible assumption) | (first | exact omg_c14412231a k0 tjx119 | omega (splitDisjunctions := false)) | assumption | omega | decide) (by first | (with_reducible assumption) | (first | exact omg_7a2756d7e5 lwx72 tjx119 | omega (splitDisjunctions := false)) | assumption | omega | decide) (by first | (with_reducible assumption) | omega (splitDisjunctions := false) | assumption | omega | decide) (by first | (with_reducible assumption) | omega (splitDisjunctions := false) | assumption | omega | decide) (by first | (with_reducible assumption) | omega (splitDisjunctions := false) | assumption | omega | decide) (by first | (with_reducible assumption) | (first | exact omg_b8480993d2 a2 d2 tjx110 fh115 tjx118 | omega (splitDisjunctions := false)) | assumption | omega | decide) (by first | (with_reducible assumption) | (first | exact omg_398401055d tjx76 tjx77 lwx79 d2 tjx110 fh115 tjx118 | omega (splitDisjunctions := false)) | assumption | omega | decide) (by rw [show jx119.toInt = k.toInt + 1 by omega, d1]; (first | exact omg_8dfd9be85f tjx110 fh115 tjx118 | omega)) (fun j hj9 => if w : j < k.toInt.toNat then hj j w else by rw [show j = k.toInt.toNat by (first | exact omg_f926a79b38 tjx119 hj9 w | omega), ← hq]; (first | exact omg_e90ec815c5 tjx76 tjx77 lwx79 | omega)) (by first | (with_reducible assumption) | omega (splitDisjunctions := false) | assumption | omega | decide) (by first | (with_reducible assumption) | omega (splitDisjunctions := false) | assumption | omega | decide) (by first | (with_reducible assumption) | omega (splitDisjunctions := false) | assumption | omega | decide) (by rw [show jx119.toInt.toNat = k.toInt.toNat + 1 by (first | exact omg_c719e3dd87 k0 tjx119 | omega)]; show _ = dz A (aw A (v_rowSize.toInt - 22 + 16) 4) k.toInt.toNat + 46 + aw A (dz A (aw A (v_rowSize.toInt - 22 + 16) 4) k.toInt.toNat + 28) 2; rw [← hz]; (first | exact omg_8dfd9be85f tjx110 w28 tjx118 | omega)) (by rw [show jx119.toInt.toNat = k.toInt.toNat + 1 by (first | exact omg_c719e3dd87 k0 tjx119 | omega)]; exact dy_s hy (by rw [← hz]; have q9 := hid_o g1 (by (first | exact omg_d9c3f42b32 g2 twx82 | omega)); exact ⟨by (first | exact omg_cb6d1a52c2 e0 tjx76 tjx77 lwx79 | omega), q9.1, q9.2.1, q9.2.2.1, q9.2.2.2, by (first | exact omg_3ece37706e w30 lwx91 | omega), by (first | exact omg_3ece37706e w34 lwx100 | omega), by (first | exact omg_3ece37706e w38 lwx109 | omega)⟩)) (by (first | exact omg_7ae9ecbd7c hm9 lwx72 tjx119 | omega))
                              · have twx109 : ¬ ix108.toInt = 0 := fun z9 => wx109 ((ti_eq rfl (by decide)).mpr z9)
                                have lwx109 : ¬ r_104.toInt = 0 := fun z9 => twx109 (tix108.2.1.mpr z9)
                                clear tix108 twx109
                                refine pb_iconst (pc := 278) (v := 2) d_Mod_directoryFault_278 (by decide) ?_
                                exact pb_iret (pc := 279) hQ d_Mod_directoryFault_279 rfl rfl (2) ⟨rfl, (by (try dsimp only); first | done | (with_reducible assumption) | omega (splitDisjunctions := false) | assumption | omega | decide), (show (2 : Int32).toInt = 0 → 22 ≤ v_rowSize.toInt ∧ dq_ok a_row (av a_row (v_rowSize.toInt - 6) 4) (v_rowSize.toInt - 22) from (by first | exact fun h9 => absurd h9 (by omega) | exact fun _ => ⟨by omega, by omega, by omega, k.toInt.toNat, by omega, fun j hj9 => by have q9 := hj j hj9; omega⟩)), (show ((2 : Int32).toInt = 1 ∧ ¬ (22 ≤ v_rowSize.toInt ∧ ed_ A (v_rowSize.toInt - 22))) ∨ ((2 : Int32).toInt = 2 ∧ (22 ≤ v_rowSize.toInt ∧ ed_ A (v_rowSize.toInt - 22)) ∧ ¬ dw_ A (v_rowSize.toInt - 22)) ∨ ((2 : Int32).toInt = 0 ∧ (22 ≤ v_rowSize.toInt ∧ ed_ A (v_rowSize.toInt - 22)) ∧ dw_ A (v_rowSize.toInt - 22)) from (Or.inr (Or.inl ⟨(by first | decide | omega), eD5, fun q9 => dy_no (k := k.toInt.toNat) (by (first | exact omg_22111b28ba k0 hn5 lwx72 | omega)) (by rw [← hz]; exact fun q8 => (by obtain ⟨y0, y1, y2, y3, y4, y5, y6, y7⟩ := q8; first | exact hid_o g0 (by assumption) ⟨y1, y2, y3, y4⟩ | (first | exact omg_acd30192c0 w38 lwx109 y7 | omega))) q9.2⟩)))⟩ [0, 1] (by decide) rfl rfl (by decide) (by decide)
                      refine pb_aload_n (pc := 144) d_Mod_directoryFault_144 5 rfl rfl ?_
                      refine pb_iload (pc := 145) d_Mod_directoryFault_145 0 rfl ?_
                      refine pb_iconst (pc := 147) (v := 4) d_Mod_directoryFault_147 (by decide) ?_
                      refine pb_callV (pc := 148) (I := i_Mod_directoryFault) (qb := 0) (ci := 10) (nA := 2) (rest := []) (wr := []) d_Mod_directoryFault_148 (g_Mod_at hl G h m_rels m_openRels m_closeRels m_openRel m_closeRel m_comment m_ends m_order m_tape m_count m_nameSize m_names m_size m_data m_looked m_file m_directory m_out m_row m_made m_length m_pressed m_mark m_idSize m_ids m_goalSize m_goals m_value m_faults m_reached v_thrown v_taped v_lookedSize v_fileSize v_directorySize v_outSize v_rowSize v_bitAt v_bitEnd v_why v_madeSize v_firstCount v_secondCount v_heldBits v_heldCount v_pressedSize v_at v_bad v_markSize v_relationCount v_valueSize v_faultCount a_row ix80 4 (by first | (with_reducible assumption) | omega (splitDisjunctions := false) | assumption | omega | decide) (by first | (with_reducible assumption) | omega (splitDisjunctions := false) | assumption | omega | decide) (by first | (with_reducible assumption) | omega (splitDisjunctions := false) | assumption | omega | decide) (by first | (with_reducible assumption) | omega (splitDisjunctions := false) | assumption | omega | decide) F_a_row) rfl rfl [0, 1] [] (by decide) rfl rfl rfl (by decide) (by decide) k_1525 rfl k_128 k_1522 k_1524 k_88 ⟨rfl, hy_Mod_at⟩ (by decide) rfl rfl (Nat.le_of_ble_eq_true rfl) (by decide) (fun v9 ux121 ch120 => ?_)
                      obtain ⟨r_122, rfl⟩ : ∃ z9, z9 = ux121 := ⟨_, rfl⟩
                      obtain ⟨ech120, ch120⟩ := ch120
                      have ech120 : v9 = some (.long r_122) := ech120
                      subst ech120
                      obtain ⟨fh123, fh124, fh125⟩ : (r_122.toInt = av a_row ix80.toInt (4 : Int32).toInt.toNat) ∧ (0 ≤ r_122.toInt) ∧ (r_122.toInt < 4294967296) := ch120
                      have w0 : r_122.toInt = aw A (hr.toInt) 4 := by rw [fh123, n4, show ix80.toInt = hr.toInt by omega]; exact av_A hA 4 (by (first | exact omg_df842543cd fh49 fh50 a2 | omega)) (by (first | exact omg_9b0826fee8 e0 tjx76 tjx77 lwx79 | omega))
                      refine pb_eq (pc' := 151) (lo' := [(8, .int ix80), (1, .int e), (2, .long hr), (4, .long n), (6, .long k), (0, .ref h)]) (rest' := [.long r_122]) (ws' := [(h, .inr (10, [.ref m_rels, .ref m_openRels, .ref m_closeRels, .ref m_openRel, .ref m_closeRel, .ref m_comment, .ref m_ends, .ref m_order, .int v_thrown, .int v_taped, .ref m_tape, .ref m_count, .ref m_nameSize, .ref m_names, .ref m_size, .ref m_data, .int v_lookedSize, .ref m_looked, .int v_fileSize, .ref m_file, .int v_directorySize, .ref m_directory, .int v_outSize, .ref m_out, .int v_rowSize, .ref m_row, .int v_bitAt, .int v_bitEnd, .int v_why, .int v_madeSize, .ref m_made, .ref m_length, .int v_firstCount, .int v_secondCount, .int v_heldBits, .int v_heldCount, .int v_pressedSize, .ref m_pressed, .int v_at, .int v_bad, .int v_markSize, .ref m_mark, .int v_relationCount, .ref m_idSize, .ref m_ids, .ref m_goalSize, .ref m_goals, .int v_valueSize, .ref m_value, .int v_faultCount, .ref m_faults, .ref m_reached])), (m_row, .inl (G.2.1, 20000, .inl a_row))]) ?_
                      refine pb_ldc2 (pc := 151) (v := 33639248) d_Mod_directoryFault_151 k_1500 ?_
                      refine pb_lcmp (pc := 154) d_Mod_directoryFault_154 ?_
                      refine pb_topi (fun ix126 eix126 => ?_)
                      have tix126 : (ix126.toInt < 0 ↔ r_122.toInt < 33639248) ∧ (ix126.toInt = 0 ↔ r_122.toInt = 33639248) ∧ (0 < ix126.toInt ↔ 33639248 < r_122.toInt) := tl_cmp eix126 rfl (by decide)
                      refine pb_if_ne (pc := 155) (tgt := 225) d_Mod_directoryFault_155 (by decide) (fun wx127 => ?_) (fun wx127 => ?_)
                      · have twx127 : ¬ ix126.toInt = 0 := fun z9 => wx127 ((ti_eq rfl (by decide)).mpr z9)
                        have lwx127 : ¬ r_122.toInt = 33639248 := fun z9 => twx127 (tix126.2.1.mpr z9)
                        clear tix126 twx127
                        refine pb_iconst (pc := 225) (v := 0) d_Mod_directoryFault_225 (by decide) ?_
                        refine pb_istore (pc := 226) (lo' := [(9, .int 0), (8, .int ix80), (1, .int e), (2, .long hr), (4, .long n), (6, .long k), (0, .ref h)]) d_Mod_directoryFault_226 (by decide) rfl ?_
                        exact hJ228_81 0 ix80 (by first | (with_reducible assumption) | omega (splitDisjunctions := false) | assumption | omega | decide) (hid_i (by first | exact fun q9 => absurd q9 (by decide) | exact fun _ => ⟨by omega, by omega, by omega, by omega⟩)) (hid_i (by first | exact fun q9 => absurd q9 (by decide) | exact fun _ q9 => (by obtain ⟨y1, y2, y3, y4⟩ := q9; omega))) (by first | (with_reducible assumption) | omega (splitDisjunctions := false) | assumption | omega | decide)
                      · have twx127 : ix126.toInt = 0 := (ti_eq rfl (by decide)).mp wx127
                        have lwx127 : r_122.toInt = 33639248 := tix126.2.1.mp twx127
                        clear tix126 twx127
                        refine pb_aload_n (pc := 158) d_Mod_directoryFault_158 5 rfl rfl ?_
                        refine pb_iload (pc := 159) d_Mod_directoryFault_159 0 rfl ?_
                        refine pb_iconst (pc := 161) (v := 4) d_Mod_directoryFault_161 (by decide) ?_
                        refine pb_iadd (pc := 162) d_Mod_directoryFault_162 ?_
                        refine pb_topi (fun ix128 eix128 => ?_)
                        try have tix128 : ix128.toInt = ix80.toInt + 4 := t2_add eix128 rfl (by decide) (by (first | exact omg_4c226eb738 h1 fh49 fh50 e0 a2 tjx76 tjx77 lwx79 tix80 | omega))
                        refine pb_iconst (pc := 163) (v := 4) d_Mod_directoryFault_163 (by decide) ?_
                        refine pb_callV (pc := 164) (I := i_Mod_directoryFault) (qb := 0) (ci := 10) (nA := 2) (rest := []) (wr := []) d_Mod_directoryFault_164 (g_Mod_at hl G h m_rels m_openRels m_closeRels m_openRel m_closeRel m_comment m_ends m_order m_tape m_count m_nameSize m_names m_size m_data m_looked m_file m_directory m_out m_row m_made m_length m_pressed m_mark m_idSize m_ids m_goalSize m_goals m_value m_faults m_reached v_thrown v_taped v_lookedSize v_fileSize v_directorySize v_outSize v_rowSize v_bitAt v_bitEnd v_why v_madeSize v_firstCount v_secondCount v_heldBits v_heldCount v_pressedSize v_at v_bad v_markSize v_relationCount v_valueSize v_faultCount a_row ix128 4 (by first | (with_reducible assumption) | omega (splitDisjunctions := false) | assumption | omega | decide) (by first | (with_reducible assumption) | omega (splitDisjunctions := false) | assumption | omega | decide) (by first | (with_reducible assumption) | omega (splitDisjunctions := false) | assumption | omega | decide) (by first | (with_reducible assumption) | omega (splitDisjunctions := false) | assumption | omega | decide) F_a_row) rfl rfl [0, 1] [] (by decide) rfl rfl rfl (by decide) (by decide) k_1525 rfl k_128 k_1522 k_1524 k_88 ⟨rfl, hy_Mod_at⟩ (by decide) rfl rfl (Nat.le_of_ble_eq_true rfl) (by decide) (fun v9 ux130 ch129 => ?_)
                        obtain ⟨r_131, rfl⟩ : ∃ z9, z9 = ux130 := ⟨_, rfl⟩
                        obtain ⟨ech129, ch129⟩ := ch129
                        have ech129 : v9 = some (.long r_131) := ech129
                        subst ech129
                        obtain ⟨fh132, fh133, fh134⟩ : (r_131.toInt = av a_row ix128.toInt (4 : Int32).toInt.toNat) ∧ (0 ≤ r_131.toInt) ∧ (r_131.toInt < 4294967296) := ch129
                        have w4 : r_131.toInt = aw A (hr.toInt + 4) 4 := by rw [fh132, n4, show ix128.toInt = hr.toInt + 4 by (first | exact omg_e19fe5d0d1 tix80 tix128 | omega)]; exact av_A hA 4 (by (first | exact omg_8fba624501 fh49 fh50 a2 | omega)) (by (first | exact omg_befd074f65 e0 tjx76 tjx77 lwx79 | omega))
                        refine pb_eq (pc' := 167) (lo' := [(8, .int ix80), (1, .int e), (2, .long hr), (4, .long n), (6, .long k), (0, .ref h)]) (rest' := [.long r_131]) (ws' := [(h, .inr (10, [.ref m_rels, .ref m_openRels, .ref m_closeRels, .ref m_openRel, .ref m_closeRel, .ref m_comment, .ref m_ends, .ref m_order, .int v_thrown, .int v_taped, .ref m_tape, .ref m_count, .ref m_nameSize, .ref m_names, .ref m_size, .ref m_data, .int v_lookedSize, .ref m_looked, .int v_fileSize, .ref m_file, .int v_directorySize, .ref m_directory, .int v_outSize, .ref m_out, .int v_rowSize, .ref m_row, .int v_bitAt, .int v_bitEnd, .int v_why, .int v_madeSize, .ref m_made, .ref m_length, .int v_firstCount, .int v_secondCount, .int v_heldBits, .int v_heldCount, .int v_pressedSize, .ref m_pressed, .int v_at, .int v_bad, .int v_markSize, .ref m_mark, .int v_relationCount, .ref m_idSize, .ref m_ids, .ref m_goalSize, .ref m_goals, .int v_valueSize, .ref m_value, .int v_faultCount, .ref m_faults, .ref m_reached])), (m_row, .inl (G.2.1, 20000, .inl a_row))]) ?_
                        refine pb_ldc2 (pc := 167) (v := 1310740) d_Mod_directoryFault_167 k_1528 ?_
                        refine pb_lcmp (pc := 170) d_Mod_directoryFault_170 ?_
                        refine pb_topi (fun ix135 eix135 => ?_)
                        have tix135 : (ix135.toInt < 0 ↔ r_131.toInt < 1310740) ∧ (ix135.toInt = 0 ↔ r_131.toInt = 1310740) ∧ (0 < ix135.toInt ↔ 1310740 < r_131.toInt) := tl_cmp eix135 rfl (by decide)
                        refine pb_if_ne (pc := 171) (tgt := 225) d_Mod_directoryFault_171 (by decide) (fun wx136 => ?_) (fun wx136 => ?_)
                        · have twx136 : ¬ ix135.toInt = 0 := fun z9 => wx136 ((ti_eq rfl (by decide)).mpr z9)
                          have lwx136 : ¬ r_131.toInt = 1310740 := fun z9 => twx136 (tix135.2.1.mpr z9)
                          clear tix135 twx136
                          refine pb_iconst (pc := 225) (v := 0) d_Mod_directoryFault_225 (by decide) ?_
                          refine pb_istore (pc := 226) (lo' := [(9, .int 0), (8, .int ix80), (1, .int e), (2, .long hr), (4, .long n), (6, .long k), (0, .ref h)]) d_Mod_directoryFault_226 (by decide) rfl ?_
                          exact hJ228_81 0 ix80 (by first | (with_reducible assumption) | omega (splitDisjunctions := false) | assumption | omega | decide) (hid_i (by first | exact fun q9 => absurd q9 (by decide) | exact fun _ => ⟨by omega, by omega, by omega, by omega⟩)) (hid_i (by first | exact fun q9 => absurd q9 (by decide) | exact fun _ q9 => (by obtain ⟨y1, y2, y3, y4⟩ := q9; omega))) (by first | (with_reducible assumption) | omega (splitDisjunctions := false) | assumption | omega | decide)
                        · have twx136 : ix135.toInt = 0 := (ti_eq rfl (by decide)).mp wx136
                          have lwx136 : r_131.toInt = 1310740 := tix135.2.1.mp twx136
                          clear tix135 twx136
                          refine pb_aload_n (pc := 174) d_Mod_directoryFault_174 5 rfl rfl ?_
                          refine pb_iload (pc := 175) d_Mod_directoryFault_175 0 rfl ?_
                          refine pb_bipush (pc := 177) (v := 8) d_Mod_directoryFault_177 (by decide) ?_
                          refine pb_iadd (pc := 179) d_Mod_directoryFault_179 ?_
                          refine pb_topi (fun ix137 eix137 => ?_)
                          try have tix137 : ix137.toInt = ix80.toInt + 8 := t2_add eix137 rfl (by decide) (by (first | exact omg_922685428c h1 fh49 fh50 e0 a2 tjx76 tjx77 lwx79 tix80 | omega))
                          refine pb_iconst (pc := 180) (v := 2) d_Mod_directoryFault_180 (by decide) ?_
                          refine pb_callV (pc := 181) (I := i_Mod_directoryFault) (qb := 0) (ci := 10) (nA := 2) (rest := []) (wr := []) d_Mod_directoryFault_181 (g_Mod_at hl G h m_rels m_openRels m_closeRels m_openRel m_closeRel m_comment m_ends m_order m_tape m_count m_nameSize m_names m_size m_data m_looked m_file m_directory m_out m_row m_made m_length m_pressed m_mark m_idSize m_ids m_goalSize m_goals m_value m_faults m_reached v_thrown v_taped v_lookedSize v_fileSize v_directorySize v_outSize v_rowSize v_bitAt v_bitEnd v_why v_madeSize v_firstCount v_secondCount v_heldBits v_heldCount v_pressedSize v_at v_bad v_markSize v_relationCount v_valueSize v_faultCount a_row ix137 2 (by first | (with_reducible assumption) | omega (splitDisjunctions := false) | assumption | omega | decide) (by first | (with_reducible assumption) | omega (splitDisjunctions := false) | assumption | omega | decide) (by first | (with_reducible assumption) | omega (splitDisjunctions := false) | assumption | omega | decide) (by first | (with_reducible assumption) | omega (splitDisjunctions := false) | assumption | omega | decide) F_a_row) rfl rfl [0, 1] [] (by decide) rfl rfl rfl (by decide) (by decide) k_1525 rfl k_128 k_1522 k_1524 k_88 ⟨rfl, hy_Mod_at⟩ (by decide) rfl rfl (Nat.le_of_ble_eq_true rfl) (by decide) (fun v9 ux139 ch138 => ?_)
                          obtain ⟨r_140, rfl⟩ : ∃ z9, z9 = ux139 := ⟨_, rfl⟩
                          obtain ⟨ech138, ch138⟩ := ch138
                          have ech138 : v9 = some (.long r_140) := ech138
                          subst ech138
                          obtain ⟨fh141, fh142, fh143⟩ : (r_140.toInt = av a_row ix137.toInt (2 : Int32).toInt.toNat) ∧ (0 ≤ r_140.toInt) ∧ (r_140.toInt < 4294967296) := ch138
                          have w8 : r_140.toInt = aw A (hr.toInt + 8) 2 := by rw [fh141, n2, show ix137.toInt = hr.toInt + 8 by (first | exact omg_c647d57480 tix80 tix137 | omega)]; exact av_A hA 2 (by (first | exact omg_4c9f55585f fh49 fh50 a2 | omega)) (by (first | exact omg_f5efd0557b e0 tjx76 tjx77 lwx79 | omega))
                          refine pb_eq (pc' := 184) (lo' := [(8, .int ix80), (1, .int e), (2, .long hr), (4, .long n), (6, .long k), (0, .ref h)]) (rest' := [.long r_140]) (ws' := [(h, .inr (10, [.ref m_rels, .ref m_openRels, .ref m_closeRels, .ref m_openRel, .ref m_closeRel, .ref m_comment, .ref m_ends, .ref m_order, .int v_thrown, .int v_taped, .ref m_tape, .ref m_count, .ref m_nameSize, .ref m_names, .ref m_size, .ref m_data, .int v_lookedSize, .ref m_looked, .int v_fileSize, .ref m_file, .int v_directorySize, .ref m_directory, .int v_outSize, .ref m_out, .int v_rowSize, .ref m_row, .int v_bitAt, .int v_bitEnd, .int v_why, .int v_madeSize, .ref m_made, .ref m_length, .int v_firstCount, .int v_secondCount, .int v_heldBits, .int v_heldCount, .int v_pressedSize, .ref m_pressed, .int v_at, .int v_bad, .int v_markSize, .ref m_mark, .int v_relationCount, .ref m_idSize, .ref m_ids, .ref m_goalSize, .ref m_goals, .int v_valueSize, .ref m_value, .int v_faultCount, .ref m_faults, .ref m_reached])), (m_row, .inl (G.2.1, 20000, .inl a_row))]) ?_
                          refine pb_lconst (pc := 184) (v := 0) d_Mod_directoryFault_184 (by decide) ?_
                          refine pb_lcmp (pc := 185) d_Mod_directoryFault_185 ?_
                          refine pb_topi (fun ix144 eix144 => ?_)
                          have tix144 : (ix144.toInt < 0 ↔ r_140.toInt < 0) ∧ (ix144.toInt = 0 ↔ r_140.toInt = 0) ∧ (0 < ix144.toInt ↔ 0 < r_140.toInt) := tl_cmp eix144 rfl (by decide)
                          refine pb_if_ne (pc := 186) (tgt := 225) d_Mod_directoryFault_186 (by decide) (fun wx145 => ?_) (fun wx145 => ?_)
                          · have twx145 : ¬ ix144.toInt = 0 := fun z9 => wx145 ((ti_eq rfl (by decide)).mpr z9)
                            have lwx145 : ¬ r_140.toInt = 0 := fun z9 => twx145 (tix144.2.1.mpr z9)
                            clear tix144 twx145
                            refine pb_iconst (pc := 225) (v := 0) d_Mod_directoryFault_225 (by decide) ?_
                            refine pb_istore (pc := 226) (lo' := [(9, .int 0), (8, .int ix80), (1, .int e), (2, .long hr), (4, .long n), (6, .long k), (0, .ref h)]) d_Mod_directoryFault_226 (by decide) rfl ?_
                            exact hJ228_81 0 ix80 (by first | (with_reducible assumption) | omega (splitDisjunctions := false) | assumption | omega | decide) (hid_i (by first | exact fun q9 => absurd q9 (by decide) | exact fun _ => ⟨by omega, by omega, by omega, by omega⟩)) (hid_i (by first | exact fun q9 => absurd q9 (by decide) | exact fun _ q9 => (by obtain ⟨y1, y2, y3, y4⟩ := q9; (first | exact omg_acd30192c0 w8 lwx145 y3 | omega)))) (by first | (with_reducible assumption) | omega (splitDisjunctions := false) | assumption | omega | decide)
                          · have twx145 : ix144.toInt = 0 := (ti_eq rfl (by decide)).mp wx145
                            have lwx145 : r_140.toInt = 0 := tix144.2.1.mp twx145
                            clear tix144 twx145
                            refine pb_aload_n (pc := 189) d_Mod_directoryFault_189 5 rfl rfl ?_
                            refine pb_iload (pc := 190) d_Mod_directoryFault_190 0 rfl ?_
                            refine pb_bipush (pc := 192) (v := 10) d_Mod_directoryFault_192 (by decide) ?_
                            refine pb_iadd (pc := 194) d_Mod_directoryFault_194 ?_
                            refine pb_topi (fun ix146 eix146 => ?_)
                            try have tix146 : ix146.toInt = ix80.toInt + 10 := t2_add eix146 rfl (by decide) (by (first | exact omg_544d97ef14 h1 fh49 fh50 e0 a2 tjx76 tjx77 lwx79 tix80 | omega))
                            refine pb_iconst (pc := 195) (v := 2) d_Mod_directoryFault_195 (by decide) ?_
                            refine pb_callV (pc := 196) (I := i_Mod_directoryFault) (qb := 0) (ci := 10) (nA := 2) (rest := []) (wr := []) d_Mod_directoryFault_196 (g_Mod_at hl G h m_rels m_openRels m_closeRels m_openRel m_closeRel m_comment m_ends m_order m_tape m_count m_nameSize m_names m_size m_data m_looked m_file m_directory m_out m_row m_made m_length m_pressed m_mark m_idSize m_ids m_goalSize m_goals m_value m_faults m_reached v_thrown v_taped v_lookedSize v_fileSize v_directorySize v_outSize v_rowSize v_bitAt v_bitEnd v_why v_madeSize v_firstCount v_secondCount v_heldBits v_heldCount v_pressedSize v_at v_bad v_markSize v_relationCount v_valueSize v_faultCount a_row ix146 2 (by first | (with_reducible assumption) | omega (splitDisjunctions := false) | assumption | omega | decide) (by first | (with_reducible assumption) | omega (splitDisjunctions := false) | assumption | omega | decide) (by first | (with_reducible assumption) | omega (splitDisjunctions := false) | assumption | omega | decide) (by first | (with_reducible assumption) | omega (splitDisjunctions := false) | assumption | omega | decide) F_a_row) rfl rfl [0, 1] [] (by decide) rfl rfl rfl (by decide) (by decide) k_1525 rfl k_128 k_1522 k_1524 k_88 ⟨rfl, hy_Mod_at⟩ (by decide) rfl rfl (Nat.le_of_ble_eq_true rfl) (by decide) (fun v9 ux148 ch147 => ?_)
                            obtain ⟨r_149, rfl⟩ : ∃ z9, z9 = ux148 := ⟨_, rfl⟩
                            obtain ⟨ech147, ch147⟩ := ch147
                            have ech147 : v9 = some (.long r_149) := ech147
                            subst ech147
                            obtain ⟨fh150, fh151, fh152⟩ : (r_149.toInt = av a_row ix146.toInt (2 : Int32).toInt.toNat) ∧ (0 ≤ r_149.toInt) ∧ (r_149.toInt < 4294967296) := ch147
                            have w10 : r_149.toInt = aw A (hr.toInt + 10) 2 := by rw [fh150, n2, show ix146.toInt = hr.toInt + 10 by (first | exact omg_e40bc9cb46 tix80 tix146 | omega)]; exact av_A hA 2 (by (first | exact omg_bbc78c4057 fh49 fh50 a2 | omega)) (by (first | exact omg_026e0903d4 e0 tjx76 tjx77 lwx79 | omega))
                            refine pb_eq (pc' := 199) (lo' := [(8, .int ix80), (1, .int e), (2, .long hr), (4, .long n), (6, .long k), (0, .ref h)]) (rest' := [.long r_149]) (ws' := [(h, .inr (10, [.ref m_rels, .ref m_openRels, .ref m_closeRels, .ref m_openRel, .ref m_closeRel, .ref m_comment, .ref m_ends, .ref m_order, .int v_thrown, .int v_taped, .ref m_tape, .ref m_count, .ref m_nameSize, .ref m_names, .ref m_size, .ref m_data, .int v_lookedSize, .ref m_looked, .int v_fileSize, .ref m_file, .int v_directorySize, .ref m_directory, .int v_outSize, .ref m_out, .int v_rowSize, .ref m_row, .int v_bitAt, .int v_bitEnd, .int v_why, .int v_madeSize, .ref m_made, .ref m_length, .int v_firstCount, .int v_secondCount, .int v_heldBits, .int v_heldCount, .int v_pressedSize, .ref m_pressed, .int v_at, .int v_bad, .int v_markSize, .ref m_mark, .int v_relationCount, .ref m_idSize, .ref m_ids, .ref m_goalSize, .ref m_goals, .int v_valueSize, .ref m_value, .int v_faultCount, .ref m_faults, .ref m_reached])), (m_row, .inl (G.2.1, 20000, .inl a_row))]) ?_
                            refine pb_lconst (pc := 199) (v := 0) d_Mod_directoryFault_199 (by decide) ?_
                            refine pb_lcmp (pc := 200) d_Mod_directoryFault_200 ?_
                            refine pb_topi (fun ix153 eix153 => ?_)
                            have tix153 : (ix153.toInt < 0 ↔ r_149.toInt < 0) ∧ (ix153.toInt = 0 ↔ r_149.toInt = 0) ∧ (0 < ix153.toInt ↔ 0 < r_149.toInt) := tl_cmp eix153 rfl (by decide)
                            refine pb_if_eq (pc := 201) (tgt := 221) d_Mod_directoryFault_201 (by decide) (fun wx154 => ?_) (fun wx154 => ?_)
                            · have twx154 : ix153.toInt = 0 := (ti_eq rfl (by decide)).mp wx154
                              have lwx154 : r_149.toInt = 0 := tix153.2.1.mp twx154
                              clear tix153 twx154
                              refine pb_iconst (pc := 221) (v := 1) d_Mod_directoryFault_221 (by decide) ?_
                              refine pb_goto (pc := 222) (tgt := 226) d_Mod_directoryFault_222 (by decide) ?_
                              refine pb_istore (pc := 226) (lo' := [(9, .int 1), (8, .int ix80), (1, .int e), (2, .long hr), (4, .long n), (6, .long k), (0, .ref h)]) d_Mod_directoryFault_226 (by decide) rfl ?_
                              exact hJ228_81 1 ix80 (by first | (with_reducible assumption) | omega (splitDisjunctions := false) | assumption | omega | decide) (hid_i (by first | exact fun q9 => absurd q9 (by decide) | exact fun _ => ⟨by (first | exact omg_98797605ec w0 lwx127 | omega), by (first | exact omg_25fb27318e w4 lwx136 | omega), by (first | exact omg_3ece37706e w8 lwx145 | omega), by (first | exact omg_e41e7867ed w10 lwx154 | omega)⟩)) (hid_i (by first | exact fun q9 => absurd q9 (by decide) | exact fun _ q9 => (by obtain ⟨y1, y2, y3, y4⟩ := q9; omega))) (by first | (with_reducible assumption) | omega (splitDisjunctions := false) | assumption | omega | decide)
                            · have twx154 : ¬ ix153.toInt = 0 := fun z9 => wx154 ((ti_eq rfl (by decide)).mpr z9)
                              have lwx154 : ¬ r_149.toInt = 0 := fun z9 => twx154 (tix153.2.1.mpr z9)
                              clear tix153 twx154
                              refine pb_aload_n (pc := 204) d_Mod_directoryFault_204 5 rfl rfl ?_
                              refine pb_iload (pc := 205) d_Mod_directoryFault_205 0 rfl ?_
                              refine pb_bipush (pc := 207) (v := 10) d_Mod_directoryFault_207 (by decide) ?_
                              refine pb_iadd (pc := 209) d_Mod_directoryFault_209 ?_
                              refine pb_topi (fun ix155 eix155 => ?_)
                              try have tix155 : ix155.toInt = ix80.toInt + 10 := t2_add eix155 rfl (by decide) (by (first | exact omg_544d97ef14 h1 fh49 fh50 e0 a2 tjx76 tjx77 lwx79 tix80 | omega))
                              refine pb_iconst (pc := 210) (v := 2) d_Mod_directoryFault_210 (by decide) ?_
                              refine pb_callV (pc := 211) (I := i_Mod_directoryFault) (qb := 0) (ci := 10) (nA := 2) (rest := []) (wr := []) d_Mod_directoryFault_211 (g_Mod_at hl G h m_rels m_openRels m_closeRels m_openRel m_closeRel m_comment m_ends m_order m_tape m_count m_nameSize m_names m_size m_data m_looked m_file m_directory m_out m_row m_made m_length m_pressed m_mark m_idSize m_ids m_goalSize m_goals m_value m_faults m_reached v_thrown v_taped v_lookedSize v_fileSize v_directorySize v_outSize v_rowSize v_bitAt v_bitEnd v_why v_madeSize v_firstCount v_secondCount v_heldBits v_heldCount v_pressedSize v_at v_bad v_markSize v_relationCount v_valueSize v_faultCount a_row ix155 2 (by first | (with_reducible assumption) | omega (splitDisjunctions := false) | assumption | omega | decide) (by first | (with_reducible assumption) | omega (splitDisjunctions := false) | assumption | omega | decide) (by first | (with_reducible assumption) | omega (splitDisjunctions := false) | assumption | omega | decide) (by first | (with_reducible assumption) | omega (splitDisjunctions := false) | assumption | omega | decide) F_a_row) rfl rfl [0, 1] [] (by decide) rfl rfl rfl (by decide) (by decide) k_1525 rfl k_128 k_1522 k_1524 k_88 ⟨rfl, hy_Mod_at⟩ (by decide) rfl rfl (Nat.le_of_ble_eq_true rfl) (by decide) (fun v9 ux157 ch156 => ?_)
                              obtain ⟨r_158, rfl⟩ : ∃ z9, z9 = ux157 := ⟨_, rfl⟩
                              obtain ⟨ech156, ch156⟩ := ch156
                              have ech156 : v9 = some (.long r_158) := ech156
                              subst ech156
                              obtain ⟨fh159, fh160, fh161⟩ : (r_158.toInt = av a_row ix155.toInt (2 : Int32).toInt.toNat) ∧ (0 ≤ r_158.toInt) ∧ (r_158.toInt < 4294967296) := ch156
                              have w11 : r_158.toInt = aw A (hr.toInt + 10) 2 := by rw [fh159, n2, show ix155.toInt = hr.toInt + 10 by (first | exact omg_e40bc9cb46 tix80 tix155 | omega)]; exact av_A hA 2 (by (first | exact omg_bbc78c4057 fh49 fh50 a2 | omega)) (by (first | exact omg_026e0903d4 e0 tjx76 tjx77 lwx79 | omega))
                              refine pb_eq (pc' := 214) (lo' := [(8, .int ix80), (1, .int e), (2, .long hr), (4, .long n), (6, .long k), (0, .ref h)]) (rest' := [.long r_158]) (ws' := [(h, .inr (10, [.ref m_rels, .ref m_openRels, .ref m_closeRels, .ref m_openRel, .ref m_closeRel, .ref m_comment, .ref m_ends, .ref m_order, .int v_thrown, .int v_taped, .ref m_tape, .ref m_count, .ref m_nameSize, .ref m_names, .ref m_size, .ref m_data, .int v_lookedSize, .ref m_looked, .int v_fileSize, .ref m_file, .int v_directorySize, .ref m_directory, .int v_outSize, .ref m_out, .int v_rowSize, .ref m_row, .int v_bitAt, .int v_bitEnd, .int v_why, .int v_madeSize, .ref m_made, .ref m_length, .int v_firstCount, .int v_secondCount, .int v_heldBits, .int v_heldCount, .int v_pressedSize, .ref m_pressed, .int v_at, .int v_bad, .int v_markSize, .ref m_mark, .int v_relationCount, .ref m_idSize, .ref m_ids, .ref m_goalSize, .ref m_goals, .int v_valueSize, .ref m_value, .int v_faultCount, .ref m_faults, .ref m_reached])), (m_row, .inl (G.2.1, 20000, .inl a_row))]) ?_
                              refine pb_ldc2 (pc := 214) (v := 8) d_Mod_directoryFault_214 k_1498 ?_
                              refine pb_lcmp (pc := 217) d_Mod_directoryFault_217 ?_
                              refine pb_topi (fun ix162 eix162 => ?_)
                              have tix162 : (ix162.toInt < 0 ↔ r_158.toInt < 8) ∧ (ix162.toInt = 0 ↔ r_158.toInt = 8) ∧ (0 < ix162.toInt ↔ 8 < r_158.toInt) := tl_cmp eix162 rfl (by decide)
                              refine pb_if_ne (pc := 218) (tgt := 225) d_Mod_directoryFault_218 (by decide) (fun wx163 => ?_) (fun wx163 => ?_)
                              · have twx163 : ¬ ix162.toInt = 0 := fun z9 => wx163 ((ti_eq rfl (by decide)).mpr z9)
                                have lwx163 : ¬ r_158.toInt = 8 := fun z9 => twx163 (tix162.2.1.mpr z9)
                                clear tix162 twx163
                                refine pb_iconst (pc := 225) (v := 0) d_Mod_directoryFault_225 (by decide) ?_
                                refine pb_istore (pc := 226) (lo' := [(9, .int 0), (8, .int ix80), (1, .int e), (2, .long hr), (4, .long n), (6, .long k), (0, .ref h)]) d_Mod_directoryFault_226 (by decide) rfl ?_
                                exact hJ228_81 0 ix80 (by first | (with_reducible assumption) | omega (splitDisjunctions := false) | assumption | omega | decide) (hid_i (by first | exact fun q9 => absurd q9 (by decide) | exact fun _ => ⟨by omega, by omega, by omega, by omega⟩)) (hid_i (by first | exact fun q9 => absurd q9 (by decide) | exact fun _ q9 => (by obtain ⟨y1, y2, y3, y4⟩ := q9; (first | exact omg_189f31393b w10 lwx154 w11 lwx163 y4 | omega)))) (by first | (with_reducible assumption) | omega (splitDisjunctions := false) | assumption | omega | decide)
                              · have twx163 : ix162.toInt = 0 := (ti_eq rfl (by decide)).mp wx163
                                have lwx163 : r_158.toInt = 8 := tix162.2.1.mp twx163
                                clear tix162 twx163
                                refine pb_iconst (pc := 221) (v := 1) d_Mod_directoryFault_221 (by decide) ?_
                                refine pb_goto (pc := 222) (tgt := 226) d_Mod_directoryFault_222 (by decide) ?_
                                refine pb_istore (pc := 226) (lo' := [(9, .int 1), (8, .int ix80), (1, .int e), (2, .long hr), (4, .long n), (6, .long k), (0, .ref h)]) d_Mod_directoryFault_226 (by decide) rfl ?_
                                exact hJ228_81 1 ix80 (by first | (with_reducible assumption) | omega (splitDisjunctions := false) | assumption | omega | decide) (hid_i (by first | exact fun q9 => absurd q9 (by decide) | exact fun _ => ⟨by (first | exact omg_98797605ec w0 lwx127 | omega), by (first | exact omg_25fb27318e w4 lwx136 | omega), by (first | exact omg_3ece37706e w8 lwx145 | omega), by omega⟩)) (hid_i (by first | exact fun q9 => absurd q9 (by decide) | exact fun _ q9 => (by obtain ⟨y1, y2, y3, y4⟩ := q9; omega))) (by first | (with_reducible assumption) | omega (splitDisjunctions := false) | assumption | omega | decide)
                    · have twx79 : ¬ ix78.toInt ≤ 0 := fun z9 => wx79 ((ti_le rfl (by decide)).mpr z9)
                      have lwx79 : jx77.toInt < jx76.toInt := tix78.2.2.mp (Int.not_le.mp twx79)
                      clear tix78 twx79
                      refine pb_iconst (pc := 138) (v := 2) d_Mod_directoryFault_138 (by decide) ?_
                      exact pb_iret (pc := 139) hQ d_Mod_directoryFault_139 rfl rfl (2) ⟨rfl, (by (try dsimp only); first | done | (with_reducible assumption) | omega (splitDisjunctions := false) | assumption | omega | decide), (show (2 : Int32).toInt = 0 → 22 ≤ v_rowSize.toInt ∧ dq_ok a_row (av a_row (v_rowSize.toInt - 6) 4) (v_rowSize.toInt - 22) from (by first | exact fun h9 => absurd h9 (by omega) | exact fun _ => ⟨by omega, by omega, by omega, k.toInt.toNat, by omega, fun j hj9 => by have q9 := hj j hj9; omega⟩)), (show ((2 : Int32).toInt = 1 ∧ ¬ (22 ≤ v_rowSize.toInt ∧ ed_ A (v_rowSize.toInt - 22))) ∨ ((2 : Int32).toInt = 2 ∧ (22 ≤ v_rowSize.toInt ∧ ed_ A (v_rowSize.toInt - 22)) ∧ ¬ dw_ A (v_rowSize.toInt - 22)) ∨ ((2 : Int32).toInt = 0 ∧ (22 ≤ v_rowSize.toInt ∧ ed_ A (v_rowSize.toInt - 22)) ∧ dw_ A (v_rowSize.toInt - 22)) from (Or.inr (Or.inl ⟨(by first | decide | omega), eD5, fun q9 => dy_no (k := k.toInt.toNat) (by (first | exact omg_22111b28ba k0 hn5 lwx72 | omega)) (by rw [← hz]; exact fun q8 => absurd q8.1 (by (first | exact omg_d94271d85e e0 tjx76 tjx77 lwx79 | omega))) q9.2⟩)))⟩ [0, 1] (by decide) rfl rfl (by decide) (by decide)
              refine pb_re (ws' := [(h, .inr (10, [.ref m_rels, .ref m_openRels, .ref m_closeRels, .ref m_openRel, .ref m_closeRel, .ref m_comment, .ref m_ends, .ref m_order, .int v_thrown, .int v_taped, .ref m_tape, .ref m_count, .ref m_nameSize, .ref m_names, .ref m_size, .ref m_data, .int v_lookedSize, .ref m_looked, .int v_fileSize, .ref m_file, .int v_directorySize, .ref m_directory, .int v_outSize, .ref m_out, .int v_rowSize, .ref m_row, .int v_bitAt, .int v_bitEnd, .int v_why, .int v_madeSize, .ref m_made, .ref m_length, .int v_firstCount, .int v_secondCount, .int v_heldBits, .int v_heldCount, .int v_pressedSize, .ref m_pressed, .int v_at, .int v_bad, .int v_markSize, .ref m_mark, .int v_relationCount, .ref m_idSize, .ref m_ids, .ref m_goalSize, .ref m_goals, .int v_valueSize, .ref m_value, .int v_faultCount, .ref m_faults, .ref m_reached])), (m_row, .inl (G.2.1, 20000, .inl a_row))]) (lo' := [(1, .int ix1), (2, .long r_48), (4, .long r_66), (6, .long 0), (0, .ref h)]) [0, 1] [3, 2, 1, 0, 4] (by decide) rfl rfl rfl ?_
              exact hL119_70 _ ix1 r_48 r_66 0 (by first | (with_reducible assumption) | omega (splitDisjunctions := false) | assumption | omega | decide) (by first | (with_reducible assumption) | (first | exact omg_db7907a2b4 twx2 | omega (splitDisjunctions := false)) | assumption | omega | decide) (by first | (with_reducible assumption) | omega (splitDisjunctions := false) | assumption | omega | decide) (by first | (with_reducible assumption) | omega (splitDisjunctions := false) | assumption | omega | decide) (by first | (with_reducible assumption) | omega (splitDisjunctions := false) | assumption | omega | decide) (by first | (with_reducible assumption) | (first | exact omg_3907787a03 fh49 fh50 | omega (splitDisjunctions := false)) | assumption | omega | decide) (by first | (with_reducible assumption) | (first | exact omg_4e99ee0b06 fh49 fh57 tjx59 tjx60 lwx62 | omega (splitDisjunctions := false)) | assumption | omega | decide) (by first | (with_reducible assumption) | omega (splitDisjunctions := false) | assumption | omega | decide) (by first | (with_reducible assumption) | (first | exact omg_c386195dfe fh57 tjx59 tjx60 lwx62 | omega (splitDisjunctions := false)) | assumption | omega | decide) (by show _ = av a_row (v_rowSize.toInt - 6) 4; omega) (fun j hj9 => absurd hj9 (by show ¬ j < (0 : Int64).toInt.toNat; rw [show (0 : Int64).toInt = 0 by decide]; omega)) edF (by first | (with_reducible assumption) | omega (splitDisjunctions := false) | assumption | (first | exact omg_91d728ae1e tix1 u16 u12 tjx59 tjx60 lwx62 | omega) | decide) (by first | (with_reducible assumption) | omega (splitDisjunctions := false) | assumption | omega | decide) (by show _ = aw A (v_rowSize.toInt - 22 + 16) 4; omega) (fun j h9 => absurd h9 (by show ¬ j < (0 : Int64).toInt.toNat; rw [show (0 : Int64).toInt = 0 by decide]; omega)) (Nat.lt_succ_self _)
            · have twx62 : ¬ ix61.toInt = 0 := fun z9 => wx62 ((ti_eq rfl (by decide)).mpr z9)
              have lwx62 : ¬ jx59.toInt = jx60.toInt := fun z9 => twx62 (tix61.2.1.mpr z9)
              clear tix61 twx62
              refine pb_iconst (pc := 103) (v := 2) d_Mod_directoryFault_103 (by decide) ?_
              exact pb_iret (pc := 104) hQ d_Mod_directoryFault_104 rfl rfl (2) ⟨rfl, (by (try dsimp only); first | done | (with_reducible assumption) | omega (splitDisjunctions := false) | assumption | omega | decide), (show (2 : Int32).toInt = 0 → 22 ≤ v_rowSize.toInt ∧ dq_ok a_row (av a_row (v_rowSize.toInt - 6) 4) (v_rowSize.toInt - 22) from (by first | exact fun h9 => absurd h9 (by omega) | exact fun _ => ⟨by omega, by omega, by omega, k.toInt.toNat, by omega, fun j hj9 => by have q9 := hj j hj9; omega⟩)), (show ((2 : Int32).toInt = 1 ∧ ¬ (22 ≤ v_rowSize.toInt ∧ ed_ A (v_rowSize.toInt - 22))) ∨ ((2 : Int32).toInt = 2 ∧ (22 ≤ v_rowSize.toInt ∧ ed_ A (v_rowSize.toInt - 22)) ∧ ¬ dw_ A (v_rowSize.toInt - 22)) ∨ ((2 : Int32).toInt = 0 ∧ (22 ≤ v_rowSize.toInt ∧ ed_ A (v_rowSize.toInt - 22)) ∧ dw_ A (v_rowSize.toInt - 22)) from (Or.inr (Or.inl ⟨(by first | decide | omega), edF, fun q9 => absurd q9.1 (by (first | exact omg_6fff4b142f tix1 u16 u12 tjx59 tjx60 lwx62 | omega))⟩)))⟩ [0, 1] (by decide) rfl rfl (by decide) (by decide)
          · have twx44 : ¬ ix43.toInt = 0 := fun z9 => wx44 ((ti_eq rfl (by decide)).mpr z9)
            have lwx44 : ¬ r_39.toInt = 0 := fun z9 => twx44 (tix43.2.1.mpr z9)
            clear tix43 twx44
            refine pb_iconst (pc := 74) (v := 1) d_Mod_directoryFault_74 (by decide) ?_
            exact pb_iret (pc := 75) hQ d_Mod_directoryFault_75 rfl rfl (1) ⟨rfl, (by (try dsimp only); first | done | (with_reducible assumption) | omega (splitDisjunctions := false) | assumption | omega | decide), (show (1 : Int32).toInt = 0 → 22 ≤ v_rowSize.toInt ∧ dq_ok a_row (av a_row (v_rowSize.toInt - 6) 4) (v_rowSize.toInt - 22) from (by first | exact fun h9 => absurd h9 (by omega) | exact fun _ => ⟨by omega, by omega, by omega, k.toInt.toNat, by omega, fun j hj9 => by have q9 := hj j hj9; omega⟩)), (show ((1 : Int32).toInt = 1 ∧ ¬ (22 ≤ v_rowSize.toInt ∧ ed_ A (v_rowSize.toInt - 22))) ∨ ((1 : Int32).toInt = 2 ∧ (22 ≤ v_rowSize.toInt ∧ ed_ A (v_rowSize.toInt - 22)) ∧ ¬ dw_ A (v_rowSize.toInt - 22)) ∨ ((1 : Int32).toInt = 0 ∧ (22 ≤ v_rowSize.toInt ∧ ed_ A (v_rowSize.toInt - 22)) ∧ dw_ A (v_rowSize.toInt - 22)) from (Or.inl ⟨(by first | decide | omega), fun q9 => (by obtain ⟨q8, y1, y2, y3, y4⟩ := q9; omega)⟩))⟩ [0, 1] (by decide) rfl rfl (by decide) (by decide)
/-! ROWS OF NUMBERS -/
theorem omg_e4dbbe00b2 {x0 : Int} {x1 : Int} {x2 : Int} {x3 : Int} {x4 : Int} {x5 : Int} {x6 : Int} (a0 : (((0 : Int) ≤ x0) ∧ (x0 < (4294967296 : Int)))) (a1 : (((0 : Int) ≤ x1) ∧ (x1 ≤ (65535 : Int)))) (a2 : (x2 = x0)) (a3 : (x3 = x1)) (a4 : (x4 = x3)) (a5 : (x5 = (x2 + (30 : Int)))) (a6 : (x6 = x4)) : ((-(9223372036854775808 : Int)) ≤ (x5 + x6)) := by omega
theorem omg_10686cd870 {x0 : Int} {x1 : Int} {x2 : Int} {x3 : Int} (a0 : ((0 : Int) ≤ x0)) (a1 : (((x0 + (46 : Int)) + x1) ≤ (20000 : Int))) (a2 : (((0 : Int) ≤ x2) ∧ (x2 ≤ (65535 : Int)))) (a3 : (x3 = x1)) (a4 : (x3 = x2)) : (((-(2147483648 : Int)) ≤ (x0 + (20 : Int))) ∧ ((x0 + (20 : Int)) < (2147483648 : Int))) := by omega
theorem omg_a977c8fbe6 {x0 : Int} {x1 : Int} {x2 : Int} {x3 : Int} {x4 : Int} {x5 : Int} {x6 : Int} {x7 : Int} {x8 : Int} {x9 : Int} {x10 : Int} (a0 : ((0 : Int) ≤ x0)) (a1 : (((x0 + (46 : Int)) + x1) ≤ (20000 : Int))) (a2 : (((0 : Int) ≤ x2) ∧ (x2 < (4294967296 : Int)))) (a3 : (((0 : Int) ≤ x3) ∧ (x3 < (4294967296 : Int)))) (a4 : (x4 = x2)) (a5 : (x5 = x1)) (a6 : (x6 = x5)) (a7 : (x7 = (x4 + (30 : Int)))) (a8 : (x8 = x6)) (a9 : (x9 = (x7 + x8))) (a10 : (x10 = x3)) : ((x9 + x10) < (9223372036854775808 : Int)) := by omega
theorem omg_5a1514d259 {x0 : Int} {x1 : Int} {x2 : Int} {x3 : Int} {x4 : Int} {x5 : Int} {x6 : Int} {x7 : Int} {x8 : Int} {x9 : Int} {x10 : Int} {x11 : Int} (a0 : (x0 ≤ (20000 : Int))) (a1 : (((0 : Int) ≤ x1) ∧ (x1 < (4294967296 : Int)))) (a2 : (((0 : Int) ≤ x2) ∧ (x2 ≤ (65535 : Int)))) (a3 : (x3 = x2)) (a4 : (x4 = x3)) (a5 : (x5 = (x6 + (30 : Int)))) (a6 : (x7 = x4)) (a7 : (x8 = (x5 + x7))) (a8 : (x9 = x1)) (a9 : (x10 = (x8 + x9))) (a10 : (x11 = x0)) (a11 : (x10 ≤ x11)) : (x6 < (2147483648 : Int)) := by omega
theorem omg_a25f8e9775 {x0 : Int} {x1 : Int} (a0 : (((0 : Int) ≤ x0) ∧ (x0 < (4294967296 : Int)))) (a1 : (x1 = x0)) : ((-(2147483648 : Int)) ≤ x1) := by omega
theorem omg_ae35baf188 {x0 : Int} {x1 : Int} {x2 : Int} {x3 : Int} {x4 : Int} {x5 : Int} (a0 : (x0 = x1)) (a1 : (x0 = x2)) (a2 : (x3 = x1)) (a3 : (x3 ≤ x4)) (a4 : (x5 < x2)) : (x5 < x4) := by omega
theorem omg_ec31b44b0d {x0 : Int} {x1 : Int} {x2 : Int} {x3 : Int} {x4 : Int} {x5 : Int} {x6 : Int} {x7 : Int} {x8 : Int} {x9 : Int} {x10 : Int} {x11 : Int} {x12 : Int} {x13 : Int} (a0 : (x0 ≤ (20000 : Int))) (a1 : (((0 : Int) ≤ x1) ∧ (x1 < (4294967296 : Int)))) (a2 : (((0 : Int) ≤ x2) ∧ (x2 < (4294967296 : Int)))) (a3 : (((0 : Int) ≤ x3) ∧ (x3 ≤ (65535 : Int)))) (a4 : (x4 = x1)) (a5 : (x5 = x3)) (a6 : (x6 = x5)) (a7 : (x7 = (x4 + (30 : Int)))) (a8 : (x8 = x6)) (a9 : (x9 = (x7 + x8))) (a10 : (x10 = x2)) (a11 : (x11 = (x9 + x10))) (a12 : (x12 = x0)) (a13 : (x11 ≤ x12)) (a14 : (x13 = x1)) : (((-(2147483648 : Int)) ≤ (x13 + (30 : Int))) ∧ ((x13 + (30 : Int)) < (2147483648 : Int))) := by omega
theorem omg_3e431624f4 {x0 : Int} {x1 : Int} {x2 : Int} {x3 : Int} {x4 : Int} {x5 : Int} {x6 : Int} {x7 : Int} {x8 : Int} {x9 : Int} {x10 : Int} {x11 : Int} {x12 : Int} {x13 : Int} {x14 : Int} {x15 : Int} {x16 : Int} (a0 : (x0 ≤ (20000 : Int))) (a1 : (((0 : Int) ≤ x1) ∧ (x1 < (4294967296 : Int)))) (a2 : (((0 : Int) ≤ x2) ∧ (x2 < (4294967296 : Int)))) (a3 : (x3 = x1)) (a4 : (x4 = x5)) (a5 : (x6 = x4)) (a6 : (x7 = (x3 + (30 : Int)))) (a7 : (x8 = x6)) (a8 : (x9 = (x7 + x8))) (a9 : (x10 = x2)) (a10 : (x11 = (x9 + x10))) (a11 : (x12 = x0)) (a12 : (x11 ≤ x12)) (a13 : (x13 = x1)) (a14 : (x14 = x5)) (a15 : ((0 : Int) ≤ x15)) (a16 : (¬ (x14 ≤ x15))) (a17 : (x16 = (x13 + (30 : Int)))) : (((-(2147483648 : Int)) ≤ (x16 + x15)) ∧ ((x16 + x15) < (2147483648 : Int))) := by omega
theorem omg_0fca54b51c {x0 : Int} {x1 : Int} {x2 : Int} {x3 : Int} {x4 : Int} {x5 : Int} {x6 : Int} {x7 : Int} {x8 : Int} {x9 : Int} {x10 : Int} {x11 : Int} {x12 : Int} {x13 : Int} {x14 : Int} {x15 : Int} {x16 : Int} {x17 : Int} (a0 : (x0 ≤ (20000 : Int))) (a1 : (((0 : Int) ≤ x1) ∧ (x1 < (4294967296 : Int)))) (a2 : (((0 : Int) ≤ x2) ∧ (x2 < (4294967296 : Int)))) (a3 : (x3 = x1)) (a4 : (x4 = x5)) (a5 : (x6 = x4)) (a6 : (x7 = (x3 + (30 : Int)))) (a7 : (x8 = x6)) (a8 : (x9 = (x7 + x8))) (a9 : (x10 = x2)) (a10 : (x11 = (x9 + x10))) (a11 : (x12 = x0)) (a12 : (x11 ≤ x12)) (a13 : (x13 = x1)) (a14 : (x14 = x5)) (a15 : ((0 : Int) ≤ x15)) (a16 : (¬ (x14 ≤ x15))) (a17 : (x16 = (x13 + (30 : Int)))) (a18 : (x17 = (x16 + x15))) : (((0 : Int) ≤ x17) ∧ (x17 < (((20000 : Nat) : Nat) : Int))) := by omega
theorem omg_ca5ee684ad {x0 : Int} {x1 : Int} {x2 : Int} {x3 : Int} {x4 : Int} {x5 : Int} {x6 : Int} (a0 : (x0 = x1)) (a1 : (x0 = x2)) (a2 : (x3 = x1)) (a3 : (x4 = (x3 + (30 : Int)))) (a4 : (x5 = (x4 + x6))) : (x5 = ((x2 + (30 : Int)) + x6)) := by omega
theorem omg_604ceb54cd {x0 : Int} {x1 : Int} {x2 : Int} {x3 : Int} (a0 : ((0 : Int) ≤ x0)) (a1 : (((x0 + (46 : Int)) + x1) ≤ (20000 : Int))) (a2 : (((0 : Int) ≤ x2) ∧ (x2 ≤ (65535 : Int)))) (a3 : (x3 = x1)) (a4 : (x3 = x2)) : (((-(2147483648 : Int)) ≤ (x0 + (46 : Int))) ∧ ((x0 + (46 : Int)) < (2147483648 : Int))) := by omega
theorem omg_c309cea7aa {x0 : Int} {x1 : Int} {x2 : Int} {x3 : Int} {x4 : Int} (a0 : ((0 : Int) ≤ x0)) (a1 : (((x0 + (46 : Int)) + x1) ≤ (20000 : Int))) (a2 : (x2 = x1)) (a3 : ((0 : Int) ≤ x3)) (a4 : (¬ (x2 ≤ x3))) (a5 : (x4 = (x0 + (46 : Int)))) : (((-(2147483648 : Int)) ≤ (x4 + x3)) ∧ ((x4 + x3) < (2147483648 : Int))) := by omega
theorem omg_f3dbfea2a5 {x0 : Int} {x1 : Int} {x2 : Int} {x3 : Int} {x4 : Int} {x5 : Int} (a0 : ((0 : Int) ≤ x0)) (a1 : (((x0 + (46 : Int)) + x1) ≤ (20000 : Int))) (a2 : (x2 = x1)) (a3 : ((0 : Int) ≤ x3)) (a4 : (¬ (x2 ≤ x3))) (a5 : (x4 = (x0 + (46 : Int)))) (a6 : (x5 = (x4 + x3))) : (((0 : Int) ≤ x5) ∧ (x5 < (((20000 : Nat) : Nat) : Int))) := by omega
theorem omg_b2668de830 {x0 : Int} {x1 : Int} {x2 : Int} {x3 : Int} (a0 : (x0 = (x1 + (46 : Int)))) (a1 : (x2 = (x0 + x3))) : (x2 = ((x1 + (46 : Int)) + x3)) := by omega
theorem omg_1663dafca6 {x0 : Int} {x1 : Int} {x2 : Int} {x3 : Int} {x4 : Int} {x5 : Int} {x6 : Int} {x7 : Int} {x8 : Int} {x9 : Int} {x10 : Int} {x11 : Int} {x12 : Int} {x13 : Int} {x14 : Int} (a0 : (x0 ≤ (20000 : Int))) (a1 : (((0 : Int) ≤ x1) ∧ (x1 < (4294967296 : Int)))) (a2 : (((0 : Int) ≤ x2) ∧ (x2 < (4294967296 : Int)))) (a3 : (x3 = x1)) (a4 : (x4 = x5)) (a5 : (x6 = x4)) (a6 : (x7 = (x3 + (30 : Int)))) (a7 : (x8 = x6)) (a8 : (x9 = (x7 + x8))) (a9 : (x10 = x2)) (a10 : (x11 = (x9 + x10))) (a11 : (x12 = x0)) (a12 : (x11 ≤ x12)) (a13 : (x13 = x5)) (a14 : ((0 : Int) ≤ x14)) (a15 : (¬ (x13 ≤ x14))) : (((-(2147483648 : Int)) ≤ (x14 + (1 : Int))) ∧ ((x14 + (1 : Int)) < (2147483648 : Int))) := by omega
theorem omg_f684814fd3 {x0 : Int} {x1 : Int} {x2 : Int} {x3 : Int} {x4 : Int} (a0 : (x0 = x1)) (a1 : (x0 = x2)) (a2 : (x3 = x1)) (a3 : (¬ (x3 ≤ x4))) : (x4 < x2) := by omega
theorem omg_2a8d2ee9e1 {x0 : Int} {x1 : Int} {x2 : Int} {x3 : Int} {x4 : Int} {x5 : Int} {x6 : Int} (a0 : (((x0 + (46 : Int)) + x1) ≤ x2)) (a1 : (x3 = x4)) (a2 : (x3 = x1)) (a3 : (x5 = x4)) (a4 : (¬ (x5 ≤ x6))) : (((x0 + (46 : Int)) + x6) < x2) := by omega
theorem omg_b709a490d2 {x0 : Int} {x1 : Int} (a0 : ((0 : Int) ≤ x0)) (a1 : ((0 : Int) ≤ x1)) : ((0 : Int) ≤ ((x0 + (46 : Int)) + x1)) := by omega
theorem omg_a82458b5e5 {x0 : Int} {x1 : Int} {x2 : Int} {x3 : Int} {x4 : Int} {x5 : Int} {x6 : Int} {x7 : Int} {x8 : Int} {x9 : Int} {x10 : Int} {x11 : Int} {x12 : Int} {x13 : Int} {x14 : Int} {x15 : Int} (a0 : (x0 ≤ x1)) (a1 : (((0 : Int) ≤ x2) ∧ (x2 < (4294967296 : Int)))) (a2 : (x3 = x4)) (a3 : (x5 = x6)) (a4 : (x7 = x5)) (a5 : (x8 = (x3 + (30 : Int)))) (a6 : (x9 = x7)) (a7 : (x10 = (x8 + x9))) (a8 : (x11 = x2)) (a9 : (x12 = (x10 + x11))) (a10 : (x13 = x0)) (a11 : (x12 ≤ x13)) (a12 : (x14 = x6)) (a13 : (¬ (x14 ≤ x15))) : (((x4 + (30 : Int)) + x15) < x1) := by omega
theorem omg_64845410fa {x0 : Int} {x1 : Int} {x2 : Int} {x3 : Int} (a0 : (((0 : Int) ≤ x0) ∧ (x0 < (4294967296 : Int)))) (a1 : (x1 = x0)) (a2 : (x1 = x2)) (a3 : ((0 : Int) ≤ x3)) : ((0 : Int) ≤ ((x2 + (30 : Int)) + x3)) := by omega
theorem omg_17486f79d6 {x0 : Int} {x1 : Int} {x2 : Int} {x3 : Int} {x4 : Int} (a0 : (x0 = (0 : Int))) (a1 : (((0 : Int) ≤ x1) ∧ (x1 ≤ (65535 : Int)))) (a2 : (x2 = x3)) (a3 : (x2 = x1)) (a4 : (x4 = x3)) : (x0 ≤ x4) := by omega
theorem omg_0c6566a094 {x0 : Int} {x1 : Int} {x2 : Int} {x3 : Int} {x4 : Int} {x5 : Int} {x6 : Int} {x7 : Int} {x8 : Int} {x9 : Int} {x10 : Int} {x11 : Int} {x12 : Int} {x13 : Int} (a0 : (x0 ≤ (20000 : Int))) (a1 : (((0 : Int) ≤ x1) ∧ (x1 < (4294967296 : Int)))) (a2 : (((0 : Int) ≤ x2) ∧ (x2 < (4294967296 : Int)))) (a3 : (((0 : Int) ≤ x3) ∧ (x3 ≤ (65535 : Int)))) (a4 : (x4 = x1)) (a5 : (x5 = x3)) (a6 : (x6 = x5)) (a7 : (x7 = (x4 + (30 : Int)))) (a8 : (x8 = x6)) (a9 : (x9 = (x7 + x8))) (a10 : (x10 = x2)) (a11 : (x11 = (x9 + x10))) (a12 : (x12 = x0)) (a13 : (x11 ≤ x12)) (a14 : (x13 = x1)) : (((-(2147483648 : Int)) ≤ (x13 + (8 : Int))) ∧ ((x13 + (8 : Int)) < (2147483648 : Int))) := by omega
theorem omg_22a9ef0601 {x0 : Int} {x1 : Int} {x2 : Int} {x3 : Int} {x4 : Int} {x5 : Int} {x6 : Int} {x7 : Int} {x8 : Int} {x9 : Int} {x10 : Int} {x11 : Int} {x12 : Int} {x13 : Int} {x14 : Int} {x15 : Int} (a0 : (x0 ≤ (20000 : Int))) (a1 : (((0 : Int) ≤ x1) ∧ (x1 < (4294967296 : Int)))) (a2 : (((0 : Int) ≤ x2) ∧ (x2 < (4294967296 : Int)))) (a3 : (((0 : Int) ≤ x3) ∧ (x3 ≤ (65535 : Int)))) (a4 : (x4 = x1)) (a5 : (x5 = x3)) (a6 : (x6 = x5)) (a7 : (x7 = (x4 + (30 : Int)))) (a8 : (x8 = x6)) (a9 : (x9 = (x7 + x8))) (a10 : (x10 = x2)) (a11 : (x11 = (x9 + x10))) (a12 : (x12 = x0)) (a13 : (x11 ≤ x12)) (a14 : (x13 = x1)) (a15 : ((0 : Int) ≤ x14)) (a16 : (¬ ((20 : Int) ≤ x14))) (a17 : (x15 = (x13 + (8 : Int)))) : (((-(2147483648 : Int)) ≤ (x15 + x14)) ∧ ((x15 + x14) < (2147483648 : Int))) := by omega
theorem omg_0494158f2b {x0 : Int} {x1 : Int} {x2 : Int} {x3 : Int} {x4 : Int} {x5 : Int} {x6 : Int} {x7 : Int} {x8 : Int} {x9 : Int} {x10 : Int} {x11 : Int} {x12 : Int} {x13 : Int} {x14 : Int} {x15 : Int} {x16 : Int} (a0 : (x0 ≤ (20000 : Int))) (a1 : (((0 : Int) ≤ x1) ∧ (x1 < (4294967296 : Int)))) (a2 : (((0 : Int) ≤ x2) ∧ (x2 < (4294967296 : Int)))) (a3 : (((0 : Int) ≤ x3) ∧ (x3 ≤ (65535 : Int)))) (a4 : (x4 = x1)) (a5 : (x5 = x3)) (a6 : (x6 = x5)) (a7 : (x7 = (x4 + (30 : Int)))) (a8 : (x8 = x6)) (a9 : (x9 = (x7 + x8))) (a10 : (x10 = x2)) (a11 : (x11 = (x9 + x10))) (a12 : (x12 = x0)) (a13 : (x11 ≤ x12)) (a14 : (x13 = x1)) (a15 : ((0 : Int) ≤ x14)) (a16 : (¬ ((20 : Int) ≤ x14))) (a17 : (x15 = (x13 + (8 : Int)))) (a18 : (x16 = (x15 + x14))) : (((0 : Int) ≤ x16) ∧ (x16 < (((20000 : Nat) : Nat) : Int))) := by omega
theorem omg_0710822e0e {x0 : Int} {x1 : Int} {x2 : Int} {x3 : Int} {x4 : Int} {x5 : Int} {x6 : Int} (a0 : (x0 = x1)) (a1 : (x0 = x2)) (a2 : (x3 = x1)) (a3 : (x4 = (x3 + (8 : Int)))) (a4 : (x5 = (x4 + x6))) : (x5 = ((x2 + (8 : Int)) + x6)) := by omega
theorem omg_bcaab8d3eb {x0 : Int} {x1 : Int} {x2 : Int} {x3 : Int} (a0 : ((0 : Int) ≤ x0)) (a1 : (((x0 + (46 : Int)) + x1) ≤ (20000 : Int))) (a2 : (((0 : Int) ≤ x2) ∧ (x2 ≤ (65535 : Int)))) (a3 : (x3 = x1)) (a4 : (x3 = x2)) : (((-(2147483648 : Int)) ≤ (x0 + (10 : Int))) ∧ ((x0 + (10 : Int)) < (2147483648 : Int))) := by omega
theorem omg_2bef8ead47 {x0 : Int} {x1 : Int} {x2 : Int} {x3 : Int} {x4 : Int} {x5 : Int} (a0 : ((0 : Int) ≤ x0)) (a1 : (((x0 + (46 : Int)) + x1) ≤ (20000 : Int))) (a2 : (((0 : Int) ≤ x2) ∧ (x2 ≤ (65535 : Int)))) (a3 : (x3 = x1)) (a4 : (x3 = x2)) (a5 : ((0 : Int) ≤ x4)) (a6 : (x4 ≤ (20 : Int))) (a7 : (x5 = (x0 + (10 : Int)))) : (((-(2147483648 : Int)) ≤ (x5 + x4)) ∧ ((x5 + x4) < (2147483648 : Int))) := by omega
theorem omg_5691659740 {x0 : Int} {x1 : Int} {x2 : Int} {x3 : Int} {x4 : Int} {x5 : Int} {x6 : Int} (a0 : ((0 : Int) ≤ x0)) (a1 : (((x0 + (46 : Int)) + x1) ≤ (20000 : Int))) (a2 : (((0 : Int) ≤ x2) ∧ (x2 ≤ (65535 : Int)))) (a3 : (x3 = x1)) (a4 : (x3 = x2)) (a5 : ((0 : Int) ≤ x4)) (a6 : (¬ ((20 : Int) ≤ x4))) (a7 : (x5 = (x0 + (10 : Int)))) (a8 : (x6 = (x5 + x4))) : (((0 : Int) ≤ x6) ∧ (x6 < (((20000 : Nat) : Nat) : Int))) := by omega
theorem omg_e95a32f5ee {x0 : Int} {x1 : Int} {x2 : Int} {x3 : Int} (a0 : (x0 = (x1 + (10 : Int)))) (a1 : (x2 = (x0 + x3))) : (x2 = ((x1 + (10 : Int)) + x3)) := by omega
theorem omg_fb8cd690a9 {x0 : Int} {x1 : Nat} {x2 : Int} (a0 : ((Int.toNat ((20 : Int) - x0)) < (x1 + (1 : Nat)))) (a1 : (¬ ((20 : Int) ≤ x0))) (a2 : (x2 = (x0 + (1 : Int)))) : ((Int.toNat ((20 : Int) - x2)) < x1) := by omega
theorem omg_8a6b271da2 {x0 : Int} {x1 : Int} (a0 : (¬ ((20 : Int) ≤ x0))) (a1 : (x1 = (x0 + (1 : Int)))) : (x1 ≤ (20 : Int)) := by omega
theorem omg_4571d5925f {x0 : Int} (a0 : (¬ ((20 : Int) ≤ x0))) : (x0 < (20 : Int)) := by omega
theorem omg_1cd550a50b {x0 : Int} {x1 : Int} {x2 : Int} {x3 : Int} (a0 : (((x0 + (46 : Int)) + x1) ≤ x2)) (a1 : (((0 : Int) ≤ x1) ∧ (x1 ≤ (65535 : Int)))) (a2 : (¬ ((20 : Int) ≤ x3))) : (((x0 + (10 : Int)) + x3) < x2) := by omega
theorem omg_adb1c4eb9e {x0 : Int} {x1 : Int} (a0 : ((0 : Int) ≤ x0)) (a1 : ((0 : Int) ≤ x1)) : ((0 : Int) ≤ ((x0 + (10 : Int)) + x1)) := by omega
theorem omg_9d50aebb55 {x0 : Int} {x1 : Int} {x2 : Int} {x3 : Int} {x4 : Int} {x5 : Int} {x6 : Int} {x7 : Int} {x8 : Int} {x9 : Int} {x10 : Int} {x11 : Int} {x12 : Int} {x13 : Int} {x14 : Int} (a0 : (x0 ≤ x1)) (a1 : (((0 : Int) ≤ x2) ∧ (x2 < (4294967296 : Int)))) (a2 : (((0 : Int) ≤ x3) ∧ (x3 ≤ (65535 : Int)))) (a3 : (x4 = x5)) (a4 : (x6 = x3)) (a5 : (x7 = x6)) (a6 : (x8 = (x4 + (30 : Int)))) (a7 : (x9 = x7)) (a8 : (x10 = (x8 + x9))) (a9 : (x11 = x2)) (a10 : (x12 = (x10 + x11))) (a11 : (x13 = x0)) (a12 : (x12 ≤ x13)) (a13 : (¬ ((20 : Int) ≤ x14))) : (((x5 + (8 : Int)) + x14) < x1) := by omega
theorem omg_3f416f8f3f {x0 : Int} {x1 : Int} {x2 : Int} {x3 : Int} (a0 : (((0 : Int) ≤ x0) ∧ (x0 < (4294967296 : Int)))) (a1 : (x1 = x0)) (a2 : (x1 = x2)) (a3 : ((0 : Int) ≤ x3)) : ((0 : Int) ≤ ((x2 + (8 : Int)) + x3)) := by omega
theorem omg_e43539c673 {x0 : Int} {x1 : Int} {x2 : Int} {x3 : Int} {x4 : Int} {x5 : Int} {x6 : Int} {x7 : Int} {x8 : Int} {x9 : Int} {x10 : Int} {x11 : Int} {x12 : Int} {x13 : Int} (a0 : (x0 ≤ x1)) (a1 : (((0 : Int) ≤ x2) ∧ (x2 < (4294967296 : Int)))) (a2 : (((0 : Int) ≤ x3) ∧ (x3 ≤ (65535 : Int)))) (a3 : (x4 = x5)) (a4 : (x6 = x3)) (a5 : (x7 = x6)) (a6 : (x8 = (x4 + (30 : Int)))) (a7 : (x9 = x7)) (a8 : (x10 = (x8 + x9))) (a9 : (x11 = x2)) (a10 : (x12 = (x10 + x11))) (a11 : (x13 = x0)) (a12 : (x12 ≤ x13)) : ((x5 + (((4 : Nat) : Nat) : Int)) ≤ x1) := by omega
theorem omg_2d36acf841 {x0 : Int} {x1 : Int} {x2 : Int} (a0 : (((0 : Int) ≤ x0) ∧ (x0 < (4294967296 : Int)))) (a1 : (x1 = x0)) (a2 : (x1 = x2)) : ((0 : Int) ≤ x2) := by omega
theorem omg_3b13f7bd3e {x0 : Int} {x1 : Int} {x2 : Int} {x3 : Int} {x4 : Int} {x5 : Int} {x6 : Int} {x7 : Int} {x8 : Int} {x9 : Int} {x10 : Int} {x11 : Int} {x12 : Int} (a0 : (x0 = x1)) (a1 : (x2 = x3)) (a2 : (x4 = x2)) (a3 : (x5 = (x0 + (30 : Int)))) (a4 : (x6 = x4)) (a5 : (x7 = (x5 + x6))) (a6 : (x8 = x9)) (a7 : (x10 = (x7 + x8))) (a8 : (x11 = x12)) (a9 : (x10 ≤ x11)) : ((((x1 + (30 : Int)) + x3) + x9) ≤ x12) := by omega
theorem omg_c8ade6339f {x0 : Int} {x1 : Int} (a0 : (x0 = x1)) (a1 : (¬ (x0 = (67324752 : Int)))) (a2 : (x1 = (67324752 : Int))) : False := by omega
theorem omg_2b648986ac {x0 : Int} {x1 : Int} {x2 : Int} {x3 : Int} {x4 : Int} {x5 : Int} {x6 : Int} {x7 : Int} {x8 : Int} {x9 : Int} {x10 : Int} {x11 : Int} {x12 : Int} {x13 : Int} (a0 : (x0 ≤ (20000 : Int))) (a1 : (((0 : Int) ≤ x1) ∧ (x1 < (4294967296 : Int)))) (a2 : (((0 : Int) ≤ x2) ∧ (x2 < (4294967296 : Int)))) (a3 : (((0 : Int) ≤ x3) ∧ (x3 ≤ (65535 : Int)))) (a4 : (x4 = x1)) (a5 : (x5 = x3)) (a6 : (x6 = x5)) (a7 : (x7 = (x4 + (30 : Int)))) (a8 : (x8 = x6)) (a9 : (x9 = (x7 + x8))) (a10 : (x10 = x2)) (a11 : (x11 = (x9 + x10))) (a12 : (x12 = x0)) (a13 : (x11 ≤ x12)) (a14 : (x13 = x4)) : (((-(2147483648 : Int)) ≤ (x13 + (4 : Int))) ∧ ((x13 + (4 : Int)) < (2147483648 : Int))) := by omega
theorem omg_45d65c1e39 {x0 : Int} {x1 : Int} {x2 : Int} {x3 : Int} {x4 : Int} {x5 : Int} {x6 : Int} {x7 : Int} {x8 : Int} {x9 : Int} {x10 : Int} {x11 : Int} {x12 : Int} {x13 : Int} (a0 : (x0 ≤ x1)) (a1 : (((0 : Int) ≤ x2) ∧ (x2 < (4294967296 : Int)))) (a2 : (((0 : Int) ≤ x3) ∧ (x3 ≤ (65535 : Int)))) (a3 : (x4 = x5)) (a4 : (x6 = x3)) (a5 : (x7 = x6)) (a6 : (x8 = (x4 + (30 : Int)))) (a7 : (x9 = x7)) (a8 : (x10 = (x8 + x9))) (a9 : (x11 = x2)) (a10 : (x12 = (x10 + x11))) (a11 : (x13 = x0)) (a12 : (x12 ≤ x13)) : (((x5 + (4 : Int)) + (((4 : Nat) : Nat) : Int)) ≤ x1) := by omega
theorem omg_6dcc1ecac9 {x0 : Int} {x1 : Int} {x2 : Int} (a0 : (((0 : Int) ≤ x0) ∧ (x0 < (4294967296 : Int)))) (a1 : (x1 = x0)) (a2 : (x1 = x2)) : ((0 : Int) ≤ (x2 + (4 : Int))) := by omega
theorem omg_7d5ae569bc {x0 : Int} {x1 : Int} {x2 : Int} {x3 : Int} (a0 : (x0 = x1)) (a1 : (x2 = x0)) (a2 : (x3 = (x2 + (4 : Int)))) : (x3 = (x1 + (4 : Int))) := by omega
theorem omg_89f38567c9 {x0 : Int} {x1 : Int} {x2 : Int} {x3 : Int} {x4 : Int} {x5 : Int} {x6 : Int} {x7 : Int} {x8 : Int} {x9 : Int} {x10 : Int} {x11 : Int} {x12 : Int} {x13 : Int} (a0 : (x0 ≤ (20000 : Int))) (a1 : (((0 : Int) ≤ x1) ∧ (x1 < (4294967296 : Int)))) (a2 : (((0 : Int) ≤ x2) ∧ (x2 < (4294967296 : Int)))) (a3 : (((0 : Int) ≤ x3) ∧ (x3 ≤ (65535 : Int)))) (a4 : (x4 = x1)) (a5 : (x5 = x3)) (a6 : (x6 = x5)) (a7 : (x7 = (x4 + (30 : Int)))) (a8 : (x8 = x6)) (a9 : (x9 = (x7 + x8))) (a10 : (x10 = x2)) (a11 : (x11 = (x9 + x10))) (a12 : (x12 = x0)) (a13 : (x11 ≤ x12)) (a14 : (x13 = x4)) : (((-(2147483648 : Int)) ≤ (x13 + (28 : Int))) ∧ ((x13 + (28 : Int)) < (2147483648 : Int))) := by omega
theorem omg_f87dae16f4 {x0 : Int} {x1 : Int} {x2 : Int} {x3 : Int} {x4 : Int} {x5 : Int} {x6 : Int} {x7 : Int} {x8 : Int} {x9 : Int} {x10 : Int} {x11 : Int} {x12 : Int} {x13 : Int} (a0 : (x0 ≤ x1)) (a1 : (((0 : Int) ≤ x2) ∧ (x2 < (4294967296 : Int)))) (a2 : (((0 : Int) ≤ x3) ∧ (x3 ≤ (65535 : Int)))) (a3 : (x4 = x5)) (a4 : (x6 = x3)) (a5 : (x7 = x6)) (a6 : (x8 = (x4 + (30 : Int)))) (a7 : (x9 = x7)) (a8 : (x10 = (x8 + x9))) (a9 : (x11 = x2)) (a10 : (x12 = (x10 + x11))) (a11 : (x13 = x0)) (a12 : (x12 ≤ x13)) : (((x5 + (28 : Int)) + (((2 : Nat) : Nat) : Int)) ≤ x1) := by omega
theorem omg_33aafddf24 {x0 : Int} {x1 : Int} {x2 : Int} (a0 : (((0 : Int) ≤ x0) ∧ (x0 < (4294967296 : Int)))) (a1 : (x1 = x0)) (a2 : (x1 = x2)) : ((0 : Int) ≤ (x2 + (28 : Int))) := by omega
theorem omg_b41b977653 {x0 : Int} {x1 : Int} {x2 : Int} {x3 : Int} (a0 : (x0 = x1)) (a1 : (x2 = x0)) (a2 : (x3 = (x2 + (28 : Int)))) : (x3 = (x1 + (28 : Int))) := by omega
theorem d_Mod_isRecord_0 : decode prog_12_method_56_code 0 = .ok (.aload_n 0, 1) := by decide +kernel
theorem d_Mod_isRecord_1 : decode prog_12_method_56_code 1 = .ok (.iload_n 1, 1) := by decide +kernel
theorem d_Mod_isRecord_2 : decode prog_12_method_56_code 2 = .ok (.bipush 42, 2) := by decide +kernel
theorem d_Mod_isRecord_4 : decode prog_12_method_56_code 4 = .ok (.iadd, 1) := by decide +kernel
theorem d_Mod_isRecord_5 : decode prog_12_method_56_code 5 = .ok (.iconst 4, 1) := by decide +kernel
theorem d_Mod_isRecord_6 : decode prog_12_method_56_code 6 = .ok (.invokevirtual 299, 3) := by decide +kernel
theorem d_Mod_isRecord_9 : decode prog_12_method_56_code 9 = .ok (.lstore_n 3, 1) := by decide +kernel
theorem d_Mod_isRecord_10 : decode prog_12_method_56_code 10 = .ok (.aload_n 0, 1) := by decide +kernel
theorem d_Mod_isRecord_11 : decode prog_12_method_56_code 11 = .ok (.iload_n 1, 1) := by decide +kernel
theorem d_Mod_isRecord_12 : decode prog_12_method_56_code 12 = .ok (.bipush 28, 2) := by decide +kernel
theorem d_Mod_isRecord_14 : decode prog_12_method_56_code 14 = .ok (.iadd, 1) := by decide +kernel
theorem d_Mod_isRecord_15 : decode prog_12_method_56_code 15 = .ok (.iconst 2, 1) := by decide +kernel
theorem d_Mod_isRecord_16 : decode prog_12_method_56_code 16 = .ok (.invokevirtual 299, 3) := by decide +kernel
theorem d_Mod_isRecord_19 : decode prog_12_method_56_code 19 = .ok (.l2i, 1) := by decide +kernel
theorem d_Mod_isRecord_20 : decode prog_12_method_56_code 20 = .ok (.istore 5, 2) := by decide +kernel
theorem d_Mod_isRecord_22 : decode prog_12_method_56_code 22 = .ok (.lload_n 3, 1) := by decide +kernel
theorem d_Mod_isRecord_23 : decode prog_12_method_56_code 23 = .ok (.ldc2_w 307, 3) := by decide +kernel
theorem k_1537 : (Jvm.Cond.constantLong "PackageBookModel" (307 : Nat) (30 : Int64)) ∈ uW := uW_c5 220 rfl (by decide +kernel)
theorem d_Mod_isRecord_26 : decode prog_12_method_56_code 26 = .ok (.ladd, 1) := by decide +kernel
theorem d_Mod_isRecord_27 : decode prog_12_method_56_code 27 = .ok (.iload 5, 2) := by decide +kernel
theorem d_Mod_isRecord_29 : decode prog_12_method_56_code 29 = .ok (.i2l, 1) := by decide +kernel
theorem d_Mod_isRecord_30 : decode prog_12_method_56_code 30 = .ok (.ladd, 1) := by decide +kernel
theorem d_Mod_isRecord_31 : decode prog_12_method_56_code 31 = .ok (.aload_n 0, 1) := by decide +kernel
theorem d_Mod_isRecord_32 : decode prog_12_method_56_code 32 = .ok (.iload_n 1, 1) := by decide +kernel
theorem d_Mod_isRecord_33 : decode prog_12_method_56_code 33 = .ok (.bipush 20, 2) := by decide +kernel
theorem d_Mod_isRecord_35 : decode prog_12_method_56_code 35 = .ok (.iadd, 1) := by decide +kernel
theorem d_Mod_isRecord_36 : decode prog_12_method_56_code 36 = .ok (.iconst 4, 1) := by decide +kernel
theorem d_Mod_isRecord_37 : decode prog_12_method_56_code 37 = .ok (.invokevirtual 299, 3) := by decide +kernel
theorem d_Mod_isRecord_40 : decode prog_12_method_56_code 40 = .ok (.ladd, 1) := by decide +kernel
theorem d_Mod_isRecord_41 : decode prog_12_method_56_code 41 = .ok (.iload_n 2, 1) := by decide +kernel
theorem d_Mod_isRecord_42 : decode prog_12_method_56_code 42 = .ok (.i2l, 1) := by decide +kernel
theorem d_Mod_isRecord_43 : decode prog_12_method_56_code 43 = .ok (.lcmp, 1) := by decide +kernel
theorem d_Mod_isRecord_44 : decode prog_12_method_56_code 44 = .ok (.ifCond .le 5, 3) := by decide +kernel
theorem d_Mod_isRecord_49 : decode prog_12_method_56_code 49 = .ok (.lload_n 3, 1) := by decide +kernel
theorem d_Mod_isRecord_50 : decode prog_12_method_56_code 50 = .ok (.l2i, 1) := by decide +kernel
theorem d_Mod_isRecord_51 : decode prog_12_method_56_code 51 = .ok (.istore 6, 2) := by decide +kernel
theorem d_Mod_isRecord_105 : decode prog_12_method_56_code 105 = .ok (.iconst 0, 1) := by decide +kernel
theorem d_Mod_isRecord_106 : decode prog_12_method_56_code 106 = .ok (.istore 8, 2) := by decide +kernel
theorem d_Mod_isRecord_108 : decode prog_12_method_56_code 108 = .ok (.iload 8, 2) := by decide +kernel
theorem d_Mod_isRecord_110 : decode prog_12_method_56_code 110 = .ok (.bipush 20, 2) := by decide +kernel
theorem d_Mod_isRecord_112 : decode prog_12_method_56_code 112 = .ok (.if_icmp .ge 49, 3) := by decide +kernel
theorem d_Mod_isRecord_161 : decode prog_12_method_56_code 161 = .ok (.iconst 0, 1) := by decide +kernel
theorem d_Mod_isRecord_162 : decode prog_12_method_56_code 162 = .ok (.istore 8, 2) := by decide +kernel
theorem d_Mod_isRecord_164 : decode prog_12_method_56_code 164 = .ok (.iload 8, 2) := by decide +kernel
theorem d_Mod_isRecord_166 : decode prog_12_method_56_code 166 = .ok (.iload 5, 2) := by decide +kernel
theorem d_Mod_isRecord_168 : decode prog_12_method_56_code 168 = .ok (.if_icmp .ge 49, 3) := by decide +kernel
theorem d_Mod_isRecord_217 : decode prog_12_method_56_code 217 = .ok (.iload 7, 2) := by decide +kernel
theorem d_Mod_isRecord_219 : decode prog_12_method_56_code 219 = .ok (.ireturn, 1) := by decide +kernel
theorem d_Mod_isRecord_171 : decode prog_12_method_56_code 171 = .ok (.iload 7, 2) := by decide +kernel
theorem d_Mod_isRecord_173 : decode prog_12_method_56_code 173 = .ok (.ifCond .eq 44, 3) := by decide +kernel
theorem d_Mod_isRecord_176 : decode prog_12_method_56_code 176 = .ok (.aload_n 0, 1) := by decide +kernel
theorem d_Mod_isRecord_177 : decode prog_12_method_56_code 177 = .ok (.getfield 66, 3) := by decide +kernel
theorem d_Mod_isRecord_180 : decode prog_12_method_56_code 180 = .ok (.iload 6, 2) := by decide +kernel
theorem d_Mod_isRecord_182 : decode prog_12_method_56_code 182 = .ok (.bipush 30, 2) := by decide +kernel
theorem d_Mod_isRecord_184 : decode prog_12_method_56_code 184 = .ok (.iadd, 1) := by decide +kernel
theorem d_Mod_isRecord_185 : decode prog_12_method_56_code 185 = .ok (.iload 8, 2) := by decide +kernel
theorem d_Mod_isRecord_187 : decode prog_12_method_56_code 187 = .ok (.iadd, 1) := by decide +kernel
theorem d_Mod_isRecord_188 : decode prog_12_method_56_code 188 = .ok (.baload, 1) := by decide +kernel
theorem d_Mod_isRecord_189 : decode prog_12_method_56_code 189 = .ok (.aload_n 0, 1) := by decide +kernel
theorem d_Mod_isRecord_190 : decode prog_12_method_56_code 190 = .ok (.getfield 66, 3) := by decide +kernel
theorem d_Mod_isRecord_193 : decode prog_12_method_56_code 193 = .ok (.iload_n 1, 1) := by decide +kernel
theorem d_Mod_isRecord_194 : decode prog_12_method_56_code 194 = .ok (.bipush 46, 2) := by decide +kernel
theorem d_Mod_isRecord_196 : decode prog_12_method_56_code 196 = .ok (.iadd, 1) := by decide +kernel
theorem d_Mod_isRecord_197 : decode prog_12_method_56_code 197 = .ok (.iload 8, 2) := by decide +kernel
theorem d_Mod_isRecord_199 : decode prog_12_method_56_code 199 = .ok (.iadd, 1) := by decide +kernel
theorem d_Mod_isRecord_200 : decode prog_12_method_56_code 200 = .ok (.baload, 1) := by decide +kernel
theorem d_Mod_isRecord_201 : decode prog_12_method_56_code 201 = .ok (.if_icmp .ne 7, 3) := by decide +kernel
theorem d_Mod_isRecord_208 : decode prog_12_method_56_code 208 = .ok (.iconst 0, 1) := by decide +kernel
theorem d_Mod_isRecord_209 : decode prog_12_method_56_code 209 = .ok (.istore 7, 2) := by decide +kernel
theorem d_Mod_isRecord_211 : decode prog_12_method_56_code 211 = .ok (.iinc 8 1, 3) := by decide +kernel
theorem d_Mod_isRecord_214 : decode prog_12_method_56_code 214 = .ok (.goto (-50), 3) := by decide +kernel
theorem d_Mod_isRecord_204 : decode prog_12_method_56_code 204 = .ok (.iconst 1, 1) := by decide +kernel
theorem d_Mod_isRecord_205 : decode prog_12_method_56_code 205 = .ok (.goto 4, 3) := by decide +kernel
theorem d_Mod_isRecord_115 : decode prog_12_method_56_code 115 = .ok (.iload 7, 2) := by decide +kernel
theorem d_Mod_isRecord_117 : decode prog_12_method_56_code 117 = .ok (.ifCond .eq 44, 3) := by decide +kernel
theorem d_Mod_isRecord_120 : decode prog_12_method_56_code 120 = .ok (.aload_n 0, 1) := by decide +kernel
theorem d_Mod_isRecord_121 : decode prog_12_method_56_code 121 = .ok (.getfield 66, 3) := by decide +kernel
theorem d_Mod_isRecord_124 : decode prog_12_method_56_code 124 = .ok (.iload 6, 2) := by decide +kernel
theorem d_Mod_isRecord_126 : decode prog_12_method_56_code 126 = .ok (.bipush 8, 2) := by decide +kernel
theorem d_Mod_isRecord_128 : decode prog_12_method_56_code 128 = .ok (.iadd, 1) := by decide +kernel
theorem d_Mod_isRecord_129 : decode prog_12_method_56_code 129 = .ok (.iload 8, 2) := by decide +kernel
theorem d_Mod_isRecord_131 : decode prog_12_method_56_code 131 = .ok (.iadd, 1) := by decide +kernel
theorem d_Mod_isRecord_132 : decode prog_12_method_56_code 132 = .ok (.baload, 1) := by decide +kernel
theorem d_Mod_isRecord_133 : decode prog_12_method_56_code 133 = .ok (.aload_n 0, 1) := by decide +kernel
theorem d_Mod_isRecord_134 : decode prog_12_method_56_code 134 = .ok (.getfield 66, 3) := by decide +kernel
theorem d_Mod_isRecord_137 : decode prog_12_method_56_code 137 = .ok (.iload_n 1, 1) := by decide +kernel
theorem d_Mod_isRecord_138 : decode prog_12_method_56_code 138 = .ok (.bipush 10, 2) := by decide +kernel
theorem d_Mod_isRecord_140 : decode prog_12_method_56_code 140 = .ok (.iadd, 1) := by decide +kernel
theorem d_Mod_isRecord_141 : decode prog_12_method_56_code 141 = .ok (.iload 8, 2) := by decide +kernel
theorem d_Mod_isRecord_143 : decode prog_12_method_56_code 143 = .ok (.iadd, 1) := by decide +kernel
theorem d_Mod_isRecord_144 : decode prog_12_method_56_code 144 = .ok (.baload, 1) := by decide +kernel
theorem d_Mod_isRecord_145 : decode prog_12_method_56_code 145 = .ok (.if_icmp .ne 7, 3) := by decide +kernel
theorem d_Mod_isRecord_152 : decode prog_12_method_56_code 152 = .ok (.iconst 0, 1) := by decide +kernel
theorem d_Mod_isRecord_153 : decode prog_12_method_56_code 153 = .ok (.istore 7, 2) := by decide +kernel
theorem d_Mod_isRecord_155 : decode prog_12_method_56_code 155 = .ok (.iinc 8 1, 3) := by decide +kernel
theorem d_Mod_isRecord_158 : decode prog_12_method_56_code 158 = .ok (.goto (-50), 3) := by decide +kernel
theorem d_Mod_isRecord_148 : decode prog_12_method_56_code 148 = .ok (.iconst 1, 1) := by decide +kernel
theorem d_Mod_isRecord_149 : decode prog_12_method_56_code 149 = .ok (.goto 4, 3) := by decide +kernel
theorem d_Mod_isRecord_53 : decode prog_12_method_56_code 53 = .ok (.aload_n 0, 1) := by decide +kernel
theorem d_Mod_isRecord_54 : decode prog_12_method_56_code 54 = .ok (.iload 6, 2) := by decide +kernel
theorem d_Mod_isRecord_56 : decode prog_12_method_56_code 56 = .ok (.iconst 4, 1) := by decide +kernel
theorem d_Mod_isRecord_57 : decode prog_12_method_56_code 57 = .ok (.invokevirtual 299, 3) := by decide +kernel
theorem d_Mod_isRecord_60 : decode prog_12_method_56_code 60 = .ok (.ldc2_w 275, 3) := by decide +kernel
theorem d_Mod_isRecord_63 : decode prog_12_method_56_code 63 = .ok (.lcmp, 1) := by decide +kernel
theorem d_Mod_isRecord_64 : decode prog_12_method_56_code 64 = .ok (.ifCond .ne 38, 3) := by decide +kernel
theorem d_Mod_isRecord_102 : decode prog_12_method_56_code 102 = .ok (.iconst 0, 1) := by decide +kernel
theorem d_Mod_isRecord_103 : decode prog_12_method_56_code 103 = .ok (.istore 7, 2) := by decide +kernel
theorem d_Mod_isRecord_67 : decode prog_12_method_56_code 67 = .ok (.aload_n 0, 1) := by decide +kernel
theorem d_Mod_isRecord_68 : decode prog_12_method_56_code 68 = .ok (.iload 6, 2) := by decide +kernel
theorem d_Mod_isRecord_70 : decode prog_12_method_56_code 70 = .ok (.iconst 4, 1) := by decide +kernel
theorem d_Mod_isRecord_71 : decode prog_12_method_56_code 71 = .ok (.iadd, 1) := by decide +kernel
theorem d_Mod_isRecord_72 : decode prog_12_method_56_code 72 = .ok (.iconst 4, 1) := by decide +kernel
theorem d_Mod_isRecord_73 : decode prog_12_method_56_code 73 = .ok (.invokevirtual 299, 3) := by decide +kernel
theorem d_Mod_isRecord_76 : decode prog_12_method_56_code 76 = .ok (.ldc2_w 281, 3) := by decide +kernel
theorem d_Mod_isRecord_79 : decode prog_12_method_56_code 79 = .ok (.lcmp, 1) := by decide +kernel
theorem d_Mod_isRecord_80 : decode prog_12_method_56_code 80 = .ok (.ifCond .ne 22, 3) := by decide +kernel
theorem d_Mod_isRecord_83 : decode prog_12_method_56_code 83 = .ok (.aload_n 0, 1) := by decide +kernel
theorem d_Mod_isRecord_84 : decode prog_12_method_56_code 84 = .ok (.iload 6, 2) := by decide +kernel
theorem d_Mod_isRecord_86 : decode prog_12_method_56_code 86 = .ok (.bipush 28, 2) := by decide +kernel
theorem d_Mod_isRecord_88 : decode prog_12_method_56_code 88 = .ok (.iadd, 1) := by decide +kernel
theorem d_Mod_isRecord_89 : decode prog_12_method_56_code 89 = .ok (.iconst 2, 1) := by decide +kernel
theorem d_Mod_isRecord_90 : decode prog_12_method_56_code 90 = .ok (.invokevirtual 299, 3) := by decide +kernel
theorem d_Mod_isRecord_93 : decode prog_12_method_56_code 93 = .ok (.lconst 0, 1) := by decide +kernel
theorem d_Mod_isRecord_94 : decode prog_12_method_56_code 94 = .ok (.lcmp, 1) := by decide +kernel
theorem d_Mod_isRecord_95 : decode prog_12_method_56_code 95 = .ok (.ifCond .ne 7, 3) := by decide +kernel
theorem d_Mod_isRecord_98 : decode prog_12_method_56_code 98 = .ok (.iconst 1, 1) := by decide +kernel
theorem d_Mod_isRecord_99 : decode prog_12_method_56_code 99 = .ok (.goto 4, 3) := by decide +kernel
theorem d_Mod_isRecord_47 : decode prog_12_method_56_code 47 = .ok (.iconst 0, 1) := by decide +kernel
theorem d_Mod_isRecord_48 : decode prog_12_method_56_code 48 = .ok (.ireturn, 1) := by decide +kernel
abbrev y_Mod_isRecord : MethodName := ⟨"PackageBookModel", "isRecord", "(II)Z"⟩
abbrev i_Mod_isRecord : pb_I := (y_Mod_isRecord, prog_12_method_56_code, 9, (some Jvm.ClassFile.FieldType.boolean), [], { frames := 1, cells := 0, slots := 0, locals := 25 })
set_option maxRecDepth 100000 in
set_option maxHeartbeats 4000000 in
theorem g_Mod_isRecord {l : Launch} (hl : l.stackTraces = false) (G : pb_G) (h : Nat) (m_rels : Nat) (m_openRels : Nat) (m_closeRels : Nat) (m_openRel : Nat) (m_closeRel : Nat) (m_comment : Nat) (m_ends : Nat) (m_order : Nat) (m_tape : Nat) (m_count : Nat) (m_nameSize : Nat) (m_names : Nat) (m_size : Nat) (m_data : Nat) (m_looked : Nat) (m_file : Nat) (m_directory : Nat) (m_out : Nat) (m_row : Nat) (m_made : Nat) (m_length : Nat) (m_pressed : Nat) (m_mark : Nat) (m_idSize : Nat) (m_ids : Nat) (m_goalSize : Nat) (m_goals : Nat) (m_value : Nat) (m_faults : Nat) (m_reached : Nat) (v_thrown : Int32) (v_taped : Int32) (v_lookedSize : Int32) (v_fileSize : Int32) (v_directorySize : Int32) (v_outSize : Int32) (v_rowSize : Int32) (v_bitAt : Int32) (v_bitEnd : Int32) (v_why : Int32) (v_madeSize : Int32) (v_firstCount : Int32) (v_secondCount : Int32) (v_heldBits : Int32) (v_heldCount : Int32) (v_pressedSize : Int32) (v_at : Int32) (v_bad : Int32) (v_markSize : Int32) (v_relationCount : Int32) (v_valueSize : Int32) (v_faultCount : Int32) (a_row : Nat → Int32) (e : Int32) (bg : Int32) (A : Int → Int32) (h0 : 0 ≤ e.toInt) (h1 : e.toInt + 46 + av a_row (e.toInt + 28) 2 ≤ 20000) (h2 : bg.toInt ≤ 20000) (hA : ∀ j : Int, 0 ≤ j → j < v_rowSize.toInt → A j = gr a_row j) (hB : ∀ j : Int, -128 ≤ (A j).toInt ∧ (A j).toInt ≤ 127) (hy5 : ey_ A e.toInt) (hZ : e.toInt + 46 + aw A (e.toInt + 28) 2 ≤ v_rowSize.toInt) (hZ2 : bg.toInt ≤ v_rowSize.toInt) (F_a_row : sb_Fit a_row) : Cn l G i_Mod_isRecord [.ref h, .int e, .int bg] [(h, .inr (10, [.ref m_rels, .ref m_openRels, .ref m_closeRels, .ref m_openRel, .ref m_closeRel, .ref m_comment, .ref m_ends, .ref m_order, .int v_thrown, .int v_taped, .ref m_tape, .ref m_count, .ref m_nameSize, .ref m_names, .ref m_size, .ref m_data, .int v_lookedSize, .ref m_looked, .int v_fileSize, .ref m_file, .int v_directorySize, .ref m_directory, .int v_outSize, .ref m_out, .int v_rowSize, .ref m_row, .int v_bitAt, .int v_bitEnd, .int v_why, .int v_madeSize, .ref m_made, .ref m_length, .int v_firstCount, .int v_secondCount, .int v_heldBits, .int v_heldCount, .int v_pressedSize, .ref m_pressed, .int v_at, .int v_bad, .int v_markSize, .ref m_mark, .int v_relationCount, .ref m_idSize, .ref m_ids, .ref m_goalSize, .ref m_goals, .int v_valueSize, .ref m_value, .int v_faultCount, .ref m_faults, .ref m_reached])), (m_row, .inl (G.2.1, 20000, .inl a_row))] (S := Int32) (fun rv_ u => rv_ = some (.int u) ∧ (u.toInt = 0 ∨ u.toInt = 1) ∧ (u.toInt = 1 → av a_row (e.toInt + 42) 4 + 30 + av a_row (e.toInt + 28) 2 + av a_row (e.toInt + 20) 4 ≤ bg.toInt) ∧ (u.toInt = 1 → rr_ A bg.toInt e.toInt) ∧ (u.toInt = 0 → ¬ rr_ A bg.toInt e.toInt)) (fun u => [(h, .inr (10, [.ref m_rels, .ref m_openRels, .ref m_closeRels, .ref m_openRel, .ref m_closeRel, .ref m_comment, .ref m_ends, .ref m_order, .int v_thrown, .int v_taped, .ref m_tape, .ref m_count, .ref m_nameSize, .ref m_names, .ref m_size, .ref m_data, .int v_lookedSize, .ref m_looked, .int v_fileSize, .ref m_file, .int v_directorySize, .ref m_directory, .int v_outSize, .ref m_out, .int v_rowSize, .ref m_row, .int v_bitAt, .int v_bitEnd, .int v_why, .int v_madeSize, .ref m_made, .ref m_length, .int v_firstCount, .int v_secondCount, .int v_heldBits, .int v_heldCount, .int v_pressedSize, .ref m_pressed, .int v_at, .int v_bad, .int v_markSize, .ref m_mark, .int v_relationCount, .ref m_idSize, .ref m_ids, .ref m_goalSize, .ref m_goals, .int v_valueSize, .ref m_value, .int v_faultCount, .ref m_faults, .ref m_reached])), (m_row, .inl (G.2.1, 20000, .inl a_row))]) := by
  refine Cn.of hl (by decide +kernel) rfl (Nat.le_of_ble_eq_true rfl) (fun M hQ => ?_)
  refine pb_eq (pc' := 0) (lo' := [(0, .ref h), (1, .int e), (2, .int bg)]) (rest' := []) (ws' := [(h, .inr (10, [.ref m_rels, .ref m_openRels, .ref m_closeRels, .ref m_openRel, .ref m_closeRel, .ref m_comment, .ref m_ends, .ref m_order, .int v_thrown, .int v_taped, .ref m_tape, .ref m_count, .ref m_nameSize, .ref m_names, .ref m_size, .ref m_data, .int v_lookedSize, .ref m_looked, .int v_fileSize, .ref m_file, .int v_directorySize, .ref m_directory, .int v_outSize, .ref m_out, .int v_rowSize, .ref m_row, .int v_bitAt, .int v_bitEnd, .int v_why, .int v_madeSize, .ref m_made, .ref m_length, .int v_firstCount, .int v_secondCount, .int v_heldBits, .int v_heldCount, .int v_pressedSize, .ref m_pressed, .int v_at, .int v_bad, .int v_markSize, .ref m_mark, .int v_relationCount, .ref m_idSize, .ref m_ids, .ref m_goalSize, .ref m_goals, .int v_valueSize, .ref m_value, .int v_faultCount, .ref m_faults, .ref m_reached])), (m_row, .inl (G.2.1, 20000, .inl a_row))]) ?_
  have zl0 : (0 : Int32).toInt = 0 := by decide
  have zl1 : (1 : Int32).toInt = 1 := by decide
  have zl2 : (2 : Int32).toInt = 2 := by decide
  have zl4 : (4 : Int32).toInt = 4 := by decide
  have n4 : (4 : Int32).toInt.toNat = 4 := by decide
  have n2 : (2 : Int32).toInt.toNat = 2 := by decide
  have v1 := av2 a_row (e.toInt + 28)
  have v2 := av4 a_row (e.toInt + 42)
  have v3 := av4 a_row (e.toInt + 20)
  have v4 := aw2 A (e.toInt + 28)
  have v5 := aw4 A (e.toInt + 42)
  have v6 := aw4 A (e.toInt + 20)
  refine pb_aload_n (pc := 0) d_Mod_isRecord_0 0 rfl rfl ?_
  refine pb_iload_n (pc := 1) d_Mod_isRecord_1 1 rfl rfl ?_
  refine pb_bipush (pc := 2) (v := 42) d_Mod_isRecord_2 (by decide) ?_
  refine pb_iadd (pc := 4) d_Mod_isRecord_4 ?_
  refine pb_topi (fun ix1 eix1 => ?_)
  try have tix1 : ix1.toInt = e.toInt + 42 := t2_add eix1 rfl (by decide) (by omega)
  refine pb_iconst (pc := 5) (v := 4) d_Mod_isRecord_5 (by decide) ?_
  refine pb_callV (pc := 6) (I := i_Mod_isRecord) (qb := 0) (ci := 10) (nA := 2) (rest := []) (wr := []) d_Mod_isRecord_6 (g_Mod_at hl G h m_rels m_openRels m_closeRels m_openRel m_closeRel m_comment m_ends m_order m_tape m_count m_nameSize m_names m_size m_data m_looked m_file m_directory m_out m_row m_made m_length m_pressed m_mark m_idSize m_ids m_goalSize m_goals m_value m_faults m_reached v_thrown v_taped v_lookedSize v_fileSize v_directorySize v_outSize v_rowSize v_bitAt v_bitEnd v_why v_madeSize v_firstCount v_secondCount v_heldBits v_heldCount v_pressedSize v_at v_bad v_markSize v_relationCount v_valueSize v_faultCount a_row ix1 4 (by first | (with_reducible assumption) | omega (splitDisjunctions := false) | assumption | omega | decide) (by first | (with_reducible assumption) | omega (splitDisjunctions := false) | assumption | omega | decide) (by first | (with_reducible assumption) | omega (splitDisjunctions := false) | assumption | omega | decide) (by first | (with_reducible assumption) | omega (splitDisjunctions := false) | assumption | omega | decide) F_a_row) rfl rfl [0, 1] [] (by decide) rfl rfl rfl (by decide) (by decide) k_1525 rfl k_128 k_1522 k_1524 k_88 ⟨rfl, hy_Mod_at⟩ (by decide) rfl rfl (Nat.le_of_ble_eq_true rfl) (by decide) (fun v9 ux3 ch2 => ?_)
  obtain ⟨r_4, rfl⟩ : ∃ z9, z9 = ux3 := ⟨_, rfl⟩
  obtain ⟨ech2, ch2⟩ := ch2
  have ech2 : v9 = some (.long r_4) := ech2
  subst ech2
  obtain ⟨fh5, fh6, fh7⟩ : (r_4.toInt = av a_row ix1.toInt (4 : Int32).toInt.toNat) ∧ (0 ≤ r_4.toInt) ∧ (r_4.toInt < 4294967296) := ch2
  have u42 : r_4.toInt = aw A (e.toInt + 42) 4 := by rw [fh5, n4, show ix1.toInt = e.toInt + 42 by omega]; exact av_A hA 4 (by omega) (by omega)
  rw [n4, show ix1.toInt = e.toInt + 42 by omega] at fh5
  refine pb_eq (pc' := 9) (lo' := [(0, .ref h), (1, .int e), (2, .int bg)]) (rest' := [.long r_4]) (ws' := [(h, .inr (10, [.ref m_rels, .ref m_openRels, .ref m_closeRels, .ref m_openRel, .ref m_closeRel, .ref m_comment, .ref m_ends, .ref m_order, .int v_thrown, .int v_taped, .ref m_tape, .ref m_count, .ref m_nameSize, .ref m_names, .ref m_size, .ref m_data, .int v_lookedSize, .ref m_looked, .int v_fileSize, .ref m_file, .int v_directorySize, .ref m_directory, .int v_outSize, .ref m_out, .int v_rowSize, .ref m_row, .int v_bitAt, .int v_bitEnd, .int v_why, .int v_madeSize, .ref m_made, .ref m_length, .int v_firstCount, .int v_secondCount, .int v_heldBits, .int v_heldCount, .int v_pressedSize, .ref m_pressed, .int v_at, .int v_bad, .int v_markSize, .ref m_mark, .int v_relationCount, .ref m_idSize, .ref m_ids, .ref m_goalSize, .ref m_goals, .int v_valueSize, .ref m_value, .int v_faultCount, .ref m_faults, .ref m_reached])), (m_row, .inl (G.2.1, 20000, .inl a_row))]) ?_
  refine pb_lstore_n (pc := 9) (lo' := [(3, .long r_4), (0, .ref h), (1, .int e), (2, .int bg)]) d_Mod_isRecord_9 rfl (by decide) rfl ?_
  refine pb_aload_n (pc := 10) d_Mod_isRecord_10 1 rfl rfl ?_
  refine pb_iload_n (pc := 11) d_Mod_isRecord_11 2 rfl rfl ?_
  refine pb_bipush (pc := 12) (v := 28) d_Mod_isRecord_12 (by decide) ?_
  refine pb_iadd (pc := 14) d_Mod_isRecord_14 ?_
  refine pb_topi (fun ix8 eix8 => ?_)
  try have tix8 : ix8.toInt = e.toInt + 28 := t2_add eix8 rfl (by decide) (by omega)
  refine pb_iconst (pc := 15) (v := 2) d_Mod_isRecord_15 (by decide) ?_
  refine pb_callV (pc := 16) (I := i_Mod_isRecord) (qb := 0) (ci := 10) (nA := 2) (rest := []) (wr := []) d_Mod_isRecord_16 (g_Mod_at hl G h m_rels m_openRels m_closeRels m_openRel m_closeRel m_comment m_ends m_order m_tape m_count m_nameSize m_names m_size m_data m_looked m_file m_directory m_out m_row m_made m_length m_pressed m_mark m_idSize m_ids m_goalSize m_goals m_value m_faults m_reached v_thrown v_taped v_lookedSize v_fileSize v_directorySize v_outSize v_rowSize v_bitAt v_bitEnd v_why v_madeSize v_firstCount v_secondCount v_heldBits v_heldCount v_pressedSize v_at v_bad v_markSize v_relationCount v_valueSize v_faultCount a_row ix8 2 (by first | (with_reducible assumption) | omega (splitDisjunctions := false) | assumption | omega | decide) (by first | (with_reducible assumption) | omega (splitDisjunctions := false) | assumption | omega | decide) (by first | (with_reducible assumption) | omega (splitDisjunctions := false) | assumption | omega | decide) (by first | (with_reducible assumption) | omega (splitDisjunctions := false) | assumption | omega | decide) F_a_row) rfl rfl [0, 1] [] (by decide) rfl rfl rfl (by decide) (by decide) k_1525 rfl k_128 k_1522 k_1524 k_88 ⟨rfl, hy_Mod_at⟩ (by decide) rfl rfl (Nat.le_of_ble_eq_true rfl) (by decide) (fun v9 ux10 ch9 => ?_)
  obtain ⟨r_11, rfl⟩ : ∃ z9, z9 = ux10 := ⟨_, rfl⟩
  obtain ⟨ech9, ch9⟩ := ch9
  have ech9 : v9 = some (.long r_11) := ech9
  subst ech9
  obtain ⟨fh12, fh13, fh14⟩ : (r_11.toInt = av a_row ix8.toInt (2 : Int32).toInt.toNat) ∧ (0 ≤ r_11.toInt) ∧ (r_11.toInt < 4294967296) := ch9
  have u28 : r_11.toInt = aw A (e.toInt + 28) 2 := by rw [fh12, n2, show ix8.toInt = e.toInt + 28 by omega]; exact av_A hA 2 (by omega) (by omega)
  rw [n2, show ix8.toInt = e.toInt + 28 by omega] at fh12
  refine pb_eq (pc' := 19) (lo' := [(3, .long r_4), (0, .ref h), (1, .int e), (2, .int bg)]) (rest' := [.long r_11]) (ws' := [(h, .inr (10, [.ref m_rels, .ref m_openRels, .ref m_closeRels, .ref m_openRel, .ref m_closeRel, .ref m_comment, .ref m_ends, .ref m_order, .int v_thrown, .int v_taped, .ref m_tape, .ref m_count, .ref m_nameSize, .ref m_names, .ref m_size, .ref m_data, .int v_lookedSize, .ref m_looked, .int v_fileSize, .ref m_file, .int v_directorySize, .ref m_directory, .int v_outSize, .ref m_out, .int v_rowSize, .ref m_row, .int v_bitAt, .int v_bitEnd, .int v_why, .int v_madeSize, .ref m_made, .ref m_length, .int v_firstCount, .int v_secondCount, .int v_heldBits, .int v_heldCount, .int v_pressedSize, .ref m_pressed, .int v_at, .int v_bad, .int v_markSize, .ref m_mark, .int v_relationCount, .ref m_idSize, .ref m_ids, .ref m_goalSize, .ref m_goals, .int v_valueSize, .ref m_value, .int v_faultCount, .ref m_faults, .ref m_reached])), (m_row, .inl (G.2.1, 20000, .inl a_row))]) ?_
  refine pb_l2i (pc := 19) d_Mod_isRecord_19 rfl ?_
  refine pb_topi (fun ix15 eix15 => ?_)
  try have tix15 : ix15.toInt = r_11.toInt := ti_l2i eix15 rfl (by omega) (by omega)
  refine pb_istore (pc := 20) (lo' := [(5, .int ix15), (3, .long r_4), (0, .ref h), (1, .int e), (2, .int bg)]) d_Mod_isRecord_20 (by decide) rfl ?_
  refine pb_lload_n (pc := 22) d_Mod_isRecord_22 1 rfl rfl ?_
  refine pb_ldc2 (pc := 23) (v := 30) d_Mod_isRecord_23 k_1537 ?_
  refine pb_ladd (pc := 26) d_Mod_isRecord_26 ?_
  refine pb_topl (fun jx16 ejx16 => ?_)
  try have tjx16 : jx16.toInt = r_4.toInt + 30 := tl_add ejx16 rfl (by decide) (by omega) (by omega)
  refine pb_iload (pc := 27) d_Mod_isRecord_27 0 rfl ?_
  refine pb_i2l (pc := 29) d_Mod_isRecord_29 rfl ?_
  refine pb_topl (fun jx17 ejx17 => ?_)
  have tjx17 : jx17.toInt = ix15.toInt := tl_i2l ejx17 rfl
  refine pb_ladd (pc := 30) d_Mod_isRecord_30 ?_
  refine pb_topl (fun jx18 ejx18 => ?_)
  try have tjx18 : jx18.toInt = jx16.toInt + jx17.toInt := tl_add ejx18 rfl rfl (by (first | exact omg_e4dbbe00b2 v2 v4 fh5 u28 tix15 tjx16 tjx17 | omega)) (by omega)
  refine pb_aload_n (pc := 31) d_Mod_isRecord_31 2 rfl rfl ?_
  refine pb_iload_n (pc := 32) d_Mod_isRecord_32 3 rfl rfl ?_
  refine pb_bipush (pc := 33) (v := 20) d_Mod_isRecord_33 (by decide) ?_
  refine pb_iadd (pc := 35) d_Mod_isRecord_35 ?_
  refine pb_topi (fun ix19 eix19 => ?_)
  try have tix19 : ix19.toInt = e.toInt + 20 := t2_add eix19 rfl (by decide) (by (first | exact omg_10686cd870 h0 h1 v4 fh12 u28 | omega))
  refine pb_iconst (pc := 36) (v := 4) d_Mod_isRecord_36 (by decide) ?_
  refine pb_callV (pc := 37) (I := i_Mod_isRecord) (qb := 0) (ci := 10) (nA := 2) (rest := [.long jx18]) (wr := []) d_Mod_isRecord_37 (g_Mod_at hl G h m_rels m_openRels m_closeRels m_openRel m_closeRel m_comment m_ends m_order m_tape m_count m_nameSize m_names m_size m_data m_looked m_file m_directory m_out m_row m_made m_length m_pressed m_mark m_idSize m_ids m_goalSize m_goals m_value m_faults m_reached v_thrown v_taped v_lookedSize v_fileSize v_directorySize v_outSize v_rowSize v_bitAt v_bitEnd v_why v_madeSize v_firstCount v_secondCount v_heldBits v_heldCount v_pressedSize v_at v_bad v_markSize v_relationCount v_valueSize v_faultCount a_row ix19 4 (by first | (with_reducible assumption) | omega (splitDisjunctions := false) | assumption | omega | decide) (by first | (with_reducible assumption) | omega (splitDisjunctions := false) | assumption | omega | decide) (by first | (with_reducible assumption) | omega (splitDisjunctions := false) | assumption | omega | decide) (by first | (with_reducible assumption) | omega (splitDisjunctions := false) | assumption | omega | decide) F_a_row) rfl rfl [0, 1] [] (by decide) rfl rfl rfl (by decide) (by decide) k_1525 rfl k_128 k_1522 k_1524 k_88 ⟨rfl, hy_Mod_at⟩ (by decide) rfl rfl (Nat.le_of_ble_eq_true rfl) (by decide) (fun v9 ux21 ch20 => ?_)
  obtain ⟨r_22, rfl⟩ : ∃ z9, z9 = ux21 := ⟨_, rfl⟩
  obtain ⟨ech20, ch20⟩ := ch20
  have ech20 : v9 = some (.long r_22) := ech20
  subst ech20
  obtain ⟨fh23, fh24, fh25⟩ : (r_22.toInt = av a_row ix19.toInt (4 : Int32).toInt.toNat) ∧ (0 ≤ r_22.toInt) ∧ (r_22.toInt < 4294967296) := ch20
  have u20 : r_22.toInt = aw A (e.toInt + 20) 4 := by rw [fh23, n4, show ix19.toInt = e.toInt + 20 by omega]; exact av_A hA 4 (by omega) (by (first | exact omg_96293bd7a6 hZ v4 | omega))
  rw [n4, show ix19.toInt = e.toInt + 20 by omega] at fh23
  refine pb_eq (pc' := 40) (lo' := [(5, .int ix15), (3, .long r_4), (0, .ref h), (1, .int e), (2, .int bg)]) (rest' := [.long r_22, .long jx18]) (ws' := [(h, .inr (10, [.ref m_rels, .ref m_openRels, .ref m_closeRels, .ref m_openRel, .ref m_closeRel, .ref m_comment, .ref m_ends, .ref m_order, .int v_thrown, .int v_taped, .ref m_tape, .ref m_count, .ref m_nameSize, .ref m_names, .ref m_size, .ref m_data, .int v_lookedSize, .ref m_looked, .int v_fileSize, .ref m_file, .int v_directorySize, .ref m_directory, .int v_outSize, .ref m_out, .int v_rowSize, .ref m_row, .int v_bitAt, .int v_bitEnd, .int v_why, .int v_madeSize, .ref m_made, .ref m_length, .int v_firstCount, .int v_secondCount, .int v_heldBits, .int v_heldCount, .int v_pressedSize, .ref m_pressed, .int v_at, .int v_bad, .int v_markSize, .ref m_mark, .int v_relationCount, .ref m_idSize, .ref m_ids, .ref m_goalSize, .ref m_goals, .int v_valueSize, .ref m_value, .int v_faultCount, .ref m_faults, .ref m_reached])), (m_row, .inl (G.2.1, 20000, .inl a_row))]) ?_
  refine pb_ladd (pc := 40) d_Mod_isRecord_40 ?_
  refine pb_topl (fun jx26 ejx26 => ?_)
  try have tjx26 : jx26.toInt = jx18.toInt + r_22.toInt := tl_add ejx26 rfl rfl (by omega) (by (first | exact omg_a977c8fbe6 h0 h1 v2 v3 fh5 fh12 tix15 tjx16 tjx17 tjx18 fh23 | omega))
  refine pb_iload_n (pc := 41) d_Mod_isRecord_41 4 rfl rfl ?_
  refine pb_i2l (pc := 42) d_Mod_isRecord_42 rfl ?_
  refine pb_topl (fun jx27 ejx27 => ?_)
  have tjx27 : jx27.toInt = bg.toInt := tl_i2l ejx27 rfl
  refine pb_lcmp (pc := 43) d_Mod_isRecord_43 ?_
  refine pb_topi (fun ix28 eix28 => ?_)
  have tix28 : (ix28.toInt < 0 ↔ jx26.toInt < jx27.toInt) ∧ (ix28.toInt = 0 ↔ jx26.toInt = jx27.toInt) ∧ (0 < ix28.toInt ↔ jx27.toInt < jx26.toInt) := tl_cmp eix28 rfl rfl
  refine pb_if_le (pc := 44) (tgt := 49) d_Mod_isRecord_44 (by decide) (fun wx29 => ?_) (fun wx29 => ?_)
  · have twx29 : ix28.toInt ≤ 0 := (ti_le rfl (by decide)).mp wx29
    have lwx29 : jx26.toInt ≤ jx27.toInt := Int.not_lt.mp (fun z9 => absurd (tix28.2.2.mpr z9) (Int.not_lt.mpr twx29))
    clear tix28 twx29
    refine pb_lload_n (pc := 49) d_Mod_isRecord_49 1 rfl rfl ?_
    refine pb_l2i (pc := 50) d_Mod_isRecord_50 rfl ?_
    refine pb_topi (fun ix30 eix30 => ?_)
    try have tix30 : ix30.toInt = r_4.toInt := ti_l2i eix30 rfl (by (first | exact omg_a25f8e9775 v2 fh5 | omega)) (by (first | exact omg_5a1514d259 h2 v3 v4 u28 tix15 tjx16 tjx17 tjx18 fh23 tjx26 tjx27 lwx29 | omega))
    refine pb_istore (pc := 51) (lo' := [(6, .int ix30), (5, .int ix15), (3, .long r_4), (0, .ref h), (1, .int e), (2, .int bg)]) d_Mod_isRecord_51 (by decide) rfl ?_
    have hJ105_31 : ∀ (sm_ : Int32) (r6 : Int32) (n5 : Int32), (sm_.toInt = 0 ∨ sm_.toInt = 1) → (r6.toInt = av a_row (e.toInt + 42) 4) → (n5.toInt = av a_row (e.toInt + 28) 2) → (av a_row (e.toInt + 42) 4 + 30 + av a_row (e.toInt + 28) 2 + av a_row (e.toInt + 20) 4 ≤ bg.toInt) → (hid_ (sm_.toInt = 1 → (aw A (aw A (e.toInt + 42) 4) 4 = 67324752 ∧ aw A (aw A (e.toInt + 42) 4 + 4) 4 = 20 ∧ aw A (aw A (e.toInt + 42) 4 + 28) 2 = 0))) → (hid_ (sm_.toInt = 0 → ¬ (aw A (aw A (e.toInt + 42) 4) 4 = 67324752 ∧ aw A (aw A (e.toInt + 42) 4 + 4) 4 = 20 ∧ aw A (aw A (e.toInt + 42) 4 + 28) 2 = 0))) → (n5.toInt = aw A (e.toInt + 28) 2) → (r6.toInt = aw A (e.toInt + 42) 4) → (aw A (e.toInt + 42) 4 + 30 + aw A (e.toInt + 28) 2 + aw A (e.toInt + 20) 4 ≤ bg.toInt) → pb_P l G M i_Mod_isRecord 105 [(7, .int sm_), (6, .int r6), (5, .int n5), (0, .ref h), (1, .int e), (2, .int bg)] [] [(h, .inr (10, [.ref m_rels, .ref m_openRels, .ref m_closeRels, .ref m_openRel, .ref m_closeRel, .ref m_comment, .ref m_ends, .ref m_order, .int v_thrown, .int v_taped, .ref m_tape, .ref m_count, .ref m_nameSize, .ref m_names, .ref m_size, .ref m_data, .int v_lookedSize, .ref m_looked, .int v_fileSize, .ref m_file, .int v_directorySize, .ref m_directory, .int v_outSize, .ref m_out, .int v_rowSize, .ref m_row, .int v_bitAt, .int v_bitEnd, .int v_why, .int v_madeSize, .ref m_made, .ref m_length, .int v_firstCount, .int v_secondCount, .int v_heldBits, .int v_heldCount, .int v_pressedSize, .ref m_pressed, .int v_at, .int v_bad, .int v_markSize, .ref m_mark, .int v_relationCount, .ref m_idSize, .ref m_ids, .ref m_goalSize, .ref m_goals, .int v_valueSize, .ref m_value, .int v_faultCount, .ref m_faults, .ref m_reached])), (m_row, .inl (G.2.1, 20000, .inl a_row))] 0 0 := by
      intro sm_ r6 n5 j0 j1 j2 j3 j4 j5 j6 j7 j8
      refine pb_iconst (pc := 105) (v := 0) d_Mod_isRecord_105 (by decide) ?_
      refine pb_istore (pc := 106) (lo' := [(8, .int 0), (7, .int sm_), (6, .int r6), (5, .int n5), (0, .ref h), (1, .int e), (2, .int bg)]) d_Mod_isRecord_106 (by decide) rfl ?_
      have hL108_32 : ∀ (N9 : Nat) (s7 : Int32) (k8 : Int32), (0 ≤ k8.toInt) → (s7.toInt = 0 ∨ s7.toInt = 1) → (hid_ (s7.toInt = 1 → (aw A (aw A (e.toInt + 42) 4) 4 = 67324752 ∧ aw A (aw A (e.toInt + 42) 4 + 4) 4 = 20 ∧ aw A (aw A (e.toInt + 42) 4 + 28) 2 = 0) ∧ ∀ j : Int, 0 ≤ j → j < k8.toInt → A (aw A (e.toInt + 42) 4 + 8 + j) = A (e.toInt + 10 + j))) → (hid_ (s7.toInt = 0 → ¬ ((aw A (aw A (e.toInt + 42) 4) 4 = 67324752 ∧ aw A (aw A (e.toInt + 42) 4 + 4) 4 = 20 ∧ aw A (aw A (e.toInt + 42) 4 + 28) 2 = 0) ∧ ∀ j : Int, 0 ≤ j → j < 20 → A (aw A (e.toInt + 42) 4 + 8 + j) = A (e.toInt + 10 + j)))) → (k8.toInt ≤ 20) → ((20 - k8.toInt).toNat) < N9 → pb_P l G M i_Mod_isRecord 108 [(7, .int s7), (8, .int k8), (6, .int r6), (5, .int n5), (0, .ref h), (1, .int e), (2, .int bg)] [] [(h, .inr (10, [.ref m_rels, .ref m_openRels, .ref m_closeRels, .ref m_openRel, .ref m_closeRel, .ref m_comment, .ref m_ends, .ref m_order, .int v_thrown, .int v_taped, .ref m_tape, .ref m_count, .ref m_nameSize, .ref m_names, .ref m_size, .ref m_data, .int v_lookedSize, .ref m_looked, .int v_fileSize, .ref m_file, .int v_directorySize, .ref m_directory, .int v_outSize, .ref m_out, .int v_rowSize, .ref m_row, .int v_bitAt, .int v_bitEnd, .int v_why, .int v_madeSize, .ref m_made, .ref m_length, .int v_firstCount, .int v_secondCount, .int v_heldBits, .int v_heldCount, .int v_pressedSize, .ref m_pressed, .int v_at, .int v_bad, .int v_markSize, .ref m_mark, .int v_relationCount, .ref m_idSize, .ref m_ids, .ref m_goalSize, .ref m_goals, .int v_valueSize, .ref m_value, .int v_faultCount, .ref m_faults, .ref m_reached])), (m_row, .inl (G.2.1, 20000, .inl a_row))] 0 0 := by
        intro N9
        induction N9 with
        | zero => intro s7 k8 k0 k1 k2 k3 k4 hm9; exact absurd hm9 (Nat.not_lt_zero _)
        | succ N9 ih108 =>
          intro s7 k8 k0 k1 k2 k3 k4 hm9
          refine pb_iload (pc := 108) d_Mod_isRecord_108 1 rfl ?_
          refine pb_bipush (pc := 110) (v := 20) d_Mod_isRecord_110 (by decide) ?_
          refine pb_icmp_ge (pc := 112) (tgt := 161) d_Mod_isRecord_112 (by decide) (fun wx33 => ?_) (fun wx33 => ?_)
          · have twx33 : 20 ≤ k8.toInt := (ti_le (by decide) rfl).mp wx33
            refine pb_iconst (pc := 161) (v := 0) d_Mod_isRecord_161 (by decide) ?_
            refine pb_istore (pc := 162) (lo' := [(8, .int 0), (7, .int s7), (6, .int r6), (5, .int n5), (0, .ref h), (1, .int e), (2, .int bg)]) d_Mod_isRecord_162 (by decide) rfl ?_
            have hL164_34 : ∀ (N9 : Nat) (s9 : Int32) (k9 : Int32), (0 ≤ k9.toInt) → (s9.toInt = 0 ∨ s9.toInt = 1) → (hid_ (s9.toInt = 1 → ((aw A (aw A (e.toInt + 42) 4) 4 = 67324752 ∧ aw A (aw A (e.toInt + 42) 4 + 4) 4 = 20 ∧ aw A (aw A (e.toInt + 42) 4 + 28) 2 = 0) ∧ ∀ j : Int, 0 ≤ j → j < 20 → A (aw A (e.toInt + 42) 4 + 8 + j) = A (e.toInt + 10 + j)) ∧ ∀ j : Int, 0 ≤ j → j < k9.toInt → A (aw A (e.toInt + 42) 4 + 30 + j) = A (e.toInt + 46 + j))) → (hid_ (s9.toInt = 0 → ¬ (((aw A (aw A (e.toInt + 42) 4) 4 = 67324752 ∧ aw A (aw A (e.toInt + 42) 4 + 4) 4 = 20 ∧ aw A (aw A (e.toInt + 42) 4 + 28) 2 = 0) ∧ ∀ j : Int, 0 ≤ j → j < 20 → A (aw A (e.toInt + 42) 4 + 8 + j) = A (e.toInt + 10 + j)) ∧ ∀ j : Int, 0 ≤ j → j < aw A (e.toInt + 28) 2 → A (aw A (e.toInt + 42) 4 + 30 + j) = A (e.toInt + 46 + j)))) → (k9.toInt ≤ n5.toInt) → ((n5.toInt - k9.toInt).toNat) < N9 → pb_P l G M i_Mod_isRecord 164 [(7, .int s9), (8, .int k9), (6, .int r6), (5, .int n5), (0, .ref h), (1, .int e), (2, .int bg)] [] [(h, .inr (10, [.ref m_rels, .ref m_openRels, .ref m_closeRels, .ref m_openRel, .ref m_closeRel, .ref m_comment, .ref m_ends, .ref m_order, .int v_thrown, .int v_taped, .ref m_tape, .ref m_count, .ref m_nameSize, .ref m_names, .ref m_size, .ref m_data, .int v_lookedSize, .ref m_looked, .int v_fileSize, .ref m_file, .int v_directorySize, .ref m_directory, .int v_outSize, .ref m_out, .int v_rowSize, .ref m_row, .int v_bitAt, .int v_bitEnd, .int v_why, .int v_madeSize, .ref m_made, .ref m_length, .int v_firstCount, .int v_secondCount, .int v_heldBits, .int v_heldCount, .int v_pressedSize, .ref m_pressed, .int v_at, .int v_bad, .int v_markSize, .ref m_mark, .int v_relationCount, .ref m_idSize, .ref m_ids, .ref m_goalSize, .ref m_goals, .int v_valueSize, .ref m_value, .int v_faultCount, .ref m_faults, .ref m_reached])), (m_row, .inl (G.2.1, 20000, .inl a_row))] 0 0 := by
              intro N9
              induction N9 with
              | zero => intro s9 k9 m0 m1 m2 m3 m4 hm9; exact absurd hm9 (Nat.not_lt_zero _)
              | succ N9 ih164 =>
                intro s9 k9 m0 m1 m2 m3 m4 hm9
                refine pb_iload (pc := 164) d_Mod_isRecord_164 1 rfl ?_
                refine pb_iload (pc := 166) d_Mod_isRecord_166 3 rfl ?_
                refine pb_icmp_ge (pc := 168) (tgt := 217) d_Mod_isRecord_168 (by decide) (fun wx35 => ?_) (fun wx35 => ?_)
                · have twx35 : n5.toInt ≤ k9.toInt := (ti_le rfl rfl).mp wx35
                  refine pb_iload (pc := 217) d_Mod_isRecord_217 0 rfl ?_
                  exact pb_iret (pc := 219) hQ d_Mod_isRecord_219 rfl (nar_b (by omega)) (s9) ⟨rfl, (by (try dsimp only); first | done | (with_reducible assumption) | omega (splitDisjunctions := false) | assumption | omega | decide), (by (try dsimp only); first | done | (with_reducible assumption) | exact fun q9 => absurd q9 (by assumption) | exact fun q9 => absurd (by assumption) q9 | exact fun _ => (by omega (splitDisjunctions := false)) | omega (splitDisjunctions := false) | assumption | omega | decide), (show s9.toInt = 1 → rr_ A bg.toInt e.toInt from (fun q9 => rr_Y hB hy5 (by omega) ⟨(hid_o m2 q9).1, fun j h0 h1 => (hid_o m2 q9).2 j h0 (by (first | exact omg_ae35baf188 fh12 u28 j2 twx35 h1 | omega))⟩)), (show s9.toInt = 0 → ¬ rr_ A bg.toInt e.toInt from (fun q9 => rr_X hB hy5 (hid_o m3 q9)))⟩ [0, 1] (by decide) rfl rfl (by decide) (by decide)
                · have twx35 : ¬ n5.toInt ≤ k9.toInt := fun z9 => wx35 ((ti_le rfl rfl).mpr z9)
                  refine pb_iload (pc := 171) d_Mod_isRecord_171 0 rfl ?_
                  refine pb_if_eq (pc := 173) (tgt := 217) d_Mod_isRecord_173 (by decide) (fun wx36 => ?_) (fun wx36 => ?_)
                  · have twx36 : s9.toInt = 0 := (ti_eq rfl (by decide)).mp wx36
                    refine pb_iload (pc := 217) d_Mod_isRecord_217 0 rfl ?_
                    exact pb_iret (pc := 219) hQ d_Mod_isRecord_219 rfl (nar_b (by omega)) (s9) ⟨rfl, (by (try dsimp only); first | done | (with_reducible assumption) | omega (splitDisjunctions := false) | assumption | omega | decide), (by (try dsimp only); first | done | (with_reducible assumption) | exact fun q9 => absurd q9 (by assumption) | exact fun q9 => absurd (by assumption) q9 | exact fun _ => (by omega (splitDisjunctions := false)) | omega (splitDisjunctions := false) | assumption | omega | decide), (show s9.toInt = 1 → rr_ A bg.toInt e.toInt from (fun q9 => rr_Y hB hy5 (by omega) ⟨(hid_o m2 q9).1, fun j h0 h1 => (hid_o m2 q9).2 j h0 (by omega)⟩)), (show s9.toInt = 0 → ¬ rr_ A bg.toInt e.toInt from (fun q9 => rr_X hB hy5 (hid_o m3 q9)))⟩ [0, 1] (by decide) rfl rfl (by decide) (by decide)
                  · have twx36 : ¬ s9.toInt = 0 := fun z9 => wx36 ((ti_eq rfl (by decide)).mpr z9)
                    refine pb_aload_n (pc := 176) d_Mod_isRecord_176 4 rfl rfl ?_
                    refine pb_get (pc := 177) d_Mod_isRecord_177 0 25 rfl rfl (by decide) in_Mod k_1171 rfl ?_
                    refine pb_iload (pc := 180) d_Mod_isRecord_180 2 rfl ?_
                    refine pb_bipush (pc := 182) (v := 30) d_Mod_isRecord_182 (by decide) ?_
                    refine pb_iadd (pc := 184) d_Mod_isRecord_184 ?_
                    refine pb_topi (fun ix37 eix37 => ?_)
                    try have tix37 : ix37.toInt = r6.toInt + 30 := t2_add eix37 rfl (by decide) (by (first | exact omg_ec31b44b0d h2 v2 v3 v4 fh5 u28 tix15 tjx16 tjx17 tjx18 fh23 tjx26 tjx27 lwx29 j1 | omega))
                    refine pb_iload (pc := 185) d_Mod_isRecord_185 1 rfl ?_
                    refine pb_iadd (pc := 187) d_Mod_isRecord_187 ?_
                    refine pb_topi (fun ix38 eix38 => ?_)
                    try have tix38 : ix38.toInt = ix37.toInt + k9.toInt := t2_add eix38 rfl rfl (by (first | exact omg_3e431624f4 h2 v2 v3 fh5 fh12 tix15 tjx16 tjx17 tjx18 fh23 tjx26 tjx27 lwx29 j1 j2 m0 twx35 tix37 | omega))
                    refine pb_bald (pc := 188) d_Mod_isRecord_188 1 rfl (vp_in_iff.mpr (by (first | exact omg_0fca54b51c h2 v2 v3 fh5 fh12 tix15 tjx16 tjx17 tjx18 fh23 tjx26 tjx27 lwx29 j1 j2 m0 twx35 tix37 tix38 | omega))) ?_
                    refine pb_topi (fun ix39 eix39 => ?_)
                    have xix39 : ix39 = gr a_row (aw A (e.toInt + 42) 4 + 30 + k9.toInt) := gr_ld eix39 (by (first | exact omg_ca5ee684ad fh5 u42 j1 tix37 tix38 | omega))
                    have yix39 : ix39.toInt = gx a_row (aw A (e.toInt + 42) 4 + 30 + k9.toInt) := congrArg Int32.toInt xix39
                    refine pb_aload_n (pc := 189) d_Mod_isRecord_189 4 rfl rfl ?_
                    refine pb_get (pc := 190) d_Mod_isRecord_190 0 25 rfl rfl (by decide) in_Mod k_1171 rfl ?_
                    refine pb_iload_n (pc := 193) d_Mod_isRecord_193 5 rfl rfl ?_
                    refine pb_bipush (pc := 194) (v := 46) d_Mod_isRecord_194 (by decide) ?_
                    refine pb_iadd (pc := 196) d_Mod_isRecord_196 ?_
                    refine pb_topi (fun ix40 eix40 => ?_)
                    try have tix40 : ix40.toInt = e.toInt + 46 := t2_add eix40 rfl (by decide) (by (first | exact omg_604ceb54cd h0 h1 v4 fh12 u28 | omega))
                    refine pb_iload (pc := 197) d_Mod_isRecord_197 1 rfl ?_
                    refine pb_iadd (pc := 199) d_Mod_isRecord_199 ?_
                    refine pb_topi (fun ix41 eix41 => ?_)
                    try have tix41 : ix41.toInt = ix40.toInt + k9.toInt := t2_add eix41 rfl rfl (by (first | exact omg_c309cea7aa h0 h1 j2 m0 twx35 tix40 | omega))
                    refine pb_bald (pc := 200) d_Mod_isRecord_200 1 rfl (vp_in_iff.mpr (by (first | exact omg_f3dbfea2a5 h0 h1 j2 m0 twx35 tix40 tix41 | omega))) ?_
                    refine pb_topi (fun ix42 eix42 => ?_)
                    have xix42 : ix42 = gr a_row (e.toInt + 46 + k9.toInt) := gr_ld eix42 (by (first | exact omg_b2668de830 tix40 tix41 | omega))
                    have yix42 : ix42.toInt = gx a_row (e.toInt + 46 + k9.toInt) := congrArg Int32.toInt xix42
                    have ya := xix39
                    have yb := xix42
                    refine pb_icmp_ne (pc := 201) (tgt := 208) d_Mod_isRecord_201 (by decide) (fun wx43 => ?_) (fun wx43 => ?_)
                    · have twx43 : ¬ ix39.toInt = ix42.toInt := fun z9 => wx43 ((ti_eq rfl rfl).mpr z9)
                      refine pb_iconst (pc := 208) (v := 0) d_Mod_isRecord_208 (by decide) ?_
                      refine pb_istore (pc := 209) (lo' := [(7, .int 0), (8, .int k9), (6, .int r6), (5, .int n5), (0, .ref h), (1, .int e), (2, .int bg)]) d_Mod_isRecord_209 (by decide) rfl ?_
                      refine pb_iincN (pc := 211) (c := 1) d_Mod_isRecord_211 1 rfl (by decide) (by decide) (fun ix44 eix44 => ?_)
                      have tix44 : ix44.toInt = k9.toInt + 1 := t2_add eix44 rfl (by decide) (by first | (first | exact omg_1663dafca6 h2 v2 v3 fh5 fh12 tix15 tjx16 tjx17 tjx18 fh23 tjx26 tjx27 lwx29 j2 m0 twx35 | omega) | (have r90 := ti_rng k9; have r91 := ti_rng ix44; have r92 := ti_rng r6; have r93 := ti_rng n5; have r94 := ti_rng e; have r95 := ti_rng bg; omega))
                      refine pb_eq (pc' := 214) (lo' := [(8, .int ix44), (7, .int 0), (6, .int r6), (5, .int n5), (0, .ref h), (1, .int e), (2, .int bg)]) (rest' := []) (ws' := [(h, .inr (10, [.ref m_rels, .ref m_openRels, .ref m_closeRels, .ref m_openRel, .ref m_closeRel, .ref m_comment, .ref m_ends, .ref m_order, .int v_thrown, .int v_taped, .ref m_tape, .ref m_count, .ref m_nameSize, .ref m_names, .ref m_size, .ref m_data, .int v_lookedSize, .ref m_looked, .int v_fileSize, .ref m_file, .int v_directorySize, .ref m_directory, .int v_outSize, .ref m_out, .int v_rowSize, .ref m_row, .int v_bitAt, .int v_bitEnd, .int v_why, .int v_madeSize, .ref m_made, .ref m_length, .int v_firstCount, .int v_secondCount, .int v_heldBits, .int v_heldCount, .int v_pressedSize, .ref m_pressed, .int v_at, .int v_bad, .int v_markSize, .ref m_mark, .int v_relationCount, .ref m_idSize, .ref m_ids, .ref m_goalSize, .ref m_goals, .int v_valueSize, .ref m_value, .int v_faultCount, .ref m_faults, .ref m_reached])), (m_row, .inl (G.2.1, 20000, .inl a_row))]) ?_
                      refine pb_goto (pc := 214) (tgt := 164) d_Mod_isRecord_214 (by decide) ?_
                      refine pb_re (ws' := [(h, .inr (10, [.ref m_rels, .ref m_openRels, .ref m_closeRels, .ref m_openRel, .ref m_closeRel, .ref m_comment, .ref m_ends, .ref m_order, .int v_thrown, .int v_taped, .ref m_tape, .ref m_count, .ref m_nameSize, .ref m_names, .ref m_size, .ref m_data, .int v_lookedSize, .ref m_looked, .int v_fileSize, .ref m_file, .int v_directorySize, .ref m_directory, .int v_outSize, .ref m_out, .int v_rowSize, .ref m_row, .int v_bitAt, .int v_bitEnd, .int v_why, .int v_madeSize, .ref m_made, .ref m_length, .int v_firstCount, .int v_secondCount, .int v_heldBits, .int v_heldCount, .int v_pressedSize, .ref m_pressed, .int v_at, .int v_bad, .int v_markSize, .ref m_mark, .int v_relationCount, .ref m_idSize, .ref m_ids, .ref m_goalSize, .ref m_goals, .int v_valueSize, .ref m_value, .int v_faultCount, .ref m_faults, .ref m_reached])), (m_row, .inl (G.2.1, 20000, .inl a_row))]) (lo' := [(7, .int 0), (8, .int ix44), (6, .int r6), (5, .int n5), (0, .ref h), (1, .int e), (2, .int bg)]) [0, 1] [1, 0, 2, 3, 4, 5, 6] (by decide) rfl rfl rfl ?_
                      exact ih164 0 ix44 (by first | (with_reducible assumption) | (first | exact omg_c14412231a m0 tix44 | omega (splitDisjunctions := false)) | assumption | omega | decide) (by first | (with_reducible assumption) | omega (splitDisjunctions := false) | assumption | omega | decide) (hid_i (by first | exact fun q9 => absurd q9 (by decide) | exact fun _ => ⟨(hid_o m2 (by omega)).1, ll_st (hid_o m2 (by omega)).2 (by omega) (ab_eq hA ya yb (by omega) (by omega) (by omega) (by omega) (by omega))⟩)) (hid_i (by first | exact fun q9 => absurd q9 (by decide) | exact fun _ q9 => ab_ne hA ya yb (by (first | exact omg_64845410fa v2 fh5 u42 m0 | omega)) (by (first | exact omg_a82458b5e5 hZ2 v3 u42 fh12 tix15 tjx16 tjx17 tjx18 fh23 tjx26 tjx27 lwx29 j2 twx35 | omega)) (by (first | exact omg_b709a490d2 h0 m0 | omega)) (by (first | exact omg_2a8d2ee9e1 hZ fh12 u28 j2 twx35 | omega)) (by omega) (q9.2 k9.toInt (by omega) (by (first | exact omg_f684814fd3 fh12 u28 j2 twx35 | omega))))) (by first | (with_reducible assumption) | (first | exact omg_1d77bbf042 twx35 tix44 | omega (splitDisjunctions := false)) | assumption | omega | decide) (by (first | exact omg_7c8a06b1f5 hm9 twx35 tix44 | omega))
                    · have twx43 : ix39.toInt = ix42.toInt := (ti_eq rfl rfl).mp wx43
                      refine pb_iconst (pc := 204) (v := 1) d_Mod_isRecord_204 (by decide) ?_
                      refine pb_goto (pc := 205) (tgt := 209) d_Mod_isRecord_205 (by decide) ?_
                      refine pb_istore (pc := 209) (lo' := [(7, .int 1), (8, .int k9), (6, .int r6), (5, .int n5), (0, .ref h), (1, .int e), (2, .int bg)]) d_Mod_isRecord_209 (by decide) rfl ?_
                      refine pb_iincN (pc := 211) (c := 1) d_Mod_isRecord_211 1 rfl (by decide) (by decide) (fun ix45 eix45 => ?_)
                      have tix45 : ix45.toInt = k9.toInt + 1 := t2_add eix45 rfl (by decide) (by first | (first | exact omg_1663dafca6 h2 v2 v3 fh5 fh12 tix15 tjx16 tjx17 tjx18 fh23 tjx26 tjx27 lwx29 j2 m0 twx35 | omega) | (have r90 := ti_rng k9; have r91 := ti_rng ix45; have r92 := ti_rng r6; have r93 := ti_rng n5; have r94 := ti_rng e; have r95 := ti_rng bg; omega))
                      refine pb_eq (pc' := 214) (lo' := [(8, .int ix45), (7, .int 1), (6, .int r6), (5, .int n5), (0, .ref h), (1, .int e), (2, .int bg)]) (rest' := []) (ws' := [(h, .inr (10, [.ref m_rels, .ref m_openRels, .ref m_closeRels, .ref m_openRel, .ref m_closeRel, .ref m_comment, .ref m_ends, .ref m_order, .int v_thrown, .int v_taped, .ref m_tape, .ref m_count, .ref m_nameSize, .ref m_names, .ref m_size, .ref m_data, .int v_lookedSize, .ref m_looked, .int v_fileSize, .ref m_file, .int v_directorySize, .ref m_directory, .int v_outSize, .ref m_out, .int v_rowSize, .ref m_row, .int v_bitAt, .int v_bitEnd, .int v_why, .int v_madeSize, .ref m_made, .ref m_length, .int v_firstCount, .int v_secondCount, .int v_heldBits, .int v_heldCount, .int v_pressedSize, .ref m_pressed, .int v_at, .int v_bad, .int v_markSize, .ref m_mark, .int v_relationCount, .ref m_idSize, .ref m_ids, .ref m_goalSize, .ref m_goals, .int v_valueSize, .ref m_value, .int v_faultCount, .ref m_faults, .ref m_reached])), (m_row, .inl (G.2.1, 20000, .inl a_row))]) ?_
                      refine pb_goto (pc := 214) (tgt := 164) d_Mod_isRecord_214 (by decide) ?_
                      refine pb_re (ws' := [(h, .inr (10, [.ref m_rels, .ref m_openRels, .ref m_closeRels, .ref m_openRel, .ref m_closeRel, .ref m_comment, .ref m_ends, .ref m_order, .int v_thrown, .int v_taped, .ref m_tape, .ref m_count, .ref m_nameSize, .ref m_names, .ref m_size, .ref m_data, .int v_lookedSize, .ref m_looked, .int v_fileSize, .ref m_file, .int v_directorySize, .ref m_directory, .int v_outSize, .ref m_out, .int v_rowSize, .ref m_row, .int v_bitAt, .int v_bitEnd, .int v_why, .int v_madeSize, .ref m_made, .ref m_length, .int v_firstCount, .int v_secondCount, .int v_heldBits, .int v_heldCount, .int v_pressedSize, .ref m_pressed, .int v_at, .int v_bad, .int v_markSize, .ref m_mark, .int v_relationCount, .ref m_idSize, .ref m_ids, .ref m_goalSize, .ref m_goals, .int v_valueSize, .ref m_value, .int v_faultCount, .ref m_faults, .ref m_reached])), (m_row, .inl (G.2.1, 20000, .inl a_row))]) (lo' := [(7, .int 1), (8, .int ix45), (6, .int r6), (5, .int n5), (0, .ref h), (1, .int e), (2, .int bg)]) [0, 1] [1, 0, 2, 3, 4, 5, 6] (by decide) rfl rfl rfl ?_
                      exact ih164 1 ix45 (by first | (with_reducible assumption) | omega (splitDisjunctions := false) | assumption | omega | decide) (by first | (with_reducible assumption) | omega (splitDisjunctions := false) | assumption | omega | decide) (hid_i (by first | exact fun q9 => absurd q9 (by decide) | exact fun _ => ⟨(hid_o m2 (by (first | exact omg_d9c3f42b32 m1 twx36 | omega))).1, ll_st (hid_o m2 (by omega)).2 (by omega) (ab_eq hA ya yb (by omega) (by (first | exact omg_a82458b5e5 hZ2 v3 u42 fh12 tix15 tjx16 tjx17 tjx18 fh23 tjx26 tjx27 lwx29 j2 twx35 | omega)) (by omega) (by (first | exact omg_2a8d2ee9e1 hZ fh12 u28 j2 twx35 | omega)) (by omega))⟩)) (hid_i (by first | exact fun q9 => absurd q9 (by decide) | exact fun _ q9 => ab_ne hA ya yb (by omega) (by omega) (by omega) (by omega) (by omega) (q9.2 k9.toInt (by omega) (by omega)))) (by first | (with_reducible assumption) | omega (splitDisjunctions := false) | assumption | omega | decide) (by (first | exact omg_7c8a06b1f5 hm9 twx35 tix45 | omega))
            refine pb_re (ws' := [(h, .inr (10, [.ref m_rels, .ref m_openRels, .ref m_closeRels, .ref m_openRel, .ref m_closeRel, .ref m_comment, .ref m_ends, .ref m_order, .int v_thrown, .int v_taped, .ref m_tape, .ref m_count, .ref m_nameSize, .ref m_names, .ref m_size, .ref m_data, .int v_lookedSize, .ref m_looked, .int v_fileSize, .ref m_file, .int v_directorySize, .ref m_directory, .int v_outSize, .ref m_out, .int v_rowSize, .ref m_row, .int v_bitAt, .int v_bitEnd, .int v_why, .int v_madeSize, .ref m_made, .ref m_length, .int v_firstCount, .int v_secondCount, .int v_heldBits, .int v_heldCount, .int v_pressedSize, .ref m_pressed, .int v_at, .int v_bad, .int v_markSize, .ref m_mark, .int v_relationCount, .ref m_idSize, .ref m_ids, .ref m_goalSize, .ref m_goals, .int v_valueSize, .ref m_value, .int v_faultCount, .ref m_faults, .ref m_reached])), (m_row, .inl (G.2.1, 20000, .inl a_row))]) (lo' := [(7, .int s7), (8, .int 0), (6, .int r6), (5, .int n5), (0, .ref h), (1, .int e), (2, .int bg)]) [0, 1] [1, 0, 2, 3, 4, 5, 6] (by decide) rfl rfl rfl ?_
            exact hL164_34 _ s7 0 (by first | (with_reducible assumption) | omega (splitDisjunctions := false) | assumption | omega | decide) (by first | (with_reducible assumption) | omega (splitDisjunctions := false) | assumption | omega | decide) (hid_i (fun q9 => ⟨⟨(hid_o k2 q9).1, fun j h0 h1 => (hid_o k2 q9).2 j h0 (by omega)⟩, fun j h0 h1 => absurd h1 (by (first | exact omg_d221a634de zl0 h0 | omega))⟩)) (hid_i (fun q9 q8 => hid_o k3 q9 q8.1)) (by first | (with_reducible assumption) | (first | exact omg_17486f79d6 zl0 v4 fh12 u28 j2 | omega (splitDisjunctions := false)) | assumption | omega | decide) (Nat.lt_succ_self _)
          · have twx33 : ¬ 20 ≤ k8.toInt := fun z9 => wx33 ((ti_le (by decide) rfl).mpr z9)
            refine pb_iload (pc := 115) d_Mod_isRecord_115 0 rfl ?_
            refine pb_if_eq (pc := 117) (tgt := 161) d_Mod_isRecord_117 (by decide) (fun wx46 => ?_) (fun wx46 => ?_)
            · have twx46 : s7.toInt = 0 := (ti_eq rfl (by decide)).mp wx46
              refine pb_iconst (pc := 161) (v := 0) d_Mod_isRecord_161 (by decide) ?_
              refine pb_istore (pc := 162) (lo' := [(8, .int 0), (7, .int s7), (6, .int r6), (5, .int n5), (0, .ref h), (1, .int e), (2, .int bg)]) d_Mod_isRecord_162 (by decide) rfl ?_
              have hL164_47 : ∀ (N9 : Nat) (s9 : Int32) (k9 : Int32), (0 ≤ k9.toInt) → (s9.toInt = 0 ∨ s9.toInt = 1) → (hid_ (s9.toInt = 1 → ((aw A (aw A (e.toInt + 42) 4) 4 = 67324752 ∧ aw A (aw A (e.toInt + 42) 4 + 4) 4 = 20 ∧ aw A (aw A (e.toInt + 42) 4 + 28) 2 = 0) ∧ ∀ j : Int, 0 ≤ j → j < 20 → A (aw A (e.toInt + 42) 4 + 8 + j) = A (e.toInt + 10 + j)) ∧ ∀ j : Int, 0 ≤ j → j < k9.toInt → A (aw A (e.toInt + 42) 4 + 30 + j) = A (e.toInt + 46 + j))) → (hid_ (s9.toInt = 0 → ¬ (((aw A (aw A (e.toInt + 42) 4) 4 = 67324752 ∧ aw A (aw A (e.toInt + 42) 4 + 4) 4 = 20 ∧ aw A (aw A (e.toInt + 42) 4 + 28) 2 = 0) ∧ ∀ j : Int, 0 ≤ j → j < 20 → A (aw A (e.toInt + 42) 4 + 8 + j) = A (e.toInt + 10 + j)) ∧ ∀ j : Int, 0 ≤ j → j < aw A (e.toInt + 28) 2 → A (aw A (e.toInt + 42) 4 + 30 + j) = A (e.toInt + 46 + j)))) → (k9.toInt ≤ n5.toInt) → ((n5.toInt - k9.toInt).toNat) < N9 → pb_P l G M i_Mod_isRecord 164 [(7, .int s9), (8, .int k9), (6, .int r6), (5, .int n5), (0, .ref h), (1, .int e), (2, .int bg)] [] [(h, .inr (10, [.ref m_rels, .ref m_openRels, .ref m_closeRels, .ref m_openRel, .ref m_closeRel, .ref m_comment, .ref m_ends, .ref m_order, .int v_thrown, .int v_taped, .ref m_tape, .ref m_count, .ref m_nameSize, .ref m_names, .ref m_size, .ref m_data, .int v_lookedSize, .ref m_looked, .int v_fileSize, .ref m_file, .int v_directorySize, .ref m_directory, .int v_outSize, .ref m_out, .int v_rowSize, .ref m_row, .int v_bitAt, .int v_bitEnd, .int v_why, .int v_madeSize, .ref m_made, .ref m_length, .int v_firstCount, .int v_secondCount, .int v_heldBits, .int v_heldCount, .int v_pressedSize, .ref m_pressed, .int v_at, .int v_bad, .int v_markSize, .ref m_mark, .int v_relationCount, .ref m_idSize, .ref m_ids, .ref m_goalSize, .ref m_goals, .int v_valueSize, .ref m_value, .int v_faultCount, .ref m_faults, .ref m_reached])), (m_row, .inl (G.2.1, 20000, .inl a_row))] 0 0 := by
                intro N9
                induction N9 with
                | zero => intro s9 k9 m0 m1 m2 m3 m4 hm9; exact absurd hm9 (Nat.not_lt_zero _)
                | succ N9 ih164 =>
                  intro s9 k9 m0 m1 m2 m3 m4 hm9
                  refine pb_iload (pc := 164) d_Mod_isRecord_164 1 rfl ?_
                  refine pb_iload (pc := 166) d_Mod_isRecord_166 3 rfl ?_
                  refine pb_icmp_ge (pc := 168) (tgt := 217) d_Mod_isRecord_168 (by decide) (fun wx48 => ?_) (fun wx48 => ?_)
                  · have twx48 : n5.toInt ≤ k9.toInt := (ti_le rfl rfl).mp wx48
                    refine pb_iload (pc := 217) d_Mod_isRecord_217 0 rfl ?_
                    exact pb_iret (pc := 219) hQ d_Mod_isRecord_219 rfl (nar_b (by omega)) (s9) ⟨rfl, (by (try dsimp only); first | done | (with_reducible assumption) | omega (splitDisjunctions := false) | assumption | omega | decide), (by (try dsimp only); first | done | (with_reducible assumption) | exact fun q9 => absurd q9 (by assumption) | exact fun q9 => absurd (by assumption) q9 | exact fun _ => (by omega (splitDisjunctions := false)) | omega (splitDisjunctions := false) | assumption | omega | decide), (show s9.toInt = 1 → rr_ A bg.toInt e.toInt from (fun q9 => rr_Y hB hy5 (by omega) ⟨(hid_o m2 q9).1, fun j h0 h1 => (hid_o m2 q9).2 j h0 (by omega)⟩)), (show s9.toInt = 0 → ¬ rr_ A bg.toInt e.toInt from (fun q9 => rr_X hB hy5 (hid_o m3 q9)))⟩ [0, 1] (by decide) rfl rfl (by decide) (by decide)
                  · have twx48 : ¬ n5.toInt ≤ k9.toInt := fun z9 => wx48 ((ti_le rfl rfl).mpr z9)
                    refine pb_iload (pc := 171) d_Mod_isRecord_171 0 rfl ?_
                    refine pb_if_eq (pc := 173) (tgt := 217) d_Mod_isRecord_173 (by decide) (fun wx49 => ?_) (fun wx49 => ?_)
                    · have twx49 : s9.toInt = 0 := (ti_eq rfl (by decide)).mp wx49
                      refine pb_iload (pc := 217) d_Mod_isRecord_217 0 rfl ?_
                      exact pb_iret (pc := 219) hQ d_Mod_isRecord_219 rfl (nar_b (by omega)) (s9) ⟨rfl, (by (try dsimp only); first | done | (with_reducible assumption) | omega (splitDisjunctions := false) | assumption | omega | decide), (by (try dsimp only); first | done | (with_reducible assumption) | exact fun q9 => absurd q9 (by assumption) | exact fun q9 => absurd (by assumption) q9 | exact fun _ => (by omega (splitDisjunctions := false)) | omega (splitDisjunctions := false) | assumption | omega | decide), (show s9.toInt = 1 → rr_ A bg.toInt e.toInt from (fun q9 => rr_Y hB hy5 (by omega) ⟨(hid_o m2 q9).1, fun j h0 h1 => (hid_o m2 q9).2 j h0 (by omega)⟩)), (show s9.toInt = 0 → ¬ rr_ A bg.toInt e.toInt from (fun q9 => rr_X hB hy5 (hid_o m3 q9)))⟩ [0, 1] (by decide) rfl rfl (by decide) (by decide)
                    · have twx49 : ¬ s9.toInt = 0 := fun z9 => wx49 ((ti_eq rfl (by decide)).mpr z9)
                      refine pb_aload_n (pc := 176) d_Mod_isRecord_176 4 rfl rfl ?_
                      refine pb_get (pc := 177) d_Mod_isRecord_177 0 25 rfl rfl (by decide) in_Mod k_1171 rfl ?_
                      refine pb_iload (pc := 180) d_Mod_isRecord_180 2 rfl ?_
                      refine pb_bipush (pc := 182) (v := 30) d_Mod_isRecord_182 (by decide) ?_
                      refine pb_iadd (pc := 184) d_Mod_isRecord_184 ?_
                      refine pb_topi (fun ix50 eix50 => ?_)
                      try have tix50 : ix50.toInt = r6.toInt + 30 := t2_add eix50 rfl (by decide) (by (first | exact omg_ec31b44b0d h2 v2 v3 v4 fh5 u28 tix15 tjx16 tjx17 tjx18 fh23 tjx26 tjx27 lwx29 j1 | omega))
                      refine pb_iload (pc := 185) d_Mod_isRecord_185 1 rfl ?_
                      refine pb_iadd (pc := 187) d_Mod_isRecord_187 ?_
                      refine pb_topi (fun ix51 eix51 => ?_)
                      try have tix51 : ix51.toInt = ix50.toInt + k9.toInt := t2_add eix51 rfl rfl (by (first | exact omg_3e431624f4 h2 v2 v3 fh5 fh12 tix15 tjx16 tjx17 tjx18 fh23 tjx26 tjx27 lwx29 j1 j2 m0 twx48 tix50 | omega))
                      refine pb_bald (pc := 188) d_Mod_isRecord_188 1 rfl (vp_in_iff.mpr (by (first | exact omg_0fca54b51c h2 v2 v3 fh5 fh12 tix15 tjx16 tjx17 tjx18 fh23 tjx26 tjx27 lwx29 j1 j2 m0 twx48 tix50 tix51 | omega))) ?_
                      refine pb_topi (fun ix52 eix52 => ?_)
                      have xix52 : ix52 = gr a_row (aw A (e.toInt + 42) 4 + 30 + k9.toInt) := gr_ld eix52 (by (first | exact omg_ca5ee684ad fh5 u42 j1 tix50 tix51 | omega))
                      have yix52 : ix52.toInt = gx a_row (aw A (e.toInt + 42) 4 + 30 + k9.toInt) := congrArg Int32.toInt xix52
                      refine pb_aload_n (pc := 189) d_Mod_isRecord_189 4 rfl rfl ?_
                      refine pb_get (pc := 190) d_Mod_isRecord_190 0 25 rfl rfl (by decide) in_Mod k_1171 rfl ?_
                      refine pb_iload_n (pc := 193) d_Mod_isRecord_193 5 rfl rfl ?_
                      refine pb_bipush (pc := 194) (v := 46) d_Mod_isRecord_194 (by decide) ?_
                      refine pb_iadd (pc := 196) d_Mod_isRecord_196 ?_
                      refine pb_topi (fun ix53 eix53 => ?_)
                      try have tix53 : ix53.toInt = e.toInt + 46 := t2_add eix53 rfl (by decide) (by (first | exact omg_604ceb54cd h0 h1 v4 fh12 u28 | omega))
                      refine pb_iload (pc := 197) d_Mod_isRecord_197 1 rfl ?_
                      refine pb_iadd (pc := 199) d_Mod_isRecord_199 ?_
                      refine pb_topi (fun ix54 eix54 => ?_)
                      try have tix54 : ix54.toInt = ix53.toInt + k9.toInt := t2_add eix54 rfl rfl (by (first | exact omg_c309cea7aa h0 h1 j2 m0 twx48 tix53 | omega))
                      refine pb_bald (pc := 200) d_Mod_isRecord_200 1 rfl (vp_in_iff.mpr (by (first | exact omg_f3dbfea2a5 h0 h1 j2 m0 twx48 tix53 tix54 | omega))) ?_
                      refine pb_topi (fun ix55 eix55 => ?_)
                      have xix55 : ix55 = gr a_row (e.toInt + 46 + k9.toInt) := gr_ld eix55 (by (first | exact omg_b2668de830 tix53 tix54 | omega))
                      have yix55 : ix55.toInt = gx a_row (e.toInt + 46 + k9.toInt) := congrArg Int32.toInt xix55
                      have ya := xix52
                      have yb := xix55
                      refine pb_icmp_ne (pc := 201) (tgt := 208) d_Mod_isRecord_201 (by decide) (fun wx56 => ?_) (fun wx56 => ?_)
                      · have twx56 : ¬ ix52.toInt = ix55.toInt := fun z9 => wx56 ((ti_eq rfl rfl).mpr z9)
                        refine pb_iconst (pc := 208) (v := 0) d_Mod_isRecord_208 (by decide) ?_
                        refine pb_istore (pc := 209) (lo' := [(7, .int 0), (8, .int k9), (6, .int r6), (5, .int n5), (0, .ref h), (1, .int e), (2, .int bg)]) d_Mod_isRecord_209 (by decide) rfl ?_
                        refine pb_iincN (pc := 211) (c := 1) d_Mod_isRecord_211 1 rfl (by decide) (by decide) (fun ix57 eix57 => ?_)
                        have tix57 : ix57.toInt = k9.toInt + 1 := t2_add eix57 rfl (by decide) (by first | (first | exact omg_1663dafca6 h2 v2 v3 fh5 fh12 tix15 tjx16 tjx17 tjx18 fh23 tjx26 tjx27 lwx29 j2 m0 twx48 | omega) | (have r90 := ti_rng k9; have r91 := ti_rng ix57; have r92 := ti_rng r6; have r93 := ti_rng n5; have r94 := ti_rng e; have r95 := ti_rng bg; omega))
                        refine pb_eq (pc' := 214) (lo' := [(8, .int ix57), (7, .int 0), (6, .int r6), (5, .int n5), (0, .ref h), (1, .int e), (2, .int bg)]) (rest' := []) (ws' := [(h, .inr (10, [.ref m_rels, .ref m_openRels, .ref m_closeRels, .ref m_openRel, .ref m_closeRel, .ref m_comment, .ref m_ends, .ref m_order, .int v_thrown, .int v_taped, .ref m_tape, .ref m_count, .ref m_nameSize, .ref m_names, .ref m_size, .ref m_data, .int v_lookedSize, .ref m_looked, .int v_fileSize, .ref m_file, .int v_directorySize, .ref m_directory, .int v_outSize, .ref m_out, .int v_rowSize, .ref m_row, .int v_bitAt, .int v_bitEnd, .int v_why, .int v_madeSize, .ref m_made, .ref m_length, .int v_firstCount, .int v_secondCount, .int v_heldBits, .int v_heldCount, .int v_pressedSize, .ref m_pressed, .int v_at, .int v_bad, .int v_markSize, .ref m_mark, .int v_relationCount, .ref m_idSize, .ref m_ids, .ref m_goalSize, .ref m_goals, .int v_valueSize, .ref m_value, .int v_faultCount, .ref m_faults, .ref m_reached])), (m_row, .inl (G.2.1, 20000, .inl a_row))]) ?_
                        refine pb_goto (pc := 214) (tgt := 164) d_Mod_isRecord_214 (by decide) ?_
                        refine pb_re (ws' := [(h, .inr (10, [.ref m_rels, .ref m_openRels, .ref m_closeRels, .ref m_openRel, .ref m_closeRel, .ref m_comment, .ref m_ends, .ref m_order, .int v_thrown, .int v_taped, .ref m_tape, .ref m_count, .ref m_nameSize, .ref m_names, .ref m_size, .ref m_data, .int v_lookedSize, .ref m_looked, .int v_fileSize, .ref m_file, .int v_directorySize, .ref m_directory, .int v_outSize, .ref m_out, .int v_rowSize, .ref m_row, .int v_bitAt, .int v_bitEnd, .int v_why, .int v_madeSize, .ref m_made, .ref m_length, .int v_firstCount, .int v_secondCount, .int v_heldBits, .int v_heldCount, .int v_pressedSize, .ref m_pressed, .int v_at, .int v_bad, .int v_markSize, .ref m_mark, .int v_relationCount, .ref m_idSize, .ref m_ids, .ref m_goalSize, .ref m_goals, .int v_valueSize, .ref m_value, .int v_faultCount, .ref m_faults, .ref m_reached])), (m_row, .inl (G.2.1, 20000, .inl a_row))]) (lo' := [(7, .int 0), (8, .int ix57), (6, .int r6), (5, .int n5), (0, .ref h), (1, .int e), (2, .int bg)]) [0, 1] [1, 0, 2, 3, 4, 5, 6] (by decide) rfl rfl rfl ?_
                        exact ih164 0 ix57 (by first | (with_reducible assumption) | (first | exact omg_c14412231a m0 tix57 | omega (splitDisjunctions := false)) | assumption | omega | decide) (by first | (with_reducible assumption) | omega (splitDisjunctions := false) | assumption | omega | decide) (hid_i (by first | exact fun q9 => absurd q9 (by decide) | exact fun _ => ⟨(hid_o m2 (by omega)).1, ll_st (hid_o m2 (by omega)).2 (by omega) (ab_eq hA ya yb (by omega) (by omega) (by omega) (by omega) (by omega))⟩)) (hid_i (by first | exact fun q9 => absurd q9 (by decide) | exact fun _ q9 => ab_ne hA ya yb (by (first | exact omg_64845410fa v2 fh5 u42 m0 | omega)) (by (first | exact omg_a82458b5e5 hZ2 v3 u42 fh12 tix15 tjx16 tjx17 tjx18 fh23 tjx26 tjx27 lwx29 j2 twx48 | omega)) (by (first | exact omg_b709a490d2 h0 m0 | omega)) (by (first | exact omg_2a8d2ee9e1 hZ fh12 u28 j2 twx48 | omega)) (by omega) (q9.2 k9.toInt (by omega) (by (first | exact omg_f684814fd3 fh12 u28 j2 twx48 | omega))))) (by first | (with_reducible assumption) | (first | exact omg_1d77bbf042 twx48 tix57 | omega (splitDisjunctions := false)) | assumption | omega | decide) (by (first | exact omg_7c8a06b1f5 hm9 twx48 tix57 | omega))
                      · have twx56 : ix52.toInt = ix55.toInt := (ti_eq rfl rfl).mp wx56
                        refine pb_iconst (pc := 204) (v := 1) d_Mod_isRecord_204 (by decide) ?_
                        refine pb_goto (pc := 205) (tgt := 209) d_Mod_isRecord_205 (by decide) ?_
                        refine pb_istore (pc := 209) (lo' := [(7, .int 1), (8, .int k9), (6, .int r6), (5, .int n5), (0, .ref h), (1, .int e), (2, .int bg)]) d_Mod_isRecord_209 (by decide) rfl ?_
                        refine pb_iincN (pc := 211) (c := 1) d_Mod_isRecord_211 1 rfl (by decide) (by decide) (fun ix58 eix58 => ?_)
                        have tix58 : ix58.toInt = k9.toInt + 1 := t2_add eix58 rfl (by decide) (by first | (first | exact omg_1663dafca6 h2 v2 v3 fh5 fh12 tix15 tjx16 tjx17 tjx18 fh23 tjx26 tjx27 lwx29 j2 m0 twx48 | omega) | (have r90 := ti_rng k9; have r91 := ti_rng ix58; have r92 := ti_rng r6; have r93 := ti_rng n5; have r94 := ti_rng e; have r95 := ti_rng bg; omega))
                        refine pb_eq (pc' := 214) (lo' := [(8, .int ix58), (7, .int 1), (6, .int r6), (5, .int n5), (0, .ref h), (1, .int e), (2, .int bg)]) (rest' := []) (ws' := [(h, .inr (10, [.ref m_rels, .ref m_openRels, .ref m_closeRels, .ref m_openRel, .ref m_closeRel, .ref m_comment, .ref m_ends, .ref m_order, .int v_thrown, .int v_taped, .ref m_tape, .ref m_count, .ref m_nameSize, .ref m_names, .ref m_size, .ref m_data, .int v_lookedSize, .ref m_looked, .int v_fileSize, .ref m_file, .int v_directorySize, .ref m_directory, .int v_outSize, .ref m_out, .int v_rowSize, .ref m_row, .int v_bitAt, .int v_bitEnd, .int v_why, .int v_madeSize, .ref m_made, .ref m_length, .int v_firstCount, .int v_secondCount, .int v_heldBits, .int v_heldCount, .int v_pressedSize, .ref m_pressed, .int v_at, .int v_bad, .int v_markSize, .ref m_mark, .int v_relationCount, .ref m_idSize, .ref m_ids, .ref m_goalSize, .ref m_goals, .int v_valueSize, .ref m_value, .int v_faultCount, .ref m_faults, .ref m_reached])), (m_row, .inl (G.2.1, 20000, .inl a_row))]) ?_
                        refine pb_goto (pc := 214) (tgt := 164) d_Mod_isRecord_214 (by decide) ?_
                        refine pb_re (ws' := [(h, .inr (10, [.ref m_rels, .ref m_openRels, .ref m_closeRels, .ref m_openRel, .ref m_closeRel, .ref m_comment, .ref m_ends, .ref m_order, .int v_thrown, .int v_taped, .ref m_tape, .ref m_count, .ref m_nameSize, .ref m_names, .ref m_size, .ref m_data, .int v_lookedSize, .ref m_looked, .int v_fileSize, .ref m_file, .int v_directorySize, .ref m_directory, .int v_outSize, .ref m_out, .int v_rowSize, .ref m_row, .int v_bitAt, .int v_bitEnd, .int v_why, .int v_madeSize, .ref m_made, .ref m_length, .int v_firstCount, .int v_secondCount, .int v_heldBits, .int v_heldCount, .int v_pressedSize, .ref m_pressed, .int v_at, .int v_bad, .int v_markSize, .ref m_mark, .int v_relationCount, .ref m_idSize, .ref m_ids, .ref m_goalSize, .ref m_goals, .int v_valueSize, .ref m_value, .int v_faultCount, .ref m_faults, .ref m_reached])), (m_row, .inl (G.2.1, 20000, .inl a_row))]) (lo' := [(7, .int 1), (8, .int ix58), (6, .int r6), (5, .int n5), (0, .ref h), (1, .int e), (2, .int bg)]) [0, 1] [1, 0, 2, 3, 4, 5, 6] (by decide) rfl rfl rfl ?_
                        exact ih164 1 ix58 (by first | (with_reducible assumption) | omega (splitDisjunctions := false) | assumption | omega | decide) (by first | (with_reducible assumption) | omega (splitDisjunctions := false) | assumption | omega | decide) (hid_i (by first | exact fun q9 => absurd q9 (by decide) | exact fun _ => ⟨(hid_o m2 (by (first | exact omg_d9c3f42b32 m1 twx49 | omega))).1, ll_st (hid_o m2 (by omega)).2 (by omega) (ab_eq hA ya yb (by omega) (by omega) (by (first | exact omg_b709a490d2 h0 m0 | omega)) (by (first | exact omg_2a8d2ee9e1 hZ fh12 u28 j2 twx48 | omega)) (by omega))⟩)) (hid_i (by first | exact fun q9 => absurd q9 (by decide) | exact fun _ q9 => ab_ne hA ya yb (by omega) (by omega) (by omega) (by omega) (by omega) (q9.2 k9.toInt (by omega) (by omega)))) (by first | (with_reducible assumption) | omega (splitDisjunctions := false) | assumption | omega | decide) (by (first | exact omg_7c8a06b1f5 hm9 twx48 tix58 | omega))
              refine pb_re (ws' := [(h, .inr (10, [.ref m_rels, .ref m_openRels, .ref m_closeRels, .ref m_openRel, .ref m_closeRel, .ref m_comment, .ref m_ends, .ref m_order, .int v_thrown, .int v_taped, .ref m_tape, .ref m_count, .ref m_nameSize, .ref m_names, .ref m_size, .ref m_data, .int v_lookedSize, .ref m_looked, .int v_fileSize, .ref m_file, .int v_directorySize, .ref m_directory, .int v_outSize, .ref m_out, .int v_rowSize, .ref m_row, .int v_bitAt, .int v_bitEnd, .int v_why, .int v_madeSize, .ref m_made, .ref m_length, .int v_firstCount, .int v_secondCount, .int v_heldBits, .int v_heldCount, .int v_pressedSize, .ref m_pressed, .int v_at, .int v_bad, .int v_markSize, .ref m_mark, .int v_relationCount, .ref m_idSize, .ref m_ids, .ref m_goalSize, .ref m_goals, .int v_valueSize, .ref m_value, .int v_faultCount, .ref m_faults, .ref m_reached])), (m_row, .inl (G.2.1, 20000, .inl a_row))]) (lo' := [(7, .int s7), (8, .int 0), (6, .int r6), (5, .int n5), (0, .ref h), (1, .int e), (2, .int bg)]) [0, 1] [1, 0, 2, 3, 4, 5, 6] (by decide) rfl rfl rfl ?_
              exact hL164_47 _ s7 0 (by first | (with_reducible assumption) | omega (splitDisjunctions := false) | assumption | omega | decide) (by first | (with_reducible assumption) | omega (splitDisjunctions := false) | assumption | omega | decide) (hid_i (fun q9 => ⟨⟨(hid_o k2 q9).1, fun j h0 h1 => (hid_o k2 q9).2 j h0 (by omega)⟩, fun j h0 h1 => absurd h1 (by omega)⟩)) (hid_i (fun q9 q8 => hid_o k3 q9 q8.1)) (by first | (with_reducible assumption) | (first | exact omg_17486f79d6 zl0 v4 fh12 u28 j2 | omega (splitDisjunctions := false)) | assumption | omega | decide) (Nat.lt_succ_self _)
            · have twx46 : ¬ s7.toInt = 0 := fun z9 => wx46 ((ti_eq rfl (by decide)).mpr z9)
              refine pb_aload_n (pc := 120) d_Mod_isRecord_120 4 rfl rfl ?_
              refine pb_get (pc := 121) d_Mod_isRecord_121 0 25 rfl rfl (by decide) in_Mod k_1171 rfl ?_
              refine pb_iload (pc := 124) d_Mod_isRecord_124 2 rfl ?_
              refine pb_bipush (pc := 126) (v := 8) d_Mod_isRecord_126 (by decide) ?_
              refine pb_iadd (pc := 128) d_Mod_isRecord_128 ?_
              refine pb_topi (fun ix59 eix59 => ?_)
              try have tix59 : ix59.toInt = r6.toInt + 8 := t2_add eix59 rfl (by decide) (by (first | exact omg_0c6566a094 h2 v2 v3 v4 fh5 u28 tix15 tjx16 tjx17 tjx18 fh23 tjx26 tjx27 lwx29 j1 | omega))
              refine pb_iload (pc := 129) d_Mod_isRecord_129 1 rfl ?_
              refine pb_iadd (pc := 131) d_Mod_isRecord_131 ?_
              refine pb_topi (fun ix60 eix60 => ?_)
              try have tix60 : ix60.toInt = ix59.toInt + k8.toInt := t2_add eix60 rfl rfl (by (first | exact omg_22a9ef0601 h2 v2 v3 v4 fh5 u28 tix15 tjx16 tjx17 tjx18 fh23 tjx26 tjx27 lwx29 j1 k0 twx33 tix59 | omega))
              refine pb_bald (pc := 132) d_Mod_isRecord_132 1 rfl (vp_in_iff.mpr (by (first | exact omg_0494158f2b h2 v2 v3 v4 fh5 u28 tix15 tjx16 tjx17 tjx18 fh23 tjx26 tjx27 lwx29 j1 k0 twx33 tix59 tix60 | omega))) ?_
              refine pb_topi (fun ix61 eix61 => ?_)
              have xix61 : ix61 = gr a_row (aw A (e.toInt + 42) 4 + 8 + k8.toInt) := gr_ld eix61 (by (first | exact omg_0710822e0e fh5 u42 j1 tix59 tix60 | omega))
              have yix61 : ix61.toInt = gx a_row (aw A (e.toInt + 42) 4 + 8 + k8.toInt) := congrArg Int32.toInt xix61
              refine pb_aload_n (pc := 133) d_Mod_isRecord_133 4 rfl rfl ?_
              refine pb_get (pc := 134) d_Mod_isRecord_134 0 25 rfl rfl (by decide) in_Mod k_1171 rfl ?_
              refine pb_iload_n (pc := 137) d_Mod_isRecord_137 5 rfl rfl ?_
              refine pb_bipush (pc := 138) (v := 10) d_Mod_isRecord_138 (by decide) ?_
              refine pb_iadd (pc := 140) d_Mod_isRecord_140 ?_
              refine pb_topi (fun ix62 eix62 => ?_)
              try have tix62 : ix62.toInt = e.toInt + 10 := t2_add eix62 rfl (by decide) (by (first | exact omg_bcaab8d3eb h0 h1 v4 fh12 u28 | omega))
              refine pb_iload (pc := 141) d_Mod_isRecord_141 1 rfl ?_
              refine pb_iadd (pc := 143) d_Mod_isRecord_143 ?_
              refine pb_topi (fun ix63 eix63 => ?_)
              try have tix63 : ix63.toInt = ix62.toInt + k8.toInt := t2_add eix63 rfl rfl (by (first | exact omg_2bef8ead47 h0 h1 v4 fh12 u28 k0 k4 tix62 | omega))
              refine pb_bald (pc := 144) d_Mod_isRecord_144 1 rfl (vp_in_iff.mpr (by (first | exact omg_5691659740 h0 h1 v4 fh12 u28 k0 twx33 tix62 tix63 | omega))) ?_
              refine pb_topi (fun ix64 eix64 => ?_)
              have xix64 : ix64 = gr a_row (e.toInt + 10 + k8.toInt) := gr_ld eix64 (by (first | exact omg_e95a32f5ee tix62 tix63 | omega))
              have yix64 : ix64.toInt = gx a_row (e.toInt + 10 + k8.toInt) := congrArg Int32.toInt xix64
              have xa := xix61
              have xb := xix64
              refine pb_icmp_ne (pc := 145) (tgt := 152) d_Mod_isRecord_145 (by decide) (fun wx65 => ?_) (fun wx65 => ?_)
              · have twx65 : ¬ ix61.toInt = ix64.toInt := fun z9 => wx65 ((ti_eq rfl rfl).mpr z9)
                refine pb_iconst (pc := 152) (v := 0) d_Mod_isRecord_152 (by decide) ?_
                refine pb_istore (pc := 153) (lo' := [(7, .int 0), (8, .int k8), (6, .int r6), (5, .int n5), (0, .ref h), (1, .int e), (2, .int bg)]) d_Mod_isRecord_153 (by decide) rfl ?_
                refine pb_iincN (pc := 155) (c := 1) d_Mod_isRecord_155 1 rfl (by decide) (by decide) (fun ix66 eix66 => ?_)
                have tix66 : ix66.toInt = k8.toInt + 1 := t2_add eix66 rfl (by decide) (by first | omega | (have r90 := ti_rng k8; have r91 := ti_rng ix66; have r92 := ti_rng r6; have r93 := ti_rng n5; have r94 := ti_rng e; have r95 := ti_rng bg; omega))
                refine pb_eq (pc' := 158) (lo' := [(8, .int ix66), (7, .int 0), (6, .int r6), (5, .int n5), (0, .ref h), (1, .int e), (2, .int bg)]) (rest' := []) (ws' := [(h, .inr (10, [.ref m_rels, .ref m_openRels, .ref m_closeRels, .ref m_openRel, .ref m_closeRel, .ref m_comment, .ref m_ends, .ref m_order, .int v_thrown, .int v_taped, .ref m_tape, .ref m_count, .ref m_nameSize, .ref m_names, .ref m_size, .ref m_data, .int v_lookedSize, .ref m_looked, .int v_fileSize, .ref m_file, .int v_directorySize, .ref m_directory, .int v_outSize, .ref m_out, .int v_rowSize, .ref m_row, .int v_bitAt, .int v_bitEnd, .int v_why, .int v_madeSize, .ref m_made, .ref m_length, .int v_firstCount, .int v_secondCount, .int v_heldBits, .int v_heldCount, .int v_pressedSize, .ref m_pressed, .int v_at, .int v_bad, .int v_markSize, .ref m_mark, .int v_relationCount, .ref m_idSize, .ref m_ids, .ref m_goalSize, .ref m_goals, .int v_valueSize, .ref m_value, .int v_faultCount, .ref m_faults, .ref m_reached])), (m_row, .inl (G.2.1, 20000, .inl a_row))]) ?_
                refine pb_goto (pc := 158) (tgt := 108) d_Mod_isRecord_158 (by decide) ?_
                refine pb_re (ws' := [(h, .inr (10, [.ref m_rels, .ref m_openRels, .ref m_closeRels, .ref m_openRel, .ref m_closeRel, .ref m_comment, .ref m_ends, .ref m_order, .int v_thrown, .int v_taped, .ref m_tape, .ref m_count, .ref m_nameSize, .ref m_names, .ref m_size, .ref m_data, .int v_lookedSize, .ref m_looked, .int v_fileSize, .ref m_file, .int v_directorySize, .ref m_directory, .int v_outSize, .ref m_out, .int v_rowSize, .ref m_row, .int v_bitAt, .int v_bitEnd, .int v_why, .int v_madeSize, .ref m_made, .ref m_length, .int v_firstCount, .int v_secondCount, .int v_heldBits, .int v_heldCount, .int v_pressedSize, .ref m_pressed, .int v_at, .int v_bad, .int v_markSize, .ref m_mark, .int v_relationCount, .ref m_idSize, .ref m_ids, .ref m_goalSize, .ref m_goals, .int v_valueSize, .ref m_value, .int v_faultCount, .ref m_faults, .ref m_reached])), (m_row, .inl (G.2.1, 20000, .inl a_row))]) (lo' := [(7, .int 0), (8, .int ix66), (6, .int r6), (5, .int n5), (0, .ref h), (1, .int e), (2, .int bg)]) [0, 1] [1, 0, 2, 3, 4, 5, 6] (by decide) rfl rfl rfl ?_
                exact ih108 0 ix66 (by first | (with_reducible assumption) | (first | exact omg_c14412231a k0 tix66 | omega (splitDisjunctions := false)) | assumption | omega | decide) (by first | (with_reducible assumption) | omega (splitDisjunctions := false) | assumption | omega | decide) (hid_i (by first | exact fun q9 => absurd q9 (by decide) | exact fun _ => ⟨(hid_o k2 (by omega)).1, ll_st (hid_o k2 (by omega)).2 (by omega) (ab_eq hA xa xb (by omega) (by omega) (by omega) (by omega) (by omega))⟩)) (hid_i (by first | exact fun q9 => absurd q9 (by decide) | exact fun _ q9 => ab_ne hA xa xb (by (first | exact omg_3f416f8f3f v2 fh5 u42 k0 | omega)) (by (first | exact omg_9d50aebb55 hZ2 v3 v4 u42 u28 tix15 tjx16 tjx17 tjx18 fh23 tjx26 tjx27 lwx29 twx33 | omega)) (by (first | exact omg_adb1c4eb9e h0 k0 | omega)) (by (first | exact omg_1cd550a50b hZ v4 twx33 | omega)) (by omega) (q9.2 k8.toInt (by omega) (by (first | exact omg_4571d5925f twx33 | omega))))) (by first | (with_reducible assumption) | (first | exact omg_8a6b271da2 twx33 tix66 | omega (splitDisjunctions := false)) | assumption | omega | decide) (by (first | exact omg_fb8cd690a9 hm9 twx33 tix66 | omega))
              · have twx65 : ix61.toInt = ix64.toInt := (ti_eq rfl rfl).mp wx65
                refine pb_iconst (pc := 148) (v := 1) d_Mod_isRecord_148 (by decide) ?_
                refine pb_goto (pc := 149) (tgt := 153) d_Mod_isRecord_149 (by decide) ?_
                refine pb_istore (pc := 153) (lo' := [(7, .int 1), (8, .int k8), (6, .int r6), (5, .int n5), (0, .ref h), (1, .int e), (2, .int bg)]) d_Mod_isRecord_153 (by decide) rfl ?_
                refine pb_iincN (pc := 155) (c := 1) d_Mod_isRecord_155 1 rfl (by decide) (by decide) (fun ix67 eix67 => ?_)
                have tix67 : ix67.toInt = k8.toInt + 1 := t2_add eix67 rfl (by decide) (by first | omega | (have r90 := ti_rng k8; have r91 := ti_rng ix67; have r92 := ti_rng r6; have r93 := ti_rng n5; have r94 := ti_rng e; have r95 := ti_rng bg; omega))
                refine pb_eq (pc' := 158) (lo' := [(8, .int ix67), (7, .int 1), (6, .int r6), (5, .int n5), (0, .ref h), (1, .int e), (2, .int bg)]) (rest' := []) (ws' := [(h, .inr (10, [.ref m_rels, .ref m_openRels, .ref m_closeRels, .ref m_openRel, .ref m_closeRel, .ref m_comment, .ref m_ends, .ref m_order, .int v_thrown, .int v_taped, .ref m_tape, .ref m_count, .ref m_nameSize, .ref m_names, .ref m_size, .ref m_data, .int v_lookedSize, .ref m_looked, .int v_fileSize, .ref m_file, .int v_directorySize, .ref m_directory, .int v_outSize, .ref m_out, .int v_rowSize, .ref m_row, .int v_bitAt, .int v_bitEnd, .int v_why, .int v_madeSize, .ref m_made, .ref m_length, .int v_firstCount, .int v_secondCount, .int v_heldBits, .int v_heldCount, .int v_pressedSize, .ref m_pressed, .int v_at, .int v_bad, .int v_markSize, .ref m_mark, .int v_relationCount, .ref m_idSize, .ref m_ids, .ref m_goalSize, .ref m_goals, .int v_valueSize, .ref m_value, .int v_faultCount, .ref m_faults, .ref m_reached])), (m_row, .inl (G.2.1, 20000, .inl a_row))]) ?_
                refine pb_goto (pc := 158) (tgt := 108) d_Mod_isRecord_158 (by decide) ?_
                refine pb_re (ws' := [(h, .inr (10, [.ref m_rels, .ref m_openRels, .ref m_closeRels, .ref m_openRel, .ref m_closeRel, .ref m_comment, .ref m_ends, .ref m_order, .int v_thrown, .int v_taped, .ref m_tape, .ref m_count, .ref m_nameSize, .ref m_names, .ref m_size, .ref m_data, .int v_lookedSize, .ref m_looked, .int v_fileSize, .ref m_file, .int v_directorySize, .ref m_directory, .int v_outSize, .ref m_out, .int v_rowSize, .ref m_row, .int v_bitAt, .int v_bitEnd, .int v_why, .int v_madeSize, .ref m_made, .ref m_length, .int v_firstCount, .int v_secondCount, .int v_heldBits, .int v_heldCount, .int v_pressedSize, .ref m_pressed, .int v_at, .int v_bad, .int v_markSize, .ref m_mark, .int v_relationCount, .ref m_idSize, .ref m_ids, .ref m_goalSize, .ref m_goals, .int v_valueSize, .ref m_value, .int v_faultCount, .ref m_faults, .ref m_reached])), (m_row, .inl (G.2.1, 20000, .inl a_row))]) (lo' := [(7, .int 1), (8, .int ix67), (6, .int r6), (5, .int n5), (0, .ref h), (1, .int e), (2, .int bg)]) [0, 1] [1, 0, 2, 3, 4, 5, 6] (by decide) rfl rfl rfl ?_
                exact ih108 1 ix67 (by first | (with_reducible assumption) | omega (splitDisjunctions := false) | assumption | omega | decide) (by first | (with_reducible assumption) | omega (splitDisjunctions := false) | assumption | omega | decide) (hid_i (by first | exact fun q9 => absurd q9 (by decide) | exact fun _ => ⟨(hid_o k2 (by (first | exact omg_d9c3f42b32 k1 twx46 | omega))).1, ll_st (hid_o k2 (by omega)).2 (by omega) (ab_eq hA xa xb (by (first | exact omg_3f416f8f3f v2 fh5 u42 k0 | omega)) (by (first | exact omg_9d50aebb55 hZ2 v3 v4 u42 u28 tix15 tjx16 tjx17 tjx18 fh23 tjx26 tjx27 lwx29 twx33 | omega)) (by (first | exact omg_adb1c4eb9e h0 k0 | omega)) (by (first | exact omg_1cd550a50b hZ v4 twx33 | omega)) (by omega))⟩)) (hid_i (by first | exact fun q9 => absurd q9 (by decide) | exact fun _ q9 => ab_ne hA xa xb (by omega) (by omega) (by omega) (by omega) (by omega) (q9.2 k8.toInt (by omega) (by omega)))) (by first | (with_reducible assumption) | (first | exact omg_8a6b271da2 twx33 tix67 | omega (splitDisjunctions := false)) | assumption | omega | decide) (by (first | exact omg_fb8cd690a9 hm9 twx33 tix67 | omega))
      refine pb_re (ws' := [(h, .inr (10, [.ref m_rels, .ref m_openRels, .ref m_closeRels, .ref m_openRel, .ref m_closeRel, .ref m_comment, .ref m_ends, .ref m_order, .int v_thrown, .int v_taped, .ref m_tape, .ref m_count, .ref m_nameSize, .ref m_names, .ref m_size, .ref m_data, .int v_lookedSize, .ref m_looked, .int v_fileSize, .ref m_file, .int v_directorySize, .ref m_directory, .int v_outSize, .ref m_out, .int v_rowSize, .ref m_row, .int v_bitAt, .int v_bitEnd, .int v_why, .int v_madeSize, .ref m_made, .ref m_length, .int v_firstCount, .int v_secondCount, .int v_heldBits, .int v_heldCount, .int v_pressedSize, .ref m_pressed, .int v_at, .int v_bad, .int v_markSize, .ref m_mark, .int v_relationCount, .ref m_idSize, .ref m_ids, .ref m_goalSize, .ref m_goals, .int v_valueSize, .ref m_value, .int v_faultCount, .ref m_faults, .ref m_reached])), (m_row, .inl (G.2.1, 20000, .inl a_row))]) (lo' := [(7, .int sm_), (8, .int 0), (6, .int r6), (5, .int n5), (0, .ref h), (1, .int e), (2, .int bg)]) [0, 1] [1, 0, 2, 3, 4, 5, 6] (by decide) rfl rfl rfl ?_
      exact hL108_32 _ sm_ 0 (by first | (with_reducible assumption) | omega (splitDisjunctions := false) | assumption | omega | decide) (by first | (with_reducible assumption) | omega (splitDisjunctions := false) | assumption | omega | decide) (hid_i (fun q9 => ⟨hid_o j4 q9, fun j h0 h1 => absurd h1 (by (first | exact omg_d221a634de zl0 h0 | omega))⟩)) (hid_i (fun q9 q8 => hid_o j5 q9 q8.1)) (by first | (with_reducible assumption) | omega (splitDisjunctions := false) | assumption | omega | decide) (Nat.lt_succ_self _)
    refine pb_aload_n (pc := 53) d_Mod_isRecord_53 3 rfl rfl ?_
    refine pb_iload (pc := 54) d_Mod_isRecord_54 0 rfl ?_
    refine pb_iconst (pc := 56) (v := 4) d_Mod_isRecord_56 (by decide) ?_
    refine pb_callV (pc := 57) (I := i_Mod_isRecord) (qb := 0) (ci := 10) (nA := 2) (rest := []) (wr := []) d_Mod_isRecord_57 (g_Mod_at hl G h m_rels m_openRels m_closeRels m_openRel m_closeRel m_comment m_ends m_order m_tape m_count m_nameSize m_names m_size m_data m_looked m_file m_directory m_out m_row m_made m_length m_pressed m_mark m_idSize m_ids m_goalSize m_goals m_value m_faults m_reached v_thrown v_taped v_lookedSize v_fileSize v_directorySize v_outSize v_rowSize v_bitAt v_bitEnd v_why v_madeSize v_firstCount v_secondCount v_heldBits v_heldCount v_pressedSize v_at v_bad v_markSize v_relationCount v_valueSize v_faultCount a_row ix30 4 (by first | (with_reducible assumption) | omega (splitDisjunctions := false) | assumption | omega | decide) (by first | (with_reducible assumption) | omega (splitDisjunctions := false) | assumption | omega | decide) (by first | (with_reducible assumption) | omega (splitDisjunctions := false) | assumption | omega | decide) (by first | (with_reducible assumption) | omega (splitDisjunctions := false) | assumption | omega | decide) F_a_row) rfl rfl [0, 1] [] (by decide) rfl rfl rfl (by decide) (by decide) k_1525 rfl k_128 k_1522 k_1524 k_88 ⟨rfl, hy_Mod_at⟩ (by decide) rfl rfl (Nat.le_of_ble_eq_true rfl) (by decide) (fun v9 ux69 ch68 => ?_)
    obtain ⟨r_70, rfl⟩ : ∃ z9, z9 = ux69 := ⟨_, rfl⟩
    obtain ⟨ech68, ch68⟩ := ch68
    have ech68 : v9 = some (.long r_70) := ech68
    subst ech68
    obtain ⟨fh71, fh72, fh73⟩ : (r_70.toInt = av a_row ix30.toInt (4 : Int32).toInt.toNat) ∧ (0 ≤ r_70.toInt) ∧ (r_70.toInt < 4294967296) := ch68
    have w0 : r_70.toInt = aw A (aw A (e.toInt + 42) 4) 4 := by rw [fh71, n4, show ix30.toInt = aw A (e.toInt + 42) 4 by (first | exact omg_99b4580df8 u42 tix30 | omega)]; exact av_A hA 4 (by (first | exact omg_2d36acf841 v2 fh5 u42 | omega)) (by (first | exact omg_e43539c673 hZ2 v3 v4 u42 u28 tix15 tjx16 tjx17 tjx18 fh23 tjx26 tjx27 lwx29 | omega))
    refine pb_eq (pc' := 60) (lo' := [(6, .int ix30), (5, .int ix15), (3, .long r_4), (0, .ref h), (1, .int e), (2, .int bg)]) (rest' := [.long r_70]) (ws' := [(h, .inr (10, [.ref m_rels, .ref m_openRels, .ref m_closeRels, .ref m_openRel, .ref m_closeRel, .ref m_comment, .ref m_ends, .ref m_order, .int v_thrown, .int v_taped, .ref m_tape, .ref m_count, .ref m_nameSize, .ref m_names, .ref m_size, .ref m_data, .int v_lookedSize, .ref m_looked, .int v_fileSize, .ref m_file, .int v_directorySize, .ref m_directory, .int v_outSize, .ref m_out, .int v_rowSize, .ref m_row, .int v_bitAt, .int v_bitEnd, .int v_why, .int v_madeSize, .ref m_made, .ref m_length, .int v_firstCount, .int v_secondCount, .int v_heldBits, .int v_heldCount, .int v_pressedSize, .ref m_pressed, .int v_at, .int v_bad, .int v_markSize, .ref m_mark, .int v_relationCount, .ref m_idSize, .ref m_ids, .ref m_goalSize, .ref m_goals, .int v_valueSize, .ref m_value, .int v_faultCount, .ref m_faults, .ref m_reached])), (m_row, .inl (G.2.1, 20000, .inl a_row))]) ?_
    refine pb_ldc2 (pc := 60) (v := 67324752) d_Mod_isRecord_60 k_1492 ?_
    refine pb_lcmp (pc := 63) d_Mod_isRecord_63 ?_
    refine pb_topi (fun ix74 eix74 => ?_)
    have tix74 : (ix74.toInt < 0 ↔ r_70.toInt < 67324752) ∧ (ix74.toInt = 0 ↔ r_70.toInt = 67324752) ∧ (0 < ix74.toInt ↔ 67324752 < r_70.toInt) := tl_cmp eix74 rfl (by decide)
    refine pb_if_ne (pc := 64) (tgt := 102) d_Mod_isRecord_64 (by decide) (fun wx75 => ?_) (fun wx75 => ?_)
    · have twx75 : ¬ ix74.toInt = 0 := fun z9 => wx75 ((ti_eq rfl (by decide)).mpr z9)
      have lwx75 : ¬ r_70.toInt = 67324752 := fun z9 => twx75 (tix74.2.1.mpr z9)
      clear tix74 twx75
      refine pb_iconst (pc := 102) (v := 0) d_Mod_isRecord_102 (by decide) ?_
      refine pb_istore (pc := 103) (lo' := [(7, .int 0), (6, .int ix30), (5, .int ix15), (3, .long r_4), (0, .ref h), (1, .int e), (2, .int bg)]) d_Mod_isRecord_103 (by decide) rfl ?_
      refine pb_re (ws' := [(h, .inr (10, [.ref m_rels, .ref m_openRels, .ref m_closeRels, .ref m_openRel, .ref m_closeRel, .ref m_comment, .ref m_ends, .ref m_order, .int v_thrown, .int v_taped, .ref m_tape, .ref m_count, .ref m_nameSize, .ref m_names, .ref m_size, .ref m_data, .int v_lookedSize, .ref m_looked, .int v_fileSize, .ref m_file, .int v_directorySize, .ref m_directory, .int v_outSize, .ref m_out, .int v_rowSize, .ref m_row, .int v_bitAt, .int v_bitEnd, .int v_why, .int v_madeSize, .ref m_made, .ref m_length, .int v_firstCount, .int v_secondCount, .int v_heldBits, .int v_heldCount, .int v_pressedSize, .ref m_pressed, .int v_at, .int v_bad, .int v_markSize, .ref m_mark, .int v_relationCount, .ref m_idSize, .ref m_ids, .ref m_goalSize, .ref m_goals, .int v_valueSize, .ref m_value, .int v_faultCount, .ref m_faults, .ref m_reached])), (m_row, .inl (G.2.1, 20000, .inl a_row))]) (lo' := [(7, .int 0), (6, .int ix30), (5, .int ix15), (0, .ref h), (1, .int e), (2, .int bg)]) [0, 1] [0, 1, 2, 4, 5, 6] (by decide) rfl rfl rfl ?_
      exact hJ105_31 0 ix30 ix15 (by first | (with_reducible assumption) | omega (splitDisjunctions := false) | assumption | omega | decide) (by first | (with_reducible assumption) | omega (splitDisjunctions := false) | assumption | (first | exact omg_99b4580df8 fh5 tix30 | omega) | decide) (by first | (with_reducible assumption) | omega (splitDisjunctions := false) | assumption | (first | exact omg_99b4580df8 fh12 tix15 | omega) | decide) (by first | (with_reducible assumption) | (first | exact omg_3b13f7bd3e fh5 fh12 tix15 tjx16 tjx17 tjx18 fh23 tjx26 tjx27 lwx29 | omega (splitDisjunctions := false)) | assumption | omega | decide) (hid_i (by first | exact fun q9 => absurd q9 (by decide) | exact fun _ => ⟨by omega, by omega, by omega⟩)) (hid_i (by first | exact fun q9 => absurd q9 (by decide) | exact fun _ q9 => (by obtain ⟨y1, y2, y3⟩ := q9; (first | exact omg_c8ade6339f w0 lwx75 y1 | omega)))) (by first | (with_reducible assumption) | omega (splitDisjunctions := false) | assumption | omega | decide) (by first | (with_reducible assumption) | omega (splitDisjunctions := false) | assumption | omega | decide) (by first | (with_reducible assumption) | (first | exact omg_3b13f7bd3e u42 u28 tix15 tjx16 tjx17 tjx18 u20 tjx26 tjx27 lwx29 | omega (splitDisjunctions := false)) | assumption | omega | decide)
    · have twx75 : ix74.toInt = 0 := (ti_eq rfl (by decide)).mp wx75
      have lwx75 : r_70.toInt = 67324752 := tix74.2.1.mp twx75
      clear tix74 twx75
      refine pb_aload_n (pc := 67) d_Mod_isRecord_67 3 rfl rfl ?_
      refine pb_iload (pc := 68) d_Mod_isRecord_68 0 rfl ?_
      refine pb_iconst (pc := 70) (v := 4) d_Mod_isRecord_70 (by decide) ?_
      refine pb_iadd (pc := 71) d_Mod_isRecord_71 ?_
      refine pb_topi (fun ix76 eix76 => ?_)
      try have tix76 : ix76.toInt = ix30.toInt + 4 := t2_add eix76 rfl (by decide) (by (first | exact omg_2b648986ac h2 v2 v3 v4 fh5 u28 tix15 tjx16 tjx17 tjx18 fh23 tjx26 tjx27 lwx29 tix30 | omega))
      refine pb_iconst (pc := 72) (v := 4) d_Mod_isRecord_72 (by decide) ?_
      refine pb_callV (pc := 73) (I := i_Mod_isRecord) (qb := 0) (ci := 10) (nA := 2) (rest := []) (wr := []) d_Mod_isRecord_73 (g_Mod_at hl G h m_rels m_openRels m_closeRels m_openRel m_closeRel m_comment m_ends m_order m_tape m_count m_nameSize m_names m_size m_data m_looked m_file m_directory m_out m_row m_made m_length m_pressed m_mark m_idSize m_ids m_goalSize m_goals m_value m_faults m_reached v_thrown v_taped v_lookedSize v_fileSize v_directorySize v_outSize v_rowSize v_bitAt v_bitEnd v_why v_madeSize v_firstCount v_secondCount v_heldBits v_heldCount v_pressedSize v_at v_bad v_markSize v_relationCount v_valueSize v_faultCount a_row ix76 4 (by first | (with_reducible assumption) | omega (splitDisjunctions := false) | assumption | omega | decide) (by first | (with_reducible assumption) | omega (splitDisjunctions := false) | assumption | omega | decide) (by first | (with_reducible assumption) | omega (splitDisjunctions := false) | assumption | omega | decide) (by first | (with_reducible assumption) | omega (splitDisjunctions := false) | assumption | omega | decide) F_a_row) rfl rfl [0, 1] [] (by decide) rfl rfl rfl (by decide) (by decide) k_1525 rfl k_128 k_1522 k_1524 k_88 ⟨rfl, hy_Mod_at⟩ (by decide) rfl rfl (Nat.le_of_ble_eq_true rfl) (by decide) (fun v9 ux78 ch77 => ?_)
      obtain ⟨r_79, rfl⟩ : ∃ z9, z9 = ux78 := ⟨_, rfl⟩
      obtain ⟨ech77, ch77⟩ := ch77
      have ech77 : v9 = some (.long r_79) := ech77
      subst ech77
      obtain ⟨fh80, fh81, fh82⟩ : (r_79.toInt = av a_row ix76.toInt (4 : Int32).toInt.toNat) ∧ (0 ≤ r_79.toInt) ∧ (r_79.toInt < 4294967296) := ch77
      have w4 : r_79.toInt = aw A (aw A (e.toInt + 42) 4 + 4) 4 := by rw [fh80, n4, show ix76.toInt = aw A (e.toInt + 42) 4 + 4 by (first | exact omg_7d5ae569bc u42 tix30 tix76 | omega)]; exact av_A hA 4 (by (first | exact omg_6dcc1ecac9 v2 fh5 u42 | omega)) (by (first | exact omg_45d65c1e39 hZ2 v3 v4 u42 u28 tix15 tjx16 tjx17 tjx18 fh23 tjx26 tjx27 lwx29 | omega))
      refine pb_eq (pc' := 76) (lo' := [(6, .int ix30), (5, .int ix15), (3, .long r_4), (0, .ref h), (1, .int e), (2, .int bg)]) (rest' := [.long r_79]) (ws' := [(h, .inr (10, [.ref m_rels, .ref m_openRels, .ref m_closeRels, .ref m_openRel, .ref m_closeRel, .ref m_comment, .ref m_ends, .ref m_order, .int v_thrown, .int v_taped, .ref m_tape, .ref m_count, .ref m_nameSize, .ref m_names, .ref m_size, .ref m_data, .int v_lookedSize, .ref m_looked, .int v_fileSize, .ref m_file, .int v_directorySize, .ref m_directory, .int v_outSize, .ref m_out, .int v_rowSize, .ref m_row, .int v_bitAt, .int v_bitEnd, .int v_why, .int v_madeSize, .ref m_made, .ref m_length, .int v_firstCount, .int v_secondCount, .int v_heldBits, .int v_heldCount, .int v_pressedSize, .ref m_pressed, .int v_at, .int v_bad, .int v_markSize, .ref m_mark, .int v_relationCount, .ref m_idSize, .ref m_ids, .ref m_goalSize, .ref m_goals, .int v_valueSize, .ref m_value, .int v_faultCount, .ref m_faults, .ref m_reached])), (m_row, .inl (G.2.1, 20000, .inl a_row))]) ?_
      refine pb_ldc2 (pc := 76) (v := 20) d_Mod_isRecord_76 k_1497 ?_
      refine pb_lcmp (pc := 79) d_Mod_isRecord_79 ?_
      refine pb_topi (fun ix83 eix83 => ?_)
      have tix83 : (ix83.toInt < 0 ↔ r_79.toInt < 20) ∧ (ix83.toInt = 0 ↔ r_79.toInt = 20) ∧ (0 < ix83.toInt ↔ 20 < r_79.toInt) := tl_cmp eix83 rfl (by decide)
      refine pb_if_ne (pc := 80) (tgt := 102) d_Mod_isRecord_80 (by decide) (fun wx84 => ?_) (fun wx84 => ?_)
      · have twx84 : ¬ ix83.toInt = 0 := fun z9 => wx84 ((ti_eq rfl (by decide)).mpr z9)
        have lwx84 : ¬ r_79.toInt = 20 := fun z9 => twx84 (tix83.2.1.mpr z9)
        clear tix83 twx84
        refine pb_iconst (pc := 102) (v := 0) d_Mod_isRecord_102 (by decide) ?_
        refine pb_istore (pc := 103) (lo' := [(7, .int 0), (6, .int ix30), (5, .int ix15), (3, .long r_4), (0, .ref h), (1, .int e), (2, .int bg)]) d_Mod_isRecord_103 (by decide) rfl ?_
        refine pb_re (ws' := [(h, .inr (10, [.ref m_rels, .ref m_openRels, .ref m_closeRels, .ref m_openRel, .ref m_closeRel, .ref m_comment, .ref m_ends, .ref m_order, .int v_thrown, .int v_taped, .ref m_tape, .ref m_count, .ref m_nameSize, .ref m_names, .ref m_size, .ref m_data, .int v_lookedSize, .ref m_looked, .int v_fileSize, .ref m_file, .int v_directorySize, .ref m_directory, .int v_outSize, .ref m_out, .int v_rowSize, .ref m_row, .int v_bitAt, .int v_bitEnd, .int v_why, .int v_madeSize, .ref m_made, .ref m_length, .int v_firstCount, .int v_secondCount, .int v_heldBits, .int v_heldCount, .int v_pressedSize, .ref m_pressed, .int v_at, .int v_bad, .int v_markSize, .ref m_mark, .int v_relationCount, .ref m_idSize, .ref m_ids, .ref m_goalSize, .ref m_goals, .int v_valueSize, .ref m_value, .int v_faultCount, .ref m_faults, .ref m_reached])), (m_row, .inl (G.2.1, 20000, .inl a_row))]) (lo' := [(7, .int 0), (6, .int ix30), (5, .int ix15), (0, .ref h), (1, .int e), (2, .int bg)]) [0, 1] [0, 1, 2, 4, 5, 6] (by decide) rfl rfl rfl ?_
        exact hJ105_31 0 ix30 ix15 (by first | (with_reducible assumption) | omega (splitDisjunctions := false) | assumption | omega | decide) (by first | (with_reducible assumption) | omega (splitDisjunctions := false) | assumption | (first | exact omg_99b4580df8 fh5 tix30 | omega) | decide) (by first | (with_reducible assumption) | omega (splitDisjunctions := false) | assumption | omega | decide) (by first | (with_reducible assumption) | (first | exact omg_3b13f7bd3e fh5 fh12 tix15 tjx16 tjx17 tjx18 fh23 tjx26 tjx27 lwx29 | omega (splitDisjunctions := false)) | assumption | omega | decide) (hid_i (by first | exact fun q9 => absurd q9 (by decide) | exact fun _ => ⟨by omega, by omega, by omega⟩)) (hid_i (by first | exact fun q9 => absurd q9 (by decide) | exact fun _ q9 => (by obtain ⟨y1, y2, y3⟩ := q9; omega))) (by first | (with_reducible assumption) | omega (splitDisjunctions := false) | assumption | omega | decide) (by first | (with_reducible assumption) | omega (splitDisjunctions := false) | assumption | (first | exact omg_99b4580df8 u42 tix30 | omega) | decide) (by first | (with_reducible assumption) | (first | exact omg_3b13f7bd3e u42 u28 tix15 tjx16 tjx17 tjx18 u20 tjx26 tjx27 lwx29 | omega (splitDisjunctions := false)) | assumption | omega | decide)
      · have twx84 : ix83.toInt = 0 := (ti_eq rfl (by decide)).mp wx84
        have lwx84 : r_79.toInt = 20 := tix83.2.1.mp twx84
        clear tix83 twx84
        refine pb_aload_n (pc := 83) d_Mod_isRecord_83 3 rfl rfl ?_
        refine pb_iload (pc := 84) d_Mod_isRecord_84 0 rfl ?_
        refine pb_bipush (pc := 86) (v := 28) d_Mod_isRecord_86 (by decide) ?_
        refine pb_iadd (pc := 88) d_Mod_isRecord_88 ?_
        refine pb_topi (fun ix85 eix85 => ?_)
        try have tix85 : ix85.toInt = ix30.toInt + 28 := t2_add eix85 rfl (by decide) (by (first | exact omg_89f38567c9 h2 v2 v3 v4 fh5 u28 tix15 tjx16 tjx17 tjx18 fh23 tjx26 tjx27 lwx29 tix30 | omega))
        refine pb_iconst (pc := 89) (v := 2) d_Mod_isRecord_89 (by decide) ?_
        refine pb_callV (pc := 90) (I := i_Mod_isRecord) (qb := 0) (ci := 10) (nA := 2) (rest := []) (wr := []) d_Mod_isRecord_90 (g_Mod_at hl G h m_rels m_openRels m_closeRels m_openRel m_closeRel m_comment m_ends m_order m_tape m_count m_nameSize m_names m_size m_data m_looked m_file m_directory m_out m_row m_made m_length m_pressed m_mark m_idSize m_ids m_goalSize m_goals m_value m_faults m_reached v_thrown v_taped v_lookedSize v_fileSize v_directorySize v_outSize v_rowSize v_bitAt v_bitEnd v_why v_madeSize v_firstCount v_secondCount v_heldBits v_heldCount v_pressedSize v_at v_bad v_markSize v_relationCount v_valueSize v_faultCount a_row ix85 2 (by first | (with_reducible assumption) | omega (splitDisjunctions := false) | assumption | omega | decide) (by first | (with_reducible assumption) | omega (splitDisjunctions := false) | assumption | omega | decide) (by first | (with_reducible assumption) | omega (splitDisjunctions := false) | assumption | omega | decide) (by first | (with_reducible assumption) | omega (splitDisjunctions := false) | assumption | omega | decide) F_a_row) rfl rfl [0, 1] [] (by decide) rfl rfl rfl (by decide) (by decide) k_1525 rfl k_128 k_1522 k_1524 k_88 ⟨rfl, hy_Mod_at⟩ (by decide) rfl rfl (Nat.le_of_ble_eq_true rfl) (by decide) (fun v9 ux87 ch86 => ?_)
        obtain ⟨r_88, rfl⟩ : ∃ z9, z9 = ux87 := ⟨_, rfl⟩
        obtain ⟨ech86, ch86⟩ := ch86
        have ech86 : v9 = some (.long r_88) := ech86
        subst ech86
        obtain ⟨fh89, fh90, fh91⟩ : (r_88.toInt = av a_row ix85.toInt (2 : Int32).toInt.toNat) ∧ (0 ≤ r_88.toInt) ∧ (r_88.toInt < 4294967296) := ch86
        have w28 : r_88.toInt = aw A (aw A (e.toInt + 42) 4 + 28) 2 := by rw [fh89, n2, show ix85.toInt = aw A (e.toInt + 42) 4 + 28 by (first | exact omg_b41b977653 u42 tix30 tix85 | omega)]; exact av_A hA 2 (by (first | exact omg_33aafddf24 v2 fh5 u42 | omega)) (by (first | exact omg_f87dae16f4 hZ2 v3 v4 u42 u28 tix15 tjx16 tjx17 tjx18 fh23 tjx26 tjx27 lwx29 | omega))
        refine pb_eq (pc' := 93) (lo' := [(6, .int ix30), (5, .int ix15), (3, .long r_4), (0, .ref h), (1, .int e), (2, .int bg)]) (rest' := [.long r_88]) (ws' := [(h, .inr (10, [.ref m_rels, .ref m_openRels, .ref m_closeRels, .ref m_openRel, .ref m_closeRel, .ref m_comment, .ref m_ends, .ref m_order, .int v_thrown, .int v_taped, .ref m_tape, .ref m_count, .ref m_nameSize, .ref m_names, .ref m_size, .ref m_data, .int v_lookedSize, .ref m_looked, .int v_fileSize, .ref m_file, .int v_directorySize, .ref m_directory, .int v_outSize, .ref m_out, .int v_rowSize, .ref m_row, .int v_bitAt, .int v_bitEnd, .int v_why, .int v_madeSize, .ref m_made, .ref m_length, .int v_firstCount, .int v_secondCount, .int v_heldBits, .int v_heldCount, .int v_pressedSize, .ref m_pressed, .int v_at, .int v_bad, .int v_markSize, .ref m_mark, .int v_relationCount, .ref m_idSize, .ref m_ids, .ref m_goalSize, .ref m_goals, .int v_valueSize, .ref m_value, .int v_faultCount, .ref m_faults, .ref m_reached])), (m_row, .inl (G.2.1, 20000, .inl a_row))]) ?_
        refine pb_lconst (pc := 93) (v := 0) d_Mod_isRecord_93 (by decide) ?_
        refine pb_lcmp (pc := 94) d_Mod_isRecord_94 ?_
        refine pb_topi (fun ix92 eix92 => ?_)
        have tix92 : (ix92.toInt < 0 ↔ r_88.toInt < 0) ∧ (ix92.toInt = 0 ↔ r_88.toInt = 0) ∧ (0 < ix92.toInt ↔ 0 < r_88.toInt) := tl_cmp eix92 rfl (by decide)
        refine pb_if_ne (pc := 95) (tgt := 102) d_Mod_isRecord_95 (by decide) (fun wx93 => ?_) (fun wx93 => ?_)
        · have twx93 : ¬ ix92.toInt = 0 := fun z9 => wx93 ((ti_eq rfl (by decide)).mpr z9)
          have lwx93 : ¬ r_88.toInt = 0 := fun z9 => twx93 (tix92.2.1.mpr z9)
          clear tix92 twx93
          refine pb_iconst (pc := 102) (v := 0) d_Mod_isRecord_102 (by decide) ?_
          refine pb_istore (pc := 103) (lo' := [(7, .int 0), (6, .int ix30), (5, .int ix15), (3, .long r_4), (0, .ref h), (1, .int e), (2, .int bg)]) d_Mod_isRecord_103 (by decide) rfl ?_
          refine pb_re (ws' := [(h, .inr (10, [.ref m_rels, .ref m_openRels, .ref m_closeRels, .ref m_openRel, .ref m_closeRel, .ref m_comment, .ref m_ends, .ref m_order, .int v_thrown, .int v_taped, .ref m_tape, .ref m_count, .ref m_nameSize, .ref m_names, .ref m_size, .ref m_data, .int v_lookedSize, .ref m_looked, .int v_fileSize, .ref m_file, .int v_directorySize, .ref m_directory, .int v_outSize, .ref m_out, .int v_rowSize, .ref m_row, .int v_bitAt, .int v_bitEnd, .int v_why, .int v_madeSize, .ref m_made, .ref m_length, .int v_firstCount, .int v_secondCount, .int v_heldBits, .int v_heldCount, .int v_pressedSize, .ref m_pressed, .int v_at, .int v_bad, .int v_markSize, .ref m_mark, .int v_relationCount, .ref m_idSize, .ref m_ids, .ref m_goalSize, .ref m_goals, .int v_valueSize, .ref m_value, .int v_faultCount, .ref m_faults, .ref m_reached])), (m_row, .inl (G.2.1, 20000, .inl a_row))]) (lo' := [(7, .int 0), (6, .int ix30), (5, .int ix15), (0, .ref h), (1, .int e), (2, .int bg)]) [0, 1] [0, 1, 2, 4, 5, 6] (by decide) rfl rfl rfl ?_
          exact hJ105_31 0 ix30 ix15 (by first | (with_reducible assumption) | omega (splitDisjunctions := false) | assumption | omega | decide) (by first | (with_reducible assumption) | omega (splitDisjunctions := false) | assumption | (first | exact omg_99b4580df8 fh5 tix30 | omega) | decide) (by first | (with_reducible assumption) | omega (splitDisjunctions := false) | assumption | omega | decide) (by first | (with_reducible assumption) | (first | exact omg_3b13f7bd3e fh5 fh12 tix15 tjx16 tjx17 tjx18 fh23 tjx26 tjx27 lwx29 | omega (splitDisjunctions := false)) | assumption | omega | decide) (hid_i (by first | exact fun q9 => absurd q9 (by decide) | exact fun _ => ⟨by omega, by omega, by omega⟩)) (hid_i (by first | exact fun q9 => absurd q9 (by decide) | exact fun _ q9 => (by obtain ⟨y1, y2, y3⟩ := q9; (first | exact omg_acd30192c0 w28 lwx93 y3 | omega)))) (by first | (with_reducible assumption) | omega (splitDisjunctions := false) | assumption | omega | decide) (by first | (with_reducible assumption) | omega (splitDisjunctions := false) | assumption | (first | exact omg_99b4580df8 u42 tix30 | omega) | decide) (by first | (with_reducible assumption) | (first | exact omg_3b13f7bd3e u42 u28 tix15 tjx16 tjx17 tjx18 u20 tjx26 tjx27 lwx29 | omega (splitDisjunctions := false)) | assumption | omega | decide)
        · have twx93 : ix92.toInt = 0 := (ti_eq rfl (by decide)).mp wx93
          have lwx93 : r_88.toInt = 0 := tix92.2.1.mp twx93
          clear tix92 twx93
          refine pb_iconst (pc := 98) (v := 1) d_Mod_isRecord_98 (by decide) ?_
          refine pb_goto (pc := 99) (tgt := 103) d_Mod_isRecord_99 (by decide) ?_
          refine pb_istore (pc := 103) (lo' := [(7, .int 1), (6, .int ix30), (5, .int ix15), (3, .long r_4), (0, .ref h), (1, .int e), (2, .int bg)]) d_Mod_isRecord_103 (by decide) rfl ?_
          refine pb_re (ws' := [(h, .inr (10, [.ref m_rels, .ref m_openRels, .ref m_closeRels, .ref m_openRel, .ref m_closeRel, .ref m_comment, .ref m_ends, .ref m_order, .int v_thrown, .int v_taped, .ref m_tape, .ref m_count, .ref m_nameSize, .ref m_names, .ref m_size, .ref m_data, .int v_lookedSize, .ref m_looked, .int v_fileSize, .ref m_file, .int v_directorySize, .ref m_directory, .int v_outSize, .ref m_out, .int v_rowSize, .ref m_row, .int v_bitAt, .int v_bitEnd, .int v_why, .int v_madeSize, .ref m_made, .ref m_length, .int v_firstCount, .int v_secondCount, .int v_heldBits, .int v_heldCount, .int v_pressedSize, .ref m_pressed, .int v_at, .int v_bad, .int v_markSize, .ref m_mark, .int v_relationCount, .ref m_idSize, .ref m_ids, .ref m_goalSize, .ref m_goals, .int v_valueSize, .ref m_value, .int v_faultCount, .ref m_faults, .ref m_reached])), (m_row, .inl (G.2.1, 20000, .inl a_row))]) (lo' := [(7, .int 1), (6, .int ix30), (5, .int ix15), (0, .ref h), (1, .int e), (2, .int bg)]) [0, 1] [0, 1, 2, 4, 5, 6] (by decide) rfl rfl rfl ?_
          exact hJ105_31 1 ix30 ix15 (by first | (with_reducible assumption) | omega (splitDisjunctions := false) | assumption | omega | decide) (by first | (with_reducible assumption) | omega (splitDisjunctions := false) | assumption | omega | decide) (by first | (with_reducible assumption) | omega (splitDisjunctions := false) | assumption | omega | decide) (by first | (with_reducible assumption) | (first | exact omg_3b13f7bd3e fh5 fh12 tix15 tjx16 tjx17 tjx18 fh23 tjx26 tjx27 lwx29 | omega (splitDisjunctions := false)) | assumption | omega | decide) (hid_i (by first | exact fun q9 => absurd q9 (by decide) | exact fun _ => ⟨by omega, by omega, by (first | exact omg_3ece37706e w28 lwx93 | omega)⟩)) (hid_i (by first | exact fun q9 => absurd q9 (by decide) | exact fun _ q9 => (by obtain ⟨y1, y2, y3⟩ := q9; omega))) (by first | (with_reducible assumption) | omega (splitDisjunctions := false) | assumption | omega | decide) (by first | (with_reducible assumption) | omega (splitDisjunctions := false) | assumption | omega | decide) (by first | (with_reducible assumption) | omega (splitDisjunctions := false) | assumption | omega | decide)
  · have twx29 : ¬ ix28.toInt ≤ 0 := fun z9 => wx29 ((ti_le rfl (by decide)).mpr z9)
    have lwx29 : jx27.toInt < jx26.toInt := tix28.2.2.mp (Int.not_le.mp twx29)
    clear tix28 twx29
    refine pb_iconst (pc := 47) (v := 0) d_Mod_isRecord_47 (by decide) ?_
    exact pb_iret (pc := 48) hQ d_Mod_isRecord_48 rfl rfl (0) ⟨rfl, (by (try dsimp only); first | done | (with_reducible assumption) | omega (splitDisjunctions := false) | assumption | omega | decide), (by (try dsimp only); first | done | (with_reducible assumption) | exact fun q9 => absurd q9 (by assumption) | exact fun q9 => absurd (by assumption) q9 | exact fun _ => (by omega (splitDisjunctions := false)) | omega (splitDisjunctions := false) | assumption | omega | decide), (show (0 : Int32).toInt = 1 → rr_ A bg.toInt e.toInt from (fun q9 => absurd q9 (by omega))), (show (0 : Int32).toInt = 0 → ¬ rr_ A bg.toInt e.toInt from (fun _ => rr_n1 (by omega)))⟩ [0, 1] (by decide) rfl rfl (by decide) (by decide)
/-! ROWS OF NUMBERS -/
theorem omg_f55ad67f03 {x0 : Int} {x1 : Int} {x2 : Int} {x3 : Int} (a0 : ((0 : Int) ≤ x0)) (a1 : (((x0 + (46 : Int)) + x1) ≤ (20000 : Int))) (a2 : (x2 = x1)) (a3 : (x3 = x2)) (a4 : (((1 : Int) ≤ x3) ∧ (x3 ≤ (24 : Int)))) : (((-(2147483648 : Int)) ≤ (x0 + (46 : Int))) ∧ ((x0 + (46 : Int)) < (2147483648 : Int))) := by omega
theorem omg_16dd41dfda {x0 : Int} {x1 : Int} {x2 : Int} {x3 : Int} {x4 : Int} (a0 : (((x0 + (46 : Int)) + x1) ≤ x2)) (a1 : (x3 = x1)) (a2 : (x4 = x3)) : (((x0 + (46 : Int)) + x4) ≤ x2) := by omega
theorem omg_6e79212e61 {x0 : Int} (a0 : ((0 : Int) ≤ x0)) : ((0 : Int) ≤ (x0 + (42 : Int))) := by omega
theorem omg_d79b3ca762 {x0 : Int} {x1 : Int} {x2 : Int} {x3 : Int} {x4 : Int} {x5 : Int} {x6 : Int} {x7 : Int} (a0 : (x0 ≤ (20000 : Int))) (a1 : (((0 : Int) ≤ x1) ∧ (x1 < (4294967296 : Int)))) (a2 : (((0 : Int) ≤ x2) ∧ (x2 < (4294967296 : Int)))) (a3 : ((((x1 + (30 : Int)) + x3) + x2) ≤ x0)) (a4 : (x4 = x3)) (a5 : (x5 = x4)) (a6 : (((1 : Int) ≤ x5) ∧ (x5 ≤ (24 : Int)))) (a7 : (x6 = x1)) (a8 : (x7 = x6)) : (((-(2147483648 : Int)) ≤ (x7 + (30 : Int))) ∧ ((x7 + (30 : Int)) < (2147483648 : Int))) := by omega
theorem omg_3216867316 {x0 : Int} {x1 : Int} {x2 : Int} {x3 : Int} {x4 : Int} {x5 : Int} {x6 : Int} {x7 : Int} {x8 : Int} (a0 : (x0 ≤ (20000 : Int))) (a1 : (((0 : Int) ≤ x1) ∧ (x1 < (4294967296 : Int)))) (a2 : (((0 : Int) ≤ x2) ∧ (x2 < (4294967296 : Int)))) (a3 : ((((x1 + (30 : Int)) + x3) + x2) ≤ x0)) (a4 : (x4 = x3)) (a5 : (x5 = x4)) (a6 : (((1 : Int) ≤ x5) ∧ (x5 ≤ (24 : Int)))) (a7 : (x6 = x1)) (a8 : (x7 = x6)) (a9 : (x8 = (x7 + (30 : Int)))) : (((-(2147483648 : Int)) ≤ (x8 + x5)) ∧ ((x8 + x5) < (2147483648 : Int))) := by omega
theorem omg_2878dfff3a {x0 : Int} {x1 : Int} {x2 : Int} {x3 : Int} {x4 : Int} {x5 : Int} {x6 : Int} {x7 : Int} {x8 : Int} (a0 : (x0 ≤ (20000 : Int))) (a1 : (((0 : Int) ≤ x1) ∧ (x1 < (4294967296 : Int)))) (a2 : ((((x2 + (30 : Int)) + x3) + x4) ≤ x0)) (a3 : (x5 = x3)) (a4 : (x6 = x5)) (a5 : (((1 : Int) ≤ x6) ∧ (x6 ≤ (24 : Int)))) (a6 : (x7 = x1)) (a7 : (x7 = x2)) (a8 : (x8 = x4)) : (x8 < (2147483648 : Int)) := by omega
theorem omg_497c4f4f23 {x0 : Int} {x1 : Int} {x2 : Int} {x3 : Int} (a0 : ((0 : Int) ≤ x0)) (a1 : (((x0 + (46 : Int)) + x1) ≤ (20000 : Int))) (a2 : (((0 : Int) ≤ x2) ∧ (x2 ≤ (65535 : Int)))) (a3 : (x3 = x1)) (a4 : (x3 = x2)) : (((-(2147483648 : Int)) ≤ (x0 + (24 : Int))) ∧ ((x0 + (24 : Int)) < (2147483648 : Int))) := by omega
theorem omg_c86646b5b5 {x0 : Int} {x1 : Int} {x2 : Int} {x3 : Int} (a0 : ((0 : Int) ≤ x0)) (a1 : (((x0 + (46 : Int)) + x1) ≤ (20000 : Int))) (a2 : (((0 : Int) ≤ x2) ∧ (x2 ≤ (65535 : Int)))) (a3 : (x3 = x1)) (a4 : (x3 = x2)) : (((-(2147483648 : Int)) ≤ (x0 + (16 : Int))) ∧ ((x0 + (16 : Int)) < (2147483648 : Int))) := by omega
theorem omg_8e598dd43e {x0 : Int} {x1 : Int} {x2 : Int} {x3 : Int} {x4 : Int} {x5 : Int} {x6 : Int} (a0 : (x0 ≤ x1)) (a1 : ((((x2 + (30 : Int)) + x3) + x4) ≤ x0)) (a2 : (x5 = x4)) (a3 : (x6 < x5)) : ((((x2 + (30 : Int)) + x3) + x6) < x1) := by omega
theorem omg_939c5dc72a {x0 : Int} {x1 : Int} {x2 : Int} {x3 : Int} {x4 : Int} {x5 : Int} {x6 : Int} (a0 : (((0 : Int) ≤ x0) ∧ (x0 < (4294967296 : Int)))) (a1 : (x1 = x2)) (a2 : (x3 = x1)) (a3 : (((1 : Int) ≤ x3) ∧ (x3 ≤ (24 : Int)))) (a4 : (x4 = x0)) (a5 : (x4 = x5)) (a6 : ((0 : Int) ≤ x6)) : ((0 : Int) ≤ (((x5 + (30 : Int)) + x2) + x6)) := by omega
theorem omg_4e7878a853 {x0 : Int} {x1 : Int} {x2 : Int} {x3 : Int} {x4 : Int} {x5 : Int} {x6 : Int} {x7 : Int} (a0 : (x0 = x1)) (a1 : (x2 = x0)) (a2 : (x3 = x4)) (a3 : (x5 = x1)) (a4 : (x6 = x2)) (a5 : ((x7 = (0 : Int)) ↔ (x6 = x3))) (a6 : (¬ (x7 = (0 : Int)))) : (¬ (x5 = x4)) := by omega
theorem omg_a15b2cc0d6 {x0 : Int} (a0 : (((1 : Int) ≤ x0) ∧ (x0 ≤ (24 : Int)))) : (x0 ≤ (8000 : Int)) := by omega
theorem omg_a009f5a072 {x0 : Int} (a0 : (((1 : Int) ≤ x0) ∧ (x0 ≤ (24 : Int)))) : ((0 : Int) ≤ x0) := by omega
theorem omg_d430f5e298 {x0 : Int} {x1 : Int} {x2 : Int} {x3 : Int} (a0 : (x0 = x1)) (a1 : (x2 = x0)) (a2 : (x3 = x1)) : (x2 = x3) := by omega
theorem omg_8f1e4e2792 {x0 : Int} {x1 : Int} {x2 : Int} {x3 : Int} {x4 : Int} {x5 : Int} {x6 : Int} {x7 : Int} (a0 : (x0 = x1)) (a1 : (x2 = x0)) (a2 : (x3 = x4)) (a3 : (x5 = x3)) (a4 : (x6 = (x5 + (30 : Int)))) (a5 : (x7 = (x6 + x2))) : (x7 = ((x4 + (30 : Int)) + x1)) := by omega
theorem omg_09636e42cf {x0 : Int} {x1 : Int} {x2 : Int} {x3 : Int} {x4 : Int} {x5 : Int} (a0 : (x0 = x1)) (a1 : (x2 = x0)) (a2 : ((0 : Int) ≤ x3)) (a3 : (x4 = x1)) (a4 : (x5 = x2)) (a5 : (x5 = x3)) : ((0 : Int) ≤ x4) := by omega
theorem omg_ea31d97ab9 {x0 : Int} {x1 : Int} {x2 : Int} {x3 : Int} {x4 : Int} {x5 : Int} {x6 : Int} (a0 : (x0 = x1)) (a1 : (x2 = x0)) (a2 : (x3 = x4)) (a3 : (x5 = x1)) (a4 : (x6 = x2)) (a5 : (x6 = x3)) : (x5 = x4) := by omega
theorem omg_4410749037 {x0 : Int} {x1 : Int} {x2 : Int} {x3 : Int} {x4 : Int} {x5 : Int} {x6 : Int} {x7 : Int} {x8 : Int} {x9 : Int} {x10 : Int} {x11 : Int} {x12 : Int} {x13 : Int} (a0 : (x0 ≤ (20000 : Int))) (a1 : (((0 : Int) ≤ x1) ∧ (x1 < (4294967296 : Int)))) (a2 : (((0 : Int) ≤ x2) ∧ (x2 < (4294967296 : Int)))) (a3 : ((((x3 + (30 : Int)) + x4) + x5) ≤ x0)) (a4 : (x6 = x4)) (a5 : (x7 = x6)) (a6 : (((1 : Int) ≤ x7) ∧ (x7 ≤ (24 : Int)))) (a7 : (x8 = x1)) (a8 : (x8 = x3)) (a9 : (x9 = x8)) (a10 : (x10 = (x9 + (30 : Int)))) (a11 : (x11 = (x10 + x7))) (a12 : (x12 = x2)) (a13 : (x12 = x5)) (a14 : (x13 = x12)) : (((-(2147483648 : Int)) ≤ (x11 + x13)) ∧ ((x11 + x13) < (2147483648 : Int))) := by omega
theorem omg_54fabfa9c1 {x0 : Int} {x1 : Int} {x2 : Int} {x3 : Int} {x4 : Int} {x5 : Int} {x6 : Int} {x7 : Int} {x8 : Int} {x9 : Int} {x10 : Int} {x11 : Int} (a0 : (x0 = x1)) (a1 : (x2 = x0)) (a2 : (x3 = x4)) (a3 : (x5 = x3)) (a4 : (x6 = (x5 + (30 : Int)))) (a5 : (x7 = (x6 + x2))) (a6 : (x8 = x9)) (a7 : (x10 = x8)) (a8 : (x11 = (x7 + x10))) : ((x11 - ((x4 + (30 : Int)) + x1)) = x9) := by omega
theorem omg_25cdedd03f {x0 : Int} {x1 : Int} {x2 : Int} {x3 : Int} {x4 : Int} (a0 : (x0 = x1)) (a1 : (x2 = x1)) (a2 : ((0 : Int) < x0)) (a3 : (x2 = (0 : Int))) : (¬ (x3 = x4)) := by omega
theorem omg_3ebf985e65 {x0 : Int} {x1 : Int} {x2 : Int} {x3 : Int} {x4 : Int} {x5 : Int} (a0 : (x0 = x1)) (a1 : (x2 = x3)) (a2 : (x4 = x3)) (a3 : ((x5 = (0 : Int)) ↔ (x4 = x0))) (a4 : (¬ (x5 = (0 : Int)))) : (¬ (x2 = x1)) := by omega
theorem omg_47b9bda020 {x0 : Int} {x1 : Int} (a0 : (x0 = x1)) : (x1 = x0) := by omega
theorem omg_ca4a591670 {x0 : Int} {x1 : Int} {x2 : Int} {x3 : Int} {x4 : Int} (a0 : (x0 = x1)) (a1 : (x2 = x3)) (a2 : (x4 = x3)) (a3 : (x4 = x0)) : (x2 = x1) := by omega
theorem d_Mod_entryFault_0 : decode prog_12_method_57_code 0 = .ok (.aload_n 0, 1) := by decide +kernel
theorem d_Mod_entryFault_1 : decode prog_12_method_57_code 1 = .ok (.iload_n 1, 1) := by decide +kernel
theorem d_Mod_entryFault_2 : decode prog_12_method_57_code 2 = .ok (.iload_n 2, 1) := by decide +kernel
theorem d_Mod_entryFault_3 : decode prog_12_method_57_code 3 = .ok (.invokevirtual 309, 3) := by decide +kernel
theorem k_1533 : (Jvm.Cond.methodLink "PackageBookModel" (309 : Nat) ({ cls := "PackageBookModel", name := "isRecord", desc := "(II)Z" } : Jvm.MethodName)) ∈ uW := uW_c5 216 rfl (by decide +kernel)
theorem k_1536 : (Jvm.Cond.code ({ cls := "PackageBookModel", name := "isRecord", desc := "(II)Z" } : Jvm.MethodName) prog_12_method_56_code (9 : Nat) (Option.some Jvm.ClassFile.FieldType.boolean)) ∈ uW := uW_c5 219 rfl (by decide +kernel)
theorem k_1535 : (Jvm.Cond.instanceMethod ({ cls := "PackageBookModel", name := "isRecord", desc := "(II)Z" } : Jvm.MethodName)) ∈ uW := uW_c5 218 rfl (by decide +kernel)
theorem k_90 : Cond.selects "PackageBookModel" ⟨"PackageBookModel", "isRecord", "(II)Z"⟩ ⟨"PackageBookModel", "isRecord", "(II)Z"⟩ ∈ uW := uW_of 90 (by decide +kernel) (by decide +kernel)
theorem hy_Mod_isRecord : (y_Mod_isRecord).cls ≠ "java/lang/invoke/MethodHandle" ∧ (y_Mod_isRecord).cls ≠ "java/lang/invoke/VarHandle" ∧ (parseMethodDescriptor (y_Mod_isRecord).desc).map (fun d => d.parameters.length) = some 2 := by decide +kernel
theorem d_Mod_entryFault_6 : decode prog_12_method_57_code 6 = .ok (.ifCond .ne 5, 3) := by decide +kernel
theorem d_Mod_entryFault_11 : decode prog_12_method_57_code 11 = .ok (.aload_n 0, 1) := by decide +kernel
theorem d_Mod_entryFault_12 : decode prog_12_method_57_code 12 = .ok (.iload_n 1, 1) := by decide +kernel
theorem d_Mod_entryFault_13 : decode prog_12_method_57_code 13 = .ok (.bipush 28, 2) := by decide +kernel
theorem d_Mod_entryFault_15 : decode prog_12_method_57_code 15 = .ok (.iadd, 1) := by decide +kernel
theorem d_Mod_entryFault_16 : decode prog_12_method_57_code 16 = .ok (.iconst 2, 1) := by decide +kernel
theorem d_Mod_entryFault_17 : decode prog_12_method_57_code 17 = .ok (.invokevirtual 299, 3) := by decide +kernel
theorem d_Mod_entryFault_20 : decode prog_12_method_57_code 20 = .ok (.l2i, 1) := by decide +kernel
theorem d_Mod_entryFault_21 : decode prog_12_method_57_code 21 = .ok (.istore_n 3, 1) := by decide +kernel
theorem d_Mod_entryFault_22 : decode prog_12_method_57_code 22 = .ok (.aload_n 0, 1) := by decide +kernel
theorem d_Mod_entryFault_23 : decode prog_12_method_57_code 23 = .ok (.getfield 66, 3) := by decide +kernel
theorem d_Mod_entryFault_26 : decode prog_12_method_57_code 26 = .ok (.iload_n 1, 1) := by decide +kernel
theorem d_Mod_entryFault_27 : decode prog_12_method_57_code 27 = .ok (.bipush 46, 2) := by decide +kernel
theorem d_Mod_entryFault_29 : decode prog_12_method_57_code 29 = .ok (.iadd, 1) := by decide +kernel
theorem d_Mod_entryFault_30 : decode prog_12_method_57_code 30 = .ok (.iload_n 3, 1) := by decide +kernel
theorem d_Mod_entryFault_31 : decode prog_12_method_57_code 31 = .ok (.invokestatic 132, 3) := by decide +kernel
theorem d_Mod_entryFault_34 : decode prog_12_method_57_code 34 = .ok (.ifCond .ne 5, 3) := by decide +kernel
theorem d_Mod_entryFault_39 : decode prog_12_method_57_code 39 = .ok (.aload_n 0, 1) := by decide +kernel
theorem d_Mod_entryFault_40 : decode prog_12_method_57_code 40 = .ok (.aload_n 0, 1) := by decide +kernel
theorem d_Mod_entryFault_41 : decode prog_12_method_57_code 41 = .ok (.getfield 66, 3) := by decide +kernel
theorem d_Mod_entryFault_44 : decode prog_12_method_57_code 44 = .ok (.iload_n 1, 1) := by decide +kernel
theorem d_Mod_entryFault_45 : decode prog_12_method_57_code 45 = .ok (.bipush 46, 2) := by decide +kernel
theorem d_Mod_entryFault_47 : decode prog_12_method_57_code 47 = .ok (.iadd, 1) := by decide +kernel
theorem d_Mod_entryFault_48 : decode prog_12_method_57_code 48 = .ok (.iload_n 3, 1) := by decide +kernel
theorem d_Mod_entryFault_49 : decode prog_12_method_57_code 49 = .ok (.invokevirtual 136, 3) := by decide +kernel
theorem d_Mod_entryFault_52 : decode prog_12_method_57_code 52 = .ok (.aload_n 0, 1) := by decide +kernel
theorem d_Mod_entryFault_53 : decode prog_12_method_57_code 53 = .ok (.iconst 1, 1) := by decide +kernel
theorem d_Mod_entryFault_54 : decode prog_12_method_57_code 54 = .ok (.invokevirtual 121, 3) := by decide +kernel
theorem d_Mod_entryFault_57 : decode prog_12_method_57_code 57 = .ok (.ifCond .lt 5, 3) := by decide +kernel
theorem d_Mod_entryFault_62 : decode prog_12_method_57_code 62 = .ok (.aload_n 0, 1) := by decide +kernel
theorem d_Mod_entryFault_63 : decode prog_12_method_57_code 63 = .ok (.iload_n 1, 1) := by decide +kernel
theorem d_Mod_entryFault_64 : decode prog_12_method_57_code 64 = .ok (.bipush 42, 2) := by decide +kernel
theorem d_Mod_entryFault_66 : decode prog_12_method_57_code 66 = .ok (.iadd, 1) := by decide +kernel
theorem d_Mod_entryFault_67 : decode prog_12_method_57_code 67 = .ok (.iconst 4, 1) := by decide +kernel
theorem d_Mod_entryFault_68 : decode prog_12_method_57_code 68 = .ok (.invokevirtual 299, 3) := by decide +kernel
theorem d_Mod_entryFault_71 : decode prog_12_method_57_code 71 = .ok (.l2i, 1) := by decide +kernel
theorem d_Mod_entryFault_72 : decode prog_12_method_57_code 72 = .ok (.bipush 30, 2) := by decide +kernel
theorem d_Mod_entryFault_74 : decode prog_12_method_57_code 74 = .ok (.iadd, 1) := by decide +kernel
theorem d_Mod_entryFault_75 : decode prog_12_method_57_code 75 = .ok (.iload_n 3, 1) := by decide +kernel
theorem d_Mod_entryFault_76 : decode prog_12_method_57_code 76 = .ok (.iadd, 1) := by decide +kernel
theorem d_Mod_entryFault_77 : decode prog_12_method_57_code 77 = .ok (.istore 4, 2) := by decide +kernel
theorem d_Mod_entryFault_79 : decode prog_12_method_57_code 79 = .ok (.aload_n 0, 1) := by decide +kernel
theorem d_Mod_entryFault_80 : decode prog_12_method_57_code 80 = .ok (.iload_n 1, 1) := by decide +kernel
theorem d_Mod_entryFault_81 : decode prog_12_method_57_code 81 = .ok (.bipush 20, 2) := by decide +kernel
theorem d_Mod_entryFault_83 : decode prog_12_method_57_code 83 = .ok (.iadd, 1) := by decide +kernel
theorem d_Mod_entryFault_84 : decode prog_12_method_57_code 84 = .ok (.iconst 4, 1) := by decide +kernel
theorem d_Mod_entryFault_85 : decode prog_12_method_57_code 85 = .ok (.invokevirtual 299, 3) := by decide +kernel
theorem d_Mod_entryFault_88 : decode prog_12_method_57_code 88 = .ok (.l2i, 1) := by decide +kernel
theorem d_Mod_entryFault_89 : decode prog_12_method_57_code 89 = .ok (.istore 5, 2) := by decide +kernel
theorem d_Mod_entryFault_91 : decode prog_12_method_57_code 91 = .ok (.aload_n 0, 1) := by decide +kernel
theorem d_Mod_entryFault_92 : decode prog_12_method_57_code 92 = .ok (.iload_n 1, 1) := by decide +kernel
theorem d_Mod_entryFault_93 : decode prog_12_method_57_code 93 = .ok (.bipush 24, 2) := by decide +kernel
theorem d_Mod_entryFault_95 : decode prog_12_method_57_code 95 = .ok (.iadd, 1) := by decide +kernel
theorem d_Mod_entryFault_96 : decode prog_12_method_57_code 96 = .ok (.iconst 4, 1) := by decide +kernel
theorem d_Mod_entryFault_97 : decode prog_12_method_57_code 97 = .ok (.invokevirtual 299, 3) := by decide +kernel
theorem d_Mod_entryFault_100 : decode prog_12_method_57_code 100 = .ok (.lstore 6, 2) := by decide +kernel
theorem d_Mod_entryFault_102 : decode prog_12_method_57_code 102 = .ok (.aload_n 0, 1) := by decide +kernel
theorem d_Mod_entryFault_103 : decode prog_12_method_57_code 103 = .ok (.iload_n 1, 1) := by decide +kernel
theorem d_Mod_entryFault_104 : decode prog_12_method_57_code 104 = .ok (.bipush 16, 2) := by decide +kernel
theorem d_Mod_entryFault_106 : decode prog_12_method_57_code 106 = .ok (.iadd, 1) := by decide +kernel
theorem d_Mod_entryFault_107 : decode prog_12_method_57_code 107 = .ok (.iconst 4, 1) := by decide +kernel
theorem d_Mod_entryFault_108 : decode prog_12_method_57_code 108 = .ok (.invokevirtual 299, 3) := by decide +kernel
theorem d_Mod_entryFault_111 : decode prog_12_method_57_code 111 = .ok (.l2i, 1) := by decide +kernel
theorem d_Mod_entryFault_112 : decode prog_12_method_57_code 112 = .ok (.istore 8, 2) := by decide +kernel
theorem d_Mod_entryFault_114 : decode prog_12_method_57_code 114 = .ok (.aload_n 0, 1) := by decide +kernel
theorem d_Mod_entryFault_115 : decode prog_12_method_57_code 115 = .ok (.iload_n 1, 1) := by decide +kernel
theorem d_Mod_entryFault_116 : decode prog_12_method_57_code 116 = .ok (.bipush 10, 2) := by decide +kernel
theorem d_Mod_entryFault_118 : decode prog_12_method_57_code 118 = .ok (.iadd, 1) := by decide +kernel
theorem d_Mod_entryFault_119 : decode prog_12_method_57_code 119 = .ok (.iconst 2, 1) := by decide +kernel
theorem d_Mod_entryFault_120 : decode prog_12_method_57_code 120 = .ok (.invokevirtual 299, 3) := by decide +kernel
theorem d_Mod_entryFault_123 : decode prog_12_method_57_code 123 = .ok (.ldc2_w 283, 3) := by decide +kernel
theorem d_Mod_entryFault_126 : decode prog_12_method_57_code 126 = .ok (.lcmp, 1) := by decide +kernel
theorem d_Mod_entryFault_127 : decode prog_12_method_57_code 127 = .ok (.ifCond .ne 78, 3) := by decide +kernel
theorem d_Mod_entryFault_205 : decode prog_12_method_57_code 205 = .ok (.iload 5, 2) := by decide +kernel
theorem d_Mod_entryFault_207 : decode prog_12_method_57_code 207 = .ok (.i2l, 1) := by decide +kernel
theorem d_Mod_entryFault_208 : decode prog_12_method_57_code 208 = .ok (.lload 6, 2) := by decide +kernel
theorem d_Mod_entryFault_210 : decode prog_12_method_57_code 210 = .ok (.lcmp, 1) := by decide +kernel
theorem d_Mod_entryFault_211 : decode prog_12_method_57_code 211 = .ok (.ifCond .ne 19, 3) := by decide +kernel
theorem d_Mod_entryFault_230 : decode prog_12_method_57_code 230 = .ok (.iconst 5, 1) := by decide +kernel
theorem d_Mod_entryFault_231 : decode prog_12_method_57_code 231 = .ok (.ireturn, 1) := by decide +kernel
theorem d_Mod_entryFault_214 : decode prog_12_method_57_code 214 = .ok (.aload_n 0, 1) := by decide +kernel
theorem d_Mod_entryFault_215 : decode prog_12_method_57_code 215 = .ok (.getfield 66, 3) := by decide +kernel
theorem d_Mod_entryFault_218 : decode prog_12_method_57_code 218 = .ok (.iload 4, 2) := by decide +kernel
theorem d_Mod_entryFault_220 : decode prog_12_method_57_code 220 = .ok (.iload 5, 2) := by decide +kernel
theorem d_Mod_entryFault_222 : decode prog_12_method_57_code 222 = .ok (.invokestatic 149, 3) := by decide +kernel
theorem d_Mod_entryFault_225 : decode prog_12_method_57_code 225 = .ok (.iload 8, 2) := by decide +kernel
theorem d_Mod_entryFault_227 : decode prog_12_method_57_code 227 = .ok (.if_icmp .eq 5, 3) := by decide +kernel
theorem d_Mod_entryFault_232 : decode prog_12_method_57_code 232 = .ok (.aload_n 0, 1) := by decide +kernel
theorem d_Mod_entryFault_233 : decode prog_12_method_57_code 233 = .ok (.iconst 1, 1) := by decide +kernel
theorem d_Mod_entryFault_234 : decode prog_12_method_57_code 234 = .ok (.iload 5, 2) := by decide +kernel
theorem d_Mod_entryFault_236 : decode prog_12_method_57_code 236 = .ok (.invokevirtual 140, 3) := by decide +kernel
theorem d_Mod_entryFault_239 : decode prog_12_method_57_code 239 = .ok (.ifCond .ne 6, 3) := by decide +kernel
theorem d_Mod_entryFault_245 : decode prog_12_method_57_code 245 = .ok (.aload_n 0, 1) := by decide +kernel
theorem d_Mod_entryFault_246 : decode prog_12_method_57_code 246 = .ok (.iconst 1, 1) := by decide +kernel
theorem d_Mod_entryFault_247 : decode prog_12_method_57_code 247 = .ok (.aload_n 0, 1) := by decide +kernel
theorem d_Mod_entryFault_248 : decode prog_12_method_57_code 248 = .ok (.getfield 66, 3) := by decide +kernel
theorem d_Mod_entryFault_251 : decode prog_12_method_57_code 251 = .ok (.iload 4, 2) := by decide +kernel
theorem d_Mod_entryFault_253 : decode prog_12_method_57_code 253 = .ok (.iload 5, 2) := by decide +kernel
theorem d_Mod_entryFault_255 : decode prog_12_method_57_code 255 = .ok (.invokevirtual 144, 3) := by decide +kernel
theorem d_Mod_entryFault_258 : decode prog_12_method_57_code 258 = .ok (.iconst 0, 1) := by decide +kernel
theorem d_Mod_entryFault_259 : decode prog_12_method_57_code 259 = .ok (.ireturn, 1) := by decide +kernel
theorem d_Mod_entryFault_242 : decode prog_12_method_57_code 242 = .ok (.bipush 6, 2) := by decide +kernel
theorem d_Mod_entryFault_244 : decode prog_12_method_57_code 244 = .ok (.ireturn, 1) := by decide +kernel
theorem d_Mod_entryFault_130 : decode prog_12_method_57_code 130 = .ok (.aload_n 0, 1) := by decide +kernel
theorem d_Mod_entryFault_131 : decode prog_12_method_57_code 131 = .ok (.iload 4, 2) := by decide +kernel
theorem d_Mod_entryFault_133 : decode prog_12_method_57_code 133 = .ok (.iload 4, 2) := by decide +kernel
theorem d_Mod_entryFault_135 : decode prog_12_method_57_code 135 = .ok (.iload 5, 2) := by decide +kernel
theorem d_Mod_entryFault_137 : decode prog_12_method_57_code 137 = .ok (.iadd, 1) := by decide +kernel
theorem d_Mod_entryFault_138 : decode prog_12_method_57_code 138 = .ok (.invokevirtual 266, 3) := by decide +kernel
theorem d_Mod_entryFault_141 : decode prog_12_method_57_code 141 = .ok (.ifCond .gt 31, 3) := by decide +kernel
theorem d_Mod_entryFault_172 : decode prog_12_method_57_code 172 = .ok (.iconst 5, 1) := by decide +kernel
theorem d_Mod_entryFault_173 : decode prog_12_method_57_code 173 = .ok (.ireturn, 1) := by decide +kernel
theorem d_Mod_entryFault_144 : decode prog_12_method_57_code 144 = .ok (.aload_n 0, 1) := by decide +kernel
theorem d_Mod_entryFault_145 : decode prog_12_method_57_code 145 = .ok (.getfield 220, 3) := by decide +kernel
theorem d_Mod_entryFault_148 : decode prog_12_method_57_code 148 = .ok (.i2l, 1) := by decide +kernel
theorem d_Mod_entryFault_149 : decode prog_12_method_57_code 149 = .ok (.lload 6, 2) := by decide +kernel
theorem d_Mod_entryFault_151 : decode prog_12_method_57_code 151 = .ok (.lcmp, 1) := by decide +kernel
theorem d_Mod_entryFault_152 : decode prog_12_method_57_code 152 = .ok (.ifCond .ne 20, 3) := by decide +kernel
theorem d_Mod_entryFault_155 : decode prog_12_method_57_code 155 = .ok (.aload_n 0, 1) := by decide +kernel
theorem d_Mod_entryFault_156 : decode prog_12_method_57_code 156 = .ok (.getfield 69, 3) := by decide +kernel
theorem d_Mod_entryFault_159 : decode prog_12_method_57_code 159 = .ok (.iconst 0, 1) := by decide +kernel
theorem d_Mod_entryFault_160 : decode prog_12_method_57_code 160 = .ok (.aload_n 0, 1) := by decide +kernel
theorem d_Mod_entryFault_161 : decode prog_12_method_57_code 161 = .ok (.getfield 220, 3) := by decide +kernel
theorem d_Mod_entryFault_164 : decode prog_12_method_57_code 164 = .ok (.invokestatic 149, 3) := by decide +kernel
theorem d_Mod_entryFault_167 : decode prog_12_method_57_code 167 = .ok (.iload 8, 2) := by decide +kernel
theorem d_Mod_entryFault_169 : decode prog_12_method_57_code 169 = .ok (.if_icmp .eq 5, 3) := by decide +kernel
theorem d_Mod_entryFault_174 : decode prog_12_method_57_code 174 = .ok (.aload_n 0, 1) := by decide +kernel
theorem d_Mod_entryFault_175 : decode prog_12_method_57_code 175 = .ok (.iconst 1, 1) := by decide +kernel
theorem d_Mod_entryFault_176 : decode prog_12_method_57_code 176 = .ok (.aload_n 0, 1) := by decide +kernel
theorem d_Mod_entryFault_177 : decode prog_12_method_57_code 177 = .ok (.getfield 220, 3) := by decide +kernel
theorem d_Mod_entryFault_180 : decode prog_12_method_57_code 180 = .ok (.invokevirtual 140, 3) := by decide +kernel
theorem d_Mod_entryFault_183 : decode prog_12_method_57_code 183 = .ok (.ifCond .ne 6, 3) := by decide +kernel
theorem d_Mod_entryFault_189 : decode prog_12_method_57_code 189 = .ok (.aload_n 0, 1) := by decide +kernel
theorem d_Mod_entryFault_190 : decode prog_12_method_57_code 190 = .ok (.iconst 1, 1) := by decide +kernel
theorem d_Mod_entryFault_191 : decode prog_12_method_57_code 191 = .ok (.aload_n 0, 1) := by decide +kernel
theorem d_Mod_entryFault_192 : decode prog_12_method_57_code 192 = .ok (.getfield 69, 3) := by decide +kernel
theorem d_Mod_entryFault_195 : decode prog_12_method_57_code 195 = .ok (.iconst 0, 1) := by decide +kernel
theorem d_Mod_entryFault_196 : decode prog_12_method_57_code 196 = .ok (.aload_n 0, 1) := by decide +kernel
theorem d_Mod_entryFault_197 : decode prog_12_method_57_code 197 = .ok (.getfield 220, 3) := by decide +kernel
theorem d_Mod_entryFault_200 : decode prog_12_method_57_code 200 = .ok (.invokevirtual 144, 3) := by decide +kernel
theorem d_Mod_entryFault_203 : decode prog_12_method_57_code 203 = .ok (.iconst 0, 1) := by decide +kernel
theorem d_Mod_entryFault_204 : decode prog_12_method_57_code 204 = .ok (.ireturn, 1) := by decide +kernel
theorem d_Mod_entryFault_186 : decode prog_12_method_57_code 186 = .ok (.bipush 6, 2) := by decide +kernel
theorem d_Mod_entryFault_188 : decode prog_12_method_57_code 188 = .ok (.ireturn, 1) := by decide +kernel
theorem d_Mod_entryFault_60 : decode prog_12_method_57_code 60 = .ok (.iconst 4, 1) := by decide +kernel
theorem d_Mod_entryFault_61 : decode prog_12_method_57_code 61 = .ok (.ireturn, 1) := by decide +kernel
theorem d_Mod_entryFault_37 : decode prog_12_method_57_code 37 = .ok (.iconst 4, 1) := by decide +kernel
theorem d_Mod_entryFault_38 : decode prog_12_method_57_code 38 = .ok (.ireturn, 1) := by decide +kernel
theorem d_Mod_entryFault_9 : decode prog_12_method_57_code 9 = .ok (.iconst 3, 1) := by decide +kernel
theorem d_Mod_entryFault_10 : decode prog_12_method_57_code 10 = .ok (.ireturn, 1) := by decide +kernel
abbrev y_Mod_entryFault : MethodName := ⟨"PackageBookModel", "entryFault", "(II)I"⟩
abbrev i_Mod_entryFault : pb_I := (y_Mod_entryFault, prog_12_method_57_code, 9, (some Jvm.ClassFile.FieldType.int), [], { frames := 6, cells := 0, slots := 0, locals := 144 })
set_option maxRecDepth 100000 in
set_option maxHeartbeats 4000000 in
theorem g_Mod_entryFault {l : Launch} (hl : l.stackTraces = false) (G : pb_G) (h : Nat) (m_rels : Nat) (m_openRels : Nat) (m_closeRels : Nat) (m_openRel : Nat) (m_closeRel : Nat) (m_comment : Nat) (m_ends : Nat) (m_order : Nat) (m_tape : Nat) (m_count : Nat) (m_nameSize : Nat) (m_names : Nat) (m_size : Nat) (m_data : Nat) (m_looked : Nat) (m_file : Nat) (m_directory : Nat) (m_out : Nat) (m_row : Nat) (m_made : Nat) (m_length : Nat) (m_pressed : Nat) (m_mark : Nat) (m_idSize : Nat) (m_ids : Nat) (m_goalSize : Nat) (m_goals : Nat) (m_value : Nat) (m_faults : Nat) (m_reached : Nat) (v_thrown : Int32) (v_taped : Int32) (v_lookedSize : Int32) (v_fileSize : Int32) (v_directorySize : Int32) (v_outSize : Int32) (v_rowSize : Int32) (v_bitAt : Int32) (v_bitEnd : Int32) (v_why : Int32) (v_madeSize : Int32) (v_firstCount : Int32) (v_secondCount : Int32) (v_heldBits : Int32) (v_heldCount : Int32) (v_pressedSize : Int32) (v_at : Int32) (v_bad : Int32) (v_markSize : Int32) (v_relationCount : Int32) (v_valueSize : Int32) (v_faultCount : Int32) (a_row : Nat → Int32) (a_count : Nat → Int32) (a_nameSize : Nat → Int32) (a_names : Nat → Int32) (a_looked : Nat → Int32) (a_size : Nat → Int32) (a_data : Nat → Int32) (a_length : Nat → Int32) (a_order : Nat → Int32) (a_made : Nat → Int32) (e : Int32) (bg : Int32) (V : VW_) (A : Int → Int32) (h0 : 0 ≤ e.toInt) (h1 : e.toInt + 46 + av a_row (e.toInt + 28) 2 ≤ 20000) (h2 : bg.toInt ≤ 20000) (R : rM_ 17 (gx a_count 1) a_nameSize a_names a_size a_data V) (hsV : srt_ V) (hA : ∀ j : Int, 0 ≤ j → j < v_rowSize.toInt → A j = gr a_row j) (hB : ∀ j : Int, -128 ≤ (A j).toInt ∧ (A j).toInt ≤ 127) (hy5 : ey_ A e.toInt) (hZ : e.toInt + 46 + aw A (e.toInt + 28) 2 ≤ v_rowSize.toInt) (hZ2 : bg.toInt ≤ v_rowSize.toInt) (I : ms_I 17 (gx a_count 1) a_nameSize a_size a_names) (LI : le_I a_length) (OI : ∀ x : Int, 0 ≤ x → x < 19 → 0 ≤ gx a_order x ∧ gx a_order x ≤ 18) (hO : ∀ j : Int, 0 ≤ j → j < 19 → gx a_order j = od_ j) (y0 : 0 ≤ v_lookedSize.toInt) (y1 : v_lookedSize.toInt ≤ 8000) (d0 : 0 ≤ v_madeSize.toInt) (d1 : v_madeSize.toInt ≤ 4000) (F_a_row : sb_Fit a_row) (F_a_names : sb_Fit a_names) (F_a_looked : sb_Fit a_looked) (F_a_data : sb_Fit a_data) (F_a_order : sb_Fit a_order) (F_a_made : sb_Fit a_made) : Cn l G i_Mod_entryFault [.ref h, .int e, .int bg] [(h, .inr (10, [.ref m_rels, .ref m_openRels, .ref m_closeRels, .ref m_openRel, .ref m_closeRel, .ref m_comment, .ref m_ends, .ref m_order, .int v_thrown, .int v_taped, .ref m_tape, .ref m_count, .ref m_nameSize, .ref m_names, .ref m_size, .ref m_data, .int v_lookedSize, .ref m_looked, .int v_fileSize, .ref m_file, .int v_directorySize, .ref m_directory, .int v_outSize, .ref m_out, .int v_rowSize, .ref m_row, .int v_bitAt, .int v_bitEnd, .int v_why, .int v_madeSize, .ref m_made, .ref m_length, .int v_firstCount, .int v_secondCount, .int v_heldBits, .int v_heldCount, .int v_pressedSize, .ref m_pressed, .int v_at, .int v_bad, .int v_markSize, .ref m_mark, .int v_relationCount, .ref m_idSize, .ref m_ids, .ref m_goalSize, .ref m_goals, .int v_valueSize, .ref m_value, .int v_faultCount, .ref m_faults, .ref m_reached])), (m_row, .inl (G.2.1, 20000, .inl a_row)), (m_count, .inl (G.2.2.1, 2, .inl a_count)), (m_nameSize, .inl (G.2.2.1, 34, .inl a_nameSize)), (m_names, .inl (G.2.1, 816, .inl a_names)), (m_looked, .inl (G.2.1, 40, .inl a_looked)), (m_size, .inl (G.2.2.1, 34, .inl a_size)), (m_data, .inl (G.2.1, 136000, .inl a_data)), (m_length, .inl (G.2.2.1, 420, .inl a_length)), (m_order, .inl (G.2.1, 19, .inl a_order)), (m_made, .inl (G.2.1, 4000, .inl a_made))] (S := Int32 × Int32 × Int32 × Int32 × Int32 × Int32 × Int32 × Int32 × (Nat → Int32) × (Nat → Int32) × (Nat → Int32) × (Nat → Int32) × (Nat → Int32) × (Nat → Int32) × (Nat → Int32) × (Nat → Int32)) (fun rv_ u => rv_ = some (.int u.1) ∧ (ms_I 17 (gx u.2.2.2.2.2.2.2.2.1 1) u.2.2.2.2.2.2.2.2.2.1 u.2.2.2.2.2.2.2.2.2.2.2.2.1 u.2.2.2.2.2.2.2.2.2.2.1) ∧ (gx u.2.2.2.2.2.2.2.2.1 0 = gx a_count 0) ∧ (ot_Z a_nameSize u.2.2.2.2.2.2.2.2.2.1 17) ∧ (ot_Z a_size u.2.2.2.2.2.2.2.2.2.2.2.2.1 17) ∧ (ot_N a_names u.2.2.2.2.2.2.2.2.2.2.1 17) ∧ (le_I u.2.2.2.2.2.2.2.2.2.2.2.2.2.2.1) ∧ (0 ≤ u.2.1.toInt) ∧ (u.2.1.toInt ≤ 8000) ∧ (0 ≤ u.2.2.2.2.2.2.2.1.toInt) ∧ (u.2.2.2.2.2.2.2.1.toInt ≤ 4000) ∧ (0 ≤ u.1.toInt) ∧ (ot_D a_data u.2.2.2.2.2.2.2.2.2.2.2.2.2.1 17) ∧ (hid_ (∃ W : VW_, en_R A bg.toInt e.toInt V u.1.toInt W ∧ (u.1.toInt = 0 → rM_ 17 (gx u.2.2.2.2.2.2.2.2.1 1) u.2.2.2.2.2.2.2.2.2.1 u.2.2.2.2.2.2.2.2.2.2.1 u.2.2.2.2.2.2.2.2.2.2.2.2.1 u.2.2.2.2.2.2.2.2.2.2.2.2.2.1 W))) ∧ (sb_Fit u.2.2.2.2.2.2.2.2.2.2.1) ∧ (sb_Fit u.2.2.2.2.2.2.2.2.2.2.2.1) ∧ (sb_Fit u.2.2.2.2.2.2.2.2.2.2.2.2.2.1) ∧ (sb_Fit u.2.2.2.2.2.2.2.2.2.2.2.2.2.2.2)) (fun u => [(h, .inr (10, [.ref m_rels, .ref m_openRels, .ref m_closeRels, .ref m_openRel, .ref m_closeRel, .ref m_comment, .ref m_ends, .ref m_order, .int v_thrown, .int v_taped, .ref m_tape, .ref m_count, .ref m_nameSize, .ref m_names, .ref m_size, .ref m_data, .int u.2.1, .ref m_looked, .int v_fileSize, .ref m_file, .int v_directorySize, .ref m_directory, .int v_outSize, .ref m_out, .int v_rowSize, .ref m_row, .int u.2.2.1, .int u.2.2.2.1, .int u.2.2.2.2.1, .int u.2.2.2.2.2.2.2.1, .ref m_made, .ref m_length, .int u.2.2.2.2.2.1, .int u.2.2.2.2.2.2.1, .int v_heldBits, .int v_heldCount, .int v_pressedSize, .ref m_pressed, .int v_at, .int v_bad, .int v_markSize, .ref m_mark, .int v_relationCount, .ref m_idSize, .ref m_ids, .ref m_goalSize, .ref m_goals, .int v_valueSize, .ref m_value, .int v_faultCount, .ref m_faults, .ref m_reached])), (m_row, .inl (G.2.1, 20000, .inl a_row)), (m_count, .inl (G.2.2.1, 2, .inl u.2.2.2.2.2.2.2.2.1)), (m_nameSize, .inl (G.2.2.1, 34, .inl u.2.2.2.2.2.2.2.2.2.1)), (m_names, .inl (G.2.1, 816, .inl u.2.2.2.2.2.2.2.2.2.2.1)), (m_looked, .inl (G.2.1, 40, .inl u.2.2.2.2.2.2.2.2.2.2.2.1)), (m_size, .inl (G.2.2.1, 34, .inl u.2.2.2.2.2.2.2.2.2.2.2.2.1)), (m_data, .inl (G.2.1, 136000, .inl u.2.2.2.2.2.2.2.2.2.2.2.2.2.1)), (m_length, .inl (G.2.2.1, 420, .inl u.2.2.2.2.2.2.2.2.2.2.2.2.2.2.1)), (m_order, .inl (G.2.1, 19, .inl a_order)), (m_made, .inl (G.2.1, 4000, .inl u.2.2.2.2.2.2.2.2.2.2.2.2.2.2.2))]) := by
  refine Cn.of hl (by decide +kernel) rfl (Nat.le_of_ble_eq_true rfl) (fun M hQ => ?_)
  refine pb_eq (pc' := 0) (lo' := [(0, .ref h), (1, .int e), (2, .int bg)]) (rest' := []) (ws' := [(h, .inr (10, [.ref m_rels, .ref m_openRels, .ref m_closeRels, .ref m_openRel, .ref m_closeRel, .ref m_comment, .ref m_ends, .ref m_order, .int v_thrown, .int v_taped, .ref m_tape, .ref m_count, .ref m_nameSize, .ref m_names, .ref m_size, .ref m_data, .int v_lookedSize, .ref m_looked, .int v_fileSize, .ref m_file, .int v_directorySize, .ref m_directory, .int v_outSize, .ref m_out, .int v_rowSize, .ref m_row, .int v_bitAt, .int v_bitEnd, .int v_why, .int v_madeSize, .ref m_made, .ref m_length, .int v_firstCount, .int v_secondCount, .int v_heldBits, .int v_heldCount, .int v_pressedSize, .ref m_pressed, .int v_at, .int v_bad, .int v_markSize, .ref m_mark, .int v_relationCount, .ref m_idSize, .ref m_ids, .ref m_goalSize, .ref m_goals, .int v_valueSize, .ref m_value, .int v_faultCount, .ref m_faults, .ref m_reached])), (m_row, .inl (G.2.1, 20000, .inl a_row)), (m_count, .inl (G.2.2.1, 2, .inl a_count)), (m_nameSize, .inl (G.2.2.1, 34, .inl a_nameSize)), (m_names, .inl (G.2.1, 816, .inl a_names)), (m_looked, .inl (G.2.1, 40, .inl a_looked)), (m_size, .inl (G.2.2.1, 34, .inl a_size)), (m_data, .inl (G.2.1, 136000, .inl a_data)), (m_length, .inl (G.2.2.1, 420, .inl a_length)), (m_order, .inl (G.2.1, 19, .inl a_order)), (m_made, .inl (G.2.1, 4000, .inl a_made))]) ?_
  have zl0 : (0 : Int32).toInt = 0 := by decide
  have zl1 : (1 : Int32).toInt = 1 := by decide
  have zl2 : (2 : Int32).toInt = 2 := by decide
  have zl3 : (3 : Int32).toInt = 3 := by decide
  have zl4 : (4 : Int32).toInt = 4 := by decide
  have zl5 : (5 : Int32).toInt = 5 := by decide
  have zl6 : (6 : Int32).toInt = 6 := by decide
  have n4 : (4 : Int32).toInt.toNat = 4 := by decide
  have n2 : (2 : Int32).toInt.toNat = 2 := by decide
  have v1 := av2 a_row (e.toInt + 28)
  have v2 := av4 a_row (e.toInt + 42)
  have v3 := av4 a_row (e.toInt + 20)
  have v4 := aw2 A (e.toInt + 28)
  have v5 := aw4 A (e.toInt + 42)
  have v6 := aw4 A (e.toInt + 20)
  have R1 : rM_ (17 * (1 : Int32).toInt) (gx a_count (1 : Int32).toInt) a_nameSize a_names a_size a_data V := by simpa only [zl1, Int.mul_one] using R
  have I1_ : ms_I (17 * (1 : Int32).toInt) (gx a_count (1 : Int32).toInt) a_nameSize a_size a_names := by simpa only [zl1, Int.mul_one] using I
  have w0_ := I1_.1
  refine pb_aload_n (pc := 0) d_Mod_entryFault_0 0 rfl rfl ?_
  refine pb_iload_n (pc := 1) d_Mod_entryFault_1 1 rfl rfl ?_
  refine pb_iload_n (pc := 2) d_Mod_entryFault_2 2 rfl rfl ?_
  refine pb_callV (pc := 3) (I := i_Mod_entryFault) (qb := 0) (ci := 10) (nA := 2) (rest := []) (wr := [(m_count, .inl (G.2.2.1, 2, .inl a_count)), (m_nameSize, .inl (G.2.2.1, 34, .inl a_nameSize)), (m_names, .inl (G.2.1, 816, .inl a_names)), (m_looked, .inl (G.2.1, 40, .inl a_looked)), (m_size, .inl (G.2.2.1, 34, .inl a_size)), (m_data, .inl (G.2.1, 136000, .inl a_data)), (m_length, .inl (G.2.2.1, 420, .inl a_length)), (m_order, .inl (G.2.1, 19, .inl a_order)), (m_made, .inl (G.2.1, 4000, .inl a_made))]) d_Mod_entryFault_3 (g_Mod_isRecord hl G h m_rels m_openRels m_closeRels m_openRel m_closeRel m_comment m_ends m_order m_tape m_count m_nameSize m_names m_size m_data m_looked m_file m_directory m_out m_row m_made m_length m_pressed m_mark m_idSize m_ids m_goalSize m_goals m_value m_faults m_reached v_thrown v_taped v_lookedSize v_fileSize v_directorySize v_outSize v_rowSize v_bitAt v_bitEnd v_why v_madeSize v_firstCount v_secondCount v_heldBits v_heldCount v_pressedSize v_at v_bad v_markSize v_relationCount v_valueSize v_faultCount a_row e bg A (by first | (with_reducible assumption) | omega (splitDisjunctions := false) | assumption | omega | decide) (by first | (with_reducible assumption) | omega (splitDisjunctions := false) | assumption | omega | decide) (by first | (with_reducible assumption) | omega (splitDisjunctions := false) | assumption | omega | decide) (by first | assumption | decide | omega) (by first | assumption | decide | omega) (by first | (with_reducible assumption) | omega (splitDisjunctions := false) | assumption | omega | decide) (by first | (with_reducible assumption) | omega (splitDisjunctions := false) | assumption | omega | decide) (by first | (with_reducible assumption) | omega (splitDisjunctions := false) | assumption | omega | decide) F_a_row) rfl rfl [0, 1] [2, 3, 4, 5, 6, 7, 8, 9, 10] (by decide) rfl rfl rfl (by decide) (by decide) k_1536 rfl k_128 k_1533 k_1535 k_90 ⟨rfl, hy_Mod_isRecord⟩ (by decide) rfl rfl (Nat.le_of_ble_eq_true rfl) (by decide) (fun v9 ux2 ch1 => ?_)
  obtain ⟨r_3, rfl⟩ : ∃ z9, z9 = ux2 := ⟨_, rfl⟩
  obtain ⟨ech1, ch1⟩ := ch1
  have ech1 : v9 = some (.int r_3) := ech1
  subst ech1
  obtain ⟨fh4, fh5, fh6, fh7⟩ : (r_3.toInt = 0 ∨ r_3.toInt = 1) ∧ (r_3.toInt = 1 → av a_row (e.toInt + 42) 4 + 30 + av a_row (e.toInt + 28) 2 + av a_row (e.toInt + 20) 4 ≤ bg.toInt) ∧ (r_3.toInt = 1 → rr_ A bg.toInt e.toInt) ∧ (r_3.toInt = 0 → ¬ rr_ A bg.toInt e.toInt) := ch1
  have rc := hid_i fh5
  have rq1 := hid_i fh6
  have rq0 := hid_i fh7
  have rqb := fh4
  clear fh4 fh5 fh6 fh7
  refine pb_eq (pc' := 6) (lo' := [(0, .ref h), (1, .int e), (2, .int bg)]) (rest' := [.int r_3]) (ws' := [(m_count, .inl (G.2.2.1, 2, .inl a_count)), (m_nameSize, .inl (G.2.2.1, 34, .inl a_nameSize)), (m_names, .inl (G.2.1, 816, .inl a_names)), (m_looked, .inl (G.2.1, 40, .inl a_looked)), (m_size, .inl (G.2.2.1, 34, .inl a_size)), (m_data, .inl (G.2.1, 136000, .inl a_data)), (m_length, .inl (G.2.2.1, 420, .inl a_length)), (m_order, .inl (G.2.1, 19, .inl a_order)), (m_made, .inl (G.2.1, 4000, .inl a_made)), (h, .inr (10, [.ref m_rels, .ref m_openRels, .ref m_closeRels, .ref m_openRel, .ref m_closeRel, .ref m_comment, .ref m_ends, .ref m_order, .int v_thrown, .int v_taped, .ref m_tape, .ref m_count, .ref m_nameSize, .ref m_names, .ref m_size, .ref m_data, .int v_lookedSize, .ref m_looked, .int v_fileSize, .ref m_file, .int v_directorySize, .ref m_directory, .int v_outSize, .ref m_out, .int v_rowSize, .ref m_row, .int v_bitAt, .int v_bitEnd, .int v_why, .int v_madeSize, .ref m_made, .ref m_length, .int v_firstCount, .int v_secondCount, .int v_heldBits, .int v_heldCount, .int v_pressedSize, .ref m_pressed, .int v_at, .int v_bad, .int v_markSize, .ref m_mark, .int v_relationCount, .ref m_idSize, .ref m_ids, .ref m_goalSize, .ref m_goals, .int v_valueSize, .ref m_value, .int v_faultCount, .ref m_faults, .ref m_reached])), (m_row, .inl (G.2.1, 20000, .inl a_row))]) ?_
  refine pb_if_ne (pc := 6) (tgt := 11) d_Mod_entryFault_6 (by decide) (fun wx8 => ?_) (fun wx8 => ?_)
  · have twx8 : ¬ r_3.toInt = 0 := fun z9 => wx8 ((ti_eq rfl (by decide)).mpr z9)
    rename ¬ (_ : Int) = 0 => zq
    have rc1 := hid_o rc (by omega)
    have rrF := hid_o rq1 (by omega)
    have rrG := rrF.1
    clear zq rqb rc rq1 rq0
    refine pb_aload_n (pc := 11) d_Mod_entryFault_11 0 rfl rfl ?_
    refine pb_iload_n (pc := 12) d_Mod_entryFault_12 1 rfl rfl ?_
    refine pb_bipush (pc := 13) (v := 28) d_Mod_entryFault_13 (by decide) ?_
    refine pb_iadd (pc := 15) d_Mod_entryFault_15 ?_
    refine pb_topi (fun ix9 eix9 => ?_)
    try have tix9 : ix9.toInt = e.toInt + 28 := t2_add eix9 rfl (by decide) (by omega)
    refine pb_iconst (pc := 16) (v := 2) d_Mod_entryFault_16 (by decide) ?_
    refine pb_callV (pc := 17) (I := i_Mod_entryFault) (qb := 9) (ci := 10) (nA := 2) (rest := []) (wr := [(m_count, .inl (G.2.2.1, 2, .inl a_count)), (m_nameSize, .inl (G.2.2.1, 34, .inl a_nameSize)), (m_names, .inl (G.2.1, 816, .inl a_names)), (m_looked, .inl (G.2.1, 40, .inl a_looked)), (m_size, .inl (G.2.2.1, 34, .inl a_size)), (m_data, .inl (G.2.1, 136000, .inl a_data)), (m_length, .inl (G.2.2.1, 420, .inl a_length)), (m_order, .inl (G.2.1, 19, .inl a_order)), (m_made, .inl (G.2.1, 4000, .inl a_made))]) d_Mod_entryFault_17 (g_Mod_at hl G h m_rels m_openRels m_closeRels m_openRel m_closeRel m_comment m_ends m_order m_tape m_count m_nameSize m_names m_size m_data m_looked m_file m_directory m_out m_row m_made m_length m_pressed m_mark m_idSize m_ids m_goalSize m_goals m_value m_faults m_reached v_thrown v_taped v_lookedSize v_fileSize v_directorySize v_outSize v_rowSize v_bitAt v_bitEnd v_why v_madeSize v_firstCount v_secondCount v_heldBits v_heldCount v_pressedSize v_at v_bad v_markSize v_relationCount v_valueSize v_faultCount a_row ix9 2 (by first | (with_reducible assumption) | omega (splitDisjunctions := false) | assumption | omega | decide) (by first | (with_reducible assumption) | omega (splitDisjunctions := false) | assumption | omega | decide) (by first | (with_reducible assumption) | omega (splitDisjunctions := false) | assumption | omega | decide) (by first | (with_reducible assumption) | omega (splitDisjunctions := false) | assumption | omega | decide) F_a_row) rfl rfl [9, 10] [0, 1, 2, 3, 4, 5, 6, 7, 8] (by decide) rfl rfl rfl (by decide) (by decide) k_1525 rfl k_128 k_1522 k_1524 k_88 ⟨rfl, hy_Mod_at⟩ (by decide) rfl rfl (Nat.le_of_ble_eq_true rfl) (by decide) (fun v9 ux11 ch10 => ?_)
    obtain ⟨r_12, rfl⟩ : ∃ z9, z9 = ux11 := ⟨_, rfl⟩
    obtain ⟨ech10, ch10⟩ := ch10
    have ech10 : v9 = some (.long r_12) := ech10
    subst ech10
    obtain ⟨fh13, fh14, fh15⟩ : (r_12.toInt = av a_row ix9.toInt (2 : Int32).toInt.toNat) ∧ (0 ≤ r_12.toInt) ∧ (r_12.toInt < 4294967296) := ch10
    have u28 : r_12.toInt = aw A (e.toInt + 28) 2 := by rw [fh13, n2, show ix9.toInt = e.toInt + 28 by omega]; exact av_A hA 2 (by omega) (by omega)
    rw [n2, show ix9.toInt = e.toInt + 28 by omega] at fh13
    refine pb_eq (pc' := 20) (lo' := [(0, .ref h), (1, .int e), (2, .int bg)]) (rest' := [.long r_12]) (ws' := [(m_count, .inl (G.2.2.1, 2, .inl a_count)), (m_nameSize, .inl (G.2.2.1, 34, .inl a_nameSize)), (m_names, .inl (G.2.1, 816, .inl a_names)), (m_looked, .inl (G.2.1, 40, .inl a_looked)), (m_size, .inl (G.2.2.1, 34, .inl a_size)), (m_data, .inl (G.2.1, 136000, .inl a_data)), (m_length, .inl (G.2.2.1, 420, .inl a_length)), (m_order, .inl (G.2.1, 19, .inl a_order)), (m_made, .inl (G.2.1, 4000, .inl a_made)), (h, .inr (10, [.ref m_rels, .ref m_openRels, .ref m_closeRels, .ref m_openRel, .ref m_closeRel, .ref m_comment, .ref m_ends, .ref m_order, .int v_thrown, .int v_taped, .ref m_tape, .ref m_count, .ref m_nameSize, .ref m_names, .ref m_size, .ref m_data, .int v_lookedSize, .ref m_looked, .int v_fileSize, .ref m_file, .int v_directorySize, .ref m_directory, .int v_outSize, .ref m_out, .int v_rowSize, .ref m_row, .int v_bitAt, .int v_bitEnd, .int v_why, .int v_madeSize, .ref m_made, .ref m_length, .int v_firstCount, .int v_secondCount, .int v_heldBits, .int v_heldCount, .int v_pressedSize, .ref m_pressed, .int v_at, .int v_bad, .int v_markSize, .ref m_mark, .int v_relationCount, .ref m_idSize, .ref m_ids, .ref m_goalSize, .ref m_goals, .int v_valueSize, .ref m_value, .int v_faultCount, .ref m_faults, .ref m_reached])), (m_row, .inl (G.2.1, 20000, .inl a_row))]) ?_
    refine pb_l2i (pc := 20) d_Mod_entryFault_20 rfl ?_
    refine pb_topi (fun ix16 eix16 => ?_)
    try have tix16 : ix16.toInt = r_12.toInt := ti_l2i eix16 rfl (by omega) (by omega)
    refine pb_istore_n (pc := 21) (lo' := [(3, .int ix16), (0, .ref h), (1, .int e), (2, .int bg)]) d_Mod_entryFault_21 rfl (by decide) rfl ?_
    have nE5 : ix16.toInt = aw A (e.toInt + 28) 2 := by omega
    refine pb_aload_n (pc := 22) d_Mod_entryFault_22 1 rfl rfl ?_
    refine pb_get (pc := 23) d_Mod_entryFault_23 9 25 rfl rfl (by decide) in_Mod k_1171 rfl ?_
    refine pb_iload_n (pc := 26) d_Mod_entryFault_26 2 rfl rfl ?_
    refine pb_bipush (pc := 27) (v := 46) d_Mod_entryFault_27 (by decide) ?_
    refine pb_iadd (pc := 29) d_Mod_entryFault_29 ?_
    refine pb_topi (fun ix17 eix17 => ?_)
    try have tix17 : ix17.toInt = e.toInt + 46 := t2_add eix17 rfl (by decide) (by (first | exact omg_604ceb54cd h0 h1 v4 fh13 u28 | omega))
    refine pb_iload_n (pc := 30) d_Mod_entryFault_30 0 rfl rfl ?_
    refine pb_callS (pc := 31) (I := i_Mod_entryFault) (nA := 3) (rest := []) (wr := [(m_count, .inl (G.2.2.1, 2, .inl a_count)), (m_nameSize, .inl (G.2.2.1, 34, .inl a_nameSize)), (m_names, .inl (G.2.1, 816, .inl a_names)), (m_looked, .inl (G.2.1, 40, .inl a_looked)), (m_size, .inl (G.2.2.1, 34, .inl a_size)), (m_data, .inl (G.2.1, 136000, .inl a_data)), (m_length, .inl (G.2.2.1, 420, .inl a_length)), (m_order, .inl (G.2.1, 19, .inl a_order)), (m_made, .inl (G.2.1, 4000, .inl a_made)), (h, .inr (10, [.ref m_rels, .ref m_openRels, .ref m_closeRels, .ref m_openRel, .ref m_closeRel, .ref m_comment, .ref m_ends, .ref m_order, .int v_thrown, .int v_taped, .ref m_tape, .ref m_count, .ref m_nameSize, .ref m_names, .ref m_size, .ref m_data, .int v_lookedSize, .ref m_looked, .int v_fileSize, .ref m_file, .int v_directorySize, .ref m_directory, .int v_outSize, .ref m_out, .int v_rowSize, .ref m_row, .int v_bitAt, .int v_bitEnd, .int v_why, .int v_madeSize, .ref m_made, .ref m_length, .int v_firstCount, .int v_secondCount, .int v_heldBits, .int v_heldCount, .int v_pressedSize, .ref m_pressed, .int v_at, .int v_bad, .int v_markSize, .ref m_mark, .int v_relationCount, .ref m_idSize, .ref m_ids, .ref m_goalSize, .ref m_goals, .int v_valueSize, .ref m_value, .int v_faultCount, .ref m_faults, .ref m_reached]))]) d_Mod_entryFault_31 (g_Mod_isName hl G m_row 20000 a_row ix17 ix16 (by first | (with_reducible assumption) | omega (splitDisjunctions := false) | assumption | omega | decide) (by first | (with_reducible assumption) | exact fun q9 => absurd q9 (by assumption) | exact fun q9 => absurd (by assumption) q9 | exact fun _ => (by omega (splitDisjunctions := false)) | omega (splitDisjunctions := false) | assumption | omega | decide) (by first | (with_reducible assumption) | omega (splitDisjunctions := false) | assumption | omega | decide) (by first | (with_reducible assumption) | omega (splitDisjunctions := false) | assumption | omega | decide) F_a_row) [10] [0, 1, 2, 3, 4, 5, 6, 7, 8, 9] (by decide) rfl rfl rfl (by decide) (by decide) k_1318 rfl k_128 k_1316 k_1317 hy_Mod_isName (by decide) rfl rfl (Nat.le_of_ble_eq_true rfl) (by decide) (fun v9 ux19 ch18 => ?_)
    obtain ⟨r_20, rfl⟩ : ∃ z9, z9 = ux19 := ⟨_, rfl⟩
    obtain ⟨ech18, ch18⟩ := ch18
    have ech18 : v9 = some (.int r_20) := ech18
    subst ech18
    obtain ⟨fh21, fh22, fh23, fh24⟩ : (r_20.toInt = 0 ∨ r_20.toInt = 1) ∧ (r_20.toInt = 1 → 1 ≤ ix16.toInt ∧ ix16.toInt ≤ 24) ∧ (r_20.toInt = 1 → iA_ (gx a_row) ix17.toInt ix16.toInt) ∧ (r_20.toInt = 0 → ¬ iA_ (gx a_row) ix17.toInt ix16.toInt) := ch18
    have iN1 := hid_i fh23
    have iN0 := hid_i fh24
    have iNn := hid_i fh22
    have iNb := fh21
    clear fh21 fh22 fh23 fh24
    refine pb_eq (pc' := 34) (lo' := [(3, .int ix16), (0, .ref h), (1, .int e), (2, .int bg)]) (rest' := [.int r_20]) (ws' := [(m_count, .inl (G.2.2.1, 2, .inl a_count)), (m_nameSize, .inl (G.2.2.1, 34, .inl a_nameSize)), (m_names, .inl (G.2.1, 816, .inl a_names)), (m_looked, .inl (G.2.1, 40, .inl a_looked)), (m_size, .inl (G.2.2.1, 34, .inl a_size)), (m_data, .inl (G.2.1, 136000, .inl a_data)), (m_length, .inl (G.2.2.1, 420, .inl a_length)), (m_order, .inl (G.2.1, 19, .inl a_order)), (m_made, .inl (G.2.1, 4000, .inl a_made)), (h, .inr (10, [.ref m_rels, .ref m_openRels, .ref m_closeRels, .ref m_openRel, .ref m_closeRel, .ref m_comment, .ref m_ends, .ref m_order, .int v_thrown, .int v_taped, .ref m_tape, .ref m_count, .ref m_nameSize, .ref m_names, .ref m_size, .ref m_data, .int v_lookedSize, .ref m_looked, .int v_fileSize, .ref m_file, .int v_directorySize, .ref m_directory, .int v_outSize, .ref m_out, .int v_rowSize, .ref m_row, .int v_bitAt, .int v_bitEnd, .int v_why, .int v_madeSize, .ref m_made, .ref m_length, .int v_firstCount, .int v_secondCount, .int v_heldBits, .int v_heldCount, .int v_pressedSize, .ref m_pressed, .int v_at, .int v_bad, .int v_markSize, .ref m_mark, .int v_relationCount, .ref m_idSize, .ref m_ids, .ref m_goalSize, .ref m_goals, .int v_valueSize, .ref m_value, .int v_faultCount, .ref m_faults, .ref m_reached])), (m_row, .inl (G.2.1, 20000, .inl a_row))]) ?_
    refine pb_if_ne (pc := 34) (tgt := 39) d_Mod_entryFault_34 (by decide) (fun wx25 => ?_) (fun wx25 => ?_)
    · have twx25 : ¬ r_20.toInt = 0 := fun z9 => wx25 ((ti_eq rfl (by decide)).mpr z9)
      rename ¬ (_ : Int) = 0 => zq
      have iNm := hid_o iNn (by omega)
      have iA9 := hid_o iN1 (by omega)
      clear zq iNb iN1 iN0 iNn
      refine pb_aload_n (pc := 39) d_Mod_entryFault_39 1 rfl rfl ?_
      refine pb_aload_n (pc := 40) d_Mod_entryFault_40 1 rfl rfl ?_
      refine pb_get (pc := 41) d_Mod_entryFault_41 9 25 rfl rfl (by decide) in_Mod k_1171 rfl ?_
      refine pb_iload_n (pc := 44) d_Mod_entryFault_44 2 rfl rfl ?_
      refine pb_bipush (pc := 45) (v := 46) d_Mod_entryFault_45 (by decide) ?_
      refine pb_iadd (pc := 47) d_Mod_entryFault_47 ?_
      refine pb_topi (fun ix26 eix26 => ?_)
      try have tix26 : ix26.toInt = e.toInt + 46 := t2_add eix26 rfl (by decide) (by (first | exact omg_f55ad67f03 h0 h1 fh13 tix16 iNm | omega))
      refine pb_iload_n (pc := 48) d_Mod_entryFault_48 0 rfl rfl ?_
      refine pb_callV (pc := 49) (I := i_Mod_entryFault) (qb := 9) (ci := 10) (nA := 3) (rest := []) (wr := [(m_count, .inl (G.2.2.1, 2, .inl a_count)), (m_nameSize, .inl (G.2.2.1, 34, .inl a_nameSize)), (m_names, .inl (G.2.1, 816, .inl a_names)), (m_size, .inl (G.2.2.1, 34, .inl a_size)), (m_data, .inl (G.2.1, 136000, .inl a_data)), (m_length, .inl (G.2.2.1, 420, .inl a_length)), (m_order, .inl (G.2.1, 19, .inl a_order)), (m_made, .inl (G.2.1, 4000, .inl a_made))]) d_Mod_entryFault_49 (g_Mod_look hl G h m_rels m_openRels m_closeRels m_openRel m_closeRel m_comment m_ends m_order m_tape m_count m_nameSize m_names m_size m_data m_looked m_file m_directory m_out m_row m_made m_length m_pressed m_mark m_idSize m_ids m_goalSize m_goals m_value m_faults m_reached v_thrown v_taped v_lookedSize v_fileSize v_directorySize v_outSize v_rowSize v_bitAt v_bitEnd v_why v_madeSize v_firstCount v_secondCount v_heldBits v_heldCount v_pressedSize v_at v_bad v_markSize v_relationCount v_valueSize v_faultCount a_looked m_row 20000 a_row ix26 ix16 (by first | (with_reducible assumption) | omega (splitDisjunctions := false) | assumption | omega | decide) (by first | (with_reducible assumption) | omega (splitDisjunctions := false) | assumption | omega | decide) (by first | (with_reducible assumption) | omega (splitDisjunctions := false) | assumption | omega | decide) F_a_looked F_a_row) rfl rfl [9, 3, 10] [0, 1, 2, 4, 5, 6, 7, 8] (by decide) rfl rfl rfl (by decide) (by decide) k_1325 rfl k_128 k_1322 k_1324 k_53 ⟨rfl, hy_Mod_look⟩ (by decide) rfl rfl (Nat.le_of_ble_eq_true rfl) (by decide) (fun v9 ux28 ch27 => ?_)
      obtain ⟨g_29, rfl⟩ : ∃ z9, z9 = ux28 := ⟨_, rfl⟩
      obtain ⟨ech27, ch27⟩ := ch27
      have ech27 : v9 = none := ech27
      subst ech27
      obtain ⟨fh30, fh31⟩ : (∀ k : Int, 0 ≤ k → k < ix16.toInt → k < 40 → gx g_29 k = gx a_row (ix26.toInt + k)) ∧ (sb_Fit g_29) := ch27
      have lkF := fh30
      have lkE : ∀ k : Int, 0 ≤ k → k < aw A (e.toInt + 28) 2 → gx g_29 k = nm_ A (e.toInt + 46) k := fun k k0 k1 => (by have q9 := lkF k k0 (by omega) (by omega); rw [q9]; exact nm_A hA (show ix26.toInt = e.toInt + 46 by omega) (by (first | exact omg_4716b73c86 h0 | omega)) (by omega) k k0 k1)
      refine pb_eq (pc' := 52) (lo' := [(3, .int ix16), (0, .ref h), (1, .int e), (2, .int bg)]) (rest' := []) (ws' := [(m_count, .inl (G.2.2.1, 2, .inl a_count)), (m_nameSize, .inl (G.2.2.1, 34, .inl a_nameSize)), (m_names, .inl (G.2.1, 816, .inl a_names)), (m_size, .inl (G.2.2.1, 34, .inl a_size)), (m_data, .inl (G.2.1, 136000, .inl a_data)), (m_length, .inl (G.2.2.1, 420, .inl a_length)), (m_order, .inl (G.2.1, 19, .inl a_order)), (m_made, .inl (G.2.1, 4000, .inl a_made)), (h, .inr (10, [.ref m_rels, .ref m_openRels, .ref m_closeRels, .ref m_openRel, .ref m_closeRel, .ref m_comment, .ref m_ends, .ref m_order, .int v_thrown, .int v_taped, .ref m_tape, .ref m_count, .ref m_nameSize, .ref m_names, .ref m_size, .ref m_data, .int ix16, .ref m_looked, .int v_fileSize, .ref m_file, .int v_directorySize, .ref m_directory, .int v_outSize, .ref m_out, .int v_rowSize, .ref m_row, .int v_bitAt, .int v_bitEnd, .int v_why, .int v_madeSize, .ref m_made, .ref m_length, .int v_firstCount, .int v_secondCount, .int v_heldBits, .int v_heldCount, .int v_pressedSize, .ref m_pressed, .int v_at, .int v_bad, .int v_markSize, .ref m_mark, .int v_relationCount, .ref m_idSize, .ref m_ids, .ref m_goalSize, .ref m_goals, .int v_valueSize, .ref m_value, .int v_faultCount, .ref m_faults, .ref m_reached])), (m_looked, .inl (G.2.1, 40, .inl g_29)), (m_row, .inl (G.2.1, 20000, .inl a_row))]) ?_
      refine pb_aload_n (pc := 52) d_Mod_entryFault_52 1 rfl rfl ?_
      refine pb_iconst (pc := 53) (v := 1) d_Mod_entryFault_53 (by decide) ?_
      refine pb_callV (pc := 54) (I := i_Mod_entryFault) (qb := 8) (ci := 10) (nA := 1) (rest := []) (wr := [(m_size, .inl (G.2.2.1, 34, .inl a_size)), (m_data, .inl (G.2.1, 136000, .inl a_data)), (m_length, .inl (G.2.2.1, 420, .inl a_length)), (m_order, .inl (G.2.1, 19, .inl a_order)), (m_made, .inl (G.2.1, 4000, .inl a_made)), (m_row, .inl (G.2.1, 20000, .inl a_row))]) d_Mod_entryFault_54 (g_Mod_find hl G h m_rels m_openRels m_closeRels m_openRel m_closeRel m_comment m_ends m_order m_tape m_count m_nameSize m_names m_size m_data m_looked m_file m_directory m_out m_row m_made m_length m_pressed m_mark m_idSize m_ids m_goalSize m_goals m_value m_faults m_reached v_thrown v_taped ix16 v_fileSize v_directorySize v_outSize v_rowSize v_bitAt v_bitEnd v_why v_madeSize v_firstCount v_secondCount v_heldBits v_heldCount v_pressedSize v_at v_bad v_markSize v_relationCount v_valueSize v_faultCount a_count a_nameSize a_names g_29 1 (by first | (with_reducible assumption) | omega (splitDisjunctions := false) | assumption | omega | decide) (by first | (with_reducible assumption) | omega (splitDisjunctions := false) | assumption | omega | decide) (by simpa only [zl1, Int.mul_one] using fun i a0 a1 => (⟨(I.2.2.1 i a0 a1).1, (I.2.2.1 i a0 a1).2.1⟩ : 1 ≤ gx a_nameSize (17 + i) ∧ gx a_nameSize (17 + i) ≤ 24)) (by simpa only [zl1] using I.1) (by simpa only [zl1] using I.2.1) (by first | (with_reducible assumption) | omega (splitDisjunctions := false) | assumption | omega | decide) (by first | (with_reducible assumption) | omega (splitDisjunctions := false) | assumption | omega | decide) F_a_names fh31) rfl rfl [8, 0, 1, 2, 9] [3, 4, 5, 6, 7, 10] (by decide) rfl rfl rfl (by decide) (by decide) k_1333 rfl k_128 k_1330 k_1332 k_55 ⟨rfl, hy_Mod_find⟩ (by decide) rfl rfl (Nat.le_of_ble_eq_true rfl) (by decide) (fun v9 ux33 ch32 => ?_)
      obtain ⟨r_34, rfl⟩ : ∃ z9, z9 = ux33 := ⟨_, rfl⟩
      obtain ⟨ech32, ch32⟩ := ch32
      have ech32 : v9 = some (.int r_34) := ech32
      subst ech32
      obtain ⟨fh35, fh36, fh37, fh38⟩ : (-1 ≤ r_34.toInt) ∧ (r_34.toInt < gx a_count (1 : Int32).toInt) ∧ (0 ≤ r_34.toInt → nl_eq a_nameSize a_names ((17 * (1 : Int32).toInt + r_34.toInt)) ix16.toInt g_29) ∧ (r_34.toInt = -1 → ∀ i : Int, 0 ≤ i → i < gx a_count (1 : Int32).toInt → ¬ nl_eq a_nameSize a_names (17 * (1 : Int32).toInt + i) ix16.toInt g_29) := ch32
      have fr0 := fh35
      have fr1 := fh36
      have fr2 := fh37
      have fr3 := fh38
      simp only [zl1, Int.mul_one] at fr1 fr2 fr3
      rw [nE5] at fr2 fr3
      have fF := isF_cg (rM_F R fr0 fr1 fr2 fr3) lkE
      clear fr2 fr3 fh37 fh38
      refine pb_eq (pc' := 57) (lo' := [(3, .int ix16), (0, .ref h), (1, .int e), (2, .int bg)]) (rest' := [.int r_34]) (ws' := [(m_size, .inl (G.2.2.1, 34, .inl a_size)), (m_data, .inl (G.2.1, 136000, .inl a_data)), (m_length, .inl (G.2.2.1, 420, .inl a_length)), (m_order, .inl (G.2.1, 19, .inl a_order)), (m_made, .inl (G.2.1, 4000, .inl a_made)), (m_row, .inl (G.2.1, 20000, .inl a_row)), (h, .inr (10, [.ref m_rels, .ref m_openRels, .ref m_closeRels, .ref m_openRel, .ref m_closeRel, .ref m_comment, .ref m_ends, .ref m_order, .int v_thrown, .int v_taped, .ref m_tape, .ref m_count, .ref m_nameSize, .ref m_names, .ref m_size, .ref m_data, .int ix16, .ref m_looked, .int v_fileSize, .ref m_file, .int v_directorySize, .ref m_directory, .int v_outSize, .ref m_out, .int v_rowSize, .ref m_row, .int v_bitAt, .int v_bitEnd, .int v_why, .int v_madeSize, .ref m_made, .ref m_length, .int v_firstCount, .int v_secondCount, .int v_heldBits, .int v_heldCount, .int v_pressedSize, .ref m_pressed, .int v_at, .int v_bad, .int v_markSize, .ref m_mark, .int v_relationCount, .ref m_idSize, .ref m_ids, .ref m_goalSize, .ref m_goals, .int v_valueSize, .ref m_value, .int v_faultCount, .ref m_faults, .ref m_reached])), (m_count, .inl (G.2.2.1, 2, .inl a_count)), (m_nameSize, .inl (G.2.2.1, 34, .inl a_nameSize)), (m_names, .inl (G.2.1, 816, .inl a_names)), (m_looked, .inl (G.2.1, 40, .inl g_29))]) ?_
      refine pb_if_lt (pc := 57) (tgt := 62) d_Mod_entryFault_57 (by decide) (fun wx39 => ?_) (fun wx39 => ?_)
      · have twx39 : r_34.toInt < 0 := (ti_lt rfl (by decide)).mp wx39
        have nkF : nq_ A e.toInt V := nq_y rfl (by have q9 := (iA_A (x := e.toInt + 46) hA (by omega) (by (first | exact omg_4716b73c86 h0 | omega)) (by (first | exact omg_16dd41dfda hZ u28 tix16 | omega))).mp iA9; rw [nE5] at q9; exact q9) fF (by omega)
        refine pb_aload_n (pc := 62) d_Mod_entryFault_62 1 rfl rfl ?_
        refine pb_iload_n (pc := 63) d_Mod_entryFault_63 2 rfl rfl ?_
        refine pb_bipush (pc := 64) (v := 42) d_Mod_entryFault_64 (by decide) ?_
        refine pb_iadd (pc := 66) d_Mod_entryFault_66 ?_
        refine pb_topi (fun ix40 eix40 => ?_)
        try have tix40 : ix40.toInt = e.toInt + 42 := t2_add eix40 rfl (by decide) (by omega)
        refine pb_iconst (pc := 67) (v := 4) d_Mod_entryFault_67 (by decide) ?_
        refine pb_callV (pc := 68) (I := i_Mod_entryFault) (qb := 6) (ci := 10) (nA := 2) (rest := []) (wr := [(m_size, .inl (G.2.2.1, 34, .inl a_size)), (m_data, .inl (G.2.1, 136000, .inl a_data)), (m_length, .inl (G.2.2.1, 420, .inl a_length)), (m_order, .inl (G.2.1, 19, .inl a_order)), (m_made, .inl (G.2.1, 4000, .inl a_made)), (m_count, .inl (G.2.2.1, 2, .inl a_count)), (m_nameSize, .inl (G.2.2.1, 34, .inl a_nameSize)), (m_names, .inl (G.2.1, 816, .inl a_names)), (m_looked, .inl (G.2.1, 40, .inl g_29))]) d_Mod_entryFault_68 (g_Mod_at hl G h m_rels m_openRels m_closeRels m_openRel m_closeRel m_comment m_ends m_order m_tape m_count m_nameSize m_names m_size m_data m_looked m_file m_directory m_out m_row m_made m_length m_pressed m_mark m_idSize m_ids m_goalSize m_goals m_value m_faults m_reached v_thrown v_taped ix16 v_fileSize v_directorySize v_outSize v_rowSize v_bitAt v_bitEnd v_why v_madeSize v_firstCount v_secondCount v_heldBits v_heldCount v_pressedSize v_at v_bad v_markSize v_relationCount v_valueSize v_faultCount a_row ix40 4 (by first | (with_reducible assumption) | omega (splitDisjunctions := false) | assumption | omega | decide) (by first | (with_reducible assumption) | omega (splitDisjunctions := false) | assumption | omega | decide) (by first | (with_reducible assumption) | omega (splitDisjunctions := false) | assumption | omega | decide) (by first | (with_reducible assumption) | omega (splitDisjunctions := false) | assumption | omega | decide) F_a_row) rfl rfl [6, 5] [0, 1, 2, 3, 4, 7, 8, 9, 10] (by decide) rfl rfl rfl (by decide) (by decide) k_1525 rfl k_128 k_1522 k_1524 k_88 ⟨rfl, hy_Mod_at⟩ (by decide) rfl rfl (Nat.le_of_ble_eq_true rfl) (by decide) (fun v9 ux42 ch41 => ?_)
        obtain ⟨r_43, rfl⟩ : ∃ z9, z9 = ux42 := ⟨_, rfl⟩
        obtain ⟨ech41, ch41⟩ := ch41
        have ech41 : v9 = some (.long r_43) := ech41
        subst ech41
        obtain ⟨fh44, fh45, fh46⟩ : (r_43.toInt = av a_row ix40.toInt (4 : Int32).toInt.toNat) ∧ (0 ≤ r_43.toInt) ∧ (r_43.toInt < 4294967296) := ch41
        have u42 : r_43.toInt = aw A (e.toInt + 42) 4 := by rw [fh44, n4, show ix40.toInt = e.toInt + 42 by omega]; exact av_A hA 4 (by (first | exact omg_6e79212e61 h0 | omega)) (by (first | exact omg_b5f1eae23a hZ v4 | omega))
        rw [n4, show ix40.toInt = e.toInt + 42 by omega] at fh44
        refine pb_eq (pc' := 71) (lo' := [(3, .int ix16), (0, .ref h), (1, .int e), (2, .int bg)]) (rest' := [.long r_43]) (ws' := [(m_size, .inl (G.2.2.1, 34, .inl a_size)), (m_data, .inl (G.2.1, 136000, .inl a_data)), (m_length, .inl (G.2.2.1, 420, .inl a_length)), (m_order, .inl (G.2.1, 19, .inl a_order)), (m_made, .inl (G.2.1, 4000, .inl a_made)), (m_count, .inl (G.2.2.1, 2, .inl a_count)), (m_nameSize, .inl (G.2.2.1, 34, .inl a_nameSize)), (m_names, .inl (G.2.1, 816, .inl a_names)), (m_looked, .inl (G.2.1, 40, .inl g_29)), (h, .inr (10, [.ref m_rels, .ref m_openRels, .ref m_closeRels, .ref m_openRel, .ref m_closeRel, .ref m_comment, .ref m_ends, .ref m_order, .int v_thrown, .int v_taped, .ref m_tape, .ref m_count, .ref m_nameSize, .ref m_names, .ref m_size, .ref m_data, .int ix16, .ref m_looked, .int v_fileSize, .ref m_file, .int v_directorySize, .ref m_directory, .int v_outSize, .ref m_out, .int v_rowSize, .ref m_row, .int v_bitAt, .int v_bitEnd, .int v_why, .int v_madeSize, .ref m_made, .ref m_length, .int v_firstCount, .int v_secondCount, .int v_heldBits, .int v_heldCount, .int v_pressedSize, .ref m_pressed, .int v_at, .int v_bad, .int v_markSize, .ref m_mark, .int v_relationCount, .ref m_idSize, .ref m_ids, .ref m_goalSize, .ref m_goals, .int v_valueSize, .ref m_value, .int v_faultCount, .ref m_faults, .ref m_reached])), (m_row, .inl (G.2.1, 20000, .inl a_row))]) ?_
        refine pb_l2i (pc := 71) d_Mod_entryFault_71 rfl ?_
        refine pb_topi (fun ix47 eix47 => ?_)
        try have tix47 : ix47.toInt = r_43.toInt := ti_l2i eix47 rfl (by omega) (by omega)
        refine pb_bipush (pc := 72) (v := 30) d_Mod_entryFault_72 (by decide) ?_
        refine pb_iadd (pc := 74) d_Mod_entryFault_74 ?_
        refine pb_topi (fun ix48 eix48 => ?_)
        try have tix48 : ix48.toInt = ix47.toInt + 30 := t2_add eix48 rfl (by decide) (by (first | exact omg_d79b3ca762 h2 v2 v3 rc1 fh13 tix16 iNm fh44 tix47 | omega))
        refine pb_iload_n (pc := 75) d_Mod_entryFault_75 0 rfl rfl ?_
        refine pb_iadd (pc := 76) d_Mod_entryFault_76 ?_
        refine pb_topi (fun ix49 eix49 => ?_)
        try have tix49 : ix49.toInt = ix48.toInt + ix16.toInt := t2_add eix49 rfl rfl (by (first | exact omg_3216867316 h2 v2 v3 rc1 fh13 tix16 iNm fh44 tix47 tix48 | omega))
        refine pb_istore (pc := 77) (lo' := [(4, .int ix49), (3, .int ix16), (0, .ref h), (1, .int e), (2, .int bg)]) d_Mod_entryFault_77 (by decide) rfl ?_
        refine pb_aload_n (pc := 79) d_Mod_entryFault_79 2 rfl rfl ?_
        refine pb_iload_n (pc := 80) d_Mod_entryFault_80 3 rfl rfl ?_
        refine pb_bipush (pc := 81) (v := 20) d_Mod_entryFault_81 (by decide) ?_
        refine pb_iadd (pc := 83) d_Mod_entryFault_83 ?_
        refine pb_topi (fun ix50 eix50 => ?_)
        try have tix50 : ix50.toInt = e.toInt + 20 := t2_add eix50 rfl (by decide) (by (first | exact omg_10686cd870 h0 h1 v4 fh13 u28 | omega))
        refine pb_iconst (pc := 84) (v := 4) d_Mod_entryFault_84 (by decide) ?_
        refine pb_callV (pc := 85) (I := i_Mod_entryFault) (qb := 9) (ci := 10) (nA := 2) (rest := []) (wr := [(m_size, .inl (G.2.2.1, 34, .inl a_size)), (m_data, .inl (G.2.1, 136000, .inl a_data)), (m_length, .inl (G.2.2.1, 420, .inl a_length)), (m_order, .inl (G.2.1, 19, .inl a_order)), (m_made, .inl (G.2.1, 4000, .inl a_made)), (m_count, .inl (G.2.2.1, 2, .inl a_count)), (m_nameSize, .inl (G.2.2.1, 34, .inl a_nameSize)), (m_names, .inl (G.2.1, 816, .inl a_names)), (m_looked, .inl (G.2.1, 40, .inl g_29))]) d_Mod_entryFault_85 (g_Mod_at hl G h m_rels m_openRels m_closeRels m_openRel m_closeRel m_comment m_ends m_order m_tape m_count m_nameSize m_names m_size m_data m_looked m_file m_directory m_out m_row m_made m_length m_pressed m_mark m_idSize m_ids m_goalSize m_goals m_value m_faults m_reached v_thrown v_taped ix16 v_fileSize v_directorySize v_outSize v_rowSize v_bitAt v_bitEnd v_why v_madeSize v_firstCount v_secondCount v_heldBits v_heldCount v_pressedSize v_at v_bad v_markSize v_relationCount v_valueSize v_faultCount a_row ix50 4 (by first | (with_reducible assumption) | omega (splitDisjunctions := false) | assumption | omega | decide) (by first | (with_reducible assumption) | omega (splitDisjunctions := false) | assumption | omega | decide) (by first | (with_reducible assumption) | omega (splitDisjunctions := false) | assumption | omega | decide) (by first | (with_reducible assumption) | omega (splitDisjunctions := false) | assumption | omega | decide) F_a_row) rfl rfl [9, 10] [0, 1, 2, 3, 4, 5, 6, 7, 8] (by decide) rfl rfl rfl (by decide) (by decide) k_1525 rfl k_128 k_1522 k_1524 k_88 ⟨rfl, hy_Mod_at⟩ (by decide) rfl rfl (Nat.le_of_ble_eq_true rfl) (by decide) (fun v9 ux52 ch51 => ?_)
        obtain ⟨r_53, rfl⟩ : ∃ z9, z9 = ux52 := ⟨_, rfl⟩
        obtain ⟨ech51, ch51⟩ := ch51
        have ech51 : v9 = some (.long r_53) := ech51
        subst ech51
        obtain ⟨fh54, fh55, fh56⟩ : (r_53.toInt = av a_row ix50.toInt (4 : Int32).toInt.toNat) ∧ (0 ≤ r_53.toInt) ∧ (r_53.toInt < 4294967296) := ch51
        have u20 : r_53.toInt = aw A (e.toInt + 20) 4 := by rw [fh54, n4, show ix50.toInt = e.toInt + 20 by omega]; exact av_A hA 4 (by (first | exact omg_87640f9aa1 h0 | omega)) (by (first | exact omg_96293bd7a6 hZ v4 | omega))
        rw [n4, show ix50.toInt = e.toInt + 20 by omega] at fh54
        refine pb_eq (pc' := 88) (lo' := [(4, .int ix49), (3, .int ix16), (0, .ref h), (1, .int e), (2, .int bg)]) (rest' := [.long r_53]) (ws' := [(m_size, .inl (G.2.2.1, 34, .inl a_size)), (m_data, .inl (G.2.1, 136000, .inl a_data)), (m_length, .inl (G.2.2.1, 420, .inl a_length)), (m_order, .inl (G.2.1, 19, .inl a_order)), (m_made, .inl (G.2.1, 4000, .inl a_made)), (m_count, .inl (G.2.2.1, 2, .inl a_count)), (m_nameSize, .inl (G.2.2.1, 34, .inl a_nameSize)), (m_names, .inl (G.2.1, 816, .inl a_names)), (m_looked, .inl (G.2.1, 40, .inl g_29)), (h, .inr (10, [.ref m_rels, .ref m_openRels, .ref m_closeRels, .ref m_openRel, .ref m_closeRel, .ref m_comment, .ref m_ends, .ref m_order, .int v_thrown, .int v_taped, .ref m_tape, .ref m_count, .ref m_nameSize, .ref m_names, .ref m_size, .ref m_data, .int ix16, .ref m_looked, .int v_fileSize, .ref m_file, .int v_directorySize, .ref m_directory, .int v_outSize, .ref m_out, .int v_rowSize, .ref m_row, .int v_bitAt, .int v_bitEnd, .int v_why, .int v_madeSize, .ref m_made, .ref m_length, .int v_firstCount, .int v_secondCount, .int v_heldBits, .int v_heldCount, .int v_pressedSize, .ref m_pressed, .int v_at, .int v_bad, .int v_markSize, .ref m_mark, .int v_relationCount, .ref m_idSize, .ref m_ids, .ref m_goalSize, .ref m_goals, .int v_valueSize, .ref m_value, .int v_faultCount, .ref m_faults, .ref m_reached])), (m_row, .inl (G.2.1, 20000, .inl a_row))]) ?_
        refine pb_l2i (pc := 88) d_Mod_entryFault_88 rfl ?_
        refine pb_topi (fun ix57 eix57 => ?_)
        try have tix57 : ix57.toInt = r_53.toInt := ti_l2i eix57 rfl (by (first | exact omg_a25f8e9775 v3 fh54 | omega)) (by (first | exact omg_2878dfff3a h2 v2 rrG u28 tix16 iNm fh44 u42 u20 | omega))
        refine pb_istore (pc := 89) (lo' := [(5, .int ix57), (4, .int ix49), (3, .int ix16), (0, .ref h), (1, .int e), (2, .int bg)]) d_Mod_entryFault_89 (by decide) rfl ?_
        refine pb_aload_n (pc := 91) d_Mod_entryFault_91 3 rfl rfl ?_
        refine pb_iload_n (pc := 92) d_Mod_entryFault_92 4 rfl rfl ?_
        refine pb_bipush (pc := 93) (v := 24) d_Mod_entryFault_93 (by decide) ?_
        refine pb_iadd (pc := 95) d_Mod_entryFault_95 ?_
        refine pb_topi (fun ix58 eix58 => ?_)
        try have tix58 : ix58.toInt = e.toInt + 24 := t2_add eix58 rfl (by decide) (by (first | exact omg_497c4f4f23 h0 h1 v4 fh13 u28 | omega))
        refine pb_iconst (pc := 96) (v := 4) d_Mod_entryFault_96 (by decide) ?_
        refine pb_callV (pc := 97) (I := i_Mod_entryFault) (qb := 9) (ci := 10) (nA := 2) (rest := []) (wr := [(m_size, .inl (G.2.2.1, 34, .inl a_size)), (m_data, .inl (G.2.1, 136000, .inl a_data)), (m_length, .inl (G.2.2.1, 420, .inl a_length)), (m_order, .inl (G.2.1, 19, .inl a_order)), (m_made, .inl (G.2.1, 4000, .inl a_made)), (m_count, .inl (G.2.2.1, 2, .inl a_count)), (m_nameSize, .inl (G.2.2.1, 34, .inl a_nameSize)), (m_names, .inl (G.2.1, 816, .inl a_names)), (m_looked, .inl (G.2.1, 40, .inl g_29))]) d_Mod_entryFault_97 (g_Mod_at hl G h m_rels m_openRels m_closeRels m_openRel m_closeRel m_comment m_ends m_order m_tape m_count m_nameSize m_names m_size m_data m_looked m_file m_directory m_out m_row m_made m_length m_pressed m_mark m_idSize m_ids m_goalSize m_goals m_value m_faults m_reached v_thrown v_taped ix16 v_fileSize v_directorySize v_outSize v_rowSize v_bitAt v_bitEnd v_why v_madeSize v_firstCount v_secondCount v_heldBits v_heldCount v_pressedSize v_at v_bad v_markSize v_relationCount v_valueSize v_faultCount a_row ix58 4 (by first | (with_reducible assumption) | omega (splitDisjunctions := false) | assumption | omega | decide) (by first | (with_reducible assumption) | omega (splitDisjunctions := false) | assumption | omega | decide) (by first | (with_reducible assumption) | omega (splitDisjunctions := false) | assumption | omega | decide) (by first | (with_reducible assumption) | omega (splitDisjunctions := false) | assumption | omega | decide) F_a_row) rfl rfl [9, 10] [0, 1, 2, 3, 4, 5, 6, 7, 8] (by decide) rfl rfl rfl (by decide) (by decide) k_1525 rfl k_128 k_1522 k_1524 k_88 ⟨rfl, hy_Mod_at⟩ (by decide) rfl rfl (Nat.le_of_ble_eq_true rfl) (by decide) (fun v9 ux60 ch59 => ?_)
        obtain ⟨r_61, rfl⟩ : ∃ z9, z9 = ux60 := ⟨_, rfl⟩
        obtain ⟨ech59, ch59⟩ := ch59
        have ech59 : v9 = some (.long r_61) := ech59
        subst ech59
        obtain ⟨fh62, fh63, fh64⟩ : (r_61.toInt = av a_row ix58.toInt (4 : Int32).toInt.toNat) ∧ (0 ≤ r_61.toInt) ∧ (r_61.toInt < 4294967296) := ch59
        have u24 : r_61.toInt = aw A (e.toInt + 24) 4 := by rw [fh62, n4, show ix58.toInt = e.toInt + 24 by omega]; exact av_A hA 4 (by (first | exact omg_56efbf3b2a h0 | omega)) (by (first | exact omg_a02c705012 hZ v4 | omega))
        refine pb_eq (pc' := 100) (lo' := [(5, .int ix57), (4, .int ix49), (3, .int ix16), (0, .ref h), (1, .int e), (2, .int bg)]) (rest' := [.long r_61]) (ws' := [(m_size, .inl (G.2.2.1, 34, .inl a_size)), (m_data, .inl (G.2.1, 136000, .inl a_data)), (m_length, .inl (G.2.2.1, 420, .inl a_length)), (m_order, .inl (G.2.1, 19, .inl a_order)), (m_made, .inl (G.2.1, 4000, .inl a_made)), (m_count, .inl (G.2.2.1, 2, .inl a_count)), (m_nameSize, .inl (G.2.2.1, 34, .inl a_nameSize)), (m_names, .inl (G.2.1, 816, .inl a_names)), (m_looked, .inl (G.2.1, 40, .inl g_29)), (h, .inr (10, [.ref m_rels, .ref m_openRels, .ref m_closeRels, .ref m_openRel, .ref m_closeRel, .ref m_comment, .ref m_ends, .ref m_order, .int v_thrown, .int v_taped, .ref m_tape, .ref m_count, .ref m_nameSize, .ref m_names, .ref m_size, .ref m_data, .int ix16, .ref m_looked, .int v_fileSize, .ref m_file, .int v_directorySize, .ref m_directory, .int v_outSize, .ref m_out, .int v_rowSize, .ref m_row, .int v_bitAt, .int v_bitEnd, .int v_why, .int v_madeSize, .ref m_made, .ref m_length, .int v_firstCount, .int v_secondCount, .int v_heldBits, .int v_heldCount, .int v_pressedSize, .ref m_pressed, .int v_at, .int v_bad, .int v_markSize, .ref m_mark, .int v_relationCount, .ref m_idSize, .ref m_ids, .ref m_goalSize, .ref m_goals, .int v_valueSize, .ref m_value, .int v_faultCount, .ref m_faults, .ref m_reached])), (m_row, .inl (G.2.1, 20000, .inl a_row))]) ?_
        refine pb_lstore (pc := 100) (lo' := [(6, .long r_61), (5, .int ix57), (4, .int ix49), (3, .int ix16), (0, .ref h), (1, .int e), (2, .int bg)]) d_Mod_entryFault_100 (by decide) rfl ?_
        refine pb_aload_n (pc := 102) d_Mod_entryFault_102 4 rfl rfl ?_
        refine pb_iload_n (pc := 103) d_Mod_entryFault_103 5 rfl rfl ?_
        refine pb_bipush (pc := 104) (v := 16) d_Mod_entryFault_104 (by decide) ?_
        refine pb_iadd (pc := 106) d_Mod_entryFault_106 ?_
        refine pb_topi (fun ix65 eix65 => ?_)
        try have tix65 : ix65.toInt = e.toInt + 16 := t2_add eix65 rfl (by decide) (by (first | exact omg_c86646b5b5 h0 h1 v4 fh13 u28 | omega))
        refine pb_iconst (pc := 107) (v := 4) d_Mod_entryFault_107 (by decide) ?_
        refine pb_callV (pc := 108) (I := i_Mod_entryFault) (qb := 9) (ci := 10) (nA := 2) (rest := []) (wr := [(m_size, .inl (G.2.2.1, 34, .inl a_size)), (m_data, .inl (G.2.1, 136000, .inl a_data)), (m_length, .inl (G.2.2.1, 420, .inl a_length)), (m_order, .inl (G.2.1, 19, .inl a_order)), (m_made, .inl (G.2.1, 4000, .inl a_made)), (m_count, .inl (G.2.2.1, 2, .inl a_count)), (m_nameSize, .inl (G.2.2.1, 34, .inl a_nameSize)), (m_names, .inl (G.2.1, 816, .inl a_names)), (m_looked, .inl (G.2.1, 40, .inl g_29))]) d_Mod_entryFault_108 (g_Mod_at hl G h m_rels m_openRels m_closeRels m_openRel m_closeRel m_comment m_ends m_order m_tape m_count m_nameSize m_names m_size m_data m_looked m_file m_directory m_out m_row m_made m_length m_pressed m_mark m_idSize m_ids m_goalSize m_goals m_value m_faults m_reached v_thrown v_taped ix16 v_fileSize v_directorySize v_outSize v_rowSize v_bitAt v_bitEnd v_why v_madeSize v_firstCount v_secondCount v_heldBits v_heldCount v_pressedSize v_at v_bad v_markSize v_relationCount v_valueSize v_faultCount a_row ix65 4 (by first | (with_reducible assumption) | omega (splitDisjunctions := false) | assumption | omega | decide) (by first | (with_reducible assumption) | omega (splitDisjunctions := false) | assumption | omega | decide) (by first | (with_reducible assumption) | omega (splitDisjunctions := false) | assumption | omega | decide) (by first | (with_reducible assumption) | omega (splitDisjunctions := false) | assumption | omega | decide) F_a_row) rfl rfl [9, 10] [0, 1, 2, 3, 4, 5, 6, 7, 8] (by decide) rfl rfl rfl (by decide) (by decide) k_1525 rfl k_128 k_1522 k_1524 k_88 ⟨rfl, hy_Mod_at⟩ (by decide) rfl rfl (Nat.le_of_ble_eq_true rfl) (by decide) (fun v9 ux67 ch66 => ?_)
        obtain ⟨r_68, rfl⟩ : ∃ z9, z9 = ux67 := ⟨_, rfl⟩
        obtain ⟨ech66, ch66⟩ := ch66
        have ech66 : v9 = some (.long r_68) := ech66
        subst ech66
        obtain ⟨fh69, fh70, fh71⟩ : (r_68.toInt = av a_row ix65.toInt (4 : Int32).toInt.toNat) ∧ (0 ≤ r_68.toInt) ∧ (r_68.toInt < 4294967296) := ch66
        have u16 : r_68.toInt = aw A (e.toInt + 16) 4 := by rw [fh69, n4, show ix65.toInt = e.toInt + 16 by omega]; exact av_A hA 4 (by (first | exact omg_f5c65a0819 h0 | omega)) (by (first | exact omg_a6aeb68d88 hZ v4 | omega))
        refine pb_eq (pc' := 111) (lo' := [(6, .long r_61), (5, .int ix57), (4, .int ix49), (3, .int ix16), (0, .ref h), (1, .int e), (2, .int bg)]) (rest' := [.long r_68]) (ws' := [(m_size, .inl (G.2.2.1, 34, .inl a_size)), (m_data, .inl (G.2.1, 136000, .inl a_data)), (m_length, .inl (G.2.2.1, 420, .inl a_length)), (m_order, .inl (G.2.1, 19, .inl a_order)), (m_made, .inl (G.2.1, 4000, .inl a_made)), (m_count, .inl (G.2.2.1, 2, .inl a_count)), (m_nameSize, .inl (G.2.2.1, 34, .inl a_nameSize)), (m_names, .inl (G.2.1, 816, .inl a_names)), (m_looked, .inl (G.2.1, 40, .inl g_29)), (h, .inr (10, [.ref m_rels, .ref m_openRels, .ref m_closeRels, .ref m_openRel, .ref m_closeRel, .ref m_comment, .ref m_ends, .ref m_order, .int v_thrown, .int v_taped, .ref m_tape, .ref m_count, .ref m_nameSize, .ref m_names, .ref m_size, .ref m_data, .int ix16, .ref m_looked, .int v_fileSize, .ref m_file, .int v_directorySize, .ref m_directory, .int v_outSize, .ref m_out, .int v_rowSize, .ref m_row, .int v_bitAt, .int v_bitEnd, .int v_why, .int v_madeSize, .ref m_made, .ref m_length, .int v_firstCount, .int v_secondCount, .int v_heldBits, .int v_heldCount, .int v_pressedSize, .ref m_pressed, .int v_at, .int v_bad, .int v_markSize, .ref m_mark, .int v_relationCount, .ref m_idSize, .ref m_ids, .ref m_goalSize, .ref m_goals, .int v_valueSize, .ref m_value, .int v_faultCount, .ref m_faults, .ref m_reached])), (m_row, .inl (G.2.1, 20000, .inl a_row))]) ?_
        refine pb_l2i (pc := 111) d_Mod_entryFault_111 rfl ?_
        refine pb_topi (fun ix72 eix72 => ?_)
        try have tix72 : ix72.toInt = r_68.toInt := ti_l2i eix72 rfl (by (first | exact omg_829df125db fh70 | omega)) (by omega)
        have cE := l2i_E eix72 u16
        refine pb_istore (pc := 112) (lo' := [(8, .int ix72), (6, .long r_61), (5, .int ix57), (4, .int ix49), (3, .int ix16), (0, .ref h), (1, .int e), (2, .int bg)]) d_Mod_entryFault_112 (by decide) rfl ?_
        refine pb_aload_n (pc := 114) d_Mod_entryFault_114 5 rfl rfl ?_
        refine pb_iload_n (pc := 115) d_Mod_entryFault_115 6 rfl rfl ?_
        refine pb_bipush (pc := 116) (v := 10) d_Mod_entryFault_116 (by decide) ?_
        refine pb_iadd (pc := 118) d_Mod_entryFault_118 ?_
        refine pb_topi (fun ix73 eix73 => ?_)
        try have tix73 : ix73.toInt = e.toInt + 10 := t2_add eix73 rfl (by decide) (by (first | exact omg_bcaab8d3eb h0 h1 v4 fh13 u28 | omega))
        refine pb_iconst (pc := 119) (v := 2) d_Mod_entryFault_119 (by decide) ?_
        refine pb_callV (pc := 120) (I := i_Mod_entryFault) (qb := 9) (ci := 10) (nA := 2) (rest := []) (wr := [(m_size, .inl (G.2.2.1, 34, .inl a_size)), (m_data, .inl (G.2.1, 136000, .inl a_data)), (m_length, .inl (G.2.2.1, 420, .inl a_length)), (m_order, .inl (G.2.1, 19, .inl a_order)), (m_made, .inl (G.2.1, 4000, .inl a_made)), (m_count, .inl (G.2.2.1, 2, .inl a_count)), (m_nameSize, .inl (G.2.2.1, 34, .inl a_nameSize)), (m_names, .inl (G.2.1, 816, .inl a_names)), (m_looked, .inl (G.2.1, 40, .inl g_29))]) d_Mod_entryFault_120 (g_Mod_at hl G h m_rels m_openRels m_closeRels m_openRel m_closeRel m_comment m_ends m_order m_tape m_count m_nameSize m_names m_size m_data m_looked m_file m_directory m_out m_row m_made m_length m_pressed m_mark m_idSize m_ids m_goalSize m_goals m_value m_faults m_reached v_thrown v_taped ix16 v_fileSize v_directorySize v_outSize v_rowSize v_bitAt v_bitEnd v_why v_madeSize v_firstCount v_secondCount v_heldBits v_heldCount v_pressedSize v_at v_bad v_markSize v_relationCount v_valueSize v_faultCount a_row ix73 2 (by first | (with_reducible assumption) | omega (splitDisjunctions := false) | assumption | omega | decide) (by first | (with_reducible assumption) | omega (splitDisjunctions := false) | assumption | omega | decide) (by first | (with_reducible assumption) | omega (splitDisjunctions := false) | assumption | omega | decide) (by first | (with_reducible assumption) | omega (splitDisjunctions := false) | assumption | omega | decide) F_a_row) rfl rfl [9, 10] [0, 1, 2, 3, 4, 5, 6, 7, 8] (by decide) rfl rfl rfl (by decide) (by decide) k_1525 rfl k_128 k_1522 k_1524 k_88 ⟨rfl, hy_Mod_at⟩ (by decide) rfl rfl (Nat.le_of_ble_eq_true rfl) (by decide) (fun v9 ux75 ch74 => ?_)
        obtain ⟨r_76, rfl⟩ : ∃ z9, z9 = ux75 := ⟨_, rfl⟩
        obtain ⟨ech74, ch74⟩ := ch74
        have ech74 : v9 = some (.long r_76) := ech74
        subst ech74
        obtain ⟨fh77, fh78, fh79⟩ : (r_76.toInt = av a_row ix73.toInt (2 : Int32).toInt.toNat) ∧ (0 ≤ r_76.toInt) ∧ (r_76.toInt < 4294967296) := ch74
        have u10 : r_76.toInt = aw A (e.toInt + 10) 2 := by rw [fh77, n2, show ix73.toInt = e.toInt + 10 by omega]; exact av_A hA 2 (by (first | exact omg_7793973aaf h0 | omega)) (by (first | exact omg_37a4731a8a hZ v4 | omega))
        refine pb_eq (pc' := 123) (lo' := [(8, .int ix72), (6, .long r_61), (5, .int ix57), (4, .int ix49), (3, .int ix16), (0, .ref h), (1, .int e), (2, .int bg)]) (rest' := [.long r_76]) (ws' := [(m_size, .inl (G.2.2.1, 34, .inl a_size)), (m_data, .inl (G.2.1, 136000, .inl a_data)), (m_length, .inl (G.2.2.1, 420, .inl a_length)), (m_order, .inl (G.2.1, 19, .inl a_order)), (m_made, .inl (G.2.1, 4000, .inl a_made)), (m_count, .inl (G.2.2.1, 2, .inl a_count)), (m_nameSize, .inl (G.2.2.1, 34, .inl a_nameSize)), (m_names, .inl (G.2.1, 816, .inl a_names)), (m_looked, .inl (G.2.1, 40, .inl g_29)), (h, .inr (10, [.ref m_rels, .ref m_openRels, .ref m_closeRels, .ref m_openRel, .ref m_closeRel, .ref m_comment, .ref m_ends, .ref m_order, .int v_thrown, .int v_taped, .ref m_tape, .ref m_count, .ref m_nameSize, .ref m_names, .ref m_size, .ref m_data, .int ix16, .ref m_looked, .int v_fileSize, .ref m_file, .int v_directorySize, .ref m_directory, .int v_outSize, .ref m_out, .int v_rowSize, .ref m_row, .int v_bitAt, .int v_bitEnd, .int v_why, .int v_madeSize, .ref m_made, .ref m_length, .int v_firstCount, .int v_secondCount, .int v_heldBits, .int v_heldCount, .int v_pressedSize, .ref m_pressed, .int v_at, .int v_bad, .int v_markSize, .ref m_mark, .int v_relationCount, .ref m_idSize, .ref m_ids, .ref m_goalSize, .ref m_goals, .int v_valueSize, .ref m_value, .int v_faultCount, .ref m_faults, .ref m_reached])), (m_row, .inl (G.2.1, 20000, .inl a_row))]) ?_
        refine pb_ldc2 (pc := 123) (v := 8) d_Mod_entryFault_123 k_1498 ?_
        refine pb_lcmp (pc := 126) d_Mod_entryFault_126 ?_
        refine pb_topi (fun ix80 eix80 => ?_)
        have tix80 : (ix80.toInt < 0 ↔ r_76.toInt < 8) ∧ (ix80.toInt = 0 ↔ r_76.toInt = 8) ∧ (0 < ix80.toInt ↔ 8 < r_76.toInt) := tl_cmp eix80 rfl (by decide)
        obtain ⟨lc1, lc2, lc3⟩ := tix80
        refine pb_if_ne (pc := 127) (tgt := 205) d_Mod_entryFault_127 (by decide) (fun wx81 => ?_) (fun wx81 => ?_)
        · have twx81 : ¬ ix80.toInt = 0 := fun z9 => wx81 ((ti_eq rfl (by decide)).mpr z9)
          rename ¬ (_ : Int) = 0 => zq
          have lc4 := mt lc2.mpr zq
          clear zq lc1 lc2 lc3
          obtain ⟨sX, esX⟩ : ∃ z : Int, z = aw A (e.toInt + 20) 4 := ⟨_, rfl⟩
          obtain ⟨fX, efX⟩ : ∃ z : Int, z = 0 := ⟨_, rfl⟩
          obtain ⟨dX, edX⟩ : ∃ z : Int → Int32, z = fun k => A (aw A (e.toInt + 42) 4 + 30 + aw A (e.toInt + 28) 2 + k) := ⟨_, rfl⟩
          have bsP : hid_ (fX = 0 → bs_ A e.toInt sX dX) := hid_i (fun _ => Or.inr ⟨by (first | exact omg_21dc92fe3c u10 lc4 | omega), esX, edX⟩)
          have bsN : hid_ (¬ fX = 0 → ∀ (s9 : Int) (d9 : Int → Int32), ¬ ok_ A e.toInt s9 d9) := hid_i (fun q9 => absurd efX q9)
          have dxE : ∀ k : Int, 0 ≤ k → k < sX → ∀ Y9 : Int, Y9 = aw A (e.toInt + 42) 4 + 30 + aw A (e.toInt + 28) 2 → gr a_row (Y9 + k) = dX k := fun k h0 h1 Y9 hY => by rw [edX, hY]; exact (hA _ (by (first | exact omg_939c5dc72a v2 u28 tix16 iNm fh44 u42 h0 | omega)) (by (first | exact omg_8e598dd43e hZ2 rrG esX h1 | omega))).symm
          refine pb_iload (pc := 205) d_Mod_entryFault_205 2 rfl ?_
          refine pb_i2l (pc := 207) d_Mod_entryFault_207 rfl ?_
          refine pb_topl (fun jx82 ejx82 => ?_)
          have tjx82 : jx82.toInt = ix57.toInt := tl_i2l ejx82 rfl
          refine pb_lload (pc := 208) d_Mod_entryFault_208 1 rfl ?_
          refine pb_lcmp (pc := 210) d_Mod_entryFault_210 ?_
          refine pb_topi (fun ix83 eix83 => ?_)
          have tix83 : (ix83.toInt < 0 ↔ jx82.toInt < r_61.toInt) ∧ (ix83.toInt = 0 ↔ jx82.toInt = r_61.toInt) ∧ (0 < ix83.toInt ↔ r_61.toInt < jx82.toInt) := tl_cmp eix83 rfl rfl
          obtain ⟨lc1, lc2, lc3⟩ := tix83
          refine pb_if_ne (pc := 211) (tgt := 230) d_Mod_entryFault_211 (by decide) (fun wx84 => ?_) (fun wx84 => ?_)
          · have twx84 : ¬ ix83.toInt = 0 := fun z9 => wx84 ((ti_eq rfl (by decide)).mpr z9)
            refine pb_iconst (pc := 230) (v := 5) d_Mod_entryFault_230 (by decide) ?_
            exact pb_iret (pc := 231) hQ d_Mod_entryFault_231 rfl rfl (5, ix16, v_bitAt, v_bitEnd, v_why, v_firstCount, v_secondCount, v_madeSize, a_count, a_nameSize, a_names, g_29, a_size, a_data, a_length, a_made) ⟨rfl, (show ms_I 17 (gx a_count 1) a_nameSize a_size a_names from (by first | exact I | exact P0)), (show gx a_count 0 = gx a_count 0 from (by first | rfl | exact P1)), (show ot_Z a_nameSize a_nameSize 17 from (by first | exact fun _ _ _ => rfl | exact P2)), (show ot_Z a_size a_size 17 from (by first | exact fun _ _ _ => rfl | exact P3)), (show ot_N a_names a_names 17 from (by first | exact fun _ _ _ => rfl | exact P4)), (show le_I a_length from (by first | exact LI | assumption)), (by (try dsimp only); first | done | (with_reducible assumption) | (first | exact omg_a009f5a072 iNm | omega (splitDisjunctions := false)) | assumption | omega | decide), (by (try dsimp only); first | done | (with_reducible assumption) | (first | exact omg_a15b2cc0d6 iNm | omega (splitDisjunctions := false)) | assumption | omega | decide), (by (try dsimp only); first | done | (with_reducible assumption) | omega (splitDisjunctions := false) | assumption | omega | decide), (by (try dsimp only); first | done | (with_reducible assumption) | omega (splitDisjunctions := false) | assumption | omega | decide), (show 0 ≤ (5 : Int32).toInt from (by first | decide | omega)), (show ot_D a_data a_data 17 from (by first | exact fun _ _ _ => rfl | exact P5)), (show hid_ (∃ W : VW_, en_R A bg.toInt e.toInt V (5 : Int32).toInt W ∧ ((5 : Int32).toInt = 0 → rM_ 17 (gx a_count 1) a_nameSize a_names a_size a_data W)) from (hid_i ⟨V, en_5 (by first | decide | omega) rrF nkF (by first | exact ok_x bsQ smF sdF cE (by omega) (by omega) | exact (if z9 : fX = 0 then ok_no (hid_o bsP z9) (fun q9 => absurd q9.1 (by (first | exact omg_4e7878a853 u20 tix57 u24 esX tjx82 lc2 twx84 | omega))) else hid_o bsN z9)), fun q9 => absurd q9 (by first | decide | omega)⟩)), F_a_names, fh31, F_a_data, F_a_made⟩ [9, 10, 5, 6, 7, 8, 0, 1, 2, 3, 4] (by decide) rfl rfl (by decide) (by decide)
          · have twx84 : ix83.toInt = 0 := (ti_eq rfl (by decide)).mp wx84
            have lc5 := lc2.mp (by assumption)
            clear lc1 lc2 lc3
            have fX0 : fX = 0 := by omega
            have bsQ := hid_o bsP fX0
            refine pb_aload_n (pc := 214) d_Mod_entryFault_214 5 rfl rfl ?_
            refine pb_get (pc := 215) d_Mod_entryFault_215 9 25 rfl rfl (by decide) in_Mod k_1171 rfl ?_
            refine pb_iload (pc := 218) d_Mod_entryFault_218 3 rfl ?_
            refine pb_iload (pc := 220) d_Mod_entryFault_220 2 rfl ?_
            refine pb_callS (pc := 222) (I := i_Mod_entryFault) (nA := 3) (rest := []) (wr := [(m_size, .inl (G.2.2.1, 34, .inl a_size)), (m_data, .inl (G.2.1, 136000, .inl a_data)), (m_length, .inl (G.2.2.1, 420, .inl a_length)), (m_order, .inl (G.2.1, 19, .inl a_order)), (m_made, .inl (G.2.1, 4000, .inl a_made)), (m_count, .inl (G.2.2.1, 2, .inl a_count)), (m_nameSize, .inl (G.2.2.1, 34, .inl a_nameSize)), (m_names, .inl (G.2.1, 816, .inl a_names)), (m_looked, .inl (G.2.1, 40, .inl g_29)), (h, .inr (10, [.ref m_rels, .ref m_openRels, .ref m_closeRels, .ref m_openRel, .ref m_closeRel, .ref m_comment, .ref m_ends, .ref m_order, .int v_thrown, .int v_taped, .ref m_tape, .ref m_count, .ref m_nameSize, .ref m_names, .ref m_size, .ref m_data, .int ix16, .ref m_looked, .int v_fileSize, .ref m_file, .int v_directorySize, .ref m_directory, .int v_outSize, .ref m_out, .int v_rowSize, .ref m_row, .int v_bitAt, .int v_bitEnd, .int v_why, .int v_madeSize, .ref m_made, .ref m_length, .int v_firstCount, .int v_secondCount, .int v_heldBits, .int v_heldCount, .int v_pressedSize, .ref m_pressed, .int v_at, .int v_bad, .int v_markSize, .ref m_mark, .int v_relationCount, .ref m_idSize, .ref m_ids, .ref m_goalSize, .ref m_goals, .int v_valueSize, .ref m_value, .int v_faultCount, .ref m_faults, .ref m_reached]))]) d_Mod_entryFault_222 (g_Mod_sumOf hl G m_row 20000 a_row ix49 ix57 (by first | (with_reducible assumption) | omega (splitDisjunctions := false) | assumption | omega | decide) (by first | (with_reducible assumption) | omega (splitDisjunctions := false) | assumption | omega | decide) (by first | (with_reducible assumption) | omega (splitDisjunctions := false) | assumption | omega | decide) (by first | (with_reducible assumption) | omega (splitDisjunctions := false) | assumption | omega | decide) F_a_row) [10] [0, 1, 2, 3, 4, 5, 6, 7, 8, 9] (by decide) rfl rfl rfl (by decide) (by decide) k_1368 rfl k_128 k_1366 k_1367 hy_Mod_sumOf (by decide) rfl rfl (Nat.le_of_ble_eq_true rfl) (by decide) (fun v9 ux86 ch85 => ?_)
            obtain ⟨r_87, rfl⟩ : ∃ z9, z9 = ux86 := ⟨_, rfl⟩
            obtain ⟨ech85, ch85⟩ := ch85
            have ech85 : v9 = some (.int r_87) := ech85
            subst ech85
            have fh88 : r_87 = cr_n a_row ix49.toInt ix57.toInt.toNat ^^^ (-1) := ch85
            have smF := fh88
            rw [show ix57.toInt = sX by (first | exact omg_d430f5e298 u20 tix57 esX | omega)] at smF
            have sdF := fun (k : Int) (h0 : 0 ≤ k) (h1 : k < sX) => dxE k h0 h1 (ix49 : Int32).toInt (by (first | exact omg_8f1e4e2792 u28 tix16 u42 tix47 tix48 tix49 | omega))
            refine pb_eq (pc' := 225) (lo' := [(8, .int ix72), (6, .long r_61), (5, .int ix57), (4, .int ix49), (3, .int ix16), (0, .ref h), (1, .int e), (2, .int bg)]) (rest' := [.int r_87]) (ws' := [(m_size, .inl (G.2.2.1, 34, .inl a_size)), (m_data, .inl (G.2.1, 136000, .inl a_data)), (m_length, .inl (G.2.2.1, 420, .inl a_length)), (m_order, .inl (G.2.1, 19, .inl a_order)), (m_made, .inl (G.2.1, 4000, .inl a_made)), (m_count, .inl (G.2.2.1, 2, .inl a_count)), (m_nameSize, .inl (G.2.2.1, 34, .inl a_nameSize)), (m_names, .inl (G.2.1, 816, .inl a_names)), (m_looked, .inl (G.2.1, 40, .inl g_29)), (h, .inr (10, [.ref m_rels, .ref m_openRels, .ref m_closeRels, .ref m_openRel, .ref m_closeRel, .ref m_comment, .ref m_ends, .ref m_order, .int v_thrown, .int v_taped, .ref m_tape, .ref m_count, .ref m_nameSize, .ref m_names, .ref m_size, .ref m_data, .int ix16, .ref m_looked, .int v_fileSize, .ref m_file, .int v_directorySize, .ref m_directory, .int v_outSize, .ref m_out, .int v_rowSize, .ref m_row, .int v_bitAt, .int v_bitEnd, .int v_why, .int v_madeSize, .ref m_made, .ref m_length, .int v_firstCount, .int v_secondCount, .int v_heldBits, .int v_heldCount, .int v_pressedSize, .ref m_pressed, .int v_at, .int v_bad, .int v_markSize, .ref m_mark, .int v_relationCount, .ref m_idSize, .ref m_ids, .ref m_goalSize, .ref m_goals, .int v_valueSize, .ref m_value, .int v_faultCount, .ref m_faults, .ref m_reached])), (m_row, .inl (G.2.1, 20000, .inl a_row))]) ?_
            refine pb_iload (pc := 225) d_Mod_entryFault_225 0 rfl ?_
            refine pb_icmp_eq (pc := 227) (tgt := 232) d_Mod_entryFault_227 (by decide) (fun wx89 => ?_) (fun wx89 => ?_)
            · have twx89 : r_87.toInt = ix72.toInt := (ti_eq rfl rfl).mp wx89
              have okF := ok_y bsQ (by (first | exact omg_ea31d97ab9 u20 tix57 u24 esX tjx82 lc5 | omega)) smF sdF cE (by omega) (by (first | exact omg_09636e42cf u20 tix57 fh63 esX tjx82 lc5 | omega))
              clear bsP bsN
              refine pb_aload_n (pc := 232) d_Mod_entryFault_232 5 rfl rfl ?_
              refine pb_iconst (pc := 233) (v := 1) d_Mod_entryFault_233 (by decide) ?_
              refine pb_iload (pc := 234) d_Mod_entryFault_234 2 rfl ?_
              refine pb_callV (pc := 236) (I := i_Mod_entryFault) (qb := 9) (ci := 10) (nA := 2) (rest := []) (wr := [(m_data, .inl (G.2.1, 136000, .inl a_data)), (m_length, .inl (G.2.2.1, 420, .inl a_length)), (m_order, .inl (G.2.1, 19, .inl a_order)), (m_made, .inl (G.2.1, 4000, .inl a_made)), (m_row, .inl (G.2.1, 20000, .inl a_row))]) d_Mod_entryFault_236 (g_Mod_isRoom hl G h m_rels m_openRels m_closeRels m_openRel m_closeRel m_comment m_ends m_order m_tape m_count m_nameSize m_names m_size m_data m_looked m_file m_directory m_out m_row m_made m_length m_pressed m_mark m_idSize m_ids m_goalSize m_goals m_value m_faults m_reached v_thrown v_taped ix16 v_fileSize v_directorySize v_outSize v_rowSize v_bitAt v_bitEnd v_why v_madeSize v_firstCount v_secondCount v_heldBits v_heldCount v_pressedSize v_at v_bad v_markSize v_relationCount v_valueSize v_faultCount a_count a_nameSize a_names g_29 a_size 1 ix57 (by first | (with_reducible assumption) | omega (splitDisjunctions := false) | assumption | omega | decide) (by first | (with_reducible assumption) | omega (splitDisjunctions := false) | assumption | omega | decide) (by simpa only [zl1, Int.mul_one] using I) (by first | (with_reducible assumption) | omega (splitDisjunctions := false) | assumption | omega | decide) (by first | (with_reducible assumption) | omega (splitDisjunctions := false) | assumption | omega | decide) (by first | (with_reducible assumption) | omega (splitDisjunctions := false) | assumption | omega | decide) (by first | (with_reducible assumption) | omega (splitDisjunctions := false) | assumption | omega | decide) F_a_names fh31) rfl rfl [9, 5, 6, 7, 8, 0] [1, 2, 3, 4, 10] (by decide) rfl rfl rfl (by decide) (by decide) k_1329 rfl k_128 k_1326 k_1328 k_54 ⟨rfl, hy_Mod_isRoom⟩ (by decide) rfl rfl (Nat.le_of_ble_eq_true rfl) (by decide) (fun v9 ux91 ch90 => ?_)
              obtain ⟨r_92, rfl⟩ : ∃ z9, z9 = ux91 := ⟨_, rfl⟩
              obtain ⟨ech90, ch90⟩ := ch90
              have ech90 : v9 = some (.int r_92) := ech90
              subst ech90
              obtain ⟨fh93, fh94, fh95⟩ : (r_92.toInt = 0 ∨ r_92.toInt = 1) ∧ (r_92.toInt = 1 → ix57.toInt ≤ 4000 ∧ (∀ i : Int, 0 ≤ i → i < gx a_count (1 : Int32).toInt → nl_eq a_nameSize a_names (17 * (1 : Int32).toInt + i) ix16.toInt g_29 → sm a_size (17 * (1 : Int32).toInt) (gx a_count (1 : Int32).toInt).toNat - gx a_size (17 * (1 : Int32).toInt + i) + ix57.toInt ≤ 12000) ∧ ((∀ i : Int, 0 ≤ i → i < gx a_count (1 : Int32).toInt → ¬ nl_eq a_nameSize a_names (17 * (1 : Int32).toInt + i) ix16.toInt g_29) → sm a_size (17 * (1 : Int32).toInt) (gx a_count (1 : Int32).toInt).toNat + ix57.toInt ≤ 12000 ∧ gx a_count (1 : Int32).toInt < 16)) ∧ (r_92.toInt = 0 → ¬ (ix57.toInt ≤ 4000 ∧ (∀ i : Int, 0 ≤ i → i < gx a_count (1 : Int32).toInt → nl_eq a_nameSize a_names (17 * (1 : Int32).toInt + i) ix16.toInt g_29 → sm a_size (17 * (1 : Int32).toInt) (gx a_count (1 : Int32).toInt).toNat - gx a_size (17 * (1 : Int32).toInt + i) + ix57.toInt ≤ 12000) ∧ ((∀ i : Int, 0 ≤ i → i < gx a_count (1 : Int32).toInt → ¬ nl_eq a_nameSize a_names (17 * (1 : Int32).toInt + i) ix16.toInt g_29) → sm a_size (17 * (1 : Int32).toInt) (gx a_count (1 : Int32).toInt).toNat + ix57.toInt ≤ 12000 ∧ gx a_count (1 : Int32).toInt < 16))) := ch90
              have rmF := hid_i fh94
              have rmV := hid_i fh94
              have rnV := hid_i fh95
              have rmb := fh93
              clear fh93 fh94 fh95
              rw [nE5, show ix57.toInt = sX by (first | exact omg_d430f5e298 u20 tix57 esX | omega)] at rmV rnV
              refine pb_eq (pc' := 239) (lo' := [(8, .int ix72), (6, .long r_61), (5, .int ix57), (4, .int ix49), (3, .int ix16), (0, .ref h), (1, .int e), (2, .int bg)]) (rest' := [.int r_92]) (ws' := [(m_data, .inl (G.2.1, 136000, .inl a_data)), (m_length, .inl (G.2.2.1, 420, .inl a_length)), (m_order, .inl (G.2.1, 19, .inl a_order)), (m_made, .inl (G.2.1, 4000, .inl a_made)), (m_row, .inl (G.2.1, 20000, .inl a_row)), (h, .inr (10, [.ref m_rels, .ref m_openRels, .ref m_closeRels, .ref m_openRel, .ref m_closeRel, .ref m_comment, .ref m_ends, .ref m_order, .int v_thrown, .int v_taped, .ref m_tape, .ref m_count, .ref m_nameSize, .ref m_names, .ref m_size, .ref m_data, .int ix16, .ref m_looked, .int v_fileSize, .ref m_file, .int v_directorySize, .ref m_directory, .int v_outSize, .ref m_out, .int v_rowSize, .ref m_row, .int v_bitAt, .int v_bitEnd, .int v_why, .int v_madeSize, .ref m_made, .ref m_length, .int v_firstCount, .int v_secondCount, .int v_heldBits, .int v_heldCount, .int v_pressedSize, .ref m_pressed, .int v_at, .int v_bad, .int v_markSize, .ref m_mark, .int v_relationCount, .ref m_idSize, .ref m_ids, .ref m_goalSize, .ref m_goals, .int v_valueSize, .ref m_value, .int v_faultCount, .ref m_faults, .ref m_reached])), (m_count, .inl (G.2.2.1, 2, .inl a_count)), (m_nameSize, .inl (G.2.2.1, 34, .inl a_nameSize)), (m_names, .inl (G.2.1, 816, .inl a_names)), (m_looked, .inl (G.2.1, 40, .inl g_29)), (m_size, .inl (G.2.2.1, 34, .inl a_size))]) ?_
              refine pb_if_ne (pc := 239) (tgt := 245) d_Mod_entryFault_239 (by decide) (fun wx96 => ?_) (fun wx96 => ?_)
              · have twx96 : ¬ r_92.toInt = 0 := fun z9 => wx96 ((ti_eq rfl (by decide)).mpr z9)
                rename ¬ (_ : Int) = 0 => zq
                have rmG := hid_o rmF (by (first | exact omg_d9c3f42b32 rmb zq | omega))
                have rmW := hid_o rmV (by omega)
                clear zq rmb rmF rmV rnV
                refine pb_aload_n (pc := 245) d_Mod_entryFault_245 5 rfl rfl ?_
                refine pb_iconst (pc := 246) (v := 1) d_Mod_entryFault_246 (by decide) ?_
                refine pb_aload_n (pc := 247) d_Mod_entryFault_247 5 rfl rfl ?_
                refine pb_get (pc := 248) d_Mod_entryFault_248 5 25 rfl rfl (by decide) in_Mod k_1171 rfl ?_
                refine pb_iload (pc := 251) d_Mod_entryFault_251 3 rfl ?_
                refine pb_iload (pc := 253) d_Mod_entryFault_253 2 rfl ?_
                refine pb_callV (pc := 255) (I := i_Mod_entryFault) (qb := 5) (ci := 10) (nA := 4) (rest := []) (wr := [(m_length, .inl (G.2.2.1, 420, .inl a_length)), (m_order, .inl (G.2.1, 19, .inl a_order)), (m_made, .inl (G.2.1, 4000, .inl a_made))]) d_Mod_entryFault_255 (g_Mod_put hl G h m_rels m_openRels m_closeRels m_openRel m_closeRel m_comment m_ends m_order m_tape m_count m_nameSize m_names m_size m_data m_looked m_file m_directory m_out m_row m_made m_length m_pressed m_mark m_idSize m_ids m_goalSize m_goals m_value m_faults m_reached v_thrown v_taped ix16 v_fileSize v_directorySize v_outSize v_rowSize v_bitAt v_bitEnd v_why v_madeSize v_firstCount v_secondCount v_heldBits v_heldCount v_pressedSize v_at v_bad v_markSize v_relationCount v_valueSize v_faultCount a_count a_nameSize a_names g_29 a_size a_data m_row 20000 a_row 1 ix49 ix57 V (by first | (with_reducible assumption) | omega (splitDisjunctions := false) | assumption | omega | decide) (by first | (with_reducible assumption) | omega (splitDisjunctions := false) | assumption | omega | decide) I1_ R1 (by first | (with_reducible assumption) | omega (splitDisjunctions := false) | assumption | omega | decide) (by first | (with_reducible assumption) | omega (splitDisjunctions := false) | assumption | omega | decide) rmG.1 rmG.2.1 rmG.2.2 (by first | (with_reducible assumption) | omega (splitDisjunctions := false) | assumption | omega | decide) (by first | (with_reducible assumption) | omega (splitDisjunctions := false) | assumption | omega | decide) (by first | (with_reducible assumption) | omega (splitDisjunctions := false) | assumption | omega | decide) (by first | (with_reducible assumption) | omega (splitDisjunctions := false) | assumption | omega | decide) F_a_names fh31 F_a_data F_a_row) rfl rfl [5, 6, 7, 8, 9, 10, 0, 4] [1, 2, 3] (by decide) rfl rfl rfl (by decide) (by decide) k_1345 rfl k_128 k_1342 k_1344 k_58 ⟨rfl, hy_Mod_put⟩ (by decide) rfl rfl (Nat.le_of_ble_eq_true rfl) (by decide) (fun v9 ux98 ch97 => ?_)
                obtain ⟨c_99, z_100, n_101, s_102, d_103⟩ := ux98
                obtain ⟨ech97, ch97⟩ := ch97
                have ech97 : v9 = none := ech97
                subst ech97
                obtain ⟨fh104, fh105, fh106, fh107, fh108, fh109, fh110, fh111, fh112⟩ : (ms_I (17 * (1 : Int32).toInt) (gx c_99 (1 : Int32).toInt) z_100 s_102 n_101) ∧ (∀ o : Int, 0 ≤ o → o ≠ (1 : Int32).toInt → gx c_99 o = gx a_count o) ∧ (ot_Z a_nameSize z_100 (17 * (1 : Int32).toInt)) ∧ (ot_Z a_size s_102 (17 * (1 : Int32).toInt)) ∧ (ot_N a_names n_101 (17 * (1 : Int32).toInt)) ∧ (ot_D a_data d_103 (17 * (1 : Int32).toInt)) ∧ (hid_ ((∃ q : Int, 0 ≤ q ∧ q < gx a_count (1 : Int32).toInt ∧ nE_ V q ix16.toInt (gx g_29) ∧ rM_ (17 * (1 : Int32).toInt) (gx c_99 (1 : Int32).toInt) z_100 n_101 s_102 d_103 (vse_ V q ix16.toInt (gx g_29) ix57.toInt (fun k => gr a_row (ix49.toInt + k)))) ∨ ((∀ i : Int, 0 ≤ i → i < gx a_count (1 : Int32).toInt → ¬ nE_ V i ix16.toInt (gx g_29)) ∧ ∃ r : Int, 0 ≤ r ∧ r ≤ gx a_count (1 : Int32).toInt ∧ (∀ j : Int, r ≤ j → j < gx a_count (1 : Int32).toInt → lx_ (gx g_29) ix16.toInt (vN V j) (vZ V j)) ∧ (0 < r → ¬ lx_ (gx g_29) ix16.toInt (vN V (r - 1)) (vZ V (r - 1))) ∧ rM_ (17 * (1 : Int32).toInt) (gx c_99 (1 : Int32).toInt) z_100 n_101 s_102 d_103 (vin_ V r ix16.toInt (gx g_29) ix57.toInt (fun k => gr a_row (ix49.toInt + k)))))) ∧ (sb_Fit n_101) ∧ (sb_Fit d_103) := ch97
                have P0 := fh104
                have P1 := fh105 0 (by omega) (by omega)
                have P2 := fh106
                have P3 := fh107
                have P4 := fh108
                simp only [zl1, Int.mul_one] at P0 P2 P3 P4
                have P5 := fh109
                have pRF := fh110
                rw [nE5, show ix57.toInt = sX by (first | exact omg_d430f5e298 u20 tix57 esX | omega)] at pRF
                obtain ⟨W8, adM, rmM⟩ := AD_M R1 I1_ hsV (by (first | exact omg_090295931e v4 | omega)) lkE (hid_o pRF)
                obtain ⟨W9, adF, veF⟩ := AD_d adM (fun k h0 h1 => dxE k h0 h1 (ix49 : Int32).toInt (by (first | exact omg_8f1e4e2792 u28 tix16 u42 tix47 tix48 tix49 | omega)))
                have rcF := rM_vE rmM veF
                simp only [zl1, Int.mul_one] at rcF P5
                refine pb_eq (pc' := 258) (lo' := [(8, .int ix72), (6, .long r_61), (5, .int ix57), (4, .int ix49), (3, .int ix16), (0, .ref h), (1, .int e), (2, .int bg)]) (rest' := []) (ws' := [(m_length, .inl (G.2.2.1, 420, .inl a_length)), (m_order, .inl (G.2.1, 19, .inl a_order)), (m_made, .inl (G.2.1, 4000, .inl a_made)), (h, .inr (10, [.ref m_rels, .ref m_openRels, .ref m_closeRels, .ref m_openRel, .ref m_closeRel, .ref m_comment, .ref m_ends, .ref m_order, .int v_thrown, .int v_taped, .ref m_tape, .ref m_count, .ref m_nameSize, .ref m_names, .ref m_size, .ref m_data, .int ix16, .ref m_looked, .int v_fileSize, .ref m_file, .int v_directorySize, .ref m_directory, .int v_outSize, .ref m_out, .int v_rowSize, .ref m_row, .int v_bitAt, .int v_bitEnd, .int v_why, .int v_madeSize, .ref m_made, .ref m_length, .int v_firstCount, .int v_secondCount, .int v_heldBits, .int v_heldCount, .int v_pressedSize, .ref m_pressed, .int v_at, .int v_bad, .int v_markSize, .ref m_mark, .int v_relationCount, .ref m_idSize, .ref m_ids, .ref m_goalSize, .ref m_goals, .int v_valueSize, .ref m_value, .int v_faultCount, .ref m_faults, .ref m_reached])), (m_count, .inl (G.2.2.1, 2, .inl c_99)), (m_nameSize, .inl (G.2.2.1, 34, .inl z_100)), (m_names, .inl (G.2.1, 816, .inl n_101)), (m_looked, .inl (G.2.1, 40, .inl g_29)), (m_size, .inl (G.2.2.1, 34, .inl s_102)), (m_data, .inl (G.2.1, 136000, .inl d_103)), (m_row, .inl (G.2.1, 20000, .inl a_row))]) ?_
                refine pb_iconst (pc := 258) (v := 0) d_Mod_entryFault_258 (by decide) ?_
                exact pb_iret (pc := 259) hQ d_Mod_entryFault_259 rfl rfl (0, ix16, v_bitAt, v_bitEnd, v_why, v_firstCount, v_secondCount, v_madeSize, c_99, z_100, n_101, g_29, s_102, d_103, a_length, a_made) ⟨rfl, (show ms_I 17 (gx c_99 1) z_100 s_102 n_101 from (by first | exact I | exact P0)), (show gx c_99 0 = gx a_count 0 from (by first | rfl | exact P1)), (show ot_Z a_nameSize z_100 17 from (by first | exact fun _ _ _ => rfl | exact P2)), (show ot_Z a_size s_102 17 from (by first | exact fun _ _ _ => rfl | exact P3)), (show ot_N a_names n_101 17 from (by first | exact fun _ _ _ => rfl | exact P4)), (show le_I a_length from (by first | exact LI | assumption)), (by (try dsimp only); first | done | (with_reducible assumption) | (first | exact omg_a009f5a072 iNm | omega (splitDisjunctions := false)) | assumption | omega | decide), (by (try dsimp only); first | done | (with_reducible assumption) | (first | exact omg_a15b2cc0d6 iNm | omega (splitDisjunctions := false)) | assumption | omega | decide), (by (try dsimp only); first | done | (with_reducible assumption) | omega (splitDisjunctions := false) | assumption | omega | decide), (by (try dsimp only); first | done | (with_reducible assumption) | omega (splitDisjunctions := false) | assumption | omega | decide), (show 0 ≤ (0 : Int32).toInt from (by first | decide | omega)), (show ot_D a_data d_103 17 from (by first | exact fun _ _ _ => rfl | exact P5)), (show hid_ (∃ W : VW_, en_R A bg.toInt e.toInt V (0 : Int32).toInt W ∧ ((0 : Int32).toInt = 0 → rM_ 17 (gx c_99 1) z_100 n_101 s_102 d_103 W)) from (hid_i ⟨W9, en_0 (by first | decide | omega) rrF nkF okF (RM_of R1 (by omega) lkE rmW) adF, fun _ => rcF⟩)), fh111, fh31, fh112, F_a_made⟩ [3, 10, 4, 5, 6, 7, 8, 9, 0, 1, 2] (by decide) rfl rfl (by decide) (by decide)
              · have twx96 : r_92.toInt = 0 := (ti_eq rfl (by decide)).mp wx96
                refine pb_bipush (pc := 242) (v := 6) d_Mod_entryFault_242 (by decide) ?_
                exact pb_iret (pc := 244) hQ d_Mod_entryFault_244 rfl rfl (6, ix16, v_bitAt, v_bitEnd, v_why, v_firstCount, v_secondCount, v_madeSize, a_count, a_nameSize, a_names, g_29, a_size, a_data, a_length, a_made) ⟨rfl, (show ms_I 17 (gx a_count 1) a_nameSize a_size a_names from (by first | exact I | exact P0)), (show gx a_count 0 = gx a_count 0 from (by first | rfl | exact P1)), (show ot_Z a_nameSize a_nameSize 17 from (by first | exact fun _ _ _ => rfl | exact P2)), (show ot_Z a_size a_size 17 from (by first | exact fun _ _ _ => rfl | exact P3)), (show ot_N a_names a_names 17 from (by first | exact fun _ _ _ => rfl | exact P4)), (show le_I a_length from (by first | exact LI | assumption)), (by (try dsimp only); first | done | (with_reducible assumption) | (first | exact omg_a009f5a072 iNm | omega (splitDisjunctions := false)) | assumption | omega | decide), (by (try dsimp only); first | done | (with_reducible assumption) | (first | exact omg_a15b2cc0d6 iNm | omega (splitDisjunctions := false)) | assumption | omega | decide), (by (try dsimp only); first | done | (with_reducible assumption) | omega (splitDisjunctions := false) | assumption | omega | decide), (by (try dsimp only); first | done | (with_reducible assumption) | omega (splitDisjunctions := false) | assumption | omega | decide), (show 0 ≤ (6 : Int32).toInt from (by first | decide | omega)), (show ot_D a_data a_data 17 from (by first | exact fun _ _ _ => rfl | exact P5)), (show hid_ (∃ W : VW_, en_R A bg.toInt e.toInt V (6 : Int32).toInt W ∧ ((6 : Int32).toInt = 0 → rM_ 17 (gx a_count 1) a_nameSize a_names a_size a_data W)) from (hid_i ⟨V, en_6 (by first | decide | omega) rrF nkF okF (RM_no R1 (by omega) lkE (hid_o rnV (by omega))), fun q9 => absurd q9 (by first | decide | omega)⟩)), F_a_names, fh31, F_a_data, F_a_made⟩ [5, 4, 6, 7, 8, 9, 10, 0, 1, 2, 3] (by decide) rfl rfl (by decide) (by decide)
            · have twx89 : ¬ r_87.toInt = ix72.toInt := fun z9 => wx89 ((ti_eq rfl rfl).mpr z9)
              refine pb_iconst (pc := 230) (v := 5) d_Mod_entryFault_230 (by decide) ?_
              exact pb_iret (pc := 231) hQ d_Mod_entryFault_231 rfl rfl (5, ix16, v_bitAt, v_bitEnd, v_why, v_firstCount, v_secondCount, v_madeSize, a_count, a_nameSize, a_names, g_29, a_size, a_data, a_length, a_made) ⟨rfl, (show ms_I 17 (gx a_count 1) a_nameSize a_size a_names from (by first | exact I | exact P0)), (show gx a_count 0 = gx a_count 0 from (by first | rfl | exact P1)), (show ot_Z a_nameSize a_nameSize 17 from (by first | exact fun _ _ _ => rfl | exact P2)), (show ot_Z a_size a_size 17 from (by first | exact fun _ _ _ => rfl | exact P3)), (show ot_N a_names a_names 17 from (by first | exact fun _ _ _ => rfl | exact P4)), (show le_I a_length from (by first | exact LI | assumption)), (by (try dsimp only); first | done | (with_reducible assumption) | (first | exact omg_a009f5a072 iNm | omega (splitDisjunctions := false)) | assumption | omega | decide), (by (try dsimp only); first | done | (with_reducible assumption) | (first | exact omg_a15b2cc0d6 iNm | omega (splitDisjunctions := false)) | assumption | omega | decide), (by (try dsimp only); first | done | (with_reducible assumption) | omega (splitDisjunctions := false) | assumption | omega | decide), (by (try dsimp only); first | done | (with_reducible assumption) | omega (splitDisjunctions := false) | assumption | omega | decide), (show 0 ≤ (5 : Int32).toInt from (by first | decide | omega)), (show ot_D a_data a_data 17 from (by first | exact fun _ _ _ => rfl | exact P5)), (show hid_ (∃ W : VW_, en_R A bg.toInt e.toInt V (5 : Int32).toInt W ∧ ((5 : Int32).toInt = 0 → rM_ 17 (gx a_count 1) a_nameSize a_names a_size a_data W)) from (hid_i ⟨V, en_5 (by first | decide | omega) rrF nkF (by first | exact ok_x bsQ smF sdF cE (by omega) (by (first | exact omg_09636e42cf u20 tix57 fh63 esX tjx82 lc5 | omega)) | exact (if z9 : fX = 0 then ok_no (hid_o bsP z9) (fun q9 => absurd q9.1 (by omega)) else hid_o bsN z9)), fun q9 => absurd q9 (by first | decide | omega)⟩)), F_a_names, fh31, F_a_data, F_a_made⟩ [9, 10, 5, 6, 7, 8, 0, 1, 2, 3, 4] (by decide) rfl rfl (by decide) (by decide)
        · have twx81 : ix80.toInt = 0 := (ti_eq rfl (by decide)).mp wx81
          have lc4 := lc2.mp (by assumption)
          clear lc1 lc2 lc3
          refine pb_aload_n (pc := 130) d_Mod_entryFault_130 5 rfl rfl ?_
          refine pb_iload (pc := 131) d_Mod_entryFault_131 3 rfl ?_
          refine pb_iload (pc := 133) d_Mod_entryFault_133 3 rfl ?_
          refine pb_iload (pc := 135) d_Mod_entryFault_135 2 rfl ?_
          refine pb_iadd (pc := 137) d_Mod_entryFault_137 ?_
          refine pb_topi (fun ix113 eix113 => ?_)
          try have tix113 : ix113.toInt = ix49.toInt + ix57.toInt := t2_add eix113 rfl rfl (by (first | exact omg_4410749037 h2 v2 v3 rrG u28 tix16 iNm fh44 u42 tix47 tix48 tix49 fh54 u20 tix57 | omega))
          refine pb_callV (pc := 138) (I := i_Mod_entryFault) (qb := 9) (ci := 10) (nA := 2) (rest := []) (wr := [(m_size, .inl (G.2.2.1, 34, .inl a_size)), (m_data, .inl (G.2.1, 136000, .inl a_data)), (m_count, .inl (G.2.2.1, 2, .inl a_count)), (m_nameSize, .inl (G.2.2.1, 34, .inl a_nameSize)), (m_names, .inl (G.2.1, 816, .inl a_names)), (m_looked, .inl (G.2.1, 40, .inl g_29))]) d_Mod_entryFault_138 (g_Mod_expandRow hl G h m_rels m_openRels m_closeRels m_openRel m_closeRel m_comment m_ends m_order m_tape m_count m_nameSize m_names m_size m_data m_looked m_file m_directory m_out m_row m_made m_length m_pressed m_mark m_idSize m_ids m_goalSize m_goals m_value m_faults m_reached v_thrown v_taped ix16 v_fileSize v_directorySize v_outSize v_rowSize v_bitAt v_bitEnd v_why v_madeSize v_firstCount v_secondCount v_heldBits v_heldCount v_pressedSize v_at v_bad v_markSize v_relationCount v_valueSize v_faultCount a_row a_length a_order a_made ix49 ix113 A (by first | (with_reducible assumption) | omega (splitDisjunctions := false) | assumption | omega | decide) (by first | (with_reducible assumption) | omega (splitDisjunctions := false) | assumption | omega | decide) (by first | (with_reducible assumption) | omega (splitDisjunctions := false) | assumption | omega | decide) (by first | assumption | decide | omega) (by first | assumption | decide | omega) (by first | assumption | decide | omega) (fun j h0 h1 => hA j h0 (by omega)) F_a_row F_a_order F_a_made) rfl rfl [9, 10, 2, 3, 4] [0, 1, 5, 6, 7, 8] (by decide) rfl rfl rfl (by decide) (by decide) k_1422 rfl k_128 k_1419 k_1421 k_68 ⟨rfl, hy_Mod_expandRow⟩ (by decide) rfl rfl (Nat.le_of_ble_eq_true rfl) (by decide) (fun v9 ux115 ch114 => ?_)
          obtain ⟨r_116, ba_117, be_118, w_119, fc_120, sc_121, ms_122, L_123, g_124⟩ := ux115
          obtain ⟨ech114, ch114⟩ := ch114
          have ech114 : v9 = some (.int r_116) := ech114
          subst ech114
          obtain ⟨fh125, fh126, fh127, fh128, fh129, fh130, fh131⟩ : (r_116.toInt = w_119.toInt) ∧ (0 ≤ w_119.toInt) ∧ (le_I L_123) ∧ (0 ≤ ms_122.toInt) ∧ (ms_122.toInt ≤ 4000) ∧ (ex_f A od_ ix49.toInt (ix113.toInt - ix49.toInt) = oz_ w_119.toInt ba_117.toInt ms_122.toInt (sq g_124 0 ms_122.toInt)) ∧ (sb_Fit g_124) := ch114
          have xzF := fh130
          rw [show ix49.toInt = aw A (e.toInt + 42) 4 + 30 + aw A (e.toInt + 28) 2 by (first | exact omg_8f1e4e2792 u28 tix16 u42 tix47 tix48 tix49 | omega), show ix113.toInt - (aw A (e.toInt + 42) 4 + 30 + aw A (e.toInt + 28) 2) = aw A (e.toInt + 20) 4 by (first | exact omg_54fabfa9c1 u28 tix16 u42 tix47 tix48 tix49 u20 tix57 tix113 | omega)] at xzF
          obtain ⟨sX, esX⟩ : ∃ z : Int, z = ms_122.toInt := ⟨_, rfl⟩
          obtain ⟨fX, efX⟩ : ∃ z : Int, z = w_119.toInt := ⟨_, rfl⟩
          obtain ⟨dX, edX⟩ : ∃ z : Int → Int32, z = sq g_124 0 ms_122.toInt := ⟨_, rfl⟩
          rw [← edX, ← esX, ← efX] at xzF
          have bsP : hid_ (fX = 0 → bs_ A e.toInt sX dX) := hid_i (fun q9 => Or.inl ⟨by (first | exact omg_bef98206d1 u10 lc4 | omega), _, by rw [q9] at xzF; exact xzF⟩)
          have bsN : hid_ (¬ fX = 0 → ∀ (s9 : Int) (d9 : Int → Int32), ¬ ok_ A e.toInt s9 d9) := hid_i (fun q9 => ok_nz (by omega) xzF q9)
          have dxE : ∀ k : Int, 0 ≤ k → k < sX → ∀ Y9 : Int, Y9 = 0 → gr g_124 (Y9 + k) = dX k := fun k h0 h1 Y9 hY => by rw [edX]; exact sq_at0 hY h0 (by omega)
          refine pb_eq (pc' := 141) (lo' := [(8, .int ix72), (6, .long r_61), (5, .int ix57), (4, .int ix49), (3, .int ix16), (0, .ref h), (1, .int e), (2, .int bg)]) (rest' := [.int r_116]) (ws' := [(m_size, .inl (G.2.2.1, 34, .inl a_size)), (m_data, .inl (G.2.1, 136000, .inl a_data)), (m_count, .inl (G.2.2.1, 2, .inl a_count)), (m_nameSize, .inl (G.2.2.1, 34, .inl a_nameSize)), (m_names, .inl (G.2.1, 816, .inl a_names)), (m_looked, .inl (G.2.1, 40, .inl g_29)), (h, .inr (10, [.ref m_rels, .ref m_openRels, .ref m_closeRels, .ref m_openRel, .ref m_closeRel, .ref m_comment, .ref m_ends, .ref m_order, .int v_thrown, .int v_taped, .ref m_tape, .ref m_count, .ref m_nameSize, .ref m_names, .ref m_size, .ref m_data, .int ix16, .ref m_looked, .int v_fileSize, .ref m_file, .int v_directorySize, .ref m_directory, .int v_outSize, .ref m_out, .int v_rowSize, .ref m_row, .int ba_117, .int be_118, .int w_119, .int ms_122, .ref m_made, .ref m_length, .int fc_120, .int sc_121, .int v_heldBits, .int v_heldCount, .int v_pressedSize, .ref m_pressed, .int v_at, .int v_bad, .int v_markSize, .ref m_mark, .int v_relationCount, .ref m_idSize, .ref m_ids, .ref m_goalSize, .ref m_goals, .int v_valueSize, .ref m_value, .int v_faultCount, .ref m_faults, .ref m_reached])), (m_row, .inl (G.2.1, 20000, .inl a_row)), (m_length, .inl (G.2.2.1, 420, .inl L_123)), (m_order, .inl (G.2.1, 19, .inl a_order)), (m_made, .inl (G.2.1, 4000, .inl g_124))]) ?_
          refine pb_if_gt (pc := 141) (tgt := 172) d_Mod_entryFault_141 (by decide) (fun wx132 => ?_) (fun wx132 => ?_)
          · have twx132 : 0 < r_116.toInt := (ti_lt (by decide) rfl).mp wx132
            refine pb_iconst (pc := 172) (v := 5) d_Mod_entryFault_172 (by decide) ?_
            exact pb_iret (pc := 173) hQ d_Mod_entryFault_173 rfl rfl (5, ix16, ba_117, be_118, w_119, fc_120, sc_121, ms_122, a_count, a_nameSize, a_names, g_29, a_size, a_data, L_123, g_124) ⟨rfl, (show ms_I 17 (gx a_count 1) a_nameSize a_size a_names from (by first | exact I | exact P0)), (show gx a_count 0 = gx a_count 0 from (by first | rfl | exact P1)), (show ot_Z a_nameSize a_nameSize 17 from (by first | exact fun _ _ _ => rfl | exact P2)), (show ot_Z a_size a_size 17 from (by first | exact fun _ _ _ => rfl | exact P3)), (show ot_N a_names a_names 17 from (by first | exact fun _ _ _ => rfl | exact P4)), (show le_I L_123 from (by first | exact LI | assumption)), (by (try dsimp only); first | done | (with_reducible assumption) | (first | exact omg_a009f5a072 iNm | omega (splitDisjunctions := false)) | assumption | omega | decide), (by (try dsimp only); first | done | (with_reducible assumption) | (first | exact omg_a15b2cc0d6 iNm | omega (splitDisjunctions := false)) | assumption | omega | decide), (by (try dsimp only); first | done | (with_reducible assumption) | omega (splitDisjunctions := false) | assumption | omega | decide), (by (try dsimp only); first | done | (with_reducible assumption) | omega (splitDisjunctions := false) | assumption | omega | decide), (show 0 ≤ (5 : Int32).toInt from (by first | decide | omega)), (show ot_D a_data a_data 17 from (by first | exact fun _ _ _ => rfl | exact P5)), (show hid_ (∃ W : VW_, en_R A bg.toInt e.toInt V (5 : Int32).toInt W ∧ ((5 : Int32).toInt = 0 → rM_ 17 (gx a_count 1) a_nameSize a_names a_size a_data W)) from (hid_i ⟨V, en_5 (by first | decide | omega) rrF nkF (by first | exact ok_x bsQ smF sdF cE (by omega) (by omega) | exact (if z9 : fX = 0 then ok_no (hid_o bsP z9) (fun q9 => absurd q9.1 (by (first | exact omg_25cdedd03f fh125 efX twx132 z9 | omega))) else hid_o bsN z9)), fun q9 => absurd q9 (by first | decide | omega)⟩)), F_a_names, fh31, F_a_data, fh131⟩ [6, 7, 2, 3, 4, 5, 0, 1, 8, 9, 10] (by decide) rfl rfl (by decide) (by decide)
          · have twx132 : ¬ 0 < r_116.toInt := fun z9 => wx132 ((ti_lt (by decide) rfl).mpr z9)
            refine pb_aload_n (pc := 144) d_Mod_entryFault_144 5 rfl rfl ?_
            refine pb_get (pc := 145) d_Mod_entryFault_145 6 29 rfl rfl (by decide) in_Mod k_1175 rfl ?_
            refine pb_i2l (pc := 148) d_Mod_entryFault_148 rfl ?_
            refine pb_topl (fun jx133 ejx133 => ?_)
            have tjx133 : jx133.toInt = ms_122.toInt := tl_i2l ejx133 rfl
            refine pb_lload (pc := 149) d_Mod_entryFault_149 1 rfl ?_
            refine pb_lcmp (pc := 151) d_Mod_entryFault_151 ?_
            refine pb_topi (fun ix134 eix134 => ?_)
            have tix134 : (ix134.toInt < 0 ↔ jx133.toInt < r_61.toInt) ∧ (ix134.toInt = 0 ↔ jx133.toInt = r_61.toInt) ∧ (0 < ix134.toInt ↔ r_61.toInt < jx133.toInt) := tl_cmp eix134 rfl rfl
            obtain ⟨lc1, lc2, lc3⟩ := tix134
            refine pb_if_ne (pc := 152) (tgt := 172) d_Mod_entryFault_152 (by decide) (fun wx135 => ?_) (fun wx135 => ?_)
            · have twx135 : ¬ ix134.toInt = 0 := fun z9 => wx135 ((ti_eq rfl (by decide)).mpr z9)
              refine pb_iconst (pc := 172) (v := 5) d_Mod_entryFault_172 (by decide) ?_
              exact pb_iret (pc := 173) hQ d_Mod_entryFault_173 rfl rfl (5, ix16, ba_117, be_118, w_119, fc_120, sc_121, ms_122, a_count, a_nameSize, a_names, g_29, a_size, a_data, L_123, g_124) ⟨rfl, (show ms_I 17 (gx a_count 1) a_nameSize a_size a_names from (by first | exact I | exact P0)), (show gx a_count 0 = gx a_count 0 from (by first | rfl | exact P1)), (show ot_Z a_nameSize a_nameSize 17 from (by first | exact fun _ _ _ => rfl | exact P2)), (show ot_Z a_size a_size 17 from (by first | exact fun _ _ _ => rfl | exact P3)), (show ot_N a_names a_names 17 from (by first | exact fun _ _ _ => rfl | exact P4)), (show le_I L_123 from (by first | exact LI | assumption)), (by (try dsimp only); first | done | (with_reducible assumption) | (first | exact omg_a009f5a072 iNm | omega (splitDisjunctions := false)) | assumption | omega | decide), (by (try dsimp only); first | done | (with_reducible assumption) | (first | exact omg_a15b2cc0d6 iNm | omega (splitDisjunctions := false)) | assumption | omega | decide), (by (try dsimp only); first | done | (with_reducible assumption) | omega (splitDisjunctions := false) | assumption | omega | decide), (by (try dsimp only); first | done | (with_reducible assumption) | omega (splitDisjunctions := false) | assumption | omega | decide), (show 0 ≤ (5 : Int32).toInt from (by first | decide | omega)), (show ot_D a_data a_data 17 from (by first | exact fun _ _ _ => rfl | exact P5)), (show hid_ (∃ W : VW_, en_R A bg.toInt e.toInt V (5 : Int32).toInt W ∧ ((5 : Int32).toInt = 0 → rM_ 17 (gx a_count 1) a_nameSize a_names a_size a_data W)) from (hid_i ⟨V, en_5 (by first | decide | omega) rrF nkF (by first | exact ok_x bsQ smF sdF cE (by omega) (by omega) | exact (if z9 : fX = 0 then ok_no (hid_o bsP z9) (fun q9 => absurd q9.1 (by (first | exact omg_3ebf985e65 u24 esX tjx133 lc2 twx135 | omega))) else hid_o bsN z9)), fun q9 => absurd q9 (by first | decide | omega)⟩)), F_a_names, fh31, F_a_data, fh131⟩ [6, 7, 2, 3, 4, 5, 0, 1, 8, 9, 10] (by decide) rfl rfl (by decide) (by decide)
            · have twx135 : ix134.toInt = 0 := (ti_eq rfl (by decide)).mp wx135
              have lc5 := lc2.mp (by assumption)
              clear lc1 lc2 lc3
              have fX0 : fX = 0 := by omega
              have bsQ := hid_o bsP fX0
              refine pb_aload_n (pc := 155) d_Mod_entryFault_155 5 rfl rfl ?_
              refine pb_get (pc := 156) d_Mod_entryFault_156 6 30 rfl rfl (by decide) in_Mod k_1176 rfl ?_
              refine pb_iconst (pc := 159) (v := 0) d_Mod_entryFault_159 (by decide) ?_
              refine pb_aload_n (pc := 160) d_Mod_entryFault_160 5 rfl rfl ?_
              refine pb_get (pc := 161) d_Mod_entryFault_161 6 29 rfl rfl (by decide) in_Mod k_1175 rfl ?_
              refine pb_callS (pc := 164) (I := i_Mod_entryFault) (nA := 3) (rest := []) (wr := [(m_size, .inl (G.2.2.1, 34, .inl a_size)), (m_data, .inl (G.2.1, 136000, .inl a_data)), (m_count, .inl (G.2.2.1, 2, .inl a_count)), (m_nameSize, .inl (G.2.2.1, 34, .inl a_nameSize)), (m_names, .inl (G.2.1, 816, .inl a_names)), (m_looked, .inl (G.2.1, 40, .inl g_29)), (h, .inr (10, [.ref m_rels, .ref m_openRels, .ref m_closeRels, .ref m_openRel, .ref m_closeRel, .ref m_comment, .ref m_ends, .ref m_order, .int v_thrown, .int v_taped, .ref m_tape, .ref m_count, .ref m_nameSize, .ref m_names, .ref m_size, .ref m_data, .int ix16, .ref m_looked, .int v_fileSize, .ref m_file, .int v_directorySize, .ref m_directory, .int v_outSize, .ref m_out, .int v_rowSize, .ref m_row, .int ba_117, .int be_118, .int w_119, .int ms_122, .ref m_made, .ref m_length, .int fc_120, .int sc_121, .int v_heldBits, .int v_heldCount, .int v_pressedSize, .ref m_pressed, .int v_at, .int v_bad, .int v_markSize, .ref m_mark, .int v_relationCount, .ref m_idSize, .ref m_ids, .ref m_goalSize, .ref m_goals, .int v_valueSize, .ref m_value, .int v_faultCount, .ref m_faults, .ref m_reached])), (m_row, .inl (G.2.1, 20000, .inl a_row)), (m_length, .inl (G.2.2.1, 420, .inl L_123)), (m_order, .inl (G.2.1, 19, .inl a_order))]) d_Mod_entryFault_164 (g_Mod_sumOf hl G m_made 4000 g_124 0 ms_122 (by first | (with_reducible assumption) | omega (splitDisjunctions := false) | assumption | omega | decide) (by first | (with_reducible assumption) | omega (splitDisjunctions := false) | assumption | omega | decide) (by first | (with_reducible assumption) | omega (splitDisjunctions := false) | assumption | omega | decide) (by first | (with_reducible assumption) | omega (splitDisjunctions := false) | assumption | omega | decide) fh131) [10] [0, 1, 2, 3, 4, 5, 6, 7, 8, 9] (by decide) rfl rfl rfl (by decide) (by decide) k_1368 rfl k_128 k_1366 k_1367 hy_Mod_sumOf (by decide) rfl rfl (Nat.le_of_ble_eq_true rfl) (by decide) (fun v9 ux137 ch136 => ?_)
              obtain ⟨r_138, rfl⟩ : ∃ z9, z9 = ux137 := ⟨_, rfl⟩
              obtain ⟨ech136, ch136⟩ := ch136
              have ech136 : v9 = some (.int r_138) := ech136
              subst ech136
              have fh139 : r_138 = cr_n g_124 (0 : Int32).toInt ms_122.toInt.toNat ^^^ (-1) := ch136
              have smF := fh139
              rw [show ms_122.toInt = sX by (first | exact omg_47b9bda020 esX | omega)] at smF
              have sdF := fun (k : Int) (h0 : 0 ≤ k) (h1 : k < sX) => dxE k h0 h1 (0 : Int32).toInt (by omega)
              refine pb_eq (pc' := 167) (lo' := [(8, .int ix72), (6, .long r_61), (5, .int ix57), (4, .int ix49), (3, .int ix16), (0, .ref h), (1, .int e), (2, .int bg)]) (rest' := [.int r_138]) (ws' := [(m_size, .inl (G.2.2.1, 34, .inl a_size)), (m_data, .inl (G.2.1, 136000, .inl a_data)), (m_count, .inl (G.2.2.1, 2, .inl a_count)), (m_nameSize, .inl (G.2.2.1, 34, .inl a_nameSize)), (m_names, .inl (G.2.1, 816, .inl a_names)), (m_looked, .inl (G.2.1, 40, .inl g_29)), (h, .inr (10, [.ref m_rels, .ref m_openRels, .ref m_closeRels, .ref m_openRel, .ref m_closeRel, .ref m_comment, .ref m_ends, .ref m_order, .int v_thrown, .int v_taped, .ref m_tape, .ref m_count, .ref m_nameSize, .ref m_names, .ref m_size, .ref m_data, .int ix16, .ref m_looked, .int v_fileSize, .ref m_file, .int v_directorySize, .ref m_directory, .int v_outSize, .ref m_out, .int v_rowSize, .ref m_row, .int ba_117, .int be_118, .int w_119, .int ms_122, .ref m_made, .ref m_length, .int fc_120, .int sc_121, .int v_heldBits, .int v_heldCount, .int v_pressedSize, .ref m_pressed, .int v_at, .int v_bad, .int v_markSize, .ref m_mark, .int v_relationCount, .ref m_idSize, .ref m_ids, .ref m_goalSize, .ref m_goals, .int v_valueSize, .ref m_value, .int v_faultCount, .ref m_faults, .ref m_reached])), (m_row, .inl (G.2.1, 20000, .inl a_row)), (m_length, .inl (G.2.2.1, 420, .inl L_123)), (m_order, .inl (G.2.1, 19, .inl a_order)), (m_made, .inl (G.2.1, 4000, .inl g_124))]) ?_
              refine pb_iload (pc := 167) d_Mod_entryFault_167 0 rfl ?_
              refine pb_icmp_eq (pc := 169) (tgt := 174) d_Mod_entryFault_169 (by decide) (fun wx140 => ?_) (fun wx140 => ?_)
              · have twx140 : r_138.toInt = ix72.toInt := (ti_eq rfl rfl).mp wx140
                have okF := ok_y bsQ (by (first | exact omg_ca4a591670 u24 esX tjx133 lc5 | omega)) smF sdF cE (by omega) (by (first | exact omg_9421ffe5b8 fh128 esX | omega))
                clear bsP bsN
                refine pb_aload_n (pc := 174) d_Mod_entryFault_174 5 rfl rfl ?_
                refine pb_iconst (pc := 175) (v := 1) d_Mod_entryFault_175 (by decide) ?_
                refine pb_aload_n (pc := 176) d_Mod_entryFault_176 5 rfl rfl ?_
                refine pb_get (pc := 177) d_Mod_entryFault_177 6 29 rfl rfl (by decide) in_Mod k_1175 rfl ?_
                refine pb_callV (pc := 180) (I := i_Mod_entryFault) (qb := 6) (ci := 10) (nA := 2) (rest := []) (wr := [(m_data, .inl (G.2.1, 136000, .inl a_data)), (m_row, .inl (G.2.1, 20000, .inl a_row)), (m_length, .inl (G.2.2.1, 420, .inl L_123)), (m_order, .inl (G.2.1, 19, .inl a_order)), (m_made, .inl (G.2.1, 4000, .inl g_124))]) d_Mod_entryFault_180 (g_Mod_isRoom hl G h m_rels m_openRels m_closeRels m_openRel m_closeRel m_comment m_ends m_order m_tape m_count m_nameSize m_names m_size m_data m_looked m_file m_directory m_out m_row m_made m_length m_pressed m_mark m_idSize m_ids m_goalSize m_goals m_value m_faults m_reached v_thrown v_taped ix16 v_fileSize v_directorySize v_outSize v_rowSize ba_117 be_118 w_119 ms_122 fc_120 sc_121 v_heldBits v_heldCount v_pressedSize v_at v_bad v_markSize v_relationCount v_valueSize v_faultCount a_count a_nameSize a_names g_29 a_size 1 ms_122 (by first | (with_reducible assumption) | omega (splitDisjunctions := false) | assumption | omega | decide) (by first | (with_reducible assumption) | omega (splitDisjunctions := false) | assumption | omega | decide) (by simpa only [zl1, Int.mul_one] using I) (by first | (with_reducible assumption) | omega (splitDisjunctions := false) | assumption | omega | decide) (by first | (with_reducible assumption) | omega (splitDisjunctions := false) | assumption | omega | decide) (by first | (with_reducible assumption) | omega (splitDisjunctions := false) | assumption | omega | decide) (by first | (with_reducible assumption) | omega (splitDisjunctions := false) | assumption | omega | decide) F_a_names fh31) rfl rfl [6, 2, 3, 4, 5, 0] [1, 7, 8, 9, 10] (by decide) rfl rfl rfl (by decide) (by decide) k_1329 rfl k_128 k_1326 k_1328 k_54 ⟨rfl, hy_Mod_isRoom⟩ (by decide) rfl rfl (Nat.le_of_ble_eq_true rfl) (by decide) (fun v9 ux142 ch141 => ?_)
                obtain ⟨r_143, rfl⟩ : ∃ z9, z9 = ux142 := ⟨_, rfl⟩
                obtain ⟨ech141, ch141⟩ := ch141
                have ech141 : v9 = some (.int r_143) := ech141
                subst ech141
                obtain ⟨fh144, fh145, fh146⟩ : (r_143.toInt = 0 ∨ r_143.toInt = 1) ∧ (r_143.toInt = 1 → ms_122.toInt ≤ 4000 ∧ (∀ i : Int, 0 ≤ i → i < gx a_count (1 : Int32).toInt → nl_eq a_nameSize a_names (17 * (1 : Int32).toInt + i) ix16.toInt g_29 → sm a_size (17 * (1 : Int32).toInt) (gx a_count (1 : Int32).toInt).toNat - gx a_size (17 * (1 : Int32).toInt + i) + ms_122.toInt ≤ 12000) ∧ ((∀ i : Int, 0 ≤ i → i < gx a_count (1 : Int32).toInt → ¬ nl_eq a_nameSize a_names (17 * (1 : Int32).toInt + i) ix16.toInt g_29) → sm a_size (17 * (1 : Int32).toInt) (gx a_count (1 : Int32).toInt).toNat + ms_122.toInt ≤ 12000 ∧ gx a_count (1 : Int32).toInt < 16)) ∧ (r_143.toInt = 0 → ¬ (ms_122.toInt ≤ 4000 ∧ (∀ i : Int, 0 ≤ i → i < gx a_count (1 : Int32).toInt → nl_eq a_nameSize a_names (17 * (1 : Int32).toInt + i) ix16.toInt g_29 → sm a_size (17 * (1 : Int32).toInt) (gx a_count (1 : Int32).toInt).toNat - gx a_size (17 * (1 : Int32).toInt + i) + ms_122.toInt ≤ 12000) ∧ ((∀ i : Int, 0 ≤ i → i < gx a_count (1 : Int32).toInt → ¬ nl_eq a_nameSize a_names (17 * (1 : Int32).toInt + i) ix16.toInt g_29) → sm a_size (17 * (1 : Int32).toInt) (gx a_count (1 : Int32).toInt).toNat + ms_122.toInt ≤ 12000 ∧ gx a_count (1 : Int32).toInt < 16))) := ch141
                have rmF := hid_i fh145
                have rmV := hid_i fh145
                have rnV := hid_i fh146
                have rmb := fh144
                clear fh144 fh145 fh146
                rw [nE5, show ms_122.toInt = sX by (first | exact omg_47b9bda020 esX | omega)] at rmV rnV
                refine pb_eq (pc' := 183) (lo' := [(8, .int ix72), (6, .long r_61), (5, .int ix57), (4, .int ix49), (3, .int ix16), (0, .ref h), (1, .int e), (2, .int bg)]) (rest' := [.int r_143]) (ws' := [(m_data, .inl (G.2.1, 136000, .inl a_data)), (m_row, .inl (G.2.1, 20000, .inl a_row)), (m_length, .inl (G.2.2.1, 420, .inl L_123)), (m_order, .inl (G.2.1, 19, .inl a_order)), (m_made, .inl (G.2.1, 4000, .inl g_124)), (h, .inr (10, [.ref m_rels, .ref m_openRels, .ref m_closeRels, .ref m_openRel, .ref m_closeRel, .ref m_comment, .ref m_ends, .ref m_order, .int v_thrown, .int v_taped, .ref m_tape, .ref m_count, .ref m_nameSize, .ref m_names, .ref m_size, .ref m_data, .int ix16, .ref m_looked, .int v_fileSize, .ref m_file, .int v_directorySize, .ref m_directory, .int v_outSize, .ref m_out, .int v_rowSize, .ref m_row, .int ba_117, .int be_118, .int w_119, .int ms_122, .ref m_made, .ref m_length, .int fc_120, .int sc_121, .int v_heldBits, .int v_heldCount, .int v_pressedSize, .ref m_pressed, .int v_at, .int v_bad, .int v_markSize, .ref m_mark, .int v_relationCount, .ref m_idSize, .ref m_ids, .ref m_goalSize, .ref m_goals, .int v_valueSize, .ref m_value, .int v_faultCount, .ref m_faults, .ref m_reached])), (m_count, .inl (G.2.2.1, 2, .inl a_count)), (m_nameSize, .inl (G.2.2.1, 34, .inl a_nameSize)), (m_names, .inl (G.2.1, 816, .inl a_names)), (m_looked, .inl (G.2.1, 40, .inl g_29)), (m_size, .inl (G.2.2.1, 34, .inl a_size))]) ?_
                refine pb_if_ne (pc := 183) (tgt := 189) d_Mod_entryFault_183 (by decide) (fun wx147 => ?_) (fun wx147 => ?_)
                · have twx147 : ¬ r_143.toInt = 0 := fun z9 => wx147 ((ti_eq rfl (by decide)).mpr z9)
                  rename ¬ (_ : Int) = 0 => zq
                  have rmG := hid_o rmF (by (first | exact omg_d9c3f42b32 rmb zq | omega))
                  have rmW := hid_o rmV (by omega)
                  clear zq rmb rmF rmV rnV
                  refine pb_aload_n (pc := 189) d_Mod_entryFault_189 5 rfl rfl ?_
                  refine pb_iconst (pc := 190) (v := 1) d_Mod_entryFault_190 (by decide) ?_
                  refine pb_aload_n (pc := 191) d_Mod_entryFault_191 5 rfl rfl ?_
                  refine pb_get (pc := 192) d_Mod_entryFault_192 5 30 rfl rfl (by decide) in_Mod k_1176 rfl ?_
                  refine pb_iconst (pc := 195) (v := 0) d_Mod_entryFault_195 (by decide) ?_
                  refine pb_aload_n (pc := 196) d_Mod_entryFault_196 5 rfl rfl ?_
                  refine pb_get (pc := 197) d_Mod_entryFault_197 5 29 rfl rfl (by decide) in_Mod k_1175 rfl ?_
                  refine pb_callV (pc := 200) (I := i_Mod_entryFault) (qb := 5) (ci := 10) (nA := 4) (rest := []) (wr := [(m_row, .inl (G.2.1, 20000, .inl a_row)), (m_length, .inl (G.2.2.1, 420, .inl L_123)), (m_order, .inl (G.2.1, 19, .inl a_order))]) d_Mod_entryFault_200 (g_Mod_put hl G h m_rels m_openRels m_closeRels m_openRel m_closeRel m_comment m_ends m_order m_tape m_count m_nameSize m_names m_size m_data m_looked m_file m_directory m_out m_row m_made m_length m_pressed m_mark m_idSize m_ids m_goalSize m_goals m_value m_faults m_reached v_thrown v_taped ix16 v_fileSize v_directorySize v_outSize v_rowSize ba_117 be_118 w_119 ms_122 fc_120 sc_121 v_heldBits v_heldCount v_pressedSize v_at v_bad v_markSize v_relationCount v_valueSize v_faultCount a_count a_nameSize a_names g_29 a_size a_data m_made 4000 g_124 1 0 ms_122 V (by first | (with_reducible assumption) | omega (splitDisjunctions := false) | assumption | omega | decide) (by first | (with_reducible assumption) | omega (splitDisjunctions := false) | assumption | omega | decide) I1_ R1 (by first | (with_reducible assumption) | omega (splitDisjunctions := false) | assumption | omega | decide) (by first | (with_reducible assumption) | omega (splitDisjunctions := false) | assumption | omega | decide) rmG.1 rmG.2.1 rmG.2.2 (by first | (with_reducible assumption) | omega (splitDisjunctions := false) | assumption | omega | decide) (by first | (with_reducible assumption) | omega (splitDisjunctions := false) | assumption | omega | decide) (by first | (with_reducible assumption) | omega (splitDisjunctions := false) | assumption | omega | decide) (by first | (with_reducible assumption) | omega (splitDisjunctions := false) | assumption | omega | decide) F_a_names fh31 F_a_data fh131) rfl rfl [5, 6, 7, 8, 9, 10, 0, 4] [1, 2, 3] (by decide) rfl rfl rfl (by decide) (by decide) k_1345 rfl k_128 k_1342 k_1344 k_58 ⟨rfl, hy_Mod_put⟩ (by decide) rfl rfl (Nat.le_of_ble_eq_true rfl) (by decide) (fun v9 ux149 ch148 => ?_)
                  obtain ⟨c_150, z_151, n_152, s_153, d_154⟩ := ux149
                  obtain ⟨ech148, ch148⟩ := ch148
                  have ech148 : v9 = none := ech148
                  subst ech148
                  obtain ⟨fh155, fh156, fh157, fh158, fh159, fh160, fh161, fh162, fh163⟩ : (ms_I (17 * (1 : Int32).toInt) (gx c_150 (1 : Int32).toInt) z_151 s_153 n_152) ∧ (∀ o : Int, 0 ≤ o → o ≠ (1 : Int32).toInt → gx c_150 o = gx a_count o) ∧ (ot_Z a_nameSize z_151 (17 * (1 : Int32).toInt)) ∧ (ot_Z a_size s_153 (17 * (1 : Int32).toInt)) ∧ (ot_N a_names n_152 (17 * (1 : Int32).toInt)) ∧ (ot_D a_data d_154 (17 * (1 : Int32).toInt)) ∧ (hid_ ((∃ q : Int, 0 ≤ q ∧ q < gx a_count (1 : Int32).toInt ∧ nE_ V q ix16.toInt (gx g_29) ∧ rM_ (17 * (1 : Int32).toInt) (gx c_150 (1 : Int32).toInt) z_151 n_152 s_153 d_154 (vse_ V q ix16.toInt (gx g_29) ms_122.toInt (fun k => gr g_124 ((0 : Int32).toInt + k)))) ∨ ((∀ i : Int, 0 ≤ i → i < gx a_count (1 : Int32).toInt → ¬ nE_ V i ix16.toInt (gx g_29)) ∧ ∃ r : Int, 0 ≤ r ∧ r ≤ gx a_count (1 : Int32).toInt ∧ (∀ j : Int, r ≤ j → j < gx a_count (1 : Int32).toInt → lx_ (gx g_29) ix16.toInt (vN V j) (vZ V j)) ∧ (0 < r → ¬ lx_ (gx g_29) ix16.toInt (vN V (r - 1)) (vZ V (r - 1))) ∧ rM_ (17 * (1 : Int32).toInt) (gx c_150 (1 : Int32).toInt) z_151 n_152 s_153 d_154 (vin_ V r ix16.toInt (gx g_29) ms_122.toInt (fun k => gr g_124 ((0 : Int32).toInt + k)))))) ∧ (sb_Fit n_152) ∧ (sb_Fit d_154) := ch148
                  have P0 := fh155
                  have P1 := fh156 0 (by omega) (by omega)
                  have P2 := fh157
                  have P3 := fh158
                  have P4 := fh159
                  simp only [zl1, Int.mul_one] at P0 P2 P3 P4
                  have P5 := fh160
                  have pRF := fh161
                  rw [nE5, show ms_122.toInt = sX by (first | exact omg_47b9bda020 esX | omega)] at pRF
                  obtain ⟨W8, adM, rmM⟩ := AD_M R1 I1_ hsV (by (first | exact omg_090295931e v4 | omega)) lkE (hid_o pRF)
                  obtain ⟨W9, adF, veF⟩ := AD_d adM (fun k h0 h1 => dxE k h0 h1 (0 : Int32).toInt (by omega))
                  have rcF := rM_vE rmM veF
                  simp only [zl1, Int.mul_one] at rcF P5
                  refine pb_eq (pc' := 203) (lo' := [(8, .int ix72), (6, .long r_61), (5, .int ix57), (4, .int ix49), (3, .int ix16), (0, .ref h), (1, .int e), (2, .int bg)]) (rest' := []) (ws' := [(m_row, .inl (G.2.1, 20000, .inl a_row)), (m_length, .inl (G.2.2.1, 420, .inl L_123)), (m_order, .inl (G.2.1, 19, .inl a_order)), (h, .inr (10, [.ref m_rels, .ref m_openRels, .ref m_closeRels, .ref m_openRel, .ref m_closeRel, .ref m_comment, .ref m_ends, .ref m_order, .int v_thrown, .int v_taped, .ref m_tape, .ref m_count, .ref m_nameSize, .ref m_names, .ref m_size, .ref m_data, .int ix16, .ref m_looked, .int v_fileSize, .ref m_file, .int v_directorySize, .ref m_directory, .int v_outSize, .ref m_out, .int v_rowSize, .ref m_row, .int ba_117, .int be_118, .int w_119, .int ms_122, .ref m_made, .ref m_length, .int fc_120, .int sc_121, .int v_heldBits, .int v_heldCount, .int v_pressedSize, .ref m_pressed, .int v_at, .int v_bad, .int v_markSize, .ref m_mark, .int v_relationCount, .ref m_idSize, .ref m_ids, .ref m_goalSize, .ref m_goals, .int v_valueSize, .ref m_value, .int v_faultCount, .ref m_faults, .ref m_reached])), (m_count, .inl (G.2.2.1, 2, .inl c_150)), (m_nameSize, .inl (G.2.2.1, 34, .inl z_151)), (m_names, .inl (G.2.1, 816, .inl n_152)), (m_looked, .inl (G.2.1, 40, .inl g_29)), (m_size, .inl (G.2.2.1, 34, .inl s_153)), (m_data, .inl (G.2.1, 136000, .inl d_154)), (m_made, .inl (G.2.1, 4000, .inl g_124))]) ?_
                  refine pb_iconst (pc := 203) (v := 0) d_Mod_entryFault_203 (by decide) ?_
                  exact pb_iret (pc := 204) hQ d_Mod_entryFault_204 rfl rfl (0, ix16, ba_117, be_118, w_119, fc_120, sc_121, ms_122, c_150, z_151, n_152, g_29, s_153, d_154, L_123, g_124) ⟨rfl, (show ms_I 17 (gx c_150 1) z_151 s_153 n_152 from (by first | exact I | exact P0)), (show gx c_150 0 = gx a_count 0 from (by first | rfl | exact P1)), (show ot_Z a_nameSize z_151 17 from (by first | exact fun _ _ _ => rfl | exact P2)), (show ot_Z a_size s_153 17 from (by first | exact fun _ _ _ => rfl | exact P3)), (show ot_N a_names n_152 17 from (by first | exact fun _ _ _ => rfl | exact P4)), (show le_I L_123 from (by first | exact LI | assumption)), (by (try dsimp only); first | done | (with_reducible assumption) | (first | exact omg_a009f5a072 iNm | omega (splitDisjunctions := false)) | assumption | omega | decide), (by (try dsimp only); first | done | (with_reducible assumption) | (first | exact omg_a15b2cc0d6 iNm | omega (splitDisjunctions := false)) | assumption | omega | decide), (by (try dsimp only); first | done | (with_reducible assumption) | omega (splitDisjunctions := false) | assumption | omega | decide), (by (try dsimp only); first | done | (with_reducible assumption) | omega (splitDisjunctions := false) | assumption | omega | decide), (show 0 ≤ (0 : Int32).toInt from (by first | decide | omega)), (show ot_D a_data d_154 17 from (by first | exact fun _ _ _ => rfl | exact P5)), (show hid_ (∃ W : VW_, en_R A bg.toInt e.toInt V (0 : Int32).toInt W ∧ ((0 : Int32).toInt = 0 → rM_ 17 (gx c_150 1) z_151 n_152 s_153 d_154 W)) from (hid_i ⟨W9, en_0 (by first | decide | omega) rrF nkF okF (RM_of R1 (by omega) lkE rmW) adF, fun _ => rcF⟩)), fh162, fh31, fh163, fh131⟩ [3, 0, 4, 5, 6, 7, 8, 9, 1, 2, 10] (by decide) rfl rfl (by decide) (by decide)
                · have twx147 : r_143.toInt = 0 := (ti_eq rfl (by decide)).mp wx147
                  refine pb_bipush (pc := 186) (v := 6) d_Mod_entryFault_186 (by decide) ?_
                  exact pb_iret (pc := 188) hQ d_Mod_entryFault_188 rfl rfl (6, ix16, ba_117, be_118, w_119, fc_120, sc_121, ms_122, a_count, a_nameSize, a_names, g_29, a_size, a_data, L_123, g_124) ⟨rfl, (show ms_I 17 (gx a_count 1) a_nameSize a_size a_names from (by first | exact I | exact P0)), (show gx a_count 0 = gx a_count 0 from (by first | rfl | exact P1)), (show ot_Z a_nameSize a_nameSize 17 from (by first | exact fun _ _ _ => rfl | exact P2)), (show ot_Z a_size a_size 17 from (by first | exact fun _ _ _ => rfl | exact P3)), (show ot_N a_names a_names 17 from (by first | exact fun _ _ _ => rfl | exact P4)), (show le_I L_123 from (by first | exact LI | assumption)), (by (try dsimp only); first | done | (with_reducible assumption) | (first | exact omg_a009f5a072 iNm | omega (splitDisjunctions := false)) | assumption | omega | decide), (by (try dsimp only); first | done | (with_reducible assumption) | (first | exact omg_a15b2cc0d6 iNm | omega (splitDisjunctions := false)) | assumption | omega | decide), (by (try dsimp only); first | done | (with_reducible assumption) | omega (splitDisjunctions := false) | assumption | omega | decide), (by (try dsimp only); first | done | (with_reducible assumption) | omega (splitDisjunctions := false) | assumption | omega | decide), (show 0 ≤ (6 : Int32).toInt from (by first | decide | omega)), (show ot_D a_data a_data 17 from (by first | exact fun _ _ _ => rfl | exact P5)), (show hid_ (∃ W : VW_, en_R A bg.toInt e.toInt V (6 : Int32).toInt W ∧ ((6 : Int32).toInt = 0 → rM_ 17 (gx a_count 1) a_nameSize a_names a_size a_data W)) from (hid_i ⟨V, en_6 (by first | decide | omega) rrF nkF okF (RM_no R1 (by omega) lkE (hid_o rnV (by omega))), fun q9 => absurd q9 (by first | decide | omega)⟩)), F_a_names, fh31, F_a_data, fh131⟩ [5, 1, 6, 7, 8, 9, 10, 0, 2, 3, 4] (by decide) rfl rfl (by decide) (by decide)
              · have twx140 : ¬ r_138.toInt = ix72.toInt := fun z9 => wx140 ((ti_eq rfl rfl).mpr z9)
                refine pb_iconst (pc := 172) (v := 5) d_Mod_entryFault_172 (by decide) ?_
                exact pb_iret (pc := 173) hQ d_Mod_entryFault_173 rfl rfl (5, ix16, ba_117, be_118, w_119, fc_120, sc_121, ms_122, a_count, a_nameSize, a_names, g_29, a_size, a_data, L_123, g_124) ⟨rfl, (show ms_I 17 (gx a_count 1) a_nameSize a_size a_names from (by first | exact I | exact P0)), (show gx a_count 0 = gx a_count 0 from (by first | rfl | exact P1)), (show ot_Z a_nameSize a_nameSize 17 from (by first | exact fun _ _ _ => rfl | exact P2)), (show ot_Z a_size a_size 17 from (by first | exact fun _ _ _ => rfl | exact P3)), (show ot_N a_names a_names 17 from (by first | exact fun _ _ _ => rfl | exact P4)), (show le_I L_123 from (by first | exact LI | assumption)), (by (try dsimp only); first | done | (with_reducible assumption) | (first | exact omg_a009f5a072 iNm | omega (splitDisjunctions := false)) | assumption | omega | decide), (by (try dsimp only); first | done | (with_reducible assumption) | (first | exact omg_a15b2cc0d6 iNm | omega (splitDisjunctions := false)) | assumption | omega | decide), (by (try dsimp only); first | done | (with_reducible assumption) | omega (splitDisjunctions := false) | assumption | omega | decide), (by (try dsimp only); first | done | (with_reducible assumption) | omega (splitDisjunctions := false) | assumption | omega | decide), (show 0 ≤ (5 : Int32).toInt from (by first | decide | omega)), (show ot_D a_data a_data 17 from (by first | exact fun _ _ _ => rfl | exact P5)), (show hid_ (∃ W : VW_, en_R A bg.toInt e.toInt V (5 : Int32).toInt W ∧ ((5 : Int32).toInt = 0 → rM_ 17 (gx a_count 1) a_nameSize a_names a_size a_data W)) from (hid_i ⟨V, en_5 (by first | decide | omega) rrF nkF (by first | exact ok_x bsQ smF sdF cE (by omega) (by (first | exact omg_9421ffe5b8 fh128 esX | omega)) | exact (if z9 : fX = 0 then ok_no (hid_o bsP z9) (fun q9 => absurd q9.1 (by omega)) else hid_o bsN z9)), fun q9 => absurd q9 (by first | decide | omega)⟩)), F_a_names, fh31, F_a_data, fh131⟩ [6, 7, 2, 3, 4, 5, 0, 1, 8, 9, 10] (by decide) rfl rfl (by decide) (by decide)
      · have twx39 : ¬ r_34.toInt < 0 := fun z9 => wx39 ((ti_lt rfl (by decide)).mpr z9)
        refine pb_iconst (pc := 60) (v := 4) d_Mod_entryFault_60 (by decide) ?_
        exact pb_iret (pc := 61) hQ d_Mod_entryFault_61 rfl rfl (4, ix16, v_bitAt, v_bitEnd, v_why, v_firstCount, v_secondCount, v_madeSize, a_count, a_nameSize, a_names, g_29, a_size, a_data, a_length, a_made) ⟨rfl, (show ms_I 17 (gx a_count 1) a_nameSize a_size a_names from (by first | exact I | exact P0)), (show gx a_count 0 = gx a_count 0 from (by first | rfl | exact P1)), (show ot_Z a_nameSize a_nameSize 17 from (by first | exact fun _ _ _ => rfl | exact P2)), (show ot_Z a_size a_size 17 from (by first | exact fun _ _ _ => rfl | exact P3)), (show ot_N a_names a_names 17 from (by first | exact fun _ _ _ => rfl | exact P4)), (show le_I a_length from (by first | exact LI | assumption)), (by (try dsimp only); first | done | (with_reducible assumption) | (first | exact omg_a009f5a072 iNm | omega (splitDisjunctions := false)) | assumption | omega | decide), (by (try dsimp only); first | done | (with_reducible assumption) | (first | exact omg_a15b2cc0d6 iNm | omega (splitDisjunctions := false)) | assumption | omega | decide), (by (try dsimp only); first | done | (with_reducible assumption) | omega (splitDisjunctions := false) | assumption | omega | decide), (by (try dsimp only); first | done | (with_reducible assumption) | omega (splitDisjunctions := false) | assumption | omega | decide), (show 0 ≤ (4 : Int32).toInt from (by first | decide | omega)), (show ot_D a_data a_data 17 from (by first | exact fun _ _ _ => rfl | exact P5)), (show hid_ (∃ W : VW_, en_R A bg.toInt e.toInt V (4 : Int32).toInt W ∧ ((4 : Int32).toInt = 0 → rM_ 17 (gx a_count 1) a_nameSize a_names a_size a_data W)) from (hid_i ⟨V, en_4 (by first | decide | omega) rrF (nq_f rfl fF (by (first | exact omg_db7907a2b4 twx39 | omega))), fun q9 => absurd q9 (by first | decide | omega)⟩)), F_a_names, fh31, F_a_data, F_a_made⟩ [6, 5, 7, 8, 9, 10, 0, 1, 2, 3, 4] (by decide) rfl rfl (by decide) (by decide)
    · have twx25 : r_20.toInt = 0 := (ti_eq rfl (by decide)).mp wx25
      refine pb_iconst (pc := 37) (v := 4) d_Mod_entryFault_37 (by decide) ?_
      exact pb_iret (pc := 38) hQ d_Mod_entryFault_38 rfl rfl (4, v_lookedSize, v_bitAt, v_bitEnd, v_why, v_firstCount, v_secondCount, v_madeSize, a_count, a_nameSize, a_names, a_looked, a_size, a_data, a_length, a_made) ⟨rfl, (show ms_I 17 (gx a_count 1) a_nameSize a_size a_names from (by first | exact I | exact P0)), (show gx a_count 0 = gx a_count 0 from (by first | rfl | exact P1)), (show ot_Z a_nameSize a_nameSize 17 from (by first | exact fun _ _ _ => rfl | exact P2)), (show ot_Z a_size a_size 17 from (by first | exact fun _ _ _ => rfl | exact P3)), (show ot_N a_names a_names 17 from (by first | exact fun _ _ _ => rfl | exact P4)), (show le_I a_length from (by first | exact LI | assumption)), (by (try dsimp only); first | done | (with_reducible assumption) | omega (splitDisjunctions := false) | assumption | omega | decide), (by (try dsimp only); first | done | (with_reducible assumption) | omega (splitDisjunctions := false) | assumption | omega | decide), (by (try dsimp only); first | done | (with_reducible assumption) | omega (splitDisjunctions := false) | assumption | omega | decide), (by (try dsimp only); first | done | (with_reducible assumption) | omega (splitDisjunctions := false) | assumption | omega | decide), (show 0 ≤ (4 : Int32).toInt from (by first | decide | omega)), (show ot_D a_data a_data 17 from (by first | exact fun _ _ _ => rfl | exact P5)), (show hid_ (∃ W : VW_, en_R A bg.toInt e.toInt V (4 : Int32).toInt W ∧ ((4 : Int32).toInt = 0 → rM_ 17 (gx a_count 1) a_nameSize a_names a_size a_data W)) from (hid_i ⟨V, en_4 (by first | decide | omega) rrF (nq_i (by omega) (fun q9 => hid_o iN0 (by omega) ((iA_A hA (by omega) (by omega) (by (first | exact omg_16dd41dfda hZ u28 tix16 | omega))).mpr q9))), fun q9 => absurd q9 (by first | decide | omega)⟩)), F_a_names, F_a_looked, F_a_data, F_a_made⟩ [9, 10, 0, 1, 2, 3, 4, 5, 6, 7, 8] (by decide) rfl rfl (by decide) (by decide)
  · have twx8 : r_3.toInt = 0 := (ti_eq rfl (by decide)).mp wx8
    refine pb_iconst (pc := 9) (v := 3) d_Mod_entryFault_9 (by decide) ?_
    exact pb_iret (pc := 10) hQ d_Mod_entryFault_10 rfl rfl (3, v_lookedSize, v_bitAt, v_bitEnd, v_why, v_firstCount, v_secondCount, v_madeSize, a_count, a_nameSize, a_names, a_looked, a_size, a_data, a_length, a_made) ⟨rfl, (show ms_I 17 (gx a_count 1) a_nameSize a_size a_names from (by first | exact I | exact P0)), (show gx a_count 0 = gx a_count 0 from (by first | rfl | exact P1)), (show ot_Z a_nameSize a_nameSize 17 from (by first | exact fun _ _ _ => rfl | exact P2)), (show ot_Z a_size a_size 17 from (by first | exact fun _ _ _ => rfl | exact P3)), (show ot_N a_names a_names 17 from (by first | exact fun _ _ _ => rfl | exact P4)), (show le_I a_length from (by first | exact LI | assumption)), (by (try dsimp only); first | done | (with_reducible assumption) | omega (splitDisjunctions := false) | assumption | omega | decide), (by (try dsimp only); first | done | (with_reducible assumption) | omega (splitDisjunctions := false) | assumption | omega | decide), (by (try dsimp only); first | done | (with_reducible assumption) | omega (splitDisjunctions := false) | assumption | omega | decide), (by (try dsimp only); first | done | (with_reducible assumption) | omega (splitDisjunctions := false) | assumption | omega | decide), (show 0 ≤ (3 : Int32).toInt from (by first | decide | omega)), (show ot_D a_data a_data 17 from (by first | exact fun _ _ _ => rfl | exact P5)), (show hid_ (∃ W : VW_, en_R A bg.toInt e.toInt V (3 : Int32).toInt W ∧ ((3 : Int32).toInt = 0 → rM_ 17 (gx a_count 1) a_nameSize a_names a_size a_data W)) from (hid_i ⟨V, en_3 (by first | decide | omega) (hid_o rq0 (by omega)), fun q9 => absurd q9 (by first | decide | omega)⟩)), F_a_names, F_a_looked, F_a_data, F_a_made⟩ [9, 10, 0, 1, 2, 3, 4, 5, 6, 7, 8] (by decide) rfl rfl (by decide) (by decide)
