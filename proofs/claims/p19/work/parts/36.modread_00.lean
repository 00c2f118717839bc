/-! ROWS OF NUMBERS -/
theorem omg_7ffc45122b {x0 : Int} {x1 : Int} (a0 : (x0 ≤ (20000 : Int))) (a1 : (x1 = (x0 - (22 : Int)))) (a2 : (¬ (x1 < (0 : Int)))) : (((-(2147483648 : Int)) ≤ (x1 + (12 : Int))) ∧ ((x1 + (12 : Int)) < (2147483648 : Int))) := by omega
theorem omg_562d46fdb3 {x0 : Int} {x1 : Int} {x2 : Int} {x3 : Int} (a0 : (x0 ≤ (20000 : Int))) (a1 : (x1 = (4 : Int))) (a2 : (x2 = (x0 - (22 : Int)))) (a3 : (x3 = (x2 + (12 : Int)))) : ((x3 + x1) ≤ (20000 : Int)) := by omega
theorem omg_6d21ea5fcf {x0 : Int} {x1 : Int} (a0 : (¬ (x0 < (0 : Int)))) (a1 : (x1 = (x0 + (12 : Int)))) : ((0 : Int) ≤ x1) := by omega
theorem omg_9aadd9d296 {x0 : Int} {x1 : Int} (a0 : ((0 : Int) ≤ x0)) (a1 : (x0 ≤ (20000 : Int))) (a2 : (x1 = (x0 - (22 : Int)))) : (((-(2147483648 : Int)) ≤ (x1 + (8 : Int))) ∧ ((x1 + (8 : Int)) < (2147483648 : Int))) := by omega
theorem omg_f1e6da62b3 {x0 : Int} {x1 : Int} {x2 : Int} {x3 : Int} (a0 : (x0 ≤ (20000 : Int))) (a1 : (x1 = (2 : Int))) (a2 : (x2 = (x0 - (22 : Int)))) (a3 : (x3 = (x2 + (8 : Int)))) : ((x3 + x1) ≤ (20000 : Int)) := by omega
theorem omg_b4da50eb6e {x0 : Int} {x1 : Int} (a0 : (¬ (x0 < (0 : Int)))) (a1 : (x1 = (x0 + (8 : Int)))) : ((0 : Int) ≤ x1) := by omega
theorem omg_87d706a7a1 {x0 : Int} {x1 : Int} (a0 : (x0 = (x1 - (22 : Int)))) (a1 : (¬ (x0 < (0 : Int)))) : ((0 : Int) ≤ ((x1 - (22 : Int)) + (8 : Int))) := by omega
theorem omg_99ead58fc1 {x0 : Int} {x1 : Int} {x2 : Int} (a0 : (x0 = (x1 - (22 : Int)))) (a1 : (x2 = (x0 + (8 : Int)))) : (x2 = ((x1 - (22 : Int)) + (8 : Int))) := by omega
theorem omg_d1b8b97a7b {x0 : Int} {x1 : Int} {x2 : Int} {x3 : Int} (a0 : (x0 = (x1 - (22 : Int)))) (a1 : (x2 = x0)) (a2 : (¬ (x3 = x2))) (a3 : (x3 = (x1 - (22 : Int)))) : False := by omega
theorem omg_36beddd5d0 {x0 : Int} {x1 : Int} {x2 : Int} (a0 : (x0 ≤ x1)) (a1 : (x1 = x2)) (a2 : (x1 ≤ x0)) : ((Int.toNat x2) = (Int.toNat x0)) := by omega
theorem omg_17f4429383 {x0 : Int} {x1 : Int} {x2 : Int} {x3 : Int} (a0 : (x0 = (x1 - (22 : Int)))) (a1 : (x2 = x0)) (a2 : (x3 = x2)) : (x3 = (x1 - (22 : Int))) := by omega
theorem omg_370188a66b {x0 : Int} {x1 : Int} {x2 : Int} {x3 : Nat} (a0 : (x0 = x1)) (a1 : (x0 ≤ x2)) (a2 : (x3 < (Int.toNat x1))) : (x3 < (Int.toNat x2)) := by omega
theorem omg_960fa75daf {x0 : Int} {x1 : Int} {x2 : Int} (a0 : (x0 = (x1 - (22 : Int)))) (a1 : ((x2 + (46 : Int)) ≤ x0)) : ((x2 + (46 : Int)) ≤ (x1 - (22 : Int))) := by omega
theorem omg_b5eed79224 {x0 : Int} {x1 : Int} {x2 : Int} {x3 : Int} {x4 : Int} (a0 : (x0 = (x1 - (22 : Int)))) (a1 : (x2 = x3)) (a2 : (x4 = x0)) (a3 : (x2 = x4)) : (x3 = (x1 - (22 : Int))) := by omega
theorem omg_8aa6819ae4 {x0 : Int} {x1 : Int} {x2 : Int} {x3 : Int} {x4 : Int} {x5 : Int} {x6 : Int} (a0 : (x0 = (x1 - (22 : Int)))) (a1 : (x2 = x3)) (a2 : ((0 : Int) ≤ x4)) (a3 : (x5 = (x2 + x4))) (a4 : (x6 = x0)) (a5 : (x5 = x6)) : (x3 ≤ (x1 - (22 : Int))) := by omega
theorem omg_c10d38c07e {x0 : Int} {x1 : Int} {x2 : Int} (a0 : (x0 ≤ (20000 : Int))) (a1 : (x1 = (x0 - (22 : Int)))) (a2 : (x2 ≤ (x1 + (65600 : Int)))) : ((x2 + (46 : Int)) < (9223372036854775808 : Int)) := by omega
theorem omg_4af15ee253 {x0 : Int} {x1 : Int} {x2 : Int} (a0 : (x0 = x1)) (a1 : ((0 : Int) ≤ x0)) (a2 : (x1 ≤ x2)) : ((-(9223372036854775808 : Int)) ≤ (x2 + (46 : Int))) := by omega
theorem omg_e4476e7288 {x0 : Int} {x1 : Int} {x2 : Int} {x3 : Int} {x4 : Int} (a0 : (x0 ≤ (20000 : Int))) (a1 : (x1 = (x0 - (22 : Int)))) (a2 : (x2 = (x3 + (46 : Int)))) (a3 : (x4 = x1)) (a4 : (x2 ≤ x4)) : (x3 < (2147483648 : Int)) := by omega
theorem omg_4d89c30059 {x0 : Int} {x1 : Int} {x2 : Int} (a0 : (x0 = x1)) (a1 : ((0 : Int) ≤ x0)) (a2 : (x1 ≤ x2)) : ((-(2147483648 : Int)) ≤ x2) := by omega
theorem omg_22111b28ba {x0 : Int} {x1 : Int} {x2 : Int} (a0 : ((0 : Int) ≤ x0)) (a1 : (x1 = x2)) (a2 : (x0 < x1)) : ((Int.toNat x0) < (Int.toNat x2)) := by omega
theorem omg_39a24c78ad {x0 : Int} {x1 : Int} {x2 : Int} {x3 : Int} {x4 : Int} {x5 : Int} {x6 : Int} {x7 : Int} (a0 : (x0 ≤ (20000 : Int))) (a1 : (x1 = x2)) (a2 : ((0 : Int) ≤ x1)) (a3 : (x3 = (x0 - (22 : Int)))) (a4 : (x2 ≤ x4)) (a5 : (x5 = (x4 + (46 : Int)))) (a6 : (x6 = x3)) (a7 : (x5 ≤ x6)) (a8 : (x7 = x4)) : (((-(2147483648 : Int)) ≤ (x7 + (30 : Int))) ∧ ((x7 + (30 : Int)) < (2147483648 : Int))) := by omega
theorem omg_4250eb3d82 {x0 : Int} {x1 : Int} {x2 : Int} {x3 : Int} {x4 : Int} {x5 : Int} {x6 : Int} {x7 : Int} (a0 : (x0 ≤ (20000 : Int))) (a1 : (x1 = (4 : Int))) (a2 : (x2 = (x0 - (22 : Int)))) (a3 : (x3 = (x4 + (46 : Int)))) (a4 : (x5 = x2)) (a5 : (x3 ≤ x5)) (a6 : (x6 = x4)) (a7 : (x7 = (x6 + (30 : Int)))) : ((x7 + x1) ≤ (20000 : Int)) := by omega
theorem omg_1cd796464b {x0 : Int} {x1 : Int} {x2 : Int} {x3 : Int} {x4 : Int} (a0 : (x0 = x1)) (a1 : ((0 : Int) ≤ x0)) (a2 : (x1 ≤ x2)) (a3 : (x3 = x2)) (a4 : (x4 = (x3 + (30 : Int)))) : ((0 : Int) ≤ x4) := by omega
theorem omg_ded7adda34 {x0 : Int} {x1 : Int} {x2 : Int} {x3 : Int} {x4 : Int} (a0 : (x0 = (x1 - (22 : Int)))) (a1 : (x2 = (x3 + (46 : Int)))) (a2 : (x4 = x0)) (a3 : (x2 ≤ x4)) : (((x3 + (30 : Int)) + (((4 : Nat) : Nat) : Int)) ≤ x1) := by omega
theorem omg_5b192cb201 {x0 : Int} {x1 : Int} {x2 : Int} (a0 : (x0 = x1)) (a1 : ((0 : Int) ≤ x0)) (a2 : (x1 ≤ x2)) : ((0 : Int) ≤ (x2 + (30 : Int))) := by omega
theorem omg_d3f919890e {x0 : Int} {x1 : Int} {x2 : Int} (a0 : (x0 = x1)) (a1 : (x2 = (x0 + (30 : Int)))) : (x2 = (x1 + (30 : Int))) := by omega
theorem omg_9153a16913 {x0 : Int} {x1 : Int} {x2 : Int} {x3 : Int} {x4 : Int} {x5 : Int} {x6 : Int} {x7 : Int} (a0 : (x0 ≤ (20000 : Int))) (a1 : (x1 = x2)) (a2 : ((0 : Int) ≤ x1)) (a3 : (x3 = (x0 - (22 : Int)))) (a4 : (x2 ≤ x4)) (a5 : (x5 = (x4 + (46 : Int)))) (a6 : (x6 = x3)) (a7 : (x5 ≤ x6)) (a8 : (x7 = x4)) : (((-(2147483648 : Int)) ≤ (x7 + (34 : Int))) ∧ ((x7 + (34 : Int)) < (2147483648 : Int))) := by omega
theorem omg_53a49347f5 {x0 : Int} {x1 : Int} {x2 : Int} {x3 : Int} {x4 : Int} {x5 : Int} {x6 : Int} {x7 : Int} (a0 : (x0 ≤ (20000 : Int))) (a1 : (x1 = (4 : Int))) (a2 : (x2 = (x0 - (22 : Int)))) (a3 : (x3 = (x4 + (46 : Int)))) (a4 : (x5 = x2)) (a5 : (x3 ≤ x5)) (a6 : (x6 = x4)) (a7 : (x7 = (x6 + (34 : Int)))) : ((x7 + x1) ≤ (20000 : Int)) := by omega
theorem omg_7b04bed2be {x0 : Int} {x1 : Int} {x2 : Int} {x3 : Int} {x4 : Int} (a0 : (x0 = x1)) (a1 : ((0 : Int) ≤ x0)) (a2 : (x1 ≤ x2)) (a3 : (x3 = x2)) (a4 : (x4 = (x3 + (34 : Int)))) : ((0 : Int) ≤ x4) := by omega
theorem omg_6887474981 {x0 : Int} {x1 : Int} {x2 : Int} {x3 : Int} {x4 : Int} (a0 : (x0 = (x1 - (22 : Int)))) (a1 : (x2 = (x3 + (46 : Int)))) (a2 : (x4 = x0)) (a3 : (x2 ≤ x4)) : (((x3 + (34 : Int)) + (((4 : Nat) : Nat) : Int)) ≤ x1) := by omega
theorem omg_eec1f6c99d {x0 : Int} {x1 : Int} {x2 : Int} (a0 : (x0 = x1)) (a1 : ((0 : Int) ≤ x0)) (a2 : (x1 ≤ x2)) : ((0 : Int) ≤ (x2 + (34 : Int))) := by omega
theorem omg_4229b534a4 {x0 : Int} {x1 : Int} {x2 : Int} (a0 : (x0 = x1)) (a1 : (x2 = (x0 + (34 : Int)))) : (x2 = (x1 + (34 : Int))) := by omega
theorem omg_eb23efd836 {x0 : Int} {x1 : Int} {x2 : Int} {x3 : Int} {x4 : Int} {x5 : Int} {x6 : Int} {x7 : Int} (a0 : (x0 ≤ (20000 : Int))) (a1 : (x1 = x2)) (a2 : ((0 : Int) ≤ x1)) (a3 : (x3 = (x0 - (22 : Int)))) (a4 : (x2 ≤ x4)) (a5 : (x5 = (x4 + (46 : Int)))) (a6 : (x6 = x3)) (a7 : (x5 ≤ x6)) (a8 : (x7 = x4)) : (((-(2147483648 : Int)) ≤ (x7 + (38 : Int))) ∧ ((x7 + (38 : Int)) < (2147483648 : Int))) := by omega
theorem omg_72a20932d6 {x0 : Int} {x1 : Int} {x2 : Int} {x3 : Int} {x4 : Int} {x5 : Int} {x6 : Int} {x7 : Int} (a0 : (x0 ≤ (20000 : Int))) (a1 : (x1 = (4 : Int))) (a2 : (x2 = (x0 - (22 : Int)))) (a3 : (x3 = (x4 + (46 : Int)))) (a4 : (x5 = x2)) (a5 : (x3 ≤ x5)) (a6 : (x6 = x4)) (a7 : (x7 = (x6 + (38 : Int)))) : ((x7 + x1) ≤ (20000 : Int)) := by omega
theorem omg_2e3cff7bce {x0 : Int} {x1 : Int} {x2 : Int} {x3 : Int} {x4 : Int} (a0 : (x0 = x1)) (a1 : ((0 : Int) ≤ x0)) (a2 : (x1 ≤ x2)) (a3 : (x3 = x2)) (a4 : (x4 = (x3 + (38 : Int)))) : ((0 : Int) ≤ x4) := by omega
theorem omg_11147cd1ec {x0 : Int} {x1 : Int} {x2 : Int} {x3 : Int} {x4 : Int} (a0 : (x0 = (x1 - (22 : Int)))) (a1 : (x2 = (x3 + (46 : Int)))) (a2 : (x4 = x0)) (a3 : (x2 ≤ x4)) : (((x3 + (38 : Int)) + (((4 : Nat) : Nat) : Int)) ≤ x1) := by omega
theorem omg_5173ab9e6b {x0 : Int} {x1 : Int} {x2 : Int} (a0 : (x0 = x1)) (a1 : ((0 : Int) ≤ x0)) (a2 : (x1 ≤ x2)) : ((0 : Int) ≤ (x2 + (38 : Int))) := by omega
theorem omg_52fbd5a9e6 {x0 : Int} {x1 : Int} {x2 : Int} (a0 : (x0 = x1)) (a1 : (x2 = (x0 + (38 : Int)))) : (x2 = (x1 + (38 : Int))) := by omega
theorem omg_6277902315 {x0 : Int} (a0 : ((0 : Int) ≤ x0)) : ((Int.toNat (x0 + (1 : Int))) = ((Int.toNat x0) + (1 : Nat))) := by omega
theorem omg_883f1cc7fe {x0 : Int} {x1 : Int} {x2 : Int} {x3 : Int} {x4 : Int} (a0 : (x0 ≤ (20000 : Int))) (a1 : (x1 = (x0 - (22 : Int)))) (a2 : (x2 = (x3 + (46 : Int)))) (a3 : (x4 = x1)) (a4 : (x2 ≤ x4)) : ((x3 + (46 : Int)) < (9223372036854775808 : Int)) := by omega
theorem omg_b6937c67e3 {x0 : Int} {x1 : Int} {x2 : Int} {x3 : Int} {x4 : Int} {x5 : Int} {x6 : Int} {x7 : Int} (a0 : (x0 ≤ (20000 : Int))) (a1 : (x1 = x2)) (a2 : ((0 : Int) ≤ x1)) (a3 : (x3 = (x0 - (22 : Int)))) (a4 : (x2 ≤ x4)) (a5 : (x5 = (x4 + (46 : Int)))) (a6 : (x6 = x3)) (a7 : (x5 ≤ x6)) (a8 : (x7 = x4)) : (((-(2147483648 : Int)) ≤ (x7 + (28 : Int))) ∧ ((x7 + (28 : Int)) < (2147483648 : Int))) := by omega
theorem omg_871660239f {x0 : Int} {x1 : Int} {x2 : Int} {x3 : Int} {x4 : Int} {x5 : Int} {x6 : Int} {x7 : Int} (a0 : (x0 ≤ (20000 : Int))) (a1 : (x1 = (2 : Int))) (a2 : (x2 = (x0 - (22 : Int)))) (a3 : (x3 = (x4 + (46 : Int)))) (a4 : (x5 = x2)) (a5 : (x3 ≤ x5)) (a6 : (x6 = x4)) (a7 : (x7 = (x6 + (28 : Int)))) : ((x7 + x1) ≤ (20000 : Int)) := by omega
theorem omg_4ff73ff951 {x0 : Int} {x1 : Int} {x2 : Int} {x3 : Int} {x4 : Int} (a0 : (x0 = x1)) (a1 : ((0 : Int) ≤ x0)) (a2 : (x1 ≤ x2)) (a3 : (x3 = x2)) (a4 : (x4 = (x3 + (28 : Int)))) : ((0 : Int) ≤ x4) := by omega
theorem omg_773bcafc6f {x0 : Int} {x1 : Int} {x2 : Int} {x3 : Int} {x4 : Int} (a0 : (x0 = (x1 - (22 : Int)))) (a1 : (x2 = (x3 + (46 : Int)))) (a2 : (x4 = x0)) (a3 : (x2 ≤ x4)) : (((x3 + (28 : Int)) + (((2 : Nat) : Nat) : Int)) ≤ x1) := by omega
theorem omg_34c2695c5d {x0 : Int} {x1 : Int} {x2 : Int} (a0 : (x0 = x1)) (a1 : (x2 = (x0 + (28 : Int)))) : (x2 = (x1 + (28 : Int))) := by omega
theorem omg_6cae852cfa {x0 : Int} {x1 : Int} {x2 : Int} {x3 : Int} {x4 : Int} {x5 : Int} {x6 : Int} {x7 : Int} (a0 : (x0 ≤ (20000 : Int))) (a1 : (x1 = (x0 - (22 : Int)))) (a2 : (x2 = (x3 + (46 : Int)))) (a3 : (x4 = x1)) (a4 : (x2 ≤ x4)) (a5 : (((0 : Int) ≤ x5) ∧ (x5 ≤ (65535 : Int)))) (a6 : (x6 = (x3 + (46 : Int)))) (a7 : (x7 = x5)) : ((x6 + x7) < (9223372036854775808 : Int)) := by omega
theorem omg_249ca7e36b {x0 : Int} {x1 : Int} {x2 : Int} {x3 : Int} {x4 : Int} {x5 : Int} (a0 : (x0 = x1)) (a1 : ((0 : Int) ≤ x0)) (a2 : (x1 ≤ x2)) (a3 : (((0 : Int) ≤ x3) ∧ (x3 ≤ (65535 : Int)))) (a4 : (x4 = (x2 + (46 : Int)))) (a5 : (x5 = x3)) : ((-(9223372036854775808 : Int)) ≤ (x4 + x5)) := by omega
theorem omg_869da37f31 {x0 : Int} {x1 : Int} {x2 : Int} {x3 : Int} (a0 : (x0 < (4294967296 : Int))) (a1 : (x0 = x1)) (a2 : (x2 = x1)) (a3 : (x3 < x2)) : ((x3 + (1 : Int)) < (9223372036854775808 : Int)) := by omega
theorem omg_cb6d1a52c2 {x0 : Int} {x1 : Int} {x2 : Int} {x3 : Int} {x4 : Int} (a0 : (x0 = (x1 - (22 : Int)))) (a1 : (x2 = (x3 + (46 : Int)))) (a2 : (x4 = x0)) (a3 : (x2 ≤ x4)) : ((x3 + (46 : Int)) ≤ (x1 - (22 : Int))) := by omega
theorem omg_8dfd9be85f {x0 : Int} {x1 : Int} {x2 : Int} {x3 : Int} {x4 : Int} (a0 : (x0 = (x1 + (46 : Int)))) (a1 : (x2 = x3)) (a2 : (x4 = (x0 + x2))) : (x4 = ((x1 + (46 : Int)) + x3)) := by omega
theorem omg_e90ec815c5 {x0 : Int} {x1 : Int} {x2 : Int} {x3 : Int} (a0 : (x0 = (x1 + (46 : Int)))) (a1 : (x2 = x3)) (a2 : (x0 ≤ x2)) : ((x1 + (46 : Int)) ≤ x3) := by omega
theorem omg_f926a79b38 {x0 : Int} {x1 : Int} {x2 : Nat} (a0 : (x0 = (x1 + (1 : Int)))) (a1 : (x2 < (Int.toNat x0))) (a2 : (¬ (x2 < (Int.toNat x1)))) : (x2 = (Int.toNat x1)) := by omega
theorem omg_398401055d {x0 : Int} {x1 : Int} {x2 : Int} {x3 : Int} {x4 : Int} {x5 : Int} {x6 : Int} {x7 : Int} (a0 : (x0 = (x1 + (46 : Int)))) (a1 : (x2 = x3)) (a2 : (x0 ≤ x2)) (a3 : (((0 : Int) ≤ x4) ∧ (x4 ≤ (65535 : Int)))) (a4 : (x5 = (x1 + (46 : Int)))) (a5 : (x6 = x4)) (a6 : (x7 = (x5 + x6))) : (x7 ≤ (x3 + (65600 : Int))) := by omega
theorem omg_b8480993d2 {x0 : Int} {x1 : Int} {x2 : Int} {x3 : Int} {x4 : Int} {x5 : Int} (a0 : (x0 ≤ x1)) (a1 : (((0 : Int) ≤ x2) ∧ (x2 ≤ (65535 : Int)))) (a2 : (x3 = (x1 + (46 : Int)))) (a3 : (x4 = x2)) (a4 : (x5 = (x3 + x4))) : (x0 ≤ x5) := by omega
theorem omg_6e1458a8d6 {x0 : Int} {x1 : Int} {x2 : Int} {x3 : Int} {x4 : Int} {x5 : Int} {x6 : Int} (a0 : (x0 ≤ (20000 : Int))) (a1 : (x1 = (4 : Int))) (a2 : (x2 = (x0 - (22 : Int)))) (a3 : (x3 = (x4 + (46 : Int)))) (a4 : (x5 = x2)) (a5 : (x3 ≤ x5)) (a6 : (x6 = x4)) : ((x6 + x1) ≤ (20000 : Int)) := by omega
theorem omg_19ecdbba92 {x0 : Int} {x1 : Int} {x2 : Int} {x3 : Int} (a0 : (x0 = x1)) (a1 : ((0 : Int) ≤ x0)) (a2 : (x1 ≤ x2)) (a3 : (x3 = x2)) : ((0 : Int) ≤ x3) := by omega
theorem omg_9b0826fee8 {x0 : Int} {x1 : Int} {x2 : Int} {x3 : Int} {x4 : Int} (a0 : (x0 = (x1 - (22 : Int)))) (a1 : (x2 = (x3 + (46 : Int)))) (a2 : (x4 = x0)) (a3 : (x2 ≤ x4)) : ((x3 + (((4 : Nat) : Nat) : Int)) ≤ x1) := by omega
theorem omg_df842543cd {x0 : Int} {x1 : Int} {x2 : Int} (a0 : (x0 = x1)) (a1 : ((0 : Int) ≤ x0)) (a2 : (x1 ≤ x2)) : ((0 : Int) ≤ x2) := by omega
theorem omg_4c226eb738 {x0 : Int} {x1 : Int} {x2 : Int} {x3 : Int} {x4 : Int} {x5 : Int} {x6 : Int} {x7 : Int} (a0 : (x0 ≤ (20000 : Int))) (a1 : (x1 = x2)) (a2 : ((0 : Int) ≤ x1)) (a3 : (x3 = (x0 - (22 : Int)))) (a4 : (x2 ≤ x4)) (a5 : (x5 = (x4 + (46 : Int)))) (a6 : (x6 = x3)) (a7 : (x5 ≤ x6)) (a8 : (x7 = x4)) : (((-(2147483648 : Int)) ≤ (x7 + (4 : Int))) ∧ ((x7 + (4 : Int)) < (2147483648 : Int))) := by omega
theorem omg_929380fb42 {x0 : Int} {x1 : Int} {x2 : Int} {x3 : Int} {x4 : Int} {x5 : Int} {x6 : Int} {x7 : Int} (a0 : (x0 ≤ (20000 : Int))) (a1 : (x1 = (4 : Int))) (a2 : (x2 = (x0 - (22 : Int)))) (a3 : (x3 = (x4 + (46 : Int)))) (a4 : (x5 = x2)) (a5 : (x3 ≤ x5)) (a6 : (x6 = x4)) (a7 : (x7 = (x6 + (4 : Int)))) : ((x7 + x1) ≤ (20000 : Int)) := by omega
theorem omg_85e7fa7814 {x0 : Int} {x1 : Int} {x2 : Int} {x3 : Int} {x4 : Int} (a0 : (x0 = x1)) (a1 : ((0 : Int) ≤ x0)) (a2 : (x1 ≤ x2)) (a3 : (x3 = x2)) (a4 : (x4 = (x3 + (4 : Int)))) : ((0 : Int) ≤ x4) := by omega
theorem omg_befd074f65 {x0 : Int} {x1 : Int} {x2 : Int} {x3 : Int} {x4 : Int} (a0 : (x0 = (x1 - (22 : Int)))) (a1 : (x2 = (x3 + (46 : Int)))) (a2 : (x4 = x0)) (a3 : (x2 ≤ x4)) : (((x3 + (4 : Int)) + (((4 : Nat) : Nat) : Int)) ≤ x1) := by omega
theorem omg_8fba624501 {x0 : Int} {x1 : Int} {x2 : Int} (a0 : (x0 = x1)) (a1 : ((0 : Int) ≤ x0)) (a2 : (x1 ≤ x2)) : ((0 : Int) ≤ (x2 + (4 : Int))) := by omega
theorem omg_e19fe5d0d1 {x0 : Int} {x1 : Int} {x2 : Int} (a0 : (x0 = x1)) (a1 : (x2 = (x0 + (4 : Int)))) : (x2 = (x1 + (4 : Int))) := by omega
theorem omg_922685428c {x0 : Int} {x1 : Int} {x2 : Int} {x3 : Int} {x4 : Int} {x5 : Int} {x6 : Int} {x7 : Int} (a0 : (x0 ≤ (20000 : Int))) (a1 : (x1 = x2)) (a2 : ((0 : Int) ≤ x1)) (a3 : (x3 = (x0 - (22 : Int)))) (a4 : (x2 ≤ x4)) (a5 : (x5 = (x4 + (46 : Int)))) (a6 : (x6 = x3)) (a7 : (x5 ≤ x6)) (a8 : (x7 = x4)) : (((-(2147483648 : Int)) ≤ (x7 + (8 : Int))) ∧ ((x7 + (8 : Int)) < (2147483648 : Int))) := by omega
theorem omg_8ee4859492 {x0 : Int} {x1 : Int} {x2 : Int} {x3 : Int} {x4 : Int} {x5 : Int} {x6 : Int} {x7 : Int} (a0 : (x0 ≤ (20000 : Int))) (a1 : (x1 = (2 : Int))) (a2 : (x2 = (x0 - (22 : Int)))) (a3 : (x3 = (x4 + (46 : Int)))) (a4 : (x5 = x2)) (a5 : (x3 ≤ x5)) (a6 : (x6 = x4)) (a7 : (x7 = (x6 + (8 : Int)))) : ((x7 + x1) ≤ (20000 : Int)) := by omega
theorem omg_19c3946a5d {x0 : Int} {x1 : Int} {x2 : Int} {x3 : Int} {x4 : Int} (a0 : (x0 = x1)) (a1 : ((0 : Int) ≤ x0)) (a2 : (x1 ≤ x2)) (a3 : (x3 = x2)) (a4 : (x4 = (x3 + (8 : Int)))) : ((0 : Int) ≤ x4) := by omega
theorem omg_f5efd0557b {x0 : Int} {x1 : Int} {x2 : Int} {x3 : Int} {x4 : Int} (a0 : (x0 = (x1 - (22 : Int)))) (a1 : (x2 = (x3 + (46 : Int)))) (a2 : (x4 = x0)) (a3 : (x2 ≤ x4)) : (((x3 + (8 : Int)) + (((2 : Nat) : Nat) : Int)) ≤ x1) := by omega
theorem omg_4c9f55585f {x0 : Int} {x1 : Int} {x2 : Int} (a0 : (x0 = x1)) (a1 : ((0 : Int) ≤ x0)) (a2 : (x1 ≤ x2)) : ((0 : Int) ≤ (x2 + (8 : Int))) := by omega
theorem omg_c647d57480 {x0 : Int} {x1 : Int} {x2 : Int} (a0 : (x0 = x1)) (a1 : (x2 = (x0 + (8 : Int)))) : (x2 = (x1 + (8 : Int))) := by omega
theorem omg_544d97ef14 {x0 : Int} {x1 : Int} {x2 : Int} {x3 : Int} {x4 : Int} {x5 : Int} {x6 : Int} {x7 : Int} (a0 : (x0 ≤ (20000 : Int))) (a1 : (x1 = x2)) (a2 : ((0 : Int) ≤ x1)) (a3 : (x3 = (x0 - (22 : Int)))) (a4 : (x2 ≤ x4)) (a5 : (x5 = (x4 + (46 : Int)))) (a6 : (x6 = x3)) (a7 : (x5 ≤ x6)) (a8 : (x7 = x4)) : (((-(2147483648 : Int)) ≤ (x7 + (10 : Int))) ∧ ((x7 + (10 : Int)) < (2147483648 : Int))) := by omega
theorem omg_55fb946007 {x0 : Int} {x1 : Int} {x2 : Int} {x3 : Int} {x4 : Int} {x5 : Int} {x6 : Int} {x7 : Int} (a0 : (x0 ≤ (20000 : Int))) (a1 : (x1 = (2 : Int))) (a2 : (x2 = (x0 - (22 : Int)))) (a3 : (x3 = (x4 + (46 : Int)))) (a4 : (x5 = x2)) (a5 : (x3 ≤ x5)) (a6 : (x6 = x4)) (a7 : (x7 = (x6 + (10 : Int)))) : ((x7 + x1) ≤ (20000 : Int)) := by omega
theorem omg_c0bb658020 {x0 : Int} {x1 : Int} {x2 : Int} {x3 : Int} {x4 : Int} (a0 : (x0 = x1)) (a1 : ((0 : Int) ≤ x0)) (a2 : (x1 ≤ x2)) (a3 : (x3 = x2)) (a4 : (x4 = (x3 + (10 : Int)))) : ((0 : Int) ≤ x4) := by omega
theorem omg_026e0903d4 {x0 : Int} {x1 : Int} {x2 : Int} {x3 : Int} {x4 : Int} (a0 : (x0 = (x1 - (22 : Int)))) (a1 : (x2 = (x3 + (46 : Int)))) (a2 : (x4 = x0)) (a3 : (x2 ≤ x4)) : (((x3 + (10 : Int)) + (((2 : Nat) : Nat) : Int)) ≤ x1) := by omega
theorem omg_bbc78c4057 {x0 : Int} {x1 : Int} {x2 : Int} (a0 : (x0 = x1)) (a1 : ((0 : Int) ≤ x0)) (a2 : (x1 ≤ x2)) : ((0 : Int) ≤ (x2 + (10 : Int))) := by omega
theorem omg_e40bc9cb46 {x0 : Int} {x1 : Int} {x2 : Int} (a0 : (x0 = x1)) (a1 : (x2 = (x0 + (10 : Int)))) : (x2 = (x1 + (10 : Int))) := by omega
theorem omg_25fb27318e {x0 : Int} {x1 : Int} (a0 : (x0 = x1)) (a1 : (x0 = (1310740 : Int))) : (x1 = (1310740 : Int)) := by omega
theorem omg_98797605ec {x0 : Int} {x1 : Int} (a0 : (x0 = x1)) (a1 : (x0 = (33639248 : Int))) : (x1 = (33639248 : Int)) := by omega
theorem omg_189f31393b {x0 : Int} {x1 : Int} {x2 : Int} (a0 : (x0 = x1)) (a1 : (¬ (x0 = (0 : Int)))) (a2 : (x2 = x1)) (a3 : (¬ (x2 = (8 : Int)))) (a4 : ((x1 = (0 : Int)) ∨ (x1 = (8 : Int)))) : False := by omega
theorem omg_d94271d85e {x0 : Int} {x1 : Int} {x2 : Int} {x3 : Int} {x4 : Int} (a0 : (x0 = (x1 - (22 : Int)))) (a1 : (x2 = (x3 + (46 : Int)))) (a2 : (x4 = x0)) (a3 : (x4 < x2)) : (¬ ((x3 + (46 : Int)) ≤ (x1 - (22 : Int)))) := by omega
theorem omg_c386195dfe {x0 : Int} {x1 : Int} {x2 : Int} {x3 : Int} {x4 : Int} (a0 : ((0 : Int) ≤ x0)) (a1 : (x1 = (x2 + x0))) (a2 : (x3 = x4)) (a3 : (x1 = x3)) : (x2 ≤ (x4 + (65600 : Int))) := by omega
theorem omg_4e99ee0b06 {x0 : Int} {x1 : Int} {x2 : Int} {x3 : Int} {x4 : Int} {x5 : Int} (a0 : (x0 = x1)) (a1 : ((0 : Int) ≤ x2)) (a2 : (x3 = (x0 + x2))) (a3 : (x4 = x5)) (a4 : (x3 = x4)) : (x1 ≤ x5) := by omega
theorem omg_3907787a03 {x0 : Int} {x1 : Int} (a0 : (x0 = x1)) (a1 : ((0 : Int) ≤ x0)) : ((0 : Int) ≤ x1) := by omega
theorem omg_db7907a2b4 {x0 : Int} (a0 : (¬ (x0 < (0 : Int)))) : ((0 : Int) ≤ x0) := by omega
theorem omg_6fff4b142f {x0 : Int} {x1 : Int} {x2 : Int} {x3 : Int} {x4 : Int} {x5 : Int} {x6 : Int} {x7 : Int} (a0 : (x0 = (x1 - (22 : Int)))) (a1 : (x2 = x3)) (a2 : (x4 = x5)) (a3 : (x6 = (x2 + x4))) (a4 : (x7 = x0)) (a5 : (¬ (x6 = x7))) : (¬ ((x3 + x5) = (x1 - (22 : Int)))) := by omega
/-- the first i parts of set 1 stand in set 0 too -/
def cp_I (z z2 : Nat → Int32) (i : Int) : Prop := ∀ j : Int, 0 ≤ j → gx z2 j = if j < i then gx z (17 + j) else gx z j
def cp_N (n n2 : Nat → Int32) (i : Int) : Prop := ∀ j : Int, 0 ≤ j → ∀ k : Int, 0 ≤ k → k < 24 → gx n2 (24 * j + k) = if j < i then gx n (24 * (17 + j) + k) else gx n (24 * j + k)
theorem cp_0 {z : Nat → Int32} : cp_I z z 0 := fun j h => by rw [if_neg (by omega)]
theorem cp_N0 {n : Nat → Int32} : cp_N n n 0 := fun j h k _ _ => by rw [if_neg (by omega)]
theorem cp_s {z z1 z2 : Nat → Int32} {i i2 fr to : Int} (h : cp_I z z1 i) (h0 : 0 ≤ i) (h1 : i ≤ 16) (hf : fr = 17 + i) (ht : to = i) (hm : mv_Z z1 z2 fr to) (h2 : i2 = i + 1) : cp_I z z2 i2 := by
  subst hf ht h2
  intro j j0
  rw [hm j j0]
  by_cases w : j = to
  · subst w
    rw [if_pos rfl, if_pos (by omega), h _ (by omega), if_neg (by omega)]
  · rw [if_neg w, h j j0]
    by_cases w2 : j < to
    · rw [if_pos w2, if_pos (by omega)]
    · rw [if_neg w2, if_neg (by omega)]
theorem cp_Ns {n n1 n2 : Nat → Int32} {i i2 fr to : Int} (h : cp_N n n1 i) (h0 : 0 ≤ i) (h1 : i ≤ 16) (hf : fr = 17 + i) (ht : to = i) (hm : mv_N n1 n2 fr to) (h2 : i2 = i + 1) : cp_N n n2 i2 := by
  subst hf ht h2
  intro j j0 k k0 k1
  by_cases w : j = to
  · subst w
    rw [hm.1 k k0 k1, if_pos (by omega), h _ (by omega) k k0 k1, if_neg (by omega)]
  · rw [hm.2 _ (by omega) (by omega), h j j0 k k0 k1]
    by_cases w2 : j < to
    · rw [if_pos w2, if_pos (by omega)]
    · rw [if_neg w2, if_neg (by omega)]
theorem cp_end {c : Int} {z s n z2 s2 n2 : Nat → Int32} (h : ms_I 17 c z s n) (hz : cp_I z z2 c) (hs : cp_I s s2 c) (hn : cp_N n n2 c) : ms_I 0 c z2 s2 n2 := by
  obtain ⟨g1, g2, g3, g4, g5⟩ := h
  have ez : ∀ j : Int, 0 ≤ j → j < c → gx z2 (0 + j) = gx z (17 + j) := fun j h0 h1 => by rw [Int.zero_add, hz j h0, if_pos h1]
  have es : ∀ j : Int, 0 ≤ j → j < c → gx s2 (0 + j) = gx s (17 + j) := fun j h0 h1 => by rw [Int.zero_add, hs j h0, if_pos h1]
  refine ⟨g1, g2, fun j h0 h1 => by rw [ez j h0 h1, es j h0 h1]; exact g3 j h0 h1, ?_, fun p q p0 pq qc hnm => ?_⟩
  · have e : ∀ m : Nat, (m : Int) ≤ c → sm s2 0 m = sm s 17 m := by
      intro m
      induction m with
      | zero => intro _; rfl
      | succ m ih =>
        intro hm
        rw [sm, sm, ih (by omega), es m (by omega) (by omega)]
    rw [e c.toNat (by omega)]
    exact g4
  · have hp := g3 p p0 (by omega)
    refine g5 p q p0 pq qc ⟨by rw [← ez p p0 (by omega), ← ez q (by omega) qc]; exact hnm.1, fun k k0 k1 => ?_⟩
    have a := hnm.2 k k0 (by rw [ez p p0 (by omega)]; exact k1)
    rw [show 24 * (0 + p) + k = 24 * p + k by omega, show 24 * (0 + q) + k = 24 * q + k by omega, hn p p0 k k0 (by omega), hn q (by omega) k k0 (by omega), if_pos (by omega), if_pos qc] at a
    exact a
theorem ms_nil {z s n : Nat → Int32} : ms_I 17 0 z s n := ⟨by omega, by omega, fun i h0 h1 => absurd h1 (by omega), by show (0 : Int) ≤ 12000; omega, fun i j h0 h1 h2 => absurd h2 (by omega)⟩
theorem ot_tr {z z1 z2 : Nat → Int32} {b : Int} (h : ot_Z z z1 b) (g : ot_Z z1 z2 b) : ot_Z z z2 b := fun j j0 j1 => (g j j0 j1).trans (h j j0 j1)
theorem ot_trN {n n1 n2 : Nat → Int32} {b : Int} (h : ot_N n n1 b) (g : ot_N n1 n2 b) : ot_N n n2 b := fun j j0 j1 => (g j j0 j1).trans (h j j0 j1)

theorem ot_trD {d d1 d2 : Nat → Int32} {b : Int} (h : ot_D d d1 b) (g : ot_D d1 d2 b) : ot_D d d2 b := fun j j0 j1 => (g j j0 j1).trans (h j j0 j1)
theorem ab_eq {f : Nat → Int32} {A : Int → Int32} {Z p q : Int} {i j : Int32} (hA : ∀ j : Int, 0 ≤ j → j < Z → A j = gr f j) (e1 : i = gr f p) (e2 : j = gr f q) (p0 : 0 ≤ p) (p1 : p < Z) (q0 : 0 ≤ q) (q1 : q < Z) (h : i.toInt = j.toInt) : A p = A q := by
  rw [hA p p0 p1, hA q q0 q1, ← e1, ← e2]
  exact Int32.toInt_inj.mp h
theorem ab_ne {f : Nat → Int32} {A : Int → Int32} {Z p q : Int} {i j : Int32} (hA : ∀ j : Int, 0 ≤ j → j < Z → A j = gr f j) (e1 : i = gr f p) (e2 : j = gr f q) (p0 : 0 ≤ p) (p1 : p < Z) (q0 : 0 ≤ q) (q1 : q < Z) (h : ¬ i.toInt = j.toInt) : ¬ A p = A q := fun z => h (by
  rw [hA p p0 p1, hA q q0 q1, ← e1, ← e2] at z
  rw [z])
theorem rr_Y {A : Int → Int32} {lim e : Int} (hB : ∀ j : Int, -128 ≤ (A j).toInt ∧ (A j).toInt ≤ 127) (hy : ey_ A e) (h0 : aw A (e + 42) 4 + 30 + aw A (e + 28) 2 + aw A (e + 20) 4 ≤ lim) (h : ((aw A (aw A (e + 42) 4) 4 = 67324752 ∧ aw A (aw A (e + 42) 4 + 4) 4 = 20 ∧ aw A (aw A (e + 42) 4 + 28) 2 = 0) ∧ ∀ j : Int, 0 ≤ j → j < 20 → A (aw A (e + 42) 4 + 8 + j) = A (e + 10 + j)) ∧ ∀ j : Int, 0 ≤ j → j < aw A (e + 28) 2 → A (aw A (e + 42) 4 + 30 + j) = A (e + 46 + j)) : rr_ A lim e := (rr_iff rfl hB hy).mpr ⟨h0, h.1.1.1, h.1.1.2.1, h.1.1.2.2, h.1.2, h.2⟩
theorem rr_X {A : Int → Int32} {lim e : Int} (hB : ∀ j : Int, -128 ≤ (A j).toInt ∧ (A j).toInt ≤ 127) (hy : ey_ A e) (h : ¬ (((aw A (aw A (e + 42) 4) 4 = 67324752 ∧ aw A (aw A (e + 42) 4 + 4) 4 = 20 ∧ aw A (aw A (e + 42) 4 + 28) 2 = 0) ∧ ∀ j : Int, 0 ≤ j → j < 20 → A (aw A (e + 42) 4 + 8 + j) = A (e + 10 + j)) ∧ ∀ j : Int, 0 ≤ j → j < aw A (e + 28) 2 → A (aw A (e + 42) 4 + 30 + j) = A (e + 46 + j))) : ¬ rr_ A lim e := fun q => h (by
  have z := (rr_iff rfl hB hy).mp q
  exact ⟨⟨⟨z.2.1, z.2.2.1, z.2.2.2.1⟩, z.2.2.2.2.1⟩, z.2.2.2.2.2⟩)
theorem dz_eq {A : Int → Int32} {x e : Int} {n k : Nat} (h : dy_ A x e n) (hk : dz A x k = e) : k = n := by
  rcases Nat.lt_trichotomy k n with w | w | w
  · have u := (h.1 k w).1
    omega
  · exact w
  · have u := dz_up A x (k - n) n
    rw [show n + (k - n) = k by omega, h.2] at u
    omega
def cp_D (s d d2 : Nat → Int32) (i : Int) : Prop := (∀ j : Int, 0 ≤ j → j < i → ∀ k : Int, 0 ≤ k → k < gx s (17 + j) → gr d2 (4000 * j + k) = gr d (4000 * (17 + j) + k)) ∧ ∀ j : Int, i ≤ j → ∀ k : Int, 0 ≤ k → k < 4000 → gr d2 (4000 * j + k) = gr d (4000 * j + k)
theorem cp_D0 {s d : Nat → Int32} : cp_D s d d 0 := ⟨fun j h0 h1 => absurd h1 (by omega), fun _ _ _ _ _ => rfl⟩
theorem cp_Ds {s d d1 d2 : Nat → Int32} {i i2 fr to m : Int} (h : cp_D s d d1 i) (h0 : 0 ≤ i) (h1 : i ≤ 16) (hf : fr = 17 + i) (ht : to = i) (hm : mv_D d1 d2 fr to m) (em : m = gx s (17 + i)) (m4 : m ≤ 4000) (hs : ∀ j : Int, 0 ≤ j → j < i → gx s (17 + j) ≤ 4000) (h2 : i2 = i + 1) : cp_D s d d2 i2 := by
  subst hf ht h2 em
  refine ⟨fun j j0 j1 k k0 k1 => ?_, fun j j0 k k0 k1 => ?_⟩
  · by_cases c : j = to
    · subst c
      rw [hm.1 k k0 k1]
      exact h.2 (17 + j) (by omega) k k0 (by omega)
    · have q := hs j j0 (by omega)
      rw [hm.2 _ (by omega) (by omega)]
      exact h.1 j j0 (by omega) k k0 k1
  · rw [hm.2 _ (by omega) (by omega)]
    exact h.2 j (by omega) k k0 k1
theorem rM_cp {c : Int} {z s n d z2 s2 n2 d2 : Nat → Int32} {V : VW_} (R : rM_ 17 c z n s d V) (I : ms_I 17 c z s n) (hz : cp_I z z2 c) (hs : cp_I s s2 c) (hn : cp_N n n2 c) (hd : cp_D s d d2 c) : rM_ 0 c z2 n2 s2 d2 V := by
  refine ⟨R.1, fun i i0 i1 => ?_⟩
  obtain ⟨a1, a2, a3, a4⟩ := R.2 i i0 i1
  have q5 := I.2.2.1 i i0 i1
  rw [Int.zero_add]
  refine ⟨?_, ?_, fun k k0 k1 => ?_, fun k k0 k1 => ?_⟩
  · rw [hz i i0, if_pos i1]
    exact a1
  · rw [hs i i0, if_pos i1]
    exact a2
  · rw [hn i i0 k k0 (by omega), if_pos i1]
    exact a3 k k0 k1
  · rw [hd.1 i i0 i1 k k0 (by omega)]
    exact a4 k k0 k1
/-- a row with a byte changed -/
theorem xr_M {F R : Nat → Int32} {A : Int → Int32} {s k j : Int} {ix x u v w : Int32} (hA : A j = xr_ (gr F) k x j) (rl : rl_B F R s) (h0 : 0 ≤ j) (h1 : j < s) (hi : ix.toInt = k) (k0 : 0 ≤ k) (k1 : k < s) (xj : w = gr R k) (xu : u = w ^^^ x) (xv : v = u.toInt8.toInt32) : A j = gr (upd R ix.toNatClampNeg (vp_nar .byte v)) j := by
  rw [hA, gr_updb hi j k0 h0]
  unfold xr_
  by_cases c : j = k
  · rw [if_pos c, if_pos c, xv, i8_i8, xu, xj, ← rl k k0 k1, c]
  · rw [if_neg c, if_neg c]
    exact rl j h0 h1
theorem rs_cg {A : Int → Int32} {x r s : Int} {k : Nat} {W : VW_} (h : rs_ A x k r W) (e : r = s) : rs_ A x k s W := by
  subst e
  exact h

theorem d_Mod_at_0 : decode prog_12_method_54_code 0 = .ok (.lconst 0, 1) := by decide +kernel
theorem d_Mod_at_1 : decode prog_12_method_54_code 1 = .ok (.lstore_n 3, 1) := by decide +kernel
theorem d_Mod_at_2 : decode prog_12_method_54_code 2 = .ok (.iload_n 2, 1) := by decide +kernel
theorem d_Mod_at_3 : decode prog_12_method_54_code 3 = .ok (.iconst 1, 1) := by decide +kernel
theorem d_Mod_at_4 : decode prog_12_method_54_code 4 = .ok (.isub, 1) := by decide +kernel
theorem d_Mod_at_5 : decode prog_12_method_54_code 5 = .ok (.istore 5, 2) := by decide +kernel
theorem d_Mod_at_7 : decode prog_12_method_54_code 7 = .ok (.iload 5, 2) := by decide +kernel
theorem d_Mod_at_9 : decode prog_12_method_54_code 9 = .ok (.ifCond .lt 30, 3) := by decide +kernel
theorem d_Mod_at_39 : decode prog_12_method_54_code 39 = .ok (.lload_n 3, 1) := by decide +kernel
theorem d_Mod_at_40 : decode prog_12_method_54_code 40 = .ok (.lreturn, 1) := by decide +kernel
theorem d_Mod_at_12 : decode prog_12_method_54_code 12 = .ok (.ldc2_w 297, 3) := by decide +kernel
theorem k_1530 : (Jvm.Cond.constantLong "PackageBookModel" (297 : Nat) (256 : Int64)) ∈ uW := uW_of 1530 (by decide +kernel) (by decide +kernel)
theorem d_Mod_at_15 : decode prog_12_method_54_code 15 = .ok (.lload_n 3, 1) := by decide +kernel
theorem d_Mod_at_16 : decode prog_12_method_54_code 16 = .ok (.lmul, 1) := by decide +kernel
theorem d_Mod_at_17 : decode prog_12_method_54_code 17 = .ok (.aload_n 0, 1) := by decide +kernel
theorem d_Mod_at_18 : decode prog_12_method_54_code 18 = .ok (.getfield 66, 3) := by decide +kernel
theorem d_Mod_at_21 : decode prog_12_method_54_code 21 = .ok (.iload_n 1, 1) := by decide +kernel
theorem d_Mod_at_22 : decode prog_12_method_54_code 22 = .ok (.iload 5, 2) := by decide +kernel
theorem d_Mod_at_24 : decode prog_12_method_54_code 24 = .ok (.iadd, 1) := by decide +kernel
theorem d_Mod_at_25 : decode prog_12_method_54_code 25 = .ok (.baload, 1) := by decide +kernel
theorem d_Mod_at_26 : decode prog_12_method_54_code 26 = .ok (.sipush 255, 3) := by decide +kernel
theorem d_Mod_at_29 : decode prog_12_method_54_code 29 = .ok (.iand, 1) := by decide +kernel
theorem d_Mod_at_30 : decode prog_12_method_54_code 30 = .ok (.i2l, 1) := by decide +kernel
theorem d_Mod_at_31 : decode prog_12_method_54_code 31 = .ok (.ladd, 1) := by decide +kernel
theorem d_Mod_at_32 : decode prog_12_method_54_code 32 = .ok (.lstore_n 3, 1) := by decide +kernel
theorem d_Mod_at_33 : decode prog_12_method_54_code 33 = .ok (.iinc 5 (-1), 3) := by decide +kernel
theorem d_Mod_at_36 : decode prog_12_method_54_code 36 = .ok (.goto (-29), 3) := by decide +kernel
abbrev y_Mod_at : MethodName := ⟨"PackageBookModel", "at", "(II)J"⟩
abbrev i_Mod_at : pb_I := (y_Mod_at, prog_12_method_54_code, 6, (some Jvm.ClassFile.FieldType.long), [], { frames := 0, cells := 0, slots := 0, locals := 0 })
set_option maxRecDepth 100000 in
set_option maxHeartbeats 4000000 in
theorem g_Mod_at {l : Launch} (hl : l.stackTraces = false) (G : pb_G) (h : Nat) (m_rels : Nat) (m_openRels : Nat) (m_closeRels : Nat) (m_openRel : Nat) (m_closeRel : Nat) (m_comment : Nat) (m_ends : Nat) (m_order : Nat) (m_tape : Nat) (m_count : Nat) (m_nameSize : Nat) (m_names : Nat) (m_size : Nat) (m_data : Nat) (m_looked : Nat) (m_file : Nat) (m_directory : Nat) (m_out : Nat) (m_row : Nat) (m_made : Nat) (m_length : Nat) (m_pressed : Nat) (m_mark : Nat) (m_idSize : Nat) (m_ids : Nat) (m_goalSize : Nat) (m_goals : Nat) (m_value : Nat) (m_faults : Nat) (m_reached : Nat) (v_thrown : Int32) (v_taped : Int32) (v_lookedSize : Int32) (v_fileSize : Int32) (v_directorySize : Int32) (v_outSize : Int32) (v_rowSize : Int32) (v_bitAt : Int32) (v_bitEnd : Int32) (v_why : Int32) (v_madeSize : Int32) (v_firstCount : Int32) (v_secondCount : Int32) (v_heldBits : Int32) (v_heldCount : Int32) (v_pressedSize : Int32) (v_at : Int32) (v_bad : Int32) (v_markSize : Int32) (v_relationCount : Int32) (v_valueSize : Int32) (v_faultCount : Int32) (a_row : Nat → Int32) (x : Int32) (n : Int32) (h0 : 0 ≤ x.toInt) (h1 : 0 ≤ n.toInt) (h2 : n.toInt ≤ 4) (h3 : x.toInt + n.toInt ≤ 20000) (F_a_row : sb_Fit a_row) : Cn l G i_Mod_at [.ref h, .int x, .int n] [(h, .inr (10, [.ref m_rels, .ref m_openRels, .ref m_closeRels, .ref m_openRel, .ref m_closeRel, .ref m_comment, .ref m_ends, .ref m_order, .int v_thrown, .int v_taped, .ref m_tape, .ref m_count, .ref m_nameSize, .ref m_names, .ref m_size, .ref m_data, .int v_lookedSize, .ref m_looked, .int v_fileSize, .ref m_file, .int v_directorySize, .ref m_directory, .int v_outSize, .ref m_out, .int v_rowSize, .ref m_row, .int v_bitAt, .int v_bitEnd, .int v_why, .int v_madeSize, .ref m_made, .ref m_length, .int v_firstCount, .int v_secondCount, .int v_heldBits, .int v_heldCount, .int v_pressedSize, .ref m_pressed, .int v_at, .int v_bad, .int v_markSize, .ref m_mark, .int v_relationCount, .ref m_idSize, .ref m_ids, .ref m_goalSize, .ref m_goals, .int v_valueSize, .ref m_value, .int v_faultCount, .ref m_faults, .ref m_reached])), (m_row, .inl (G.2.1, 20000, .inl a_row))] (S := Int64) (fun rv_ u => rv_ = some (.long u) ∧ (u.toInt = av a_row x.toInt n.toInt.toNat) ∧ (0 ≤ u.toInt) ∧ (u.toInt < 4294967296)) (fun u => [(h, .inr (10, [.ref m_rels, .ref m_openRels, .ref m_closeRels, .ref m_openRel, .ref m_closeRel, .ref m_comment, .ref m_ends, .ref m_order, .int v_thrown, .int v_taped, .ref m_tape, .ref m_count, .ref m_nameSize, .ref m_names, .ref m_size, .ref m_data, .int v_lookedSize, .ref m_looked, .int v_fileSize, .ref m_file, .int v_directorySize, .ref m_directory, .int v_outSize, .ref m_out, .int v_rowSize, .ref m_row, .int v_bitAt, .int v_bitEnd, .int v_why, .int v_madeSize, .ref m_made, .ref m_length, .int v_firstCount, .int v_secondCount, .int v_heldBits, .int v_heldCount, .int v_pressedSize, .ref m_pressed, .int v_at, .int v_bad, .int v_markSize, .ref m_mark, .int v_relationCount, .ref m_idSize, .ref m_ids, .ref m_goalSize, .ref m_goals, .int v_valueSize, .ref m_value, .int v_faultCount, .ref m_faults, .ref m_reached])), (m_row, .inl (G.2.1, 20000, .inl a_row))]) := by
  refine Cn.of hl (by decide +kernel) rfl (Nat.le_of_ble_eq_true rfl) (fun M hQ => ?_)
  refine pb_eq (pc' := 0) (lo' := [(0, .ref h), (1, .int x), (2, .int n)]) (rest' := []) (ws' := [(h, .inr (10, [.ref m_rels, .ref m_openRels, .ref m_closeRels, .ref m_openRel, .ref m_closeRel, .ref m_comment, .ref m_ends, .ref m_order, .int v_thrown, .int v_taped, .ref m_tape, .ref m_count, .ref m_nameSize, .ref m_names, .ref m_size, .ref m_data, .int v_lookedSize, .ref m_looked, .int v_fileSize, .ref m_file, .int v_directorySize, .ref m_directory, .int v_outSize, .ref m_out, .int v_rowSize, .ref m_row, .int v_bitAt, .int v_bitEnd, .int v_why, .int v_madeSize, .ref m_made, .ref m_length, .int v_firstCount, .int v_secondCount, .int v_heldBits, .int v_heldCount, .int v_pressedSize, .ref m_pressed, .int v_at, .int v_bad, .int v_markSize, .ref m_mark, .int v_relationCount, .ref m_idSize, .ref m_ids, .ref m_goalSize, .ref m_goals, .int v_valueSize, .ref m_value, .int v_faultCount, .ref m_faults, .ref m_reached])), (m_row, .inl (G.2.1, 20000, .inl a_row))]) ?_
  have zl0 : (0 : Int32).toInt = 0 := by decide
  have zl1 : (1 : Int32).toInt = 1 := by decide
  refine pb_lconst (pc := 0) (v := 0) d_Mod_at_0 (by decide) ?_
  refine pb_lstore_n (pc := 1) (lo' := [(3, .long 0), (0, .ref h), (1, .int x), (2, .int n)]) d_Mod_at_1 rfl (by decide) rfl ?_
  refine pb_iload_n (pc := 2) d_Mod_at_2 3 rfl rfl ?_
  refine pb_iconst (pc := 3) (v := 1) d_Mod_at_3 (by decide) ?_
  refine pb_isub (pc := 4) d_Mod_at_4 ?_
  refine pb_topi (fun ix1 eix1 => ?_)
  try have tix1 : ix1.toInt = n.toInt - 1 := t2_sub eix1 rfl (by decide) (by omega)
  refine pb_istore (pc := 5) (lo' := [(5, .int ix1), (3, .long 0), (0, .ref h), (1, .int x), (2, .int n)]) d_Mod_at_5 (by decide) rfl ?_
  have hL7_2 : ∀ (N9 : Nat) (k : Int32) (v : Int64), (-1 ≤ k.toInt) → (k.toInt < n.toInt) → (v.toInt = av a_row (x.toInt + k.toInt + 1) (n.toInt - k.toInt - 1).toNat) → ((k.toInt + 1).toNat) < N9 → pb_P l G M i_Mod_at 7 [(5, .int k), (3, .long v), (0, .ref h), (1, .int x), (2, .int n)] [] [(h, .inr (10, [.ref m_rels, .ref m_openRels, .ref m_closeRels, .ref m_openRel, .ref m_closeRel, .ref m_comment, .ref m_ends, .ref m_order, .int v_thrown, .int v_taped, .ref m_tape, .ref m_count, .ref m_nameSize, .ref m_names, .ref m_size, .ref m_data, .int v_lookedSize, .ref m_looked, .int v_fileSize, .ref m_file, .int v_directorySize, .ref m_directory, .int v_outSize, .ref m_out, .int v_rowSize, .ref m_row, .int v_bitAt, .int v_bitEnd, .int v_why, .int v_madeSize, .ref m_made, .ref m_length, .int v_firstCount, .int v_secondCount, .int v_heldBits, .int v_heldCount, .int v_pressedSize, .ref m_pressed, .int v_at, .int v_bad, .int v_markSize, .ref m_mark, .int v_relationCount, .ref m_idSize, .ref m_ids, .ref m_goalSize, .ref m_goals, .int v_valueSize, .ref m_value, .int v_faultCount, .ref m_faults, .ref m_reached])), (m_row, .inl (G.2.1, 20000, .inl a_row))] 0 0 := by
    intro N9
    induction N9 with
    | zero => intro k v k0 k1 kv hm9; exact absurd hm9 (Nat.not_lt_zero _)
    | succ N9 ih7 =>
      intro k v k0 k1 kv hm9
      have vr := av_le a_row (n := (n.toInt - k.toInt - 1).toNat) (by omega) (x.toInt + k.toInt + 1)
      refine pb_iload (pc := 7) d_Mod_at_7 0 rfl ?_
      refine pb_if_lt (pc := 9) (tgt := 39) d_Mod_at_9 (by decide) (fun wx3 => ?_) (fun wx3 => ?_)
      · have twx3 : k.toInt < 0 := (ti_lt rfl (by decide)).mp wx3
        refine pb_lload_n (pc := 39) d_Mod_at_39 1 rfl rfl ?_
        have kk : k.toInt = -1 := by omega
        rw [kk, show x.toInt + -1 + 1 = x.toInt by omega, show n.toInt - -1 - 1 = n.toInt by omega] at kv vr
        exact pb_lret (pc := 40) hQ d_Mod_at_40 rfl (v) ⟨rfl, kv, (show 0 ≤ v.toInt from (by omega)), (show v.toInt < 4294967296 from (by omega))⟩ [0, 1] (by decide) rfl rfl (by decide) (by decide)
      · have twx3 : ¬ k.toInt < 0 := fun z9 => wx3 ((ti_lt rfl (by decide)).mpr z9)
        refine pb_ldc2 (pc := 12) (v := 256) d_Mod_at_12 k_1530 ?_
        refine pb_lload_n (pc := 15) d_Mod_at_15 1 rfl rfl ?_
        refine pb_lmul (pc := 16) d_Mod_at_16 ?_
        refine pb_topl (fun jx4 ejx4 => ?_)
        try have tjx4 : jx4.toInt = 256 * v.toInt := tl_mul ejx4 (by decide) rfl (by omega) (by omega)
        refine pb_aload_n (pc := 17) d_Mod_at_17 2 rfl rfl ?_
        refine pb_get (pc := 18) d_Mod_at_18 0 25 rfl rfl (by decide) in_Mod k_1171 rfl ?_
        refine pb_iload_n (pc := 21) d_Mod_at_21 3 rfl rfl ?_
        refine pb_iload (pc := 22) d_Mod_at_22 0 rfl ?_
        refine pb_iadd (pc := 24) d_Mod_at_24 ?_
        refine pb_topi (fun ix5 eix5 => ?_)
        try have tix5 : ix5.toInt = x.toInt + k.toInt := t2_add eix5 rfl rfl (by omega)
        refine pb_bald (pc := 25) d_Mod_at_25 1 rfl (vp_in_iff.mpr (by omega)) ?_
        refine pb_topi (fun ix6 eix6 => ?_)
        have xix6 : ix6 = gr a_row (x.toInt + k.toInt) := gr_ld eix6 (by omega)
        have yix6 : ix6.toInt = gx a_row (x.toInt + k.toInt) := congrArg Int32.toInt xix6
        have tix6 : -128 ≤ ix6.toInt ∧ ix6.toInt ≤ 127 := ti_fit (F_a_row _) eix6
        refine pb_sipush (pc := 26) (v := 255) d_Mod_at_26 (by decide) ?_
        refine pb_iand (pc := 29) d_Mod_at_29 ?_
        refine pb_topi (fun ix7 eix7 => ?_)
        have tix7 : 0 ≤ ix7.toInt ∧ ix7.toInt ≤ 255 := ti_and 8 eix7 (by decide) (by decide)
        have bb : ix7.toInt = bv a_row (x.toInt + k.toInt) := by rw [eix7, xix6]; rfl
        refine pb_i2l (pc := 30) d_Mod_at_30 rfl ?_
        refine pb_topl (fun jx8 ejx8 => ?_)
        have tjx8 : jx8.toInt = ix7.toInt := tl_i2l ejx8 rfl
        refine pb_ladd (pc := 31) d_Mod_at_31 ?_
        refine pb_topl (fun jx9 ejx9 => ?_)
        try have tjx9 : jx9.toInt = jx4.toInt + jx8.toInt := tl_add ejx9 rfl rfl (by omega) (by omega)
        refine pb_lstore_n (pc := 32) (lo' := [(3, .long jx9), (5, .int k), (0, .ref h), (1, .int x), (2, .int n)]) d_Mod_at_32 rfl (by decide) rfl ?_
        refine pb_iincN (pc := 33) (c := (-1)) d_Mod_at_33 1 rfl (by decide) (by decide) (fun ix10 eix10 => ?_)
        have tix10 : ix10.toInt = k.toInt + (-1) := t2_add eix10 rfl (by decide) (by first | omega | (have r90 := ti_rng k; have r91 := ti_rng ix10; have r92 := ti_rng x; have r93 := ti_rng n; omega))
        refine pb_eq (pc' := 36) (lo' := [(5, .int ix10), (3, .long jx9), (0, .ref h), (1, .int x), (2, .int n)]) (rest' := []) (ws' := [(h, .inr (10, [.ref m_rels, .ref m_openRels, .ref m_closeRels, .ref m_openRel, .ref m_closeRel, .ref m_comment, .ref m_ends, .ref m_order, .int v_thrown, .int v_taped, .ref m_tape, .ref m_count, .ref m_nameSize, .ref m_names, .ref m_size, .ref m_data, .int v_lookedSize, .ref m_looked, .int v_fileSize, .ref m_file, .int v_directorySize, .ref m_directory, .int v_outSize, .ref m_out, .int v_rowSize, .ref m_row, .int v_bitAt, .int v_bitEnd, .int v_why, .int v_madeSize, .ref m_made, .ref m_length, .int v_firstCount, .int v_secondCount, .int v_heldBits, .int v_heldCount, .int v_pressedSize, .ref m_pressed, .int v_at, .int v_bad, .int v_markSize, .ref m_mark, .int v_relationCount, .ref m_idSize, .ref m_ids, .ref m_goalSize, .ref m_goals, .int v_valueSize, .ref m_value, .int v_faultCount, .ref m_faults, .ref m_reached])), (m_row, .inl (G.2.1, 20000, .inl a_row))]) ?_
        refine pb_goto (pc := 36) (tgt := 7) d_Mod_at_36 (by decide) ?_
        exact ih7 ix10 jx9 (by first | (with_reducible assumption) | omega (splitDisjunctions := false) | assumption | omega | decide) (by first | (with_reducible assumption) | omega (splitDisjunctions := false) | assumption | omega | decide) (by rw [show n.toInt - ix10.toInt - 1 = n.toInt - k.toInt by omega, show x.toInt + ix10.toInt + 1 = x.toInt + k.toInt by omega, av_s (by omega) (by omega)]; omega) (by (exact omg_2466cfbdcf hm9 twx3 tix10))
  exact hL7_2 _ ix1 0 (by first | (with_reducible assumption) | omega (splitDisjunctions := false) | assumption | omega | decide) (by first | (with_reducible assumption) | omega (splitDisjunctions := false) | assumption | omega | decide) (by rw [show (n.toInt - ix1.toInt - 1).toNat = 0 by omega]; rfl) (Nat.lt_succ_self _)

theorem d_Mod_directoryFault_0 : decode prog_12_method_55_code 0 = .ok (.aload_n 0, 1) := by decide +kernel
theorem d_Mod_directoryFault_1 : decode prog_12_method_55_code 1 = .ok (.getfield 260, 3) := by decide +kernel
theorem d_Mod_directoryFault_4 : decode prog_12_method_55_code 4 = .ok (.bipush 22, 2) := by decide +kernel
theorem d_Mod_directoryFault_6 : decode prog_12_method_55_code 6 = .ok (.isub, 1) := by decide +kernel
theorem d_Mod_directoryFault_7 : decode prog_12_method_55_code 7 = .ok (.istore_n 1, 1) := by decide +kernel
theorem d_Mod_directoryFault_8 : decode prog_12_method_55_code 8 = .ok (.iload_n 1, 1) := by decide +kernel
theorem d_Mod_directoryFault_9 : decode prog_12_method_55_code 9 = .ok (.ifCond .lt 65, 3) := by decide +kernel
theorem d_Mod_directoryFault_74 : decode prog_12_method_55_code 74 = .ok (.iconst 1, 1) := by decide +kernel
theorem d_Mod_directoryFault_75 : decode prog_12_method_55_code 75 = .ok (.ireturn, 1) := by decide +kernel
theorem d_Mod_directoryFault_12 : decode prog_12_method_55_code 12 = .ok (.aload_n 0, 1) := by decide +kernel
theorem d_Mod_directoryFault_13 : decode prog_12_method_55_code 13 = .ok (.iload_n 1, 1) := by decide +kernel
theorem d_Mod_directoryFault_14 : decode prog_12_method_55_code 14 = .ok (.iconst 4, 1) := by decide +kernel
theorem d_Mod_directoryFault_15 : decode prog_12_method_55_code 15 = .ok (.invokevirtual 299, 3) := by decide +kernel
theorem k_1526 : (Jvm.Cond.methodLink "PackageBookModel" (299 : Nat) ({ cls := "PackageBookModel", name := "at", desc := "(II)J" } : Jvm.MethodName)) ∈ uW := uW_of 1526 (by decide +kernel) (by decide +kernel)
theorem k_1529 : (Jvm.Cond.code ({ cls := "PackageBookModel", name := "at", desc := "(II)J" } : Jvm.MethodName) prog_12_method_54_code (6 : Nat) (Option.some Jvm.ClassFile.FieldType.long)) ∈ uW := uW_of 1529 (by decide +kernel) (by decide +kernel)
theorem k_1528 : (Jvm.Cond.instanceMethod ({ cls := "PackageBookModel", name := "at", desc := "(II)J" } : Jvm.MethodName)) ∈ uW := uW_of 1528 (by decide +kernel) (by decide +kernel)
theorem k_88 : Cond.selects "PackageBookModel" ⟨"PackageBookModel", "at", "(II)J"⟩ ⟨"PackageBookModel", "at", "(II)J"⟩ ∈ uW := uW_of 88 (by decide +kernel) (by decide +kernel)
theorem hy_Mod_at : (y_Mod_at).cls ≠ "java/lang/invoke/MethodHandle" ∧ (y_Mod_at).cls ≠ "java/lang/invoke/VarHandle" ∧ (parseMethodDescriptor (y_Mod_at).desc).map (fun d => d.parameters.length) = some 2 := by decide +kernel
theorem d_Mod_directoryFault_18 : decode prog_12_method_55_code 18 = .ok (.ldc2_w 295, 3) := by decide +kernel
theorem d_Mod_directoryFault_21 : decode prog_12_method_55_code 21 = .ok (.lcmp, 1) := by decide +kernel
theorem d_Mod_directoryFault_22 : decode prog_12_method_55_code 22 = .ok (.ifCond .ne 52, 3) := by decide +kernel
theorem d_Mod_directoryFault_25 : decode prog_12_method_55_code 25 = .ok (.aload_n 0, 1) := by decide +kernel
theorem d_Mod_directoryFault_26 : decode prog_12_method_55_code 26 = .ok (.iload_n 1, 1) := by decide +kernel
theorem d_Mod_directoryFault_27 : decode prog_12_method_55_code 27 = .ok (.iconst 4, 1) := by decide +kernel
theorem d_Mod_directoryFault_28 : decode prog_12_method_55_code 28 = .ok (.iadd, 1) := by decide +kernel
theorem d_Mod_directoryFault_29 : decode prog_12_method_55_code 29 = .ok (.iconst 4, 1) := by decide +kernel
theorem d_Mod_directoryFault_30 : decode prog_12_method_55_code 30 = .ok (.invokevirtual 299, 3) := by decide +kernel
theorem d_Mod_directoryFault_33 : decode prog_12_method_55_code 33 = .ok (.lconst 0, 1) := by decide +kernel
theorem d_Mod_directoryFault_34 : decode prog_12_method_55_code 34 = .ok (.lcmp, 1) := by decide +kernel
theorem d_Mod_directoryFault_35 : decode prog_12_method_55_code 35 = .ok (.ifCond .ne 39, 3) := by decide +kernel
theorem d_Mod_directoryFault_38 : decode prog_12_method_55_code 38 = .ok (.aload_n 0, 1) := by decide +kernel
theorem d_Mod_directoryFault_39 : decode prog_12_method_55_code 39 = .ok (.iload_n 1, 1) := by decide +kernel
theorem d_Mod_directoryFault_40 : decode prog_12_method_55_code 40 = .ok (.bipush 8, 2) := by decide +kernel
theorem d_Mod_directoryFault_42 : decode prog_12_method_55_code 42 = .ok (.iadd, 1) := by decide +kernel
theorem d_Mod_directoryFault_43 : decode prog_12_method_55_code 43 = .ok (.iconst 2, 1) := by decide +kernel
theorem d_Mod_directoryFault_44 : decode prog_12_method_55_code 44 = .ok (.invokevirtual 299, 3) := by decide +kernel
theorem d_Mod_directoryFault_47 : decode prog_12_method_55_code 47 = .ok (.aload_n 0, 1) := by decide +kernel
theorem d_Mod_directoryFault_48 : decode prog_12_method_55_code 48 = .ok (.iload_n 1, 1) := by decide +kernel
theorem d_Mod_directoryFault_49 : decode prog_12_method_55_code 49 = .ok (.bipush 10, 2) := by decide +kernel
theorem d_Mod_directoryFault_51 : decode prog_12_method_55_code 51 = .ok (.iadd, 1) := by decide +kernel
theorem d_Mod_directoryFault_52 : decode prog_12_method_55_code 52 = .ok (.iconst 2, 1) := by decide +kernel
theorem d_Mod_directoryFault_53 : decode prog_12_method_55_code 53 = .ok (.invokevirtual 299, 3) := by decide +kernel
theorem d_Mod_directoryFault_56 : decode prog_12_method_55_code 56 = .ok (.lcmp, 1) := by decide +kernel
theorem d_Mod_directoryFault_57 : decode prog_12_method_55_code 57 = .ok (.ifCond .ne 17, 3) := by decide +kernel
theorem d_Mod_directoryFault_60 : decode prog_12_method_55_code 60 = .ok (.aload_n 0, 1) := by decide +kernel
theorem d_Mod_directoryFault_61 : decode prog_12_method_55_code 61 = .ok (.iload_n 1, 1) := by decide +kernel
theorem d_Mod_directoryFault_62 : decode prog_12_method_55_code 62 = .ok (.bipush 20, 2) := by decide +kernel
theorem d_Mod_directoryFault_64 : decode prog_12_method_55_code 64 = .ok (.iadd, 1) := by decide +kernel
theorem d_Mod_directoryFault_65 : decode prog_12_method_55_code 65 = .ok (.iconst 2, 1) := by decide +kernel
theorem d_Mod_directoryFault_66 : decode prog_12_method_55_code 66 = .ok (.invokevirtual 299, 3) := by decide +kernel
theorem d_Mod_directoryFault_69 : decode prog_12_method_55_code 69 = .ok (.lconst 0, 1) := by decide +kernel
theorem d_Mod_directoryFault_70 : decode prog_12_method_55_code 70 = .ok (.lcmp, 1) := by decide +kernel
theorem d_Mod_directoryFault_71 : decode prog_12_method_55_code 71 = .ok (.ifCond .eq 5, 3) := by decide +kernel
theorem d_Mod_directoryFault_76 : decode prog_12_method_55_code 76 = .ok (.aload_n 0, 1) := by decide +kernel
theorem d_Mod_directoryFault_77 : decode prog_12_method_55_code 77 = .ok (.iload_n 1, 1) := by decide +kernel
theorem d_Mod_directoryFault_78 : decode prog_12_method_55_code 78 = .ok (.bipush 16, 2) := by decide +kernel
theorem d_Mod_directoryFault_80 : decode prog_12_method_55_code 80 = .ok (.iadd, 1) := by decide +kernel
theorem d_Mod_directoryFault_81 : decode prog_12_method_55_code 81 = .ok (.iconst 4, 1) := by decide +kernel
theorem d_Mod_directoryFault_82 : decode prog_12_method_55_code 82 = .ok (.invokevirtual 299, 3) := by decide +kernel
theorem d_Mod_directoryFault_85 : decode prog_12_method_55_code 85 = .ok (.lstore_n 2, 1) := by decide +kernel
theorem d_Mod_directoryFault_86 : decode prog_12_method_55_code 86 = .ok (.lload_n 2, 1) := by decide +kernel
theorem d_Mod_directoryFault_87 : decode prog_12_method_55_code 87 = .ok (.aload_n 0, 1) := by decide +kernel
theorem d_Mod_directoryFault_88 : decode prog_12_method_55_code 88 = .ok (.iload_n 1, 1) := by decide +kernel
theorem d_Mod_directoryFault_89 : decode prog_12_method_55_code 89 = .ok (.bipush 12, 2) := by decide +kernel
theorem d_Mod_directoryFault_91 : decode prog_12_method_55_code 91 = .ok (.iadd, 1) := by decide +kernel
theorem d_Mod_directoryFault_92 : decode prog_12_method_55_code 92 = .ok (.iconst 4, 1) := by decide +kernel
theorem d_Mod_directoryFault_93 : decode prog_12_method_55_code 93 = .ok (.invokevirtual 299, 3) := by decide +kernel
theorem d_Mod_directoryFault_96 : decode prog_12_method_55_code 96 = .ok (.ladd, 1) := by decide +kernel
theorem d_Mod_directoryFault_97 : decode prog_12_method_55_code 97 = .ok (.iload_n 1, 1) := by decide +kernel
theorem d_Mod_directoryFault_98 : decode prog_12_method_55_code 98 = .ok (.i2l, 1) := by decide +kernel
theorem d_Mod_directoryFault_99 : decode prog_12_method_55_code 99 = .ok (.lcmp, 1) := by decide +kernel
theorem d_Mod_directoryFault_100 : decode prog_12_method_55_code 100 = .ok (.ifCond .eq 5, 3) := by decide +kernel
theorem d_Mod_directoryFault_105 : decode prog_12_method_55_code 105 = .ok (.aload_n 0, 1) := by decide +kernel
theorem d_Mod_directoryFault_106 : decode prog_12_method_55_code 106 = .ok (.iload_n 1, 1) := by decide +kernel
theorem d_Mod_directoryFault_107 : decode prog_12_method_55_code 107 = .ok (.bipush 8, 2) := by decide +kernel
theorem d_Mod_directoryFault_109 : decode prog_12_method_55_code 109 = .ok (.iadd, 1) := by decide +kernel
theorem d_Mod_directoryFault_110 : decode prog_12_method_55_code 110 = .ok (.iconst 2, 1) := by decide +kernel
theorem d_Mod_directoryFault_111 : decode prog_12_method_55_code 111 = .ok (.invokevirtual 299, 3) := by decide +kernel
theorem d_Mod_directoryFault_114 : decode prog_12_method_55_code 114 = .ok (.lstore 4, 2) := by decide +kernel
theorem d_Mod_directoryFault_116 : decode prog_12_method_55_code 116 = .ok (.lconst 0, 1) := by decide +kernel
theorem d_Mod_directoryFault_117 : decode prog_12_method_55_code 117 = .ok (.lstore 6, 2) := by decide +kernel
theorem d_Mod_directoryFault_119 : decode prog_12_method_55_code 119 = .ok (.lload 6, 2) := by decide +kernel
theorem d_Mod_directoryFault_121 : decode prog_12_method_55_code 121 = .ok (.lload 4, 2) := by decide +kernel
theorem d_Mod_directoryFault_123 : decode prog_12_method_55_code 123 = .ok (.lcmp, 1) := by decide +kernel
theorem d_Mod_directoryFault_124 : decode prog_12_method_55_code 124 = .ok (.ifCond .ge 182, 3) := by decide +kernel
theorem d_Mod_directoryFault_306 : decode prog_12_method_55_code 306 = .ok (.lload_n 2, 1) := by decide +kernel
theorem d_Mod_directoryFault_307 : decode prog_12_method_55_code 307 = .ok (.iload_n 1, 1) := by decide +kernel
theorem d_Mod_directoryFault_308 : decode prog_12_method_55_code 308 = .ok (.i2l, 1) := by decide +kernel
theorem d_Mod_directoryFault_309 : decode prog_12_method_55_code 309 = .ok (.lcmp, 1) := by decide +kernel
theorem d_Mod_directoryFault_310 : decode prog_12_method_55_code 310 = .ok (.ifCond .ne 7, 3) := by decide +kernel
theorem d_Mod_directoryFault_317 : decode prog_12_method_55_code 317 = .ok (.iconst 2, 1) := by decide +kernel
theorem d_Mod_directoryFault_318 : decode prog_12_method_55_code 318 = .ok (.ireturn, 1) := by decide +kernel
theorem d_Mod_directoryFault_313 : decode prog_12_method_55_code 313 = .ok (.iconst 0, 1) := by decide +kernel
theorem d_Mod_directoryFault_314 : decode prog_12_method_55_code 314 = .ok (.goto 4, 3) := by decide +kernel
theorem d_Mod_directoryFault_127 : decode prog_12_method_55_code 127 = .ok (.lload_n 2, 1) := by decide +kernel
theorem d_Mod_directoryFault_128 : decode prog_12_method_55_code 128 = .ok (.ldc2_w 303, 3) := by decide +kernel
theorem k_1531 : (Jvm.Cond.constantLong "PackageBookModel" (303 : Nat) (46 : Int64)) ∈ uW := uW_of 1531 (by decide +kernel) (by decide +kernel)
theorem d_Mod_directoryFault_131 : decode prog_12_method_55_code 131 = .ok (.ladd, 1) := by decide +kernel
theorem d_Mod_directoryFault_132 : decode prog_12_method_55_code 132 = .ok (.iload_n 1, 1) := by decide +kernel
theorem d_Mod_directoryFault_133 : decode prog_12_method_55_code 133 = .ok (.i2l, 1) := by decide +kernel
theorem d_Mod_directoryFault_134 : decode prog_12_method_55_code 134 = .ok (.lcmp, 1) := by decide +kernel
theorem d_Mod_directoryFault_135 : decode prog_12_method_55_code 135 = .ok (.ifCond .le 5, 3) := by decide +kernel
theorem d_Mod_directoryFault_140 : decode prog_12_method_55_code 140 = .ok (.lload_n 2, 1) := by decide +kernel
theorem d_Mod_directoryFault_141 : decode prog_12_method_55_code 141 = .ok (.l2i, 1) := by decide +kernel
theorem d_Mod_directoryFault_142 : decode prog_12_method_55_code 142 = .ok (.istore 8, 2) := by decide +kernel
theorem d_Mod_directoryFault_228 : decode prog_12_method_55_code 228 = .ok (.iload 9, 2) := by decide +kernel
theorem d_Mod_directoryFault_230 : decode prog_12_method_55_code 230 = .ok (.ifCond .eq 48, 3) := by decide +kernel
theorem d_Mod_directoryFault_278 : decode prog_12_method_55_code 278 = .ok (.iconst 2, 1) := by decide +kernel
theorem d_Mod_directoryFault_279 : decode prog_12_method_55_code 279 = .ok (.ireturn, 1) := by decide +kernel
theorem d_Mod_directoryFault_233 : decode prog_12_method_55_code 233 = .ok (.aload_n 0, 1) := by decide +kernel
theorem d_Mod_directoryFault_234 : decode prog_12_method_55_code 234 = .ok (.iload 8, 2) := by decide +kernel
theorem d_Mod_directoryFault_236 : decode prog_12_method_55_code 236 = .ok (.bipush 30, 2) := by decide +kernel
theorem d_Mod_directoryFault_238 : decode prog_12_method_55_code 238 = .ok (.iadd, 1) := by decide +kernel
theorem d_Mod_directoryFault_239 : decode prog_12_method_55_code 239 = .ok (.iconst 4, 1) := by decide +kernel
theorem d_Mod_directoryFault_240 : decode prog_12_method_55_code 240 = .ok (.invokevirtual 299, 3) := by decide +kernel
theorem d_Mod_directoryFault_243 : decode prog_12_method_55_code 243 = .ok (.lconst 0, 1) := by decide +kernel
theorem d_Mod_directoryFault_244 : decode prog_12_method_55_code 244 = .ok (.lcmp, 1) := by decide +kernel
theorem d_Mod_directoryFault_245 : decode prog_12_method_55_code 245 = .ok (.ifCond .ne 33, 3) := by decide +kernel
theorem d_Mod_directoryFault_248 : decode prog_12_method_55_code 248 = .ok (.aload_n 0, 1) := by decide +kernel
theorem d_Mod_directoryFault_249 : decode prog_12_method_55_code 249 = .ok (.iload 8, 2) := by decide +kernel
theorem d_Mod_directoryFault_251 : decode prog_12_method_55_code 251 = .ok (.bipush 34, 2) := by decide +kernel
theorem d_Mod_directoryFault_253 : decode prog_12_method_55_code 253 = .ok (.iadd, 1) := by decide +kernel
theorem d_Mod_directoryFault_254 : decode prog_12_method_55_code 254 = .ok (.iconst 4, 1) := by decide +kernel
theorem d_Mod_directoryFault_255 : decode prog_12_method_55_code 255 = .ok (.invokevirtual 299, 3) := by decide +kernel
theorem d_Mod_directoryFault_258 : decode prog_12_method_55_code 258 = .ok (.lconst 0, 1) := by decide +kernel
theorem d_Mod_directoryFault_259 : decode prog_12_method_55_code 259 = .ok (.lcmp, 1) := by decide +kernel
theorem d_Mod_directoryFault_260 : decode prog_12_method_55_code 260 = .ok (.ifCond .ne 18, 3) := by decide +kernel
theorem d_Mod_directoryFault_263 : decode prog_12_method_55_code 263 = .ok (.aload_n 0, 1) := by decide +kernel
theorem d_Mod_directoryFault_264 : decode prog_12_method_55_code 264 = .ok (.iload 8, 2) := by decide +kernel
theorem d_Mod_directoryFault_266 : decode prog_12_method_55_code 266 = .ok (.bipush 38, 2) := by decide +kernel
theorem d_Mod_directoryFault_268 : decode prog_12_method_55_code 268 = .ok (.iadd, 1) := by decide +kernel
theorem d_Mod_directoryFault_269 : decode prog_12_method_55_code 269 = .ok (.iconst 4, 1) := by decide +kernel
theorem d_Mod_directoryFault_270 : decode prog_12_method_55_code 270 = .ok (.invokevirtual 299, 3) := by decide +kernel
theorem d_Mod_directoryFault_273 : decode prog_12_method_55_code 273 = .ok (.lconst 0, 1) := by decide +kernel
theorem d_Mod_directoryFault_274 : decode prog_12_method_55_code 274 = .ok (.lcmp, 1) := by decide +kernel
theorem d_Mod_directoryFault_275 : decode prog_12_method_55_code 275 = .ok (.ifCond .eq 5, 3) := by decide +kernel
theorem d_Mod_directoryFault_280 : decode prog_12_method_55_code 280 = .ok (.lload_n 2, 1) := by decide +kernel
theorem d_Mod_directoryFault_281 : decode prog_12_method_55_code 281 = .ok (.ldc2_w 303, 3) := by decide +kernel
theorem d_Mod_directoryFault_284 : decode prog_12_method_55_code 284 = .ok (.ladd, 1) := by decide +kernel
theorem d_Mod_directoryFault_285 : decode prog_12_method_55_code 285 = .ok (.aload_n 0, 1) := by decide +kernel
theorem d_Mod_directoryFault_286 : decode prog_12_method_55_code 286 = .ok (.iload 8, 2) := by decide +kernel
theorem d_Mod_directoryFault_288 : decode prog_12_method_55_code 288 = .ok (.bipush 28, 2) := by decide +kernel
theorem d_Mod_directoryFault_290 : decode prog_12_method_55_code 290 = .ok (.iadd, 1) := by decide +kernel
theorem d_Mod_directoryFault_291 : decode prog_12_method_55_code 291 = .ok (.iconst 2, 1) := by decide +kernel
theorem d_Mod_directoryFault_292 : decode prog_12_method_55_code 292 = .ok (.invokevirtual 299, 3) := by decide +kernel
theorem d_Mod_directoryFault_295 : decode prog_12_method_55_code 295 = .ok (.ladd, 1) := by decide +kernel
theorem d_Mod_directoryFault_296 : decode prog_12_method_55_code 296 = .ok (.lstore_n 2, 1) := by decide +kernel
theorem d_Mod_directoryFault_297 : decode prog_12_method_55_code 297 = .ok (.lload 6, 2) := by decide +kernel
theorem d_Mod_directoryFault_299 : decode prog_12_method_55_code 299 = .ok (.lconst 1, 1) := by decide +kernel
theorem d_Mod_directoryFault_300 : decode prog_12_method_55_code 300 = .ok (.ladd, 1) := by decide +kernel
theorem d_Mod_directoryFault_301 : decode prog_12_method_55_code 301 = .ok (.lstore 6, 2) := by decide +kernel
theorem d_Mod_directoryFault_303 : decode prog_12_method_55_code 303 = .ok (.goto (-184), 3) := by decide +kernel
theorem d_Mod_directoryFault_144 : decode prog_12_method_55_code 144 = .ok (.aload_n 0, 1) := by decide +kernel
theorem d_Mod_directoryFault_145 : decode prog_12_method_55_code 145 = .ok (.iload 8, 2) := by decide +kernel
theorem d_Mod_directoryFault_147 : decode prog_12_method_55_code 147 = .ok (.iconst 4, 1) := by decide +kernel
theorem d_Mod_directoryFault_148 : decode prog_12_method_55_code 148 = .ok (.invokevirtual 299, 3) := by decide +kernel
theorem d_Mod_directoryFault_151 : decode prog_12_method_55_code 151 = .ok (.ldc2_w 287, 3) := by decide +kernel
theorem d_Mod_directoryFault_154 : decode prog_12_method_55_code 154 = .ok (.lcmp, 1) := by decide +kernel
theorem d_Mod_directoryFault_155 : decode prog_12_method_55_code 155 = .ok (.ifCond .ne 70, 3) := by decide +kernel
theorem d_Mod_directoryFault_225 : decode prog_12_method_55_code 225 = .ok (.iconst 0, 1) := by decide +kernel
theorem d_Mod_directoryFault_226 : decode prog_12_method_55_code 226 = .ok (.istore 9, 2) := by decide +kernel
theorem d_Mod_directoryFault_158 : decode prog_12_method_55_code 158 = .ok (.aload_n 0, 1) := by decide +kernel
theorem d_Mod_directoryFault_159 : decode prog_12_method_55_code 159 = .ok (.iload 8, 2) := by decide +kernel
theorem d_Mod_directoryFault_161 : decode prog_12_method_55_code 161 = .ok (.iconst 4, 1) := by decide +kernel
theorem d_Mod_directoryFault_162 : decode prog_12_method_55_code 162 = .ok (.iadd, 1) := by decide +kernel
theorem d_Mod_directoryFault_163 : decode prog_12_method_55_code 163 = .ok (.iconst 4, 1) := by decide +kernel
theorem d_Mod_directoryFault_164 : decode prog_12_method_55_code 164 = .ok (.invokevirtual 299, 3) := by decide +kernel
theorem d_Mod_directoryFault_167 : decode prog_12_method_55_code 167 = .ok (.ldc2_w 305, 3) := by decide +kernel
theorem k_1532 : (Jvm.Cond.constantLong "PackageBookModel" (305 : Nat) (1310740 : Int64)) ∈ uW := uW_of 1532 (by decide +kernel) (by decide +kernel)
theorem d_Mod_directoryFault_170 : decode prog_12_method_55_code 170 = .ok (.lcmp, 1) := by decide +kernel
theorem d_Mod_directoryFault_171 : decode prog_12_method_55_code 171 = .ok (.ifCond .ne 54, 3) := by decide +kernel
theorem d_Mod_directoryFault_174 : decode prog_12_method_55_code 174 = .ok (.aload_n 0, 1) := by decide +kernel
theorem d_Mod_directoryFault_175 : decode prog_12_method_55_code 175 = .ok (.iload 8, 2) := by decide +kernel
theorem d_Mod_directoryFault_177 : decode prog_12_method_55_code 177 = .ok (.bipush 8, 2) := by decide +kernel
theorem d_Mod_directoryFault_179 : decode prog_12_method_55_code 179 = .ok (.iadd, 1) := by decide +kernel
theorem d_Mod_directoryFault_180 : decode prog_12_method_55_code 180 = .ok (.iconst 2, 1) := by decide +kernel
theorem d_Mod_directoryFault_181 : decode prog_12_method_55_code 181 = .ok (.invokevirtual 299, 3) := by decide +kernel
theorem d_Mod_directoryFault_184 : decode prog_12_method_55_code 184 = .ok (.lconst 0, 1) := by decide +kernel
theorem d_Mod_directoryFault_185 : decode prog_12_method_55_code 185 = .ok (.lcmp, 1) := by decide +kernel
theorem d_Mod_directoryFault_186 : decode prog_12_method_55_code 186 = .ok (.ifCond .ne 39, 3) := by decide +kernel
theorem d_Mod_directoryFault_189 : decode prog_12_method_55_code 189 = .ok (.aload_n 0, 1) := by decide +kernel
theorem d_Mod_directoryFault_190 : decode prog_12_method_55_code 190 = .ok (.iload 8, 2) := by decide +kernel
theorem d_Mod_directoryFault_192 : decode prog_12_method_55_code 192 = .ok (.bipush 10, 2) := by decide +kernel
theorem d_Mod_directoryFault_194 : decode prog_12_method_55_code 194 = .ok (.iadd, 1) := by decide +kernel
theorem d_Mod_directoryFault_195 : decode prog_12_method_55_code 195 = .ok (.iconst 2, 1) := by decide +kernel
theorem d_Mod_directoryFault_196 : decode prog_12_method_55_code 196 = .ok (.invokevirtual 299, 3) := by decide +kernel
theorem d_Mod_directoryFault_199 : decode prog_12_method_55_code 199 = .ok (.lconst 0, 1) := by decide +kernel
theorem d_Mod_directoryFault_200 : decode prog_12_method_55_code 200 = .ok (.lcmp, 1) := by decide +kernel
theorem d_Mod_directoryFault_201 : decode prog_12_method_55_code 201 = .ok (.ifCond .eq 20, 3) := by decide +kernel
theorem d_Mod_directoryFault_221 : decode prog_12_method_55_code 221 = .ok (.iconst 1, 1) := by decide +kernel
theorem d_Mod_directoryFault_222 : decode prog_12_method_55_code 222 = .ok (.goto 4, 3) := by decide +kernel
theorem d_Mod_directoryFault_204 : decode prog_12_method_55_code 204 = .ok (.aload_n 0, 1) := by decide +kernel
theorem d_Mod_directoryFault_205 : decode prog_12_method_55_code 205 = .ok (.iload 8, 2) := by decide +kernel
theorem d_Mod_directoryFault_207 : decode prog_12_method_55_code 207 = .ok (.bipush 10, 2) := by decide +kernel
theorem d_Mod_directoryFault_209 : decode prog_12_method_55_code 209 = .ok (.iadd, 1) := by decide +kernel
theorem d_Mod_directoryFault_210 : decode prog_12_method_55_code 210 = .ok (.iconst 2, 1) := by decide +kernel
theorem d_Mod_directoryFault_211 : decode prog_12_method_55_code 211 = .ok (.invokevirtual 299, 3) := by decide +kernel
theorem d_Mod_directoryFault_214 : decode prog_12_method_55_code 214 = .ok (.ldc2_w 283, 3) := by decide +kernel
theorem d_Mod_directoryFault_217 : decode prog_12_method_55_code 217 = .ok (.lcmp, 1) := by decide +kernel
theorem d_Mod_directoryFault_218 : decode prog_12_method_55_code 218 = .ok (.ifCond .ne 7, 3) := by decide +kernel
theorem d_Mod_directoryFault_138 : decode prog_12_method_55_code 138 = .ok (.iconst 2, 1) := by decide +kernel
theorem d_Mod_directoryFault_139 : decode prog_12_method_55_code 139 = .ok (.ireturn, 1) := by decide +kernel
theorem d_Mod_directoryFault_103 : decode prog_12_method_55_code 103 = .ok (.iconst 2, 1) := by decide +kernel
theorem d_Mod_directoryFault_104 : decode prog_12_method_55_code 104 = .ok (.ireturn, 1) := by decide +kernel
abbrev y_Mod_directoryFault : MethodName := ⟨"PackageBookModel", "directoryFault", "()I"⟩
abbrev i_Mod_directoryFault : pb_I := (y_Mod_directoryFault, prog_12_method_55_code, 10, (some Jvm.ClassFile.FieldType.int), [], { frames := 1, cells := 0, slots := 0, locals := 25 })
set_option maxRecDepth 100000 in
set_option maxHeartbeats 4000000 in
theorem g_Mod_directoryFault {l : Launch} (hl : l.stackTraces = false) (G : pb_G) (h : Nat) (m_rels : Nat) (m_openRels : Nat) (m_closeRels : Nat) (m_openRel : Nat) (m_closeRel : Nat) (m_comment : Nat) (m_ends : Nat) (m_order : Nat) (m_tape : Nat) (m_count : Nat) (m_nameSize : Nat) (m_names : Nat) (m_size : Nat) (m_data : Nat) (m_looked : Nat) (m_file : Nat) (m_directory : Nat) (m_out : Nat) (m_row : Nat) (m_made : Nat) (m_length : Nat) (m_pressed : Nat) (m_mark : Nat) (m_idSize : Nat) (m_ids : Nat) (m_goalSize : Nat) (m_goals : Nat) (m_value : Nat) (m_faults : Nat) (m_reached : Nat) (v_thrown : Int32) (v_taped : Int32) (v_lookedSize : Int32) (v_fileSize : Int32) (v_directorySize : Int32) (v_outSize : Int32) (v_rowSize : Int32) (v_bitAt : Int32) (v_bitEnd : Int32) (v_why : Int32) (v_madeSize : Int32) (v_firstCount : Int32) (v_secondCount : Int32) (v_heldBits : Int32) (v_heldCount : Int32) (v_pressedSize : Int32) (v_at : Int32) (v_bad : Int32) (v_markSize : Int32) (v_relationCount : Int32) (v_valueSize : Int32) (v_faultCount : Int32) (a_row : Nat → Int32) (A : Int → Int32) (h0 : 0 ≤ v_rowSize.toInt) (h1 : v_rowSize.toInt ≤ 20000) (hA : ∀ j : Int, 0 ≤ j → j < v_rowSize.toInt → A j = gr a_row j) (F_a_row : sb_Fit a_row) : Cn l G i_Mod_directoryFault [.ref h] [(h, .inr (10, [.ref m_rels, .ref m_openRels, .ref m_closeRels, .ref m_openRel, .ref m_closeRel, .ref m_comment, .ref m_ends, .ref m_order, .int v_thrown, .int v_taped, .ref m_tape, .ref m_count, .ref m_nameSize, .ref m_names, .ref m_size, .ref m_data, .int v_lookedSize, .ref m_looked, .int v_fileSize, .ref m_file, .int v_directorySize, .ref m_directory, .int v_outSize, .ref m_out, .int v_rowSize, .ref m_row, .int v_bitAt, .int v_bitEnd, .int v_why, .int v_madeSize, .ref m_made, .ref m_length, .int v_firstCount, .int v_secondCount, .int v_heldBits, .int v_heldCount, .int v_pressedSize, .ref m_pressed, .int v_at, .int v_bad, .int v_markSize, .ref m_mark, .int v_relationCount, .ref m_idSize, .ref m_ids, .ref m_goalSize, .ref m_goals, .int v_valueSize, .ref m_value, .int v_faultCount, .ref m_faults, .ref m_reached])), (m_row, .inl (G.2.1, 20000, .inl a_row))] (S := Int32) (fun rv_ u => rv_ = some (.int u) ∧ (0 ≤ u.toInt) ∧ (u.toInt = 0 → 22 ≤ v_rowSize.toInt ∧ dq_ok a_row (av a_row (v_rowSize.toInt - 6) 4) (v_rowSize.toInt - 22)) ∧ ((u.toInt = 1 ∧ ¬ (22 ≤ v_rowSize.toInt ∧ ed_ A (v_rowSize.toInt - 22))) ∨ (u.toInt = 2 ∧ (22 ≤ v_rowSize.toInt ∧ ed_ A (v_rowSize.toInt - 22)) ∧ ¬ dw_ A (v_rowSize.toInt - 22)) ∨ (u.toInt = 0 ∧ (22 ≤ v_rowSize.toInt ∧ ed_ A (v_rowSize.toInt - 22)) ∧ dw_ A (v_rowSize.toInt - 22)))) (fun u => [(h, .inr (10, [.ref m_rels, .ref m_openRels, .ref m_closeRels, .ref m_openRel, .ref m_closeRel, .ref m_comment, .ref m_ends, .ref m_order, .int v_thrown, .int v_taped, .ref m_tape, .ref m_count, .ref m_nameSize, .ref m_names, .ref m_size, .ref m_data, .int v_lookedSize, .ref m_looked, .int v_fileSize, .ref m_file, .int v_directorySize, .ref m_directory, .int v_outSize, .ref m_out, .int v_rowSize, .ref m_row, .int v_bitAt, .int v_bitEnd, .int v_why, .int v_madeSize, .ref m_made, .ref m_length, .int v_firstCount, .int v_secondCount, .int v_heldBits, .int v_heldCount, .int v_pressedSize, .ref m_pressed, .int v_at, .int v_bad, .int v_markSize, .ref m_mark, .int v_relationCount, .ref m_idSize, .ref m_ids, .ref m_goalSize, .ref m_goals, .int v_valueSize, .ref m_value, .int v_faultCount, .ref m_faults, .ref m_reached])), (m_row, .inl (G.2.1, 20000, .inl a_row))]) := by
  refine Cn.of hl (by decide +kernel) rfl (Nat.le_of_ble_eq_true rfl) (fun M hQ => ?_)
  refine pb_eq (pc' := 0) (lo' := [(0, .ref h)]) (rest' := []) (ws' := [(h, .inr (10, [.ref m_rels, .ref m_openRels, .ref m_closeRels, .ref m_openRel, .ref m_closeRel, .ref m_comment, .ref m_ends, .ref m_order, .int v_thrown, .int v_taped, .ref m_tape, .ref m_count, .ref m_nameSize, .ref m_names, .ref m_size, .ref m_data, .int v_lookedSize, .ref m_looked, .int v_fileSize, .ref m_file, .int v_directorySize, .ref m_directory, .int v_outSize, .ref m_out, .int v_rowSize, .ref m_row, .int v_bitAt, .int v_bitEnd, .int v_why, .int v_madeSize, .ref m_made, .ref m_length, .int v_firstCount, .int v_secondCount, .int v_heldBits, .int v_heldCount, .int v_pressedSize, .ref m_pressed, .int v_at, .int v_bad, .int v_markSize, .ref m_mark, .int v_relationCount, .ref m_idSize, .ref m_ids, .ref m_goalSize, .ref m_goals, .int v_valueSize, .ref m_value, .int v_faultCount, .ref m_faults, .ref m_reached])), (m_row, .inl (G.2.1, 20000, .inl a_row))]) ?_
  have zl0 : (0 : Int32).toInt = 0 := by decide
  have zl1 : (1 : Int32).toInt = 1 := by decide
  have zl2 : (2 : Int32).toInt = 2 := by decide
  have zl4 : (4 : Int32).toInt = 4 := by decide
  have n4 : (4 : Int32).toInt.toNat = 4 := by decide
  have n2 : (2 : Int32).toInt.toNat = 2 := by decide
  refine pb_aload_n (pc := 0) d_Mod_directoryFault_0 0 rfl rfl ?_
  refine pb_get (pc := 1) d_Mod_directoryFault_1 0 24 rfl rfl (by decide) in_Mod k_1170 rfl ?_
  refine pb_bipush (pc := 4) (v := 22) d_Mod_directoryFault_4 (by decide) ?_
  refine pb_isub (pc := 6) d_Mod_directoryFault_6 ?_
  refine pb_topi (fun ix1 eix1 => ?_)
  try have tix1 : ix1.toInt = v_rowSize.toInt - 22 := t2_sub eix1 rfl (by decide) (by omega)
  refine pb_istore_n (pc := 7) (lo' := [(1, .int ix1), (0, .ref h)]) d_Mod_directoryFault_7 rfl (by decide) rfl ?_
  refine pb_iload_n (pc := 8) d_Mod_directoryFault_8 0 rfl rfl ?_
  refine pb_if_lt (pc := 9) (tgt := 74) d_Mod_directoryFault_9 (by decide) (fun wx2 => ?_) (fun wx2 => ?_)
  · have twx2 : ix1.toInt < 0 := (ti_lt rfl (by decide)).mp wx2
    refine pb_iconst (pc := 74) (v := 1) d_Mod_directoryFault_74 (by decide) ?_
    exact pb_iret (pc := 75) hQ d_Mod_directoryFault_75 rfl rfl (1) ⟨rfl, (by (try dsimp only); first | done | (with_reducible assumption) | omega (splitDisjunctions := false) | assumption | omega | decide), (show (1 : Int32).toInt = 0 → 22 ≤ v_rowSize.toInt ∧ dq_ok a_row (av a_row (v_rowSize.toInt - 6) 4) (v_rowSize.toInt - 22) from (by first | exact fun h9 => absurd h9 (by omega) | exact fun _ => ⟨by omega, by omega, by omega, k.toInt.toNat, by omega, fun j hj9 => by have q9 := hj j hj9; omega⟩)), (show ((1 : Int32).toInt = 1 ∧ ¬ (22 ≤ v_rowSize.toInt ∧ ed_ A (v_rowSize.toInt - 22))) ∨ ((1 : Int32).toInt = 2 ∧ (22 ≤ v_rowSize.toInt ∧ ed_ A (v_rowSize.toInt - 22)) ∧ ¬ dw_ A (v_rowSize.toInt - 22)) ∨ ((1 : Int32).toInt = 0 ∧ (22 ≤ v_rowSize.toInt ∧ ed_ A (v_rowSize.toInt - 22)) ∧ dw_ A (v_rowSize.toInt - 22)) from (Or.inl ⟨(by first | decide | omega), fun q9 => (by obtain ⟨q8, y1, y2, y3, y4⟩ := q9; omega)⟩))⟩ [0, 1] (by decide) rfl rfl (by decide) (by decide)
  · have twx2 : ¬ ix1.toInt < 0 := fun z9 => wx2 ((ti_lt rfl (by decide)).mpr z9)
    refine pb_aload_n (pc := 12) d_Mod_directoryFault_12 1 rfl rfl ?_
    refine pb_iload_n (pc := 13) d_Mod_directoryFault_13 0 rfl rfl ?_
    refine pb_iconst (pc := 14) (v := 4) d_Mod_directoryFault_14 (by decide) ?_
    refine pb_callV (pc := 15) (I := i_Mod_directoryFault) (qb := 0) (ci := 10) (nA := 2) (rest := []) (wr := []) d_Mod_directoryFault_15 (g_Mod_at hl G h m_rels m_openRels m_closeRels m_openRel m_closeRel m_comment m_ends m_order m_tape m_count m_nameSize m_names m_size m_data m_looked m_file m_directory m_out m_row m_made m_length m_pressed m_mark m_idSize m_ids m_goalSize m_goals m_value m_faults m_reached v_thrown v_taped v_lookedSize v_fileSize v_directorySize v_outSize v_rowSize v_bitAt v_bitEnd v_why v_madeSize v_firstCount v_secondCount v_heldBits v_heldCount v_pressedSize v_at v_bad v_markSize v_relationCount v_valueSize v_faultCount a_row ix1 4 (by first | (with_reducible assumption) | omega (splitDisjunctions := false) | assumption | omega | decide) (by first | (with_reducible assumption) | omega (splitDisjunctions := false) | assumption | omega | decide) (by first | (with_reducible assumption) | omega (splitDisjunctions := false) | assumption | omega | decide) (by first | (with_reducible assumption) | omega (splitDisjunctions := false) | assumption | omega | decide) F_a_row) rfl rfl [0, 1] [] (by decide) rfl rfl rfl (by decide) (by decide) k_1529 rfl k_128 k_1526 k_1528 k_88 ⟨rfl, hy_Mod_at⟩ (by decide) rfl rfl (Nat.le_of_ble_eq_true rfl) (by decide) (fun v9 ux4 ch3 => ?_)
    obtain ⟨r_5, rfl⟩ : ∃ z9, z9 = ux4 := ⟨_, rfl⟩
    obtain ⟨ech3, ch3⟩ := ch3
    have ech3 : v9 = some (.long r_5) := ech3
    subst ech3
    obtain ⟨fh6, fh7, fh8⟩ : (r_5.toInt = av a_row ix1.toInt (4 : Int32).toInt.toNat) ∧ (0 ≤ r_5.toInt) ∧ (r_5.toInt < 4294967296) := ch3
    have u0 : r_5.toInt = aw A (v_rowSize.toInt - 22) 4 := by rw [fh6, n4, show ix1.toInt = v_rowSize.toInt - 22 by omega]; exact av_A hA 4 (by omega) (by omega)
    refine pb_eq (pc' := 18) (lo' := [(1, .int ix1), (0, .ref h)]) (rest' := [.long r_5]) (ws' := [(h, .inr (10, [.ref m_rels, .ref m_openRels, .ref m_closeRels, .ref m_openRel, .ref m_closeRel, .ref m_comment, .ref m_ends, .ref m_order, .int v_thrown, .int v_taped, .ref m_tape, .ref m_count, .ref m_nameSize, .ref m_names, .ref m_size, .ref m_data, .int v_lookedSize, .ref m_looked, .int v_fileSize, .ref m_file, .int v_directorySize, .ref m_directory, .int v_outSize, .ref m_out, .int v_rowSize, .ref m_row, .int v_bitAt, .int v_bitEnd, .int v_why, .int v_madeSize, .ref m_made, .ref m_length, .int v_firstCount, .int v_secondCount, .int v_heldBits, .int v_heldCount, .int v_pressedSize, .ref m_pressed, .int v_at, .int v_bad, .int v_markSize, .ref m_mark, .int v_relationCount, .ref m_idSize, .ref m_ids, .ref m_goalSize, .ref m_goals, .int v_valueSize, .ref m_value, .int v_faultCount, .ref m_faults, .ref m_reached])), (m_row, .inl (G.2.1, 20000, .inl a_row))]) ?_
    refine pb_ldc2 (pc := 18) (v := 101010256) d_Mod_directoryFault_18 k_1509 ?_
    refine pb_lcmp (pc := 21) d_Mod_directoryFault_21 ?_
    refine pb_topi (fun ix9 eix9 => ?_)
    have tix9 : (ix9.toInt < 0 ↔ r_5.toInt < 101010256) ∧ (ix9.toInt = 0 ↔ r_5.toInt = 101010256) ∧ (0 < ix9.toInt ↔ 101010256 < r_5.toInt) := tl_cmp eix9 rfl (by decide)
    refine pb_if_ne (pc := 22) (tgt := 74) d_Mod_directoryFault_22 (by decide) (fun wx10 => ?_) (fun wx10 => ?_)
    · have twx10 : ¬ ix9.toInt = 0 := fun z9 => wx10 ((ti_eq rfl (by decide)).mpr z9)
      have lwx10 : ¬ r_5.toInt = 101010256 := fun z9 => twx10 (tix9.2.1.mpr z9)
      clear tix9 twx10
      refine pb_iconst (pc := 74) (v := 1) d_Mod_directoryFault_74 (by decide) ?_
      exact pb_iret (pc := 75) hQ d_Mod_directoryFault_75 rfl rfl (1) ⟨rfl, (by (try dsimp only); first | done | (with_reducible assumption) | omega (splitDisjunctions := false) | assumption | omega | decide), (show (1 : Int32).toInt = 0 → 22 ≤ v_rowSize.toInt ∧ dq_ok a_row (av a_row (v_rowSize.toInt - 6) 4) (v_rowSize.toInt - 22) from (by first | exact fun h9 => absurd h9 (by omega) | exact fun _ => ⟨by omega, by omega, by omega, k.toInt.toNat, by omega, fun j hj9 => by have q9 := hj j hj9; omega⟩)), (show ((1 : Int32).toInt = 1 ∧ ¬ (22 ≤ v_rowSize.toInt ∧ ed_ A (v_rowSize.toInt - 22))) ∨ ((1 : Int32).toInt = 2 ∧ (22 ≤ v_rowSize.toInt ∧ ed_ A (v_rowSize.toInt - 22)) ∧ ¬ dw_ A (v_rowSize.toInt - 22)) ∨ ((1 : Int32).toInt = 0 ∧ (22 ≤ v_rowSize.toInt ∧ ed_ A (v_rowSize.toInt - 22)) ∧ dw_ A (v_rowSize.toInt - 22)) from (Or.inl ⟨(by first | decide | omega), fun q9 => (by obtain ⟨q8, y1, y2, y3, y4⟩ := q9; omega)⟩))⟩ [0, 1] (by decide) rfl rfl (by decide) (by decide)
    · have twx10 : ix9.toInt = 0 := (ti_eq rfl (by decide)).mp wx10
      have lwx10 : r_5.toInt = 101010256 := tix9.2.1.mp twx10
      clear tix9 twx10
      refine pb_aload_n (pc := 25) d_Mod_directoryFault_25 1 rfl rfl ?_
      refine pb_iload_n (pc := 26) d_Mod_directoryFault_26 0 rfl rfl ?_
      refine pb_iconst (pc := 27) (v := 4) d_Mod_directoryFault_27 (by decide) ?_
      refine pb_iadd (pc := 28) d_Mod_directoryFault_28 ?_
      refine pb_topi (fun ix11 eix11 => ?_)
      try have tix11 : ix11.toInt = ix1.toInt + 4 := t2_add eix11 rfl (by decide) (by omega)
      refine pb_iconst (pc := 29) (v := 4) d_Mod_directoryFault_29 (by decide) ?_
      refine pb_callV (pc := 30) (I := i_Mod_directoryFault) (qb := 0) (ci := 10) (nA := 2) (rest := []) (wr := []) d_Mod_directoryFault_30 (g_Mod_at hl G h m_rels m_openRels m_closeRels m_openRel m_closeRel m_comment m_ends m_order m_tape m_count m_nameSize m_names m_size m_data m_looked m_file m_directory m_out m_row m_made m_length m_pressed m_mark m_idSize m_ids m_goalSize m_goals m_value m_faults m_reached v_thrown v_taped v_lookedSize v_fileSize v_directorySize v_outSize v_rowSize v_bitAt v_bitEnd v_why v_madeSize v_firstCount v_secondCount v_heldBits v_heldCount v_pressedSize v_at v_bad v_markSize v_relationCount v_valueSize v_faultCount a_row ix11 4 (by first | (with_reducible assumption) | omega (splitDisjunctions := false) | assumption | omega | decide) (by first | (with_reducible assumption) | omega (splitDisjunctions := false) | assumption | omega | decide) (by first | (with_reducible assumption) | omega (splitDisjunctions := false) | assumption | omega | decide) (by first | (with_reducible assumption) | omega (splitDisjunctions := false) | assumption | omega | decide) F_a_row) rfl rfl [0, 1] [] (by decide) rfl rfl rfl (by decide) (by decide) k_1529 rfl k_128 k_1526 k_1528 k_88 ⟨rfl, hy_Mod_at⟩ (by decide) rfl rfl (Nat.le_of_ble_eq_true rfl) (by decide) (fun v9 ux13 ch12 => ?_)
      obtain ⟨r_14, rfl⟩ : ∃ z9, z9 = ux13 := ⟨_, rfl⟩
      obtain ⟨ech12, ch12⟩ := ch12
      have ech12 : v9 = some (.long r_14) := ech12
      subst ech12
      obtain ⟨fh15, fh16, fh17⟩ : (r_14.toInt = av a_row ix11.toInt (4 : Int32).toInt.toNat) ∧ (0 ≤ r_14.toInt) ∧ (r_14.toInt < 4294967296) := ch12
      have u4 : r_14.toInt = aw A (v_rowSize.toInt - 22 + 4) 4 := by rw [fh15, n4, show ix11.toInt = v_rowSize.toInt - 22 + 4 by omega]; exact av_A hA 4 (by omega) (by omega)
      refine pb_eq (pc' := 33) (lo' := [(1, .int ix1), (0, .ref h)]) (rest' := [.long r_14]) (ws' := [(h, .inr (10, [.ref m_rels, .ref m_openRels, .ref m_closeRels, .ref m_openRel, .ref m_closeRel, .ref m_comment, .ref m_ends, .ref m_order, .int v_thrown, .int v_taped, .ref m_tape, .ref m_count, .ref m_nameSize, .ref m_names, .ref m_size, .ref m_data, .int v_lookedSize, .ref m_looked, .int v_fileSize, .ref m_file, .int v_directorySize, .ref m_directory, .int v_outSize, .ref m_out, .int v_rowSize, .ref m_row, .int v_bitAt, .int v_bitEnd, .int v_why, .int v_madeSize, .ref m_made, .ref m_length, .int v_firstCount, .int v_secondCount, .int v_heldBits, .int v_heldCount, .int v_pressedSize, .ref m_pressed, .int v_at, .int v_bad, .int v_markSize, .ref m_mark, .int v_relationCount, .ref m_idSize, .ref m_ids, .ref m_goalSize, .ref m_goals, .int v_valueSize, .ref m_value, .int v_faultCount, .ref m_faults, .ref m_reached])), (m_row, .inl (G.2.1, 20000, .inl a_row))]) ?_
      refine pb_lconst (pc := 33) (v := 0) d_Mod_directoryFault_33 (by decide) ?_
      refine pb_lcmp (pc := 34) d_Mod_directoryFault_34 ?_
      refine pb_topi (fun ix18 eix18 => ?_)
      have tix18 : (ix18.toInt < 0 ↔ r_14.toInt < 0) ∧ (ix18.toInt = 0 ↔ r_14.toInt = 0) ∧ (0 < ix18.toInt ↔ 0 < r_14.toInt) := tl_cmp eix18 rfl (by decide)
      refine pb_if_ne (pc := 35) (tgt := 74) d_Mod_directoryFault_35 (by decide) (fun wx19 => ?_) (fun wx19 => ?_)
      · have twx19 : ¬ ix18.toInt = 0 := fun z9 => wx19 ((ti_eq rfl (by decide)).mpr z9)
        have lwx19 : ¬ r_14.toInt = 0 := fun z9 => twx19 (tix18.2.1.mpr z9)
        clear tix18 twx19
        refine pb_iconst (pc := 74) (v := 1) d_Mod_directoryFault_74 (by decide) ?_
        exact pb_iret (pc := 75) hQ d_Mod_directoryFault_75 rfl rfl (1) ⟨rfl, (by (try dsimp only); first | done | (with_reducible assumption) | omega (splitDisjunctions := false) | assumption | omega | decide), (show (1 : Int32).toInt = 0 → 22 ≤ v_rowSize.toInt ∧ dq_ok a_row (av a_row (v_rowSize.toInt - 6) 4) (v_rowSize.toInt - 22) from (by first | exact fun h9 => absurd h9 (by omega) | exact fun _ => ⟨by omega, by omega, by omega, k.toInt.toNat, by omega, fun j hj9 => by have q9 := hj j hj9; omega⟩)), (show ((1 : Int32).toInt = 1 ∧ ¬ (22 ≤ v_rowSize.toInt ∧ ed_ A (v_rowSize.toInt - 22))) ∨ ((1 : Int32).toInt = 2 ∧ (22 ≤ v_rowSize.toInt ∧ ed_ A (v_rowSize.toInt - 22)) ∧ ¬ dw_ A (v_rowSize.toInt - 22)) ∨ ((1 : Int32).toInt = 0 ∧ (22 ≤ v_rowSize.toInt ∧ ed_ A (v_rowSize.toInt - 22)) ∧ dw_ A (v_rowSize.toInt - 22)) from (Or.inl ⟨(by first | decide | omega), fun q9 => (by obtain ⟨q8, y1, y2, y3, y4⟩ := q9; omega)⟩))⟩ [0, 1] (by decide) rfl rfl (by decide) (by decide)
      · have twx19 : ix18.toInt = 0 := (ti_eq rfl (by decide)).mp wx19
        have lwx19 : r_14.toInt = 0 := tix18.2.1.mp twx19
        clear tix18 twx19
        refine pb_aload_n (pc := 38) d_Mod_directoryFault_38 1 rfl rfl ?_
        refine pb_iload_n (pc := 39) d_Mod_directoryFault_39 0 rfl rfl ?_
        refine pb_bipush (pc := 40) (v := 8) d_Mod_directoryFault_40 (by decide) ?_
        refine pb_iadd (pc := 42) d_Mod_directoryFault_42 ?_
        refine pb_topi (fun ix20 eix20 => ?_)
        try have tix20 : ix20.toInt = ix1.toInt + 8 := t2_add eix20 rfl (by decide) (by omega)
        refine pb_iconst (pc := 43) (v := 2) d_Mod_directoryFault_43 (by decide) ?_
        refine pb_callV (pc := 44) (I := i_Mod_directoryFault) (qb := 0) (ci := 10) (nA := 2) (rest := []) (wr := []) d_Mod_directoryFault_44 (g_Mod_at hl G h m_rels m_openRels m_closeRels m_openRel m_closeRel m_comment m_ends m_order m_tape m_count m_nameSize m_names m_size m_data m_looked m_file m_directory m_out m_row m_made m_length m_pressed m_mark m_idSize m_ids m_goalSize m_goals m_value m_faults m_reached v_thrown v_taped v_lookedSize v_fileSize v_directorySize v_outSize v_rowSize v_bitAt v_bitEnd v_why v_madeSize v_firstCount v_secondCount v_heldBits v_heldCount v_pressedSize v_at v_bad v_markSize v_relationCount v_valueSize v_faultCount a_row ix20 2 (by first | (with_reducible assumption) | omega (splitDisjunctions := false) | assumption | omega | decide) (by first | (with_reducible assumption) | omega (splitDisjunctions := false) | assumption | omega | decide) (by first | (with_reducible assumption) | omega (splitDisjunctions := false) | assumption | omega | decide) (by first | (with_reducible assumption) | omega (splitDisjunctions := false) | assumption | omega | decide) F_a_row) rfl rfl [0, 1] [] (by decide) rfl rfl rfl (by decide) (by decide) k_1529 rfl k_128 k_1526 k_1528 k_88 ⟨rfl, hy_Mod_at⟩ (by decide) rfl rfl (Nat.le_of_ble_eq_true rfl) (by decide) (fun v9 ux22 ch21 => ?_)
        obtain ⟨r_23, rfl⟩ : ∃ z9, z9 = ux22 := ⟨_, rfl⟩
        obtain ⟨ech21, ch21⟩ := ch21
        have ech21 : v9 = some (.long r_23) := ech21
        subst ech21
        obtain ⟨fh24, fh25, fh26⟩ : (r_23.toInt = av a_row ix20.toInt (2 : Int32).toInt.toNat) ∧ (0 ≤ r_23.toInt) ∧ (r_23.toInt < 4294967296) := ch21
        have u8 : r_23.toInt = aw A (v_rowSize.toInt - 22 + 8) 2 := by rw [fh24, n2, show ix20.toInt = v_rowSize.toInt - 22 + 8 by omega]; exact av_A hA 2 (by omega) (by omega)
        refine pb_eq (pc' := 47) (lo' := [(1, .int ix1), (0, .ref h)]) (rest' := [.long r_23]) (ws' := [(h, .inr (10, [.ref m_rels, .ref m_openRels, .ref m_closeRels, .ref m_openRel, .ref m_closeRel, .ref m_comment, .ref m_ends, .ref m_order, .int v_thrown, .int v_taped, .ref m_tape, .ref m_count, .ref m_nameSize, .ref m_names, .ref m_size, .ref m_data, .int v_lookedSize, .ref m_looked, .int v_fileSize, .ref m_file, .int v_directorySize, .ref m_directory, .int v_outSize, .ref m_out, .int v_rowSize, .ref m_row, .int v_bitAt, .int v_bitEnd, .int v_why, .int v_madeSize, .ref m_made, .ref m_length, .int v_firstCount, .int v_secondCount, .int v_heldBits, .int v_heldCount, .int v_pressedSize, .ref m_pressed, .int v_at, .int v_bad, .int v_markSize, .ref m_mark, .int v_relationCount, .ref m_idSize, .ref m_ids, .ref m_goalSize, .ref m_goals, .int v_valueSize, .ref m_value, .int v_faultCount, .ref m_faults, .ref m_reached])), (m_row, .inl (G.2.1, 20000, .inl a_row))]) ?_
        refine pb_aload_n (pc := 47) d_Mod_directoryFault_47 1 rfl rfl ?_
        refine pb_iload_n (pc := 48) d_Mod_directoryFault_48 0 rfl rfl ?_
        refine pb_bipush (pc := 49) (v := 10) d_Mod_directoryFault_49 (by decide) ?_
        refine pb_iadd (pc := 51) d_Mod_directoryFault_51 ?_
        refine pb_topi (fun ix27 eix27 => ?_)
        try have tix27 : ix27.toInt = ix1.toInt + 10 := t2_add eix27 rfl (by decide) (by omega)
        refine pb_iconst (pc := 52) (v := 2) d_Mod_directoryFault_52 (by decide) ?_
        refine pb_callV (pc := 53) (I := i_Mod_directoryFault) (qb := 0) (ci := 10) (nA := 2) (rest := [.long r_23]) (wr := []) d_Mod_directoryFault_53 (g_Mod_at hl G h m_rels m_openRels m_closeRels m_openRel m_closeRel m_comment m_ends m_order m_tape m_count m_nameSize m_names m_size m_data m_looked m_file m_directory m_out m_row m_made m_length m_pressed m_mark m_idSize m_ids m_goalSize m_goals m_value m_faults m_reached v_thrown v_taped v_lookedSize v_fileSize v_directorySize v_outSize v_rowSize v_bitAt v_bitEnd v_why v_madeSize v_firstCount v_secondCount v_heldBits v_heldCount v_pressedSize v_at v_bad v_markSize v_relationCount v_valueSize v_faultCount a_row ix27 2 (by first | (with_reducible assumption) | omega (splitDisjunctions := false) | assumption | omega | decide) (by first | (with_reducible assumption) | omega (splitDisjunctions := false) | assumption | omega | decide) (by first | (with_reducible assumption) | omega (splitDisjunctions := false) | assumption | omega | decide) (by first | (with_reducible assumption) | omega (splitDisjunctions := false) | assumption | omega | decide) F_a_row) rfl rfl [0, 1] [] (by decide) rfl rfl rfl (by decide) (by decide) k_1529 rfl k_128 k_1526 k_1528 k_88 ⟨rfl, hy_Mod_at⟩ (by decide) rfl rfl (Nat.le_of_ble_eq_true rfl) (by decide) (fun v9 ux29 ch28 => ?_)
        obtain ⟨r_30, rfl⟩ : ∃ z9, z9 = ux29 := ⟨_, rfl⟩
        obtain ⟨ech28, ch28⟩ := ch28
        have ech28 : v9 = some (.long r_30) := ech28
        subst ech28
        obtain ⟨fh31, fh32, fh33⟩ : (r_30.toInt = av a_row ix27.toInt (2 : Int32).toInt.toNat) ∧ (0 ≤ r_30.toInt) ∧ (r_30.toInt < 4294967296) := ch28
        have u10 : r_30.toInt = aw A (v_rowSize.toInt - 22 + 10) 2 := by rw [fh31, n2, show ix27.toInt = v_rowSize.toInt - 22 + 10 by omega]; exact av_A hA 2 (by omega) (by omega)
        refine pb_eq (pc' := 56) (lo' := [(1, .int ix1), (0, .ref h)]) (rest' := [.long r_30, .long r_23]) (ws' := [(h, .inr (10, [.ref m_rels, .ref m_openRels, .ref m_closeRels, .ref m_openRel, .ref m_closeRel, .ref m_comment, .ref m_ends, .ref m_order, .int v_thrown, .int v_taped, .ref m_tape, .ref m_count, .ref m_nameSize, .ref m_names, .ref m_size, .ref m_data, .int v_lookedSize, .ref m_looked, .int v_fileSize, .ref m_file, .int v_directorySize, .ref m_directory, .int v_outSize, .ref m_out, .int v_rowSize, .ref m_row, .int v_bitAt, .int v_bitEnd, .int v_why, .int v_madeSize, .ref m_made, .ref m_length, .int v_firstCount, .int v_secondCount, .int v_heldBits, .int v_heldCount, .int v_pressedSize, .ref m_pressed, .int v_at, .int v_bad, .int v_markSize, .ref m_mark, .int v_relationCount, .ref m_idSize, .ref m_ids, .ref m_goalSize, .ref m_goals, .int v_valueSize, .ref m_value, .int v_faultCount, .ref m_faults, .ref m_reached])), (m_row, .inl (G.2.1, 20000, .inl a_row))]) ?_
        refine pb_lcmp (pc := 56) d_Mod_directoryFault_56 ?_
        refine pb_topi (fun ix34 eix34 => ?_)
        have tix34 : (ix34.toInt < 0 ↔ r_23.toInt < r_30.toInt) ∧ (ix34.toInt = 0 ↔ r_23.toInt = r_30.toInt) ∧ (0 < ix34.toInt ↔ r_30.toInt < r_23.toInt) := tl_cmp eix34 rfl rfl
        refine pb_if_ne (pc := 57) (tgt := 74) d_Mod_directoryFault_57 (by decide) (fun wx35 => ?_) (fun wx35 => ?_)
        · have twx35 : ¬ ix34.toInt = 0 := fun z9 => wx35 ((ti_eq rfl (by decide)).mpr z9)
          have lwx35 : ¬ r_23.toInt = r_30.toInt := fun z9 => twx35 (tix34.2.1.mpr z9)
          clear tix34 twx35
          refine pb_iconst (pc := 74) (v := 1) d_Mod_directoryFault_74 (by decide) ?_
          exact pb_iret (pc := 75) hQ d_Mod_directoryFault_75 rfl rfl (1) ⟨rfl, (by (try dsimp only); first | done | (with_reducible assumption) | omega (splitDisjunctions := false) | assumption | omega | decide), (show (1 : Int32).toInt = 0 → 22 ≤ v_rowSize.toInt ∧ dq_ok a_row (av a_row (v_rowSize.toInt - 6) 4) (v_rowSize.toInt - 22) from (by first | exact fun h9 => absurd h9 (by omega) | exact fun _ => ⟨by omega, by omega, by omega, k.toInt.toNat, by omega, fun j hj9 => by have q9 := hj j hj9; omega⟩)), (show ((1 : Int32).toInt = 1 ∧ ¬ (22 ≤ v_rowSize.toInt ∧ ed_ A (v_rowSize.toInt - 22))) ∨ ((1 : Int32).toInt = 2 ∧ (22 ≤ v_rowSize.toInt ∧ ed_ A (v_rowSize.toInt - 22)) ∧ ¬ dw_ A (v_rowSize.toInt - 22)) ∨ ((1 : Int32).toInt = 0 ∧ (22 ≤ v_rowSize.toInt ∧ ed_ A (v_rowSize.toInt - 22)) ∧ dw_ A (v_rowSize.toInt - 22)) from (Or.inl ⟨(by first | decide | omega), fun q9 => (by obtain ⟨q8, y1, y2, y3, y4⟩ := q9; (exact omg_e6d08f9851 u8 u10 lwx35 y3))⟩))⟩ [0, 1] (by decide) rfl rfl (by decide) (by decide)
        · have twx35 : ix34.toInt = 0 := (ti_eq rfl (by decide)).mp wx35
          have lwx35 : r_23.toInt = r_30.toInt := tix34.2.1.mp twx35
          clear tix34 twx35
          refine pb_aload_n (pc := 60) d_Mod_directoryFault_60 1 rfl rfl ?_
          refine pb_iload_n (pc := 61) d_Mod_directoryFault_61 0 rfl rfl ?_
          refine pb_bipush (pc := 62) (v := 20) d_Mod_directoryFault_62 (by decide) ?_
          refine pb_iadd (pc := 64) d_Mod_directoryFault_64 ?_
          refine pb_topi (fun ix36 eix36 => ?_)
          try have tix36 : ix36.toInt = ix1.toInt + 20 := t2_add eix36 rfl (by decide) (by omega)
          refine pb_iconst (pc := 65) (v := 2) d_Mod_directoryFault_65 (by decide) ?_
          refine pb_callV (pc := 66) (I := i_Mod_directoryFault) (qb := 0) (ci := 10) (nA := 2) (rest := []) (wr := []) d_Mod_directoryFault_66 (g_Mod_at hl G h m_rels m_openRels m_closeRels m_openRel m_closeRel m_comment m_ends m_order m_tape m_count m_nameSize m_names m_size m_data m_looked m_file m_directory m_out m_row m_made m_length m_pressed m_mark m_idSize m_ids m_goalSize m_goals m_value m_faults m_reached v_thrown v_taped v_lookedSize v_fileSize v_directorySize v_outSize v_rowSize v_bitAt v_bitEnd v_why v_madeSize v_firstCount v_secondCount v_heldBits v_heldCount v_pressedSize v_at v_bad v_markSize v_relationCount v_valueSize v_faultCount a_row ix36 2 (by first | (with_reducible assumption) | omega (splitDisjunctions := false) | assumption | omega | decide) (by first | (with_reducible assumption) | omega (splitDisjunctions := false) | assumption | omega | decide) (by first | (with_reducible assumption) | omega (splitDisjunctions := false) | assumption | omega | decide) (by first | (with_reducible assumption) | omega (splitDisjunctions := false) | assumption | omega | decide) F_a_row) rfl rfl [0, 1] [] (by decide) rfl rfl rfl (by decide) (by decide) k_1529 rfl k_128 k_1526 k_1528 k_88 ⟨rfl, hy_Mod_at⟩ (by decide) rfl rfl (Nat.le_of_ble_eq_true rfl) (by decide) (fun v9 ux38 ch37 => ?_)
          obtain ⟨r_39, rfl⟩ : ∃ z9, z9 = ux38 := ⟨_, rfl⟩
          obtain ⟨ech37, ch37⟩ := ch37
          have ech37 : v9 = some (.long r_39) := ech37
          subst ech37
          obtain ⟨fh40, fh41, fh42⟩ : (r_39.toInt = av a_row ix36.toInt (2 : Int32).toInt.toNat) ∧ (0 ≤ r_39.toInt) ∧ (r_39.toInt < 4294967296) := ch37
          have u20 : r_39.toInt = aw A (v_rowSize.toInt - 22 + 20) 2 := by rw [fh40, n2, show ix36.toInt = v_rowSize.toInt - 22 + 20 by omega]; exact av_A hA 2 (by omega) (by omega)
          refine pb_eq (pc' := 69) (lo' := [(1, .int ix1), (0, .ref h)]) (rest' := [.long r_39]) (ws' := [(h, .inr (10, [.ref m_rels, .ref m_openRels, .ref m_closeRels, .ref m_openRel, .ref m_closeRel, .ref m_comment, .ref m_ends, .ref m_order, .int v_thrown, .int v_taped, .ref m_tape, .ref m_count, .ref m_nameSize, .ref m_names, .ref m_size, .ref m_data, .int v_lookedSize, .ref m_looked, .int v_fileSize, .ref m_file, .int v_directorySize, .ref m_directory, .int v_outSize, .ref m_out, .int v_rowSize, .ref m_row, .int v_bitAt, .int v_bitEnd, .int v_why, .int v_madeSize, .ref m_made, .ref m_length, .int v_firstCount, .int v_secondCount, .int v_heldBits, .int v_heldCount, .int v_pressedSize, .ref m_pressed, .int v_at, .int v_bad, .int v_markSize, .ref m_mark, .int v_relationCount, .ref m_idSize, .ref m_ids, .ref m_goalSize, .ref m_goals, .int v_valueSize, .ref m_value, .int v_faultCount, .ref m_faults, .ref m_reached])), (m_row, .inl (G.2.1, 20000, .inl a_row))]) ?_
          refine pb_lconst (pc := 69) (v := 0) d_Mod_directoryFault_69 (by decide) ?_
          refine pb_lcmp (pc := 70) d_Mod_directoryFault_70 ?_
          refine pb_topi (fun ix43 eix43 => ?_)
          have tix43 : (ix43.toInt < 0 ↔ r_39.toInt < 0) ∧ (ix43.toInt = 0 ↔ r_39.toInt = 0) ∧ (0 < ix43.toInt ↔ 0 < r_39.toInt) := tl_cmp eix43 rfl (by decide)
          refine pb_if_eq (pc := 71) (tgt := 76) d_Mod_directoryFault_71 (by decide) (fun wx44 => ?_) (fun wx44 => ?_)
          · have twx44 : ix43.toInt = 0 := (ti_eq rfl (by decide)).mp wx44
            have lwx44 : r_39.toInt = 0 := tix43.2.1.mp twx44
            clear tix43 twx44
            have edF : 22 ≤ v_rowSize.toInt ∧ ed_ A (v_rowSize.toInt - 22) := ⟨by (exact omg_323c347f16 tix1 twx2), by omega, by omega, by omega, by omega⟩
            refine pb_aload_n (pc := 76) d_Mod_directoryFault_76 1 rfl rfl ?_
            refine pb_iload_n (pc := 77) d_Mod_directoryFault_77 0 rfl rfl ?_
            refine pb_bipush (pc := 78) (v := 16) d_Mod_directoryFault_78 (by decide) ?_
            refine pb_iadd (pc := 80) d_Mod_directoryFault_80 ?_
            refine pb_topi (fun ix45 eix45 => ?_)
            try have tix45 : ix45.toInt = ix1.toInt + 16 := t2_add eix45 rfl (by decide) (by omega)
            refine pb_iconst (pc := 81) (v := 4) d_Mod_directoryFault_81 (by decide) ?_
            refine pb_callV (pc := 82) (I := i_Mod_directoryFault) (qb := 0) (ci := 10) (nA := 2) (rest := []) (wr := []) d_Mod_directoryFault_82 (g_Mod_at hl G h m_rels m_openRels m_closeRels m_openRel m_closeRel m_comment m_ends m_order m_tape m_count m_nameSize m_names m_size m_data m_looked m_file m_directory m_out m_row m_made m_length m_pressed m_mark m_idSize m_ids m_goalSize m_goals m_value m_faults m_reached v_thrown v_taped v_lookedSize v_fileSize v_directorySize v_outSize v_rowSize v_bitAt v_bitEnd v_why v_madeSize v_firstCount v_secondCount v_heldBits v_heldCount v_pressedSize v_at v_bad v_markSize v_relationCount v_valueSize v_faultCount a_row ix45 4 (by first | (with_reducible assumption) | omega (splitDisjunctions := false) | assumption | omega | decide) (by first | (with_reducible assumption) | omega (splitDisjunctions := false) | assumption | omega | decide) (by first | (with_reducible assumption) | omega (splitDisjunctions := false) | assumption | omega | decide) (by first | (with_reducible assumption) | omega (splitDisjunctions := false) | assumption | omega | decide) F_a_row) rfl rfl [0, 1] [] (by decide) rfl rfl rfl (by decide) (by decide) k_1529 rfl k_128 k_1526 k_1528 k_88 ⟨rfl, hy_Mod_at⟩ (by decide) rfl rfl (Nat.le_of_ble_eq_true rfl) (by decide) (fun v9 ux47 ch46 => ?_)
            obtain ⟨r_48, rfl⟩ : ∃ z9, z9 = ux47 := ⟨_, rfl⟩
            obtain ⟨ech46, ch46⟩ := ch46
            have ech46 : v9 = some (.long r_48) := ech46
            subst ech46
            obtain ⟨fh49, fh50, fh51⟩ : (r_48.toInt = av a_row ix45.toInt (4 : Int32).toInt.toNat) ∧ (0 ≤ r_48.toInt) ∧ (r_48.toInt < 4294967296) := ch46
            have u16 : r_48.toInt = aw A (v_rowSize.toInt - 22 + 16) 4 := by rw [fh49, n4, show ix45.toInt = v_rowSize.toInt - 22 + 16 by (exact omg_7b9874a233 tix1 tix45)]; exact av_A hA 4 (by omega) (by omega)
            rw [n4, show ix45.toInt = v_rowSize.toInt - 6 by omega] at fh49
            refine pb_eq (pc' := 85) (lo' := [(1, .int ix1), (0, .ref h)]) (rest' := [.long r_48]) (ws' := [(h, .inr (10, [.ref m_rels, .ref m_openRels, .ref m_closeRels, .ref m_openRel, .ref m_closeRel, .ref m_comment, .ref m_ends, .ref m_order, .int v_thrown, .int v_taped, .ref m_tape, .ref m_count, .ref m_nameSize, .ref m_names, .ref m_size, .ref m_data, .int v_lookedSize, .ref m_looked, .int v_fileSize, .ref m_file, .int v_directorySize, .ref m_directory, .int v_outSize, .ref m_out, .int v_rowSize, .ref m_row, .int v_bitAt, .int v_bitEnd, .int v_why, .int v_madeSize, .ref m_made, .ref m_length, .int v_firstCount, .int v_secondCount, .int v_heldBits, .int v_heldCount, .int v_pressedSize, .ref m_pressed, .int v_at, .int v_bad, .int v_markSize, .ref m_mark, .int v_relationCount, .ref m_idSize, .ref m_ids, .ref m_goalSize, .ref m_goals, .int v_valueSize, .ref m_value, .int v_faultCount, .ref m_faults, .ref m_reached])), (m_row, .inl (G.2.1, 20000, .inl a_row))]) ?_
            refine pb_lstore_n (pc := 85) (lo' := [(2, .long r_48), (1, .int ix1), (0, .ref h)]) d_Mod_directoryFault_85 rfl (by decide) rfl ?_
            refine pb_lload_n (pc := 86) d_Mod_directoryFault_86 0 rfl rfl ?_
            refine pb_aload_n (pc := 87) d_Mod_directoryFault_87 2 rfl rfl ?_
            refine pb_iload_n (pc := 88) d_Mod_directoryFault_88 1 rfl rfl ?_
            refine pb_bipush (pc := 89) (v := 12) d_Mod_directoryFault_89 (by decide) ?_
            refine pb_iadd (pc := 91) d_Mod_directoryFault_91 ?_
            refine pb_topi (fun ix52 eix52 => ?_)
            try have tix52 : ix52.toInt = ix1.toInt + 12 := t2_add eix52 rfl (by decide) (by (exact omg_7ffc45122b h1 tix1 twx2))
            refine pb_iconst (pc := 92) (v := 4) d_Mod_directoryFault_92 (by decide) ?_
            refine pb_callV (pc := 93) (I := i_Mod_directoryFault) (qb := 0) (ci := 10) (nA := 2) (rest := [.long r_48]) (wr := []) d_Mod_directoryFault_93 (g_Mod_at hl G h m_rels m_openRels m_closeRels m_openRel m_closeRel m_comment m_ends m_order m_tape m_count m_nameSize m_names m_size m_data m_looked m_file m_directory m_out m_row m_made m_length m_pressed m_mark m_idSize m_ids m_goalSize m_goals m_value m_faults m_reached v_thrown v_taped v_lookedSize v_fileSize v_directorySize v_outSize v_rowSize v_bitAt v_bitEnd v_why v_madeSize v_firstCount v_secondCount v_heldBits v_heldCount v_pressedSize v_at v_bad v_markSize v_relationCount v_valueSize v_faultCount a_row ix52 4 (by first | (with_reducible assumption) | (exact omg_6d21ea5fcf twx2 tix52) | assumption | omega | decide) (by first | (with_reducible assumption) | omega (splitDisjunctions := false) | assumption | omega | decide) (by first | (with_reducible assumption) | omega (splitDisjunctions := false) | assumption | omega | decide) (by first | (with_reducible assumption) | (exact omg_562d46fdb3 h1 zl4 tix1 tix52) | assumption | omega | decide) F_a_row) rfl rfl [0, 1] [] (by decide) rfl rfl rfl (by decide) (by decide) k_1529 rfl k_128 k_1526 k_1528 k_88 ⟨rfl, hy_Mod_at⟩ (by decide) rfl rfl (Nat.le_of_ble_eq_true rfl) (by decide) (fun v9 ux54 ch53 => ?_)
            obtain ⟨r_55, rfl⟩ : ∃ z9, z9 = ux54 := ⟨_, rfl⟩
            obtain ⟨ech53, ch53⟩ := ch53
            have ech53 : v9 = some (.long r_55) := ech53
            subst ech53
            obtain ⟨fh56, fh57, fh58⟩ : (r_55.toInt = av a_row ix52.toInt (4 : Int32).toInt.toNat) ∧ (0 ≤ r_55.toInt) ∧ (r_55.toInt < 4294967296) := ch53
            have u12 : r_55.toInt = aw A (v_rowSize.toInt - 22 + 12) 4 := by rw [fh56, n4, show ix52.toInt = v_rowSize.toInt - 22 + 12 by (exact omg_72b34b9ca2 tix1 tix52)]; exact av_A hA 4 (by (exact omg_8dfcb45615 tix1 twx2)) (by omega)
            refine pb_eq (pc' := 96) (lo' := [(2, .long r_48), (1, .int ix1), (0, .ref h)]) (rest' := [.long r_55, .long r_48]) (ws' := [(h, .inr (10, [.ref m_rels, .ref m_openRels, .ref m_closeRels, .ref m_openRel, .ref m_closeRel, .ref m_comment, .ref m_ends, .ref m_order, .int v_thrown, .int v_taped, .ref m_tape, .ref m_count, .ref m_nameSize, .ref m_names, .ref m_size, .ref m_data, .int v_lookedSize, .ref m_looked, .int v_fileSize, .ref m_file, .int v_directorySize, .ref m_directory, .int v_outSize, .ref m_out, .int v_rowSize, .ref m_row, .int v_bitAt, .int v_bitEnd, .int v_why, .int v_madeSize, .ref m_made, .ref m_length, .int v_firstCount, .int v_secondCount, .int v_heldBits, .int v_heldCount, .int v_pressedSize, .ref m_pressed, .int v_at, .int v_bad, .int v_markSize, .ref m_mark, .int v_relationCount, .ref m_idSize, .ref m_ids, .ref m_goalSize, .ref m_goals, .int v_valueSize, .ref m_value, .int v_faultCount, .ref m_faults, .ref m_reached])), (m_row, .inl (G.2.1, 20000, .inl a_row))]) ?_
            refine pb_ladd (pc := 96) d_Mod_directoryFault_96 ?_
            refine pb_topl (fun jx59 ejx59 => ?_)
            try have tjx59 : jx59.toInt = r_48.toInt + r_55.toInt := tl_add ejx59 rfl rfl (by (exact omg_19de973fa8 fh50 fh57)) (by (exact omg_aeeff30375 fh51 fh58))
            refine pb_iload_n (pc := 97) d_Mod_directoryFault_97 1 rfl rfl ?_
            refine pb_i2l (pc := 98) d_Mod_directoryFault_98 rfl ?_
            refine pb_topl (fun jx60 ejx60 => ?_)
            have tjx60 : jx60.toInt = ix1.toInt := tl_i2l ejx60 rfl
            refine pb_lcmp (pc := 99) d_Mod_directoryFault_99 ?_
            refine pb_topi (fun ix61 eix61 => ?_)
            have tix61 : (ix61.toInt < 0 ↔ jx59.toInt < jx60.toInt) ∧ (ix61.toInt = 0 ↔ jx59.toInt = jx60.toInt) ∧ (0 < ix61.toInt ↔ jx60.toInt < jx59.toInt) := tl_cmp eix61 rfl rfl
            refine pb_if_eq (pc := 100) (tgt := 105) d_Mod_directoryFault_100 (by decide) (fun wx62 => ?_) (fun wx62 => ?_)
            · have twx62 : ix61.toInt = 0 := (ti_eq rfl (by decide)).mp wx62
              have lwx62 : jx59.toInt = jx60.toInt := tix61.2.1.mp twx62
              clear tix61 twx62
              refine pb_aload_n (pc := 105) d_Mod_directoryFault_105 2 rfl rfl ?_
              refine pb_iload_n (pc := 106) d_Mod_directoryFault_106 1 rfl rfl ?_
              refine pb_bipush (pc := 107) (v := 8) d_Mod_directoryFault_107 (by decide) ?_
              refine pb_iadd (pc := 109) d_Mod_directoryFault_109 ?_
              refine pb_topi (fun ix63 eix63 => ?_)
              try have tix63 : ix63.toInt = ix1.toInt + 8 := t2_add eix63 rfl (by decide) (by (exact omg_9aadd9d296 h0 h1 tix1))
              refine pb_iconst (pc := 110) (v := 2) d_Mod_directoryFault_110 (by decide) ?_
              refine pb_callV (pc := 111) (I := i_Mod_directoryFault) (qb := 0) (ci := 10) (nA := 2) (rest := []) (wr := []) d_Mod_directoryFault_111 (g_Mod_at hl G h m_rels m_openRels m_closeRels m_openRel m_closeRel m_comment m_ends m_order m_tape m_count m_nameSize m_names m_size m_data m_looked m_file m_directory m_out m_row m_made m_length m_pressed m_mark m_idSize m_ids m_goalSize m_goals m_value m_faults m_reached v_thrown v_taped v_lookedSize v_fileSize v_directorySize v_outSize v_rowSize v_bitAt v_bitEnd v_why v_madeSize v_firstCount v_secondCount v_heldBits v_heldCount v_pressedSize v_at v_bad v_markSize v_relationCount v_valueSize v_faultCount a_row ix63 2 (by first | (with_reducible assumption) | (exact omg_b4da50eb6e twx2 tix63) | assumption | omega | decide) (by first | (with_reducible assumption) | omega (splitDisjunctions := false) | assumption | omega | decide) (by first | (with_reducible assumption) | omega (splitDisjunctions := false) | assumption | omega | decide) (by first | (with_reducible assumption) | (exact omg_f1e6da62b3 h1 zl2 tix1 tix63) | assumption | omega | decide) F_a_row) rfl rfl [0, 1] [] (by decide) rfl rfl rfl (by decide) (by decide) k_1529 rfl k_128 k_1526 k_1528 k_88 ⟨rfl, hy_Mod_at⟩ (by decide) rfl rfl (Nat.le_of_ble_eq_true rfl) (by decide) (fun v9 ux65 ch64 => ?_)
              obtain ⟨r_66, rfl⟩ : ∃ z9, z9 = ux65 := ⟨_, rfl⟩
              obtain ⟨ech64, ch64⟩ := ch64
              have ech64 : v9 = some (.long r_66) := ech64
              subst ech64
              obtain ⟨fh67, fh68, fh69⟩ : (r_66.toInt = av a_row ix63.toInt (2 : Int32).toInt.toNat) ∧ (0 ≤ r_66.toInt) ∧ (r_66.toInt < 4294967296) := ch64
              have v8 : r_66.toInt = aw A (v_rowSize.toInt - 22 + 8) 2 := by rw [fh67, n2, show ix63.toInt = v_rowSize.toInt - 22 + 8 by (exact omg_99ead58fc1 tix1 tix63)]; exact av_A hA 2 (by (exact omg_87d706a7a1 tix1 twx2)) (by omega)
              refine pb_eq (pc' := 114) (lo' := [(2, .long r_48), (1, .int ix1), (0, .ref h)]) (rest' := [.long r_66]) (ws' := [(h, .inr (10, [.ref m_rels, .ref m_openRels, .ref m_closeRels, .ref m_openRel, .ref m_closeRel, .ref m_comment, .ref m_ends, .ref m_order, .int v_thrown, .int v_taped, .ref m_tape, .ref m_count, .ref m_nameSize, .ref m_names, .ref m_size, .ref m_data, .int v_lookedSize, .ref m_looked, .int v_fileSize, .ref m_file, .int v_directorySize, .ref m_directory, .int v_outSize, .ref m_out, .int v_rowSize, .ref m_row, .int v_bitAt, .int v_bitEnd, .int v_why, .int v_madeSize, .ref m_made, .ref m_length, .int v_firstCount, .int v_secondCount, .int v_heldBits, .int v_heldCount, .int v_pressedSize, .ref m_pressed, .int v_at, .int v_bad, .int v_markSize, .ref m_mark, .int v_relationCount, .ref m_idSize, .ref m_ids, .ref m_goalSize, .ref m_goals, .int v_valueSize, .ref m_value, .int v_faultCount, .ref m_faults, .ref m_reached])), (m_row, .inl (G.2.1, 20000, .inl a_row))]) ?_
              refine pb_lstore (pc := 114) (lo' := [(4, .long r_66), (2, .long r_48), (1, .int ix1), (0, .ref h)]) d_Mod_directoryFault_114 (by decide) rfl ?_
              refine pb_lconst (pc := 116) (v := 0) d_Mod_directoryFault_116 (by decide) ?_
              refine pb_lstore (pc := 117) (lo' := [(6, .long 0), (4, .long r_66), (2, .long r_48), (1, .int ix1), (0, .ref h)]) d_Mod_directoryFault_117 (by decide) rfl ?_
              have hL119_70 : ∀ (N9 : Nat) (e : Int32) (hr : Int64) (n : Int64) (k : Int64), (e.toInt = (v_rowSize.toInt - 22)) → (0 ≤ e.toInt) → (0 ≤ k.toInt) → (k.toInt ≤ n.toInt) → (n.toInt < 4294967296) → (0 ≤ av a_row (v_rowSize.toInt - 6) 4) → (av a_row (v_rowSize.toInt - 6) 4 ≤ e.toInt) → (av a_row (v_rowSize.toInt - 6) 4 ≤ hr.toInt) → (hr.toInt ≤ e.toInt + 65600) → (hr.toInt = dq a_row (av a_row (v_rowSize.toInt - 6) 4) k.toInt.toNat) → (∀ j : Nat, j < k.toInt.toNat → dq a_row (av a_row (v_rowSize.toInt - 6) 4) j + 46 ≤ e.toInt) → (22 ≤ v_rowSize.toInt ∧ ed_ A (v_rowSize.toInt - 22)) → (aw A (v_rowSize.toInt - 22 + 16) 4 + aw A (v_rowSize.toInt - 22 + 12) 4 = v_rowSize.toInt - 22) → (n.toInt = aw A (v_rowSize.toInt - 22 + 8) 2) → (hr.toInt = dz A (aw A (v_rowSize.toInt - 22 + 16) 4) k.toInt.toNat) → (∀ j : Nat, j < k.toInt.toNat → dz A (aw A (v_rowSize.toInt - 22 + 16) 4) j + 46 ≤ v_rowSize.toInt - 22 ∧ ey_ A (dz A (aw A (v_rowSize.toInt - 22 + 16) 4) j)) → ((n.toInt - k.toInt).toNat) < N9 → pb_P l G M i_Mod_directoryFault 119 [(1, .int e), (2, .long hr), (4, .long n), (6, .long k), (0, .ref h)] [] [(h, .inr (10, [.ref m_rels, .ref m_openRels, .ref m_closeRels, .ref m_openRel, .ref m_closeRel, .ref m_comment, .ref m_ends, .ref m_order, .int v_thrown, .int v_taped, .ref m_tape, .ref m_count, .ref m_nameSize, .ref m_names, .ref m_size, .ref m_data, .int v_lookedSize, .ref m_looked, .int v_fileSize, .ref m_file, .int v_directorySize, .ref m_directory, .int v_outSize, .ref m_out, .int v_rowSize, .ref m_row, .int v_bitAt, .int v_bitEnd, .int v_why, .int v_madeSize, .ref m_made, .ref m_length, .int v_firstCount, .int v_secondCount, .int v_heldBits, .int v_heldCount, .int v_pressedSize, .ref m_pressed, .int v_at, .int v_bad, .int v_markSize, .ref m_mark, .int v_relationCount, .ref m_idSize, .ref m_ids, .ref m_goalSize, .ref m_goals, .int v_valueSize, .ref m_value, .int v_faultCount, .ref m_faults, .ref m_reached])), (m_row, .inl (G.2.1, 20000, .inl a_row))] 0 0 := by
                intro N9
                induction N9 with
                | zero => intro e hr n k e0 e1 k0 k1 k2 a0 a1 a2 a3 hq hj eD5 hw5 hn5 hz hy hm9; exact absurd hm9 (Nat.not_lt_zero _)
                | succ N9 ih119 =>
                  intro e hr n k e0 e1 k0 k1 k2 a0 a1 a2 a3 hq hj eD5 hw5 hn5 hz hy hm9
                  refine pb_lload (pc := 119) d_Mod_directoryFault_119 3 rfl ?_
                  refine pb_lload (pc := 121) d_Mod_directoryFault_121 2 rfl ?_
                  refine pb_lcmp (pc := 123) d_Mod_directoryFault_123 ?_
                  refine pb_topi (fun ix71 eix71 => ?_)
                  have tix71 : (ix71.toInt < 0 ↔ k.toInt < n.toInt) ∧ (ix71.toInt = 0 ↔ k.toInt = n.toInt) ∧ (0 < ix71.toInt ↔ n.toInt < k.toInt) := tl_cmp eix71 rfl rfl
                  refine pb_if_ge (pc := 124) (tgt := 306) d_Mod_directoryFault_124 (by decide) (fun wx72 => ?_) (fun wx72 => ?_)
                  · have twx72 : 0 ≤ ix71.toInt := (ti_le (by decide) rfl).mp wx72
                    have lwx72 : n.toInt ≤ k.toInt := Int.not_lt.mp (fun z9 => absurd (tix71.1.mpr z9) (Int.not_lt.mpr twx72))
                    clear tix71 twx72
                    refine pb_lload_n (pc := 306) d_Mod_directoryFault_306 1 rfl rfl ?_
                    refine pb_iload_n (pc := 307) d_Mod_directoryFault_307 0 rfl rfl ?_
                    refine pb_i2l (pc := 308) d_Mod_directoryFault_308 rfl ?_
                    refine pb_topl (fun jx73 ejx73 => ?_)
                    have tjx73 : jx73.toInt = e.toInt := tl_i2l ejx73 rfl
                    refine pb_lcmp (pc := 309) d_Mod_directoryFault_309 ?_
                    refine pb_topi (fun ix74 eix74 => ?_)
                    have tix74 : (ix74.toInt < 0 ↔ hr.toInt < jx73.toInt) ∧ (ix74.toInt = 0 ↔ hr.toInt = jx73.toInt) ∧ (0 < ix74.toInt ↔ jx73.toInt < hr.toInt) := tl_cmp eix74 rfl rfl
                    refine pb_if_ne (pc := 310) (tgt := 317) d_Mod_directoryFault_310 (by decide) (fun wx75 => ?_) (fun wx75 => ?_)
                    · have twx75 : ¬ ix74.toInt = 0 := fun z9 => wx75 ((ti_eq rfl (by decide)).mpr z9)
                      have lwx75 : ¬ hr.toInt = jx73.toInt := fun z9 => twx75 (tix74.2.1.mpr z9)
                      clear tix74 twx75
                      refine pb_iconst (pc := 317) (v := 2) d_Mod_directoryFault_317 (by decide) ?_
                      exact pb_iret (pc := 318) hQ d_Mod_directoryFault_318 rfl rfl (2) ⟨rfl, (by (try dsimp only); first | done | (with_reducible assumption) | omega (splitDisjunctions := false) | assumption | omega | decide), (show (2 : Int32).toInt = 0 → 22 ≤ v_rowSize.toInt ∧ dq_ok a_row (av a_row (v_rowSize.toInt - 6) 4) (v_rowSize.toInt - 22) from (by first | exact fun h9 => absurd h9 (by omega) | exact fun _ => ⟨by omega, by omega, by omega, k.toInt.toNat, by omega, fun j hj9 => by have q9 := hj j hj9; omega⟩)), (show ((2 : Int32).toInt = 1 ∧ ¬ (22 ≤ v_rowSize.toInt ∧ ed_ A (v_rowSize.toInt - 22))) ∨ ((2 : Int32).toInt = 2 ∧ (22 ≤ v_rowSize.toInt ∧ ed_ A (v_rowSize.toInt - 22)) ∧ ¬ dw_ A (v_rowSize.toInt - 22)) ∨ ((2 : Int32).toInt = 0 ∧ (22 ≤ v_rowSize.toInt ∧ ed_ A (v_rowSize.toInt - 22)) ∧ dw_ A (v_rowSize.toInt - 22)) from (by first | exact Or.inr (Or.inr ⟨(by first | decide | omega), eD5, hw5, fun j h9 => hy j (by omega), by rw [show (aw A (v_rowSize.toInt - 22 + 8) 2).toNat = k.toInt.toNat by omega, ← hz]; omega⟩) | exact Or.inr (Or.inl ⟨(by first | decide | omega), eD5, fun q9 => (by have q8 := q9.2.2; rw [show (aw A (v_rowSize.toInt - 22 + 8) 2).toNat = k.toInt.toNat by (exact omg_36beddd5d0 k1 hn5 lwx72), ← hz] at q8; (exact omg_d1b8b97a7b e0 tjx73 lwx75 q8))⟩)))⟩ [0, 1] (by decide) rfl rfl (by decide) (by decide)
                    · have twx75 : ix74.toInt = 0 := (ti_eq rfl (by decide)).mp wx75
                      have lwx75 : hr.toInt = jx73.toInt := tix74.2.1.mp twx75
                      clear tix74 twx75
                      refine pb_iconst (pc := 313) (v := 0) d_Mod_directoryFault_313 (by decide) ?_
                      refine pb_goto (pc := 314) (tgt := 318) d_Mod_directoryFault_314 (by decide) ?_
                      exact pb_iret (pc := 318) hQ d_Mod_directoryFault_318 rfl rfl (0) ⟨rfl, (by (try dsimp only); first | done | (with_reducible assumption) | omega (splitDisjunctions := false) | assumption | omega | decide), (show (0 : Int32).toInt = 0 → 22 ≤ v_rowSize.toInt ∧ dq_ok a_row (av a_row (v_rowSize.toInt - 6) 4) (v_rowSize.toInt - 22) from (by first | exact fun h9 => absurd h9 (by omega) | exact fun _ => ⟨by (exact omg_323c347f16 tix1 twx2), by omega, by (exact omg_8aa6819ae4 tix1 fh49 fh57 tjx59 tjx60 lwx62), k.toInt.toNat, by (exact omg_b5eed79224 e0 hq tjx73 lwx75), fun j hj9 => by have q9 := hj j hj9; (exact omg_960fa75daf e0 q9)⟩)), (show ((0 : Int32).toInt = 1 ∧ ¬ (22 ≤ v_rowSize.toInt ∧ ed_ A (v_rowSize.toInt - 22))) ∨ ((0 : Int32).toInt = 2 ∧ (22 ≤ v_rowSize.toInt ∧ ed_ A (v_rowSize.toInt - 22)) ∧ ¬ dw_ A (v_rowSize.toInt - 22)) ∨ ((0 : Int32).toInt = 0 ∧ (22 ≤ v_rowSize.toInt ∧ ed_ A (v_rowSize.toInt - 22)) ∧ dw_ A (v_rowSize.toInt - 22)) from (by first | exact Or.inr (Or.inr ⟨(by first | decide | omega), eD5, hw5, fun j h9 => hy j (by (exact omg_370188a66b hn5 lwx72 h9)), by rw [show (aw A (v_rowSize.toInt - 22 + 8) 2).toNat = k.toInt.toNat by (exact omg_36beddd5d0 k1 hn5 lwx72), ← hz]; (exact omg_17f4429383 e0 tjx73 lwx75)⟩) | exact Or.inr (Or.inl ⟨(by first | decide | omega), eD5, fun q9 => (by have q8 := q9.2.2; rw [show (aw A (v_rowSize.toInt - 22 + 8) 2).toNat = k.toInt.toNat by omega, ← hz] at q8; omega)⟩)))⟩ [0, 1] (by decide) rfl rfl (by decide) (by decide)
                  · have twx72 : ¬ 0 ≤ ix71.toInt := fun z9 => wx72 ((ti_le (by decide) rfl).mpr z9)
                    have lwx72 : k.toInt < n.toInt := tix71.1.mp (Int.not_le.mp twx72)
                    clear tix71 twx72
                    refine pb_lload_n (pc := 127) d_Mod_directoryFault_127 1 rfl rfl ?_
                    refine pb_ldc2 (pc := 128) (v := 46) d_Mod_directoryFault_128 k_1531 ?_
                    refine pb_ladd (pc := 131) d_Mod_directoryFault_131 ?_
                    refine pb_topl (fun jx76 ejx76 => ?_)
                    try have tjx76 : jx76.toInt = hr.toInt + 46 := tl_add ejx76 rfl (by decide) (by (exact omg_4af15ee253 fh49 fh50 a2)) (by (exact omg_c10d38c07e h1 e0 a3))
                    refine pb_iload_n (pc := 132) d_Mod_directoryFault_132 0 rfl rfl ?_
                    refine pb_i2l (pc := 133) d_Mod_directoryFault_133 rfl ?_
                    refine pb_topl (fun jx77 ejx77 => ?_)
                    have tjx77 : jx77.toInt = e.toInt := tl_i2l ejx77 rfl
                    refine pb_lcmp (pc := 134) d_Mod_directoryFault_134 ?_
                    refine pb_topi (fun ix78 eix78 => ?_)
                    have tix78 : (ix78.toInt < 0 ↔ jx76.toInt < jx77.toInt) ∧ (ix78.toInt = 0 ↔ jx76.toInt = jx77.toInt) ∧ (0 < ix78.toInt ↔ jx77.toInt < jx76.toInt) := tl_cmp eix78 rfl rfl
                    refine pb_if_le (pc := 135) (tgt := 140) d_Mod_directoryFault_135 (by decide) (fun wx79 => ?_) (fun wx79 => ?_)
                    · have twx79 : ix78.toInt ≤ 0 := (ti_le rfl (by decide)).mp wx79
                      have lwx79 : jx76.toInt ≤ jx77.toInt := Int.not_lt.mp (fun z9 => absurd (tix78.2.2.mpr z9) (Int.not_lt.mpr twx79))
                      clear tix78 twx79
                      refine pb_lload_n (pc := 140) d_Mod_directoryFault_140 1 rfl rfl ?_
                      refine pb_l2i (pc := 141) d_Mod_directoryFault_141 rfl ?_
                      refine pb_topi (fun ix80 eix80 => ?_)
                      try have tix80 : ix80.toInt = hr.toInt := ti_l2i eix80 rfl (by (exact omg_4d89c30059 fh49 fh50 a2)) (by (exact omg_e4476e7288 h1 e0 tjx76 tjx77 lwx79))
                      refine pb_istore (pc := 142) (lo' := [(8, .int ix80), (1, .int e), (2, .long hr), (4, .long n), (6, .long k), (0, .ref h)]) d_Mod_directoryFault_142 (by decide) rfl ?_
                      have hJ228_81 : ∀ (gd : Int32) (e8 : Int32), (e8.toInt = hr.toInt) → (hid_ (gd.toInt = 1 → (aw A hr.toInt 4 = 33639248 ∧ aw A (hr.toInt + 4) 4 = 1310740 ∧ aw A (hr.toInt + 8) 2 = 0 ∧ (aw A (hr.toInt + 10) 2 = 0 ∨ aw A (hr.toInt + 10) 2 = 8)))) → (hid_ (gd.toInt = 0 → ¬ (aw A hr.toInt 4 = 33639248 ∧ aw A (hr.toInt + 4) 4 = 1310740 ∧ aw A (hr.toInt + 8) 2 = 0 ∧ (aw A (hr.toInt + 10) 2 = 0 ∨ aw A (hr.toInt + 10) 2 = 8)))) → (gd.toInt = 0 ∨ gd.toInt = 1) → pb_P l G M i_Mod_directoryFault 228 [(9, .int gd), (8, .int e8), (1, .int e), (2, .long hr), (4, .long n), (6, .long k), (0, .ref h)] [] [(h, .inr (10, [.ref m_rels, .ref m_openRels, .ref m_closeRels, .ref m_openRel, .ref m_closeRel, .ref m_comment, .ref m_ends, .ref m_order, .int v_thrown, .int v_taped, .ref m_tape, .ref m_count, .ref m_nameSize, .ref m_names, .ref m_size, .ref m_data, .int v_lookedSize, .ref m_looked, .int v_fileSize, .ref m_file, .int v_directorySize, .ref m_directory, .int v_outSize, .ref m_out, .int v_rowSize, .ref m_row, .int v_bitAt, .int v_bitEnd, .int v_why, .int v_madeSize, .ref m_made, .ref m_length, .int v_firstCount, .int v_secondCount, .int v_heldBits, .int v_heldCount, .int v_pressedSize, .ref m_pressed, .int v_at, .int v_bad, .int v_markSize, .ref m_mark, .int v_relationCount, .ref m_idSize, .ref m_ids, .ref m_goalSize, .ref m_goals, .int v_valueSize, .ref m_value, .int v_faultCount, .ref m_faults, .ref m_reached])), (m_row, .inl (G.2.1, 20000, .inl a_row))] 0 0 := by
                        intro gd e8 j0 g1 g0 g2
                        refine pb_iload (pc := 228) d_Mod_directoryFault_228 0 rfl ?_
                        refine pb_if_eq (pc := 230) (tgt := 278) d_Mod_directoryFault_230 (by decide) (fun wx82 => ?_) (fun wx82 => ?_)
                        · have twx82 : gd.toInt = 0 := (ti_eq rfl (by decide)).mp wx82
                          refine pb_iconst (pc := 278) (v := 2) d_Mod_directoryFault_278 (by decide) ?_
                          exact pb_iret (pc := 279) hQ d_Mod_directoryFault_279 rfl rfl (2) ⟨rfl, (by (try dsimp only); first | done | (with_reducible assumption) | omega (splitDisjunctions := false) | assumption | omega | decide), (show (2 : Int32).toInt = 0 → 22 ≤ v_rowSize.toInt ∧ dq_ok a_row (av a_row (v_rowSize.toInt - 6) 4) (v_rowSize.toInt - 22) from (by first | exact fun h9 => absurd h9 (by omega) | exact fun _ => ⟨by omega, by omega, by omega, k.toInt.toNat, by omega, fun j hj9 => by have q9 := hj j hj9; omega⟩)), (show ((2 : Int32).toInt = 1 ∧ ¬ (22 ≤ v_rowSize.toInt ∧ ed_ A (v_rowSize.toInt - 22))) ∨ ((2 : Int32).toInt = 2 ∧ (22 ≤ v_rowSize.toInt ∧ ed_ A (v_rowSize.toInt - 22)) ∧ ¬ dw_ A (v_rowSize.toInt - 22)) ∨ ((2 : Int32).toInt = 0 ∧ (22 ≤ v_rowSize.toInt ∧ ed_ A (v_rowSize.toInt - 22)) ∧ dw_ A (v_rowSize.toInt - 22)) from (Or.inr (Or.inl ⟨(by first | decide | omega), eD5, fun q9 => dy_no (k := k.toInt.toNat) (by (exact omg_22111b28ba k0 hn5 lwx72)) (by rw [← hz]; exact fun q8 => (by obtain ⟨y0, y1, y2, y3, y4, y5, y6, y7⟩ := q8; first | exact hid_o g0 (by assumption) ⟨y1, y2, y3, y4⟩ | omega)) q9.2⟩)))⟩ [0, 1] (by decide) rfl rfl (by decide) (by decide)
                        · have twx82 : ¬ gd.toInt = 0 := fun z9 => wx82 ((ti_eq rfl (by decide)).mpr z9)
                          refine pb_aload_n (pc := 233) d_Mod_directoryFault_233 6 rfl rfl ?_
                          refine pb_iload (pc := 234) d_Mod_directoryFault_234 1 rfl ?_
                          refine pb_bipush (pc := 236) (v := 30) d_Mod_directoryFault_236 (by decide) ?_
                          refine pb_iadd (pc := 238) d_Mod_directoryFault_238 ?_
                          refine pb_topi (fun ix83 eix83 => ?_)
                          try have tix83 : ix83.toInt = e8.toInt + 30 := t2_add eix83 rfl (by decide) (by (exact omg_39a24c78ad h1 fh49 fh50 e0 a2 tjx76 tjx77 lwx79 j0))
                          refine pb_iconst (pc := 239) (v := 4) d_Mod_directoryFault_239 (by decide) ?_
                          refine pb_callV (pc := 240) (I := i_Mod_directoryFault) (qb := 0) (ci := 10) (nA := 2) (rest := []) (wr := []) d_Mod_directoryFault_240 (g_Mod_at hl G h m_rels m_openRels m_closeRels m_openRel m_closeRel m_comment m_ends m_order m_tape m_count m_nameSize m_names m_size m_data m_looked m_file m_directory m_out m_row m_made m_length m_pressed m_mark m_idSize m_ids m_goalSize m_goals m_value m_faults m_reached v_thrown v_taped v_lookedSize v_fileSize v_directorySize v_outSize v_rowSize v_bitAt v_bitEnd v_why v_madeSize v_firstCount v_secondCount v_heldBits v_heldCount v_pressedSize v_at v_bad v_markSize v_relationCount v_valueSize v_faultCount a_row ix83 4 (by first | (with_reducible assumption) | (exact omg_1cd796464b fh49 fh50 a2 j0 tix83) | assumption | omega | decide) (by first | (with_reducible assumption) | omega (splitDisjunctions := false) | assumption | omega | decide) (by first | (with_reducible assumption) | omega (splitDisjunctions := false) | assumption | omega | decide) (by first | (with_reducible assumption) | (exact omg_4250eb3d82 h1 zl4 e0 tjx76 tjx77 lwx79 j0 tix83) | assumption | omega | decide) (by first | assumption | decide | omega)) rfl rfl [0, 1] [] (by decide) rfl rfl rfl (by decide) (by decide) k_1529 rfl k_128 k_1526 k_1528 k_88 ⟨rfl, hy_Mod_at⟩ (by decide) rfl rfl (Nat.le_of_ble_eq_true rfl) (by decide) (fun v9 ux85 ch84 => ?_)
                          obtain ⟨r_86, rfl⟩ : ∃ z9, z9 = ux85 := ⟨_, rfl⟩
                          obtain ⟨ech84, ch84⟩ := ch84
                          have ech84 : v9 = some (.long r_86) := ech84
                          subst ech84
                          obtain ⟨fh87, fh88, fh89⟩ : (r_86.toInt = av a_row ix83.toInt (4 : Int32).toInt.toNat) ∧ (0 ≤ r_86.toInt) ∧ (r_86.toInt < 4294967296) := ch84
                          have w30 : r_86.toInt = aw A (hr.toInt + 30) 4 := by rw [fh87, n4, show ix83.toInt = hr.toInt + 30 by (exact omg_d3f919890e j0 tix83)]; exact av_A hA 4 (by (exact omg_5b192cb201 fh49 fh50 a2)) (by (exact omg_ded7adda34 e0 tjx76 tjx77 lwx79))
                          refine pb_eq (pc' := 243) (lo' := [(9, .int gd), (8, .int e8), (1, .int e), (2, .long hr), (4, .long n), (6, .long k), (0, .ref h)]) (rest' := [.long r_86]) (ws' := [(h, .inr (10, [.ref m_rels, .ref m_openRels, .ref m_closeRels, .ref m_openRel, .ref m_closeRel, .ref m_comment, .ref m_ends, .ref m_order, .int v_thrown, .int v_taped, .ref m_tape, .ref m_count, .ref m_nameSize, .ref m_names, .ref m_size, .ref m_data, .int v_lookedSize, .ref m_looked, .int v_fileSize, .ref m_file, .int v_directorySize, .ref m_directory, .int v_outSize, .ref m_out, .int v_rowSize, .ref m_row, .int v_bitAt, .int v_bitEnd, .int v_why, .int v_madeSize, .ref m_made, .ref m_length, .int v_firstCount, .int v_secondCount, .int v_heldBits, .int v_heldCount, .int v_pressedSize, .ref m_pressed, .int v_at, .int v_bad, .int v_markSize, .ref m_mark, .int v_relationCount, .ref m_idSize, .ref m_ids, .ref m_goalSize, .ref m_goals, .int v_valueSize, .ref m_value, .int v_faultCount, .ref m_faults, .ref m_reached])), (m_row, .inl (G.2.1, 20000, .inl a_row))]) ?_
                          refine pb_lconst (pc := 243) (v := 0) d_Mod_directoryFault_243 (by decide) ?_
                          refine pb_lcmp (pc := 244) d_Mod_directoryFault_244 ?_
                          refine pb_topi (fun ix90 eix90 => ?_)
                          have tix90 : (ix90.toInt < 0 ↔ r_86.toInt < 0) ∧ (ix90.toInt = 0 ↔ r_86.toInt = 0) ∧ (0 < ix90.toInt ↔ 0 < r_86.toInt) := tl_cmp eix90 rfl (by decide)
                          refine pb_if_ne (pc := 245) (tgt := 278) d_Mod_directoryFault_245 (by decide) (fun wx91 => ?_) (fun wx91 => ?_)
                          · have twx91 : ¬ ix90.toInt = 0 := fun z9 => wx91 ((ti_eq rfl (by decide)).mpr z9)
                            have lwx91 : ¬ r_86.toInt = 0 := fun z9 => twx91 (tix90.2.1.mpr z9)
                            clear tix90 twx91
                            refine pb_iconst (pc := 278) (v := 2) d_Mod_directoryFault_278 (by decide) ?_
                            exact pb_iret (pc := 279) hQ d_Mod_directoryFault_279 rfl rfl (2) ⟨rfl, (by (try dsimp only); first | done | (with_reducible assumption) | omega (splitDisjunctions := false) | assumption | omega | decide), (show (2 : Int32).toInt = 0 → 22 ≤ v_rowSize.toInt ∧ dq_ok a_row (av a_row (v_rowSize.toInt - 6) 4) (v_rowSize.toInt - 22) from (by first | exact fun h9 => absurd h9 (by omega) | exact fun _ => ⟨by omega, by omega, by omega, k.toInt.toNat, by omega, fun j hj9 => by have q9 := hj j hj9; omega⟩)), (show ((2 : Int32).toInt = 1 ∧ ¬ (22 ≤ v_rowSize.toInt ∧ ed_ A (v_rowSize.toInt - 22))) ∨ ((2 : Int32).toInt = 2 ∧ (22 ≤ v_rowSize.toInt ∧ ed_ A (v_rowSize.toInt - 22)) ∧ ¬ dw_ A (v_rowSize.toInt - 22)) ∨ ((2 : Int32).toInt = 0 ∧ (22 ≤ v_rowSize.toInt ∧ ed_ A (v_rowSize.toInt - 22)) ∧ dw_ A (v_rowSize.toInt - 22)) from (Or.inr (Or.inl ⟨(by first | decide | omega), eD5, fun q9 => dy_no (k := k.toInt.toNat) (by (exact omg_22111b28ba k0 hn5 lwx72)) (by rw [← hz]; exact fun q8 => (by obtain ⟨y0, y1, y2, y3, y4, y5, y6, y7⟩ := q8; first | exact hid_o g0 (by assumption) ⟨y1, y2, y3, y4⟩ | (exact omg_acd30192c0 w30 lwx91 y5))) q9.2⟩)))⟩ [0, 1] (by decide) rfl rfl (by decide) (by decide)
                          · have twx91 : ix90.toInt = 0 := (ti_eq rfl (by decide)).mp wx91
                            have lwx91 : r_86.toInt = 0 := tix90.2.1.mp twx91
                            clear tix90 twx91
                            refine pb_aload_n (pc := 248) d_Mod_directoryFault_248 6 rfl rfl ?_
                            refine pb_iload (pc := 249) d_Mod_directoryFault_249 1 rfl ?_
                            refine pb_bipush (pc := 251) (v := 34) d_Mod_directoryFault_251 (by decide) ?_
                            refine pb_iadd (pc := 253) d_Mod_directoryFault_253 ?_
                            refine pb_topi (fun ix92 eix92 => ?_)
                            try have tix92 : ix92.toInt = e8.toInt + 34 := t2_add eix92 rfl (by decide) (by (exact omg_9153a16913 h1 fh49 fh50 e0 a2 tjx76 tjx77 lwx79 j0))
                            refine pb_iconst (pc := 254) (v := 4) d_Mod_directoryFault_254 (by decide) ?_
                            refine pb_callV (pc := 255) (I := i_Mod_directoryFault) (qb := 0) (ci := 10) (nA := 2) (rest := []) (wr := []) d_Mod_directoryFault_255 (g_Mod_at hl G h m_rels m_openRels m_closeRels m_openRel m_closeRel m_comment m_ends m_order m_tape m_count m_nameSize m_names m_size m_data m_looked m_file m_directory m_out m_row m_made m_length m_pressed m_mark m_idSize m_ids m_goalSize m_goals m_value m_faults m_reached v_thrown v_taped v_lookedSize v_fileSize v_directorySize v_outSize v_rowSize v_bitAt v_bitEnd v_why v_madeSize v_firstCount v_secondCount v_heldBits v_heldCount v_pressedSize v_at v_bad v_markSize v_relationCount v_valueSize v_faultCount a_row ix92 4 (by first | (with_reducible assumption) | (exact omg_7b04bed2be fh49 fh50 a2 j0 tix92) | assumption | omega | decide) (by first | (with_reducible assumption) | omega (splitDisjunctions := false) | assumption | omega | decide) (by first | (with_reducible assumption) | omega (splitDisjunctions := false) | assumption | omega | decide) (by first | (with_reducible assumption) | (exact omg_53a49347f5 h1 zl4 e0 tjx76 tjx77 lwx79 j0 tix92) | assumption | omega | decide) (by first | assumption | decide | omega)) rfl rfl [0, 1] [] (by decide) rfl rfl rfl (by decide) (by decide) k_1529 rfl k_128 k_1526 k_1528 k_88 ⟨rfl, hy_Mod_at⟩ (by decide) rfl rfl (Nat.le_of_ble_eq_true rfl) (by decide) (fun v9 ux94 ch93 => ?_)
                            obtain ⟨r_95, rfl⟩ : ∃ z9, z9 = ux94 := ⟨_, rfl⟩
                            obtain ⟨ech93, ch93⟩ := ch93
                            have ech93 : v9 = some (.long r_95) := ech93
                            subst ech93
                            obtain ⟨fh96, fh97, fh98⟩ : (r_95.toInt = av a_row ix92.toInt (4 : Int32).toInt.toNat) ∧ (0 ≤ r_95.toInt) ∧ (r_95.toInt < 4294967296) := ch93
                            have w34 : r_95.toInt = aw A (hr.toInt + 34) 4 := by rw [fh96, n4, show ix92.toInt = hr.toInt + 34 by (exact omg_4229b534a4 j0 tix92)]; exact av_A hA 4 (by (exact omg_eec1f6c99d fh49 fh50 a2)) (by (exact omg_6887474981 e0 tjx76 tjx77 lwx79))
                            refine pb_eq (pc' := 258) (lo' := [(9, .int gd), (8, .int e8), (1, .int e), (2, .long hr), (4, .long n), (6, .long k), (0, .ref h)]) (rest' := [.long r_95]) (ws' := [(h, .inr (10, [.ref m_rels, .ref m_openRels, .ref m_closeRels, .ref m_openRel, .ref m_closeRel, .ref m_comment, .ref m_ends, .ref m_order, .int v_thrown, .int v_taped, .ref m_tape, .ref m_count, .ref m_nameSize, .ref m_names, .ref m_size, .ref m_data, .int v_lookedSize, .ref m_looked, .int v_fileSize, .ref m_file, .int v_directorySize, .ref m_directory, .int v_outSize, .ref m_out, .int v_rowSize, .ref m_row, .int v_bitAt, .int v_bitEnd, .int v_why, .int v_madeSize, .ref m_made, .ref m_length, .int v_firstCount, .int v_secondCount, .int v_heldBits, .int v_heldCount, .int v_pressedSize, .ref m_pressed, .int v_at, .int v_bad, .int v_markSize, .ref m_mark, .int v_relationCount, .ref m_idSize, .ref m_ids, .ref m_goalSize, .ref m_goals, .int v_valueSize, .ref m_value, .int v_faultCount, .ref m_faults, .ref m_reached])), (m_row, .inl (G.2.1, 20000, .inl a_row))]) ?_
                            refine pb_lconst (pc := 258) (v := 0) d_Mod_directoryFault_258 (by decide) ?_
                            refine pb_lcmp (pc := 259) d_Mod_directoryFault_259 ?_
                            refine pb_topi (fun ix99 eix99 => ?_)
                            have tix99 : (ix99.toInt < 0 ↔ r_95.toInt < 0) ∧ (ix99.toInt = 0 ↔ r_95.toInt = 0) ∧ (0 < ix99.toInt ↔ 0 < r_95.toInt) := tl_cmp eix99 rfl (by decide)
                            refine pb_if_ne (pc := 260) (tgt := 278) d_Mod_directoryFault_260 (by decide) (fun wx100 => ?_) (fun wx100 => ?_)
                            · have twx100 : ¬ ix99.toInt = 0 := fun z9 => wx100 ((ti_eq rfl (by decide)).mpr z9)
                              have lwx100 : ¬ r_95.toInt = 0 := fun z9 => twx100 (tix99.2.1.mpr z9)
                              clear tix99 twx100
                              refine pb_iconst (pc := 278) (v := 2) d_Mod_directoryFault_278 (by decide) ?_
                              exact pb_iret (pc := 279) hQ d_Mod_directoryFault_279 rfl rfl (2) ⟨rfl, (by (try dsimp only); first | done | (with_reducible assumption) | omega (splitDisjunctions := false) | assumption | omega | decide), (show (2 : Int32).toInt = 0 → 22 ≤ v_rowSize.toInt ∧ dq_ok a_row (av a_row (v_rowSize.toInt - 6) 4) (v_rowSize.toInt - 22) from (by first | exact fun h9 => absurd h9 (by omega) | exact fun _ => ⟨by omega, by omega, by omega, k.toInt.toNat, by omega, fun j hj9 => by have q9 := hj j hj9; omega⟩)), (show ((2 : Int32).toInt = 1 ∧ ¬ (22 ≤ v_rowSize.toInt ∧ ed_ A (v_rowSize.toInt - 22))) ∨ ((2 : Int32).toInt = 2 ∧ (22 ≤ v_rowSize.toInt ∧ ed_ A (v_rowSize.toInt - 22)) ∧ ¬ dw_ A (v_rowSize.toInt - 22)) ∨ ((2 : Int32).toInt = 0 ∧ (22 ≤ v_rowSize.toInt ∧ ed_ A (v_rowSize.toInt - 22)) ∧ dw_ A (v_rowSize.toInt - 22)) from (Or.inr (Or.inl ⟨(by first | decide | omega), eD5, fun q9 => dy_no (k := k.toInt.toNat) (by (exact omg_22111b28ba k0 hn5 lwx72)) (by rw [← hz]; exact fun q8 => (by obtain ⟨y0, y1, y2, y3, y4, y5, y6, y7⟩ := q8; first | exact hid_o g0 (by assumption) ⟨y1, y2, y3, y4⟩ | (exact omg_acd30192c0 w34 lwx100 y6))) q9.2⟩)))⟩ [0, 1] (by decide) rfl rfl (by decide) (by decide)
                            · have twx100 : ix99.toInt = 0 := (ti_eq rfl (by decide)).mp wx100
                              have lwx100 : r_95.toInt = 0 := tix99.2.1.mp twx100
                              clear tix99 twx100
                              refine pb_aload_n (pc := 263) d_Mod_directoryFault_263 6 rfl rfl ?_
                              refine pb_iload (pc := 264) d_Mod_directoryFault_264 1 rfl ?_
                              refine pb_bipush (pc := 266) (v := 38) d_Mod_directoryFault_266 (by decide) ?_
                              refine pb_iadd (pc := 268) d_Mod_directoryFault_268 ?_
                              refine pb_topi (fun ix101 eix101 => ?_)
                              try have tix101 : ix101.toInt = e8.toInt + 38 := t2_add eix101 rfl (by decide) (by (exact omg_eb23efd836 h1 fh49 fh50 e0 a2 tjx76 tjx77 lwx79 j0))
                              refine pb_iconst (pc := 269) (v := 4) d_Mod_directoryFault_269 (by decide) ?_
                              refine pb_callV (pc := 270) (I := i_Mod_directoryFault) (qb := 0) (ci := 10) (nA := 2) (rest := []) (wr := []) d_Mod_directoryFault_270 (g_Mod_at hl G h m_rels m_openRels m_closeRels m_openRel m_closeRel m_comment m_ends m_order m_tape m_count m_nameSize m_names m_size m_data m_looked m_file m_directory m_out m_row m_made m_length m_pressed m_mark m_idSize m_ids m_goalSize m_goals m_value m_faults m_reached v_thrown v_taped v_lookedSize v_fileSize v_directorySize v_outSize v_rowSize v_bitAt v_bitEnd v_why v_madeSize v_firstCount v_secondCount v_heldBits v_heldCount v_pressedSize v_at v_bad v_markSize v_relationCount v_valueSize v_faultCount a_row ix101 4 (by first | (with_reducible assumption) | (exact omg_2e3cff7bce fh49 fh50 a2 j0 tix101) | assumption | omega | decide) (by first | (with_reducible assumption) | omega (splitDisjunctions := false) | assumption | omega | decide) (by first | (with_reducible assumption) | omega (splitDisjunctions := false) | assumption | omega | decide) (by first | (with_reducible assumption) | (exact omg_72a20932d6 h1 zl4 e0 tjx76 tjx77 lwx79 j0 tix101) | assumption | omega | decide) (by first | assumption | decide | omega)) rfl rfl [0, 1] [] (by decide) rfl rfl rfl (by decide) (by decide) k_1529 rfl k_128 k_1526 k_1528 k_88 ⟨rfl, hy_Mod_at⟩ (by decide) rfl rfl (Nat.le_of_ble_eq_true rfl) (by decide) (fun v9 ux103 ch102 => ?_)
                              obtain ⟨r_104, rfl⟩ : ∃ z9, z9 = ux103 := ⟨_, rfl⟩
                              obtain ⟨ech102, ch102⟩ := ch102
                              have ech102 : v9 = some (.long r_104) := ech102
                              subst ech102
                              obtain ⟨fh105, fh106, fh107⟩ : (r_104.toInt = av a_row ix101.toInt (4 : Int32).toInt.toNat) ∧ (0 ≤ r_104.toInt) ∧ (r_104.toInt < 4294967296) := ch102
                              have w38 : r_104.toInt = aw A (hr.toInt + 38) 4 := by rw [fh105, n4, show ix101.toInt = hr.toInt + 38 by (exact omg_52fbd5a9e6 j0 tix101)]; exact av_A hA 4 (by (exact omg_5173ab9e6b fh49 fh50 a2)) (by (exact omg_11147cd1ec e0 tjx76 tjx77 lwx79))
                              refine pb_eq (pc' := 273) (lo' := [(9, .int gd), (8, .int e8), (1, .int e), (2, .long hr), (4, .long n), (6, .long k), (0, .ref h)]) (rest' := [.long r_104]) (ws' := [(h, .inr (10, [.ref m_rels, .ref m_openRels, .ref m_closeRels, .ref m_openRel, .ref m_closeRel, .ref m_comment, .ref m_ends, .ref m_order, .int v_thrown, .int v_taped, .ref m_tape, .ref m_count, .ref m_nameSize, .ref m_names, .ref m_size, .ref m_data, .int v_lookedSize, .ref m_looked, .int v_fileSize, .ref m_file, .int v_directorySize, .ref m_directory, .int v_outSize, .ref m_out, .int v_rowSize, .ref m_row, .int v_bitAt, .int v_bitEnd, .int v_why, .int v_madeSize, .ref m_made, .ref m_length, .int v_firstCount, .int v_secondCount, .int v_heldBits, .int v_heldCount, .int v_pressedSize, .ref m_pressed, .int v_at, .int v_bad, .int v_markSize, .ref m_mark, .int v_relationCount, .ref m_idSize, .ref m_ids, .ref m_goalSize, .ref m_goals, .int v_valueSize, .ref m_value, .int v_faultCount, .ref m_faults, .ref m_reached])), (m_row, .inl (G.2.1, 20000, .inl a_row))]) ?_
                              refine pb_lconst (pc := 273) (v := 0) d_Mod_directoryFault_273 (by decide) ?_
                              refine pb_lcmp (pc := 274) d_Mod_directoryFault_274 ?_
                              refine pb_topi (fun ix108 eix108 => ?_)
                              have tix108 : (ix108.toInt < 0 ↔ r_104.toInt < 0) ∧ (ix108.toInt = 0 ↔ r_104.toInt = 0) ∧ (0 < ix108.toInt ↔ 0 < r_104.toInt) := tl_cmp eix108 rfl (by decide)
                              refine pb_if_eq (pc := 275) (tgt := 280) d_Mod_directoryFault_275 (by decide) (fun wx109 => ?_) (fun wx109 => ?_)
                              · have twx109 : ix108.toInt = 0 := (ti_eq rfl (by decide)).mp wx109
                                have lwx109 : r_104.toInt = 0 := tix108.2.1.mp twx109
                                clear tix108 twx109
                                have d1 : dq a_row (av a_row (v_rowSize.toInt - 6) 4) (k.toInt + 1).toNat = dq a_row (av a_row (v_rowSize.toInt - 6) 4) k.toInt.toNat + 46 + av a_row (dq a_row (av a_row (v_rowSize.toInt - 6) 4) k.toInt.toNat + 28) 2 := by rw [show (k.toInt + 1).toNat = k.toInt.toNat + 1 by (exact omg_6277902315 k0), dq]
                                rw [← hq] at d1
                                have d2 := av2 a_row (hr.toInt + 28)
                                refine pb_lload_n (pc := 280) d_Mod_directoryFault_280 3 rfl rfl ?_
                                refine pb_ldc2 (pc := 281) (v := 46) d_Mod_directoryFault_281 k_1531 ?_
                                refine pb_ladd (pc := 284) d_Mod_directoryFault_284 ?_
                                refine pb_topl (fun jx110 ejx110 => ?_)
                                try have tjx110 : jx110.toInt = hr.toInt + 46 := tl_add ejx110 rfl (by decide) (by (exact omg_4af15ee253 fh49 fh50 a2)) (by (exact omg_883f1cc7fe h1 e0 tjx76 tjx77 lwx79))
                                refine pb_aload_n (pc := 285) d_Mod_directoryFault_285 6 rfl rfl ?_
                                refine pb_iload (pc := 286) d_Mod_directoryFault_286 1 rfl ?_
                                refine pb_bipush (pc := 288) (v := 28) d_Mod_directoryFault_288 (by decide) ?_
                                refine pb_iadd (pc := 290) d_Mod_directoryFault_290 ?_
                                refine pb_topi (fun ix111 eix111 => ?_)
                                try have tix111 : ix111.toInt = e8.toInt + 28 := t2_add eix111 rfl (by decide) (by (exact omg_b6937c67e3 h1 fh49 fh50 e0 a2 tjx76 tjx77 lwx79 j0))
                                refine pb_iconst (pc := 291) (v := 2) d_Mod_directoryFault_291 (by decide) ?_
                                refine pb_callV (pc := 292) (I := i_Mod_directoryFault) (qb := 0) (ci := 10) (nA := 2) (rest := [.long jx110]) (wr := []) d_Mod_directoryFault_292 (g_Mod_at hl G h m_rels m_openRels m_closeRels m_openRel m_closeRel m_comment m_ends m_order m_tape m_count m_nameSize m_names m_size m_data m_looked m_file m_directory m_out m_row m_made m_length m_pressed m_mark m_idSize m_ids m_goalSize m_goals m_value m_faults m_reached v_thrown v_taped v_lookedSize v_fileSize v_directorySize v_outSize v_rowSize v_bitAt v_bitEnd v_why v_madeSize v_firstCount v_secondCount v_heldBits v_heldCount v_pressedSize v_at v_bad v_markSize v_relationCount v_valueSize v_faultCount a_row ix111 2 (by first | (with_reducible assumption) | (exact omg_4ff73ff951 fh49 fh50 a2 j0 tix111) | assumption | omega | decide) (by first | (with_reducible assumption) | omega (splitDisjunctions := false) | assumption | omega | decide) (by first | (with_reducible assumption) | omega (splitDisjunctions := false) | assumption | omega | decide) (by first | (with_reducible assumption) | (exact omg_871660239f h1 zl2 e0 tjx76 tjx77 lwx79 j0 tix111) | assumption | omega | decide) (by first | assumption | decide | omega)) rfl rfl [0, 1] [] (by decide) rfl rfl rfl (by decide) (by decide) k_1529 rfl k_128 k_1526 k_1528 k_88 ⟨rfl, hy_Mod_at⟩ (by decide) rfl rfl (Nat.le_of_ble_eq_true rfl) (by decide) (fun v9 ux113 ch112 => ?_)
                                obtain ⟨r_114, rfl⟩ : ∃ z9, z9 = ux113 := ⟨_, rfl⟩
                                obtain ⟨ech112, ch112⟩ := ch112
                                have ech112 : v9 = some (.long r_114) := ech112
                                subst ech112
                                obtain ⟨fh115, fh116, fh117⟩ : (r_114.toInt = av a_row ix111.toInt (2 : Int32).toInt.toNat) ∧ (0 ≤ r_114.toInt) ∧ (r_114.toInt < 4294967296) := ch112
                                have w28 : r_114.toInt = aw A (hr.toInt + 28) 2 := by rw [fh115, n2, show ix111.toInt = hr.toInt + 28 by (exact omg_34c2695c5d j0 tix111)]; exact av_A hA 2 (by (exact omg_000a014e05 fh49 fh50 a2)) (by (exact omg_773bcafc6f e0 tjx76 tjx77 lwx79))
                                rw [n2, show ix111.toInt = hr.toInt + 28 by (exact omg_34c2695c5d j0 tix111)] at fh115
                                refine pb_eq (pc' := 295) (lo' := [(9, .int gd), (8, .int e8), (1, .int e), (2, .long hr), (4, .long n), (6, .long k), (0, .ref h)]) (rest' := [.long r_114, .long jx110]) (ws' := [(h, .inr (10, [.ref m_rels, .ref m_openRels, .ref m_closeRels, .ref m_openRel, .ref m_closeRel, .ref m_comment, .ref m_ends, .ref m_order, .int v_thrown, .int v_taped, .ref m_tape, .ref m_count, .ref m_nameSize, .ref m_names, .ref m_size, .ref m_data, .int v_lookedSize, .ref m_looked, .int v_fileSize, .ref m_file, .int v_directorySize, .ref m_directory, .int v_outSize, .ref m_out, .int v_rowSize, .ref m_row, .int v_bitAt, .int v_bitEnd, .int v_why, .int v_madeSize, .ref m_made, .ref m_length, .int v_firstCount, .int v_secondCount, .int v_heldBits, .int v_heldCount, .int v_pressedSize, .ref m_pressed, .int v_at, .int v_bad, .int v_markSize, .ref m_mark, .int v_relationCount, .ref m_idSize, .ref m_ids, .ref m_goalSize, .ref m_goals, .int v_valueSize, .ref m_value, .int v_faultCount, .ref m_faults, .ref m_reached])), (m_row, .inl (G.2.1, 20000, .inl a_row))]) ?_
                                refine pb_ladd (pc := 295) d_Mod_directoryFault_295 ?_
                                refine pb_topl (fun jx118 ejx118 => ?_)
                                try have tjx118 : jx118.toInt = jx110.toInt + r_114.toInt := tl_add ejx118 rfl rfl (by (exact omg_249ca7e36b fh49 fh50 a2 d2 tjx110 fh115)) (by (exact omg_6cae852cfa h1 e0 tjx76 tjx77 lwx79 d2 tjx110 fh115))
                                refine pb_lstore_n (pc := 296) (lo' := [(2, .long jx118), (9, .int gd), (8, .int e8), (1, .int e), (4, .long n), (6, .long k), (0, .ref h)]) d_Mod_directoryFault_296 rfl (by decide) rfl ?_
                                refine pb_lload (pc := 297) d_Mod_directoryFault_297 5 rfl ?_
                                refine pb_lconst (pc := 299) (v := 1) d_Mod_directoryFault_299 (by decide) ?_
                                refine pb_ladd (pc := 300) d_Mod_directoryFault_300 ?_
                                refine pb_topl (fun jx119 ejx119 => ?_)
                                try have tjx119 : jx119.toInt = k.toInt + 1 := tl_add ejx119 rfl (by decide) (by omega) (by (exact omg_869da37f31 fh69 v8 hn5 lwx72))
                                refine pb_lstore (pc := 301) (lo' := [(6, .long jx119), (2, .long jx118), (9, .int gd), (8, .int e8), (1, .int e), (4, .long n), (0, .ref h)]) d_Mod_directoryFault_301 (by decide) rfl ?_
                                refine pb_goto (pc := 303) (tgt := 119) d_Mod_directoryFault_303 (by decide) ?_
                                refine pb_re (ws' := [(h, .inr (10, [.ref m_rels, .ref m_openRels, .ref m_closeRels, .ref m_openRel, .ref m_closeRel, .ref m_comment, .ref m_ends, .ref m_order, .int v_thrown, .int v_taped, .ref m_tape, .ref m_count, .ref m_nameSize, .ref m_names, .ref m_size, .ref m_data, .int v_lookedSize, .ref m_looked, .int v_fileSize, .ref m_file, .int v_directorySize, .ref m_directory, .int v_outSize, .ref m_out, .int v_rowSize, .ref m_row, .int v_bitAt, .int v_bitEnd, .int v_why, .int v_madeSize, .ref m_made, .ref m_length, .int v_firstCount, .int v_secondCount, .int v_heldBits, .int v_heldCount, .int v_pressedSize, .ref m_pressed, .int v_at, .int v_bad, .int v_markSize, .ref m_mark, .int v_relationCount, .ref m_idSize, .ref m_ids, .ref m_goalSize, .ref m_goals, .int v_valueSize, .ref m_value, .int v_faultCount, .ref m_faults, .ref m_reached])), (m_row, .inl (G.2.1, 20000, .inl a_row))]) (lo' := [(1, .int e), (2, .long jx118), (4, .long n), (6, .long jx119), (0, .ref h)]) [0, 1] [4, 1, 5, 0, 6] (by decide) rfl rfl rfl ?_
                                exact ih119 e jx118 n jx119 (by first | (with_reducible assumption) | omega (splitDisjunctions := false) | assumption | omega | decide) (by first | (with_reducible assumption) | omega (splitDisjunctions := false) | assumption | omega | decide) (by first | (with_reducible assumption) | (exact omg_c14412231a k0 tjx119) | assumption | omega | decide) (by first | (with_reducible assumption) | (exact omg_7a2756d7e5 lwx72 tjx119) | assumption | omega | decide) (by first | (with_reducible assumption) | omega (splitDisjunctions := false) | assumption | omega | decide) (by first | (with_reducible assumption) | omega (splitDisjunctions := false) | assumption | omega | decide) (by first | (with_reducible assumption) | omega (splitDisjunctions := false) | assumption | omega | decide) (by first | (with_reducible assumption) | (exact omg_b8480993d2 a2 d2 tjx110 fh115 tjx118) | assumption | omega | decide) (by first | (with_reducible assumption) | (exact omg_398401055d tjx76 tjx77 lwx79 d2 tjx110 fh115 tjx118) | assumption | omega | decide) (by rw [show jx119.toInt = k.toInt + 1 by omega, d1]; (exact omg_8dfd9be85f tjx110 fh115 tjx118)) (fun j hj9 => if w : j < k.toInt.toNat then hj j w else by rw [show j = k.toInt.toNat by (exact omg_f926a79b38 tjx119 hj9 w), ← hq]; (exact omg_e90ec815c5 tjx76 tjx77 lwx79)) (by first | (with_reducible assumption) | omega (splitDisjunctions := false) | assumption | omega | decide) (by first | (with_reducible assumption) | omega (splitDisjunctions := false) | assumption | omega | decide) (by first | (with_reducible assumption) | omega (splitDisjunctions := false) | assumption | omega | decide) (by rw [show jx119.toInt.toNat = k.toInt.toNat + 1 by (exact omg_c719e3dd87 k0 tjx119)]; show _ = dz A (aw A (v_rowSize.toInt - 22 + 16) 4) k.toInt.toNat + 46 + aw A (dz A (aw A (v_rowSize.toInt - 22 + 16) 4) k.toInt.toNat + 28) 2; rw [← hz]; (exact omg_8dfd9be85f tjx110 w28 tjx118)) (by rw [show jx119.toInt.toNat = k.toInt.toNat + 1 by (exact omg_c719e3dd87 k0 tjx119)]; exact dy_s hy (by rw [← hz]; have q9 := hid_o g1 (by (exact omg_d9c3f42b32 g2 twx82)); exact ⟨by (exact omg_cb6d1a52c2 e0 tjx76 tjx77 lwx79), q9.1, q9.2.1, q9.2.2.1, q9.2.2.2, by (exact omg_3ece37706e w30 lwx91), by (exact omg_3ece37706e w34 lwx100), by (exact omg_3ece37706e w38 lwx109)⟩)) (by (exact omg_7ae9ecbd7c hm9 lwx72 tjx119))
                              · have twx109 : ¬ ix108.toInt = 0 := fun z9 => wx109 ((ti_eq rfl (by decide)).mpr z9)
                                have lwx109 : ¬ r_104.toInt = 0 := fun z9 => twx109 (tix108.2.1.mpr z9)
                                clear tix108 twx109
                                refine pb_iconst (pc := 278) (v := 2) d_Mod_directoryFault_278 (by decide) ?_
                                exact pb_iret (pc := 279) hQ d_Mod_directoryFault_279 rfl rfl (2) ⟨rfl, (by (try dsimp only); first | done | (with_reducible assumption) | omega (splitDisjunctions := false) | assumption | omega | decide), (show (2 : Int32).toInt = 0 → 22 ≤ v_rowSize.toInt ∧ dq_ok a_row (av a_row (v_rowSize.toInt - 6) 4) (v_rowSize.toInt - 22) from (by first | exact fun h9 => absurd h9 (by omega) | exact fun _ => ⟨by omega, by omega, by omega, k.toInt.toNat, by omega, fun j hj9 => by have q9 := hj j hj9; omega⟩)), (show ((2 : Int32).toInt = 1 ∧ ¬ (22 ≤ v_rowSize.toInt ∧ ed_ A (v_rowSize.toInt - 22))) ∨ ((2 : Int32).toInt = 2 ∧ (22 ≤ v_rowSize.toInt ∧ ed_ A (v_rowSize.toInt - 22)) ∧ ¬ dw_ A (v_rowSize.toInt - 22)) ∨ ((2 : Int32).toInt = 0 ∧ (22 ≤ v_rowSize.toInt ∧ ed_ A (v_rowSize.toInt - 22)) ∧ dw_ A (v_rowSize.toInt - 22)) from (Or.inr (Or.inl ⟨(by first | decide | omega), eD5, fun q9 => dy_no (k := k.toInt.toNat) (by (exact omg_22111b28ba k0 hn5 lwx72)) (by rw [← hz]; exact fun q8 => (by obtain ⟨y0, y1, y2, y3, y4, y5, y6, y7⟩ := q8; first | exact hid_o g0 (by assumption) ⟨y1, y2, y3, y4⟩ | (exact omg_acd30192c0 w38 lwx109 y7))) q9.2⟩)))⟩ [0, 1] (by decide) rfl rfl (by decide) (by decide)
                      refine pb_aload_n (pc := 144) d_Mod_directoryFault_144 5 rfl rfl ?_
                      refine pb_iload (pc := 145) d_Mod_directoryFault_145 0 rfl ?_
                      refine pb_iconst (pc := 147) (v := 4) d_Mod_directoryFault_147 (by decide) ?_
                      refine pb_callV (pc := 148) (I := i_Mod_directoryFault) (qb := 0) (ci := 10) (nA := 2) (rest := []) (wr := []) d_Mod_directoryFault_148 (g_Mod_at hl G h m_rels m_openRels m_closeRels m_openRel m_closeRel m_comment m_ends m_order m_tape m_count m_nameSize m_names m_size m_data m_looked m_file m_directory m_out m_row m_made m_length m_pressed m_mark m_idSize m_ids m_goalSize m_goals m_value m_faults m_reached v_thrown v_taped v_lookedSize v_fileSize v_directorySize v_outSize v_rowSize v_bitAt v_bitEnd v_why v_madeSize v_firstCount v_secondCount v_heldBits v_heldCount v_pressedSize v_at v_bad v_markSize v_relationCount v_valueSize v_faultCount a_row ix80 4 (by first | (with_reducible assumption) | (exact omg_19ecdbba92 fh49 fh50 a2 tix80) | assumption | omega | decide) (by first | (with_reducible assumption) | omega (splitDisjunctions := false) | assumption | omega | decide) (by first | (with_reducible assumption) | omega (splitDisjunctions := false) | assumption | omega | decide) (by first | (with_reducible assumption) | (exact omg_6e1458a8d6 h1 zl4 e0 tjx76 tjx77 lwx79 tix80) | assumption | omega | decide) F_a_row) rfl rfl [0, 1] [] (by decide) rfl rfl rfl (by decide) (by decide) k_1529 rfl k_128 k_1526 k_1528 k_88 ⟨rfl, hy_Mod_at⟩ (by decide) rfl rfl (Nat.le_of_ble_eq_true rfl) (by decide) (fun v9 ux121 ch120 => ?_)
                      obtain ⟨r_122, rfl⟩ : ∃ z9, z9 = ux121 := ⟨_, rfl⟩
                      obtain ⟨ech120, ch120⟩ := ch120
                      have ech120 : v9 = some (.long r_122) := ech120
                      subst ech120
                      obtain ⟨fh123, fh124, fh125⟩ : (r_122.toInt = av a_row ix80.toInt (4 : Int32).toInt.toNat) ∧ (0 ≤ r_122.toInt) ∧ (r_122.toInt < 4294967296) := ch120
                      have w0 : r_122.toInt = aw A (hr.toInt) 4 := by rw [fh123, n4, show ix80.toInt = hr.toInt by omega]; exact av_A hA 4 (by (exact omg_df842543cd fh49 fh50 a2)) (by (exact omg_9b0826fee8 e0 tjx76 tjx77 lwx79))
                      refine pb_eq (pc' := 151) (lo' := [(8, .int ix80), (1, .int e), (2, .long hr), (4, .long n), (6, .long k), (0, .ref h)]) (rest' := [.long r_122]) (ws' := [(h, .inr (10, [.ref m_rels, .ref m_openRels, .ref m_closeRels, .ref m_openRel, .ref m_closeRel, .ref m_comment, .ref m_ends, .ref m_order, .int v_thrown, .int v_taped, .ref m_tape, .ref m_count, .ref m_nameSize, .ref m_names, .ref m_size, .ref m_data, .int v_lookedSize, .ref m_looked, .int v_fileSize, .ref m_file, .int v_directorySize, .ref m_directory, .int v_outSize, .ref m_out, .int v_rowSize, .ref m_row, .int v_bitAt, .int v_bitEnd, .int v_why, .int v_madeSize, .ref m_made, .ref m_length, .int v_firstCount, .int v_secondCount, .int v_heldBits, .int v_heldCount, .int v_pressedSize, .ref m_pressed, .int v_at, .int v_bad, .int v_markSize, .ref m_mark, .int v_relationCount, .ref m_idSize, .ref m_ids, .ref m_goalSize, .ref m_goals, .int v_valueSize, .ref m_value, .int v_faultCount, .ref m_faults, .ref m_reached])), (m_row, .inl (G.2.1, 20000, .inl a_row))]) ?_
                      refine pb_ldc2 (pc := 151) (v := 33639248) d_Mod_directoryFault_151 k_1504 ?_
                      refine pb_lcmp (pc := 154) d_Mod_directoryFault_154 ?_
                      refine pb_topi (fun ix126 eix126 => ?_)
                      have tix126 : (ix126.toInt < 0 ↔ r_122.toInt < 33639248) ∧ (ix126.toInt = 0 ↔ r_122.toInt = 33639248) ∧ (0 < ix126.toInt ↔ 33639248 < r_122.toInt) := tl_cmp eix126 rfl (by decide)
                      refine pb_if_ne (pc := 155) (tgt := 225) d_Mod_directoryFault_155 (by decide) (fun wx127 => ?_) (fun wx127 => ?_)
                      · have twx127 : ¬ ix126.toInt = 0 := fun z9 => wx127 ((ti_eq rfl (by decide)).mpr z9)
                        have lwx127 : ¬ r_122.toInt = 33639248 := fun z9 => twx127 (tix126.2.1.mpr z9)
                        clear tix126 twx127
                        refine pb_iconst (pc := 225) (v := 0) d_Mod_directoryFault_225 (by decide) ?_
                        refine pb_istore (pc := 226) (lo' := [(9, .int 0), (8, .int ix80), (1, .int e), (2, .long hr), (4, .long n), (6, .long k), (0, .ref h)]) d_Mod_directoryFault_226 (by decide) rfl ?_
                        exact hJ228_81 0 ix80 (by first | (with_reducible assumption) | omega (splitDisjunctions := false) | assumption | omega | decide) (hid_i (by first | exact fun q9 => absurd q9 (by decide) | exact fun _ => ⟨by omega, by omega, by omega, by omega⟩)) (hid_i (by first | exact fun q9 => absurd q9 (by decide) | exact fun _ q9 => (by obtain ⟨y1, y2, y3, y4⟩ := q9; omega))) (by first | (with_reducible assumption) | omega (splitDisjunctions := false) | assumption | omega | decide)
                      · have twx127 : ix126.toInt = 0 := (ti_eq rfl (by decide)).mp wx127
                        have lwx127 : r_122.toInt = 33639248 := tix126.2.1.mp twx127
                        clear tix126 twx127
                        refine pb_aload_n (pc := 158) d_Mod_directoryFault_158 5 rfl rfl ?_
                        refine pb_iload (pc := 159) d_Mod_directoryFault_159 0 rfl ?_
                        refine pb_iconst (pc := 161) (v := 4) d_Mod_directoryFault_161 (by decide) ?_
                        refine pb_iadd (pc := 162) d_Mod_directoryFault_162 ?_
                        refine pb_topi (fun ix128 eix128 => ?_)
                        try have tix128 : ix128.toInt = ix80.toInt + 4 := t2_add eix128 rfl (by decide) (by (exact omg_4c226eb738 h1 fh49 fh50 e0 a2 tjx76 tjx77 lwx79 tix80))
                        refine pb_iconst (pc := 163) (v := 4) d_Mod_directoryFault_163 (by decide) ?_
                        refine pb_callV (pc := 164) (I := i_Mod_directoryFault) (qb := 0) (ci := 10) (nA := 2) (rest := []) (wr := []) d_Mod_directoryFault_164 (g_Mod_at hl G h m_rels m_openRels m_closeRels m_openRel m_closeRel m_comment m_ends m_order m_tape m_count m_nameSize m_names m_size m_data m_looked m_file m_directory m_out m_row m_made m_length m_pressed m_mark m_idSize m_ids m_goalSize m_goals m_value m_faults m_reached v_thrown v_taped v_lookedSize v_fileSize v_directorySize v_outSize v_rowSize v_bitAt v_bitEnd v_why v_madeSize v_firstCount v_secondCount v_heldBits v_heldCount v_pressedSize v_at v_bad v_markSize v_relationCount v_valueSize v_faultCount a_row ix128 4 (by first | (with_reducible assumption) | (exact omg_85e7fa7814 fh49 fh50 a2 tix80 tix128) | assumption | omega | decide) (by first | (with_reducible assumption) | omega (splitDisjunctions := false) | assumption | omega | decide) (by first | (with_reducible assumption) | omega (splitDisjunctions := false) | assumption | omega | decide) (by first | (with_reducible assumption) | (exact omg_929380fb42 h1 zl4 e0 tjx76 tjx77 lwx79 tix80 tix128) | assumption | omega | decide) F_a_row) rfl rfl [0, 1] [] (by decide) rfl rfl rfl (by decide) (by decide) k_1529 rfl k_128 k_1526 k_1528 k_88 ⟨rfl, hy_Mod_at⟩ (by decide) rfl rfl (Nat.le_of_ble_eq_true rfl) (by decide) (fun v9 ux130 ch129 => ?_)
                        obtain ⟨r_131, rfl⟩ : ∃ z9, z9 = ux130 := ⟨_, rfl⟩
                        obtain ⟨ech129, ch129⟩ := ch129
                        have ech129 : v9 = some (.long r_131) := ech129
                        subst ech129
                        obtain ⟨fh132, fh133, fh134⟩ : (r_131.toInt = av a_row ix128.toInt (4 : Int32).toInt.toNat) ∧ (0 ≤ r_131.toInt) ∧ (r_131.toInt < 4294967296) := ch129
                        have w4 : r_131.toInt = aw A (hr.toInt + 4) 4 := by rw [fh132, n4, show ix128.toInt = hr.toInt + 4 by (exact omg_e19fe5d0d1 tix80 tix128)]; exact av_A hA 4 (by (exact omg_8fba624501 fh49 fh50 a2)) (by (exact omg_befd074f65 e0 tjx76 tjx77 lwx79))
                        refine pb_eq (pc' := 167) (lo' := [(8, .int ix80), (1, .int e), (2, .long hr), (4, .long n), (6, .long k), (0, .ref h)]) (rest' := [.long r_131]) (ws' := [(h, .inr (10, [.ref m_rels, .ref m_openRels, .ref m_closeRels, .ref m_openRel, .ref m_closeRel, .ref m_comment, .ref m_ends, .ref m_order, .int v_thrown, .int v_taped, .ref m_tape, .ref m_count, .ref m_nameSize, .ref m_names, .ref m_size, .ref m_data, .int v_lookedSize, .ref m_looked, .int v_fileSize, .ref m_file, .int v_directorySize, .ref m_directory, .int v_outSize, .ref m_out, .int v_rowSize, .ref m_row, .int v_bitAt, .int v_bitEnd, .int v_why, .int v_madeSize, .ref m_made, .ref m_length, .int v_firstCount, .int v_secondCount, .int v_heldBits, .int v_heldCount, .int v_pressedSize, .ref m_pressed, .int v_at, .int v_bad, .int v_markSize, .ref m_mark, .int v_relationCount, .ref m_idSize, .ref m_ids, .ref m_goalSize, .ref m_goals, .int v_valueSize, .ref m_value, .int v_faultCount, .ref m_faults, .ref m_reached])), (m_row, .inl (G.2.1, 20000, .inl a_row))]) ?_
                        refine pb_ldc2 (pc := 167) (v := 1310740) d_Mod_directoryFault_167 k_1532 ?_
                        refine pb_lcmp (pc := 170) d_Mod_directoryFault_170 ?_
                        refine pb_topi (fun ix135 eix135 => ?_)
                        have tix135 : (ix135.toInt < 0 ↔ r_131.toInt < 1310740) ∧ (ix135.toInt = 0 ↔ r_131.toInt = 1310740) ∧ (0 < ix135.toInt ↔ 1310740 < r_131.toInt) := tl_cmp eix135 rfl (by decide)
                        refine pb_if_ne (pc := 171) (tgt := 225) d_Mod_directoryFault_171 (by decide) (fun wx136 => ?_) (fun wx136 => ?_)
                        · have twx136 : ¬ ix135.toInt = 0 := fun z9 => wx136 ((ti_eq rfl (by decide)).mpr z9)
                          have lwx136 : ¬ r_131.toInt = 1310740 := fun z9 => twx136 (tix135.2.1.mpr z9)
                          clear tix135 twx136
                          refine pb_iconst (pc := 225) (v := 0) d_Mod_directoryFault_225 (by decide) ?_
                          refine pb_istore (pc := 226) (lo' := [(9, .int 0), (8, .int ix80), (1, .int e), (2, .long hr), (4, .long n), (6, .long k), (0, .ref h)]) d_Mod_directoryFault_226 (by decide) rfl ?_
                          exact hJ228_81 0 ix80 (by first | (with_reducible assumption) | omega (splitDisjunctions := false) | assumption | omega | decide) (hid_i (by first | exact fun q9 => absurd q9 (by decide) | exact fun _ => ⟨by omega, by omega, by omega, by omega⟩)) (hid_i (by first | exact fun q9 => absurd q9 (by decide) | exact fun _ q9 => (by obtain ⟨y1, y2, y3, y4⟩ := q9; omega))) (by first | (with_reducible assumption) | omega (splitDisjunctions := false) | assumption | omega | decide)
                        · have twx136 : ix135.toInt = 0 := (ti_eq rfl (by decide)).mp wx136
                          have lwx136 : r_131.toInt = 1310740 := tix135.2.1.mp twx136
                          clear tix135 twx136
                          refine pb_aload_n (pc := 174) d_Mod_directoryFault_174 5 rfl rfl ?_
                          refine pb_iload (pc := 175) d_Mod_directoryFault_175 0 rfl ?_
                          refine pb_bipush (pc := 177) (v := 8) d_Mod_directoryFault_177 (by decide) ?_
                          refine pb_iadd (pc := 179) d_Mod_directoryFault_179 ?_
                          refine pb_topi (fun ix137 eix137 => ?_)
                          try have tix137 : ix137.toInt = ix80.toInt + 8 := t2_add eix137 rfl (by decide) (by (exact omg_922685428c h1 fh49 fh50 e0 a2 tjx76 tjx77 lwx79 tix80))
                          refine pb_iconst (pc := 180) (v := 2) d_Mod_directoryFault_180 (by decide) ?_
                          refine pb_callV (pc := 181) (I := i_Mod_directoryFault) (qb := 0) (ci := 10) (nA := 2) (rest := []) (wr := []) d_Mod_directoryFault_181 (g_Mod_at hl G h m_rels m_openRels m_closeRels m_openRel m_closeRel m_comment m_ends m_order m_tape m_count m_nameSize m_names m_size m_data m_looked m_file m_directory m_out m_row m_made m_length m_pressed m_mark m_idSize m_ids m_goalSize m_goals m_value m_faults m_reached v_thrown v_taped v_lookedSize v_fileSize v_directorySize v_outSize v_rowSize v_bitAt v_bitEnd v_why v_madeSize v_firstCount v_secondCount v_heldBits v_heldCount v_pressedSize v_at v_bad v_markSize v_relationCount v_valueSize v_faultCount a_row ix137 2 (by first | (with_reducible assumption) | (exact omg_19c3946a5d fh49 fh50 a2 tix80 tix137) | assumption | omega | decide) (by first | (with_reducible assumption) | omega (splitDisjunctions := false) | assumption | omega | decide) (by first | (with_reducible assumption) | omega (splitDisjunctions := false) | assumption | omega | decide) (by first | (with_reducible assumption) | (exact omg_8ee4859492 h1 zl2 e0 tjx76 tjx77 lwx79 tix80 tix137) | assumption | omega | decide) F_a_row) rfl rfl [0, 1] [] (by decide) rfl rfl rfl (by decide) (by decide) k_1529 rfl k_128 k_1526 k_1528 k_88 ⟨rfl, hy_Mod_at⟩ (by decide) rfl rfl (Nat.le_of_ble_eq_true rfl) (by decide) (fun v9 ux139 ch138 => ?_)
                          obtain ⟨r_140, rfl⟩ : ∃ z9, z9 = ux139 := ⟨_, rfl⟩
                          obtain ⟨ech138, ch138⟩ := ch138
                          have ech138 : v9 = some (.long r_140) := ech138
                          subst ech138
                          obtain ⟨fh141, fh142, fh143⟩ : (r_140.toInt = av a_row ix137.toInt (2 : Int32).toInt.toNat) ∧ (0 ≤ r_140.toInt) ∧ (r_140.toInt < 4294967296) := ch138
                          have w8 : r_140.toInt = aw A (hr.toInt + 8) 2 := by rw [fh141, n2, show ix137.toInt = hr.toInt + 8 by (exact omg_c647d57480 tix80 tix137)]; exact av_A hA 2 (by (exact omg_4c9f55585f fh49 fh50 a2)) (by (exact omg_f5efd0557b e0 tjx76 tjx77 lwx79))
                          refine pb_eq (pc' := 184) (lo' := [(8, .int ix80), (1, .int e), (2, .long hr), (4, .long n), (6, .long k), (0, .ref h)]) (rest' := [.long r_140]) (ws' := [(h, .inr (10, [.ref m_rels, .ref m_openRels, .ref m_closeRels, .ref m_openRel, .ref m_closeRel, .ref m_comment, .ref m_ends, .ref m_order, .int v_thrown, .int v_taped, .ref m_tape, .ref m_count, .ref m_nameSize, .ref m_names, .ref m_size, .ref m_data, .int v_lookedSize, .ref m_looked, .int v_fileSize, .ref m_file, .int v_directorySize, .ref m_directory, .int v_outSize, .ref m_out, .int v_rowSize, .ref m_row, .int v_bitAt, .int v_bitEnd, .int v_why, .int v_madeSize, .ref m_made, .ref m_length, .int v_firstCount, .int v_secondCount, .int v_heldBits, .int v_heldCount, .int v_pressedSize, .ref m_pressed, .int v_at, .int v_bad, .int v_markSize, .ref m_mark, .int v_relationCount, .ref m_idSize, .ref m_ids, .ref m_goalSize, .ref m_goals, .int v_valueSize, .ref m_value, .int v_faultCount, .ref m_faults, .ref m_reached])), (m_row, .inl (G.2.1, 20000, .inl a_row))]) ?_
                          refine pb_lconst (pc := 184) (v := 0) d_Mod_directoryFault_184 (by decide) ?_
                          refine pb_lcmp (pc := 185) d_Mod_directoryFault_185 ?_
                          refine pb_topi (fun ix144 eix144 => ?_)
                          have tix144 : (ix144.toInt < 0 ↔ r_140.toInt < 0) ∧ (ix144.toInt = 0 ↔ r_140.toInt = 0) ∧ (0 < ix144.toInt ↔ 0 < r_140.toInt) := tl_cmp eix144 rfl (by decide)
                          refine pb_if_ne (pc := 186) (tgt := 225) d_Mod_directoryFault_186 (by decide) (fun wx145 => ?_) (fun wx145 => ?_)
                          · have twx145 : ¬ ix144.toInt = 0 := fun z9 => wx145 ((ti_eq rfl (by decide)).mpr z9)
                            have lwx145 : ¬ r_140.toInt = 0 := fun z9 => twx145 (tix144.2.1.mpr z9)
                            clear tix144 twx145
                            refine pb_iconst (pc := 225) (v := 0) d_Mod_directoryFault_225 (by decide) ?_
                            refine pb_istore (pc := 226) (lo' := [(9, .int 0), (8, .int ix80), (1, .int e), (2, .long hr), (4, .long n), (6, .long k), (0, .ref h)]) d_Mod_directoryFault_226 (by decide) rfl ?_
                            exact hJ228_81 0 ix80 (by first | (with_reducible assumption) | omega (splitDisjunctions := false) | assumption | omega | decide) (hid_i (by first | exact fun q9 => absurd q9 (by decide) | exact fun _ => ⟨by omega, by omega, by omega, by omega⟩)) (hid_i (by first | exact fun q9 => absurd q9 (by decide) | exact fun _ q9 => (by obtain ⟨y1, y2, y3, y4⟩ := q9; (exact omg_acd30192c0 w8 lwx145 y3)))) (by first | (with_reducible assumption) | omega (splitDisjunctions := false) | assumption | omega | decide)
                          · have twx145 : ix144.toInt = 0 := (ti_eq rfl (by decide)).mp wx145
                            have lwx145 : r_140.toInt = 0 := tix144.2.1.mp twx145
                            clear tix144 twx145
                            refine pb_aload_n (pc := 189) d_Mod_directoryFault_189 5 rfl rfl ?_
                            refine pb_iload (pc := 190) d_Mod_directoryFault_190 0 rfl ?_
                            refine pb_bipush (pc := 192) (v := 10) d_Mod_directoryFault_192 (by decide) ?_
                            refine pb_iadd (pc := 194) d_Mod_directoryFault_194 ?_
                            refine pb_topi (fun ix146 eix146 => ?_)
                            try have tix146 : ix146.toInt = ix80.toInt + 10 := t2_add eix146 rfl (by decide) (by (exact omg_544d97ef14 h1 fh49 fh50 e0 a2 tjx76 tjx77 lwx79 tix80))
                            refine pb_iconst (pc := 195) (v := 2) d_Mod_directoryFault_195 (by decide) ?_
                            refine pb_callV (pc := 196) (I := i_Mod_directoryFault) (qb := 0) (ci := 10) (nA := 2) (rest := []) (wr := []) d_Mod_directoryFault_196 (g_Mod_at hl G h m_rels m_openRels m_closeRels m_openRel m_closeRel m_comment m_ends m_order m_tape m_count m_nameSize m_names m_size m_data m_looked m_file m_directory m_out m_row m_made m_length m_pressed m_mark m_idSize m_ids m_goalSize m_goals m_value m_faults m_reached v_thrown v_taped v_lookedSize v_fileSize v_directorySize v_outSize v_rowSize v_bitAt v_bitEnd v_why v_madeSize v_firstCount v_secondCount v_heldBits v_heldCount v_pressedSize v_at v_bad v_markSize v_relationCount v_valueSize v_faultCount a_row ix146 2 (by first | (with_reducible assumption) | (exact omg_c0bb658020 fh49 fh50 a2 tix80 tix146) | assumption | omega | decide) (by first | (with_reducible assumption) | omega (splitDisjunctions := false) | assumption | omega | decide) (by first | (with_reducible assumption) | omega (splitDisjunctions := false) | assumption | omega | decide) (by first | (with_reducible assumption) | (exact omg_55fb946007 h1 zl2 e0 tjx76 tjx77 lwx79 tix80 tix146) | assumption | omega | decide) F_a_row) rfl rfl [0, 1] [] (by decide) rfl rfl rfl (by decide) (by decide) k_1529 rfl k_128 k_1526 k_1528 k_88 ⟨rfl, hy_Mod_at⟩ (by decide) rfl rfl (Nat.le_of_ble_eq_true rfl) (by decide) (fun v9 ux148 ch147 => ?_)
                            obtain ⟨r_149, rfl⟩ : ∃ z9, z9 = ux148 := ⟨_, rfl⟩
                            obtain ⟨ech147, ch147⟩ := ch147
                            have ech147 : v9 = some (.long r_149) := ech147
                            subst ech147
                            obtain ⟨fh150, fh151, fh152⟩ : (r_149.toInt = av a_row ix146.toInt (2 : Int32).toInt.toNat) ∧ (0 ≤ r_149.toInt) ∧ (r_149.toInt < 4294967296) := ch147
                            have w10 : r_149.toInt = aw A (hr.toInt + 10) 2 := by rw [fh150, n2, show ix146.toInt = hr.toInt + 10 by (exact omg_e40bc9cb46 tix80 tix146)]; exact av_A hA 2 (by (exact omg_bbc78c4057 fh49 fh50 a2)) (by (exact omg_026e0903d4 e0 tjx76 tjx77 lwx79))
                            refine pb_eq (pc' := 199) (lo' := [(8, .int ix80), (1, .int e), (2, .long hr), (4, .long n), (6, .long k), (0, .ref h)]) (rest' := [.long r_149]) (ws' := [(h, .inr (10, [.ref m_rels, .ref m_openRels, .ref m_closeRels, .ref m_openRel, .ref m_closeRel, .ref m_comment, .ref m_ends, .ref m_order, .int v_thrown, .int v_taped, .ref m_tape, .ref m_count, .ref m_nameSize, .ref m_names, .ref m_size, .ref m_data, .int v_lookedSize, .ref m_looked, .int v_fileSize, .ref m_file, .int v_directorySize, .ref m_directory, .int v_outSize, .ref m_out, .int v_rowSize, .ref m_row, .int v_bitAt, .int v_bitEnd, .int v_why, .int v_madeSize, .ref m_made, .ref m_length, .int v_firstCount, .int v_secondCount, .int v_heldBits, .int v_heldCount, .int v_pressedSize, .ref m_pressed, .int v_at, .int v_bad, .int v_markSize, .ref m_mark, .int v_relationCount, .ref m_idSize, .ref m_ids, .ref m_goalSize, .ref m_goals, .int v_valueSize, .ref m_value, .int v_faultCount, .ref m_faults, .ref m_reached])), (m_row, .inl (G.2.1, 20000, .inl a_row))]) ?_
                            refine pb_lconst (pc := 199) (v := 0) d_Mod_directoryFault_199 (by decide) ?_
                            refine pb_lcmp (pc := 200) d_Mod_directoryFault_200 ?_
                            refine pb_topi (fun ix153 eix153 => ?_)
                            have tix153 : (ix153.toInt < 0 ↔ r_149.toInt < 0) ∧ (ix153.toInt = 0 ↔ r_149.toInt = 0) ∧ (0 < ix153.toInt ↔ 0 < r_149.toInt) := tl_cmp eix153 rfl (by decide)
                            refine pb_if_eq (pc := 201) (tgt := 221) d_Mod_directoryFault_201 (by decide) (fun wx154 => ?_) (fun wx154 => ?_)
                            · have twx154 : ix153.toInt = 0 := (ti_eq rfl (by decide)).mp wx154
                              have lwx154 : r_149.toInt = 0 := tix153.2.1.mp twx154
                              clear tix153 twx154
                              refine pb_iconst (pc := 221) (v := 1) d_Mod_directoryFault_221 (by decide) ?_
                              refine pb_goto (pc := 222) (tgt := 226) d_Mod_directoryFault_222 (by decide) ?_
                              refine pb_istore (pc := 226) (lo' := [(9, .int 1), (8, .int ix80), (1, .int e), (2, .long hr), (4, .long n), (6, .long k), (0, .ref h)]) d_Mod_directoryFault_226 (by decide) rfl ?_
                              exact hJ228_81 1 ix80 (by first | (with_reducible assumption) | omega (splitDisjunctions := false) | assumption | omega | decide) (hid_i (by first | exact fun q9 => absurd q9 (by decide) | exact fun _ => ⟨by (exact omg_98797605ec w0 lwx127), by (exact omg_25fb27318e w4 lwx136), by (exact omg_3ece37706e w8 lwx145), by (exact omg_e41e7867ed w10 lwx154)⟩)) (hid_i (by first | exact fun q9 => absurd q9 (by decide) | exact fun _ q9 => (by obtain ⟨y1, y2, y3, y4⟩ := q9; omega))) (by first | (with_reducible assumption) | omega (splitDisjunctions := false) | assumption | omega | decide)
                            · have twx154 : ¬ ix153.toInt = 0 := fun z9 => wx154 ((ti_eq rfl (by decide)).mpr z9)
                              have lwx154 : ¬ r_149.toInt = 0 := fun z9 => twx154 (tix153.2.1.mpr z9)
                              clear tix153 twx154
                              refine pb_aload_n (pc := 204) d_Mod_directoryFault_204 5 rfl rfl ?_
                              refine pb_iload (pc := 205) d_Mod_directoryFault_205 0 rfl ?_
                              refine pb_bipush (pc := 207) (v := 10) d_Mod_directoryFault_207 (by decide) ?_
                              refine pb_iadd (pc := 209) d_Mod_directoryFault_209 ?_
                              refine pb_topi (fun ix155 eix155 => ?_)
                              try have tix155 : ix155.toInt = ix80.toInt + 10 := t2_add eix155 rfl (by decide) (by (exact omg_544d97ef14 h1 fh49 fh50 e0 a2 tjx76 tjx77 lwx79 tix80))
                              refine pb_iconst (pc := 210) (v := 2) d_Mod_directoryFault_210 (by decide) ?_
                              refine pb_callV (pc := 211) (I := i_Mod_directoryFault) (qb := 0) (ci := 10) (nA := 2) (rest := []) (wr := []) d_Mod_directoryFault_211 (g_Mod_at hl G h m_rels m_openRels m_closeRels m_openRel m_closeRel m_comment m_ends m_order m_tape m_count m_nameSize m_names m_size m_data m_looked m_file m_directory m_out m_row m_made m_length m_pressed m_mark m_idSize m_ids m_goalSize m_goals m_value m_faults m_reached v_thrown v_taped v_lookedSize v_fileSize v_directorySize v_outSize v_rowSize v_bitAt v_bitEnd v_why v_madeSize v_firstCount v_secondCount v_heldBits v_heldCount v_pressedSize v_at v_bad v_markSize v_relationCount v_valueSize v_faultCount a_row ix155 2 (by first | (with_reducible assumption) | (exact omg_c0bb658020 fh49 fh50 a2 tix80 tix155) | assumption | omega | decide) (by first | (with_reducible assumption) | omega (splitDisjunctions := false) | assumption | omega | decide) (by first | (with_reducible assumption) | omega (splitDisjunctions := false) | assumption | omega | decide) (by first | (with_reducible assumption) | (exact omg_55fb946007 h1 zl2 e0 tjx76 tjx77 lwx79 tix80 tix155) | assumption | omega | decide) F_a_row) rfl rfl [0, 1] [] (by decide) rfl rfl rfl (by decide) (by decide) k_1529 rfl k_128 k_1526 k_1528 k_88 ⟨rfl, hy_Mod_at⟩ (by decide) rfl rfl (Nat.le_of_ble_eq_true rfl) (by decide) (fun v9 ux157 ch156 => ?_)
                              obtain ⟨r_158, rfl⟩ : ∃ z9, z9 = ux157 := ⟨_, rfl⟩
                              obtain ⟨ech156, ch156⟩ := ch156
                              have ech156 : v9 = some (.long r_158) := ech156
                              subst ech156
                              obtain ⟨fh159, fh160, fh161⟩ : (r_158.toInt = av a_row ix155.toInt (2 : Int32).toInt.toNat) ∧ (0 ≤ r_158.toInt) ∧ (r_158.toInt < 4294967296) := ch156
                              have w11 : r_158.toInt = aw A (hr.toInt + 10) 2 := by rw [fh159, n2, show ix155.toInt = hr.toInt + 10 by (exact omg_e40bc9cb46 tix80 tix155)]; exact av_A hA 2 (by (exact omg_bbc78c4057 fh49 fh50 a2)) (by (exact omg_026e0903d4 e0 tjx76 tjx77 lwx79))
                              refine pb_eq (pc' := 214) (lo' := [(8, .int ix80), (1, .int e), (2, .long hr), (4, .long n), (6, .long k), (0, .ref h)]) (rest' := [.long r_158]) (ws' := [(h, .inr (10, [.ref m_rels, .ref m_openRels, .ref m_closeRels, .ref m_openRel, .ref m_closeRel, .ref m_comment, .ref m_ends, .ref m_order, .int v_thrown, .int v_taped, .ref m_tape, .ref m_count, .ref m_nameSize, .ref m_names, .ref m_size, .ref m_data, .int v_lookedSize, .ref m_looked, .int v_fileSize, .ref m_file, .int v_directorySize, .ref m_directory, .int v_outSize, .ref m_out, .int v_rowSize, .ref m_row, .int v_bitAt, .int v_bitEnd, .int v_why, .int v_madeSize, .ref m_made, .ref m_length, .int v_firstCount, .int v_secondCount, .int v_heldBits, .int v_heldCount, .int v_pressedSize, .ref m_pressed, .int v_at, .int v_bad, .int v_markSize, .ref m_mark, .int v_relationCount, .ref m_idSize, .ref m_ids, .ref m_goalSize, .ref m_goals, .int v_valueSize, .ref m_value, .int v_faultCount, .ref m_faults, .ref m_reached])), (m_row, .inl (G.2.1, 20000, .inl a_row))]) ?_
                              refine pb_ldc2 (pc := 214) (v := 8) d_Mod_directoryFault_214 k_1502 ?_
                              refine pb_lcmp (pc := 217) d_Mod_directoryFault_217 ?_
                              refine pb_topi (fun ix162 eix162 => ?_)
                              have tix162 : (ix162.toInt < 0 ↔ r_158.toInt < 8) ∧ (ix162.toInt = 0 ↔ r_158.toInt = 8) ∧ (0 < ix162.toInt ↔ 8 < r_158.toInt) := tl_cmp eix162 rfl (by decide)
                              refine pb_if_ne (pc := 218) (tgt := 225) d_Mod_directoryFault_218 (by decide) (fun wx163 => ?_) (fun wx163 => ?_)
                              · have twx163 : ¬ ix162.toInt = 0 := fun z9 => wx163 ((ti_eq rfl (by decide)).mpr z9)
                                have lwx163 : ¬ r_158.toInt = 8 := fun z9 => twx163 (tix162.2.1.mpr z9)
                                clear tix162 twx163
                                refine pb_iconst (pc := 225) (v := 0) d_Mod_directoryFault_225 (by decide) ?_
                                refine pb_istore (pc := 226) (lo' := [(9, .int 0), (8, .int ix80), (1, .int e), (2, .long hr), (4, .long n), (6, .long k), (0, .ref h)]) d_Mod_directoryFault_226 (by decide) rfl ?_
                                exact hJ228_81 0 ix80 (by first | (with_reducible assumption) | omega (splitDisjunctions := false) | assumption | omega | decide) (hid_i (by first | exact fun q9 => absurd q9 (by decide) | exact fun _ => ⟨by omega, by omega, by omega, by omega⟩)) (hid_i (by first | exact fun q9 => absurd q9 (by decide) | exact fun _ q9 => (by obtain ⟨y1, y2, y3, y4⟩ := q9; (exact omg_189f31393b w10 lwx154 w11 lwx163 y4)))) (by first | (with_reducible assumption) | omega (splitDisjunctions := false) | assumption | omega | decide)
                              · have twx163 : ix162.toInt = 0 := (ti_eq rfl (by decide)).mp wx163
                                have lwx163 : r_158.toInt = 8 := tix162.2.1.mp twx163
                                clear tix162 twx163
                                refine pb_iconst (pc := 221) (v := 1) d_Mod_directoryFault_221 (by decide) ?_
                                refine pb_goto (pc := 222) (tgt := 226) d_Mod_directoryFault_222 (by decide) ?_
                                refine pb_istore (pc := 226) (lo' := [(9, .int 1), (8, .int ix80), (1, .int e), (2, .long hr), (4, .long n), (6, .long k), (0, .ref h)]) d_Mod_directoryFault_226 (by decide) rfl ?_
                                exact hJ228_81 1 ix80 (by first | (with_reducible assumption) | omega (splitDisjunctions := false) | assumption | omega | decide) (hid_i (by first | exact fun q9 => absurd q9 (by decide) | exact fun _ => ⟨by (exact omg_98797605ec w0 lwx127), by (exact omg_25fb27318e w4 lwx136), by (exact omg_3ece37706e w8 lwx145), by omega⟩)) (hid_i (by first | exact fun q9 => absurd q9 (by decide) | exact fun _ q9 => (by obtain ⟨y1, y2, y3, y4⟩ := q9; omega))) (by first | (with_reducible assumption) | omega (splitDisjunctions := false) | assumption | omega | decide)
                    · have twx79 : ¬ ix78.toInt ≤ 0 := fun z9 => wx79 ((ti_le rfl (by decide)).mpr z9)
                      have lwx79 : jx77.toInt < jx76.toInt := tix78.2.2.mp (Int.not_le.mp twx79)
                      clear tix78 twx79
                      refine pb_iconst (pc := 138) (v := 2) d_Mod_directoryFault_138 (by decide) ?_
                      exact pb_iret (pc := 139) hQ d_Mod_directoryFault_139 rfl rfl (2) ⟨rfl, (by (try dsimp only); first | done | (with_reducible assumption) | omega (splitDisjunctions := false) | assumption | omega | decide), (show (2 : Int32).toInt = 0 → 22 ≤ v_rowSize.toInt ∧ dq_ok a_row (av a_row (v_rowSize.toInt - 6) 4) (v_rowSize.toInt - 22) from (by first | exact fun h9 => absurd h9 (by omega) | exact fun _ => ⟨by omega, by omega, by omega, k.toInt.toNat, by omega, fun j hj9 => by have q9 := hj j hj9; omega⟩)), (show ((2 : Int32).toInt = 1 ∧ ¬ (22 ≤ v_rowSize.toInt ∧ ed_ A (v_rowSize.toInt - 22))) ∨ ((2 : Int32).toInt = 2 ∧ (22 ≤ v_rowSize.toInt ∧ ed_ A (v_rowSize.toInt - 22)) ∧ ¬ dw_ A (v_rowSize.toInt - 22)) ∨ ((2 : Int32).toInt = 0 ∧ (22 ≤ v_rowSize.toInt ∧ ed_ A (v_rowSize.toInt - 22)) ∧ dw_ A (v_rowSize.toInt - 22)) from (Or.inr (Or.inl ⟨(by first | decide | omega), eD5, fun q9 => dy_no (k := k.toInt.toNat) (by (exact omg_22111b28ba k0 hn5 lwx72)) (by rw [← hz]; exact fun q8 => absurd q8.1 (by (exact omg_d94271d85e e0 tjx76 tjx77 lwx79))) q9.2⟩)))⟩ [0, 1] (by decide) rfl rfl (by decide) (by decide)
              refine pb_re (ws' := [(h, .inr (10, [.ref m_rels, .ref m_openRels, .ref m_closeRels, .ref m_openRel, .ref m_closeRel, .ref m_comment, .ref m_ends, .ref m_order, .int v_thrown, .int v_taped, .ref m_tape, .ref m_count, .ref m_nameSize, .ref m_names, .ref m_size, .ref m_data, .int v_lookedSize, .ref m_looked, .int v_fileSize, .ref m_file, .int v_directorySize, .ref m_directory, .int v_outSize, .ref m_out, .int v_rowSize, .ref m_row, .int v_bitAt, .int v_bitEnd, .int v_why, .int v_madeSize, .ref m_made, .ref m_length, .int v_firstCount, .int v_secondCount, .int v_heldBits, .int v_heldCount, .int v_pressedSize, .ref m_pressed, .int v_at, .int v_bad, .int v_markSize, .ref m_mark, .int v_relationCount, .ref m_idSize, .ref m_ids, .ref m_goalSize, .ref m_goals, .int v_valueSize, .ref m_value, .int v_faultCount, .ref m_faults, .ref m_reached])), (m_row, .inl (G.2.1, 20000, .inl a_row))]) (lo' := [(1, .int ix1), (2, .long r_48), (4, .long r_66), (6, .long 0), (0, .ref h)]) [0, 1] [3, 2, 1, 0, 4] (by decide) rfl rfl rfl ?_
              exact hL119_70 _ ix1 r_48 r_66 0 (by first | (with_reducible assumption) | omega (splitDisjunctions := false) | assumption | omega | decide) (by first | (with_reducible assumption) | (exact omg_db7907a2b4 twx2) | assumption | omega | decide) (by first | (with_reducible assumption) | omega (splitDisjunctions := false) | assumption | omega | decide) (by first | (with_reducible assumption) | omega (splitDisjunctions := false) | assumption | omega | decide) (by first | (with_reducible assumption) | omega (splitDisjunctions := false) | assumption | omega | decide) (by first | (with_reducible assumption) | (exact omg_3907787a03 fh49 fh50) | assumption | omega | decide) (by first | (with_reducible assumption) | (exact omg_4e99ee0b06 fh49 fh57 tjx59 tjx60 lwx62) | assumption | omega | decide) (by first | (with_reducible assumption) | omega (splitDisjunctions := false) | assumption | omega | decide) (by first | (with_reducible assumption) | (exact omg_c386195dfe fh57 tjx59 tjx60 lwx62) | assumption | omega | decide) (by show _ = av a_row (v_rowSize.toInt - 6) 4; omega) (fun j hj9 => absurd hj9 (by show ¬ j < (0 : Int64).toInt.toNat; rw [show (0 : Int64).toInt = 0 by decide]; omega)) edF (by first | (with_reducible assumption) | omega (splitDisjunctions := false) | assumption | (exact omg_91d728ae1e tix1 u16 u12 tjx59 tjx60 lwx62) | decide) (by first | (with_reducible assumption) | omega (splitDisjunctions := false) | assumption | omega | decide) (by show _ = aw A (v_rowSize.toInt - 22 + 16) 4; omega) (fun j h9 => absurd h9 (by show ¬ j < (0 : Int64).toInt.toNat; rw [show (0 : Int64).toInt = 0 by decide]; omega)) (Nat.lt_succ_self _)
            · have twx62 : ¬ ix61.toInt = 0 := fun z9 => wx62 ((ti_eq rfl (by decide)).mpr z9)
              have lwx62 : ¬ jx59.toInt = jx60.toInt := fun z9 => twx62 (tix61.2.1.mpr z9)
              clear tix61 twx62
              refine pb_iconst (pc := 103) (v := 2) d_Mod_directoryFault_103 (by decide) ?_
              exact pb_iret (pc := 104) hQ d_Mod_directoryFault_104 rfl rfl (2) ⟨rfl, (by (try dsimp only); first | done | (with_reducible assumption) | omega (splitDisjunctions := false) | assumption | omega | decide), (show (2 : Int32).toInt = 0 → 22 ≤ v_rowSize.toInt ∧ dq_ok a_row (av a_row (v_rowSize.toInt - 6) 4) (v_rowSize.toInt - 22) from (by first | exact fun h9 => absurd h9 (by omega) | exact fun _ => ⟨by omega, by omega, by omega, k.toInt.toNat, by omega, fun j hj9 => by have q9 := hj j hj9; omega⟩)), (show ((2 : Int32).toInt = 1 ∧ ¬ (22 ≤ v_rowSize.toInt ∧ ed_ A (v_rowSize.toInt - 22))) ∨ ((2 : Int32).toInt = 2 ∧ (22 ≤ v_rowSize.toInt ∧ ed_ A (v_rowSize.toInt - 22)) ∧ ¬ dw_ A (v_rowSize.toInt - 22)) ∨ ((2 : Int32).toInt = 0 ∧ (22 ≤ v_rowSize.toInt ∧ ed_ A (v_rowSize.toInt - 22)) ∧ dw_ A (v_rowSize.toInt - 22)) from (Or.inr (Or.inl ⟨(by first | decide | omega), edF, fun q9 => absurd q9.1 (by (exact omg_6fff4b142f tix1 u16 u12 tjx59 tjx60 lwx62))⟩)))⟩ [0, 1] (by decide) rfl rfl (by decide) (by decide)
          · have twx44 : ¬ ix43.toInt = 0 := fun z9 => wx44 ((ti_eq rfl (by decide)).mpr z9)
            have lwx44 : ¬ r_39.toInt = 0 := fun z9 => twx44 (tix43.2.1.mpr z9)
            clear tix43 twx44
            refine pb_iconst (pc := 74) (v := 1) d_Mod_directoryFault_74 (by decide) ?_
            exact pb_iret (pc := 75) hQ d_Mod_directoryFault_75 rfl rfl (1) ⟨rfl, (by (try dsimp only); first | done | (with_reducible assumption) | omega (splitDisjunctions := false) | assumption | omega | decide), (show (1 : Int32).toInt = 0 → 22 ≤ v_rowSize.toInt ∧ dq_ok a_row (av a_row (v_rowSize.toInt - 6) 4) (v_rowSize.toInt - 22) from (by first | exact fun h9 => absurd h9 (by omega) | exact fun _ => ⟨by omega, by omega, by omega, k.toInt.toNat, by omega, fun j hj9 => by have q9 := hj j hj9; omega⟩)), (show ((1 : Int32).toInt = 1 ∧ ¬ (22 ≤ v_rowSize.toInt ∧ ed_ A (v_rowSize.toInt - 22))) ∨ ((1 : Int32).toInt = 2 ∧ (22 ≤ v_rowSize.toInt ∧ ed_ A (v_rowSize.toInt - 22)) ∧ ¬ dw_ A (v_rowSize.toInt - 22)) ∨ ((1 : Int32).toInt = 0 ∧ (22 ≤ v_rowSize.toInt ∧ ed_ A (v_rowSize.toInt - 22)) ∧ dw_ A (v_rowSize.toInt - 22)) from (Or.inl ⟨(by first | decide | omega), fun q9 => (by obtain ⟨q8, y1, y2, y3, y4⟩ := q9; omega)⟩))⟩ [0, 1] (by decide) rfl rfl (by decide) (by decide)
