/-! ROWS OF NUMBERS -/
theorem omg_7689268f95 {x0 : Int} {x1 : Int} {x2 : Int} {x3 : Int} {x4 : Int} {x5 : Int} (a0 : ((x0 = (0 : Int)) ∨ (x0 = (1 : Int)))) (a1 : ((x0 = (0 : Int)) → (((0 : Int) ≤ x1) ∧ ((x1 < x2) ∧ (((0 : Int) ≤ x3) ∧ (x3 < (x4 + x5))))))) (a2 : (x0 ≤ (0 : Int))) : (x1 < x2) := by omega
theorem omg_28b1290b91 {x0 : Int} {x1 : Int} {x2 : Int} {x3 : Int} {x4 : Int} {x5 : Int} (a0 : ((x0 = (0 : Int)) ∨ (x0 = (1 : Int)))) (a1 : ((x0 = (0 : Int)) → (((0 : Int) ≤ x1) ∧ ((x1 < x2) ∧ (((0 : Int) ≤ x3) ∧ (x3 < (x4 + x5))))))) (a2 : (x0 ≤ (0 : Int))) : ((0 : Int) ≤ x1) := by omega
theorem omg_5107ddb090 {x0 : Int} {x1 : Int} {x2 : Int} {x3 : Int} {x4 : Int} {x5 : Int} (a0 : (x0 ≤ (16 : Int))) (a1 : ((x1 = (0 : Int)) ∨ (x1 = (1 : Int)))) (a2 : ((x1 = (0 : Int)) → (((0 : Int) ≤ x2) ∧ ((x2 < x0) ∧ (((0 : Int) ≤ x3) ∧ (x3 < (x4 + x5))))))) (a3 : (x1 ≤ (0 : Int))) : (((0 : Int) ≤ x2) ∧ (x2 < (((34 : Nat) : Nat) : Int))) := by omega
theorem omg_16a45377c9 {x0 : Int} {x1 : Int} {x2 : Int} {x3 : Int} {x4 : Int} {x5 : Int} (a0 : (x0 ≤ (16 : Int))) (a1 : ((x1 = (0 : Int)) ∨ (x1 = (1 : Int)))) (a2 : ((x1 = (0 : Int)) → (((0 : Int) ≤ x2) ∧ ((x2 < x0) ∧ (((0 : Int) ≤ x3) ∧ (x3 < (x4 + x5))))))) (a3 : (x1 ≤ (0 : Int))) : (((4000 : Int) * x2) < (2147483648 : Int)) := by omega
theorem omg_785d075872 {x0 : Int} {x1 : Int} {x2 : Int} {x3 : Int} {x4 : Int} {x5 : Int} (a0 : ((x0 = (0 : Int)) ∨ (x0 = (1 : Int)))) (a1 : ((x0 = (0 : Int)) → (((0 : Int) ≤ x1) ∧ ((x1 < x2) ∧ (((0 : Int) ≤ x3) ∧ (x3 < (x4 + x5))))))) (a2 : (x0 ≤ (0 : Int))) : ((-(2147483648 : Int)) ≤ ((4000 : Int) * x1)) := by omega
theorem omg_805e5dea0b {x0 : Int} {x1 : Int} {x2 : Int} {x3 : Int} {x4 : Int} {x5 : Int} {x6 : Int} (a0 : (x0 ≤ (16 : Int))) (a1 : ((x1 = (0 : Int)) ∨ (x1 = (1 : Int)))) (a2 : ((x1 = (0 : Int)) → (((0 : Int) ≤ x2) ∧ ((x2 < x0) ∧ (((0 : Int) ≤ x3) ∧ (x3 < (x4 + x5))))))) (a3 : (x1 ≤ (0 : Int))) (a4 : (((1 : Int) ≤ x4) ∧ ((x4 ≤ (24 : Int)) ∧ (((0 : Int) ≤ x5) ∧ (x5 ≤ (4000 : Int)))))) (a5 : (x6 = ((4000 : Int) * x2))) : (((-(2147483648 : Int)) ≤ (x6 + x3)) ∧ ((x6 + x3) < (2147483648 : Int))) := by omega
theorem omg_e825d1740c {x0 : Int} {x1 : Int} {x2 : Int} {x3 : Int} {x4 : Int} {x5 : Int} {x6 : Int} {x7 : Int} {x8 : Int} (a0 : (x0 ≤ (16 : Int))) (a1 : ((x1 = (0 : Int)) ∨ (x1 = (1 : Int)))) (a2 : ((x1 = (0 : Int)) → (((0 : Int) ≤ x2) ∧ ((x2 < x0) ∧ (((0 : Int) ≤ x3) ∧ (x3 < (x4 + x5))))))) (a3 : (x1 ≤ (0 : Int))) (a4 : (((1 : Int) ≤ x4) ∧ ((x4 ≤ (24 : Int)) ∧ (((0 : Int) ≤ x5) ∧ (x5 ≤ (4000 : Int)))))) (a5 : (x6 = ((4000 : Int) * x2))) (a6 : (x7 = (x6 + x3))) (a7 : (x8 = x4)) : (((-(2147483648 : Int)) ≤ (x7 - x8)) ∧ ((x7 - x8) < (2147483648 : Int))) := by omega
theorem omg_c83f110882 {x0 : Int} {x1 : Int} {x2 : Int} {x3 : Int} {x4 : Int} {x5 : Int} {x6 : Int} {x7 : Int} {x8 : Int} {x9 : Int} {x10 : Int} (a0 : (x0 ≤ (16 : Int))) (a1 : ((x1 = (0 : Int)) ∨ (x1 = (1 : Int)))) (a2 : ((x1 = (0 : Int)) → (((0 : Int) ≤ x2) ∧ ((x2 < x0) ∧ (((0 : Int) ≤ x3) ∧ (x3 < (x4 + x5))))))) (a3 : (x1 ≤ (0 : Int))) (a4 : (((1 : Int) ≤ x4) ∧ ((x4 ≤ (24 : Int)) ∧ (((0 : Int) ≤ x5) ∧ (x5 ≤ (4000 : Int)))))) (a5 : (x6 = x4)) (a6 : (x6 ≤ x3)) (a7 : (x7 = ((4000 : Int) * x2))) (a8 : (x8 = (x7 + x3))) (a9 : (x9 = x4)) (a10 : (x10 = (x8 - x9))) : (((0 : Int) ≤ x10) ∧ (x10 < (((136000 : Nat) : Nat) : Int))) := by omega
theorem omg_843bf8cbd7 {x0 : Int} {x1 : Int} {x2 : Int} {x3 : Int} {x4 : Int} {x5 : Int} {x6 : Int} (a0 : (x0 = ((4000 : Int) * x1))) (a1 : (x2 = (x0 + x3))) (a2 : (x4 = x5)) (a3 : (x6 = (x2 - x4))) : (x6 = ((((4000 : Int) * x1) + x3) - x5)) := by omega
theorem omg_c20a9fe1af {x0 : Int} {x1 : Int} {x2 : Int} (a0 : (x0 = x1)) (a1 : (x0 ≤ x2)) : ((0 : Int) ≤ (x2 - x1)) := by omega
theorem omg_cf1fcb0dfb {x0 : Int} {x1 : Int} {x2 : Int} {x3 : Int} {x4 : Prop} {x5 : Prop} {x6 : Int} {x7 : Int} (a0 : ((x0 = x1) ∧ ((x2 = x3) ∧ (x4 ∧ x5)))) (a1 : (x6 = x0)) (a2 : (x6 ≤ x7)) : (¬ (x7 < x1)) := by omega
theorem omg_e0a76532e9 {x0 : Int} {x1 : Int} {x2 : Int} {x3 : Int} {x4 : Int} {x5 : Int} {x6 : Int} {x7 : Int} {x8 : Prop} {x9 : Prop} (a0 : ((x0 = (0 : Int)) ∨ (x0 = (1 : Int)))) (a1 : ((x0 = (0 : Int)) → (((0 : Int) ≤ x1) ∧ ((x1 < x2) ∧ (((0 : Int) ≤ x3) ∧ (x3 < (x4 + x5))))))) (a2 : (x0 ≤ (0 : Int))) (a3 : ((x4 = x6) ∧ ((x5 = x7) ∧ (x8 ∧ x9)))) : (x3 < (x6 + x7)) := by omega
theorem omg_c75ca38ed4 {x0 : Int} {x1 : Int} {x2 : Int} {x3 : Int} {x4 : Int} {x5 : Int} {x6 : Int} (a0 : (x0 = x1)) (a1 : ((x2 = (0 : Int)) ∨ (x2 = (1 : Int)))) (a2 : ((x2 = (0 : Int)) → (((0 : Int) ≤ x3) ∧ ((x3 < x0) ∧ (((0 : Int) ≤ x4) ∧ (x4 < (x5 + x6))))))) (a3 : (x2 ≤ (0 : Int))) : (x3 < x1) := by omega
theorem omg_3773564ec3 {x0 : Int} (a0 : ((x0 = (0 : Int)) ∨ (x0 = (1 : Int)))) (a1 : (x0 ≤ (0 : Int))) : (x0 = (0 : Int)) := by omega
theorem omg_d278c3c523 {x0 : Int} {x1 : Int} {x2 : Int} {x3 : Int} {x4 : Int} {x5 : Int} (a0 : (x0 ≤ (16 : Int))) (a1 : ((x1 = (0 : Int)) ∨ (x1 = (1 : Int)))) (a2 : ((x1 = (0 : Int)) → (((0 : Int) ≤ x2) ∧ ((x2 < x0) ∧ (((0 : Int) ≤ x3) ∧ (x3 < (x4 + x5))))))) (a3 : (x1 ≤ (0 : Int))) : (((24 : Int) * x2) < (2147483648 : Int)) := by omega
theorem omg_0cfe4b3623 {x0 : Int} {x1 : Int} {x2 : Int} {x3 : Int} {x4 : Int} {x5 : Int} (a0 : ((x0 = (0 : Int)) ∨ (x0 = (1 : Int)))) (a1 : ((x0 = (0 : Int)) → (((0 : Int) ≤ x1) ∧ ((x1 < x2) ∧ (((0 : Int) ≤ x3) ∧ (x3 < (x4 + x5))))))) (a2 : (x0 ≤ (0 : Int))) : ((-(2147483648 : Int)) ≤ ((24 : Int) * x1)) := by omega
theorem omg_663ce03d1c {x0 : Int} {x1 : Int} {x2 : Int} {x3 : Int} {x4 : Int} {x5 : Int} {x6 : Int} (a0 : (x0 ≤ (16 : Int))) (a1 : ((x1 = (0 : Int)) ∨ (x1 = (1 : Int)))) (a2 : ((x1 = (0 : Int)) → (((0 : Int) ≤ x2) ∧ ((x2 < x0) ∧ (((0 : Int) ≤ x3) ∧ (x3 < (x4 + x5))))))) (a3 : (x1 ≤ (0 : Int))) (a4 : (((1 : Int) ≤ x4) ∧ ((x4 ≤ (24 : Int)) ∧ (((0 : Int) ≤ x5) ∧ (x5 ≤ (4000 : Int)))))) (a5 : (x6 = ((24 : Int) * x2))) : (((-(2147483648 : Int)) ≤ (x6 + x3)) ∧ ((x6 + x3) < (2147483648 : Int))) := by omega
theorem omg_10c7c6ecd3 {x0 : Int} {x1 : Int} {x2 : Int} {x3 : Int} {x4 : Int} {x5 : Int} {x6 : Int} {x7 : Int} {x8 : Int} (a0 : (x0 ≤ (16 : Int))) (a1 : ((x1 = (0 : Int)) ∨ (x1 = (1 : Int)))) (a2 : ((x1 = (0 : Int)) → (((0 : Int) ≤ x2) ∧ ((x2 < x0) ∧ (((0 : Int) ≤ x3) ∧ (x3 < (x4 + x5))))))) (a3 : (x1 ≤ (0 : Int))) (a4 : (((1 : Int) ≤ x4) ∧ ((x4 ≤ (24 : Int)) ∧ (((0 : Int) ≤ x5) ∧ (x5 ≤ (4000 : Int)))))) (a5 : (x6 = x4)) (a6 : (¬ (x6 ≤ x3))) (a7 : (x7 = ((24 : Int) * x2))) (a8 : (x8 = (x7 + x3))) : (((0 : Int) ≤ x8) ∧ (x8 < (((816 : Nat) : Nat) : Int))) := by omega
theorem omg_c2f0ba10d7 {x0 : Int} {x1 : Int} {x2 : Int} {x3 : Int} (a0 : (x0 = ((24 : Int) * x1))) (a1 : (x2 = (x0 + x3))) : (x2 = (((24 : Int) * x1) + x3)) := by omega
theorem omg_e187d477e5 {x0 : Int} {x1 : Int} {x2 : Int} {x3 : Int} {x4 : Int} {x5 : Int} (a0 : ((x0 = (0 : Int)) ∨ (x0 = (1 : Int)))) (a1 : ((x0 = (0 : Int)) → (((0 : Int) ≤ x1) ∧ ((x1 < x2) ∧ (((0 : Int) ≤ x3) ∧ (x3 < (x4 + x5))))))) (a2 : (x0 ≤ (0 : Int))) : ((0 : Int) ≤ x3) := by omega
theorem d_Mod_byteOf_44 : decode prog_12_method_17_code 44 = .ok (.aload_n 0, 1) := by decide +kernel
theorem d_Mod_byteOf_45 : decode prog_12_method_17_code 45 = .ok (.getfield 103, 3) := by decide +kernel
theorem d_Mod_byteOf_48 : decode prog_12_method_17_code 48 = .ok (.ifCond .le 5, 3) := by decide +kernel
theorem d_Mod_byteOf_53 : decode prog_12_method_17_code 53 = .ok (.iload_n 2, 1) := by decide +kernel
theorem d_Mod_byteOf_54 : decode prog_12_method_17_code 54 = .ok (.aload_n 0, 1) := by decide +kernel
theorem d_Mod_byteOf_55 : decode prog_12_method_17_code 55 = .ok (.getfield 41, 3) := by decide +kernel
theorem d_Mod_byteOf_58 : decode prog_12_method_17_code 58 = .ok (.iload_n 1, 1) := by decide +kernel
theorem d_Mod_byteOf_59 : decode prog_12_method_17_code 59 = .ok (.iaload, 1) := by decide +kernel
theorem d_Mod_byteOf_60 : decode prog_12_method_17_code 60 = .ok (.if_icmp .ge 17, 3) := by decide +kernel
theorem d_Mod_byteOf_77 : decode prog_12_method_17_code 77 = .ok (.aload_n 0, 1) := by decide +kernel
theorem d_Mod_byteOf_78 : decode prog_12_method_17_code 78 = .ok (.getfield 51, 3) := by decide +kernel
theorem d_Mod_byteOf_81 : decode prog_12_method_17_code 81 = .ok (.sipush 4000, 3) := by decide +kernel
theorem d_Mod_byteOf_84 : decode prog_12_method_17_code 84 = .ok (.iload_n 1, 1) := by decide +kernel
theorem d_Mod_byteOf_85 : decode prog_12_method_17_code 85 = .ok (.imul, 1) := by decide +kernel
theorem d_Mod_byteOf_86 : decode prog_12_method_17_code 86 = .ok (.iload_n 2, 1) := by decide +kernel
theorem d_Mod_byteOf_87 : decode prog_12_method_17_code 87 = .ok (.iadd, 1) := by decide +kernel
theorem d_Mod_byteOf_88 : decode prog_12_method_17_code 88 = .ok (.aload_n 0, 1) := by decide +kernel
theorem d_Mod_byteOf_89 : decode prog_12_method_17_code 89 = .ok (.getfield 41, 3) := by decide +kernel
theorem d_Mod_byteOf_92 : decode prog_12_method_17_code 92 = .ok (.iload_n 1, 1) := by decide +kernel
theorem d_Mod_byteOf_93 : decode prog_12_method_17_code 93 = .ok (.iaload, 1) := by decide +kernel
theorem d_Mod_byteOf_94 : decode prog_12_method_17_code 94 = .ok (.isub, 1) := by decide +kernel
theorem d_Mod_byteOf_95 : decode prog_12_method_17_code 95 = .ok (.baload, 1) := by decide +kernel
theorem d_Mod_byteOf_96 : decode prog_12_method_17_code 96 = .ok (.sipush 255, 3) := by decide +kernel
theorem d_Mod_byteOf_99 : decode prog_12_method_17_code 99 = .ok (.iand, 1) := by decide +kernel
theorem d_Mod_byteOf_100 : decode prog_12_method_17_code 100 = .ok (.ireturn, 1) := by decide +kernel
theorem d_Mod_byteOf_63 : decode prog_12_method_17_code 63 = .ok (.aload_n 0, 1) := by decide +kernel
theorem d_Mod_byteOf_64 : decode prog_12_method_17_code 64 = .ok (.getfield 44, 3) := by decide +kernel
theorem d_Mod_byteOf_67 : decode prog_12_method_17_code 67 = .ok (.bipush 24, 2) := by decide +kernel
theorem d_Mod_byteOf_69 : decode prog_12_method_17_code 69 = .ok (.iload_n 1, 1) := by decide +kernel
theorem d_Mod_byteOf_70 : decode prog_12_method_17_code 70 = .ok (.imul, 1) := by decide +kernel
theorem d_Mod_byteOf_71 : decode prog_12_method_17_code 71 = .ok (.iload_n 2, 1) := by decide +kernel
theorem d_Mod_byteOf_72 : decode prog_12_method_17_code 72 = .ok (.iadd, 1) := by decide +kernel
theorem d_Mod_byteOf_73 : decode prog_12_method_17_code 73 = .ok (.baload, 1) := by decide +kernel
theorem d_Mod_byteOf_74 : decode prog_12_method_17_code 74 = .ok (.goto 22, 3) := by decide +kernel
theorem d_Mod_byteOf_51 : decode prog_12_method_17_code 51 = .ok (.iconst 0, 1) := by decide +kernel
theorem d_Mod_byteOf_52 : decode prog_12_method_17_code 52 = .ok (.ireturn, 1) := by decide +kernel
theorem d_Mod_byteOf_0 : decode prog_12_method_17_code 0 = .ok (.aload_n 0, 1) := by decide +kernel
theorem d_Mod_byteOf_1 : decode prog_12_method_17_code 1 = .ok (.iload_n 1, 1) := by decide +kernel
theorem d_Mod_byteOf_2 : decode prog_12_method_17_code 2 = .ok (.ifCond .lt 34, 3) := by decide +kernel
theorem d_Mod_byteOf_36 : decode prog_12_method_17_code 36 = .ok (.iconst 1, 1) := by decide +kernel
theorem d_Mod_byteOf_37 : decode prog_12_method_17_code 37 = .ok (.goto 4, 3) := by decide +kernel
theorem d_Mod_byteOf_41 : decode prog_12_method_17_code 41 = .ok (.putfield 103, 3) := by decide +kernel
theorem d_Mod_byteOf_5 : decode prog_12_method_17_code 5 = .ok (.iload_n 1, 1) := by decide +kernel
theorem d_Mod_byteOf_6 : decode prog_12_method_17_code 6 = .ok (.aload_n 0, 1) := by decide +kernel
theorem d_Mod_byteOf_7 : decode prog_12_method_17_code 7 = .ok (.getfield 37, 3) := by decide +kernel
theorem d_Mod_byteOf_10 : decode prog_12_method_17_code 10 = .ok (.iconst 0, 1) := by decide +kernel
theorem d_Mod_byteOf_11 : decode prog_12_method_17_code 11 = .ok (.iaload, 1) := by decide +kernel
theorem d_Mod_byteOf_12 : decode prog_12_method_17_code 12 = .ok (.if_icmp .ge 24, 3) := by decide +kernel
theorem d_Mod_byteOf_15 : decode prog_12_method_17_code 15 = .ok (.iload_n 2, 1) := by decide +kernel
theorem d_Mod_byteOf_16 : decode prog_12_method_17_code 16 = .ok (.ifCond .lt 20, 3) := by decide +kernel
theorem d_Mod_byteOf_19 : decode prog_12_method_17_code 19 = .ok (.iload_n 2, 1) := by decide +kernel
theorem d_Mod_byteOf_20 : decode prog_12_method_17_code 20 = .ok (.aload_n 0, 1) := by decide +kernel
theorem d_Mod_byteOf_21 : decode prog_12_method_17_code 21 = .ok (.getfield 41, 3) := by decide +kernel
theorem d_Mod_byteOf_24 : decode prog_12_method_17_code 24 = .ok (.iload_n 1, 1) := by decide +kernel
theorem d_Mod_byteOf_25 : decode prog_12_method_17_code 25 = .ok (.iaload, 1) := by decide +kernel
theorem d_Mod_byteOf_26 : decode prog_12_method_17_code 26 = .ok (.aload_n 0, 1) := by decide +kernel
theorem d_Mod_byteOf_27 : decode prog_12_method_17_code 27 = .ok (.getfield 47, 3) := by decide +kernel
theorem d_Mod_byteOf_30 : decode prog_12_method_17_code 30 = .ok (.iload_n 1, 1) := by decide +kernel
theorem d_Mod_byteOf_31 : decode prog_12_method_17_code 31 = .ok (.iaload, 1) := by decide +kernel
theorem d_Mod_byteOf_32 : decode prog_12_method_17_code 32 = .ok (.iadd, 1) := by decide +kernel
theorem d_Mod_byteOf_33 : decode prog_12_method_17_code 33 = .ok (.if_icmp .lt 7, 3) := by decide +kernel
theorem d_Mod_byteOf_40 : decode prog_12_method_17_code 40 = .ok (.iconst 0, 1) := by decide +kernel
abbrev y_Mod_byteOf : MethodName := ⟨"PackageBookModel", "byteOf", "(II)I"⟩
abbrev i_Mod_byteOf : pb_I := (y_Mod_byteOf, prog_12_method_17_code, 3, (some Jvm.ClassFile.FieldType.int), [], { frames := 0, cells := 0, slots := 0, locals := 0 })
set_option maxRecDepth 100000 in
set_option maxHeartbeats 4000000 in
theorem g_Mod_byteOf {l : Launch} (hl : l.stackTraces = false) (G : pb_G) (h : Nat) (m_rels : Nat) (m_openRels : Nat) (m_closeRels : Nat) (m_openRel : Nat) (m_closeRel : Nat) (m_comment : Nat) (m_ends : Nat) (m_order : Nat) (m_tape : Nat) (m_count : Nat) (m_nameSize : Nat) (m_names : Nat) (m_size : Nat) (m_data : Nat) (m_looked : Nat) (m_file : Nat) (m_directory : Nat) (m_out : Nat) (m_row : Nat) (m_made : Nat) (m_length : Nat) (m_pressed : Nat) (m_mark : Nat) (m_idSize : Nat) (m_ids : Nat) (m_goalSize : Nat) (m_goals : Nat) (m_value : Nat) (m_faults : Nat) (m_reached : Nat) (v_thrown : Int32) (v_taped : Int32) (v_lookedSize : Int32) (v_fileSize : Int32) (v_directorySize : Int32) (v_outSize : Int32) (v_rowSize : Int32) (v_bitAt : Int32) (v_bitEnd : Int32) (v_why : Int32) (v_madeSize : Int32) (v_firstCount : Int32) (v_secondCount : Int32) (v_heldBits : Int32) (v_heldCount : Int32) (v_pressedSize : Int32) (v_at : Int32) (v_bad : Int32) (v_markSize : Int32) (v_relationCount : Int32) (v_valueSize : Int32) (v_faultCount : Int32) (a_count : Nat → Int32) (a_nameSize : Nat → Int32) (a_size : Nat → Int32) (a_names : Nat → Int32) (a_data : Nat → Int32) (i : Int32) (k : Int32) (V : VW_) (I : ms_I 0 (gx a_count 0) a_nameSize a_size a_names) (R : rM_ 0 (gx a_count 0) a_nameSize a_names a_size a_data V) (F_a_names : sb_Fit a_names) (F_a_data : sb_Fit a_data) : Cn l G i_Mod_byteOf [.ref h, .int i, .int k] [(h, .inr (10, [.ref m_rels, .ref m_openRels, .ref m_closeRels, .ref m_openRel, .ref m_closeRel, .ref m_comment, .ref m_ends, .ref m_order, .int v_thrown, .int v_taped, .ref m_tape, .ref m_count, .ref m_nameSize, .ref m_names, .ref m_size, .ref m_data, .int v_lookedSize, .ref m_looked, .int v_fileSize, .ref m_file, .int v_directorySize, .ref m_directory, .int v_outSize, .ref m_out, .int v_rowSize, .ref m_row, .int v_bitAt, .int v_bitEnd, .int v_why, .int v_madeSize, .ref m_made, .ref m_length, .int v_firstCount, .int v_secondCount, .int v_heldBits, .int v_heldCount, .int v_pressedSize, .ref m_pressed, .int v_at, .int v_bad, .int v_markSize, .ref m_mark, .int v_relationCount, .ref m_idSize, .ref m_ids, .ref m_goalSize, .ref m_goals, .int v_valueSize, .ref m_value, .int v_faultCount, .ref m_faults, .ref m_reached])), (m_count, .inl (G.2.2.1, 2, .inl a_count)), (m_nameSize, .inl (G.2.2.1, 34, .inl a_nameSize)), (m_size, .inl (G.2.2.1, 34, .inl a_size)), (m_names, .inl (G.2.1, 816, .inl a_names)), (m_data, .inl (G.2.1, 136000, .inl a_data))] (S := Int32 × Int32) (fun rv_ u => rv_ = some (.int u.1) ∧ (u.2.toInt = 0 ∧ (0 ≤ i.toInt ∧ i.toInt < vC V ∧ 0 ≤ k.toInt ∧ k.toInt < vZ V i.toInt + vS V i.toInt) ∨ u.2.toInt = 1 ∧ ¬ (0 ≤ i.toInt ∧ i.toInt < vC V ∧ 0 ≤ k.toInt ∧ k.toInt < vZ V i.toInt + vS V i.toInt)) ∧ (u.2.toInt = 0 → u.1.toInt = bo_ V i.toInt k.toInt)) (fun u => [(h, .inr (10, [.ref m_rels, .ref m_openRels, .ref m_closeRels, .ref m_openRel, .ref m_closeRel, .ref m_comment, .ref m_ends, .ref m_order, .int u.2, .int v_taped, .ref m_tape, .ref m_count, .ref m_nameSize, .ref m_names, .ref m_size, .ref m_data, .int v_lookedSize, .ref m_looked, .int v_fileSize, .ref m_file, .int v_directorySize, .ref m_directory, .int v_outSize, .ref m_out, .int v_rowSize, .ref m_row, .int v_bitAt, .int v_bitEnd, .int v_why, .int v_madeSize, .ref m_made, .ref m_length, .int v_firstCount, .int v_secondCount, .int v_heldBits, .int v_heldCount, .int v_pressedSize, .ref m_pressed, .int v_at, .int v_bad, .int v_markSize, .ref m_mark, .int v_relationCount, .ref m_idSize, .ref m_ids, .ref m_goalSize, .ref m_goals, .int v_valueSize, .ref m_value, .int v_faultCount, .ref m_faults, .ref m_reached])), (m_count, .inl (G.2.2.1, 2, .inl a_count)), (m_nameSize, .inl (G.2.2.1, 34, .inl a_nameSize)), (m_size, .inl (G.2.2.1, 34, .inl a_size)), (m_names, .inl (G.2.1, 816, .inl a_names)), (m_data, .inl (G.2.1, 136000, .inl a_data))]) := by
  refine Cn.of hl (by decide +kernel) rfl (Nat.le_of_ble_eq_true rfl) (fun M hQ => ?_)
  refine pb_eq (pc' := 0) (lo' := [(0, .ref h), (1, .int i), (2, .int k)]) (rest' := []) (ws' := [(h, .inr (10, [.ref m_rels, .ref m_openRels, .ref m_closeRels, .ref m_openRel, .ref m_closeRel, .ref m_comment, .ref m_ends, .ref m_order, .int v_thrown, .int v_taped, .ref m_tape, .ref m_count, .ref m_nameSize, .ref m_names, .ref m_size, .ref m_data, .int v_lookedSize, .ref m_looked, .int v_fileSize, .ref m_file, .int v_directorySize, .ref m_directory, .int v_outSize, .ref m_out, .int v_rowSize, .ref m_row, .int v_bitAt, .int v_bitEnd, .int v_why, .int v_madeSize, .ref m_made, .ref m_length, .int v_firstCount, .int v_secondCount, .int v_heldBits, .int v_heldCount, .int v_pressedSize, .ref m_pressed, .int v_at, .int v_bad, .int v_markSize, .ref m_mark, .int v_relationCount, .ref m_idSize, .ref m_ids, .ref m_goalSize, .ref m_goals, .int v_valueSize, .ref m_value, .int v_faultCount, .ref m_faults, .ref m_reached])), (m_count, .inl (G.2.2.1, 2, .inl a_count)), (m_nameSize, .inl (G.2.2.1, 34, .inl a_nameSize)), (m_size, .inl (G.2.2.1, 34, .inl a_size)), (m_names, .inl (G.2.1, 816, .inl a_names)), (m_data, .inl (G.2.1, 136000, .inl a_data))]) ?_
  have zl0 : (0 : Int32).toInt = 0 := by decide
  have zl1 : (1 : Int32).toInt = 1 := by decide
  have zl24 : (24 : Int32).toInt = 24 := by decide
  have zl4000 : (4000 : Int32).toInt = 4000 := by decide
  have w0 := I.1
  have w1 := I.2.1
  have RC := R.1
  have RA : 0 ≤ i.toInt → i.toInt < gx a_count 0 → gx a_nameSize i.toInt = vZ V i.toInt ∧ gx a_size i.toInt = vS V i.toInt := fun q9 q8 => by have q7 := R.2 i.toInt q9 q8; simp only [Int.zero_add] at q7; exact ⟨q7.1, q7.2.1⟩
  have hJ44_1 : ∀ (th_ : Int32), (th_.toInt = 0 ∨ th_.toInt = 1) → (th_.toInt = 0 → 0 ≤ i.toInt ∧ i.toInt < gx a_count 0 ∧ 0 ≤ k.toInt ∧ k.toInt < gx a_nameSize i.toInt + gx a_size i.toInt) → (th_.toInt = 1 → ¬ (0 ≤ i.toInt ∧ i.toInt < gx a_count 0 ∧ 0 ≤ k.toInt ∧ k.toInt < gx a_nameSize i.toInt + gx a_size i.toInt)) → pb_P l G M i_Mod_byteOf 44 [(0, .ref h), (1, .int i), (2, .int k)] [] [(h, .inr (10, [.ref m_rels, .ref m_openRels, .ref m_closeRels, .ref m_openRel, .ref m_closeRel, .ref m_comment, .ref m_ends, .ref m_order, .int th_, .int v_taped, .ref m_tape, .ref m_count, .ref m_nameSize, .ref m_names, .ref m_size, .ref m_data, .int v_lookedSize, .ref m_looked, .int v_fileSize, .ref m_file, .int v_directorySize, .ref m_directory, .int v_outSize, .ref m_out, .int v_rowSize, .ref m_row, .int v_bitAt, .int v_bitEnd, .int v_why, .int v_madeSize, .ref m_made, .ref m_length, .int v_firstCount, .int v_secondCount, .int v_heldBits, .int v_heldCount, .int v_pressedSize, .ref m_pressed, .int v_at, .int v_bad, .int v_markSize, .ref m_mark, .int v_relationCount, .ref m_idSize, .ref m_ids, .ref m_goalSize, .ref m_goals, .int v_valueSize, .ref m_value, .int v_faultCount, .ref m_faults, .ref m_reached])), (m_count, .inl (G.2.2.1, 2, .inl a_count)), (m_nameSize, .inl (G.2.2.1, 34, .inl a_nameSize)), (m_size, .inl (G.2.2.1, 34, .inl a_size)), (m_names, .inl (G.2.1, 816, .inl a_names)), (m_data, .inl (G.2.1, 136000, .inl a_data))] 0 0 := by
    intro th_ l0 l1 l2
    refine pb_aload_n (pc := 44) d_Mod_byteOf_44 0 rfl rfl ?_
    refine pb_get (pc := 45) d_Mod_byteOf_45 0 8 rfl rfl (by decide) in_Mod k_1154 rfl ?_
    refine pb_if_le (pc := 48) (tgt := 53) d_Mod_byteOf_48 (by decide) (fun wx2 => ?_) (fun wx2 => ?_)
    · have twx2 : th_.toInt ≤ 0 := (ti_le rfl (by decide)).mp wx2
      have q5 := I.2.2.1 i.toInt (by (exact omg_28b1290b91 l0 l1 twx2)) (by (exact omg_7689268f95 l0 l1 twx2))
      rw [Int.zero_add] at q5
      have R4 := R.2 i.toInt (by omega) (by (exact omg_7689268f95 l0 l1 twx2))
      simp only [Int.zero_add] at R4
      have Rz := R4.1
      have Rs := R4.2.1
      refine pb_iload_n (pc := 53) d_Mod_byteOf_53 2 rfl rfl ?_
      refine pb_aload_n (pc := 54) d_Mod_byteOf_54 0 rfl rfl ?_
      refine pb_get (pc := 55) d_Mod_byteOf_55 0 12 rfl rfl (by decide) in_Mod k_1158 rfl ?_
      refine pb_iload_n (pc := 58) d_Mod_byteOf_58 1 rfl rfl ?_
      refine pb_iald (pc := 59) d_Mod_byteOf_59 2 rfl (vp_in_iff.mpr (by (exact omg_5107ddb090 w1 l0 l1 twx2))) ?_
      refine pb_topi (fun ix3 eix3 => ?_)
      have tix3 : ix3.toInt = gx a_nameSize (i.toInt) := gx_ld eix3 rfl
      refine pb_icmp_ge (pc := 60) (tgt := 77) d_Mod_byteOf_60 (by decide) (fun wx4 => ?_) (fun wx4 => ?_)
      · have twx4 : ix3.toInt ≤ k.toInt := (ti_le rfl rfl).mp wx4
        refine pb_aload_n (pc := 77) d_Mod_byteOf_77 0 rfl rfl ?_
        refine pb_get (pc := 78) d_Mod_byteOf_78 0 15 rfl rfl (by decide) in_Mod k_1161 rfl ?_
        refine pb_sipush (pc := 81) (v := 4000) d_Mod_byteOf_81 (by decide) ?_
        refine pb_iload_n (pc := 84) d_Mod_byteOf_84 1 rfl rfl ?_
        refine pb_imul (pc := 85) d_Mod_byteOf_85 ?_
        refine pb_topi (fun ix5 eix5 => ?_)
        try have tix5 : ix5.toInt = 4000 * i.toInt := ti_mul eix5 (by decide) rfl (by (exact omg_785d075872 l0 l1 twx2)) (by (exact omg_16a45377c9 w1 l0 l1 twx2))
        refine pb_iload_n (pc := 86) d_Mod_byteOf_86 2 rfl rfl ?_
        refine pb_iadd (pc := 87) d_Mod_byteOf_87 ?_
        refine pb_topi (fun ix6 eix6 => ?_)
        try have tix6 : ix6.toInt = ix5.toInt + k.toInt := t2_add eix6 rfl rfl (by (exact omg_805e5dea0b w1 l0 l1 twx2 q5 tix5))
        refine pb_aload_n (pc := 88) d_Mod_byteOf_88 0 rfl rfl ?_
        refine pb_get (pc := 89) d_Mod_byteOf_89 0 12 rfl rfl (by decide) in_Mod k_1158 rfl ?_
        refine pb_iload_n (pc := 92) d_Mod_byteOf_92 1 rfl rfl ?_
        refine pb_iald (pc := 93) d_Mod_byteOf_93 2 rfl (vp_in_iff.mpr (by (exact omg_5107ddb090 w1 l0 l1 twx2))) ?_
        refine pb_topi (fun ix7 eix7 => ?_)
        have tix7 : ix7.toInt = gx a_nameSize (i.toInt) := gx_ld eix7 rfl
        refine pb_isub (pc := 94) d_Mod_byteOf_94 ?_
        refine pb_topi (fun ix8 eix8 => ?_)
        try have tix8 : ix8.toInt = ix6.toInt - ix7.toInt := t2_sub eix8 rfl rfl (by (exact omg_e825d1740c w1 l0 l1 twx2 q5 tix5 tix6 tix7))
        refine pb_bald (pc := 95) d_Mod_byteOf_95 5 rfl (vp_in_iff.mpr (by (exact omg_c83f110882 w1 l0 l1 twx2 q5 tix3 twx4 tix5 tix6 tix7 tix8))) ?_
        refine pb_topi (fun ix9 eix9 => ?_)
        have xix9 : ix9 = gr a_data (4000 * i.toInt + k.toInt - gx a_nameSize i.toInt) := gr_ld eix9 (by (exact omg_843bf8cbd7 tix5 tix6 tix7 tix8))
        have yix9 : ix9.toInt = gx a_data (4000 * i.toInt + k.toInt - gx a_nameSize i.toInt) := congrArg Int32.toInt xix9
        have xv9 := xix9
        refine pb_sipush (pc := 96) (v := 255) d_Mod_byteOf_96 (by decide) ?_
        refine pb_iand (pc := 99) d_Mod_byteOf_99 ?_
        refine pb_topi (fun ix10 eix10 => ?_)
        have tix10 : 0 ≤ ix10.toInt ∧ ix10.toInt ≤ 255 := ti_and 8 eix10 (by decide) (by decide)
        have ev9 := eix10
        exact pb_iret (pc := 100) hQ d_Mod_byteOf_100 rfl rfl (ix10, th_) ⟨rfl, (show th_.toInt = 0 ∧ (0 ≤ i.toInt ∧ i.toInt < vC V ∧ 0 ≤ k.toInt ∧ k.toInt < vZ V i.toInt + vS V i.toInt) ∨ th_.toInt = 1 ∧ ¬ (0 ≤ i.toInt ∧ i.toInt < vC V ∧ 0 ≤ k.toInt ∧ k.toInt < vZ V i.toInt + vS V i.toInt) from (Or.inl ⟨by (exact omg_3773564ec3 l0 twx2), by (exact omg_28b1290b91 l0 l1 twx2), by (exact omg_c75ca38ed4 RC l0 l1 twx2), by omega, by (exact omg_e0a76532e9 l0 l1 twx2 R4)⟩)), (show th_.toInt = 0 → ix10.toInt = bo_ V i.toInt k.toInt from (fun _ => by first | exact bo_n (by omega) (by have q3 := R4.2.2.1 k.toInt (by omega) (by omega); omega) (ti_255 ev9) | exact bo_d (by (exact omg_cf1fcb0dfb R4 tix3 twx4)) xv9 (by have q3 := R4.2.2.2 (k.toInt - gx a_nameSize i.toInt) (by (exact omg_c20a9fe1af tix3 twx4)) (by omega); rw [← Rz, ← q3]; exact congrArg (gr a_data) (by omega)) (ti_255 ev9)))⟩ [0, 1, 2, 3, 4, 5] (by decide) rfl rfl (by decide) (by decide)
      · have twx4 : ¬ ix3.toInt ≤ k.toInt := fun z9 => wx4 ((ti_le rfl rfl).mpr z9)
        refine pb_aload_n (pc := 63) d_Mod_byteOf_63 0 rfl rfl ?_
        refine pb_get (pc := 64) d_Mod_byteOf_64 0 13 rfl rfl (by decide) in_Mod k_1159 rfl ?_
        refine pb_bipush (pc := 67) (v := 24) d_Mod_byteOf_67 (by decide) ?_
        refine pb_iload_n (pc := 69) d_Mod_byteOf_69 1 rfl rfl ?_
        refine pb_imul (pc := 70) d_Mod_byteOf_70 ?_
        refine pb_topi (fun ix11 eix11 => ?_)
        try have tix11 : ix11.toInt = 24 * i.toInt := ti_mul eix11 (by decide) rfl (by (exact omg_0cfe4b3623 l0 l1 twx2)) (by (exact omg_d278c3c523 w1 l0 l1 twx2))
        refine pb_iload_n (pc := 71) d_Mod_byteOf_71 2 rfl rfl ?_
        refine pb_iadd (pc := 72) d_Mod_byteOf_72 ?_
        refine pb_topi (fun ix12 eix12 => ?_)
        try have tix12 : ix12.toInt = ix11.toInt + k.toInt := t2_add eix12 rfl rfl (by (exact omg_663ce03d1c w1 l0 l1 twx2 q5 tix11))
        refine pb_bald (pc := 73) d_Mod_byteOf_73 4 rfl (vp_in_iff.mpr (by (exact omg_10c7c6ecd3 w1 l0 l1 twx2 q5 tix3 twx4 tix11 tix12))) ?_
        refine pb_topi (fun ix13 eix13 => ?_)
        have xix13 : ix13 = gr a_names (24 * i.toInt + k.toInt) := gr_ld eix13 (by (exact omg_c2f0ba10d7 tix11 tix12))
        have yix13 : ix13.toInt = gx a_names (24 * i.toInt + k.toInt) := congrArg Int32.toInt xix13
        refine pb_goto (pc := 74) (tgt := 96) d_Mod_byteOf_74 (by decide) ?_
        have xv9 := xix13
        refine pb_sipush (pc := 96) (v := 255) d_Mod_byteOf_96 (by decide) ?_
        refine pb_iand (pc := 99) d_Mod_byteOf_99 ?_
        refine pb_topi (fun ix14 eix14 => ?_)
        have tix14 : 0 ≤ ix14.toInt ∧ ix14.toInt ≤ 255 := ti_and 8 eix14 (by decide) (by decide)
        have ev9 := eix14
        exact pb_iret (pc := 100) hQ d_Mod_byteOf_100 rfl rfl (ix14, th_) ⟨rfl, (show th_.toInt = 0 ∧ (0 ≤ i.toInt ∧ i.toInt < vC V ∧ 0 ≤ k.toInt ∧ k.toInt < vZ V i.toInt + vS V i.toInt) ∨ th_.toInt = 1 ∧ ¬ (0 ≤ i.toInt ∧ i.toInt < vC V ∧ 0 ≤ k.toInt ∧ k.toInt < vZ V i.toInt + vS V i.toInt) from (Or.inl ⟨by (exact omg_3773564ec3 l0 twx2), by (exact omg_28b1290b91 l0 l1 twx2), by (exact omg_c75ca38ed4 RC l0 l1 twx2), by (exact omg_e187d477e5 l0 l1 twx2), by omega⟩)), (show th_.toInt = 0 → ix14.toInt = bo_ V i.toInt k.toInt from (fun _ => by first | exact bo_n (by omega) (by have q3 := R4.2.2.1 k.toInt (by omega) (by omega); omega) (ti_255 ev9) | exact bo_d (by omega) xv9 (by have q3 := R4.2.2.2 (k.toInt - gx a_nameSize i.toInt) (by omega) (by omega); rw [← Rz, ← q3]; exact congrArg (gr a_data) (by omega)) (ti_255 ev9)))⟩ [0, 1, 2, 3, 4, 5] (by decide) rfl rfl (by decide) (by decide)
    · have twx2 : ¬ th_.toInt ≤ 0 := fun z9 => wx2 ((ti_le rfl (by decide)).mpr z9)
      refine pb_iconst (pc := 51) (v := 0) d_Mod_byteOf_51 (by decide) ?_
      exact pb_iret (pc := 52) hQ d_Mod_byteOf_52 rfl rfl (0, th_) ⟨rfl, (show th_.toInt = 0 ∧ (0 ≤ i.toInt ∧ i.toInt < vC V ∧ 0 ≤ k.toInt ∧ k.toInt < vZ V i.toInt + vS V i.toInt) ∨ th_.toInt = 1 ∧ ¬ (0 ≤ i.toInt ∧ i.toInt < vC V ∧ 0 ≤ k.toInt ∧ k.toInt < vZ V i.toInt + vS V i.toInt) from (Or.inr ⟨by omega, fun q9 => by have q8 := RA q9.1 (by omega); omega⟩)), (show th_.toInt = 0 → (0 : Int32).toInt = bo_ V i.toInt k.toInt from (fun q9 => absurd q9 (by omega)))⟩ [0, 1, 2, 3, 4, 5] (by decide) rfl rfl (by decide) (by decide)
  refine pb_aload_n (pc := 0) d_Mod_byteOf_0 0 rfl rfl ?_
  refine pb_iload_n (pc := 1) d_Mod_byteOf_1 1 rfl rfl ?_
  refine pb_if_lt (pc := 2) (tgt := 36) d_Mod_byteOf_2 (by decide) (fun wx15 => ?_) (fun wx15 => ?_)
  · have twx15 : i.toInt < 0 := (ti_lt rfl (by decide)).mp wx15
    refine pb_iconst (pc := 36) (v := 1) d_Mod_byteOf_36 (by decide) ?_
    refine pb_goto (pc := 37) (tgt := 41) d_Mod_byteOf_37 (by decide) ?_
    refine pb_put (pc := 41) (ty := .int) (ws' := [(h, .inr (10, [.ref m_rels, .ref m_openRels, .ref m_closeRels, .ref m_openRel, .ref m_closeRel, .ref m_comment, .ref m_ends, .ref m_order, .int 1, .int v_taped, .ref m_tape, .ref m_count, .ref m_nameSize, .ref m_names, .ref m_size, .ref m_data, .int v_lookedSize, .ref m_looked, .int v_fileSize, .ref m_file, .int v_directorySize, .ref m_directory, .int v_outSize, .ref m_out, .int v_rowSize, .ref m_row, .int v_bitAt, .int v_bitEnd, .int v_why, .int v_madeSize, .ref m_made, .ref m_length, .int v_firstCount, .int v_secondCount, .int v_heldBits, .int v_heldCount, .int v_pressedSize, .ref m_pressed, .int v_at, .int v_bad, .int v_markSize, .ref m_mark, .int v_relationCount, .ref m_idSize, .ref m_ids, .ref m_goalSize, .ref m_goals, .int v_valueSize, .ref m_value, .int v_faultCount, .ref m_faults, .ref m_reached])), (m_count, .inl (G.2.2.1, 2, .inl a_count)), (m_nameSize, .inl (G.2.2.1, 34, .inl a_nameSize)), (m_size, .inl (G.2.2.1, 34, .inl a_size)), (m_names, .inl (G.2.1, 816, .inl a_names)), (m_data, .inl (G.2.1, 136000, .inl a_data))]) d_Mod_byteOf_41 0 8 t_Mod t_Mod_ok n_Mod rfl rfl (by decide) in_Mod k_1154 rfl (by decide +kernel) rfl rfl (Nat.le_of_ble_eq_true rfl) rfl ?_
    exact hJ44_1 1 (by first | (with_reducible assumption) | omega (splitDisjunctions := false) | assumption | (clear RA; first | omega (splitDisjunctions := false) | omega) | omega | decide) (by first | (with_reducible assumption) | omega (splitDisjunctions := false) | assumption | exact fun q90 => (by clear RA; first | omega (splitDisjunctions := false) | omega) | omega | decide) (by first | (with_reducible assumption) | omega (splitDisjunctions := false) | assumption | exact fun q90 => (by clear RA; first | omega (splitDisjunctions := false) | omega) | omega | decide)
  · have twx15 : ¬ i.toInt < 0 := fun z9 => wx15 ((ti_lt rfl (by decide)).mpr z9)
    refine pb_iload_n (pc := 5) d_Mod_byteOf_5 1 rfl rfl ?_
    refine pb_aload_n (pc := 6) d_Mod_byteOf_6 0 rfl rfl ?_
    refine pb_get (pc := 7) d_Mod_byteOf_7 0 11 rfl rfl (by decide) in_Mod k_1157 rfl ?_
    refine pb_iconst (pc := 10) (v := 0) d_Mod_byteOf_10 (by decide) ?_
    refine pb_iald (pc := 11) d_Mod_byteOf_11 1 rfl (by unfold vp_in; decide) ?_
    refine pb_topi (fun ix16 eix16 => ?_)
    have tix16 : ix16.toInt = gx a_count (0) := gx_ld eix16 (by omega)
    refine pb_icmp_ge (pc := 12) (tgt := 36) d_Mod_byteOf_12 (by decide) (fun wx17 => ?_) (fun wx17 => ?_)
    · have twx17 : ix16.toInt ≤ i.toInt := (ti_le rfl rfl).mp wx17
      refine pb_iconst (pc := 36) (v := 1) d_Mod_byteOf_36 (by decide) ?_
      refine pb_goto (pc := 37) (tgt := 41) d_Mod_byteOf_37 (by decide) ?_
      refine pb_put (pc := 41) (ty := .int) (ws' := [(h, .inr (10, [.ref m_rels, .ref m_openRels, .ref m_closeRels, .ref m_openRel, .ref m_closeRel, .ref m_comment, .ref m_ends, .ref m_order, .int 1, .int v_taped, .ref m_tape, .ref m_count, .ref m_nameSize, .ref m_names, .ref m_size, .ref m_data, .int v_lookedSize, .ref m_looked, .int v_fileSize, .ref m_file, .int v_directorySize, .ref m_directory, .int v_outSize, .ref m_out, .int v_rowSize, .ref m_row, .int v_bitAt, .int v_bitEnd, .int v_why, .int v_madeSize, .ref m_made, .ref m_length, .int v_firstCount, .int v_secondCount, .int v_heldBits, .int v_heldCount, .int v_pressedSize, .ref m_pressed, .int v_at, .int v_bad, .int v_markSize, .ref m_mark, .int v_relationCount, .ref m_idSize, .ref m_ids, .ref m_goalSize, .ref m_goals, .int v_valueSize, .ref m_value, .int v_faultCount, .ref m_faults, .ref m_reached])), (m_count, .inl (G.2.2.1, 2, .inl a_count)), (m_nameSize, .inl (G.2.2.1, 34, .inl a_nameSize)), (m_size, .inl (G.2.2.1, 34, .inl a_size)), (m_names, .inl (G.2.1, 816, .inl a_names)), (m_data, .inl (G.2.1, 136000, .inl a_data))]) d_Mod_byteOf_41 0 8 t_Mod t_Mod_ok n_Mod rfl rfl (by decide) in_Mod k_1154 rfl (by decide +kernel) rfl rfl (Nat.le_of_ble_eq_true rfl) rfl ?_
      exact hJ44_1 1 (by first | (with_reducible assumption) | omega (splitDisjunctions := false) | assumption | (clear RA; first | omega (splitDisjunctions := false) | omega) | omega | decide) (by first | (with_reducible assumption) | omega (splitDisjunctions := false) | assumption | exact fun q90 => (by clear RA; first | omega (splitDisjunctions := false) | omega) | omega | decide) (by first | (with_reducible assumption) | omega (splitDisjunctions := false) | assumption | exact fun q90 => (by clear RA; first | omega (splitDisjunctions := false) | omega) | omega | decide)
    · have twx17 : ¬ ix16.toInt ≤ i.toInt := fun z9 => wx17 ((ti_le rfl rfl).mpr z9)
      have q5 := I.2.2.1 i.toInt (by omega) (by omega)
      rw [Int.zero_add] at q5
      refine pb_iload_n (pc := 15) d_Mod_byteOf_15 2 rfl rfl ?_
      refine pb_if_lt (pc := 16) (tgt := 36) d_Mod_byteOf_16 (by decide) (fun wx18 => ?_) (fun wx18 => ?_)
      · have twx18 : k.toInt < 0 := (ti_lt rfl (by decide)).mp wx18
        refine pb_iconst (pc := 36) (v := 1) d_Mod_byteOf_36 (by decide) ?_
        refine pb_goto (pc := 37) (tgt := 41) d_Mod_byteOf_37 (by decide) ?_
        refine pb_put (pc := 41) (ty := .int) (ws' := [(h, .inr (10, [.ref m_rels, .ref m_openRels, .ref m_closeRels, .ref m_openRel, .ref m_closeRel, .ref m_comment, .ref m_ends, .ref m_order, .int 1, .int v_taped, .ref m_tape, .ref m_count, .ref m_nameSize, .ref m_names, .ref m_size, .ref m_data, .int v_lookedSize, .ref m_looked, .int v_fileSize, .ref m_file, .int v_directorySize, .ref m_directory, .int v_outSize, .ref m_out, .int v_rowSize, .ref m_row, .int v_bitAt, .int v_bitEnd, .int v_why, .int v_madeSize, .ref m_made, .ref m_length, .int v_firstCount, .int v_secondCount, .int v_heldBits, .int v_heldCount, .int v_pressedSize, .ref m_pressed, .int v_at, .int v_bad, .int v_markSize, .ref m_mark, .int v_relationCount, .ref m_idSize, .ref m_ids, .ref m_goalSize, .ref m_goals, .int v_valueSize, .ref m_value, .int v_faultCount, .ref m_faults, .ref m_reached])), (m_count, .inl (G.2.2.1, 2, .inl a_count)), (m_nameSize, .inl (G.2.2.1, 34, .inl a_nameSize)), (m_size, .inl (G.2.2.1, 34, .inl a_size)), (m_names, .inl (G.2.1, 816, .inl a_names)), (m_data, .inl (G.2.1, 136000, .inl a_data))]) d_Mod_byteOf_41 0 8 t_Mod t_Mod_ok n_Mod rfl rfl (by decide) in_Mod k_1154 rfl (by decide +kernel) rfl rfl (Nat.le_of_ble_eq_true rfl) rfl ?_
        exact hJ44_1 1 (by first | (with_reducible assumption) | omega (splitDisjunctions := false) | assumption | (clear RA; first | omega (splitDisjunctions := false) | omega) | omega | decide) (by first | (with_reducible assumption) | omega (splitDisjunctions := false) | assumption | exact fun q90 => (by clear RA; first | omega (splitDisjunctions := false) | omega) | omega | decide) (by first | (with_reducible assumption) | omega (splitDisjunctions := false) | assumption | exact fun q90 => (by clear RA; first | omega (splitDisjunctions := false) | omega) | omega | decide)
      · have twx18 : ¬ k.toInt < 0 := fun z9 => wx18 ((ti_lt rfl (by decide)).mpr z9)
        refine pb_iload_n (pc := 19) d_Mod_byteOf_19 2 rfl rfl ?_
        refine pb_aload_n (pc := 20) d_Mod_byteOf_20 0 rfl rfl ?_
        refine pb_get (pc := 21) d_Mod_byteOf_21 0 12 rfl rfl (by decide) in_Mod k_1158 rfl ?_
        refine pb_iload_n (pc := 24) d_Mod_byteOf_24 1 rfl rfl ?_
        refine pb_iald (pc := 25) d_Mod_byteOf_25 2 rfl (vp_in_iff.mpr (by omega)) ?_
        refine pb_topi (fun ix19 eix19 => ?_)
        have tix19 : ix19.toInt = gx a_nameSize (i.toInt) := gx_ld eix19 rfl
        refine pb_aload_n (pc := 26) d_Mod_byteOf_26 0 rfl rfl ?_
        refine pb_get (pc := 27) d_Mod_byteOf_27 0 14 rfl rfl (by decide) in_Mod k_1160 rfl ?_
        refine pb_iload_n (pc := 30) d_Mod_byteOf_30 1 rfl rfl ?_
        refine pb_iald (pc := 31) d_Mod_byteOf_31 3 rfl (vp_in_iff.mpr (by omega)) ?_
        refine pb_topi (fun ix20 eix20 => ?_)
        have tix20 : ix20.toInt = gx a_size (i.toInt) := gx_ld eix20 rfl
        refine pb_iadd (pc := 32) d_Mod_byteOf_32 ?_
        refine pb_topi (fun ix21 eix21 => ?_)
        try have tix21 : ix21.toInt = ix19.toInt + ix20.toInt := t2_add eix21 rfl rfl (by omega)
        refine pb_icmp_lt (pc := 33) (tgt := 40) d_Mod_byteOf_33 (by decide) (fun wx22 => ?_) (fun wx22 => ?_)
        · have twx22 : k.toInt < ix21.toInt := (ti_lt rfl rfl).mp wx22
          refine pb_iconst (pc := 40) (v := 0) d_Mod_byteOf_40 (by decide) ?_
          refine pb_put (pc := 41) (ty := .int) (ws' := [(h, .inr (10, [.ref m_rels, .ref m_openRels, .ref m_closeRels, .ref m_openRel, .ref m_closeRel, .ref m_comment, .ref m_ends, .ref m_order, .int 0, .int v_taped, .ref m_tape, .ref m_count, .ref m_nameSize, .ref m_names, .ref m_size, .ref m_data, .int v_lookedSize, .ref m_looked, .int v_fileSize, .ref m_file, .int v_directorySize, .ref m_directory, .int v_outSize, .ref m_out, .int v_rowSize, .ref m_row, .int v_bitAt, .int v_bitEnd, .int v_why, .int v_madeSize, .ref m_made, .ref m_length, .int v_firstCount, .int v_secondCount, .int v_heldBits, .int v_heldCount, .int v_pressedSize, .ref m_pressed, .int v_at, .int v_bad, .int v_markSize, .ref m_mark, .int v_relationCount, .ref m_idSize, .ref m_ids, .ref m_goalSize, .ref m_goals, .int v_valueSize, .ref m_value, .int v_faultCount, .ref m_faults, .ref m_reached])), (m_count, .inl (G.2.2.1, 2, .inl a_count)), (m_nameSize, .inl (G.2.2.1, 34, .inl a_nameSize)), (m_size, .inl (G.2.2.1, 34, .inl a_size)), (m_names, .inl (G.2.1, 816, .inl a_names)), (m_data, .inl (G.2.1, 136000, .inl a_data))]) d_Mod_byteOf_41 0 8 t_Mod t_Mod_ok n_Mod rfl rfl (by decide) in_Mod k_1154 rfl (by decide +kernel) rfl rfl (Nat.le_of_ble_eq_true rfl) rfl ?_
          exact hJ44_1 0 (by first | (with_reducible assumption) | omega (splitDisjunctions := false) | assumption | (clear RA; first | omega (splitDisjunctions := false) | omega) | omega | decide) (by first | (with_reducible assumption) | omega (splitDisjunctions := false) | assumption | exact fun q90 => (by clear RA; first | omega (splitDisjunctions := false) | omega) | omega | decide) (by first | (with_reducible assumption) | omega (splitDisjunctions := false) | assumption | exact fun q90 => (by clear RA; first | omega (splitDisjunctions := false) | omega) | omega | decide)
        · have twx22 : ¬ k.toInt < ix21.toInt := fun z9 => wx22 ((ti_lt rfl rfl).mpr z9)
          refine pb_iconst (pc := 36) (v := 1) d_Mod_byteOf_36 (by decide) ?_
          refine pb_goto (pc := 37) (tgt := 41) d_Mod_byteOf_37 (by decide) ?_
          refine pb_put (pc := 41) (ty := .int) (ws' := [(h, .inr (10, [.ref m_rels, .ref m_openRels, .ref m_closeRels, .ref m_openRel, .ref m_closeRel, .ref m_comment, .ref m_ends, .ref m_order, .int 1, .int v_taped, .ref m_tape, .ref m_count, .ref m_nameSize, .ref m_names, .ref m_size, .ref m_data, .int v_lookedSize, .ref m_looked, .int v_fileSize, .ref m_file, .int v_directorySize, .ref m_directory, .int v_outSize, .ref m_out, .int v_rowSize, .ref m_row, .int v_bitAt, .int v_bitEnd, .int v_why, .int v_madeSize, .ref m_made, .ref m_length, .int v_firstCount, .int v_secondCount, .int v_heldBits, .int v_heldCount, .int v_pressedSize, .ref m_pressed, .int v_at, .int v_bad, .int v_markSize, .ref m_mark, .int v_relationCount, .ref m_idSize, .ref m_ids, .ref m_goalSize, .ref m_goals, .int v_valueSize, .ref m_value, .int v_faultCount, .ref m_faults, .ref m_reached])), (m_count, .inl (G.2.2.1, 2, .inl a_count)), (m_nameSize, .inl (G.2.2.1, 34, .inl a_nameSize)), (m_size, .inl (G.2.2.1, 34, .inl a_size)), (m_names, .inl (G.2.1, 816, .inl a_names)), (m_data, .inl (G.2.1, 136000, .inl a_data))]) d_Mod_byteOf_41 0 8 t_Mod t_Mod_ok n_Mod rfl rfl (by decide) in_Mod k_1154 rfl (by decide +kernel) rfl rfl (Nat.le_of_ble_eq_true rfl) rfl ?_
          exact hJ44_1 1 (by first | (with_reducible assumption) | omega (splitDisjunctions := false) | assumption | (clear RA; first | omega (splitDisjunctions := false) | omega) | omega | decide) (by first | (with_reducible assumption) | omega (splitDisjunctions := false) | assumption | exact fun q90 => (by clear RA; first | omega (splitDisjunctions := false) | omega) | omega | decide) (by first | (with_reducible assumption) | omega (splitDisjunctions := false) | assumption | exact fun q90 => (by clear RA; first | omega (splitDisjunctions := false) | omega) | omega | decide)
