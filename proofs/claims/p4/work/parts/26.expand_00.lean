theorem d_Expander_leastTimes_0 : decode prog_3_method_7_code 0 = .ok (.iload_n 0, 1) := sorry
theorem d_Expander_leastTimes_1 : decode prog_3_method_7_code 1 = .ok (.bipush 16, 2) := sorry
theorem d_Expander_leastTimes_3 : decode prog_3_method_7_code 3 = .ok (.if_icmp .ge 7, 3) := sorry
theorem d_Expander_leastTimes_10 : decode prog_3_method_7_code 10 = .ok (.iload_n 0, 1) := sorry
theorem d_Expander_leastTimes_11 : decode prog_3_method_7_code 11 = .ok (.bipush 18, 2) := sorry
theorem d_Expander_leastTimes_13 : decode prog_3_method_7_code 13 = .ok (.if_icmp .ge 7, 3) := sorry
theorem d_Expander_leastTimes_20 : decode prog_3_method_7_code 20 = .ok (.bipush 11, 2) := sorry
theorem d_Expander_leastTimes_22 : decode prog_3_method_7_code 22 = .ok (.ireturn, 1) := sorry
theorem d_Expander_leastTimes_16 : decode prog_3_method_7_code 16 = .ok (.iconst 3, 1) := sorry
theorem d_Expander_leastTimes_17 : decode prog_3_method_7_code 17 = .ok (.goto 5, 3) := sorry
theorem d_Expander_leastTimes_6 : decode prog_3_method_7_code 6 = .ok (.iconst 1, 1) := sorry
theorem d_Expander_leastTimes_7 : decode prog_3_method_7_code 7 = .ok (.goto 15, 3) := sorry
abbrev y_Expander_leastTimes : MethodName := ⟨"PackageBook$Expander", "leastTimes", "(I)I"⟩
abbrev i_Expander_leastTimes : pb_I := (y_Expander_leastTimes, prog_3_method_7_code, 1, (some Jvm.ClassFile.FieldType.int), [], { frames := 0, cells := 0, slots := 0, locals := 0 })
theorem g_Exp_leastTimes {l : Launch} (hl : l.stackTraces = false) (G : pb_G) (k : Int32) : Cn l G i_Expander_leastTimes [.int k] [] (S := Int32) (fun rv_ u => rv_ = some (.int u) ∧ (1 ≤ u.toInt) ∧ (u.toInt ≤ 11) ∧ (u.toInt = tl_ k.toInt)) (fun u => []) := sorry
theorem d_Expander_bitsOfTimes_0 : decode prog_3_method_8_code 0 = .ok (.iload_n 0, 1) := sorry
theorem d_Expander_bitsOfTimes_1 : decode prog_3_method_8_code 1 = .ok (.bipush 16, 2) := sorry
theorem d_Expander_bitsOfTimes_3 : decode prog_3_method_8_code 3 = .ok (.if_icmp .ge 7, 3) := sorry
theorem d_Expander_bitsOfTimes_10 : decode prog_3_method_8_code 10 = .ok (.iload_n 0, 1) := sorry
theorem d_Expander_bitsOfTimes_11 : decode prog_3_method_8_code 11 = .ok (.bipush 16, 2) := sorry
theorem d_Expander_bitsOfTimes_13 : decode prog_3_method_8_code 13 = .ok (.if_icmp .ne 7, 3) := sorry
theorem d_Expander_bitsOfTimes_20 : decode prog_3_method_8_code 20 = .ok (.iload_n 0, 1) := sorry
theorem d_Expander_bitsOfTimes_21 : decode prog_3_method_8_code 21 = .ok (.bipush 17, 2) := sorry
theorem d_Expander_bitsOfTimes_23 : decode prog_3_method_8_code 23 = .ok (.if_icmp .ne 7, 3) := sorry
theorem d_Expander_bitsOfTimes_30 : decode prog_3_method_8_code 30 = .ok (.bipush 7, 2) := sorry
theorem d_Expander_bitsOfTimes_32 : decode prog_3_method_8_code 32 = .ok (.ireturn, 1) := sorry
theorem d_Expander_bitsOfTimes_26 : decode prog_3_method_8_code 26 = .ok (.iconst 3, 1) := sorry
theorem d_Expander_bitsOfTimes_27 : decode prog_3_method_8_code 27 = .ok (.goto 5, 3) := sorry
theorem d_Expander_bitsOfTimes_16 : decode prog_3_method_8_code 16 = .ok (.iconst 2, 1) := sorry
theorem d_Expander_bitsOfTimes_17 : decode prog_3_method_8_code 17 = .ok (.goto 15, 3) := sorry
theorem d_Expander_bitsOfTimes_6 : decode prog_3_method_8_code 6 = .ok (.iconst 0, 1) := sorry
theorem d_Expander_bitsOfTimes_7 : decode prog_3_method_8_code 7 = .ok (.goto 25, 3) := sorry
abbrev y_Expander_bitsOfTimes : MethodName := ⟨"PackageBook$Expander", "bitsOfTimes", "(I)I"⟩
abbrev i_Expander_bitsOfTimes : pb_I := (y_Expander_bitsOfTimes, prog_3_method_8_code, 1, (some Jvm.ClassFile.FieldType.int), [], { frames := 0, cells := 0, slots := 0, locals := 0 })
theorem g_Exp_bitsOfTimes {l : Launch} (hl : l.stackTraces = false) (G : pb_G) (k : Int32) : Cn l G i_Expander_bitsOfTimes [.int k] [] (S := Int32) (fun rv_ u => rv_ = some (.int u) ∧ (0 ≤ u.toInt) ∧ (u.toInt ≤ 7) ∧ (u.toInt = tb_ k.toInt)) (fun u => []) := sorry
theorem d_Expander_bitsOfLength_0 : decode prog_3_method_11_code 0 = .ok (.iload_n 0, 1) := sorry
theorem d_Expander_bitsOfLength_1 : decode prog_3_method_11_code 1 = .ok (.bipush 8, 2) := sorry
theorem d_Expander_bitsOfLength_3 : decode prog_3_method_11_code 3 = .ok (.if_icmp .lt 9, 3) := sorry
theorem d_Expander_bitsOfLength_12 : decode prog_3_method_11_code 12 = .ok (.iconst 0, 1) := sorry
theorem d_Expander_bitsOfLength_13 : decode prog_3_method_11_code 13 = .ok (.goto 8, 3) := sorry
theorem d_Expander_bitsOfLength_21 : decode prog_3_method_11_code 21 = .ok (.ireturn, 1) := sorry
theorem d_Expander_bitsOfLength_6 : decode prog_3_method_11_code 6 = .ok (.iload_n 0, 1) := sorry
theorem d_Expander_bitsOfLength_7 : decode prog_3_method_11_code 7 = .ok (.bipush 28, 2) := sorry
theorem d_Expander_bitsOfLength_9 : decode prog_3_method_11_code 9 = .ok (.if_icmp .lt 7, 3) := sorry
theorem d_Expander_bitsOfLength_16 : decode prog_3_method_11_code 16 = .ok (.iload_n 0, 1) := sorry
theorem d_Expander_bitsOfLength_17 : decode prog_3_method_11_code 17 = .ok (.iconst 4, 1) := sorry
theorem d_Expander_bitsOfLength_18 : decode prog_3_method_11_code 18 = .ok (.idiv, 1) := sorry
theorem d_Expander_bitsOfLength_19 : decode prog_3_method_11_code 19 = .ok (.iconst 1, 1) := sorry
theorem d_Expander_bitsOfLength_20 : decode prog_3_method_11_code 20 = .ok (.isub, 1) := sorry
abbrev y_Expander_bitsOfLength : MethodName := ⟨"PackageBook$Expander", "bitsOfLength", "(I)I"⟩
abbrev i_Expander_bitsOfLength : pb_I := (y_Expander_bitsOfLength, prog_3_method_11_code, 1, (some Jvm.ClassFile.FieldType.int), [], { frames := 0, cells := 0, slots := 0, locals := 0 })
theorem g_Exp_bitsOfLength {l : Launch} (hl : l.stackTraces = false) (G : pb_G) (k : Int32) : Cn l G i_Expander_bitsOfLength [.int k] [] (S := Int32) (fun rv_ u => rv_ = some (.int u) ∧ (0 ≤ u.toInt) ∧ (u.toInt ≤ 6) ∧ (u.toInt = lb_f k.toInt)) (fun u => []) := sorry
theorem d_Expander_leastLength_0 : decode prog_3_method_12_code 0 = .ok (.iload_n 0, 1) := sorry
theorem d_Expander_leastLength_1 : decode prog_3_method_12_code 1 = .ok (.bipush 8, 2) := sorry
theorem d_Expander_leastLength_3 : decode prog_3_method_12_code 3 = .ok (.if_icmp .ge 9, 3) := sorry
theorem d_Expander_leastLength_12 : decode prog_3_method_12_code 12 = .ok (.iload_n 0, 1) := sorry
theorem d_Expander_leastLength_13 : decode prog_3_method_12_code 13 = .ok (.bipush 28, 2) := sorry
theorem d_Expander_leastLength_15 : decode prog_3_method_12_code 15 = .ok (.if_icmp .lt 9, 3) := sorry
theorem d_Expander_leastLength_24 : decode prog_3_method_12_code 24 = .ok (.iconst 3, 1) := sorry
theorem d_Expander_leastLength_25 : decode prog_3_method_12_code 25 = .ok (.iconst 4, 1) := sorry
theorem d_Expander_leastLength_26 : decode prog_3_method_12_code 26 = .ok (.iload_n 0, 1) := sorry
theorem d_Expander_leastLength_27 : decode prog_3_method_12_code 27 = .ok (.iconst 4, 1) := sorry
theorem d_Expander_leastLength_28 : decode prog_3_method_12_code 28 = .ok (.irem, 1) := sorry
theorem d_Expander_leastLength_29 : decode prog_3_method_12_code 29 = .ok (.iadd, 1) := sorry
theorem d_Expander_leastLength_30 : decode prog_3_method_12_code 30 = .ok (.iload_n 0, 1) := sorry
theorem d_Expander_leastLength_31 : decode prog_3_method_12_code 31 = .ok (.iconst 4, 1) := sorry
theorem d_Expander_leastLength_32 : decode prog_3_method_12_code 32 = .ok (.idiv, 1) := sorry
theorem d_Expander_leastLength_33 : decode prog_3_method_12_code 33 = .ok (.iconst 1, 1) := sorry
theorem d_Expander_leastLength_34 : decode prog_3_method_12_code 34 = .ok (.isub, 1) := sorry
theorem d_Expander_leastLength_35 : decode prog_3_method_12_code 35 = .ok (.ishl, 1) := sorry
theorem d_Expander_leastLength_36 : decode prog_3_method_12_code 36 = .ok (.iadd, 1) := sorry
theorem d_Expander_leastLength_37 : decode prog_3_method_12_code 37 = .ok (.ireturn, 1) := sorry
theorem d_Expander_leastLength_18 : decode prog_3_method_12_code 18 = .ok (.sipush 258, 3) := sorry
theorem d_Expander_leastLength_21 : decode prog_3_method_12_code 21 = .ok (.goto 16, 3) := sorry
theorem d_Expander_leastLength_6 : decode prog_3_method_12_code 6 = .ok (.iconst 3, 1) := sorry
theorem d_Expander_leastLength_7 : decode prog_3_method_12_code 7 = .ok (.iload_n 0, 1) := sorry
theorem d_Expander_leastLength_8 : decode prog_3_method_12_code 8 = .ok (.iadd, 1) := sorry
theorem d_Expander_leastLength_9 : decode prog_3_method_12_code 9 = .ok (.goto 28, 3) := sorry
abbrev y_Expander_leastLength : MethodName := ⟨"PackageBook$Expander", "leastLength", "(I)I"⟩
abbrev i_Expander_leastLength : pb_I := (y_Expander_leastLength, prog_3_method_12_code, 1, (some Jvm.ClassFile.FieldType.int), [], { frames := 0, cells := 0, slots := 0, locals := 0 })
theorem g_Exp_leastLength {l : Launch} (hl : l.stackTraces = false) (G : pb_G) (k : Int32) (h0 : 0 ≤ k.toInt) : Cn l G i_Expander_leastLength [.int k] [] (S := Int32) (fun rv_ u => rv_ = some (.int u) ∧ (0 ≤ k.toInt → u.toInt = ll_f k.toInt)) (fun u => []) := sorry
theorem d_Expander_bitsOfDistance_0 : decode prog_3_method_13_code 0 = .ok (.iload_n 0, 1) := sorry
theorem d_Expander_bitsOfDistance_1 : decode prog_3_method_13_code 1 = .ok (.iconst 4, 1) := sorry
theorem d_Expander_bitsOfDistance_2 : decode prog_3_method_13_code 2 = .ok (.if_icmp .ge 7, 3) := sorry
theorem d_Expander_bitsOfDistance_9 : decode prog_3_method_13_code 9 = .ok (.iload_n 0, 1) := sorry
theorem d_Expander_bitsOfDistance_10 : decode prog_3_method_13_code 10 = .ok (.iconst 2, 1) := sorry
theorem d_Expander_bitsOfDistance_11 : decode prog_3_method_13_code 11 = .ok (.idiv, 1) := sorry
theorem d_Expander_bitsOfDistance_12 : decode prog_3_method_13_code 12 = .ok (.iconst 1, 1) := sorry
theorem d_Expander_bitsOfDistance_13 : decode prog_3_method_13_code 13 = .ok (.isub, 1) := sorry
theorem d_Expander_bitsOfDistance_14 : decode prog_3_method_13_code 14 = .ok (.ireturn, 1) := sorry
theorem d_Expander_bitsOfDistance_5 : decode prog_3_method_13_code 5 = .ok (.iconst 0, 1) := sorry
theorem d_Expander_bitsOfDistance_6 : decode prog_3_method_13_code 6 = .ok (.goto 8, 3) := sorry
abbrev y_Expander_bitsOfDistance : MethodName := ⟨"PackageBook$Expander", "bitsOfDistance", "(I)I"⟩
abbrev i_Expander_bitsOfDistance : pb_I := (y_Expander_bitsOfDistance, prog_3_method_13_code, 1, (some Jvm.ClassFile.FieldType.int), [], { frames := 0, cells := 0, slots := 0, locals := 0 })
theorem g_Exp_bitsOfDistance {l : Launch} (hl : l.stackTraces = false) (G : pb_G) (d : Int32) (h0 : 0 ≤ d.toInt) (h1 : d.toInt ≤ 31) : Cn l G i_Expander_bitsOfDistance [.int d] [] (S := Int32) (fun rv_ u => rv_ = some (.int u) ∧ (0 ≤ u.toInt) ∧ (u.toInt ≤ 14) ∧ (u.toInt = db_f d.toInt)) (fun u => []) := sorry
theorem d_Expander_leastDistance_0 : decode prog_3_method_14_code 0 = .ok (.iload_n 0, 1) := sorry
theorem d_Expander_leastDistance_1 : decode prog_3_method_14_code 1 = .ok (.iconst 4, 1) := sorry
theorem d_Expander_leastDistance_2 : decode prog_3_method_14_code 2 = .ok (.if_icmp .ge 9, 3) := sorry
theorem d_Expander_leastDistance_11 : decode prog_3_method_14_code 11 = .ok (.iconst 1, 1) := sorry
theorem d_Expander_leastDistance_12 : decode prog_3_method_14_code 12 = .ok (.iconst 2, 1) := sorry
theorem d_Expander_leastDistance_13 : decode prog_3_method_14_code 13 = .ok (.iload_n 0, 1) := sorry
theorem d_Expander_leastDistance_14 : decode prog_3_method_14_code 14 = .ok (.iconst 2, 1) := sorry
theorem d_Expander_leastDistance_15 : decode prog_3_method_14_code 15 = .ok (.irem, 1) := sorry
theorem d_Expander_leastDistance_16 : decode prog_3_method_14_code 16 = .ok (.iadd, 1) := sorry
theorem d_Expander_leastDistance_17 : decode prog_3_method_14_code 17 = .ok (.iload_n 0, 1) := sorry
theorem d_Expander_leastDistance_18 : decode prog_3_method_14_code 18 = .ok (.iconst 2, 1) := sorry
theorem d_Expander_leastDistance_19 : decode prog_3_method_14_code 19 = .ok (.idiv, 1) := sorry
theorem d_Expander_leastDistance_20 : decode prog_3_method_14_code 20 = .ok (.iconst 1, 1) := sorry
theorem d_Expander_leastDistance_21 : decode prog_3_method_14_code 21 = .ok (.isub, 1) := sorry
theorem d_Expander_leastDistance_22 : decode prog_3_method_14_code 22 = .ok (.ishl, 1) := sorry
theorem d_Expander_leastDistance_23 : decode prog_3_method_14_code 23 = .ok (.iadd, 1) := sorry
theorem d_Expander_leastDistance_24 : decode prog_3_method_14_code 24 = .ok (.ireturn, 1) := sorry
theorem d_Expander_leastDistance_5 : decode prog_3_method_14_code 5 = .ok (.iconst 1, 1) := sorry
theorem d_Expander_leastDistance_6 : decode prog_3_method_14_code 6 = .ok (.iload_n 0, 1) := sorry
theorem d_Expander_leastDistance_7 : decode prog_3_method_14_code 7 = .ok (.iadd, 1) := sorry
theorem d_Expander_leastDistance_8 : decode prog_3_method_14_code 8 = .ok (.goto 16, 3) := sorry
abbrev y_Expander_leastDistance : MethodName := ⟨"PackageBook$Expander", "leastDistance", "(I)I"⟩
abbrev i_Expander_leastDistance : pb_I := (y_Expander_leastDistance, prog_3_method_14_code, 1, (some Jvm.ClassFile.FieldType.int), [], { frames := 0, cells := 0, slots := 0, locals := 0 })
theorem g_Exp_leastDistance {l : Launch} (hl : l.stackTraces = false) (G : pb_G) (d : Int32) (h0 : 0 ≤ d.toInt) (h1 : d.toInt ≤ 31) : Cn l G i_Expander_leastDistance [.int d] [] (S := Int32) (fun rv_ u => rv_ = some (.int u) ∧ (1 ≤ u.toInt) ∧ (u.toInt ≤ 65536) ∧ (d.toInt ≤ 29 → u.toInt = ld_f d.toInt)) (fun u => []) := sorry
theorem d_Expander_fail_0 : decode prog_3_method_18_code 0 = .ok (.aload_n 0, 1) := sorry
theorem d_Expander_fail_1 : decode prog_3_method_18_code 1 = .ok (.getfield 65, 3) := sorry
theorem k_260 : (Jvm.Cond.fieldLink "PackageBook$Expander" (65 : Nat) "PackageBook$Expander" "fault" "I") ∈ uW := sorry
theorem d_Expander_fail_4 : decode prog_3_method_18_code 4 = .ok (.ifCond .ne 8, 3) := sorry
theorem d_Expander_fail_12 : decode prog_3_method_18_code 12 = .ok (.return_, 1) := sorry
theorem d_Expander_fail_7 : decode prog_3_method_18_code 7 = .ok (.aload_n 0, 1) := sorry
theorem d_Expander_fail_8 : decode prog_3_method_18_code 8 = .ok (.iload_n 1, 1) := sorry
theorem d_Expander_fail_9 : decode prog_3_method_18_code 9 = .ok (.putfield 65, 3) := sorry
abbrev y_Expander_fail : MethodName := ⟨"PackageBook$Expander", "fail", "(I)V"⟩
abbrev i_Expander_fail : pb_I := (y_Expander_fail, prog_3_method_18_code, 2, (Option.none : Option Jvm.ClassFile.FieldType), [], { frames := 0, cells := 0, slots := 0, locals := 0 })
theorem g_Exp_fail {l : Launch} (hl : l.stackTraces = false) (G : pb_G) (h : Nat) (ex : Nat) (et : Nat) (ea : Nat) (eb : Nat) (ec : Nat) (ed : Nat) (ef : Nat) (er : Nat) (at_ : Int32) (en : Int32) (fl : Int32) (w : Int32) (a4 : 0 ≤ fl.toInt) (w0 : 0 < w.toInt) : Cn l G i_Expander_fail [.ref h, .int w] [(h, .inr (5, [.ref ex, .ref et, .ref ea, .ref eb, .ref ec, .ref ed, .ref ef, .ref er, .int at_, .int en, .int fl]))] (S := Int32) (fun rv_ u => rv_ = none ∧ (0 < u.toInt) ∧ (fl.toInt = 0 ∧ u.toInt = w.toInt ∨ fl.toInt ≠ 0 ∧ u.toInt = fl.toInt)) (fun u => [(h, .inr (5, [.ref ex, .ref et, .ref ea, .ref eb, .ref ec, .ref ed, .ref ef, .ref er, .int at_, .int en, .int u]))]) := sorry
theorem d_Expander_number_25 : decode prog_3_method_17_code 25 = .ok (.aload_n 0, 1) := sorry
theorem d_Expander_number_26 : decode prog_3_method_17_code 26 = .ok (.getfield 65, 3) := sorry
theorem d_Expander_number_29 : decode prog_3_method_17_code 29 = .ok (.ifCond .eq 5, 3) := sorry
theorem d_Expander_number_34 : decode prog_3_method_17_code 34 = .ok (.iconst 0, 1) := sorry
theorem d_Expander_number_35 : decode prog_3_method_17_code 35 = .ok (.istore_n 2, 1) := sorry
theorem d_Expander_number_36 : decode prog_3_method_17_code 36 = .ok (.iconst 0, 1) := sorry
theorem d_Expander_number_37 : decode prog_3_method_17_code 37 = .ok (.istore_n 3, 1) := sorry
theorem d_Expander_number_38 : decode prog_3_method_17_code 38 = .ok (.iload_n 3, 1) := sorry
theorem d_Expander_number_39 : decode prog_3_method_17_code 39 = .ok (.iload_n 1, 1) := sorry
theorem d_Expander_number_40 : decode prog_3_method_17_code 40 = .ok (.if_icmp .ge 45, 3) := sorry
theorem d_Expander_number_85 : decode prog_3_method_17_code 85 = .ok (.iload_n 2, 1) := sorry
theorem d_Expander_number_86 : decode prog_3_method_17_code 86 = .ok (.ireturn, 1) := sorry
theorem d_Expander_number_43 : decode prog_3_method_17_code 43 = .ok (.iload_n 2, 1) := sorry
theorem d_Expander_number_44 : decode prog_3_method_17_code 44 = .ok (.aload_n 0, 1) := sorry
theorem d_Expander_number_45 : decode prog_3_method_17_code 45 = .ok (.getfield 46, 3) := sorry
theorem k_257 : (Jvm.Cond.fieldLink "PackageBook$Expander" (46 : Nat) "PackageBook$Expander" "row" "[B") ∈ uW := sorry
theorem d_Expander_number_48 : decode prog_3_method_17_code 48 = .ok (.aload_n 0, 1) := sorry
theorem d_Expander_number_49 : decode prog_3_method_17_code 49 = .ok (.getfield 58, 3) := sorry
theorem k_258 : (Jvm.Cond.fieldLink "PackageBook$Expander" (58 : Nat) "PackageBook$Expander" "at" "I") ∈ uW := sorry
theorem d_Expander_number_52 : decode prog_3_method_17_code 52 = .ok (.iconst 3, 1) := sorry
theorem d_Expander_number_53 : decode prog_3_method_17_code 53 = .ok (.ishr, 1) := sorry
theorem d_Expander_number_54 : decode prog_3_method_17_code 54 = .ok (.baload, 1) := sorry
theorem d_Expander_number_55 : decode prog_3_method_17_code 55 = .ok (.aload_n 0, 1) := sorry
theorem d_Expander_number_56 : decode prog_3_method_17_code 56 = .ok (.getfield 58, 3) := sorry
theorem d_Expander_number_59 : decode prog_3_method_17_code 59 = .ok (.bipush 7, 2) := sorry
theorem d_Expander_number_61 : decode prog_3_method_17_code 61 = .ok (.iand, 1) := sorry
theorem d_Expander_number_62 : decode prog_3_method_17_code 62 = .ok (.ishr, 1) := sorry
theorem d_Expander_number_63 : decode prog_3_method_17_code 63 = .ok (.iconst 1, 1) := sorry
theorem d_Expander_number_64 : decode prog_3_method_17_code 64 = .ok (.iand, 1) := sorry
theorem d_Expander_number_65 : decode prog_3_method_17_code 65 = .ok (.iload_n 3, 1) := sorry
theorem d_Expander_number_66 : decode prog_3_method_17_code 66 = .ok (.ishl, 1) := sorry
theorem d_Expander_number_67 : decode prog_3_method_17_code 67 = .ok (.ior, 1) := sorry
theorem d_Expander_number_68 : decode prog_3_method_17_code 68 = .ok (.istore_n 2, 1) := sorry
theorem d_Expander_number_69 : decode prog_3_method_17_code 69 = .ok (.aload_n 0, 1) := sorry
theorem d_Expander_number_70 : decode prog_3_method_17_code 70 = .ok (.dup, 1) := sorry
theorem d_Expander_number_71 : decode prog_3_method_17_code 71 = .ok (.getfield 58, 3) := sorry
theorem d_Expander_number_74 : decode prog_3_method_17_code 74 = .ok (.iconst 1, 1) := sorry
theorem d_Expander_number_75 : decode prog_3_method_17_code 75 = .ok (.iadd, 1) := sorry
theorem d_Expander_number_76 : decode prog_3_method_17_code 76 = .ok (.putfield 58, 3) := sorry
theorem d_Expander_number_79 : decode prog_3_method_17_code 79 = .ok (.iinc 3 1, 3) := sorry
theorem d_Expander_number_82 : decode prog_3_method_17_code 82 = .ok (.goto (-44), 3) := sorry
theorem d_Expander_number_32 : decode prog_3_method_17_code 32 = .ok (.iconst 0, 1) := sorry
theorem d_Expander_number_33 : decode prog_3_method_17_code 33 = .ok (.ireturn, 1) := sorry
theorem d_Expander_number_0 : decode prog_3_method_17_code 0 = .ok (.aload_n 0, 1) := sorry
theorem d_Expander_number_1 : decode prog_3_method_17_code 1 = .ok (.getfield 65, 3) := sorry
theorem d_Expander_number_4 : decode prog_3_method_17_code 4 = .ok (.ifCond .ne 21, 3) := sorry
theorem d_Expander_number_7 : decode prog_3_method_17_code 7 = .ok (.iload_n 1, 1) := sorry
theorem d_Expander_number_8 : decode prog_3_method_17_code 8 = .ok (.aload_n 0, 1) := sorry
theorem d_Expander_number_9 : decode prog_3_method_17_code 9 = .ok (.getfield 62, 3) := sorry
theorem k_259 : (Jvm.Cond.fieldLink "PackageBook$Expander" (62 : Nat) "PackageBook$Expander" "end" "I") ∈ uW := sorry
theorem d_Expander_number_12 : decode prog_3_method_17_code 12 = .ok (.aload_n 0, 1) := sorry
theorem d_Expander_number_13 : decode prog_3_method_17_code 13 = .ok (.getfield 58, 3) := sorry
theorem d_Expander_number_16 : decode prog_3_method_17_code 16 = .ok (.isub, 1) := sorry
theorem d_Expander_number_17 : decode prog_3_method_17_code 17 = .ok (.if_icmp .le 8, 3) := sorry
theorem d_Expander_number_20 : decode prog_3_method_17_code 20 = .ok (.aload_n 0, 1) := sorry
theorem d_Expander_number_21 : decode prog_3_method_17_code 21 = .ok (.iconst 1, 1) := sorry
theorem d_Expander_number_22 : decode prog_3_method_17_code 22 = .ok (.putfield 65, 3) := sorry
abbrev y_Expander_number : MethodName := ⟨"PackageBook$Expander", "number", "(I)I"⟩
abbrev i_Expander_number : pb_I := (y_Expander_number, prog_3_method_17_code, 4, (some Jvm.ClassFile.FieldType.int), [], { frames := 0, cells := 0, slots := 0, locals := 0 })
theorem g_Exp_number {l : Launch} (hl : l.stackTraces = false) (G : pb_G) (h : Nat) (ex : Nat) (et : Nat) (ea : Nat) (eb : Nat) (ec : Nat) (ed : Nat) (ef : Nat) (er : Nat) (at_ : Int32) (en : Int32) (fl : Int32) (N : Nat) (fr : Nat → Int32) (n : Int32) (A : Int → Int32) (a0 : 0 ≤ at_.toInt) (a1 : at_.toInt ≤ en.toInt) (a2 : en.toInt ≤ 8 * N) (a3 : N ≤ 100000) (a4 : 0 ≤ fl.toInt) (n0 : 0 ≤ n.toInt) (n1 : n.toInt ≤ 16) (hA : ∀ j : Int, 0 ≤ j → 8 * j < en.toInt → A j = gr fr j) (F_fr : sb_Fit fr) : Cn l G i_Expander_number [.ref h, .int n] [(h, .inr (5, [.ref ex, .ref et, .ref ea, .ref eb, .ref ec, .ref ed, .ref ef, .ref er, .int at_, .int en, .int fl])), (er, .inl (G.2.1, N, .inl fr))] (S := Int32 × Int32 × Int32) (fun rv_ u => rv_ = some (.int u.1) ∧ (0 ≤ u.1.toInt) ∧ (u.1.toInt < p2 n.toInt) ∧ (u.1.toInt ≤ 65535) ∧ (at_.toInt ≤ u.2.1.toInt) ∧ (u.2.1.toInt ≤ en.toInt) ∧ (0 ≤ u.2.2.toInt) ∧ (fl.toInt ≠ 0 → u.2.2.toInt ≠ 0) ∧ (nu_w A en.toInt fl.toInt at_.toInt n.toInt = oc_ u.2.2.toInt u.1.toInt u.2.1.toInt) ∧ (u.2.2.toInt = 0 → u.2.1.toInt = at_.toInt + n.toInt)) (fun u => [(h, .inr (5, [.ref ex, .ref et, .ref ea, .ref eb, .ref ec, .ref ed, .ref ef, .ref er, .int u.2.1, .int en, .int u.2.2])), (er, .inl (G.2.1, N, .inl fr))]) := sorry
theorem d_Expander_symbol_0 : decode prog_3_method_16_code 0 = .ok (.iconst 0, 1) := sorry
theorem d_Expander_symbol_1 : decode prog_3_method_16_code 1 = .ok (.istore_n 2, 1) := sorry
theorem d_Expander_symbol_2 : decode prog_3_method_16_code 2 = .ok (.iconst 0, 1) := sorry
theorem d_Expander_symbol_3 : decode prog_3_method_16_code 3 = .ok (.istore_n 3, 1) := sorry
theorem d_Expander_symbol_4 : decode prog_3_method_16_code 4 = .ok (.iconst 0, 1) := sorry
theorem d_Expander_symbol_5 : decode prog_3_method_16_code 5 = .ok (.istore 4, 2) := sorry
theorem d_Expander_symbol_7 : decode prog_3_method_16_code 7 = .ok (.iconst 1, 1) := sorry
theorem d_Expander_symbol_8 : decode prog_3_method_16_code 8 = .ok (.istore 5, 2) := sorry
theorem d_Expander_symbol_10 : decode prog_3_method_16_code 10 = .ok (.iload 5, 2) := sorry
theorem d_Expander_symbol_12 : decode prog_3_method_16_code 12 = .ok (.bipush 15, 2) := sorry
theorem d_Expander_symbol_14 : decode prog_3_method_16_code 14 = .ok (.if_icmp .gt 124, 3) := sorry
theorem d_Expander_symbol_138 : decode prog_3_method_16_code 138 = .ok (.aload_n 0, 1) := sorry
theorem d_Expander_symbol_139 : decode prog_3_method_16_code 139 = .ok (.aload_n 0, 1) := sorry
theorem d_Expander_symbol_140 : decode prog_3_method_16_code 140 = .ok (.getfield 65, 3) := sorry
theorem d_Expander_symbol_143 : decode prog_3_method_16_code 143 = .ok (.ifCond .ne 7, 3) := sorry
theorem d_Expander_symbol_150 : decode prog_3_method_16_code 150 = .ok (.aload_n 0, 1) := sorry
theorem d_Expander_symbol_151 : decode prog_3_method_16_code 151 = .ok (.getfield 65, 3) := sorry
theorem d_Expander_symbol_154 : decode prog_3_method_16_code 154 = .ok (.putfield 65, 3) := sorry
theorem d_Expander_symbol_157 : decode prog_3_method_16_code 157 = .ok (.iconst 0, 1) := sorry
theorem d_Expander_symbol_158 : decode prog_3_method_16_code 158 = .ok (.ireturn, 1) := sorry
theorem d_Expander_symbol_146 : decode prog_3_method_16_code 146 = .ok (.iconst 5, 1) := sorry
theorem d_Expander_symbol_147 : decode prog_3_method_16_code 147 = .ok (.goto 7, 3) := sorry
theorem d_Expander_symbol_17 : decode prog_3_method_16_code 17 = .ok (.iload 4, 2) := sorry
theorem d_Expander_symbol_19 : decode prog_3_method_16_code 19 = .ok (.aload_n 1, 1) := sorry
theorem d_Expander_symbol_20 : decode prog_3_method_16_code 20 = .ok (.getfield 105, 3) := sorry
theorem k_231 : (Jvm.Cond.fieldLinkNest "PackageBook$Expander" (105 : Nat) "PackageBook$Code" "size" "I" "PackageBook") ∈ uN := sorry
theorem d_Expander_symbol_23 : decode prog_3_method_16_code 23 = .ok (.if_icmp .ge 115, 3) := sorry
theorem d_Expander_symbol_26 : decode prog_3_method_16_code 26 = .ok (.aload_n 0, 1) := sorry
theorem d_Expander_symbol_27 : decode prog_3_method_16_code 27 = .ok (.getfield 65, 3) := sorry
theorem d_Expander_symbol_30 : decode prog_3_method_16_code 30 = .ok (.ifCond .ne 108, 3) := sorry
theorem d_Expander_symbol_33 : decode prog_3_method_16_code 33 = .ok (.aload_n 0, 1) := sorry
theorem d_Expander_symbol_34 : decode prog_3_method_16_code 34 = .ok (.getfield 58, 3) := sorry
theorem d_Expander_symbol_37 : decode prog_3_method_16_code 37 = .ok (.aload_n 0, 1) := sorry
theorem d_Expander_symbol_38 : decode prog_3_method_16_code 38 = .ok (.getfield 62, 3) := sorry
theorem d_Expander_symbol_41 : decode prog_3_method_16_code 41 = .ok (.if_icmp .lt 10, 3) := sorry
theorem d_Expander_symbol_51 : decode prog_3_method_16_code 51 = .ok (.iconst 2, 1) := sorry
theorem d_Expander_symbol_52 : decode prog_3_method_16_code 52 = .ok (.iload_n 2, 1) := sorry
theorem d_Expander_symbol_53 : decode prog_3_method_16_code 53 = .ok (.imul, 1) := sorry
theorem d_Expander_symbol_54 : decode prog_3_method_16_code 54 = .ok (.aload_n 0, 1) := sorry
theorem d_Expander_symbol_55 : decode prog_3_method_16_code 55 = .ok (.getfield 46, 3) := sorry
theorem d_Expander_symbol_58 : decode prog_3_method_16_code 58 = .ok (.aload_n 0, 1) := sorry
theorem d_Expander_symbol_59 : decode prog_3_method_16_code 59 = .ok (.getfield 58, 3) := sorry
theorem d_Expander_symbol_62 : decode prog_3_method_16_code 62 = .ok (.iconst 3, 1) := sorry
theorem d_Expander_symbol_63 : decode prog_3_method_16_code 63 = .ok (.ishr, 1) := sorry
theorem d_Expander_symbol_64 : decode prog_3_method_16_code 64 = .ok (.baload, 1) := sorry
theorem d_Expander_symbol_65 : decode prog_3_method_16_code 65 = .ok (.aload_n 0, 1) := sorry
theorem d_Expander_symbol_66 : decode prog_3_method_16_code 66 = .ok (.getfield 58, 3) := sorry
theorem d_Expander_symbol_69 : decode prog_3_method_16_code 69 = .ok (.bipush 7, 2) := sorry
theorem d_Expander_symbol_71 : decode prog_3_method_16_code 71 = .ok (.iand, 1) := sorry
theorem d_Expander_symbol_72 : decode prog_3_method_16_code 72 = .ok (.ishr, 1) := sorry
theorem d_Expander_symbol_73 : decode prog_3_method_16_code 73 = .ok (.iconst 1, 1) := sorry
theorem d_Expander_symbol_74 : decode prog_3_method_16_code 74 = .ok (.iand, 1) := sorry
theorem d_Expander_symbol_75 : decode prog_3_method_16_code 75 = .ok (.iadd, 1) := sorry
theorem d_Expander_symbol_76 : decode prog_3_method_16_code 76 = .ok (.istore_n 2, 1) := sorry
theorem d_Expander_symbol_77 : decode prog_3_method_16_code 77 = .ok (.aload_n 0, 1) := sorry
theorem d_Expander_symbol_78 : decode prog_3_method_16_code 78 = .ok (.dup, 1) := sorry
theorem d_Expander_symbol_79 : decode prog_3_method_16_code 79 = .ok (.getfield 58, 3) := sorry
theorem d_Expander_symbol_82 : decode prog_3_method_16_code 82 = .ok (.iconst 1, 1) := sorry
theorem d_Expander_symbol_83 : decode prog_3_method_16_code 83 = .ok (.iadd, 1) := sorry
theorem d_Expander_symbol_84 : decode prog_3_method_16_code 84 = .ok (.putfield 58, 3) := sorry
theorem d_Expander_symbol_87 : decode prog_3_method_16_code 87 = .ok (.iconst 2, 1) := sorry
theorem d_Expander_symbol_88 : decode prog_3_method_16_code 88 = .ok (.iload_n 3, 1) := sorry
theorem d_Expander_symbol_89 : decode prog_3_method_16_code 89 = .ok (.imul, 1) := sorry
theorem d_Expander_symbol_90 : decode prog_3_method_16_code 90 = .ok (.istore_n 3, 1) := sorry
theorem d_Expander_symbol_91 : decode prog_3_method_16_code 91 = .ok (.aload_n 1, 1) := sorry
theorem d_Expander_symbol_92 : decode prog_3_method_16_code 92 = .ok (.getfield 136, 3) := sorry
theorem k_227 : (Jvm.Cond.fieldLinkNest "PackageBook$Expander" (136 : Nat) "PackageBook$Code" "counts" "[I" "PackageBook") ∈ uN := sorry
theorem d_Expander_symbol_95 : decode prog_3_method_16_code 95 = .ok (.iload 5, 2) := sorry
theorem d_Expander_symbol_97 : decode prog_3_method_16_code 97 = .ok (.iaload, 1) := sorry
theorem d_Expander_symbol_98 : decode prog_3_method_16_code 98 = .ok (.istore 6, 2) := sorry
theorem d_Expander_symbol_100 : decode prog_3_method_16_code 100 = .ok (.iload_n 2, 1) := sorry
theorem d_Expander_symbol_101 : decode prog_3_method_16_code 101 = .ok (.iload_n 3, 1) := sorry
theorem d_Expander_symbol_102 : decode prog_3_method_16_code 102 = .ok (.isub, 1) := sorry
theorem d_Expander_symbol_103 : decode prog_3_method_16_code 103 = .ok (.iload 6, 2) := sorry
theorem d_Expander_symbol_105 : decode prog_3_method_16_code 105 = .ok (.if_icmp .ge 15, 3) := sorry
theorem d_Expander_symbol_120 : decode prog_3_method_16_code 120 = .ok (.iload_n 3, 1) := sorry
theorem d_Expander_symbol_121 : decode prog_3_method_16_code 121 = .ok (.iload 6, 2) := sorry
theorem d_Expander_symbol_123 : decode prog_3_method_16_code 123 = .ok (.iadd, 1) := sorry
theorem d_Expander_symbol_124 : decode prog_3_method_16_code 124 = .ok (.istore_n 3, 1) := sorry
theorem d_Expander_symbol_125 : decode prog_3_method_16_code 125 = .ok (.iload 4, 2) := sorry
theorem d_Expander_symbol_127 : decode prog_3_method_16_code 127 = .ok (.iload 6, 2) := sorry
theorem d_Expander_symbol_129 : decode prog_3_method_16_code 129 = .ok (.iadd, 1) := sorry
theorem d_Expander_symbol_130 : decode prog_3_method_16_code 130 = .ok (.istore 4, 2) := sorry
theorem d_Expander_symbol_132 : decode prog_3_method_16_code 132 = .ok (.iinc 5 1, 3) := sorry
theorem d_Expander_symbol_135 : decode prog_3_method_16_code 135 = .ok (.goto (-125), 3) := sorry
theorem d_Expander_symbol_108 : decode prog_3_method_16_code 108 = .ok (.aload_n 1, 1) := sorry
theorem d_Expander_symbol_109 : decode prog_3_method_16_code 109 = .ok (.getfield 139, 3) := sorry
theorem k_229 : (Jvm.Cond.fieldLinkNest "PackageBook$Expander" (139 : Nat) "PackageBook$Code" "symbols" "[I" "PackageBook") ∈ uN := sorry
theorem d_Expander_symbol_112 : decode prog_3_method_16_code 112 = .ok (.iload 4, 2) := sorry
theorem d_Expander_symbol_114 : decode prog_3_method_16_code 114 = .ok (.iload_n 2, 1) := sorry
theorem d_Expander_symbol_115 : decode prog_3_method_16_code 115 = .ok (.iadd, 1) := sorry
theorem d_Expander_symbol_116 : decode prog_3_method_16_code 116 = .ok (.iload_n 3, 1) := sorry
theorem d_Expander_symbol_117 : decode prog_3_method_16_code 117 = .ok (.isub, 1) := sorry
theorem d_Expander_symbol_118 : decode prog_3_method_16_code 118 = .ok (.iaload, 1) := sorry
theorem d_Expander_symbol_119 : decode prog_3_method_16_code 119 = .ok (.ireturn, 1) := sorry
theorem d_Expander_symbol_44 : decode prog_3_method_16_code 44 = .ok (.aload_n 0, 1) := sorry
theorem d_Expander_symbol_45 : decode prog_3_method_16_code 45 = .ok (.iconst 1, 1) := sorry
theorem d_Expander_symbol_46 : decode prog_3_method_16_code 46 = .ok (.putfield 65, 3) := sorry
theorem d_Expander_symbol_49 : decode prog_3_method_16_code 49 = .ok (.iconst 0, 1) := sorry
theorem d_Expander_symbol_50 : decode prog_3_method_16_code 50 = .ok (.ireturn, 1) := sorry
abbrev y_Expander_symbol : MethodName := ⟨"PackageBook$Expander", "symbol", "(LPackageBook$Code;)I"⟩
abbrev i_Expander_symbol : pb_I := (y_Expander_symbol, prog_3_method_16_code, 7, (some Jvm.ClassFile.FieldType.int), [], { frames := 0, cells := 0, slots := 0, locals := 0 })
theorem g_Exp_symbol {l : Launch} (hl : l.stackTraces = false) (G : pb_G) (h : Nat) (ex : Nat) (et : Nat) (ea : Nat) (eb : Nat) (ec : Nat) (ed : Nat) (ef : Nat) (er : Nat) (at_ : Int32) (en : Int32) (fl : Int32) (N : Nat) (fr : Nat → Int32) (kh : Nat) (kc : Nat) (ky : Nat) (Ny : Nat) (ks : Int32) (kfc : Nat → Int32) (kfy : Nat → Int32) (B : Int) (L : Int → Int) (nL : Int) (A : Int → Int32) (a0 : 0 ≤ at_.toInt) (a1 : at_.toInt ≤ en.toInt) (a2 : en.toInt ≤ 8 * N) (a3 : N ≤ 100000) (a4 : 0 ≤ fl.toInt) (hco : co_I ks.toInt kfc kfy B) (hB : 1 ≤ B) (hNy : ks.toInt ≤ Ny) (hNy2 : Ny ≤ 100000) (hcs : fl.toInt = 0 → cs_R ks.toInt kfc kfy L nL) (hnL : 0 ≤ nL) (hA : ∀ j : Int, 0 ≤ j → 8 * j < en.toInt → A j = gr fr j) (F_fr : sb_Fit fr) : Cn l G i_Expander_symbol [.ref h, .ref kh] [(h, .inr (5, [.ref ex, .ref et, .ref ea, .ref eb, .ref ec, .ref ed, .ref ef, .ref er, .int at_, .int en, .int fl])), (er, .inl (G.2.1, N, .inl fr)), (kh, .inr (1, [.ref kc, .ref ky, .int ks])), (kc, .inl (G.2.2.1, 16, .inl kfc)), (ky, .inl (G.2.2.1, Ny, .inl kfy))] (S := Int32 × Int32 × Int32) (fun rv_ u => rv_ = some (.int u.1) ∧ (0 ≤ u.1.toInt) ∧ (u.1.toInt < B) ∧ (at_.toInt ≤ u.2.1.toInt) ∧ (u.2.1.toInt ≤ en.toInt) ∧ (0 ≤ u.2.2.toInt) ∧ (fl.toInt ≠ 0 → u.2.2.toInt ≠ 0) ∧ (sy_w A en.toInt L nL fl.toInt at_.toInt = oc_ u.2.2.toInt u.1.toInt u.2.1.toInt) ∧ (u.2.2.toInt = 0 → at_.toInt < u.2.1.toInt)) (fun u => [(h, .inr (5, [.ref ex, .ref et, .ref ea, .ref eb, .ref ec, .ref ed, .ref ef, .ref er, .int u.2.1, .int en, .int u.2.2])), (er, .inl (G.2.1, N, .inl fr)), (kh, .inr (1, [.ref kc, .ref ky, .int ks])), (kc, .inl (G.2.2.1, 16, .inl kfc)), (ky, .inl (G.2.2.1, Ny, .inl kfy))]) := sorry
