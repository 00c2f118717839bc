theorem d_Presser_putLength_0 : decode prog_8_method_7_code 0 = .ok (.aload_n 0, 1) := sorry
theorem d_Presser_putLength_1 : decode prog_8_method_7_code 1 = .ok (.getfield 55, 3) := sorry
theorem k_190 : (Jvm.Cond.fieldLink "PackageBook$Presser" (55 : Nat) "PackageBook$Presser" "length" "I") ∈ uW := sorry
theorem d_Presser_putLength_4 : decode prog_8_method_7_code 4 = .ok (.sipush 258, 3) := sorry
theorem d_Presser_putLength_7 : decode prog_8_method_7_code 7 = .ok (.if_icmp .ne 11, 3) := sorry
theorem d_Presser_putLength_18 : decode prog_8_method_7_code 18 = .ok (.aload_n 0, 1) := sorry
theorem d_Presser_putLength_19 : decode prog_8_method_7_code 19 = .ok (.getfield 55, 3) := sorry
theorem d_Presser_putLength_22 : decode prog_8_method_7_code 22 = .ok (.iconst 3, 1) := sorry
theorem d_Presser_putLength_23 : decode prog_8_method_7_code 23 = .ok (.isub, 1) := sorry
theorem d_Presser_putLength_24 : decode prog_8_method_7_code 24 = .ok (.istore_n 1, 1) := sorry
theorem d_Presser_putLength_25 : decode prog_8_method_7_code 25 = .ok (.iconst 0, 1) := sorry
theorem d_Presser_putLength_26 : decode prog_8_method_7_code 26 = .ok (.istore_n 2, 1) := sorry
theorem d_Presser_putLength_27 : decode prog_8_method_7_code 27 = .ok (.iload_n 2, 1) := sorry
theorem d_Presser_putLength_28 : decode prog_8_method_7_code 28 = .ok (.iconst 5, 1) := sorry
theorem d_Presser_putLength_29 : decode prog_8_method_7_code 29 = .ok (.if_icmp .ge 17, 3) := sorry
theorem d_Presser_putLength_46 : decode prog_8_method_7_code 46 = .ok (.aload_n 0, 1) := sorry
theorem d_Presser_putLength_47 : decode prog_8_method_7_code 47 = .ok (.sipush 257, 3) := sorry
theorem d_Presser_putLength_50 : decode prog_8_method_7_code 50 = .ok (.iconst 4, 1) := sorry
theorem d_Presser_putLength_51 : decode prog_8_method_7_code 51 = .ok (.iload_n 2, 1) := sorry
theorem d_Presser_putLength_52 : decode prog_8_method_7_code 52 = .ok (.imul, 1) := sorry
theorem d_Presser_putLength_53 : decode prog_8_method_7_code 53 = .ok (.iadd, 1) := sorry
theorem d_Presser_putLength_54 : decode prog_8_method_7_code 54 = .ok (.iload_n 1, 1) := sorry
theorem d_Presser_putLength_55 : decode prog_8_method_7_code 55 = .ok (.iload_n 2, 1) := sorry
theorem d_Presser_putLength_56 : decode prog_8_method_7_code 56 = .ok (.ishr, 1) := sorry
theorem d_Presser_putLength_57 : decode prog_8_method_7_code 57 = .ok (.iadd, 1) := sorry
theorem d_Presser_putLength_58 : decode prog_8_method_7_code 58 = .ok (.invokevirtual 58, 3) := sorry
theorem k_524 : (Jvm.Cond.methodLink "PackageBook$Presser" (58 : Nat) ({ cls := "PackageBook$Presser", name := "putSymbol", desc := "(I)V" } : Jvm.MethodName)) ∈ uW := sorry
theorem k_527 : (Jvm.Cond.code ({ cls := "PackageBook$Presser", name := "putSymbol", desc := "(I)V" } : Jvm.MethodName) prog_8_method_9_code (2 : Nat) (Option.none : Option Jvm.ClassFile.FieldType)) ∈ uW := sorry
theorem k_526 : (Jvm.Cond.instanceMethod ({ cls := "PackageBook$Presser", name := "putSymbol", desc := "(I)V" } : Jvm.MethodName)) ∈ uW := sorry
theorem k_6 : Cond.selects "PackageBook$Presser" ⟨"PackageBook$Presser", "putSymbol", "(I)V"⟩ ⟨"PackageBook$Presser", "putSymbol", "(I)V"⟩ ∈ uW := sorry
theorem hy_Presser_putSymbol : (y_Presser_putSymbol).cls ≠ "java/lang/invoke/MethodHandle" ∧ (y_Presser_putSymbol).cls ≠ "java/lang/invoke/VarHandle" ∧ (parseMethodDescriptor (y_Presser_putSymbol).desc).map (fun d => d.parameters.length) = some 1 := sorry
theorem d_Presser_putLength_61 : decode prog_8_method_7_code 61 = .ok (.aload_n 0, 1) := sorry
theorem d_Presser_putLength_62 : decode prog_8_method_7_code 62 = .ok (.iload_n 1, 1) := sorry
theorem d_Presser_putLength_63 : decode prog_8_method_7_code 63 = .ok (.iload_n 2, 1) := sorry
theorem d_Presser_putLength_64 : decode prog_8_method_7_code 64 = .ok (.invokevirtual 48, 3) := sorry
theorem d_Presser_putLength_67 : decode prog_8_method_7_code 67 = .ok (.return_, 1) := sorry
theorem d_Presser_putLength_32 : decode prog_8_method_7_code 32 = .ok (.iload_n 1, 1) := sorry
theorem d_Presser_putLength_33 : decode prog_8_method_7_code 33 = .ok (.iload_n 2, 1) := sorry
theorem d_Presser_putLength_34 : decode prog_8_method_7_code 34 = .ok (.ishr, 1) := sorry
theorem d_Presser_putLength_35 : decode prog_8_method_7_code 35 = .ok (.bipush 8, 2) := sorry
theorem d_Presser_putLength_37 : decode prog_8_method_7_code 37 = .ok (.if_icmp .lt 9, 3) := sorry
theorem d_Presser_putLength_40 : decode prog_8_method_7_code 40 = .ok (.iinc 2 1, 3) := sorry
theorem d_Presser_putLength_43 : decode prog_8_method_7_code 43 = .ok (.goto (-16), 3) := sorry
theorem d_Presser_putLength_10 : decode prog_8_method_7_code 10 = .ok (.aload_n 0, 1) := sorry
theorem d_Presser_putLength_11 : decode prog_8_method_7_code 11 = .ok (.sipush 285, 3) := sorry
theorem d_Presser_putLength_14 : decode prog_8_method_7_code 14 = .ok (.invokevirtual 58, 3) := sorry
theorem d_Presser_putLength_17 : decode prog_8_method_7_code 17 = .ok (.return_, 1) := sorry
abbrev y_Presser_putLength : MethodName := ⟨"PackageBook$Presser", "putLength", "()V"⟩
abbrev i_Presser_putLength : pb_I := (y_Presser_putLength, prog_8_method_7_code, 3, (Option.none : Option Jvm.ClassFile.FieldType), [], { frames := 2, cells := 0, slots := 0, locals := 44 })
theorem g_Pr_putLength {l : Launch} (hl : l.stackTraces = false) (G : pb_G) (h : Nat) (pp : Nat) (pl : Nat) (pe : Nat) (pr : Nat) (pb : Nat) (bg : Int32) (sz : Int32) (bt : Int32) (ln : Int32) (ds : Int32) (f : Nat → Int32) (ps : Int32) (S : Int × (Int → Int)) (k0 : 0 ≤ bt.toInt) (k1 : bt.toInt + 14 ≤ 36016) (k5 : ps.toInt = (bt.toInt + 7) / 8) (l0 : 3 ≤ ln.toInt) (l1 : ln.toInt ≤ 258) (hS : pC_ f ps.toInt bt.toInt S) (F_f : sb_Fit f) : Cn l G i_Presser_putLength [.ref h] [(h, .inr (4, [.ref pp, .ref pl, .ref pe, .ref pr, .int bg, .int sz, .int bt, .int ln, .int ds])), (pp, .inr (0, [.ref pb, .int ps])), (pb, .inl (G.2.1, 4502, .inl f))] (S := Int32 × Int32 × (Nat → Int32)) (fun rv_ u => rv_ = none ∧ (u.1.toInt = bt.toInt + le_c ln.toInt) ∧ (u.2.1.toInt = (u.1.toInt + 7) / 8) ∧ (pC_ u.2.2 u.2.1.toInt u.1.toInt (lo_ S ln.toInt)) ∧ (sb_Fit u.2.2)) (fun u => [(h, .inr (4, [.ref pp, .ref pl, .ref pe, .ref pr, .int bg, .int sz, .int u.1, .int ln, .int ds])), (pp, .inr (0, [.ref pb, .int u.2.1])), (pb, .inl (G.2.1, 4502, .inl u.2.2))]) := sorry
theorem d_Presser_putDistance_0 : decode prog_8_method_8_code 0 = .ok (.aload_n 0, 1) := sorry
theorem d_Presser_putDistance_1 : decode prog_8_method_8_code 1 = .ok (.getfield 84, 3) := sorry
theorem k_191 : (Jvm.Cond.fieldLink "PackageBook$Presser" (84 : Nat) "PackageBook$Presser" "distance" "I") ∈ uW := sorry
theorem d_Presser_putDistance_4 : decode prog_8_method_8_code 4 = .ok (.iconst 1, 1) := sorry
theorem d_Presser_putDistance_5 : decode prog_8_method_8_code 5 = .ok (.isub, 1) := sorry
theorem d_Presser_putDistance_6 : decode prog_8_method_8_code 6 = .ok (.istore_n 1, 1) := sorry
theorem d_Presser_putDistance_7 : decode prog_8_method_8_code 7 = .ok (.iconst 0, 1) := sorry
theorem d_Presser_putDistance_8 : decode prog_8_method_8_code 8 = .ok (.istore_n 2, 1) := sorry
theorem d_Presser_putDistance_9 : decode prog_8_method_8_code 9 = .ok (.iload_n 2, 1) := sorry
theorem d_Presser_putDistance_10 : decode prog_8_method_8_code 10 = .ok (.bipush 13, 2) := sorry
theorem d_Presser_putDistance_12 : decode prog_8_method_8_code 12 = .ok (.if_icmp .ge 16, 3) := sorry
theorem d_Presser_putDistance_15 : decode prog_8_method_8_code 15 = .ok (.iload_n 1, 1) := sorry
theorem d_Presser_putDistance_16 : decode prog_8_method_8_code 16 = .ok (.iload_n 2, 1) := sorry
theorem d_Presser_putDistance_17 : decode prog_8_method_8_code 17 = .ok (.ishr, 1) := sorry
theorem d_Presser_putDistance_18 : decode prog_8_method_8_code 18 = .ok (.iconst 4, 1) := sorry
theorem d_Presser_putDistance_19 : decode prog_8_method_8_code 19 = .ok (.if_icmp .lt 9, 3) := sorry
theorem d_Presser_putDistance_28 : decode prog_8_method_8_code 28 = .ok (.aload_n 0, 1) := sorry
theorem d_Presser_putDistance_29 : decode prog_8_method_8_code 29 = .ok (.iconst 2, 1) := sorry
theorem d_Presser_putDistance_30 : decode prog_8_method_8_code 30 = .ok (.iload_n 2, 1) := sorry
theorem d_Presser_putDistance_31 : decode prog_8_method_8_code 31 = .ok (.imul, 1) := sorry
theorem d_Presser_putDistance_32 : decode prog_8_method_8_code 32 = .ok (.iload_n 1, 1) := sorry
theorem d_Presser_putDistance_33 : decode prog_8_method_8_code 33 = .ok (.iload_n 2, 1) := sorry
theorem d_Presser_putDistance_34 : decode prog_8_method_8_code 34 = .ok (.ishr, 1) := sorry
theorem d_Presser_putDistance_35 : decode prog_8_method_8_code 35 = .ok (.iadd, 1) := sorry
theorem d_Presser_putDistance_36 : decode prog_8_method_8_code 36 = .ok (.iconst 5, 1) := sorry
theorem d_Presser_putDistance_37 : decode prog_8_method_8_code 37 = .ok (.invokestatic 87, 3) := sorry
theorem d_Presser_putDistance_40 : decode prog_8_method_8_code 40 = .ok (.iconst 5, 1) := sorry
theorem d_Presser_putDistance_41 : decode prog_8_method_8_code 41 = .ok (.invokevirtual 48, 3) := sorry
theorem d_Presser_putDistance_44 : decode prog_8_method_8_code 44 = .ok (.aload_n 0, 1) := sorry
theorem d_Presser_putDistance_45 : decode prog_8_method_8_code 45 = .ok (.iload_n 1, 1) := sorry
theorem d_Presser_putDistance_46 : decode prog_8_method_8_code 46 = .ok (.iload_n 2, 1) := sorry
theorem d_Presser_putDistance_47 : decode prog_8_method_8_code 47 = .ok (.invokevirtual 48, 3) := sorry
theorem d_Presser_putDistance_50 : decode prog_8_method_8_code 50 = .ok (.return_, 1) := sorry
theorem d_Presser_putDistance_22 : decode prog_8_method_8_code 22 = .ok (.iinc 2 1, 3) := sorry
theorem d_Presser_putDistance_25 : decode prog_8_method_8_code 25 = .ok (.goto (-16), 3) := sorry
abbrev y_Presser_putDistance : MethodName := ⟨"PackageBook$Presser", "putDistance", "()V"⟩
abbrev i_Presser_putDistance : pb_I := (y_Presser_putDistance, prog_8_method_8_code, 3, (Option.none : Option Jvm.ClassFile.FieldType), [], { frames := 1, cells := 0, slots := 0, locals := 23 })
theorem g_Pr_putDistance {l : Launch} (hl : l.stackTraces = false) (G : pb_G) (h : Nat) (pp : Nat) (pl : Nat) (pe : Nat) (pr : Nat) (pb : Nat) (bg : Int32) (sz : Int32) (bt : Int32) (ln : Int32) (ds : Int32) (f : Nat → Int32) (ps : Int32) (S : Int × (Int → Int)) (k0 : 0 ≤ bt.toInt) (k1 : bt.toInt + 15 ≤ 36016) (k5 : ps.toInt = (bt.toInt + 7) / 8) (l0 : 1 ≤ ds.toInt) (l1 : ds.toInt ≤ 4000) (hS : pC_ f ps.toInt bt.toInt S) (F_f : sb_Fit f) : Cn l G i_Presser_putDistance [.ref h] [(h, .inr (4, [.ref pp, .ref pl, .ref pe, .ref pr, .int bg, .int sz, .int bt, .int ln, .int ds])), (pp, .inr (0, [.ref pb, .int ps])), (pb, .inl (G.2.1, 4502, .inl f))] (S := Int32 × Int32 × (Nat → Int32)) (fun rv_ u => rv_ = none ∧ (u.1.toInt = bt.toInt + di_c ds.toInt) ∧ (u.2.1.toInt = (u.1.toInt + 7) / 8) ∧ (pC_ u.2.2 u.2.1.toInt u.1.toInt (do_ S ds.toInt)) ∧ (sb_Fit u.2.2)) (fun u => [(h, .inr (4, [.ref pp, .ref pl, .ref pe, .ref pr, .int bg, .int sz, .int u.1, .int ln, .int ds])), (pp, .inr (0, [.ref pb, .int u.2.1])), (pb, .inl (G.2.1, 4502, .inl u.2.2))]) := sorry
