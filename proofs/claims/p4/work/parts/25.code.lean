theorem d_Code_tell_0 : decode prog_2_method_2_code 0 = .ok (.aload_n 0, 1) := sorry
theorem d_Code_tell_1 : decode prog_2_method_2_code 1 = .ok (.iconst 0, 1) := sorry
theorem d_Code_tell_2 : decode prog_2_method_2_code 2 = .ok (.putfield 16, 3) := sorry
theorem k_230 : (Jvm.Cond.fieldLink "PackageBook$Code" (16 : Nat) "PackageBook$Code" "size" "I") ∈ uW := sorry
theorem d_Code_tell_5 : decode prog_2_method_2_code 5 = .ok (.aload_n 0, 1) := sorry
theorem d_Code_tell_6 : decode prog_2_method_2_code 6 = .ok (.getfield 9, 3) := sorry
theorem d_Code_tell_9 : decode prog_2_method_2_code 9 = .ok (.iconst 0, 1) := sorry
theorem d_Code_tell_10 : decode prog_2_method_2_code 10 = .ok (.iconst 0, 1) := sorry
theorem d_Code_tell_11 : decode prog_2_method_2_code 11 = .ok (.iastore, 1) := sorry
theorem d_Code_tell_12 : decode prog_2_method_2_code 12 = .ok (.iconst 1, 1) := sorry
theorem d_Code_tell_13 : decode prog_2_method_2_code 13 = .ok (.istore 4, 2) := sorry
theorem d_Code_tell_15 : decode prog_2_method_2_code 15 = .ok (.iload 4, 2) := sorry
theorem d_Code_tell_17 : decode prog_2_method_2_code 17 = .ok (.bipush 15, 2) := sorry
theorem d_Code_tell_19 : decode prog_2_method_2_code 19 = .ok (.if_icmp .gt 76, 3) := sorry
theorem d_Code_tell_95 : decode prog_2_method_2_code 95 = .ok (.return_, 1) := sorry
theorem d_Code_tell_22 : decode prog_2_method_2_code 22 = .ok (.aload_n 0, 1) := sorry
theorem d_Code_tell_23 : decode prog_2_method_2_code 23 = .ok (.getfield 16, 3) := sorry
theorem d_Code_tell_26 : decode prog_2_method_2_code 26 = .ok (.istore 5, 2) := sorry
theorem d_Code_tell_28 : decode prog_2_method_2_code 28 = .ok (.iconst 0, 1) := sorry
theorem d_Code_tell_29 : decode prog_2_method_2_code 29 = .ok (.istore 6, 2) := sorry
theorem d_Code_tell_31 : decode prog_2_method_2_code 31 = .ok (.iload 6, 2) := sorry
theorem d_Code_tell_33 : decode prog_2_method_2_code 33 = .ok (.iload_n 3, 1) := sorry
theorem d_Code_tell_34 : decode prog_2_method_2_code 34 = .ok (.if_icmp .ge 41, 3) := sorry
theorem d_Code_tell_75 : decode prog_2_method_2_code 75 = .ok (.aload_n 0, 1) := sorry
theorem d_Code_tell_76 : decode prog_2_method_2_code 76 = .ok (.getfield 9, 3) := sorry
theorem d_Code_tell_79 : decode prog_2_method_2_code 79 = .ok (.iload 4, 2) := sorry
theorem d_Code_tell_81 : decode prog_2_method_2_code 81 = .ok (.aload_n 0, 1) := sorry
theorem d_Code_tell_82 : decode prog_2_method_2_code 82 = .ok (.getfield 16, 3) := sorry
theorem d_Code_tell_85 : decode prog_2_method_2_code 85 = .ok (.iload 5, 2) := sorry
theorem d_Code_tell_87 : decode prog_2_method_2_code 87 = .ok (.isub, 1) := sorry
theorem d_Code_tell_88 : decode prog_2_method_2_code 88 = .ok (.iastore, 1) := sorry
theorem d_Code_tell_89 : decode prog_2_method_2_code 89 = .ok (.iinc 4 1, 3) := sorry
theorem d_Code_tell_92 : decode prog_2_method_2_code 92 = .ok (.goto (-77), 3) := sorry
theorem d_Code_tell_37 : decode prog_2_method_2_code 37 = .ok (.aload_n 1, 1) := sorry
theorem d_Code_tell_38 : decode prog_2_method_2_code 38 = .ok (.iload_n 2, 1) := sorry
theorem d_Code_tell_39 : decode prog_2_method_2_code 39 = .ok (.iload 6, 2) := sorry
theorem d_Code_tell_41 : decode prog_2_method_2_code 41 = .ok (.iadd, 1) := sorry
theorem d_Code_tell_42 : decode prog_2_method_2_code 42 = .ok (.iaload, 1) := sorry
theorem d_Code_tell_43 : decode prog_2_method_2_code 43 = .ok (.iload 4, 2) := sorry
theorem d_Code_tell_45 : decode prog_2_method_2_code 45 = .ok (.if_icmp .ne 24, 3) := sorry
theorem d_Code_tell_69 : decode prog_2_method_2_code 69 = .ok (.iinc 6 1, 3) := sorry
theorem d_Code_tell_72 : decode prog_2_method_2_code 72 = .ok (.goto (-41), 3) := sorry
theorem d_Code_tell_48 : decode prog_2_method_2_code 48 = .ok (.aload_n 0, 1) := sorry
theorem d_Code_tell_49 : decode prog_2_method_2_code 49 = .ok (.getfield 13, 3) := sorry
theorem d_Code_tell_52 : decode prog_2_method_2_code 52 = .ok (.aload_n 0, 1) := sorry
theorem d_Code_tell_53 : decode prog_2_method_2_code 53 = .ok (.getfield 16, 3) := sorry
theorem d_Code_tell_56 : decode prog_2_method_2_code 56 = .ok (.iload 6, 2) := sorry
theorem d_Code_tell_58 : decode prog_2_method_2_code 58 = .ok (.iastore, 1) := sorry
theorem d_Code_tell_59 : decode prog_2_method_2_code 59 = .ok (.aload_n 0, 1) := sorry
theorem d_Code_tell_60 : decode prog_2_method_2_code 60 = .ok (.dup, 1) := sorry
theorem d_Code_tell_61 : decode prog_2_method_2_code 61 = .ok (.getfield 16, 3) := sorry
theorem d_Code_tell_64 : decode prog_2_method_2_code 64 = .ok (.iconst 1, 1) := sorry
theorem d_Code_tell_65 : decode prog_2_method_2_code 65 = .ok (.iadd, 1) := sorry
theorem d_Code_tell_66 : decode prog_2_method_2_code 66 = .ok (.putfield 16, 3) := sorry
abbrev y_Code_tell : MethodName := ⟨"PackageBook$Code", "tell", "([III)V"⟩
abbrev i_Code_tell : pb_I := (y_Code_tell, prog_2_method_2_code, 7, (Option.none : Option Jvm.ClassFile.FieldType), [], { frames := 0, cells := 0, slots := 0, locals := 0 })
theorem g_Code_tell {l : Launch} (hl : l.stackTraces = false) (G : pb_G) (h : Nat) (c : Nat) (y : Nat) (b : Nat) (Ny : Nat) (Nb : Nat) (sz : Int32) (fc : Nat → Int32) (fy : Nat → Int32) (fb : Nat → Int32) (from_ : Int32) (n : Int32) (L : Int → Int) (h0 : 0 ≤ from_.toInt) (h1 : 0 ≤ n.toInt) (h2 : from_.toInt + n.toInt ≤ Nb) (h3 : n.toInt ≤ Ny) (h4 : Nb ≤ 100000) (h5 : Ny ≤ 100000) (hL : ∀ k : Int, 0 ≤ k → k < n.toInt → L k = gx fb (from_.toInt + k)) : Cn l G i_Code_tell [.ref h, .ref b, .int from_, .int n] [(h, .inr (1, [.ref c, .ref y, .int sz])), (c, .inl (G.2.2.1, 16, .inl fc)), (y, .inl (G.2.2.1, Ny, .inl fy)), (b, .inl (G.2.2.1, Nb, .inl fb))] (S := Int32 × (Nat → Int32) × (Nat → Int32)) (fun rv_ u => rv_ = none ∧ (co_I u.1.toInt u.2.1 u.2.2 n.toInt) ∧ (u.1.toInt ≤ n.toInt) ∧ ((∀ k : Int, 0 ≤ k → k < n.toInt → 0 ≤ L k ∧ L k ≤ 15) → cs_R u.1.toInt u.2.1 u.2.2 L n.toInt)) (fun u => [(h, .inr (1, [.ref c, .ref y, .int u.1])), (c, .inl (G.2.2.1, 16, .inl u.2.1)), (y, .inl (G.2.2.1, Ny, .inl u.2.2)), (b, .inl (G.2.2.1, Nb, .inl fb))]) := sorry
theorem d_Code_isRight_0 : decode prog_2_method_3_code 0 = .ok (.iconst 1, 1) := sorry
theorem d_Code_isRight_1 : decode prog_2_method_3_code 1 = .ok (.istore_n 1, 1) := sorry
theorem d_Code_isRight_2 : decode prog_2_method_3_code 2 = .ok (.iconst 1, 1) := sorry
theorem d_Code_isRight_3 : decode prog_2_method_3_code 3 = .ok (.istore_n 2, 1) := sorry
theorem d_Code_isRight_4 : decode prog_2_method_3_code 4 = .ok (.iload_n 2, 1) := sorry
theorem d_Code_isRight_5 : decode prog_2_method_3_code 5 = .ok (.bipush 15, 2) := sorry
theorem d_Code_isRight_7 : decode prog_2_method_3_code 7 = .ok (.if_icmp .gt 26, 3) := sorry
theorem d_Code_isRight_33 : decode prog_2_method_3_code 33 = .ok (.iload_n 1, 1) := sorry
theorem d_Code_isRight_34 : decode prog_2_method_3_code 34 = .ok (.ifCond .eq 21, 3) := sorry
theorem d_Code_isRight_55 : decode prog_2_method_3_code 55 = .ok (.iconst 1, 1) := sorry
theorem d_Code_isRight_56 : decode prog_2_method_3_code 56 = .ok (.goto 4, 3) := sorry
theorem d_Code_isRight_60 : decode prog_2_method_3_code 60 = .ok (.ireturn, 1) := sorry
theorem d_Code_isRight_37 : decode prog_2_method_3_code 37 = .ok (.aload_n 0, 1) := sorry
theorem d_Code_isRight_38 : decode prog_2_method_3_code 38 = .ok (.getfield 16, 3) := sorry
theorem d_Code_isRight_41 : decode prog_2_method_3_code 41 = .ok (.iconst 1, 1) := sorry
theorem d_Code_isRight_42 : decode prog_2_method_3_code 42 = .ok (.if_icmp .ne 17, 3) := sorry
theorem d_Code_isRight_59 : decode prog_2_method_3_code 59 = .ok (.iconst 0, 1) := sorry
theorem d_Code_isRight_45 : decode prog_2_method_3_code 45 = .ok (.aload_n 0, 1) := sorry
theorem d_Code_isRight_46 : decode prog_2_method_3_code 46 = .ok (.getfield 9, 3) := sorry
theorem d_Code_isRight_49 : decode prog_2_method_3_code 49 = .ok (.iconst 1, 1) := sorry
theorem d_Code_isRight_50 : decode prog_2_method_3_code 50 = .ok (.iaload, 1) := sorry
theorem d_Code_isRight_51 : decode prog_2_method_3_code 51 = .ok (.iconst 1, 1) := sorry
theorem d_Code_isRight_52 : decode prog_2_method_3_code 52 = .ok (.if_icmp .ne 7, 3) := sorry
theorem d_Code_isRight_10 : decode prog_2_method_3_code 10 = .ok (.iconst 2, 1) := sorry
theorem d_Code_isRight_11 : decode prog_2_method_3_code 11 = .ok (.iload_n 1, 1) := sorry
theorem d_Code_isRight_12 : decode prog_2_method_3_code 12 = .ok (.imul, 1) := sorry
theorem d_Code_isRight_13 : decode prog_2_method_3_code 13 = .ok (.aload_n 0, 1) := sorry
theorem d_Code_isRight_14 : decode prog_2_method_3_code 14 = .ok (.getfield 9, 3) := sorry
theorem d_Code_isRight_17 : decode prog_2_method_3_code 17 = .ok (.iload_n 2, 1) := sorry
theorem d_Code_isRight_18 : decode prog_2_method_3_code 18 = .ok (.iaload, 1) := sorry
theorem d_Code_isRight_19 : decode prog_2_method_3_code 19 = .ok (.isub, 1) := sorry
theorem d_Code_isRight_20 : decode prog_2_method_3_code 20 = .ok (.istore_n 1, 1) := sorry
theorem d_Code_isRight_21 : decode prog_2_method_3_code 21 = .ok (.iload_n 1, 1) := sorry
theorem d_Code_isRight_22 : decode prog_2_method_3_code 22 = .ok (.ifCond .ge 5, 3) := sorry
theorem d_Code_isRight_27 : decode prog_2_method_3_code 27 = .ok (.iinc 2 1, 3) := sorry
theorem d_Code_isRight_30 : decode prog_2_method_3_code 30 = .ok (.goto (-26), 3) := sorry
theorem d_Code_isRight_25 : decode prog_2_method_3_code 25 = .ok (.iconst 0, 1) := sorry
theorem d_Code_isRight_26 : decode prog_2_method_3_code 26 = .ok (.ireturn, 1) := sorry
abbrev y_Code_isRight : MethodName := ⟨"PackageBook$Code", "isRight", "()Z"⟩
abbrev i_Code_isRight : pb_I := (y_Code_isRight, prog_2_method_3_code, 3, (some Jvm.ClassFile.FieldType.boolean), [], { frames := 0, cells := 0, slots := 0, locals := 0 })
theorem g_Code_isRight {l : Launch} (hl : l.stackTraces = false) (G : pb_G) (h : Nat) (c : Nat) (y : Nat) (Ny : Nat) (sz : Int32) (fc : Nat → Int32) (fy : Nat → Int32) (B : Int) (L : Int → Int) (nL : Int) (hco : co_I sz.toInt fc fy B) : Cn l G i_Code_isRight [.ref h] [(h, .inr (1, [.ref c, .ref y, .int sz])), (c, .inl (G.2.2.1, 16, .inl fc)), (y, .inl (G.2.2.1, Ny, .inl fy))] (S := Int32) (fun rv_ u => rv_ = some (.int u) ∧ (u.toInt = 0 ∨ u.toInt = 1) ∧ (cs_R sz.toInt fc fy L nL → u.toInt = rt_f L nL)) (fun u => [(h, .inr (1, [.ref c, .ref y, .int sz])), (c, .inl (G.2.2.1, 16, .inl fc)), (y, .inl (G.2.2.1, Ny, .inl fy))]) := sorry
theorem d_Expander_setAll_0 : decode prog_3_method_2_code 0 = .ok (.iload_n 1, 1) := sorry
theorem d_Expander_setAll_1 : decode prog_3_method_2_code 1 = .ok (.istore 4, 2) := sorry
theorem d_Expander_setAll_3 : decode prog_3_method_2_code 3 = .ok (.iload 4, 2) := sorry
theorem d_Expander_setAll_5 : decode prog_3_method_2_code 5 = .ok (.iload_n 2, 1) := sorry
theorem d_Expander_setAll_6 : decode prog_3_method_2_code 6 = .ok (.if_icmp .ge 14, 3) := sorry
theorem d_Expander_setAll_20 : decode prog_3_method_2_code 20 = .ok (.return_, 1) := sorry
theorem d_Expander_setAll_9 : decode prog_3_method_2_code 9 = .ok (.aload_n 0, 1) := sorry
theorem d_Expander_setAll_10 : decode prog_3_method_2_code 10 = .ok (.iload 4, 2) := sorry
theorem d_Expander_setAll_12 : decode prog_3_method_2_code 12 = .ok (.iload_n 3, 1) := sorry
theorem d_Expander_setAll_13 : decode prog_3_method_2_code 13 = .ok (.iastore, 1) := sorry
theorem d_Expander_setAll_14 : decode prog_3_method_2_code 14 = .ok (.iinc 4 1, 3) := sorry
theorem d_Expander_setAll_17 : decode prog_3_method_2_code 17 = .ok (.goto (-14), 3) := sorry
abbrev y_Expander_setAll : MethodName := ⟨"PackageBook$Expander", "setAll", "([IIII)V"⟩
abbrev i_Expander_setAll : pb_I := (y_Expander_setAll, prog_3_method_2_code, 5, (Option.none : Option Jvm.ClassFile.FieldType), [], { frames := 0, cells := 0, slots := 0, locals := 0 })
theorem g_Exp_setAll {l : Launch} (hl : l.stackTraces = false) (G : pb_G) (b : Nat) (N : Nat) (f : Nat → Int32) (from_ : Int32) (end_ : Int32) (v : Int32) (h0 : 0 ≤ from_.toInt) (h1 : end_.toInt ≤ N) (h2 : N ≤ 100000) : Cn l G i_Expander_setAll [.ref b, .int from_, .int end_, .int v] [(b, .inl (G.2.2.1, N, .inl f))] (S := (Nat → Int32)) (fun rv_ u => rv_ = none ∧ (∀ j : Int, 0 ≤ j → gx u j = if from_.toInt ≤ j ∧ j < end_.toInt then v.toInt else gx f j)) (fun u => [(b, .inl (G.2.2.1, N, .inl u))]) := sorry
