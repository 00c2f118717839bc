theorem d_Row_putByte_0 : decode prog_9_method_2_code 0 = .ok (.aload_n 0, 1) := sorry
theorem d_Row_putByte_1 : decode prog_9_method_2_code 1 = .ok (.getfield 13, 3) := sorry
theorem k_162 : (Jvm.Cond.fieldLink "PackageBook$Row" (13 : Nat) "PackageBook$Row" "size" "I") ∈ uW := sorry
theorem d_Row_putByte_4 : decode prog_9_method_2_code 4 = .ok (.aload_n 0, 1) := sorry
theorem d_Row_putByte_5 : decode prog_9_method_2_code 5 = .ok (.getfield 7, 3) := sorry
theorem d_Row_putByte_8 : decode prog_9_method_2_code 8 = .ok (.arraylength, 1) := sorry
theorem d_Row_putByte_9 : decode prog_9_method_2_code 9 = .ok (.if_icmp .ge 24, 3) := sorry
theorem d_Row_putByte_12 : decode prog_9_method_2_code 12 = .ok (.aload_n 0, 1) := sorry
theorem d_Row_putByte_13 : decode prog_9_method_2_code 13 = .ok (.getfield 7, 3) := sorry
theorem d_Row_putByte_16 : decode prog_9_method_2_code 16 = .ok (.aload_n 0, 1) := sorry
theorem d_Row_putByte_17 : decode prog_9_method_2_code 17 = .ok (.getfield 13, 3) := sorry
theorem d_Row_putByte_20 : decode prog_9_method_2_code 20 = .ok (.iload_n 1, 1) := sorry
theorem d_Row_putByte_21 : decode prog_9_method_2_code 21 = .ok (.i2b, 1) := sorry
theorem d_Row_putByte_22 : decode prog_9_method_2_code 22 = .ok (.bastore, 1) := sorry
theorem d_Row_putByte_23 : decode prog_9_method_2_code 23 = .ok (.aload_n 0, 1) := sorry
theorem d_Row_putByte_24 : decode prog_9_method_2_code 24 = .ok (.dup, 1) := sorry
theorem d_Row_putByte_25 : decode prog_9_method_2_code 25 = .ok (.getfield 13, 3) := sorry
theorem d_Row_putByte_28 : decode prog_9_method_2_code 28 = .ok (.iconst 1, 1) := sorry
theorem d_Row_putByte_29 : decode prog_9_method_2_code 29 = .ok (.iadd, 1) := sorry
theorem d_Row_putByte_30 : decode prog_9_method_2_code 30 = .ok (.putfield 13, 3) := sorry
theorem d_Row_putByte_33 : decode prog_9_method_2_code 33 = .ok (.return_, 1) := sorry
abbrev y_Row_putByte : MethodName := ⟨"PackageBook$Row", "putByte", "(I)V"⟩
abbrev i_Row_putByte : pb_I := (y_Row_putByte, prog_9_method_2_code, 2, (Option.none : Option Jvm.ClassFile.FieldType), [], { frames := 0, cells := 0, slots := 0, locals := 0 })
theorem g_Row_putByte {l : Launch} (hl : l.stackTraces = false) (G : pb_G) (h : Nat) (b : Nat) (N : Nat) (f : Nat → Int32) (sz : Int32) (v : Int32) (h0 : 0 ≤ sz.toInt) (h1 : sz.toInt + 1 ≤ N) (hN : N ≤ 100000) (F_f : sb_Fit f) : Cn l G i_Row_putByte [.ref h, .int v] [(h, .inr (0, [.ref b, .int sz])), (b, .inl (G.2.1, N, .inl f))] (S := Int32 × (Nat → Int32)) (fun rv_ u => rv_ = none ∧ (u.1.toInt = sz.toInt + 1) ∧ (∀ j : Int, 0 ≤ j → gr u.2 j = if j = sz.toInt then v.toInt8.toInt32 else gr f j) ∧ (sb_Fit u.2)) (fun u => [(h, .inr (0, [.ref b, .int u.1])), (b, .inl (G.2.1, N, .inl u.2))]) := sorry
theorem d_Row_putTwo_0 : decode prog_9_method_3_code 0 = .ok (.aload_n 0, 1) := sorry
theorem d_Row_putTwo_1 : decode prog_9_method_3_code 1 = .ok (.iload_n 1, 1) := sorry
theorem d_Row_putTwo_2 : decode prog_9_method_3_code 2 = .ok (.invokevirtual 17, 3) := sorry
theorem k_552 : (Jvm.Cond.methodLink "PackageBook$Row" (17 : Nat) ({ cls := "PackageBook$Row", name := "putByte", desc := "(I)V" } : Jvm.MethodName)) ∈ uW := sorry
theorem k_555 : (Jvm.Cond.code ({ cls := "PackageBook$Row", name := "putByte", desc := "(I)V" } : Jvm.MethodName) prog_9_method_2_code (2 : Nat) (Option.none : Option Jvm.ClassFile.FieldType)) ∈ uW := sorry
theorem k_553 : (Jvm.Cond.instanceMethod ({ cls := "PackageBook$Row", name := "putByte", desc := "(I)V" } : Jvm.MethodName)) ∈ uW := sorry
theorem k_554 : (Jvm.Cond.selects "PackageBook$Row" ({ cls := "PackageBook$Row", name := "putByte", desc := "(I)V" } : Jvm.MethodName) ({ cls := "PackageBook$Row", name := "putByte", desc := "(I)V" } : Jvm.MethodName)) ∈ uW := sorry
theorem hy_Row_putByte : (y_Row_putByte).cls ≠ "java/lang/invoke/MethodHandle" ∧ (y_Row_putByte).cls ≠ "java/lang/invoke/VarHandle" ∧ (parseMethodDescriptor (y_Row_putByte).desc).map (fun d => d.parameters.length) = some 1 := sorry
theorem d_Row_putTwo_5 : decode prog_9_method_3_code 5 = .ok (.aload_n 0, 1) := sorry
theorem d_Row_putTwo_6 : decode prog_9_method_3_code 6 = .ok (.iload_n 1, 1) := sorry
theorem d_Row_putTwo_7 : decode prog_9_method_3_code 7 = .ok (.bipush 8, 2) := sorry
theorem d_Row_putTwo_9 : decode prog_9_method_3_code 9 = .ok (.ishr, 1) := sorry
theorem d_Row_putTwo_10 : decode prog_9_method_3_code 10 = .ok (.invokevirtual 17, 3) := sorry
theorem d_Row_putTwo_13 : decode prog_9_method_3_code 13 = .ok (.return_, 1) := sorry
abbrev y_Row_putTwo : MethodName := ⟨"PackageBook$Row", "putTwo", "(I)V"⟩
abbrev i_Row_putTwo : pb_I := (y_Row_putTwo, prog_9_method_3_code, 2, (Option.none : Option Jvm.ClassFile.FieldType), [], { frames := 1, cells := 0, slots := 0, locals := 21 })
theorem g_Row_putTwo {l : Launch} (hl : l.stackTraces = false) (G : pb_G) (h : Nat) (b : Nat) (N : Nat) (f : Nat → Int32) (sz : Int32) (v : Int32) (h0 : 0 ≤ sz.toInt) (h1 : sz.toInt + 2 ≤ N) (hN : N ≤ 100000) (F_f : sb_Fit f) : Cn l G i_Row_putTwo [.ref h, .int v] [(h, .inr (0, [.ref b, .int sz])), (b, .inl (G.2.1, N, .inl f))] (S := Int32 × (Nat → Int32)) (fun rv_ u => rv_ = none ∧ (u.1.toInt = sz.toInt + 2) ∧ (ap_ f sz.toInt u.2 u.1.toInt (nk_ v.toInt 2)) ∧ (sb_Fit u.2)) (fun u => [(h, .inr (0, [.ref b, .int u.1])), (b, .inl (G.2.1, N, .inl u.2))]) := sorry
theorem d_Row_putFour_0 : decode prog_9_method_4_code 0 = .ok (.aload_n 0, 1) := sorry
theorem d_Row_putFour_1 : decode prog_9_method_4_code 1 = .ok (.iload_n 1, 1) := sorry
theorem d_Row_putFour_2 : decode prog_9_method_4_code 2 = .ok (.invokevirtual 21, 3) := sorry
theorem k_548 : (Jvm.Cond.methodLink "PackageBook$Row" (21 : Nat) ({ cls := "PackageBook$Row", name := "putTwo", desc := "(I)V" } : Jvm.MethodName)) ∈ uW := sorry
theorem k_551 : (Jvm.Cond.code ({ cls := "PackageBook$Row", name := "putTwo", desc := "(I)V" } : Jvm.MethodName) prog_9_method_3_code (2 : Nat) (Option.none : Option Jvm.ClassFile.FieldType)) ∈ uW := sorry
theorem k_549 : (Jvm.Cond.instanceMethod ({ cls := "PackageBook$Row", name := "putTwo", desc := "(I)V" } : Jvm.MethodName)) ∈ uW := sorry
theorem k_550 : (Jvm.Cond.selects "PackageBook$Row" ({ cls := "PackageBook$Row", name := "putTwo", desc := "(I)V" } : Jvm.MethodName) ({ cls := "PackageBook$Row", name := "putTwo", desc := "(I)V" } : Jvm.MethodName)) ∈ uW := sorry
theorem hy_Row_putTwo : (y_Row_putTwo).cls ≠ "java/lang/invoke/MethodHandle" ∧ (y_Row_putTwo).cls ≠ "java/lang/invoke/VarHandle" ∧ (parseMethodDescriptor (y_Row_putTwo).desc).map (fun d => d.parameters.length) = some 1 := sorry
theorem d_Row_putFour_5 : decode prog_9_method_4_code 5 = .ok (.aload_n 0, 1) := sorry
theorem d_Row_putFour_6 : decode prog_9_method_4_code 6 = .ok (.iload_n 1, 1) := sorry
theorem d_Row_putFour_7 : decode prog_9_method_4_code 7 = .ok (.bipush 16, 2) := sorry
theorem d_Row_putFour_9 : decode prog_9_method_4_code 9 = .ok (.ishr, 1) := sorry
theorem d_Row_putFour_10 : decode prog_9_method_4_code 10 = .ok (.invokevirtual 21, 3) := sorry
theorem d_Row_putFour_13 : decode prog_9_method_4_code 13 = .ok (.return_, 1) := sorry
abbrev y_Row_putFour : MethodName := ⟨"PackageBook$Row", "putFour", "(I)V"⟩
abbrev i_Row_putFour : pb_I := (y_Row_putFour, prog_9_method_4_code, 2, (Option.none : Option Jvm.ClassFile.FieldType), [], { frames := 2, cells := 0, slots := 0, locals := 42 })
theorem g_Row_putFour {l : Launch} (hl : l.stackTraces = false) (G : pb_G) (h : Nat) (b : Nat) (N : Nat) (f : Nat → Int32) (sz : Int32) (v : Int32) (h0 : 0 ≤ sz.toInt) (h1 : sz.toInt + 4 ≤ N) (hN : N ≤ 100000) (F_f : sb_Fit f) : Cn l G i_Row_putFour [.ref h, .int v] [(h, .inr (0, [.ref b, .int sz])), (b, .inl (G.2.1, N, .inl f))] (S := Int32 × (Nat → Int32)) (fun rv_ u => rv_ = none ∧ (u.1.toInt = sz.toInt + 4) ∧ (ap_ f sz.toInt u.2 u.1.toInt (nk_ v.toInt 4)) ∧ (sb_Fit u.2)) (fun u => [(h, .inr (0, [.ref b, .int u.1])), (b, .inl (G.2.1, N, .inl u.2))]) := sorry
theorem d_Row_putBytes_0 : decode prog_9_method_5_code 0 = .ok (.iload_n 3, 1) := sorry
theorem d_Row_putBytes_1 : decode prog_9_method_5_code 1 = .ok (.aload_n 0, 1) := sorry
theorem d_Row_putBytes_2 : decode prog_9_method_5_code 2 = .ok (.getfield 7, 3) := sorry
theorem d_Row_putBytes_5 : decode prog_9_method_5_code 5 = .ok (.arraylength, 1) := sorry
theorem d_Row_putBytes_6 : decode prog_9_method_5_code 6 = .ok (.aload_n 0, 1) := sorry
theorem d_Row_putBytes_7 : decode prog_9_method_5_code 7 = .ok (.getfield 13, 3) := sorry
theorem d_Row_putBytes_10 : decode prog_9_method_5_code 10 = .ok (.isub, 1) := sorry
theorem d_Row_putBytes_11 : decode prog_9_method_5_code 11 = .ok (.if_icmp .gt 27, 3) := sorry
theorem d_Row_putBytes_14 : decode prog_9_method_5_code 14 = .ok (.aload_n 1, 1) := sorry
theorem d_Row_putBytes_15 : decode prog_9_method_5_code 15 = .ok (.iload_n 2, 1) := sorry
theorem d_Row_putBytes_16 : decode prog_9_method_5_code 16 = .ok (.aload_n 0, 1) := sorry
theorem d_Row_putBytes_17 : decode prog_9_method_5_code 17 = .ok (.getfield 7, 3) := sorry
theorem d_Row_putBytes_20 : decode prog_9_method_5_code 20 = .ok (.aload_n 0, 1) := sorry
theorem d_Row_putBytes_21 : decode prog_9_method_5_code 21 = .ok (.getfield 13, 3) := sorry
theorem d_Row_putBytes_24 : decode prog_9_method_5_code 24 = .ok (.iload_n 3, 1) := sorry
theorem d_Row_putBytes_25 : decode prog_9_method_5_code 25 = .ok (.invokestatic 24, 3) := sorry
theorem k_565 : (Jvm.Cond.methodLink "PackageBook$Row" (24 : Nat) ({ cls := "java/lang/System", name := "arraycopy", desc := "(Ljava/lang/Object;ILjava/lang/Object;II)V" } : Jvm.MethodName)) ∈ uW := sorry
theorem k_484 : (Jvm.Cond.native ({ cls := "java/lang/System", name := "arraycopy", desc := "(Ljava/lang/Object;ILjava/lang/Object;II)V" } : Jvm.MethodName)) ∈ uW := sorry
theorem k_483 : (Jvm.Cond.static ({ cls := "java/lang/System", name := "arraycopy", desc := "(Ljava/lang/Object;ILjava/lang/Object;II)V" } : Jvm.MethodName)) ∈ uW := sorry
theorem k_134 : (Jvm.Cond.initialized "java/lang/System") ∈ uW := sorry
theorem d_Row_putBytes_28 : decode prog_9_method_5_code 28 = .ok (.aload_n 0, 1) := sorry
theorem d_Row_putBytes_29 : decode prog_9_method_5_code 29 = .ok (.dup, 1) := sorry
theorem d_Row_putBytes_30 : decode prog_9_method_5_code 30 = .ok (.getfield 13, 3) := sorry
theorem d_Row_putBytes_33 : decode prog_9_method_5_code 33 = .ok (.iload_n 3, 1) := sorry
theorem d_Row_putBytes_34 : decode prog_9_method_5_code 34 = .ok (.iadd, 1) := sorry
theorem d_Row_putBytes_35 : decode prog_9_method_5_code 35 = .ok (.putfield 13, 3) := sorry
theorem d_Row_putBytes_38 : decode prog_9_method_5_code 38 = .ok (.return_, 1) := sorry
abbrev y_Row_putBytes : MethodName := ⟨"PackageBook$Row", "putBytes", "([BII)V"⟩
abbrev i_Row_putBytes : pb_I := (y_Row_putBytes, prog_9_method_5_code, 4, (Option.none : Option Jvm.ClassFile.FieldType), [], { frames := 1, cells := 0, slots := 0, locals := 60 })
theorem g_Row_putBytes {l : Launch} (hl : l.stackTraces = false) (G : pb_G) (h : Nat) (b : Nat) (N : Nat) (f : Nat → Int32) (sz : Int32) (c : Nat) (Mc : Nat) (g : Nat → Int32) (x : Int32) (n : Int32) (h0 : 0 ≤ sz.toInt) (h1 : 0 ≤ n.toInt) (h2 : sz.toInt + n.toInt ≤ N) (h3 : 0 ≤ x.toInt) (hN : N ≤ 100000) (h4 : x.toInt + n.toInt ≤ Mc) (hM : Mc ≤ 100000) (F_f : sb_Fit f) (F_g : sb_Fit g) : Cn l G i_Row_putBytes [.ref h, .ref c, .int x, .int n] [(h, .inr (0, [.ref b, .int sz])), (b, .inl (G.2.1, N, .inl f)), (c, .inl (G.2.1, Mc, .inl g))] (S := Int32 × (Nat → Int32)) (fun rv_ u => rv_ = none ∧ (u.1.toInt = sz.toInt + n.toInt) ∧ (∀ j : Int, 0 ≤ j → gr u.2 j = if sz.toInt ≤ j ∧ j < sz.toInt + n.toInt then gr g (x.toInt + (j - sz.toInt)) else gr f j) ∧ (ap_ f sz.toInt u.2 u.1.toInt (bl_ g x.toInt n.toInt)) ∧ (sb_Fit u.2)) (fun u => [(h, .inr (0, [.ref b, .int u.1])), (b, .inl (G.2.1, N, .inl u.2)), (c, .inl (G.2.1, Mc, .inl g))]) := sorry
theorem g_Row_putBytes1 {l : Launch} (hl : l.stackTraces = false) (G : pb_G) (h : Nat) (b : Nat) (N : Nat) (f : Nat → Int32) (sz : Int32) (x : Int32) (n : Int32) (h0 : 0 ≤ sz.toInt) (h1 : 0 ≤ n.toInt) (h2 : sz.toInt + n.toInt ≤ N) (h3 : 0 ≤ x.toInt) (hN : N ≤ 100000) (h4 : x.toInt + n.toInt ≤ N) (F_f : sb_Fit f) : Cn l G i_Row_putBytes [.ref h, .ref b, .int x, .int n] [(h, .inr (0, [.ref b, .int sz])), (b, .inl (G.2.1, N, .inl f))] (S := Int32 × (Nat → Int32)) (fun rv_ u => rv_ = none ∧ (u.1.toInt = sz.toInt + n.toInt) ∧ (∀ j : Int, 0 ≤ j → gr u.2 j = if sz.toInt ≤ j ∧ j < sz.toInt + n.toInt then gr f (x.toInt + (j - sz.toInt)) else gr f j) ∧ (ap_ f sz.toInt u.2 u.1.toInt (bl_ f x.toInt n.toInt)) ∧ (sb_Fit u.2)) (fun u => [(h, .inr (0, [.ref b, .int u.1])), (b, .inl (G.2.1, N, .inl u.2))]) := sorry
theorem d_Row_become_0 : decode prog_9_method_6_code 0 = .ok (.aload_n 0, 1) := sorry
theorem d_Row_become_1 : decode prog_9_method_6_code 1 = .ok (.iconst 0, 1) := sorry
theorem d_Row_become_2 : decode prog_9_method_6_code 2 = .ok (.putfield 13, 3) := sorry
theorem d_Row_become_5 : decode prog_9_method_6_code 5 = .ok (.aload_n 0, 1) := sorry
theorem d_Row_become_6 : decode prog_9_method_6_code 6 = .ok (.aload_n 1, 1) := sorry
theorem d_Row_become_7 : decode prog_9_method_6_code 7 = .ok (.getfield 7, 3) := sorry
theorem d_Row_become_10 : decode prog_9_method_6_code 10 = .ok (.iconst 0, 1) := sorry
theorem d_Row_become_11 : decode prog_9_method_6_code 11 = .ok (.aload_n 1, 1) := sorry
theorem d_Row_become_12 : decode prog_9_method_6_code 12 = .ok (.getfield 13, 3) := sorry
theorem d_Row_become_15 : decode prog_9_method_6_code 15 = .ok (.invokevirtual 30, 3) := sorry
theorem k_722 : (Jvm.Cond.methodLink "PackageBook$Row" (30 : Nat) ({ cls := "PackageBook$Row", name := "putBytes", desc := "([BII)V" } : Jvm.MethodName)) ∈ uW := sorry
theorem k_564 : (Jvm.Cond.code ({ cls := "PackageBook$Row", name := "putBytes", desc := "([BII)V" } : Jvm.MethodName) prog_9_method_5_code (4 : Nat) (Option.none : Option Jvm.ClassFile.FieldType)) ∈ uW := sorry
theorem k_562 : (Jvm.Cond.instanceMethod ({ cls := "PackageBook$Row", name := "putBytes", desc := "([BII)V" } : Jvm.MethodName)) ∈ uW := sorry
theorem k_563 : (Jvm.Cond.selects "PackageBook$Row" ({ cls := "PackageBook$Row", name := "putBytes", desc := "([BII)V" } : Jvm.MethodName) ({ cls := "PackageBook$Row", name := "putBytes", desc := "([BII)V" } : Jvm.MethodName)) ∈ uW := sorry
theorem hy_Row_putBytes : (y_Row_putBytes).cls ≠ "java/lang/invoke/MethodHandle" ∧ (y_Row_putBytes).cls ≠ "java/lang/invoke/VarHandle" ∧ (parseMethodDescriptor (y_Row_putBytes).desc).map (fun d => d.parameters.length) = some 3 := sorry
theorem d_Row_become_18 : decode prog_9_method_6_code 18 = .ok (.return_, 1) := sorry
abbrev y_Row_become : MethodName := ⟨"PackageBook$Row", "become", "(LPackageBook$Row;)V"⟩
abbrev i_Row_become : pb_I := (y_Row_become, prog_9_method_6_code, 2, (Option.none : Option Jvm.ClassFile.FieldType), [], { frames := 2, cells := 0, slots := 0, locals := 83 })
theorem g_Row_become {l : Launch} (hl : l.stackTraces = false) (G : pb_G) (h : Nat) (b : Nat) (N : Nat) (f : Nat → Int32) (sz : Int32) (h2 : Nat) (c : Nat) (Mc : Nat) (g : Nat → Int32) (sy : Int32) (h0 : 0 ≤ sy.toInt) (h1 : sy.toInt ≤ N) (h2_ : sy.toInt ≤ Mc) (hN : N ≤ 100000) (hM : Mc ≤ 100000) (F_f : sb_Fit f) (F_g : sb_Fit g) : Cn l G i_Row_become [.ref h, .ref h2] [(h, .inr (0, [.ref b, .int sz])), (b, .inl (G.2.1, N, .inl f)), (h2, .inr (0, [.ref c, .int sy])), (c, .inl (G.2.1, Mc, .inl g))] (S := Int32 × (Nat → Int32)) (fun rv_ u => rv_ = none ∧ (u.1.toInt = sy.toInt) ∧ (rl_B g u.2 sy.toInt) ∧ (sb_Fit u.2)) (fun u => [(h, .inr (0, [.ref b, .int u.1])), (b, .inl (G.2.1, N, .inl u.2)), (h2, .inr (0, [.ref c, .int sy])), (c, .inl (G.2.1, Mc, .inl g))]) := sorry
