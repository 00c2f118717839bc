/-! who tells a part's relations -/
def tr_ (j : Int) : Int := ([46, 114, 101, 108, 115] : List Int).getD j.toNat 0
theorem tr_0 : (st_byts.getD 0 []).map Int32.toInt = [46, 114, 101, 108, 115] := sorry
theorem tr_c (j : Int) : st_c 0 j = tr_ j := sorry
def en6_ (n z : Nat → Int32) (i : Int) (k : Nat) : Prop := st_len k ≤ gx z i ∧ ∀ j : Int, 0 ≤ j → j < st_len k → gx n (24 * i + (gx z i - st_len k) + j) = st_c k j
/-- the name of part i, and .rels behind it -/
def tn6_ (V : VW_) (i k : Int) : Int := if k < vZ V i then vN V i k else tr_ (k - vZ V i)
theorem tn_z {c x i : Int} {n z : Nat → Int32} (h : ¬ gx z x = gx z i + 5) : ¬ nE_ (cN_ c n z) x (gx z i + 5) (tn6_ (cN_ c n z) i) := sorry
theorem tn_nm {c i k : Int} {n z : Nat → Int32} (h : k < gx z i) : tn6_ (cN_ c n z) i k = gx n (24 * i + k) := sorry
theorem tn_rl {c i k : Int} {n z : Nat → Int32} (h : ¬ k < gx z i) : tn6_ (cN_ c n z) i k = tr_ (k - gx z i) := sorry
theorem tn_y {c x i : Int} {n z : Nat → Int32} (hz : gx z x = gx z i + 5) (hl : st_len 0 = 5) (he : en6_ n z x 0) (hs : ∀ j : Int, 0 ≤ j → j < gx z i → gx n (24 * i + j) = gx n (24 * x + j)) : nE_ (cN_ c n z) x (gx z i + 5) (tn6_ (cN_ c n z) i) := sorry
theorem tn_e {c x i : Int} {n z : Nat → Int32} (hz : gx z x = gx z i + 5) (h0 : 0 ≤ gx z i) (hl : st_len 0 = 5) (he : ¬ en6_ n z x 0) : ¬ nE_ (cN_ c n z) x (gx z i + 5) (tn6_ (cN_ c n z) i) := sorry
theorem tn_d {c x i : Int} {n z : Nat → Int32} (hs : ¬ ∀ j : Int, 0 ≤ j → j < gx z i → gx n (24 * i + j) = gx n (24 * x + j)) : ¬ nE_ (cN_ c n z) x (gx z i + 5) (tn6_ (cN_ c n z) i) := sorry
/-- the names alone say which part has a name -/
theorem isF_N {c m r : Int} {n z : Nat → Int32} {V : VW_} {a : Int → Int} (R : rN_ c n z V) (h : isF_ (cN_ c n z) m a r) : isF_ V m a r := sorry
theorem tn_N {c i : Int} {n z : Nat → Int32} {V : VW_} (R : rN_ c n z V) (i0 : 0 ≤ i) (i1 : i < c) (k : Int) (k0 : 0 ≤ k) : tn6_ (cN_ c n z) i k = tn6_ V i k := sorry
theorem tl_N {c i r : Int} {n z : Nat → Int32} {V : VW_} (R : rN_ c n z V) (i0 : 0 ≤ i) (i1 : i < c) (h : isF_ (cN_ c n z) (gx z i + 5) (tn6_ (cN_ c n z) i) r) : isF_ V (vZ V i + 5) (tn6_ V i) r := sorry
theorem d_Shelf_endsWith_0 : decode prog_10_method_13_code 0 = .ok (.aload_n 0, 1) := sorry
theorem d_Shelf_endsWith_1 : decode prog_10_method_13_code 1 = .ok (.getfield 15, 3) := sorry
theorem d_Shelf_endsWith_4 : decode prog_10_method_13_code 4 = .ok (.iload_n 1, 1) := sorry
theorem d_Shelf_endsWith_5 : decode prog_10_method_13_code 5 = .ok (.iaload, 1) := sorry
theorem d_Shelf_endsWith_6 : decode prog_10_method_13_code 6 = .ok (.aload_n 2, 1) := sorry
theorem d_Shelf_endsWith_7 : decode prog_10_method_13_code 7 = .ok (.invokevirtual 59, 3) := sorry
theorem k_741 : (Jvm.Cond.methodLink "PackageBook$Shelf" (59 : Nat) ({ cls := "java/lang/String", name := "length", desc := "()I" } : Jvm.MethodName)) ∈ uW := sorry
theorem k_744 : (Jvm.Cond.code ({ cls := "java/lang/String", name := "length", desc := "()I" } : Jvm.MethodName) prog_18_method_54_code (1 : Nat) (Option.some Jvm.ClassFile.FieldType.int)) ∈ uW := sorry
theorem k_742 : (Jvm.Cond.instanceMethod ({ cls := "java/lang/String", name := "length", desc := "()I" } : Jvm.MethodName)) ∈ uW := sorry
theorem k_743 : (Jvm.Cond.selects "java/lang/String" ({ cls := "java/lang/String", name := "length", desc := "()I" } : Jvm.MethodName) ({ cls := "java/lang/String", name := "length", desc := "()I" } : Jvm.MethodName)) ∈ uW := sorry
theorem hy_JString_length : (y_JString_length).cls ≠ "java/lang/invoke/MethodHandle" ∧ (y_JString_length).cls ≠ "java/lang/invoke/VarHandle" ∧ (parseMethodDescriptor (y_JString_length).desc).map (fun d => d.parameters.length) = some 0 := sorry
theorem d_Shelf_endsWith_10 : decode prog_10_method_13_code 10 = .ok (.isub, 1) := sorry
theorem d_Shelf_endsWith_11 : decode prog_10_method_13_code 11 = .ok (.istore_n 3, 1) := sorry
theorem d_Shelf_endsWith_12 : decode prog_10_method_13_code 12 = .ok (.iconst 0, 1) := sorry
theorem d_Shelf_endsWith_13 : decode prog_10_method_13_code 13 = .ok (.istore 4, 2) := sorry
theorem d_Shelf_endsWith_15 : decode prog_10_method_13_code 15 = .ok (.iload 4, 2) := sorry
theorem d_Shelf_endsWith_17 : decode prog_10_method_13_code 17 = .ok (.aload_n 2, 1) := sorry
theorem d_Shelf_endsWith_18 : decode prog_10_method_13_code 18 = .ok (.invokevirtual 59, 3) := sorry
theorem d_Shelf_endsWith_21 : decode prog_10_method_13_code 21 = .ok (.if_icmp .ge 38, 3) := sorry
theorem d_Shelf_endsWith_59 : decode prog_10_method_13_code 59 = .ok (.iconst 1, 1) := sorry
theorem d_Shelf_endsWith_60 : decode prog_10_method_13_code 60 = .ok (.ireturn, 1) := sorry
theorem d_Shelf_endsWith_24 : decode prog_10_method_13_code 24 = .ok (.iload_n 3, 1) := sorry
theorem d_Shelf_endsWith_25 : decode prog_10_method_13_code 25 = .ok (.ifCond .lt 26, 3) := sorry
theorem d_Shelf_endsWith_51 : decode prog_10_method_13_code 51 = .ok (.iconst 0, 1) := sorry
theorem d_Shelf_endsWith_52 : decode prog_10_method_13_code 52 = .ok (.ireturn, 1) := sorry
theorem d_Shelf_endsWith_28 : decode prog_10_method_13_code 28 = .ok (.aload_n 0, 1) := sorry
theorem d_Shelf_endsWith_29 : decode prog_10_method_13_code 29 = .ok (.getfield 9, 3) := sorry
theorem d_Shelf_endsWith_32 : decode prog_10_method_13_code 32 = .ok (.bipush 24, 2) := sorry
theorem d_Shelf_endsWith_34 : decode prog_10_method_13_code 34 = .ok (.iload_n 1, 1) := sorry
theorem d_Shelf_endsWith_35 : decode prog_10_method_13_code 35 = .ok (.imul, 1) := sorry
theorem d_Shelf_endsWith_36 : decode prog_10_method_13_code 36 = .ok (.iload_n 3, 1) := sorry
theorem d_Shelf_endsWith_37 : decode prog_10_method_13_code 37 = .ok (.iadd, 1) := sorry
theorem d_Shelf_endsWith_38 : decode prog_10_method_13_code 38 = .ok (.iload 4, 2) := sorry
theorem d_Shelf_endsWith_40 : decode prog_10_method_13_code 40 = .ok (.iadd, 1) := sorry
theorem d_Shelf_endsWith_41 : decode prog_10_method_13_code 41 = .ok (.baload, 1) := sorry
theorem d_Shelf_endsWith_42 : decode prog_10_method_13_code 42 = .ok (.aload_n 2, 1) := sorry
theorem d_Shelf_endsWith_43 : decode prog_10_method_13_code 43 = .ok (.iload 4, 2) := sorry
theorem d_Shelf_endsWith_45 : decode prog_10_method_13_code 45 = .ok (.invokevirtual 68, 3) := sorry
theorem k_751 : (Jvm.Cond.methodLink "PackageBook$Shelf" (68 : Nat) ({ cls := "java/lang/String", name := "charAt", desc := "(I)C" } : Jvm.MethodName)) ∈ uW := sorry
theorem k_754 : (Jvm.Cond.code ({ cls := "java/lang/String", name := "charAt", desc := "(I)C" } : Jvm.MethodName) prog_18_method_56_code (2 : Nat) (Option.some Jvm.ClassFile.FieldType.char)) ∈ uW := sorry
theorem k_752 : (Jvm.Cond.instanceMethod ({ cls := "java/lang/String", name := "charAt", desc := "(I)C" } : Jvm.MethodName)) ∈ uW := sorry
theorem k_753 : (Jvm.Cond.selects "java/lang/String" ({ cls := "java/lang/String", name := "charAt", desc := "(I)C" } : Jvm.MethodName) ({ cls := "java/lang/String", name := "charAt", desc := "(I)C" } : Jvm.MethodName)) ∈ uW := sorry
theorem hy_JString_charAt : (y_JString_charAt).cls ≠ "java/lang/invoke/MethodHandle" ∧ (y_JString_charAt).cls ≠ "java/lang/invoke/VarHandle" ∧ (parseMethodDescriptor (y_JString_charAt).desc).map (fun d => d.parameters.length) = some 1 := sorry
theorem d_Shelf_endsWith_48 : decode prog_10_method_13_code 48 = .ok (.if_icmp .eq 5, 3) := sorry
theorem d_Shelf_endsWith_53 : decode prog_10_method_13_code 53 = .ok (.iinc 4 1, 3) := sorry
theorem d_Shelf_endsWith_56 : decode prog_10_method_13_code 56 = .ok (.goto (-41), 3) := sorry
abbrev y_Shelf_endsWith : MethodName := ⟨"PackageBook$Shelf", "endsWith", "(ILjava/lang/String;)Z"⟩
abbrev i_Shelf_endsWith : pb_I := (y_Shelf_endsWith, prog_10_method_13_code, 5, (some Jvm.ClassFile.FieldType.boolean), [], { frames := 4, cells := 0, slots := 0, locals := 85 })
theorem g_Shelf_endsWith {l : Launch} (hl : l.stackTraces = false) (G : pb_G) (h : Nat) (sn : Nat) (sz : Nat) (sb : Nat) (sg : Nat) (c : Int32) (sfn : Nat → Int32) (sfz : Nat → Int32) (sfg : Nat → Int32) (i : Int32) (k : Nat) (I : sh_I c.toInt sfz sfg) (i0 : 0 ≤ i.toInt) (i1 : i.toInt < c.toInt) (hk : k < st_n) (F_sfn : sb_Fit sfn) : Cn l G i_Shelf_endsWith [.ref h, .int i, .ref (G.2.2.2.2.2.1 k)] [(h, .inr (3, [.ref sn, .ref sz, .ref sb, .ref sg, .int c])), (sn, .inl (G.2.1, 384, .inl sfn)), (sz, .inl (G.2.2.1, 16, .inl sfz))] (S := Int32) (fun rv_ u => rv_ = some (.int u) ∧ (u.toInt = 0 ∨ u.toInt = 1) ∧ (u.toInt = 1 → 0 < st_len k → st_len k ≤ gx sfz i.toInt) ∧ (hid_ (u.toInt = 1 ↔ en6_ sfn sfz i.toInt k))) (fun u => [(h, .inr (3, [.ref sn, .ref sz, .ref sb, .ref sg, .int c])), (sn, .inl (G.2.1, 384, .inl sfn)), (sz, .inl (G.2.2.1, 16, .inl sfz))]) := sorry
theorem d_Shelf_isNamed_0 : decode prog_10_method_12_code 0 = .ok (.aload_n 0, 1) := sorry
theorem d_Shelf_isNamed_1 : decode prog_10_method_12_code 1 = .ok (.getfield 15, 3) := sorry
theorem d_Shelf_isNamed_4 : decode prog_10_method_12_code 4 = .ok (.iload_n 1, 1) := sorry
theorem d_Shelf_isNamed_5 : decode prog_10_method_12_code 5 = .ok (.iaload, 1) := sorry
theorem d_Shelf_isNamed_6 : decode prog_10_method_12_code 6 = .ok (.aload_n 2, 1) := sorry
theorem d_Shelf_isNamed_7 : decode prog_10_method_12_code 7 = .ok (.invokevirtual 59, 3) := sorry
theorem d_Shelf_isNamed_10 : decode prog_10_method_12_code 10 = .ok (.if_icmp .ne 16, 3) := sorry
theorem d_Shelf_isNamed_26 : decode prog_10_method_12_code 26 = .ok (.iconst 0, 1) := sorry
theorem d_Shelf_isNamed_27 : decode prog_10_method_12_code 27 = .ok (.ireturn, 1) := sorry
theorem d_Shelf_isNamed_13 : decode prog_10_method_12_code 13 = .ok (.aload_n 0, 1) := sorry
theorem d_Shelf_isNamed_14 : decode prog_10_method_12_code 14 = .ok (.iload_n 1, 1) := sorry
theorem d_Shelf_isNamed_15 : decode prog_10_method_12_code 15 = .ok (.aload_n 2, 1) := sorry
theorem d_Shelf_isNamed_16 : decode prog_10_method_12_code 16 = .ok (.invokevirtual 64, 3) := sorry
theorem k_737 : (Jvm.Cond.methodLink "PackageBook$Shelf" (64 : Nat) ({ cls := "PackageBook$Shelf", name := "endsWith", desc := "(ILjava/lang/String;)Z" } : Jvm.MethodName)) ∈ uW := sorry
theorem k_740 : (Jvm.Cond.code ({ cls := "PackageBook$Shelf", name := "endsWith", desc := "(ILjava/lang/String;)Z" } : Jvm.MethodName) prog_10_method_13_code (5 : Nat) (Option.some Jvm.ClassFile.FieldType.boolean)) ∈ uW := sorry
theorem k_739 : (Jvm.Cond.instanceMethod ({ cls := "PackageBook$Shelf", name := "endsWith", desc := "(ILjava/lang/String;)Z" } : Jvm.MethodName)) ∈ uW := sorry
theorem k_29 : Cond.selects "PackageBook$Shelf" ⟨"PackageBook$Shelf", "endsWith", "(ILjava/lang/String;)Z"⟩ ⟨"PackageBook$Shelf", "endsWith", "(ILjava/lang/String;)Z"⟩ ∈ uW := sorry
theorem hy_Shelf_endsWith : (y_Shelf_endsWith).cls ≠ "java/lang/invoke/MethodHandle" ∧ (y_Shelf_endsWith).cls ≠ "java/lang/invoke/VarHandle" ∧ (parseMethodDescriptor (y_Shelf_endsWith).desc).map (fun d => d.parameters.length) = some 2 := sorry
theorem d_Shelf_isNamed_19 : decode prog_10_method_12_code 19 = .ok (.ifCond .eq 7, 3) := sorry
theorem d_Shelf_isNamed_22 : decode prog_10_method_12_code 22 = .ok (.iconst 1, 1) := sorry
theorem d_Shelf_isNamed_23 : decode prog_10_method_12_code 23 = .ok (.goto 4, 3) := sorry
abbrev y_Shelf_isNamed : MethodName := ⟨"PackageBook$Shelf", "isNamed", "(ILjava/lang/String;)Z"⟩
abbrev i_Shelf_isNamed : pb_I := (y_Shelf_isNamed, prog_10_method_12_code, 3, (some Jvm.ClassFile.FieldType.boolean), [], { frames := 5, cells := 0, slots := 0, locals := 109 })
theorem g_Shelf_isNamed {l : Launch} (hl : l.stackTraces = false) (G : pb_G) (h : Nat) (sn : Nat) (sz : Nat) (sb : Nat) (sg : Nat) (c : Int32) (sfn : Nat → Int32) (sfz : Nat → Int32) (sfg : Nat → Int32) (i : Int32) (k : Nat) (I : sh_I c.toInt sfz sfg) (i0 : 0 ≤ i.toInt) (i1 : i.toInt < c.toInt) (hk : k < st_n) (F_sfn : sb_Fit sfn) : Cn l G i_Shelf_isNamed [.ref h, .int i, .ref (G.2.2.2.2.2.1 k)] [(h, .inr (3, [.ref sn, .ref sz, .ref sb, .ref sg, .int c])), (sn, .inl (G.2.1, 384, .inl sfn)), (sz, .inl (G.2.2.1, 16, .inl sfz))] (S := Int32) (fun rv_ u => rv_ = some (.int u) ∧ (u.toInt = 0 ∨ u.toInt = 1)) (fun u => [(h, .inr (3, [.ref sn, .ref sz, .ref sb, .ref sg, .int c])), (sn, .inl (G.2.1, 384, .inl sfn)), (sz, .inl (G.2.2.1, 16, .inl sfz))]) := sorry
theorem d_Shelf_isTeller_0 : decode prog_10_method_14_code 0 = .ok (.aload_n 0, 1) := sorry
theorem d_Shelf_isTeller_1 : decode prog_10_method_14_code 1 = .ok (.iload_n 1, 1) := sorry
theorem d_Shelf_isTeller_2 : decode prog_10_method_14_code 2 = .ok (.ldc 72, 2) := sorry
theorem d_Shelf_isTeller_4 : decode prog_10_method_14_code 4 = .ok (.invokevirtual 64, 3) := sorry
theorem d_Shelf_isTeller_7 : decode prog_10_method_14_code 7 = .ok (.ifCond .eq 34, 3) := sorry
theorem d_Shelf_isTeller_41 : decode prog_10_method_14_code 41 = .ok (.iconst 0, 1) := sorry
theorem d_Shelf_isTeller_42 : decode prog_10_method_14_code 42 = .ok (.ireturn, 1) := sorry
theorem d_Shelf_isTeller_10 : decode prog_10_method_14_code 10 = .ok (.aload_n 0, 1) := sorry
theorem d_Shelf_isTeller_11 : decode prog_10_method_14_code 11 = .ok (.aload_n 0, 1) := sorry
theorem d_Shelf_isTeller_12 : decode prog_10_method_14_code 12 = .ok (.getfield 9, 3) := sorry
theorem d_Shelf_isTeller_15 : decode prog_10_method_14_code 15 = .ok (.bipush 24, 2) := sorry
theorem d_Shelf_isTeller_17 : decode prog_10_method_14_code 17 = .ok (.iload_n 1, 1) := sorry
theorem d_Shelf_isTeller_18 : decode prog_10_method_14_code 18 = .ok (.imul, 1) := sorry
theorem d_Shelf_isTeller_19 : decode prog_10_method_14_code 19 = .ok (.aload_n 0, 1) := sorry
theorem d_Shelf_isTeller_20 : decode prog_10_method_14_code 20 = .ok (.getfield 15, 3) := sorry
theorem d_Shelf_isTeller_23 : decode prog_10_method_14_code 23 = .ok (.iload_n 1, 1) := sorry
theorem d_Shelf_isTeller_24 : decode prog_10_method_14_code 24 = .ok (.iaload, 1) := sorry
theorem d_Shelf_isTeller_25 : decode prog_10_method_14_code 25 = .ok (.ldc 72, 2) := sorry
theorem d_Shelf_isTeller_27 : decode prog_10_method_14_code 27 = .ok (.invokevirtual 59, 3) := sorry
theorem d_Shelf_isTeller_30 : decode prog_10_method_14_code 30 = .ok (.isub, 1) := sorry
theorem d_Shelf_isTeller_31 : decode prog_10_method_14_code 31 = .ok (.invokevirtual 74, 3) := sorry
theorem k_789 : (Jvm.Cond.methodLink "PackageBook$Shelf" (74 : Nat) ({ cls := "PackageBook$Shelf", name := "find", desc := "([BII)I" } : Jvm.MethodName)) ∈ uW := sorry
theorem k_462 : (Jvm.Cond.code ({ cls := "PackageBook$Shelf", name := "find", desc := "([BII)I" } : Jvm.MethodName) prog_10_method_6_code (5 : Nat) (Option.some Jvm.ClassFile.FieldType.int)) ∈ uW := sorry
theorem k_460 : (Jvm.Cond.instanceMethod ({ cls := "PackageBook$Shelf", name := "find", desc := "([BII)I" } : Jvm.MethodName)) ∈ uW := sorry
theorem k_461 : (Jvm.Cond.selects "PackageBook$Shelf" ({ cls := "PackageBook$Shelf", name := "find", desc := "([BII)I" } : Jvm.MethodName) ({ cls := "PackageBook$Shelf", name := "find", desc := "([BII)I" } : Jvm.MethodName)) ∈ uW := sorry
theorem hy_Shelf_find : (y_Shelf_find).cls ≠ "java/lang/invoke/MethodHandle" ∧ (y_Shelf_find).cls ≠ "java/lang/invoke/VarHandle" ∧ (parseMethodDescriptor (y_Shelf_find).desc).map (fun d => d.parameters.length) = some 3 := sorry
theorem d_Shelf_isTeller_34 : decode prog_10_method_14_code 34 = .ok (.ifCond .lt 7, 3) := sorry
theorem d_Shelf_isTeller_37 : decode prog_10_method_14_code 37 = .ok (.iconst 1, 1) := sorry
theorem d_Shelf_isTeller_38 : decode prog_10_method_14_code 38 = .ok (.goto 4, 3) := sorry
abbrev y_Shelf_isTeller : MethodName := ⟨"PackageBook$Shelf", "isTeller", "(I)Z"⟩
abbrev i_Shelf_isTeller : pb_I := (y_Shelf_isTeller, prog_10_method_14_code, 2, (some Jvm.ClassFile.FieldType.boolean), [], { frames := 5, cells := 0, slots := 0, locals := 109 })
theorem g_Shelf_isTeller {l : Launch} (hl : l.stackTraces = false) (G : pb_G) (h : Nat) (sn : Nat) (sz : Nat) (sb : Nat) (sg : Nat) (c : Int32) (sfn : Nat → Int32) (sfz : Nat → Int32) (sfg : Nat → Int32) (i : Int32) (I : sh_I c.toInt sfz sfg) (i0 : 0 ≤ i.toInt) (i1 : i.toInt < c.toInt) (F_sfn : sb_Fit sfn) : Cn l G i_Shelf_isTeller [.ref h, .int i] [(h, .inr (3, [.ref sn, .ref sz, .ref sb, .ref sg, .int c])), (sn, .inl (G.2.1, 384, .inl sfn)), (sz, .inl (G.2.2.1, 16, .inl sfz))] (S := Int32) (fun rv_ u => rv_ = some (.int u) ∧ (u.toInt = 0 ∨ u.toInt = 1)) (fun u => [(h, .inr (3, [.ref sn, .ref sz, .ref sb, .ref sg, .int c])), (sn, .inl (G.2.1, 384, .inl sfn)), (sz, .inl (G.2.2.1, 16, .inl sfz))]) := sorry
theorem d_Shelf_tellerOf_0 : decode prog_10_method_15_code 0 = .ok (.aload_n 0, 1) := sorry
theorem d_Shelf_tellerOf_1 : decode prog_10_method_15_code 1 = .ok (.getfield 15, 3) := sorry
theorem d_Shelf_tellerOf_4 : decode prog_10_method_15_code 4 = .ok (.iload_n 1, 1) := sorry
theorem d_Shelf_tellerOf_5 : decode prog_10_method_15_code 5 = .ok (.iaload, 1) := sorry
theorem d_Shelf_tellerOf_6 : decode prog_10_method_15_code 6 = .ok (.istore_n 2, 1) := sorry
theorem d_Shelf_tellerOf_7 : decode prog_10_method_15_code 7 = .ok (.iconst 0, 1) := sorry
theorem d_Shelf_tellerOf_8 : decode prog_10_method_15_code 8 = .ok (.istore_n 3, 1) := sorry
theorem d_Shelf_tellerOf_9 : decode prog_10_method_15_code 9 = .ok (.iload_n 3, 1) := sorry
theorem d_Shelf_tellerOf_10 : decode prog_10_method_15_code 10 = .ok (.aload_n 0, 1) := sorry
theorem d_Shelf_tellerOf_11 : decode prog_10_method_15_code 11 = .ok (.getfield 25, 3) := sorry
theorem d_Shelf_tellerOf_14 : decode prog_10_method_15_code 14 = .ok (.if_icmp .ge 60, 3) := sorry
theorem d_Shelf_tellerOf_74 : decode prog_10_method_15_code 74 = .ok (.iconst (-1), 1) := sorry
theorem d_Shelf_tellerOf_75 : decode prog_10_method_15_code 75 = .ok (.ireturn, 1) := sorry
theorem d_Shelf_tellerOf_17 : decode prog_10_method_15_code 17 = .ok (.aload_n 0, 1) := sorry
theorem d_Shelf_tellerOf_18 : decode prog_10_method_15_code 18 = .ok (.getfield 15, 3) := sorry
theorem d_Shelf_tellerOf_21 : decode prog_10_method_15_code 21 = .ok (.iload_n 3, 1) := sorry
theorem d_Shelf_tellerOf_22 : decode prog_10_method_15_code 22 = .ok (.iaload, 1) := sorry
theorem d_Shelf_tellerOf_23 : decode prog_10_method_15_code 23 = .ok (.iload_n 2, 1) := sorry
theorem d_Shelf_tellerOf_24 : decode prog_10_method_15_code 24 = .ok (.ldc 72, 2) := sorry
theorem d_Shelf_tellerOf_26 : decode prog_10_method_15_code 26 = .ok (.invokevirtual 59, 3) := sorry
theorem d_Shelf_tellerOf_29 : decode prog_10_method_15_code 29 = .ok (.iadd, 1) := sorry
theorem d_Shelf_tellerOf_30 : decode prog_10_method_15_code 30 = .ok (.if_icmp .ne 38, 3) := sorry
theorem d_Shelf_tellerOf_68 : decode prog_10_method_15_code 68 = .ok (.iinc 3 1, 3) := sorry
theorem d_Shelf_tellerOf_71 : decode prog_10_method_15_code 71 = .ok (.goto (-62), 3) := sorry
theorem d_Shelf_tellerOf_33 : decode prog_10_method_15_code 33 = .ok (.aload_n 0, 1) := sorry
theorem d_Shelf_tellerOf_34 : decode prog_10_method_15_code 34 = .ok (.iload_n 3, 1) := sorry
theorem d_Shelf_tellerOf_35 : decode prog_10_method_15_code 35 = .ok (.ldc 72, 2) := sorry
theorem d_Shelf_tellerOf_37 : decode prog_10_method_15_code 37 = .ok (.invokevirtual 64, 3) := sorry
theorem d_Shelf_tellerOf_40 : decode prog_10_method_15_code 40 = .ok (.ifCond .eq 28, 3) := sorry
theorem d_Shelf_tellerOf_43 : decode prog_10_method_15_code 43 = .ok (.aload_n 0, 1) := sorry
theorem d_Shelf_tellerOf_44 : decode prog_10_method_15_code 44 = .ok (.getfield 9, 3) := sorry
theorem d_Shelf_tellerOf_47 : decode prog_10_method_15_code 47 = .ok (.bipush 24, 2) := sorry
theorem d_Shelf_tellerOf_49 : decode prog_10_method_15_code 49 = .ok (.iload_n 1, 1) := sorry
theorem d_Shelf_tellerOf_50 : decode prog_10_method_15_code 50 = .ok (.imul, 1) := sorry
theorem d_Shelf_tellerOf_51 : decode prog_10_method_15_code 51 = .ok (.aload_n 0, 1) := sorry
theorem d_Shelf_tellerOf_52 : decode prog_10_method_15_code 52 = .ok (.getfield 9, 3) := sorry
theorem d_Shelf_tellerOf_55 : decode prog_10_method_15_code 55 = .ok (.bipush 24, 2) := sorry
theorem d_Shelf_tellerOf_57 : decode prog_10_method_15_code 57 = .ok (.iload_n 3, 1) := sorry
theorem d_Shelf_tellerOf_58 : decode prog_10_method_15_code 58 = .ok (.imul, 1) := sorry
theorem d_Shelf_tellerOf_59 : decode prog_10_method_15_code 59 = .ok (.iload_n 2, 1) := sorry
theorem d_Shelf_tellerOf_60 : decode prog_10_method_15_code 60 = .ok (.invokestatic 29, 3) := sorry
theorem d_Shelf_tellerOf_63 : decode prog_10_method_15_code 63 = .ok (.ifCond .eq 5, 3) := sorry
theorem d_Shelf_tellerOf_66 : decode prog_10_method_15_code 66 = .ok (.iload_n 3, 1) := sorry
theorem d_Shelf_tellerOf_67 : decode prog_10_method_15_code 67 = .ok (.ireturn, 1) := sorry
abbrev y_Shelf_tellerOf : MethodName := ⟨"PackageBook$Shelf", "tellerOf", "(I)I"⟩
abbrev i_Shelf_tellerOf : pb_I := (y_Shelf_tellerOf, prog_10_method_15_code, 4, (some Jvm.ClassFile.FieldType.int), [], { frames := 5, cells := 0, slots := 0, locals := 109 })
theorem g_Shelf_tellerOf {l : Launch} (hl : l.stackTraces = false) (G : pb_G) (h : Nat) (sn : Nat) (sz : Nat) (sb : Nat) (sg : Nat) (c : Int32) (sfn : Nat → Int32) (sfz : Nat → Int32) (sfg : Nat → Int32) (i : Int32) (I : sh_I c.toInt sfz sfg) (i0 : 0 ≤ i.toInt) (i1 : i.toInt < c.toInt) (F_sfn : sb_Fit sfn) : Cn l G i_Shelf_tellerOf [.ref h, .int i] [(h, .inr (3, [.ref sn, .ref sz, .ref sb, .ref sg, .int c])), (sn, .inl (G.2.1, 384, .inl sfn)), (sz, .inl (G.2.2.1, 16, .inl sfz))] (S := Int32) (fun rv_ u => rv_ = some (.int u) ∧ (-1 ≤ u.toInt) ∧ (u.toInt < c.toInt) ∧ (isF_ (cN_ c.toInt sfn sfz) (gx sfz i.toInt + 5) (tn6_ (cN_ c.toInt sfn sfz) i.toInt) u.toInt)) (fun u => [(h, .inr (3, [.ref sn, .ref sz, .ref sb, .ref sg, .int c])), (sn, .inl (G.2.1, 384, .inl sfn)), (sz, .inl (G.2.2.1, 16, .inl sfz))]) := sorry
