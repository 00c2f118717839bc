/-! the strings' bytes -/
theorem st_255 {x z : Int32} (e : z = x &&& 255) : z.toInt = x.toInt % 256 := sorry
def st_c (k : Nat) (j : Int) : Int := ((st_byts.getD k []).getD j.toNat 0).toInt
theorem sc_all : ∀ k : Nat, k < 64 → ∀ x ∈ st_byts.getD k [], 0 ≤ x.toInt ∧ x.toInt ≤ 127 := sorry
theorem sc_rng {k : Nat} (hk : k < st_n) (j : Int) : 0 ≤ st_c k j ∧ st_c k j ≤ 127 := sorry
theorem sc_ld {k : Nat} {i v w z : Int32} (hk : k < st_n) (e : v = (st_byts.getD k []).getD i.toNatClampNeg 0) (e2 : w = v &&& 255) (e3 : z.toInt = w.toInt) (h0 : 0 ≤ i.toInt) : z.toInt = st_c k i.toInt := sorry
theorem d_JPreconditions_checkIndex_0 : decode prog_25_method_11_code 0 = .ok (.iload_n 0, 1) := sorry
theorem d_JPreconditions_checkIndex_1 : decode prog_25_method_11_code 1 = .ok (.ifCond .lt 8, 3) := sorry
theorem d_JPreconditions_checkIndex_4 : decode prog_25_method_11_code 4 = .ok (.iload_n 0, 1) := sorry
theorem d_JPreconditions_checkIndex_5 : decode prog_25_method_11_code 5 = .ok (.iload_n 1, 1) := sorry
theorem d_JPreconditions_checkIndex_6 : decode prog_25_method_11_code 6 = .ok (.if_icmp .lt 10, 3) := sorry
theorem d_JPreconditions_checkIndex_16 : decode prog_25_method_11_code 16 = .ok (.iload_n 0, 1) := sorry
theorem d_JPreconditions_checkIndex_17 : decode prog_25_method_11_code 17 = .ok (.ireturn, 1) := sorry
abbrev y_JPreconditions_checkIndex : MethodName := ⟨"jdk/internal/util/Preconditions", "checkIndex", "(IILjava/util/function/BiFunction;)I"⟩
abbrev i_JPreconditions_checkIndex : pb_I := (y_JPreconditions_checkIndex, prog_25_method_11_code, 3, (some Jvm.ClassFile.FieldType.int), [], { frames := 0, cells := 0, slots := 0, locals := 0 })
theorem g_ci0 {l : Launch} (hl : l.stackTraces = false) (G : pb_G) (x : Int32) (n : Int32) (h0 : 0 ≤ x.toInt) (h1 : x.toInt < n.toInt) : Cn l G i_JPreconditions_checkIndex [.int x, .int n, .null] [] (S := Unit) (fun rv_ u => rv_ = some (.int x)) (fun u => []) := sorry
theorem g_ci1 {l : Launch} (hl : l.stackTraces = false) (G : pb_G) (x : Int32) (n : Int32) (t : Nat) (h0 : 0 ≤ x.toInt) (h1 : x.toInt < n.toInt) : Cn l G i_JPreconditions_checkIndex [.int x, .int n, .ref t] [] (S := Unit) (fun rv_ u => rv_ = some (.int x)) (fun u => []) := sorry
theorem d_JString_checkIndex_0 : decode prog_18_method_155_code 0 = .ok (.iload_n 0, 1) := sorry
theorem d_JString_checkIndex_1 : decode prog_18_method_155_code 1 = .ok (.iload_n 1, 1) := sorry
theorem d_JString_checkIndex_2 : decode prog_18_method_155_code 2 = .ok (.getstatic 1053, 3) := sorry
theorem k_765 : (Jvm.Cond.fieldLink "java/lang/String" (1053 : Nat) "jdk/internal/util/Preconditions" "SIOOBE_FORMATTER" "Ljava/util/function/BiFunction;") ∈ uW := sorry
theorem d_JString_checkIndex_5 : decode prog_18_method_155_code 5 = .ok (.invokestatic 1059, 3) := sorry
theorem k_767 : (Jvm.Cond.methodLink "java/lang/String" (1059 : Nat) ({ cls := "jdk/internal/util/Preconditions", name := "checkIndex", desc := "(IILjava/util/function/BiFunction;)I" } : Jvm.MethodName)) ∈ uW := sorry
theorem k_140 : (Jvm.Cond.initialized "jdk/internal/util/Preconditions") ∈ uW := sorry
theorem k_769 : (Jvm.Cond.code ({ cls := "jdk/internal/util/Preconditions", name := "checkIndex", desc := "(IILjava/util/function/BiFunction;)I" } : Jvm.MethodName) prog_25_method_11_code (3 : Nat) (Option.some Jvm.ClassFile.FieldType.int)) ∈ uW := sorry
theorem k_768 : (Jvm.Cond.static ({ cls := "jdk/internal/util/Preconditions", name := "checkIndex", desc := "(IILjava/util/function/BiFunction;)I" } : Jvm.MethodName)) ∈ uW := sorry
theorem hy_JPreconditions_checkIndex : (y_JPreconditions_checkIndex).cls ≠ "java/lang/invoke/MethodHandle" ∧ (y_JPreconditions_checkIndex).cls ≠ "java/lang/invoke/VarHandle" ∧ (parseMethodDescriptor (y_JPreconditions_checkIndex).desc).map (fun d => d.parameters.length) = some 3 := sorry
theorem d_JString_checkIndex_8 : decode prog_18_method_155_code 8 = .ok (.pop, 1) := sorry
theorem d_JString_checkIndex_9 : decode prog_18_method_155_code 9 = .ok (.return_, 1) := sorry
abbrev y_JString_checkIndex : MethodName := ⟨"java/lang/String", "checkIndex", "(II)V"⟩
abbrev i_JString_checkIndex : pb_I := (y_JString_checkIndex, prog_18_method_155_code, 2, (Option.none : Option Jvm.ClassFile.FieldType), [], { frames := 1, cells := 0, slots := 0, locals := 22 })
theorem g_Str_checkIndex {l : Launch} (hl : l.stackTraces = false) (G : pb_G) (x : Int32) (n : Int32) (h0 : 0 ≤ x.toInt) (h1 : x.toInt < n.toInt) : Cn l G i_JString_checkIndex [.int x, .int n] [] (S := Unit) (fun rv_ u => rv_ = none) (fun u => []) := sorry
theorem d_JStringLatin1_charAt_0 : decode prog_19_method_2_code 0 = .ok (.iload_n 1, 1) := sorry
theorem d_JStringLatin1_charAt_1 : decode prog_19_method_2_code 1 = .ok (.aload_n 0, 1) := sorry
theorem d_JStringLatin1_charAt_2 : decode prog_19_method_2_code 2 = .ok (.arraylength, 1) := sorry
theorem d_JStringLatin1_charAt_3 : decode prog_19_method_2_code 3 = .ok (.invokestatic 9, 3) := sorry
theorem k_762 : (Jvm.Cond.methodLink "java/lang/StringLatin1" (9 : Nat) ({ cls := "java/lang/String", name := "checkIndex", desc := "(II)V" } : Jvm.MethodName)) ∈ uW := sorry
theorem k_138 : (Jvm.Cond.initialized "java/lang/String") ∈ uW := sorry
theorem k_764 : (Jvm.Cond.code ({ cls := "java/lang/String", name := "checkIndex", desc := "(II)V" } : Jvm.MethodName) prog_18_method_155_code (2 : Nat) (Option.none : Option Jvm.ClassFile.FieldType)) ∈ uW := sorry
theorem k_763 : (Jvm.Cond.static ({ cls := "java/lang/String", name := "checkIndex", desc := "(II)V" } : Jvm.MethodName)) ∈ uW := sorry
theorem hy_JString_checkIndex : (y_JString_checkIndex).cls ≠ "java/lang/invoke/MethodHandle" ∧ (y_JString_checkIndex).cls ≠ "java/lang/invoke/VarHandle" ∧ (parseMethodDescriptor (y_JString_checkIndex).desc).map (fun d => d.parameters.length) = some 2 := sorry
theorem d_JStringLatin1_charAt_6 : decode prog_19_method_2_code 6 = .ok (.aload_n 0, 1) := sorry
theorem d_JStringLatin1_charAt_7 : decode prog_19_method_2_code 7 = .ok (.iload_n 1, 1) := sorry
theorem d_JStringLatin1_charAt_8 : decode prog_19_method_2_code 8 = .ok (.baload, 1) := sorry
theorem d_JStringLatin1_charAt_9 : decode prog_19_method_2_code 9 = .ok (.sipush 255, 3) := sorry
theorem d_JStringLatin1_charAt_12 : decode prog_19_method_2_code 12 = .ok (.iand, 1) := sorry
theorem d_JStringLatin1_charAt_13 : decode prog_19_method_2_code 13 = .ok (.i2c, 1) := sorry
theorem d_JStringLatin1_charAt_14 : decode prog_19_method_2_code 14 = .ok (.ireturn, 1) := sorry
abbrev y_JStringLatin1_charAt : MethodName := ⟨"java/lang/StringLatin1", "charAt", "([BI)C"⟩
abbrev i_JStringLatin1_charAt : pb_I := (y_JStringLatin1_charAt, prog_19_method_2_code, 2, (some Jvm.ClassFile.FieldType.char), [], { frames := 2, cells := 0, slots := 0, locals := 43 })
theorem g_Lat_charAt {l : Launch} (hl : l.stackTraces = false) (G : pb_G) (k : Nat) (i : Int32) (hk : k < st_n) (h0 : 0 ≤ i.toInt) (h1 : i.toInt < st_len k) : Cn l G i_JStringLatin1_charAt [.ref (G.2.2.2.2.2.2 k), .int i] [] (S := Int32) (fun rv_ u => rv_ = some (.int u) ∧ (0 ≤ u.toInt) ∧ (u.toInt ≤ 255) ∧ (u.toInt = st_c k i.toInt)) (fun u => []) := sorry
theorem d_JString_isLatin1_0 : decode prog_18_method_154_code 0 = .ok (.getstatic 38, 3) := sorry
theorem k_749 : (Jvm.Cond.fieldLink "java/lang/String" (38 : Nat) "java/lang/String" "COMPACT_STRINGS" "Z") ∈ uW := sorry
theorem d_JString_isLatin1_3 : decode prog_18_method_154_code 3 = .ok (.ifCond .eq 14, 3) := sorry
theorem d_JString_isLatin1_6 : decode prog_18_method_154_code 6 = .ok (.aload_n 0, 1) := sorry
theorem d_JString_isLatin1_7 : decode prog_18_method_154_code 7 = .ok (.getfield 15, 3) := sorry
theorem k_1679 : (Jvm.Cond.fieldLink "java/lang/String" (15 : Nat) "java/lang/String" "coder" "B") ∈ uW := sorry
theorem d_JString_isLatin1_10 : decode prog_18_method_154_code 10 = .ok (.ifCond .ne 7, 3) := sorry
theorem d_JString_isLatin1_13 : decode prog_18_method_154_code 13 = .ok (.iconst 1, 1) := sorry
theorem d_JString_isLatin1_14 : decode prog_18_method_154_code 14 = .ok (.goto 4, 3) := sorry
theorem d_JString_isLatin1_18 : decode prog_18_method_154_code 18 = .ok (.ireturn, 1) := sorry
abbrev y_JString_isLatin1 : MethodName := ⟨"java/lang/String", "isLatin1", "()Z"⟩
abbrev i_JString_isLatin1 : pb_I := (y_JString_isLatin1, prog_18_method_154_code, 1, (some Jvm.ClassFile.FieldType.boolean), [], { frames := 0, cells := 0, slots := 0, locals := 0 })
theorem g_Str_isLatin1 {l : Launch} (hl : l.stackTraces = false) (G : pb_G) (k : Nat) (hk : k < st_n) : Cn l G i_JString_isLatin1 [.ref (G.2.2.2.2.2.1 k)] [] (S := Unit) (fun rv_ u => rv_ = some (.int 1)) (fun u => []) := sorry
theorem d_JString_charAt_0 : decode prog_18_method_56_code 0 = .ok (.aload_n 0, 1) := sorry
theorem d_JString_charAt_1 : decode prog_18_method_56_code 1 = .ok (.invokevirtual 492, 3) := sorry
theorem k_755 : (Jvm.Cond.methodLink "java/lang/String" (492 : Nat) ({ cls := "java/lang/String", name := "isLatin1", desc := "()Z" } : Jvm.MethodName)) ∈ uW := sorry
theorem k_758 : (Jvm.Cond.code ({ cls := "java/lang/String", name := "isLatin1", desc := "()Z" } : Jvm.MethodName) prog_18_method_154_code (1 : Nat) (Option.some Jvm.ClassFile.FieldType.boolean)) ∈ uW := sorry
theorem k_756 : (Jvm.Cond.instanceMethod ({ cls := "java/lang/String", name := "isLatin1", desc := "()Z" } : Jvm.MethodName)) ∈ uW := sorry
theorem k_757 : (Jvm.Cond.selects "java/lang/String" ({ cls := "java/lang/String", name := "isLatin1", desc := "()Z" } : Jvm.MethodName) ({ cls := "java/lang/String", name := "isLatin1", desc := "()Z" } : Jvm.MethodName)) ∈ uW := sorry
theorem hy_JString_isLatin1 : (y_JString_isLatin1).cls ≠ "java/lang/invoke/MethodHandle" ∧ (y_JString_isLatin1).cls ≠ "java/lang/invoke/VarHandle" ∧ (parseMethodDescriptor (y_JString_isLatin1).desc).map (fun d => d.parameters.length) = some 0 := sorry
theorem d_JString_charAt_4 : decode prog_18_method_56_code 4 = .ok (.ifCond .eq 12, 3) := sorry
theorem d_JString_charAt_7 : decode prog_18_method_56_code 7 = .ok (.aload_n 0, 1) := sorry
theorem d_JString_charAt_8 : decode prog_18_method_56_code 8 = .ok (.getfield 9, 3) := sorry
theorem k_1678 : (Jvm.Cond.fieldLink "java/lang/String" (9 : Nat) "java/lang/String" "value" "[B") ∈ uW := sorry
theorem d_JString_charAt_11 : decode prog_18_method_56_code 11 = .ok (.iload_n 1, 1) := sorry
theorem d_JString_charAt_12 : decode prog_18_method_56_code 12 = .ok (.invokestatic 495, 3) := sorry
theorem k_759 : (Jvm.Cond.methodLink "java/lang/String" (495 : Nat) ({ cls := "java/lang/StringLatin1", name := "charAt", desc := "([BI)C" } : Jvm.MethodName)) ∈ uW := sorry
theorem k_139 : (Jvm.Cond.initialized "java/lang/StringLatin1") ∈ uW := sorry
theorem k_761 : (Jvm.Cond.code ({ cls := "java/lang/StringLatin1", name := "charAt", desc := "([BI)C" } : Jvm.MethodName) prog_19_method_2_code (2 : Nat) (Option.some Jvm.ClassFile.FieldType.char)) ∈ uW := sorry
theorem k_760 : (Jvm.Cond.static ({ cls := "java/lang/StringLatin1", name := "charAt", desc := "([BI)C" } : Jvm.MethodName)) ∈ uW := sorry
theorem hy_JStringLatin1_charAt : (y_JStringLatin1_charAt).cls ≠ "java/lang/invoke/MethodHandle" ∧ (y_JStringLatin1_charAt).cls ≠ "java/lang/invoke/VarHandle" ∧ (parseMethodDescriptor (y_JStringLatin1_charAt).desc).map (fun d => d.parameters.length) = some 2 := sorry
theorem d_JString_charAt_15 : decode prog_18_method_56_code 15 = .ok (.ireturn, 1) := sorry
abbrev y_JString_charAt : MethodName := ⟨"java/lang/String", "charAt", "(I)C"⟩
abbrev i_JString_charAt : pb_I := (y_JString_charAt, prog_18_method_56_code, 2, (some Jvm.ClassFile.FieldType.char), [], { frames := 3, cells := 0, slots := 0, locals := 64 })
theorem g_Str_charAt {l : Launch} (hl : l.stackTraces = false) (G : pb_G) (k : Nat) (i : Int32) (hk : k < st_n) (h0 : 0 ≤ i.toInt) (h1 : i.toInt < st_len k) : Cn l G i_JString_charAt [.ref (G.2.2.2.2.2.1 k), .int i] [] (S := Int32) (fun rv_ u => rv_ = some (.int u) ∧ (0 ≤ u.toInt) ∧ (u.toInt ≤ 255) ∧ (u.toInt = st_c k i.toInt)) (fun u => []) := sorry
theorem d_JString_coder_0 : decode prog_18_method_152_code 0 = .ok (.getstatic 38, 3) := sorry
theorem d_JString_coder_3 : decode prog_18_method_152_code 3 = .ok (.ifCond .eq 10, 3) := sorry
theorem d_JString_coder_6 : decode prog_18_method_152_code 6 = .ok (.aload_n 0, 1) := sorry
theorem d_JString_coder_7 : decode prog_18_method_152_code 7 = .ok (.getfield 15, 3) := sorry
theorem d_JString_coder_10 : decode prog_18_method_152_code 10 = .ok (.goto 4, 3) := sorry
theorem d_JString_coder_14 : decode prog_18_method_152_code 14 = .ok (.ireturn, 1) := sorry
abbrev y_JString_coder : MethodName := ⟨"java/lang/String", "coder", "()B"⟩
abbrev i_JString_coder : pb_I := (y_JString_coder, prog_18_method_152_code, 1, (some Jvm.ClassFile.FieldType.byte), [], { frames := 0, cells := 0, slots := 0, locals := 0 })
theorem g_Str_coder {l : Launch} (hl : l.stackTraces = false) (G : pb_G) (k : Nat) (hk : k < st_n) : Cn l G i_JString_coder [.ref (G.2.2.2.2.2.1 k)] [] (S := Unit) (fun rv_ u => rv_ = some (.int 0)) (fun u => []) := sorry
theorem d_JString_length_0 : decode prog_18_method_54_code 0 = .ok (.aload_n 0, 1) := sorry
theorem d_JString_length_1 : decode prog_18_method_54_code 1 = .ok (.getfield 9, 3) := sorry
theorem d_JString_length_4 : decode prog_18_method_54_code 4 = .ok (.arraylength, 1) := sorry
theorem d_JString_length_5 : decode prog_18_method_54_code 5 = .ok (.aload_n 0, 1) := sorry
theorem d_JString_length_6 : decode prog_18_method_54_code 6 = .ok (.invokevirtual 335, 3) := sorry
theorem k_745 : (Jvm.Cond.methodLink "java/lang/String" (335 : Nat) ({ cls := "java/lang/String", name := "coder", desc := "()B" } : Jvm.MethodName)) ∈ uW := sorry
theorem k_748 : (Jvm.Cond.code ({ cls := "java/lang/String", name := "coder", desc := "()B" } : Jvm.MethodName) prog_18_method_152_code (1 : Nat) (Option.some Jvm.ClassFile.FieldType.byte)) ∈ uW := sorry
theorem k_746 : (Jvm.Cond.instanceMethod ({ cls := "java/lang/String", name := "coder", desc := "()B" } : Jvm.MethodName)) ∈ uW := sorry
theorem k_747 : (Jvm.Cond.selects "java/lang/String" ({ cls := "java/lang/String", name := "coder", desc := "()B" } : Jvm.MethodName) ({ cls := "java/lang/String", name := "coder", desc := "()B" } : Jvm.MethodName)) ∈ uW := sorry
theorem hy_JString_coder : (y_JString_coder).cls ≠ "java/lang/invoke/MethodHandle" ∧ (y_JString_coder).cls ≠ "java/lang/invoke/VarHandle" ∧ (parseMethodDescriptor (y_JString_coder).desc).map (fun d => d.parameters.length) = some 0 := sorry
theorem d_JString_length_9 : decode prog_18_method_54_code 9 = .ok (.ishr, 1) := sorry
theorem d_JString_length_10 : decode prog_18_method_54_code 10 = .ok (.ireturn, 1) := sorry
abbrev y_JString_length : MethodName := ⟨"java/lang/String", "length", "()I"⟩
abbrev i_JString_length : pb_I := (y_JString_length, prog_18_method_54_code, 1, (some Jvm.ClassFile.FieldType.int), [], { frames := 1, cells := 0, slots := 0, locals := 20 })
theorem g_Str_length {l : Launch} (hl : l.stackTraces = false) (G : pb_G) (k : Nat) (hk : k < st_n) : Cn l G i_JString_length [.ref (G.2.2.2.2.2.1 k)] [] (S := Int32) (fun rv_ u => rv_ = some (.int u) ∧ (u.toInt = st_len k)) (fun u => []) := sorry
