theorem d_Expander_readSymbols_0 : decode prog_3_method_9_code 0 = .ok (.iconst 0, 1) := sorry
theorem d_Expander_readSymbols_1 : decode prog_3_method_9_code 1 = .ok (.istore_n 3, 1) := sorry
theorem d_Expander_readSymbols_2 : decode prog_3_method_9_code 2 = .ok (.aload_n 0, 1) := sorry
theorem d_Expander_readSymbols_3 : decode prog_3_method_9_code 3 = .ok (.getfield 62, 3) := sorry
theorem d_Expander_readSymbols_6 : decode prog_3_method_9_code 6 = .ok (.aload_n 0, 1) := sorry
theorem d_Expander_readSymbols_7 : decode prog_3_method_9_code 7 = .ok (.getfield 58, 3) := sorry
theorem d_Expander_readSymbols_10 : decode prog_3_method_9_code 10 = .ok (.isub, 1) := sorry
theorem d_Expander_readSymbols_11 : decode prog_3_method_9_code 11 = .ok (.istore 4, 2) := sorry
theorem d_Expander_readSymbols_13 : decode prog_3_method_9_code 13 = .ok (.iload 4, 2) := sorry
theorem d_Expander_readSymbols_15 : decode prog_3_method_9_code 15 = .ok (.ifCond .lt 68, 3) := sorry
theorem d_Expander_readSymbols_83 : decode prog_3_method_9_code 83 = .ok (.return_, 1) := sorry
theorem d_Expander_readSymbols_18 : decode prog_3_method_9_code 18 = .ok (.iload_n 3, 1) := sorry
theorem d_Expander_readSymbols_19 : decode prog_3_method_9_code 19 = .ok (.ifCond .ne 64, 3) := sorry
theorem d_Expander_readSymbols_22 : decode prog_3_method_9_code 22 = .ok (.aload_n 0, 1) := sorry
theorem d_Expander_readSymbols_23 : decode prog_3_method_9_code 23 = .ok (.getfield 65, 3) := sorry
theorem d_Expander_readSymbols_26 : decode prog_3_method_9_code 26 = .ok (.ifCond .ne 57, 3) := sorry
theorem d_Expander_readSymbols_29 : decode prog_3_method_9_code 29 = .ok (.aload_n 0, 1) := sorry
theorem d_Expander_readSymbols_30 : decode prog_3_method_9_code 30 = .ok (.aload_n 1, 1) := sorry
theorem d_Expander_readSymbols_31 : decode prog_3_method_9_code 31 = .ok (.invokevirtual 106, 3) := sorry
theorem d_Expander_readSymbols_34 : decode prog_3_method_9_code 34 = .ok (.istore 5, 2) := sorry
theorem d_Expander_readSymbols_36 : decode prog_3_method_9_code 36 = .ok (.iload 5, 2) := sorry
theorem d_Expander_readSymbols_38 : decode prog_3_method_9_code 38 = .ok (.sipush 256, 3) := sorry
theorem d_Expander_readSymbols_41 : decode prog_3_method_9_code 41 = .ok (.if_icmp .ge 12, 3) := sorry
theorem d_Expander_readSymbols_53 : decode prog_3_method_9_code 53 = .ok (.iload 5, 2) := sorry
theorem d_Expander_readSymbols_55 : decode prog_3_method_9_code 55 = .ok (.sipush 256, 3) := sorry
theorem d_Expander_readSymbols_58 : decode prog_3_method_9_code 58 = .ok (.if_icmp .ne 8, 3) := sorry
theorem d_Expander_readSymbols_66 : decode prog_3_method_9_code 66 = .ok (.aload_n 0, 1) := sorry
theorem d_Expander_readSymbols_67 : decode prog_3_method_9_code 67 = .ok (.iload 5, 2) := sorry
theorem d_Expander_readSymbols_69 : decode prog_3_method_9_code 69 = .ok (.sipush 257, 3) := sorry
theorem d_Expander_readSymbols_72 : decode prog_3_method_9_code 72 = .ok (.isub, 1) := sorry
theorem d_Expander_readSymbols_73 : decode prog_3_method_9_code 73 = .ok (.aload_n 2, 1) := sorry
theorem d_Expander_readSymbols_74 : decode prog_3_method_9_code 74 = .ok (.invokevirtual 116, 3) := sorry
theorem k_657 : (Jvm.Cond.methodLink "PackageBook$Expander" (116 : Nat) ({ cls := "PackageBook$Expander", name := "repeat", desc := "(ILPackageBook$Code;)V" } : Jvm.MethodName)) ∈ uW := sorry
theorem k_660 : (Jvm.Cond.code ({ cls := "PackageBook$Expander", name := "repeat", desc := "(ILPackageBook$Code;)V" } : Jvm.MethodName) prog_3_method_10_code (7 : Nat) (Option.none : Option Jvm.ClassFile.FieldType)) ∈ uW := sorry
theorem k_659 : (Jvm.Cond.instanceMethod ({ cls := "PackageBook$Expander", name := "repeat", desc := "(ILPackageBook$Code;)V" } : Jvm.MethodName)) ∈ uW := sorry
theorem k_23 : Cond.selects "PackageBook$Expander" ⟨"PackageBook$Expander", "repeat", "(ILPackageBook$Code;)V"⟩ ⟨"PackageBook$Expander", "repeat", "(ILPackageBook$Code;)V"⟩ ∈ uW := sorry
theorem hy_Expander_repeat : (y_Expander_repeat).cls ≠ "java/lang/invoke/MethodHandle" ∧ (y_Expander_repeat).cls ≠ "java/lang/invoke/VarHandle" ∧ (parseMethodDescriptor (y_Expander_repeat).desc).map (fun d => d.parameters.length) = some 2 := sorry
theorem d_Expander_readSymbols_77 : decode prog_3_method_9_code 77 = .ok (.iinc 4 (-1), 3) := sorry
theorem d_Expander_readSymbols_80 : decode prog_3_method_9_code 80 = .ok (.goto (-67), 3) := sorry
theorem d_Expander_readSymbols_61 : decode prog_3_method_9_code 61 = .ok (.iconst 1, 1) := sorry
theorem d_Expander_readSymbols_62 : decode prog_3_method_9_code 62 = .ok (.istore_n 3, 1) := sorry
theorem d_Expander_readSymbols_63 : decode prog_3_method_9_code 63 = .ok (.goto 14, 3) := sorry
theorem d_Expander_readSymbols_44 : decode prog_3_method_9_code 44 = .ok (.aload_n 0, 1) := sorry
theorem d_Expander_readSymbols_45 : decode prog_3_method_9_code 45 = .ok (.iload 5, 2) := sorry
theorem d_Expander_readSymbols_47 : decode prog_3_method_9_code 47 = .ok (.invokevirtual 89, 3) := sorry
theorem d_Expander_readSymbols_50 : decode prog_3_method_9_code 50 = .ok (.goto 27, 3) := sorry
abbrev y_Expander_readSymbols : MethodName := ⟨"PackageBook$Expander", "readSymbols", "(LPackageBook$Code;LPackageBook$Code;)V"⟩
abbrev i_Expander_readSymbols : pb_I := (y_Expander_readSymbols, prog_3_method_9_code, 6, (Option.none : Option Jvm.ClassFile.FieldType), [], { frames := 2, cells := 0, slots := 0, locals := 52 })
theorem g_Exp_readSymbols {l : Launch} (hl : l.stackTraces = false) (G : pb_G) (h : Nat) (ex : Nat) (et : Nat) (ea : Nat) (eb : Nat) (ec : Nat) (ed : Nat) (ef : Nat) (er : Nat) (at_ : Int32) (en : Int32) (fl : Int32) (N : Nat) (fr : Nat → Int32) (ey : Nat) (xf : Nat → Int32) (xs : Int32) (kh : Nat) (kc : Nat) (ky : Nat) (Nk : Nat) (ks : Int32) (kfc : Nat → Int32) (kfy : Nat → Int32) (oh : Nat) (oc : Nat) (oy : Nat) (No : Nat) (os : Int32) (ofc : Nat → Int32) (ofy : Nat → Int32) (A : Int → Int32) (L : Int → Int) (nL : Int) (L2 : Int → Int) (nM : Int) (a0 : 0 ≤ at_.toInt) (a1 : at_.toInt ≤ en.toInt) (a2 : en.toInt ≤ 8 * N) (a3 : N ≤ 100000) (a4 : 0 ≤ fl.toInt) (b0 : 0 ≤ xs.toInt) (b1 : xs.toInt ≤ 4000) (hcok : co_I ks.toInt kfc kfy 288) (hnk : ks.toInt ≤ Nk) (hmk : Nk ≤ 100000) (hcoo : co_I os.toInt ofc ofy 32) (hno : os.toInt ≤ No) (hmo : No ≤ 100000) (hcsk : fl.toInt = 0 → cs_R ks.toInt kfc kfy L nL) (hnL : 0 ≤ nL) (hcso : fl.toInt = 0 → cs_R os.toInt ofc ofy L2 nM) (hnM : 0 ≤ nM) (hA : ∀ j : Int, 0 ≤ j → 8 * j < en.toInt → A j = gr fr j) (F_fr : sb_Fit fr) (F_xf : sb_Fit xf) : Cn l G i_Expander_readSymbols [.ref h, .ref kh, .ref oh] [(h, .inr (5, [.ref ex, .ref et, .ref ea, .ref eb, .ref ec, .ref ed, .ref ef, .ref er, .int at_, .int en, .int fl])), (er, .inl (G.2.1, N, .inl fr)), (ex, .inr (0, [.ref ey, .int xs])), (ey, .inl (G.2.1, 4000, .inl xf)), (kh, .inr (1, [.ref kc, .ref ky, .int ks])), (kc, .inl (G.2.2.1, 16, .inl kfc)), (ky, .inl (G.2.2.1, Nk, .inl kfy)), (oh, .inr (1, [.ref oc, .ref oy, .int os])), (oc, .inl (G.2.2.1, 16, .inl ofc)), (oy, .inl (G.2.2.1, No, .inl ofy))] (S := Int32 × Int32 × Int32 × (Nat → Int32)) (fun rv_ u => rv_ = none ∧ (at_.toInt ≤ u.1.toInt) ∧ (u.1.toInt ≤ en.toInt) ∧ (0 ≤ u.2.1.toInt) ∧ (fl.toInt ≠ 0 → u.2.1.toInt ≠ 0) ∧ (0 ≤ u.2.2.1.toInt) ∧ (u.2.2.1.toInt ≤ 4000) ∧ (sl_f A en.toInt L nL L2 nM fl.toInt at_.toInt xs.toInt (sq xf 0 xs.toInt) = oz_ u.2.1.toInt u.1.toInt u.2.2.1.toInt (sq u.2.2.2 0 u.2.2.1.toInt)) ∧ (sb_Fit u.2.2.2)) (fun u => [(h, .inr (5, [.ref ex, .ref et, .ref ea, .ref eb, .ref ec, .ref ed, .ref ef, .ref er, .int u.1, .int en, .int u.2.1])), (er, .inl (G.2.1, N, .inl fr)), (ex, .inr (0, [.ref ey, .int u.2.2.1])), (ey, .inl (G.2.1, 4000, .inl u.2.2.2)), (kh, .inr (1, [.ref kc, .ref ky, .int ks])), (kc, .inl (G.2.2.1, 16, .inl kfc)), (ky, .inl (G.2.2.1, Nk, .inl kfy)), (oh, .inr (1, [.ref oc, .ref oy, .int os])), (oc, .inl (G.2.2.1, 16, .inl ofc)), (oy, .inl (G.2.2.1, No, .inl ofy))]) := sorry
