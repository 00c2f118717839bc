/-- the parts' bytes -/
def NL_ (V : VW_) (i : Int) : List Int32 := (List.range (vZ V i).toNat).map (fun (k : Nat) => Int32.ofInt (vN V i (k : Int)))
def DL_ (V : VW_) (i : Int) : List Int32 := (List.range (vS V i).toNat).map (fun (k : Nat) => vD V i (k : Int))
def sD_ (V : VW_) (i : Int) : Int → Int32 := fun j => if 0 ≤ j ∧ j < vS V i then vD V i j else 0
theorem NL_bl {f : Nat → Int32} {V : VW_} {i y n : Int} (e : n = vZ V i) (h : ∀ k : Int, 0 ≤ k → k < vZ V i → gx f (y + k) = vN V i k) : bl_ f y n = NL_ V i := sorry
theorem DL_bl {f : Nat → Int32} {V : VW_} {i y n : Int} (e : n = vS V i) (h : ∀ k : Int, 0 ≤ k → k < vS V i → gr f (y + k) = vD V i k) : bl_ f y n = DL_ V i := sorry
theorem sD_sq {f : Nat → Int32} {V : VW_} {i y n : Int} (e : n = vS V i) (h : ∀ k : Int, 0 ≤ k → k < vS V i → gr f (y + k) = vD V i k) : sq f y n = sD_ V i := sorry
def PR_ (a : Int → Int32) (n : Int) (P : List Int32) : Prop := ∃ f : Nat → Int32, pF_ a n f (P.length : Int) ∧ P = bl_ f 0 (P.length : Int)
theorem PR_of {a : Int → Int32} {n z : Int} {f : Nat → Int32} (h : pF_ a n f z) (z0 : 0 ≤ z) : PR_ a n (bl_ f 0 z) := sorry
theorem PR_u {a : Int → Int32} {n : Int} {P Q : List Int32} (h : PR_ a n P) (k : PR_ a n Q) : P = Q := sorry
def su_ (V : VW_) (i : Int) : Int := (cw_ (vD V i) (vS V i).toNat ^^^ (-1)).toInt
def mt_ (V : VW_) (i : Int) (P : List Int32) : Int := if (P.length : Int) < vS V i then 8 else 0
def hr_ (V : VW_) (i : Int) (P : List Int32) : Int := if (P.length : Int) < vS V i then (P.length : Int) else vS V i
/-- what record and entry both say; the twenty bytes of it that the reference takes out of the record -/
def s20_ (V : VW_) (i : Int) (P : List Int32) : List Int32 := nk_ (mt_ V i P) 2 ++ nk_ 0 2 ++ nk_ 33 2 ++ nk_ (su_ V i) 4 ++ nk_ (hr_ V i P) 4 ++ nk_ (vS V i) 4 ++ nk_ (vZ V i) 2
def sh_ (V : VW_) (i : Int) (P : List Int32) : List Int32 := nk_ 20 2 ++ nk_ 0 2 ++ s20_ V i P ++ nk_ 0 2
theorem s20_len (V : VW_) (i : Int) (P : List Int32) : (s20_ V i P).length = 20 := sorry
theorem sh_len (V : VW_) (i : Int) (P : List Int32) : (sh_ V i P).length = 26 := sorry
def bd_ (V : VW_) (i : Int) (P : List Int32) : List Int32 := if (P.length : Int) < vS V i then P else DL_ V i
def rc_ (V : VW_) (i : Int) (P : List Int32) : List Int32 := nk_ 67324752 4 ++ sh_ V i P ++ NL_ V i ++ bd_ V i P
def en_L (V : VW_) (i : Int) (P : List Int32) (w : Int) : List Int32 := nk_ 33639248 4 ++ nk_ 20 2 ++ sh_ V i P ++ nk_ 0 2 ++ nk_ 0 2 ++ nk_ 0 2 ++ nk_ 0 4 ++ nk_ w 4 ++ NL_ V i
def fE_ (c d w : Int) : List Int32 := nk_ 101010256 4 ++ nk_ 0 2 ++ nk_ 0 2 ++ nk_ c 2 ++ nk_ c 2 ++ nk_ d 4 ++ nk_ w 4 ++ nk_ 0 2
def fL_ (V : VW_) : Nat → List Int32 → List Int32 → Prop
  | 0, F, D => F = [] ∧ D = []
  | i + 1, F, D => ∃ (F1 D1 P : List Int32), fL_ V i F1 D1 ∧ PR_ (sD_ V (i : Int)) (vS V (i : Int)) P ∧ F = F1 ++ rc_ V (i : Int) P ∧ D = D1 ++ en_L V (i : Int) P (F1.length : Int)
theorem fL_u {V : VW_} : ∀ (i : Nat) {F D F' D' : List Int32}, fL_ V i F D → fL_ V i F' D' → F = F' ∧ D = D' := sorry
theorem fL_s {V : VW_} {i i2 w : Int} {F D F2 D2 P : List Int32} (h : fL_ V i.toNat F D) (i0 : 0 ≤ i) (hi : i2 = i + 1) (p : PR_ (sD_ V i) (vS V i) P) (hw : w = (F.length : Int)) (e1 : F2 = F ++ rc_ V i P) (e2 : D2 = D ++ en_L V i P w) : fL_ V i2.toNat F2 D2 := sorry
def FI_ (V : VW_) (K : List Int32) : Prop := ∃ F D : List Int32, fL_ V (vC V).toNat F D ∧ K = F ++ D ++ fE_ (vC V) (D.length : Int) (F.length : Int)
theorem FI_u {V : VW_} {K L : List Int32} (h : FI_ V K) (k : FI_ V L) : K = L := sorry
/-- a row that has these bytes -/
def fw_ (f : Nat → Int32) (s : Int) (K : List Int32) : Prop := s = (K.length : Int) ∧ ∀ k : Nat, k < K.length → K[k]? = some (gr f (k : Int))
theorem fw_ap {f g : Nat → Int32} {s t : Int} {K L : List Int32} (h : fw_ f s K) (a : ap_ f s g t L) : fw_ g t (K ++ L) := sorry
theorem fw_nil {f : Nat → Int32} {s : Int} (h : s = 0) : fw_ f s [] := sorry
theorem fw_rl {f g : Nat → Int32} {s t : Int} {K : List Int32} (h : fw_ f s K) (k : fw_ g t K) : s = t ∧ rl_B f g s := sorry
/-- a piece of a row, taken out -/
theorem bl_sub {f : Nat → Int32} {s y n : Int} {K A B C : List Int32} (h : fw_ f s K) (e : K = A ++ (B ++ C)) (hy : y = (A.length : Int)) (hn : n = (B.length : Int)) : bl_ f y n = B := sorry
/-- every part's record stands in the file -/
theorem fL_in {V : VW_} : ∀ (n : Nat) {F D : List Int32}, fL_ V n F D → ∀ i : Nat, i < n → ∃ F1 D1 P T : List Int32, fL_ V i F1 D1 ∧ PR_ (sD_ V (i : Int)) (vS V (i : Int)) P ∧ F = F1 ++ (rc_ V (i : Int) P ++ T) := sorry
theorem rc_E {V : VW_} {i m su hr s z k1 k2 k3 k4 k5 k6 : Int} {P N B : List Int32} (h1 : k1 = 67324752) (h2 : k2 = 20) (h3 : k3 = 0) (em : m = mt_ V i P) (h4 : k4 = 0) (h5 : k5 = 33) (es : su = su_ V i) (eh : hr = hr_ V i P) (e1 : s = vS V i) (e2 : z = vZ V i) (h6 : k6 = 0) (eN : N = NL_ V i) (eB : B = bd_ V i P) : [] ++ nk_ k1 4 ++ nk_ k2 2 ++ nk_ k3 2 ++ nk_ m 2 ++ nk_ k4 2 ++ nk_ k5 2 ++ nk_ su 4 ++ nk_ hr 4 ++ nk_ s 4 ++ nk_ z 2 ++ nk_ k6 2 ++ N ++ B = rc_ V i P := sorry
theorem rc_len (V : VW_) (i : Int) (P : List Int32) : 30 ≤ (rc_ V i P).length := sorry
theorem en_E {V : VW_} {i w k1 k2 k3 k4 k5 k6 : Int} {P N S : List Int32} (h1 : k1 = 33639248) (h2 : k2 = 20) (eS : S = sh_ V i P) (h3 : k3 = 0) (h4 : k4 = 0) (h5 : k5 = 0) (h6 : k6 = 0) (eN : N = NL_ V i) : [] ++ nk_ k1 4 ++ nk_ k2 2 ++ S ++ nk_ k3 2 ++ nk_ k4 2 ++ nk_ k5 2 ++ nk_ k6 4 ++ nk_ w 4 ++ N = en_L V i P w := sorry
theorem fE_E {c d w k1 k2 k3 k4 : Int} (h1 : k1 = 101010256) (h2 : k2 = 0) (h3 : k3 = 0) (h4 : k4 = 0) : [] ++ nk_ k1 4 ++ nk_ k2 2 ++ nk_ k3 2 ++ nk_ c 2 ++ nk_ c 2 ++ nk_ d 4 ++ nk_ w 4 ++ nk_ k4 2 = fE_ c d w := sorry
theorem mt_y {V : VW_} {i m p : Int} {P : List Int32} (hp : p = (P.length : Int)) (h : p < vS V i) (hm : m = 8) : m = mt_ V i P := sorry
theorem mt_n {V : VW_} {i m p : Int} {P : List Int32} (hp : p = (P.length : Int)) (h : ¬ p < vS V i) (hm : m = 0) : m = mt_ V i P := sorry
theorem hr_y {V : VW_} {i m p : Int} {P : List Int32} (hp : p = (P.length : Int)) (h : p < vS V i) (hm : m = p) : m = hr_ V i P := sorry
theorem hr_n {V : VW_} {i m p : Int} {P : List Int32} (hp : p = (P.length : Int)) (h : ¬ p < vS V i) (hm : m = vS V i) : m = hr_ V i P := sorry
theorem bd_y {V : VW_} {i p : Int} {P B : List Int32} (hp : p = (P.length : Int)) (h : p < vS V i) (hm : B = P) : B = bd_ V i P := sorry
theorem bd_n {V : VW_} {i p : Int} {P B : List Int32} (hp : p = (P.length : Int)) (h : ¬ p < vS V i) (hm : B = DL_ V i) : B = bd_ V i P := sorry
theorem su_E {V : VW_} {i y n : Int} {f : Nat → Int32} {s : Int32} (e : s = cr_n f y n.toNat ^^^ (-1)) (en : n = vS V i) (h : ∀ k : Int, 0 ≤ k → k < vS V i → gr f (y + k) = vD V i k) (n0 : 0 ≤ n) : s.toInt = su_ V i := sorry
theorem sh_bl {V : VW_} {f : Nat → Int32} {s y i : Int} {K F D T P : List Int32} (h : fw_ f s (K ++ D)) (e : K = F ++ (rc_ V i P ++ T)) (hy : y = (F.length : Int) + 4) : bl_ f y 26 = sh_ V i P ∧ y + 26 ≤ s := sorry
theorem d_FileMaker_putEnd_0 : decode prog_4_method_5_code 0 = .ok (.aload_n 0, 1) := sorry
theorem d_FileMaker_putEnd_1 : decode prog_4_method_5_code 1 = .ok (.getfield 14, 3) := sorry
theorem d_FileMaker_putEnd_4 : decode prog_4_method_5_code 4 = .ok (.getfield 24, 3) := sorry
theorem k_163 : (Jvm.Cond.fieldLinkNest "PackageBook$FileMaker" (24 : Nat) "PackageBook$Row" "size" "I" "PackageBook") ∈ uN := sorry
theorem d_FileMaker_putEnd_7 : decode prog_4_method_5_code 7 = .ok (.iload_n 2, 1) := sorry
theorem d_FileMaker_putEnd_8 : decode prog_4_method_5_code 8 = .ok (.isub, 1) := sorry
theorem d_FileMaker_putEnd_9 : decode prog_4_method_5_code 9 = .ok (.istore_n 3, 1) := sorry
theorem d_FileMaker_putEnd_10 : decode prog_4_method_5_code 10 = .ok (.aload_n 0, 1) := sorry
theorem d_FileMaker_putEnd_11 : decode prog_4_method_5_code 11 = .ok (.getfield 14, 3) := sorry
theorem d_FileMaker_putEnd_14 : decode prog_4_method_5_code 14 = .ok (.ldc 87, 2) := sorry
theorem k_575 : (Jvm.Cond.constant "PackageBook$FileMaker" (87 : Nat) (101010256 : Int32)) ∈ uW := sorry
theorem d_FileMaker_putEnd_16 : decode prog_4_method_5_code 16 = .ok (.invokevirtual 66, 3) := sorry
theorem k_544 : (Jvm.Cond.methodLink "PackageBook$FileMaker" (66 : Nat) ({ cls := "PackageBook$Row", name := "putFour", desc := "(I)V" } : Jvm.MethodName)) ∈ uW := sorry
theorem k_547 : (Jvm.Cond.code ({ cls := "PackageBook$Row", name := "putFour", desc := "(I)V" } : Jvm.MethodName) prog_9_method_4_code (2 : Nat) (Option.none : Option Jvm.ClassFile.FieldType)) ∈ uW := sorry
theorem k_545 : (Jvm.Cond.instanceMethod ({ cls := "PackageBook$Row", name := "putFour", desc := "(I)V" } : Jvm.MethodName)) ∈ uW := sorry
theorem k_546 : (Jvm.Cond.selects "PackageBook$Row" ({ cls := "PackageBook$Row", name := "putFour", desc := "(I)V" } : Jvm.MethodName) ({ cls := "PackageBook$Row", name := "putFour", desc := "(I)V" } : Jvm.MethodName)) ∈ uW := sorry
theorem hy_Row_putFour : (y_Row_putFour).cls ≠ "java/lang/invoke/MethodHandle" ∧ (y_Row_putFour).cls ≠ "java/lang/invoke/VarHandle" ∧ (parseMethodDescriptor (y_Row_putFour).desc).map (fun d => d.parameters.length) = some 1 := sorry
theorem d_FileMaker_putEnd_19 : decode prog_4_method_5_code 19 = .ok (.aload_n 0, 1) := sorry
theorem d_FileMaker_putEnd_20 : decode prog_4_method_5_code 20 = .ok (.getfield 14, 3) := sorry
theorem d_FileMaker_putEnd_23 : decode prog_4_method_5_code 23 = .ok (.iconst 0, 1) := sorry
theorem d_FileMaker_putEnd_24 : decode prog_4_method_5_code 24 = .ok (.invokevirtual 69, 3) := sorry
theorem k_556 : (Jvm.Cond.methodLink "PackageBook$FileMaker" (69 : Nat) ({ cls := "PackageBook$Row", name := "putTwo", desc := "(I)V" } : Jvm.MethodName)) ∈ uW := sorry
theorem d_FileMaker_putEnd_27 : decode prog_4_method_5_code 27 = .ok (.aload_n 0, 1) := sorry
theorem d_FileMaker_putEnd_28 : decode prog_4_method_5_code 28 = .ok (.getfield 14, 3) := sorry
theorem d_FileMaker_putEnd_31 : decode prog_4_method_5_code 31 = .ok (.iconst 0, 1) := sorry
theorem d_FileMaker_putEnd_32 : decode prog_4_method_5_code 32 = .ok (.invokevirtual 69, 3) := sorry
theorem d_FileMaker_putEnd_35 : decode prog_4_method_5_code 35 = .ok (.aload_n 0, 1) := sorry
theorem d_FileMaker_putEnd_36 : decode prog_4_method_5_code 36 = .ok (.getfield 14, 3) := sorry
theorem d_FileMaker_putEnd_39 : decode prog_4_method_5_code 39 = .ok (.iload_n 1, 1) := sorry
theorem d_FileMaker_putEnd_40 : decode prog_4_method_5_code 40 = .ok (.invokevirtual 69, 3) := sorry
theorem d_FileMaker_putEnd_43 : decode prog_4_method_5_code 43 = .ok (.aload_n 0, 1) := sorry
theorem d_FileMaker_putEnd_44 : decode prog_4_method_5_code 44 = .ok (.getfield 14, 3) := sorry
theorem d_FileMaker_putEnd_47 : decode prog_4_method_5_code 47 = .ok (.iload_n 1, 1) := sorry
theorem d_FileMaker_putEnd_48 : decode prog_4_method_5_code 48 = .ok (.invokevirtual 69, 3) := sorry
theorem d_FileMaker_putEnd_51 : decode prog_4_method_5_code 51 = .ok (.aload_n 0, 1) := sorry
theorem d_FileMaker_putEnd_52 : decode prog_4_method_5_code 52 = .ok (.getfield 14, 3) := sorry
theorem d_FileMaker_putEnd_55 : decode prog_4_method_5_code 55 = .ok (.iload_n 3, 1) := sorry
theorem d_FileMaker_putEnd_56 : decode prog_4_method_5_code 56 = .ok (.invokevirtual 66, 3) := sorry
theorem d_FileMaker_putEnd_59 : decode prog_4_method_5_code 59 = .ok (.aload_n 0, 1) := sorry
theorem d_FileMaker_putEnd_60 : decode prog_4_method_5_code 60 = .ok (.getfield 14, 3) := sorry
theorem d_FileMaker_putEnd_63 : decode prog_4_method_5_code 63 = .ok (.iload_n 2, 1) := sorry
theorem d_FileMaker_putEnd_64 : decode prog_4_method_5_code 64 = .ok (.invokevirtual 66, 3) := sorry
theorem d_FileMaker_putEnd_67 : decode prog_4_method_5_code 67 = .ok (.aload_n 0, 1) := sorry
theorem d_FileMaker_putEnd_68 : decode prog_4_method_5_code 68 = .ok (.getfield 14, 3) := sorry
theorem d_FileMaker_putEnd_71 : decode prog_4_method_5_code 71 = .ok (.iconst 0, 1) := sorry
theorem d_FileMaker_putEnd_72 : decode prog_4_method_5_code 72 = .ok (.invokevirtual 69, 3) := sorry
theorem d_FileMaker_putEnd_75 : decode prog_4_method_5_code 75 = .ok (.return_, 1) := sorry
abbrev y_FileMaker_putEnd : MethodName := ⟨"PackageBook$FileMaker", "putEnd", "(II)V"⟩
abbrev i_FileMaker_putEnd : pb_I := (y_FileMaker_putEnd, prog_4_method_5_code, 4, (Option.none : Option Jvm.ClassFile.FieldType), [], { frames := 3, cells := 0, slots := 0, locals := 63 })
theorem g_Mk_putEnd {l : Launch} (hl : l.stackTraces = false) (G : pb_G) (h : Nat) (mm : Nat) (mr : Nat) (mb : Nat) (f : Nat → Int32) (s : Int32) (n : Int32) (d : Int32) (h0 : 0 ≤ s.toInt) (h1 : s.toInt + 22 ≤ 14006) (h2 : 0 ≤ d.toInt) (h3 : d.toInt ≤ s.toInt) (F_f : sb_Fit f) : Cn l G i_FileMaker_putEnd [.ref h, .int n, .int d] [(h, .inr (6, [.ref mm, .ref mr])), (mm, .inr (0, [.ref mb, .int s])), (mb, .inl (G.2.1, 14006, .inl f))] (S := Int32 × (Nat → Int32)) (fun rv_ u => rv_ = none ∧ (u.1.toInt = s.toInt + 22) ∧ (ap_ f s.toInt u.2 u.1.toInt (fE_ n.toInt (s.toInt - d.toInt) d.toInt)) ∧ (sb_Fit u.2)) (fun u => [(h, .inr (6, [.ref mm, .ref mr])), (mm, .inr (0, [.ref mb, .int u.1])), (mb, .inl (G.2.1, 14006, .inl u.2))]) := sorry
theorem d_FileMaker_putEntry_0 : decode prog_4_method_4_code 0 = .ok (.aload_n 0, 1) := sorry
theorem d_FileMaker_putEntry_1 : decode prog_4_method_4_code 1 = .ok (.getfield 14, 3) := sorry
theorem d_FileMaker_putEntry_4 : decode prog_4_method_4_code 4 = .ok (.ldc 86, 2) := sorry
theorem k_570 : (Jvm.Cond.constant "PackageBook$FileMaker" (86 : Nat) (33639248 : Int32)) ∈ uW := sorry
theorem d_FileMaker_putEntry_6 : decode prog_4_method_4_code 6 = .ok (.invokevirtual 66, 3) := sorry
theorem d_FileMaker_putEntry_9 : decode prog_4_method_4_code 9 = .ok (.aload_n 0, 1) := sorry
theorem d_FileMaker_putEntry_10 : decode prog_4_method_4_code 10 = .ok (.getfield 14, 3) := sorry
theorem d_FileMaker_putEntry_13 : decode prog_4_method_4_code 13 = .ok (.bipush 20, 2) := sorry
theorem d_FileMaker_putEntry_15 : decode prog_4_method_4_code 15 = .ok (.invokevirtual 69, 3) := sorry
theorem d_FileMaker_putEntry_18 : decode prog_4_method_4_code 18 = .ok (.aload_n 0, 1) := sorry
theorem d_FileMaker_putEntry_19 : decode prog_4_method_4_code 19 = .ok (.getfield 14, 3) := sorry
theorem d_FileMaker_putEntry_22 : decode prog_4_method_4_code 22 = .ok (.aload_n 0, 1) := sorry
theorem d_FileMaker_putEntry_23 : decode prog_4_method_4_code 23 = .ok (.getfield 14, 3) := sorry
theorem d_FileMaker_putEntry_26 : decode prog_4_method_4_code 26 = .ok (.getfield 85, 3) := sorry
theorem k_158 : (Jvm.Cond.fieldLinkNest "PackageBook$FileMaker" (85 : Nat) "PackageBook$Row" "bytes" "[B" "PackageBook") ∈ uN := sorry
theorem d_FileMaker_putEntry_29 : decode prog_4_method_4_code 29 = .ok (.aload_n 0, 1) := sorry
theorem d_FileMaker_putEntry_30 : decode prog_4_method_4_code 30 = .ok (.getfield 20, 3) := sorry
theorem d_FileMaker_putEntry_33 : decode prog_4_method_4_code 33 = .ok (.iload_n 2, 1) := sorry
theorem d_FileMaker_putEntry_34 : decode prog_4_method_4_code 34 = .ok (.iaload, 1) := sorry
theorem d_FileMaker_putEntry_35 : decode prog_4_method_4_code 35 = .ok (.iconst 4, 1) := sorry
theorem d_FileMaker_putEntry_36 : decode prog_4_method_4_code 36 = .ok (.iadd, 1) := sorry
theorem d_FileMaker_putEntry_37 : decode prog_4_method_4_code 37 = .ok (.bipush 26, 2) := sorry
theorem d_FileMaker_putEntry_39 : decode prog_4_method_4_code 39 = .ok (.invokevirtual 82, 3) := sorry
theorem k_561 : (Jvm.Cond.methodLink "PackageBook$FileMaker" (82 : Nat) ({ cls := "PackageBook$Row", name := "putBytes", desc := "([BII)V" } : Jvm.MethodName)) ∈ uW := sorry
theorem d_FileMaker_putEntry_42 : decode prog_4_method_4_code 42 = .ok (.aload_n 0, 1) := sorry
theorem d_FileMaker_putEntry_43 : decode prog_4_method_4_code 43 = .ok (.getfield 14, 3) := sorry
theorem d_FileMaker_putEntry_46 : decode prog_4_method_4_code 46 = .ok (.iconst 0, 1) := sorry
theorem d_FileMaker_putEntry_47 : decode prog_4_method_4_code 47 = .ok (.invokevirtual 69, 3) := sorry
theorem d_FileMaker_putEntry_50 : decode prog_4_method_4_code 50 = .ok (.aload_n 0, 1) := sorry
theorem d_FileMaker_putEntry_51 : decode prog_4_method_4_code 51 = .ok (.getfield 14, 3) := sorry
theorem d_FileMaker_putEntry_54 : decode prog_4_method_4_code 54 = .ok (.iconst 0, 1) := sorry
theorem d_FileMaker_putEntry_55 : decode prog_4_method_4_code 55 = .ok (.invokevirtual 69, 3) := sorry
theorem d_FileMaker_putEntry_58 : decode prog_4_method_4_code 58 = .ok (.aload_n 0, 1) := sorry
theorem d_FileMaker_putEntry_59 : decode prog_4_method_4_code 59 = .ok (.getfield 14, 3) := sorry
theorem d_FileMaker_putEntry_62 : decode prog_4_method_4_code 62 = .ok (.iconst 0, 1) := sorry
theorem d_FileMaker_putEntry_63 : decode prog_4_method_4_code 63 = .ok (.invokevirtual 69, 3) := sorry
theorem d_FileMaker_putEntry_66 : decode prog_4_method_4_code 66 = .ok (.aload_n 0, 1) := sorry
theorem d_FileMaker_putEntry_67 : decode prog_4_method_4_code 67 = .ok (.getfield 14, 3) := sorry
theorem d_FileMaker_putEntry_70 : decode prog_4_method_4_code 70 = .ok (.iconst 0, 1) := sorry
theorem d_FileMaker_putEntry_71 : decode prog_4_method_4_code 71 = .ok (.invokevirtual 66, 3) := sorry
theorem d_FileMaker_putEntry_74 : decode prog_4_method_4_code 74 = .ok (.aload_n 0, 1) := sorry
theorem d_FileMaker_putEntry_75 : decode prog_4_method_4_code 75 = .ok (.getfield 14, 3) := sorry
theorem d_FileMaker_putEntry_78 : decode prog_4_method_4_code 78 = .ok (.aload_n 0, 1) := sorry
theorem d_FileMaker_putEntry_79 : decode prog_4_method_4_code 79 = .ok (.getfield 20, 3) := sorry
theorem d_FileMaker_putEntry_82 : decode prog_4_method_4_code 82 = .ok (.iload_n 2, 1) := sorry
theorem d_FileMaker_putEntry_83 : decode prog_4_method_4_code 83 = .ok (.iaload, 1) := sorry
theorem d_FileMaker_putEntry_84 : decode prog_4_method_4_code 84 = .ok (.invokevirtual 66, 3) := sorry
theorem d_FileMaker_putEntry_87 : decode prog_4_method_4_code 87 = .ok (.aload_n 0, 1) := sorry
theorem d_FileMaker_putEntry_88 : decode prog_4_method_4_code 88 = .ok (.getfield 14, 3) := sorry
theorem d_FileMaker_putEntry_91 : decode prog_4_method_4_code 91 = .ok (.aload_n 1, 1) := sorry
theorem d_FileMaker_putEntry_92 : decode prog_4_method_4_code 92 = .ok (.getfield 79, 3) := sorry
theorem k_390 : (Jvm.Cond.fieldLinkNest "PackageBook$FileMaker" (79 : Nat) "PackageBook$Shelf" "names" "[B" "PackageBook") ∈ uN := sorry
theorem d_FileMaker_putEntry_95 : decode prog_4_method_4_code 95 = .ok (.bipush 24, 2) := sorry
theorem d_FileMaker_putEntry_97 : decode prog_4_method_4_code 97 = .ok (.iload_n 2, 1) := sorry
theorem d_FileMaker_putEntry_98 : decode prog_4_method_4_code 98 = .ok (.imul, 1) := sorry
theorem d_FileMaker_putEntry_99 : decode prog_4_method_4_code 99 = .ok (.aload_n 1, 1) := sorry
theorem d_FileMaker_putEntry_100 : decode prog_4_method_4_code 100 = .ok (.getfield 76, 3) := sorry
theorem k_393 : (Jvm.Cond.fieldLinkNest "PackageBook$FileMaker" (76 : Nat) "PackageBook$Shelf" "nameSizes" "[I" "PackageBook") ∈ uN := sorry
theorem d_FileMaker_putEntry_103 : decode prog_4_method_4_code 103 = .ok (.iload_n 2, 1) := sorry
theorem d_FileMaker_putEntry_104 : decode prog_4_method_4_code 104 = .ok (.iaload, 1) := sorry
theorem d_FileMaker_putEntry_105 : decode prog_4_method_4_code 105 = .ok (.invokevirtual 82, 3) := sorry
theorem d_FileMaker_putEntry_108 : decode prog_4_method_4_code 108 = .ok (.return_, 1) := sorry
abbrev y_FileMaker_putEntry : MethodName := ⟨"PackageBook$FileMaker", "putEntry", "(LPackageBook$Shelf;I)V"⟩
abbrev i_FileMaker_putEntry : pb_I := (y_FileMaker_putEntry, prog_4_method_4_code, 3, (Option.none : Option Jvm.ClassFile.FieldType), [], { frames := 3, cells := 0, slots := 0, locals := 83 })
theorem g_Mk_putEntry {l : Launch} (hl : l.stackTraces = false) (G : pb_G) (h : Nat) (mm : Nat) (mr : Nat) (mb : Nat) (f : Nat → Int32) (s : Int32) (fr : Nat → Int32) (sp : Nat) (tn : Nat) (tz : Nat) (tb : Nat) (tg : Nat) (c : Int32) (tfn : Nat → Int32) (tfz : Nat → Int32) (tfg : Nat → Int32) (i : Int32) (V : VW_) (P9 : List Int32) (I : sh_I c.toInt tfz tfg) (h0 : 0 ≤ s.toInt) (h1 : s.toInt + 70 ≤ 14006) (h2 : 0 ≤ i.toInt) (h3 : i.toInt < c.toInt) (h4 : 0 ≤ gx fr i.toInt) (h5 : gx fr i.toInt ≤ 13000) (R : rN_ c.toInt tfn tfz V) (hS : bl_ f (gx fr i.toInt + 4) 26 = sh_ V i.toInt P9) (hS2 : gx fr i.toInt + 30 ≤ s.toInt) (F_f : sb_Fit f) (F_tfn : sb_Fit tfn) : Cn l G i_FileMaker_putEntry [.ref h, .ref sp, .int i] [(h, .inr (6, [.ref mm, .ref mr])), (mm, .inr (0, [.ref mb, .int s])), (mb, .inl (G.2.1, 14006, .inl f)), (mr, .inl (G.2.2.1, 16, .inl fr)), (sp, .inr (3, [.ref tn, .ref tz, .ref tb, .ref tg, .int c])), (tn, .inl (G.2.1, 384, .inl tfn)), (tz, .inl (G.2.2.1, 16, .inl tfz))] (S := Int32 × (Nat → Int32)) (fun rv_ u => rv_ = none ∧ (s.toInt ≤ u.1.toInt) ∧ (u.1.toInt ≤ s.toInt + 70) ∧ (ap_ f s.toInt u.2 u.1.toInt (en_L V i.toInt P9 (gx fr i.toInt))) ∧ (sb_Fit u.2)) (fun u => [(h, .inr (6, [.ref mm, .ref mr])), (mm, .inr (0, [.ref mb, .int u.1])), (mb, .inl (G.2.1, 14006, .inl u.2)), (mr, .inl (G.2.2.1, 16, .inl fr)), (sp, .inr (3, [.ref tn, .ref tz, .ref tb, .ref tg, .int c])), (tn, .inl (G.2.1, 384, .inl tfn)), (tz, .inl (G.2.2.1, 16, .inl tfz))]) := sorry
theorem d_FileMaker_putRecord_0 : decode prog_4_method_3_code 0 = .ok (.aload_n 1, 1) := sorry
theorem d_FileMaker_putRecord_1 : decode prog_4_method_3_code 1 = .ok (.getfield 45, 3) := sorry
theorem k_401 : (Jvm.Cond.fieldLinkNest "PackageBook$FileMaker" (45 : Nat) "PackageBook$Shelf" "begins" "[I" "PackageBook") ∈ uN := sorry
theorem d_FileMaker_putRecord_4 : decode prog_4_method_3_code 4 = .ok (.iload_n 2, 1) := sorry
theorem d_FileMaker_putRecord_5 : decode prog_4_method_3_code 5 = .ok (.iaload, 1) := sorry
theorem d_FileMaker_putRecord_6 : decode prog_4_method_3_code 6 = .ok (.istore 4, 2) := sorry
theorem d_FileMaker_putRecord_8 : decode prog_4_method_3_code 8 = .ok (.aload_n 1, 1) := sorry
theorem d_FileMaker_putRecord_9 : decode prog_4_method_3_code 9 = .ok (.iload_n 2, 1) := sorry
theorem d_FileMaker_putRecord_10 : decode prog_4_method_3_code 10 = .ok (.invokevirtual 48, 3) := sorry
theorem k_497 : (Jvm.Cond.methodLink "PackageBook$FileMaker" (48 : Nat) ({ cls := "PackageBook$Shelf", name := "sizeOf", desc := "(I)I" } : Jvm.MethodName)) ∈ uW := sorry
theorem d_FileMaker_putRecord_13 : decode prog_4_method_3_code 13 = .ok (.istore 5, 2) := sorry
theorem d_FileMaker_putRecord_15 : decode prog_4_method_3_code 15 = .ok (.aload_n 3, 1) := sorry
theorem d_FileMaker_putRecord_16 : decode prog_4_method_3_code 16 = .ok (.aload_n 1, 1) := sorry
theorem d_FileMaker_putRecord_17 : decode prog_4_method_3_code 17 = .ok (.getfield 52, 3) := sorry
theorem k_397 : (Jvm.Cond.fieldLinkNest "PackageBook$FileMaker" (52 : Nat) "PackageBook$Shelf" "bytes" "[B" "PackageBook") ∈ uN := sorry
theorem d_FileMaker_putRecord_20 : decode prog_4_method_3_code 20 = .ok (.iload 4, 2) := sorry
theorem d_FileMaker_putRecord_22 : decode prog_4_method_3_code 22 = .ok (.iload 5, 2) := sorry
theorem d_FileMaker_putRecord_24 : decode prog_4_method_3_code 24 = .ok (.invokevirtual 56, 3) := sorry
theorem k_498 : (Jvm.Cond.methodLink "PackageBook$FileMaker" (56 : Nat) ({ cls := "PackageBook$Presser", name := "run", desc := "([BII)V" } : Jvm.MethodName)) ∈ uW := sorry
theorem k_501 : (Jvm.Cond.code ({ cls := "PackageBook$Presser", name := "run", desc := "([BII)V" } : Jvm.MethodName) prog_8_method_2_code (6 : Nat) (Option.none : Option Jvm.ClassFile.FieldType)) ∈ uW := sorry
theorem k_499 : (Jvm.Cond.instanceMethod ({ cls := "PackageBook$Presser", name := "run", desc := "([BII)V" } : Jvm.MethodName)) ∈ uW := sorry
theorem k_500 : (Jvm.Cond.selects "PackageBook$Presser" ({ cls := "PackageBook$Presser", name := "run", desc := "([BII)V" } : Jvm.MethodName) ({ cls := "PackageBook$Presser", name := "run", desc := "([BII)V" } : Jvm.MethodName)) ∈ uW := sorry
theorem hy_Presser_run : (y_Presser_run).cls ≠ "java/lang/invoke/MethodHandle" ∧ (y_Presser_run).cls ≠ "java/lang/invoke/VarHandle" ∧ (parseMethodDescriptor (y_Presser_run).desc).map (fun d => d.parameters.length) = some 3 := sorry
theorem d_FileMaker_putRecord_27 : decode prog_4_method_3_code 27 = .ok (.aload_n 3, 1) := sorry
theorem d_FileMaker_putRecord_28 : decode prog_4_method_3_code 28 = .ok (.getfield 62, 3) := sorry
theorem k_182 : (Jvm.Cond.fieldLinkNest "PackageBook$FileMaker" (62 : Nat) "PackageBook$Presser" "pressed" "LPackageBook$Row;" "PackageBook") ∈ uN := sorry
theorem d_FileMaker_putRecord_31 : decode prog_4_method_3_code 31 = .ok (.getfield 24, 3) := sorry
theorem d_FileMaker_putRecord_34 : decode prog_4_method_3_code 34 = .ok (.iload 5, 2) := sorry
theorem d_FileMaker_putRecord_36 : decode prog_4_method_3_code 36 = .ok (.if_icmp .ge 7, 3) := sorry
theorem d_FileMaker_putRecord_43 : decode prog_4_method_3_code 43 = .ok (.iconst 0, 1) := sorry
theorem d_FileMaker_putRecord_44 : decode prog_4_method_3_code 44 = .ok (.istore 6, 2) := sorry
theorem d_FileMaker_putRecord_46 : decode prog_4_method_3_code 46 = .ok (.aload_n 0, 1) := sorry
theorem d_FileMaker_putRecord_47 : decode prog_4_method_3_code 47 = .ok (.getfield 14, 3) := sorry
theorem d_FileMaker_putRecord_50 : decode prog_4_method_3_code 50 = .ok (.ldc 65, 2) := sorry
theorem k_543 : (Jvm.Cond.constant "PackageBook$FileMaker" (65 : Nat) (67324752 : Int32)) ∈ uW := sorry
theorem d_FileMaker_putRecord_52 : decode prog_4_method_3_code 52 = .ok (.invokevirtual 66, 3) := sorry
theorem d_FileMaker_putRecord_55 : decode prog_4_method_3_code 55 = .ok (.aload_n 0, 1) := sorry
theorem d_FileMaker_putRecord_56 : decode prog_4_method_3_code 56 = .ok (.getfield 14, 3) := sorry
theorem d_FileMaker_putRecord_59 : decode prog_4_method_3_code 59 = .ok (.bipush 20, 2) := sorry
theorem d_FileMaker_putRecord_61 : decode prog_4_method_3_code 61 = .ok (.invokevirtual 69, 3) := sorry
theorem d_FileMaker_putRecord_64 : decode prog_4_method_3_code 64 = .ok (.aload_n 0, 1) := sorry
theorem d_FileMaker_putRecord_65 : decode prog_4_method_3_code 65 = .ok (.getfield 14, 3) := sorry
theorem d_FileMaker_putRecord_68 : decode prog_4_method_3_code 68 = .ok (.iconst 0, 1) := sorry
theorem d_FileMaker_putRecord_69 : decode prog_4_method_3_code 69 = .ok (.invokevirtual 69, 3) := sorry
theorem d_FileMaker_putRecord_72 : decode prog_4_method_3_code 72 = .ok (.aload_n 0, 1) := sorry
theorem d_FileMaker_putRecord_73 : decode prog_4_method_3_code 73 = .ok (.getfield 14, 3) := sorry
theorem d_FileMaker_putRecord_76 : decode prog_4_method_3_code 76 = .ok (.iload 6, 2) := sorry
theorem d_FileMaker_putRecord_78 : decode prog_4_method_3_code 78 = .ok (.ifCond .eq 8, 3) := sorry
theorem d_FileMaker_putRecord_86 : decode prog_4_method_3_code 86 = .ok (.iconst 0, 1) := sorry
theorem d_FileMaker_putRecord_87 : decode prog_4_method_3_code 87 = .ok (.invokevirtual 69, 3) := sorry
theorem d_FileMaker_putRecord_90 : decode prog_4_method_3_code 90 = .ok (.aload_n 0, 1) := sorry
theorem d_FileMaker_putRecord_91 : decode prog_4_method_3_code 91 = .ok (.getfield 14, 3) := sorry
theorem d_FileMaker_putRecord_94 : decode prog_4_method_3_code 94 = .ok (.iconst 0, 1) := sorry
theorem d_FileMaker_putRecord_95 : decode prog_4_method_3_code 95 = .ok (.invokevirtual 69, 3) := sorry
theorem d_FileMaker_putRecord_98 : decode prog_4_method_3_code 98 = .ok (.aload_n 0, 1) := sorry
theorem d_FileMaker_putRecord_99 : decode prog_4_method_3_code 99 = .ok (.getfield 14, 3) := sorry
theorem d_FileMaker_putRecord_102 : decode prog_4_method_3_code 102 = .ok (.bipush 33, 2) := sorry
theorem d_FileMaker_putRecord_104 : decode prog_4_method_3_code 104 = .ok (.invokevirtual 69, 3) := sorry
theorem d_FileMaker_putRecord_107 : decode prog_4_method_3_code 107 = .ok (.aload_n 0, 1) := sorry
theorem d_FileMaker_putRecord_108 : decode prog_4_method_3_code 108 = .ok (.getfield 14, 3) := sorry
theorem d_FileMaker_putRecord_111 : decode prog_4_method_3_code 111 = .ok (.aload_n 1, 1) := sorry
theorem d_FileMaker_putRecord_112 : decode prog_4_method_3_code 112 = .ok (.getfield 52, 3) := sorry
theorem d_FileMaker_putRecord_115 : decode prog_4_method_3_code 115 = .ok (.iload 4, 2) := sorry
theorem d_FileMaker_putRecord_117 : decode prog_4_method_3_code 117 = .ok (.iload 5, 2) := sorry
theorem d_FileMaker_putRecord_119 : decode prog_4_method_3_code 119 = .ok (.invokestatic 72, 3) := sorry
theorem k_557 : (Jvm.Cond.methodLinkNest "PackageBook$FileMaker" (72 : Nat) ({ cls := "PackageBook", name := "sumOf", desc := "([BII)I" } : Jvm.MethodName) "PackageBook") ∈ uN := sorry
theorem k_559 : (Jvm.Cond.code ({ cls := "PackageBook", name := "sumOf", desc := "([BII)I" } : Jvm.MethodName) prog_1_method_29_code (7 : Nat) (Option.some Jvm.ClassFile.FieldType.int)) ∈ uW := sorry
theorem k_558 : (Jvm.Cond.static ({ cls := "PackageBook", name := "sumOf", desc := "([BII)I" } : Jvm.MethodName)) ∈ uW := sorry
theorem hy_Book_sumOf : (y_Book_sumOf).cls ≠ "java/lang/invoke/MethodHandle" ∧ (y_Book_sumOf).cls ≠ "java/lang/invoke/VarHandle" ∧ (parseMethodDescriptor (y_Book_sumOf).desc).map (fun d => d.parameters.length) = some 3 := sorry
theorem d_FileMaker_putRecord_122 : decode prog_4_method_3_code 122 = .ok (.invokevirtual 66, 3) := sorry
theorem d_FileMaker_putRecord_125 : decode prog_4_method_3_code 125 = .ok (.aload_n 0, 1) := sorry
theorem d_FileMaker_putRecord_126 : decode prog_4_method_3_code 126 = .ok (.getfield 14, 3) := sorry
theorem d_FileMaker_putRecord_129 : decode prog_4_method_3_code 129 = .ok (.iload 6, 2) := sorry
theorem d_FileMaker_putRecord_131 : decode prog_4_method_3_code 131 = .ok (.ifCond .eq 13, 3) := sorry
theorem d_FileMaker_putRecord_144 : decode prog_4_method_3_code 144 = .ok (.iload 5, 2) := sorry
theorem d_FileMaker_putRecord_146 : decode prog_4_method_3_code 146 = .ok (.invokevirtual 66, 3) := sorry
theorem d_FileMaker_putRecord_149 : decode prog_4_method_3_code 149 = .ok (.aload_n 0, 1) := sorry
theorem d_FileMaker_putRecord_150 : decode prog_4_method_3_code 150 = .ok (.getfield 14, 3) := sorry
theorem d_FileMaker_putRecord_153 : decode prog_4_method_3_code 153 = .ok (.iload 5, 2) := sorry
theorem d_FileMaker_putRecord_155 : decode prog_4_method_3_code 155 = .ok (.invokevirtual 66, 3) := sorry
theorem d_FileMaker_putRecord_158 : decode prog_4_method_3_code 158 = .ok (.aload_n 0, 1) := sorry
theorem d_FileMaker_putRecord_159 : decode prog_4_method_3_code 159 = .ok (.getfield 14, 3) := sorry
theorem d_FileMaker_putRecord_162 : decode prog_4_method_3_code 162 = .ok (.aload_n 1, 1) := sorry
theorem d_FileMaker_putRecord_163 : decode prog_4_method_3_code 163 = .ok (.getfield 76, 3) := sorry
theorem d_FileMaker_putRecord_166 : decode prog_4_method_3_code 166 = .ok (.iload_n 2, 1) := sorry
theorem d_FileMaker_putRecord_167 : decode prog_4_method_3_code 167 = .ok (.iaload, 1) := sorry
theorem d_FileMaker_putRecord_168 : decode prog_4_method_3_code 168 = .ok (.invokevirtual 69, 3) := sorry
theorem d_FileMaker_putRecord_171 : decode prog_4_method_3_code 171 = .ok (.aload_n 0, 1) := sorry
theorem d_FileMaker_putRecord_172 : decode prog_4_method_3_code 172 = .ok (.getfield 14, 3) := sorry
theorem d_FileMaker_putRecord_175 : decode prog_4_method_3_code 175 = .ok (.iconst 0, 1) := sorry
theorem d_FileMaker_putRecord_176 : decode prog_4_method_3_code 176 = .ok (.invokevirtual 69, 3) := sorry
theorem d_FileMaker_putRecord_179 : decode prog_4_method_3_code 179 = .ok (.aload_n 0, 1) := sorry
theorem d_FileMaker_putRecord_180 : decode prog_4_method_3_code 180 = .ok (.getfield 14, 3) := sorry
theorem d_FileMaker_putRecord_183 : decode prog_4_method_3_code 183 = .ok (.aload_n 1, 1) := sorry
theorem d_FileMaker_putRecord_184 : decode prog_4_method_3_code 184 = .ok (.getfield 79, 3) := sorry
theorem d_FileMaker_putRecord_187 : decode prog_4_method_3_code 187 = .ok (.bipush 24, 2) := sorry
theorem d_FileMaker_putRecord_189 : decode prog_4_method_3_code 189 = .ok (.iload_n 2, 1) := sorry
theorem d_FileMaker_putRecord_190 : decode prog_4_method_3_code 190 = .ok (.imul, 1) := sorry
theorem d_FileMaker_putRecord_191 : decode prog_4_method_3_code 191 = .ok (.aload_n 1, 1) := sorry
theorem d_FileMaker_putRecord_192 : decode prog_4_method_3_code 192 = .ok (.getfield 76, 3) := sorry
theorem d_FileMaker_putRecord_195 : decode prog_4_method_3_code 195 = .ok (.iload_n 2, 1) := sorry
theorem d_FileMaker_putRecord_196 : decode prog_4_method_3_code 196 = .ok (.iaload, 1) := sorry
theorem d_FileMaker_putRecord_197 : decode prog_4_method_3_code 197 = .ok (.invokevirtual 82, 3) := sorry
theorem d_FileMaker_putRecord_200 : decode prog_4_method_3_code 200 = .ok (.iload 6, 2) := sorry
theorem d_FileMaker_putRecord_202 : decode prog_4_method_3_code 202 = .ok (.ifCond .eq 28, 3) := sorry
theorem d_FileMaker_putRecord_230 : decode prog_4_method_3_code 230 = .ok (.aload_n 0, 1) := sorry
theorem d_FileMaker_putRecord_231 : decode prog_4_method_3_code 231 = .ok (.getfield 14, 3) := sorry
theorem d_FileMaker_putRecord_234 : decode prog_4_method_3_code 234 = .ok (.aload_n 1, 1) := sorry
theorem d_FileMaker_putRecord_235 : decode prog_4_method_3_code 235 = .ok (.getfield 52, 3) := sorry
theorem d_FileMaker_putRecord_238 : decode prog_4_method_3_code 238 = .ok (.iload 4, 2) := sorry
theorem d_FileMaker_putRecord_240 : decode prog_4_method_3_code 240 = .ok (.iload 5, 2) := sorry
theorem d_FileMaker_putRecord_242 : decode prog_4_method_3_code 242 = .ok (.invokevirtual 82, 3) := sorry
theorem d_FileMaker_putRecord_245 : decode prog_4_method_3_code 245 = .ok (.return_, 1) := sorry
theorem d_FileMaker_putRecord_39 : decode prog_4_method_3_code 39 = .ok (.iconst 1, 1) := sorry
theorem d_FileMaker_putRecord_40 : decode prog_4_method_3_code 40 = .ok (.goto 4, 3) := sorry
theorem d_FileMaker_putRecord_81 : decode prog_4_method_3_code 81 = .ok (.bipush 8, 2) := sorry
theorem d_FileMaker_putRecord_83 : decode prog_4_method_3_code 83 = .ok (.goto 4, 3) := sorry
theorem d_FileMaker_putRecord_134 : decode prog_4_method_3_code 134 = .ok (.aload_n 3, 1) := sorry
theorem d_FileMaker_putRecord_135 : decode prog_4_method_3_code 135 = .ok (.getfield 62, 3) := sorry
theorem d_FileMaker_putRecord_138 : decode prog_4_method_3_code 138 = .ok (.getfield 24, 3) := sorry
theorem d_FileMaker_putRecord_141 : decode prog_4_method_3_code 141 = .ok (.goto 5, 3) := sorry
theorem d_FileMaker_putRecord_205 : decode prog_4_method_3_code 205 = .ok (.aload_n 0, 1) := sorry
theorem d_FileMaker_putRecord_206 : decode prog_4_method_3_code 206 = .ok (.getfield 14, 3) := sorry
theorem d_FileMaker_putRecord_209 : decode prog_4_method_3_code 209 = .ok (.aload_n 3, 1) := sorry
theorem d_FileMaker_putRecord_210 : decode prog_4_method_3_code 210 = .ok (.getfield 62, 3) := sorry
theorem d_FileMaker_putRecord_213 : decode prog_4_method_3_code 213 = .ok (.getfield 85, 3) := sorry
theorem d_FileMaker_putRecord_216 : decode prog_4_method_3_code 216 = .ok (.iconst 0, 1) := sorry
theorem d_FileMaker_putRecord_217 : decode prog_4_method_3_code 217 = .ok (.aload_n 3, 1) := sorry
theorem d_FileMaker_putRecord_218 : decode prog_4_method_3_code 218 = .ok (.getfield 62, 3) := sorry
theorem d_FileMaker_putRecord_221 : decode prog_4_method_3_code 221 = .ok (.getfield 24, 3) := sorry
theorem d_FileMaker_putRecord_224 : decode prog_4_method_3_code 224 = .ok (.invokevirtual 82, 3) := sorry
theorem d_FileMaker_putRecord_227 : decode prog_4_method_3_code 227 = .ok (.goto 18, 3) := sorry
abbrev y_FileMaker_putRecord : MethodName := ⟨"PackageBook$FileMaker", "putRecord", "(LPackageBook$Shelf;ILPackageBook$Presser;)V"⟩
abbrev i_FileMaker_putRecord : pb_I := (y_FileMaker_putRecord, prog_4_method_3_code, 7, (Option.none : Option Jvm.ClassFile.FieldType), [], { frames := 4, cells := 0, slots := 0, locals := 91 })
theorem g_Mk_putRecord {l : Launch} (hl : l.stackTraces = false) (G : pb_G) (h : Nat) (mm : Nat) (mr : Nat) (mb : Nat) (f : Nat → Int32) (s : Int32) (sp : Nat) (tn : Nat) (tz : Nat) (tb : Nat) (tg : Nat) (c : Int32) (tfn : Nat → Int32) (tfz : Nat → Int32) (tfb : Nat → Int32) (tfg : Nat → Int32) (q : Nat) (pp : Nat) (pl : Nat) (pe : Nat) (pr : Nat) (pb : Nat) (bg : Int32) (sz : Int32) (bt : Int32) (ln : Int32) (ds : Int32) (ps : Int32) (pf : Nat → Int32) (fl : Nat → Int32) (fe : Nat → Int32) (i : Int32) (V : VW_) (I : sh_I c.toInt tfz tfg) (h0 : 0 ≤ s.toInt) (h1 : s.toInt + 54 + (gx tfg (i.toInt + 1) - gx tfg i.toInt) ≤ 14006) (h2 : 0 ≤ i.toInt) (h3 : i.toInt < c.toInt) (R : rC_ c.toInt tfn tfz tfb tfg V) (F_f : sb_Fit f) (F_tfn : sb_Fit tfn) (F_tfb : sb_Fit tfb) (F_pf : sb_Fit pf) : Cn l G i_FileMaker_putRecord [.ref h, .ref sp, .int i, .ref q] [(h, .inr (6, [.ref mm, .ref mr])), (mm, .inr (0, [.ref mb, .int s])), (mb, .inl (G.2.1, 14006, .inl f)), (sp, .inr (3, [.ref tn, .ref tz, .ref tb, .ref tg, .int c])), (tn, .inl (G.2.1, 384, .inl tfn)), (tz, .inl (G.2.2.1, 16, .inl tfz)), (tb, .inl (G.2.1, 12000, .inl tfb)), (tg, .inl (G.2.2.1, 17, .inl tfg)), (q, .inr (4, [.ref pp, .ref pl, .ref pe, .ref pr, .int bg, .int sz, .int bt, .int ln, .int ds])), (pp, .inr (0, [.ref pb, .int ps])), (pb, .inl (G.2.1, 4502, .inl pf)), (pl, .inl (G.2.2.1, 1024, .inl fl)), (pe, .inl (G.2.2.1, 4000, .inl fe))] (S := Int32 × (Nat → Int32) × Nat × Int32 × Int32 × Int32 × Int32 × Int32 × Int32 × (Nat → Int32) × (Nat → Int32) × (Nat → Int32)) (fun rv_ u => rv_ = none ∧ (s.toInt ≤ u.1.toInt) ∧ (u.1.toInt ≤ s.toInt + 54 + (gx tfg (i.toInt + 1) - gx tfg i.toInt)) ∧ (hid_ (∃ P : List Int32, PR_ (sD_ V i.toInt) (vS V i.toInt) P ∧ ap_ f s.toInt u.2.1 u.1.toInt (rc_ V i.toInt P))) ∧ (sb_Fit u.2.1) ∧ (sb_Fit u.2.2.2.2.2.2.2.2.2.1)) (fun u => [(h, .inr (6, [.ref mm, .ref mr])), (mm, .inr (0, [.ref mb, .int u.1])), (mb, .inl (G.2.1, 14006, .inl u.2.1)), (sp, .inr (3, [.ref tn, .ref tz, .ref tb, .ref tg, .int c])), (tn, .inl (G.2.1, 384, .inl tfn)), (tz, .inl (G.2.2.1, 16, .inl tfz)), (tb, .inl (G.2.1, 12000, .inl tfb)), (tg, .inl (G.2.2.1, 17, .inl tfg)), (q, .inr (4, [.ref pp, .ref pl, .ref pe, .ref u.2.2.1, .int u.2.2.2.1, .int u.2.2.2.2.1, .int u.2.2.2.2.2.1, .int u.2.2.2.2.2.2.1, .int u.2.2.2.2.2.2.2.1])), (pp, .inr (0, [.ref pb, .int u.2.2.2.2.2.2.2.2.1])), (pb, .inl (G.2.1, 4502, .inl u.2.2.2.2.2.2.2.2.2.1)), (pl, .inl (G.2.2.1, 1024, .inl u.2.2.2.2.2.2.2.2.2.2.1)), (pe, .inl (G.2.2.1, 4000, .inl u.2.2.2.2.2.2.2.2.2.2.2))]) := sorry
theorem d_FileMaker_make_0 : decode prog_4_method_2_code 0 = .ok (.aload_n 0, 1) := sorry
theorem d_FileMaker_make_1 : decode prog_4_method_2_code 1 = .ok (.getfield 14, 3) := sorry
theorem d_FileMaker_make_4 : decode prog_4_method_2_code 4 = .ok (.iconst 0, 1) := sorry
theorem d_FileMaker_make_5 : decode prog_4_method_2_code 5 = .ok (.putfield 24, 3) := sorry
theorem d_FileMaker_make_8 : decode prog_4_method_2_code 8 = .ok (.iconst 0, 1) := sorry
theorem d_FileMaker_make_9 : decode prog_4_method_2_code 9 = .ok (.istore_n 3, 1) := sorry
theorem d_FileMaker_make_10 : decode prog_4_method_2_code 10 = .ok (.iload_n 3, 1) := sorry
theorem d_FileMaker_make_11 : decode prog_4_method_2_code 11 = .ok (.aload_n 1, 1) := sorry
theorem d_FileMaker_make_12 : decode prog_4_method_2_code 12 = .ok (.getfield 28, 3) := sorry
theorem k_404 : (Jvm.Cond.fieldLinkNest "PackageBook$FileMaker" (28 : Nat) "PackageBook$Shelf" "count" "I" "PackageBook") ∈ uN := sorry
theorem d_FileMaker_make_15 : decode prog_4_method_2_code 15 = .ok (.if_icmp .ge 29, 3) := sorry
theorem d_FileMaker_make_44 : decode prog_4_method_2_code 44 = .ok (.aload_n 0, 1) := sorry
theorem d_FileMaker_make_45 : decode prog_4_method_2_code 45 = .ok (.getfield 14, 3) := sorry
theorem d_FileMaker_make_48 : decode prog_4_method_2_code 48 = .ok (.getfield 24, 3) := sorry
theorem d_FileMaker_make_51 : decode prog_4_method_2_code 51 = .ok (.istore_n 3, 1) := sorry
theorem d_FileMaker_make_52 : decode prog_4_method_2_code 52 = .ok (.iconst 0, 1) := sorry
theorem d_FileMaker_make_53 : decode prog_4_method_2_code 53 = .ok (.istore 4, 2) := sorry
theorem d_FileMaker_make_55 : decode prog_4_method_2_code 55 = .ok (.iload 4, 2) := sorry
theorem d_FileMaker_make_57 : decode prog_4_method_2_code 57 = .ok (.aload_n 1, 1) := sorry
theorem d_FileMaker_make_58 : decode prog_4_method_2_code 58 = .ok (.getfield 28, 3) := sorry
theorem d_FileMaker_make_61 : decode prog_4_method_2_code 61 = .ok (.if_icmp .ge 16, 3) := sorry
theorem d_FileMaker_make_77 : decode prog_4_method_2_code 77 = .ok (.aload_n 0, 1) := sorry
theorem d_FileMaker_make_78 : decode prog_4_method_2_code 78 = .ok (.aload_n 1, 1) := sorry
theorem d_FileMaker_make_79 : decode prog_4_method_2_code 79 = .ok (.getfield 28, 3) := sorry
theorem d_FileMaker_make_82 : decode prog_4_method_2_code 82 = .ok (.iload_n 3, 1) := sorry
theorem d_FileMaker_make_83 : decode prog_4_method_2_code 83 = .ok (.invokevirtual 41, 3) := sorry
theorem k_571 : (Jvm.Cond.methodLink "PackageBook$FileMaker" (41 : Nat) ({ cls := "PackageBook$FileMaker", name := "putEnd", desc := "(II)V" } : Jvm.MethodName)) ∈ uW := sorry
theorem k_123 : (Jvm.Cond.initialized "PackageBook$FileMaker") ∈ uW := sorry
theorem k_574 : (Jvm.Cond.code ({ cls := "PackageBook$FileMaker", name := "putEnd", desc := "(II)V" } : Jvm.MethodName) prog_4_method_5_code (4 : Nat) (Option.none : Option Jvm.ClassFile.FieldType)) ∈ uW := sorry
theorem k_573 : (Jvm.Cond.instanceMethod ({ cls := "PackageBook$FileMaker", name := "putEnd", desc := "(II)V" } : Jvm.MethodName)) ∈ uW := sorry
theorem k_11 : Cond.selects "PackageBook$FileMaker" ⟨"PackageBook$FileMaker", "putEnd", "(II)V"⟩ ⟨"PackageBook$FileMaker", "putEnd", "(II)V"⟩ ∈ uW := sorry
theorem hy_FileMaker_putEnd : (y_FileMaker_putEnd).cls ≠ "java/lang/invoke/MethodHandle" ∧ (y_FileMaker_putEnd).cls ≠ "java/lang/invoke/VarHandle" ∧ (parseMethodDescriptor (y_FileMaker_putEnd).desc).map (fun d => d.parameters.length) = some 2 := sorry
theorem d_FileMaker_make_86 : decode prog_4_method_2_code 86 = .ok (.return_, 1) := sorry
theorem d_FileMaker_make_64 : decode prog_4_method_2_code 64 = .ok (.aload_n 0, 1) := sorry
theorem d_FileMaker_make_65 : decode prog_4_method_2_code 65 = .ok (.aload_n 1, 1) := sorry
theorem d_FileMaker_make_66 : decode prog_4_method_2_code 66 = .ok (.iload 4, 2) := sorry
theorem d_FileMaker_make_68 : decode prog_4_method_2_code 68 = .ok (.invokevirtual 37, 3) := sorry
theorem k_566 : (Jvm.Cond.methodLink "PackageBook$FileMaker" (37 : Nat) ({ cls := "PackageBook$FileMaker", name := "putEntry", desc := "(LPackageBook$Shelf;I)V" } : Jvm.MethodName)) ∈ uW := sorry
theorem k_569 : (Jvm.Cond.code ({ cls := "PackageBook$FileMaker", name := "putEntry", desc := "(LPackageBook$Shelf;I)V" } : Jvm.MethodName) prog_4_method_4_code (3 : Nat) (Option.none : Option Jvm.ClassFile.FieldType)) ∈ uW := sorry
theorem k_568 : (Jvm.Cond.instanceMethod ({ cls := "PackageBook$FileMaker", name := "putEntry", desc := "(LPackageBook$Shelf;I)V" } : Jvm.MethodName)) ∈ uW := sorry
theorem k_10 : Cond.selects "PackageBook$FileMaker" ⟨"PackageBook$FileMaker", "putEntry", "(LPackageBook$Shelf;I)V"⟩ ⟨"PackageBook$FileMaker", "putEntry", "(LPackageBook$Shelf;I)V"⟩ ∈ uW := sorry
theorem hy_FileMaker_putEntry : (y_FileMaker_putEntry).cls ≠ "java/lang/invoke/MethodHandle" ∧ (y_FileMaker_putEntry).cls ≠ "java/lang/invoke/VarHandle" ∧ (parseMethodDescriptor (y_FileMaker_putEntry).desc).map (fun d => d.parameters.length) = some 2 := sorry
theorem d_FileMaker_make_71 : decode prog_4_method_2_code 71 = .ok (.iinc 4 1, 3) := sorry
theorem d_FileMaker_make_74 : decode prog_4_method_2_code 74 = .ok (.goto (-19), 3) := sorry
theorem d_FileMaker_make_18 : decode prog_4_method_2_code 18 = .ok (.aload_n 0, 1) := sorry
theorem d_FileMaker_make_19 : decode prog_4_method_2_code 19 = .ok (.getfield 20, 3) := sorry
theorem d_FileMaker_make_22 : decode prog_4_method_2_code 22 = .ok (.iload_n 3, 1) := sorry
theorem d_FileMaker_make_23 : decode prog_4_method_2_code 23 = .ok (.aload_n 0, 1) := sorry
theorem d_FileMaker_make_24 : decode prog_4_method_2_code 24 = .ok (.getfield 14, 3) := sorry
theorem d_FileMaker_make_27 : decode prog_4_method_2_code 27 = .ok (.getfield 24, 3) := sorry
theorem d_FileMaker_make_30 : decode prog_4_method_2_code 30 = .ok (.iastore, 1) := sorry
theorem d_FileMaker_make_31 : decode prog_4_method_2_code 31 = .ok (.aload_n 0, 1) := sorry
theorem d_FileMaker_make_32 : decode prog_4_method_2_code 32 = .ok (.aload_n 1, 1) := sorry
theorem d_FileMaker_make_33 : decode prog_4_method_2_code 33 = .ok (.iload_n 3, 1) := sorry
theorem d_FileMaker_make_34 : decode prog_4_method_2_code 34 = .ok (.aload_n 2, 1) := sorry
theorem d_FileMaker_make_35 : decode prog_4_method_2_code 35 = .ok (.invokevirtual 33, 3) := sorry
theorem k_493 : (Jvm.Cond.methodLink "PackageBook$FileMaker" (33 : Nat) ({ cls := "PackageBook$FileMaker", name := "putRecord", desc := "(LPackageBook$Shelf;ILPackageBook$Presser;)V" } : Jvm.MethodName)) ∈ uW := sorry
theorem k_496 : (Jvm.Cond.code ({ cls := "PackageBook$FileMaker", name := "putRecord", desc := "(LPackageBook$Shelf;ILPackageBook$Presser;)V" } : Jvm.MethodName) prog_4_method_3_code (7 : Nat) (Option.none : Option Jvm.ClassFile.FieldType)) ∈ uW := sorry
theorem k_495 : (Jvm.Cond.instanceMethod ({ cls := "PackageBook$FileMaker", name := "putRecord", desc := "(LPackageBook$Shelf;ILPackageBook$Presser;)V" } : Jvm.MethodName)) ∈ uW := sorry
theorem k_1 : Cond.selects "PackageBook$FileMaker" ⟨"PackageBook$FileMaker", "putRecord", "(LPackageBook$Shelf;ILPackageBook$Presser;)V"⟩ ⟨"PackageBook$FileMaker", "putRecord", "(LPackageBook$Shelf;ILPackageBook$Presser;)V"⟩ ∈ uW := sorry
theorem hy_FileMaker_putRecord : (y_FileMaker_putRecord).cls ≠ "java/lang/invoke/MethodHandle" ∧ (y_FileMaker_putRecord).cls ≠ "java/lang/invoke/VarHandle" ∧ (parseMethodDescriptor (y_FileMaker_putRecord).desc).map (fun d => d.parameters.length) = some 3 := sorry
theorem d_FileMaker_make_38 : decode prog_4_method_2_code 38 = .ok (.iinc 3 1, 3) := sorry
theorem d_FileMaker_make_41 : decode prog_4_method_2_code 41 = .ok (.goto (-31), 3) := sorry
abbrev y_FileMaker_make : MethodName := ⟨"PackageBook$FileMaker", "make", "(LPackageBook$Shelf;LPackageBook$Presser;)V"⟩
abbrev i_FileMaker_make : pb_I := (y_FileMaker_make, prog_4_method_2_code, 5, (Option.none : Option Jvm.ClassFile.FieldType), [], { frames := 5, cells := 0, slots := 0, locals := 117 })
theorem g_Mk_make {l : Launch} (hl : l.stackTraces = false) (G : pb_G) (h : Nat) (mm : Nat) (mr : Nat) (mb : Nat) (f : Nat → Int32) (s : Int32) (fr : Nat → Int32) (sp : Nat) (tn : Nat) (tz : Nat) (tb : Nat) (tg : Nat) (c : Int32) (tfn : Nat → Int32) (tfz : Nat → Int32) (tfb : Nat → Int32) (tfg : Nat → Int32) (q : Nat) (pp : Nat) (pl : Nat) (pe : Nat) (pr : Nat) (pb : Nat) (bg : Int32) (sz : Int32) (bt : Int32) (ln : Int32) (ds : Int32) (ps : Int32) (pf : Nat → Int32) (fl : Nat → Int32) (fe : Nat → Int32) (V : VW_) (I : sh_I c.toInt tfz tfg) (R : rC_ c.toInt tfn tfz tfb tfg V) (F_f : sb_Fit f) (F_tfn : sb_Fit tfn) (F_tfb : sb_Fit tfb) (F_pf : sb_Fit pf) : Cn l G i_FileMaker_make [.ref h, .ref sp, .ref q] [(h, .inr (6, [.ref mm, .ref mr])), (mm, .inr (0, [.ref mb, .int s])), (mb, .inl (G.2.1, 14006, .inl f)), (mr, .inl (G.2.2.1, 16, .inl fr)), (sp, .inr (3, [.ref tn, .ref tz, .ref tb, .ref tg, .int c])), (tn, .inl (G.2.1, 384, .inl tfn)), (tz, .inl (G.2.2.1, 16, .inl tfz)), (tb, .inl (G.2.1, 12000, .inl tfb)), (tg, .inl (G.2.2.1, 17, .inl tfg)), (q, .inr (4, [.ref pp, .ref pl, .ref pe, .ref pr, .int bg, .int sz, .int bt, .int ln, .int ds])), (pp, .inr (0, [.ref pb, .int ps])), (pb, .inl (G.2.1, 4502, .inl pf)), (pl, .inl (G.2.2.1, 1024, .inl fl)), (pe, .inl (G.2.2.1, 4000, .inl fe))] (S := Int32 × (Nat → Int32) × (Nat → Int32) × Nat × Int32 × Int32 × Int32 × Int32 × Int32 × Int32 × (Nat → Int32) × (Nat → Int32) × (Nat → Int32)) (fun rv_ u => rv_ = none ∧ (0 ≤ u.1.toInt) ∧ (u.1.toInt ≤ 14006) ∧ (hid_ (∃ K : List Int32, FI_ V K ∧ fw_ u.2.1 u.1.toInt K)) ∧ (sb_Fit u.2.1) ∧ (sb_Fit u.2.2.2.2.2.2.2.2.2.2.1)) (fun u => [(h, .inr (6, [.ref mm, .ref mr])), (mm, .inr (0, [.ref mb, .int u.1])), (mb, .inl (G.2.1, 14006, .inl u.2.1)), (mr, .inl (G.2.2.1, 16, .inl u.2.2.1)), (sp, .inr (3, [.ref tn, .ref tz, .ref tb, .ref tg, .int c])), (tn, .inl (G.2.1, 384, .inl tfn)), (tz, .inl (G.2.2.1, 16, .inl tfz)), (tb, .inl (G.2.1, 12000, .inl tfb)), (tg, .inl (G.2.2.1, 17, .inl tfg)), (q, .inr (4, [.ref pp, .ref pl, .ref pe, .ref u.2.2.2.1, .int u.2.2.2.2.1, .int u.2.2.2.2.2.1, .int u.2.2.2.2.2.2.1, .int u.2.2.2.2.2.2.2.1, .int u.2.2.2.2.2.2.2.2.1])), (pp, .inr (0, [.ref pb, .int u.2.2.2.2.2.2.2.2.2.1])), (pb, .inl (G.2.1, 4502, .inl u.2.2.2.2.2.2.2.2.2.2.1)), (pl, .inl (G.2.2.1, 1024, .inl u.2.2.2.2.2.2.2.2.2.2.2.1)), (pe, .inl (G.2.2.1, 4000, .inl u.2.2.2.2.2.2.2.2.2.2.2.2))]) := sorry
