theorem uN_c0 {w : Cond} (i : Nat) (h : tables_1_1[i]? = some w) (hg : pb_isN w = true) : w ∈ uN := List.mem_filter.mpr ⟨show w ∈ k2_sels lw_privs ++ tables_1 from List.mem_append_right _ (show w ∈ tables_1_1 ++ (tables_1_2 ++ (tables_1_3 ++ (tables_1_4 ++ (tables_1_5 ++ (tables_1_6 ++ tables_1_7))))) from List.mem_append_left _ (List.mem_of_getElem? h)), hg⟩
theorem uN_c1 {w : Cond} (i : Nat) (h : tables_1_2[i]? = some w) (hg : pb_isN w = true) : w ∈ uN := List.mem_filter.mpr ⟨show w ∈ k2_sels lw_privs ++ tables_1 from List.mem_append_right _ (show w ∈ tables_1_1 ++ (tables_1_2 ++ (tables_1_3 ++ (tables_1_4 ++ (tables_1_5 ++ (tables_1_6 ++ tables_1_7))))) from List.mem_append_right _ (List.mem_append_left _ (List.mem_of_getElem? h))), hg⟩
theorem uN_c2 {w : Cond} (i : Nat) (h : tables_1_3[i]? = some w) (hg : pb_isN w = true) : w ∈ uN := List.mem_filter.mpr ⟨show w ∈ k2_sels lw_privs ++ tables_1 from List.mem_append_right _ (show w ∈ tables_1_1 ++ (tables_1_2 ++ (tables_1_3 ++ (tables_1_4 ++ (tables_1_5 ++ (tables_1_6 ++ tables_1_7))))) from List.mem_append_right _ (List.mem_append_right _ (List.mem_append_left _ (List.mem_of_getElem? h)))), hg⟩
theorem uN_c3 {w : Cond} (i : Nat) (h : tables_1_4[i]? = some w) (hg : pb_isN w = true) : w ∈ uN := List.mem_filter.mpr ⟨show w ∈ k2_sels lw_privs ++ tables_1 from List.mem_append_right _ (show w ∈ tables_1_1 ++ (tables_1_2 ++ (tables_1_3 ++ (tables_1_4 ++ (tables_1_5 ++ (tables_1_6 ++ tables_1_7))))) from List.mem_append_right _ (List.mem_append_right _ (List.mem_append_right _ (List.mem_append_left _ (List.mem_of_getElem? h))))), hg⟩
theorem uN_c4 {w : Cond} (i : Nat) (h : tables_1_5[i]? = some w) (hg : pb_isN w = true) : w ∈ uN := List.mem_filter.mpr ⟨show w ∈ k2_sels lw_privs ++ tables_1 from List.mem_append_right _ (show w ∈ tables_1_1 ++ (tables_1_2 ++ (tables_1_3 ++ (tables_1_4 ++ (tables_1_5 ++ (tables_1_6 ++ tables_1_7))))) from List.mem_append_right _ (List.mem_append_right _ (List.mem_append_right _ (List.mem_append_right _ (List.mem_append_left _ (List.mem_of_getElem? h)))))), hg⟩
theorem uN_c5 {w : Cond} (i : Nat) (h : tables_1_6[i]? = some w) (hg : pb_isN w = true) : w ∈ uN := List.mem_filter.mpr ⟨show w ∈ k2_sels lw_privs ++ tables_1 from List.mem_append_right _ (show w ∈ tables_1_1 ++ (tables_1_2 ++ (tables_1_3 ++ (tables_1_4 ++ (tables_1_5 ++ (tables_1_6 ++ tables_1_7))))) from List.mem_append_right _ (List.mem_append_right _ (List.mem_append_right _ (List.mem_append_right _ (List.mem_append_right _ (List.mem_append_left _ (List.mem_of_getElem? h))))))), hg⟩
theorem uN_c6 {w : Cond} (i : Nat) (h : tables_1_7[i]? = some w) (hg : pb_isN w = true) : w ∈ uN := List.mem_filter.mpr ⟨show w ∈ k2_sels lw_privs ++ tables_1 from List.mem_append_right _ (show w ∈ tables_1_1 ++ (tables_1_2 ++ (tables_1_3 ++ (tables_1_4 ++ (tables_1_5 ++ (tables_1_6 ++ tables_1_7))))) from List.mem_append_right _ (List.mem_append_right _ (List.mem_append_right _ (List.mem_append_right _ (List.mem_append_right _ (List.mem_append_right _ (List.mem_of_getElem? h))))))), hg⟩
/-! The pure layer: pb_P says of a frame (pc, locals, stack) and a world that the machine comes to its goal from there. Heap, locations and slots are inside. -/
abbrev pb_G : Type := va_G × (ClassId × ClassId × ClassId × ClassId × ((Nat → Nat) × (Nat → Nat)))
def pb_T (G : pb_G) : List (ClassId × FieldType) := [(G.2.1, .byte), (G.2.2.1, .int), (G.2.2.2.1, .long), (G.2.2.2.2.1, .boolean)]
/-- a method: name, bytes, locals, what it returns, its handlers, room -/
abbrev pb_I : Type := MethodName × ByteArray × Nat × Option FieldType × List (Nat × Nat × Nat × Nat) × Room
abbrev pi_y (I : pb_I) : MethodName := I.1
abbrev pi_c (I : pb_I) : ByteArray := I.2.1
abbrev pi_n (I : pb_I) : Nat := I.2.2.1
abbrev pi_r (I : pb_I) : Option FieldType := I.2.2.2.1
abbrev pi_h (I : pb_I) : List (Nat × Nat × Nat × Nat) := I.2.2.2.2.1
abbrev pi_R (I : pb_I) : Room := I.2.2.2.2.2
/-- its own word, and the words of all methods -/
def pi_d (I : pb_I) : Cond := match pi_h I with
  | [] => .code (pi_y I) (pi_c I) (pi_n I) (pi_r I)
  | h => .codeWith (pi_y I) (pi_c I) (pi_n I) (pi_r I) h
def pi_w (I : pb_I) : List Cond := pi_d I :: uW
theorem uW_good {w : Cond} (h : w ∈ uW) : (w.onTables && w.keeps) = true ∨ ∃ ty, w = .arrayClass ty := good_of_word (List.mem_filter.mp h).2
theorem pb_gd {J : pb_I} (h : pi_d J ∈ uW) : GoodIn uW (pi_w J) := fun w hw => by
  rcases List.mem_cons.mp hw with rfl | h1
  · exact ⟨h, uW_good h⟩
  · exact ⟨h1, uW_good h1⟩
theorem pb_gdS {own : String} {index : Nat} {J : pb_I} (h : pi_d J ∈ uW) (h1 : Cond.methodLink own index (pi_y J) ∈ uW) (h2 : Cond.static (pi_y J) ∈ uW) (h3 : Cond.initialized (pi_y J).cls ∈ uW) : GoodIn uW (va_wsS own index (pi_y J) (pi_w J)) := fun w hw => by
  rcases List.mem_append.mp hw with h9 | h9
  · simp only [List.mem_cons, List.not_mem_nil, or_false] at h9
    rcases h9 with rfl | rfl | rfl
    · exact ⟨h1, uW_good h1⟩
    · exact ⟨h2, uW_good h2⟩
    · exact ⟨h3, uW_good h3⟩
  · exact pb_gd h w h9
theorem pb_gdV {own C : String} {index : Nat} {J : pb_I} (h : pi_d J ∈ uW) (h1 : Cond.methodLink own index (pi_y J) ∈ uW) (h2 : Cond.instanceMethod (pi_y J) ∈ uW) (h3 : Cond.selects C (pi_y J) (pi_y J) ∈ uW) (h4 : Cond.initialized C ∈ uW) : GoodIn uW (wsV own index C (pi_y J) (pi_w J)) := fun w hw => by
  rcases List.mem_append.mp hw with h9 | h9
  · simp only [List.mem_cons, List.not_mem_nil, or_false] at h9
    rcases h9 with rfl | rfl | rfl | rfl
    · exact ⟨h1, uW_good h1⟩
    · exact ⟨h2, uW_good h2⟩
    · exact ⟨h3, uW_good h3⟩
    · exact ⟨h4, uW_good h4⟩
  · exact pb_gd h w h9
/-- the machine's things of one run of a method -/
abbrev pb_M : Type := (Program × Env × State × MethodId × Array Value) × (List Frame × Method × Code) × ((Nat → Prop) × (State → Prop))
abbrev pm_p (M : pb_M) : Program := M.1.1
abbrev pm_e (M : pb_M) : Env := M.1.2.1
abbrev pm_s (M : pb_M) : State := M.1.2.2.1
abbrev pm_m (M : pb_M) : MethodId := M.1.2.2.2.1
abbrev pm_a (M : pb_M) : Array Value := M.1.2.2.2.2
abbrev pm_b (M : pb_M) : List Frame := M.2.1.1
abbrev pm_h (M : pb_M) : Method := M.2.1.2.1
abbrev pm_c (M : pb_M) : Code := M.2.1.2.2
abbrev pm_A (M : pb_M) : Nat → Prop := M.2.2.1
abbrev pm_Q (M : pb_M) : State → Prop := M.2.2.2
def pb_Ev (l : Launch) (G : pb_G) (M : pb_M) (I : pb_I) : Prop :=
  (pm_p M).tables.exec = Jvm.exec ∧ (pm_c M).code = pi_c I ∧ (pm_c M).maxLocals = pi_n I ∧ (pm_s M).vm.findClass (pi_y I).cls = some (pm_m M).cls ∧
  (∀ w ∈ uW, w.before (pm_a M) (pm_s M) = true) ∧ va_K G.1 vwCl (pb_T G) (pm_s M) ∧ (∀ q, (pm_s M).heap.size ≤ q → pm_A M q) ∧
  (pm_h M).locks = false ∧ ((pi_y I).name = "<init>" → (pm_h M).name = "<init>") ∧ (pm_h M).sig.returnType = pi_r I ∧ l.stackTraces = false ∧ pb_Z G.2.2.2.2.2 (pm_A M) (pm_s M) (pm_s M).heap
def pb_P (l : Launch) (G : pb_G) (M : pb_M) (I : pb_I) (pc : Nat) (lo : List (Nat × Value)) (rest : List Value) (ws : va_W) (ck cn : Nat) : Prop :=
  pb_Ev l G M I → ∀ (H : Heap) (locs : List Loc) (ls : Array Slot), va_P G.1 vwCl ws H → va_D (pm_A M) ws → va_S (pm_A M) (pm_s M).heap H locs → lv_has ls (pi_n I) lo →
    W (pm_p M) l (pm_e M) (pi_R I) (pm_s M) (pm_m M) (pm_a M) (pm_b M) (pm_h M) (pm_c M) H locs ck cn (pm_Q M) (F0 (pm_m M) pc ls rest)
section PB
variable {l : Launch} {G : pb_G} {M : pb_M} {I : pb_I} {pc : Nat} {lo : List (Nat × Value)} {rest : List Value} {ws : va_W} {ck cn : Nat}
theorem pb_hw {J : pb_I} {w : Cond} (h : pi_d J = w) : pi_w J = w :: uW := by show pi_d J :: uW = _; rw [h]
theorem pb_w (E : pb_Ev l G M I) {w : Cond} (h : w ∈ uW) : w.before (pm_a M) (pm_s M) = true := E.2.2.2.2.1 w h
theorem pb_ws (E : pb_Ev l G M I) : ∀ w ∈ uW, w.before (pm_a M) (pm_s M) = true := E.2.2.2.2.1
theorem pb_k (E : pb_Ev l G M I) : va_K G.1 vwCl (pb_T G) (pm_s M) := E.2.2.2.2.2.1
theorem pb_hA (E : pb_Ev l G M I) : ∀ q, (pm_s M).heap.size ≤ q → pm_A M q := E.2.2.2.2.2.2.1
theorem pb_lock (E : pb_Ev l G M I) : (pm_h M).locks = false := E.2.2.2.2.2.2.2.1
theorem pb_name (E : pb_Ev l G M I) : (pi_y I).name = "<init>" → (pm_h M).name = "<init>" := E.2.2.2.2.2.2.2.2.1
theorem pb_ret (E : pb_Ev l G M I) : (pm_h M).sig.returnType = pi_r I := E.2.2.2.2.2.2.2.2.2.1
theorem pb_tr (E : pb_Ev l G M I) : l.stackTraces = false := E.2.2.2.2.2.2.2.2.2.2.1
theorem pb_z (E : pb_Ev l G M I) : pb_Z G.2.2.2.2.2 (pm_A M) (pm_s M) (pm_s M).heap := E.2.2.2.2.2.2.2.2.2.2.2
theorem pb_z3 (E : pb_Ev l G M I) : ∃ t : Nat, va_Z "PackageBook$Expander" "THIRD_ORDER" "[I" (.ref t) (pm_A M) (pm_s M) (pm_s M).heap ∧ va_T .int t 19 (fun j => .int (pb_third.getD j 0)) (pm_A M) (pm_s M) (pm_s M).heap := (pb_z E).1
theorem pb_n (E : pb_Ev l G M I) {w : Cond} (h : w ∈ uN) : w.before (pm_a M) (pm_s M) = true := uN_use h ((pb_z E).2.1 w h)
/-- the same place in other words -/
theorem pb_eq {pc' : Nat} {lo' : List (Nat × Value)} {rest' : List Value} {ws' : va_W} (kk : pb_P l G M I pc' lo' rest' ws' ck cn) (h1 : pc = pc' := by rfl) (h2 : lo = lo' := by rfl) (h3 : rest = rest' := by rfl) (h4 : ws = ws' := by rfl) : pb_P l G M I pc lo rest ws ck cn := by
  subst h1 h2 h3 h4; exact kk
theorem pb_asi {x y : Int32} (h : x = y) (kk : pb_P l G M I pc lo (.int y :: rest) ws ck cn) : pb_P l G M I pc lo (.int x :: rest) ws ck cn := by subst h; exact kk
theorem pb_asl {x y : Int64} (h : x = y) (kk : pb_P l G M I pc lo (.long y :: rest) ws ck cn) : pb_P l G M I pc lo (.long x :: rest) ws ck cn := by subst h; exact kk
theorem pb_topi {x : Int32} (kk : ∀ y : Int32, y = x → pb_P l G M I pc lo (.int y :: rest) ws ck cn) : pb_P l G M I pc lo (.int x :: rest) ws ck cn := kk x rfl
theorem pb_topl {x : Int64} (kk : ∀ y : Int64, y = x → pb_P l G M I pc lo (.long y :: rest) ws ck cn) : pb_P l G M I pc lo (.long x :: rest) ws ck cn := kk x rfl
theorem pb_widen {k' n' : Nat} (h1 : ck ≤ k') (h2 : cn ≤ n') (kk : pb_P l G M I pc lo rest ws k' n') : pb_P l G M I pc lo rest ws ck cn := fun E H locs ls hP hD hS hl => W.widen h1 h2 (kk E H locs ls hP hD hS hl)
theorem pb_iconst {n : Int} {v : Int32} (hdg : decode (pi_c I) pc = .ok (.iconst n, 1)) (hv : Int32.ofInt n = v) (k9 : pb_P l G M I (pc + 1) lo (.int v :: rest) ws ck cn) : pb_P l G M I pc lo (rest) ws ck cn := fun E H locs ls hP hD hS hl => lv_iconst E.1 E.2.1 hdg hv (k9 E H locs ls hP hD hS hl)
theorem pb_bipush {n : Int} {v : Int32} (hdg : decode (pi_c I) pc = .ok (.bipush n, 2)) (hv : (Int8.ofInt n).toInt32 = v) (k9 : pb_P l G M I (pc + 2) lo (.int v :: rest) ws ck cn) : pb_P l G M I pc lo (rest) ws ck cn := fun E H locs ls hP hD hS hl => lv_bipush E.1 E.2.1 hdg hv (k9 E H locs ls hP hD hS hl)
theorem pb_sipush {n : Int} {v : Int32} (hdg : decode (pi_c I) pc = .ok (.sipush n, 3)) (hv : (Int16.ofInt n).toInt32 = v) (k9 : pb_P l G M I (pc + 3) lo (.int v :: rest) ws ck cn) : pb_P l G M I pc lo (rest) ws ck cn := fun E H locs ls hP hD hS hl => lv_sipush E.1 E.2.1 hdg hv (k9 E H locs ls hP hD hS hl)
theorem pb_lconst {n : Fin 2} {v : Int64} (hdg : decode (pi_c I) pc = .ok (.lconst n, 1)) (hv : Int64.ofNat (n : Nat) = v) (k9 : pb_P l G M I (pc + 1) lo (.long v :: rest) ws ck cn) : pb_P l G M I pc lo (rest) ws ck cn := fun E H locs ls hP hD hS hl => lv_lconst E.1 E.2.1 hdg hv (k9 E H locs ls hP hD hS hl)
theorem pb_iadd {x y : Int32} (hdg : decode (pi_c I) pc = .ok (.iadd, 1)) (k9 : pb_P l G M I (pc + 1) lo (.int (x + y) :: rest) ws ck cn) : pb_P l G M I pc lo (.int y :: .int x :: rest) ws ck cn := fun E H locs ls hP hD hS hl => lv_iadd E.1 E.2.1 hdg (k9 E H locs ls hP hD hS hl)
theorem pb_isub {x y : Int32} (hdg : decode (pi_c I) pc = .ok (.isub, 1)) (k9 : pb_P l G M I (pc + 1) lo (.int (x - y) :: rest) ws ck cn) : pb_P l G M I pc lo (.int y :: .int x :: rest) ws ck cn := fun E H locs ls hP hD hS hl => lv_isub E.1 E.2.1 hdg (k9 E H locs ls hP hD hS hl)
theorem pb_imul {x y : Int32} (hdg : decode (pi_c I) pc = .ok (.imul, 1)) (k9 : pb_P l G M I (pc + 1) lo (.int (x * y) :: rest) ws ck cn) : pb_P l G M I pc lo (.int y :: .int x :: rest) ws ck cn := fun E H locs ls hP hD hS hl => lv_imul E.1 E.2.1 hdg (k9 E H locs ls hP hD hS hl)
theorem pb_iand {x y : Int32} (hdg : decode (pi_c I) pc = .ok (.iand, 1)) (k9 : pb_P l G M I (pc + 1) lo (.int (x &&& y) :: rest) ws ck cn) : pb_P l G M I pc lo (.int y :: .int x :: rest) ws ck cn := fun E H locs ls hP hD hS hl => lv_iand E.1 E.2.1 hdg (k9 E H locs ls hP hD hS hl)
theorem pb_ior {x y : Int32} (hdg : decode (pi_c I) pc = .ok (.ior, 1)) (k9 : pb_P l G M I (pc + 1) lo (.int (x ||| y) :: rest) ws ck cn) : pb_P l G M I pc lo (.int y :: .int x :: rest) ws ck cn := fun E H locs ls hP hD hS hl => lv_ior E.1 E.2.1 hdg (k9 E H locs ls hP hD hS hl)
theorem pb_ixor {x y : Int32} (hdg : decode (pi_c I) pc = .ok (.ixor, 1)) (k9 : pb_P l G M I (pc + 1) lo (.int (x ^^^ y) :: rest) ws ck cn) : pb_P l G M I pc lo (.int y :: .int x :: rest) ws ck cn := fun E H locs ls hP hD hS hl => lv_ixor E.1 E.2.1 hdg (k9 E H locs ls hP hD hS hl)
theorem pb_idiv {x y : Int32} (hdg : decode (pi_c I) pc = .ok (.idiv, 1)) (hne : ¬ y = 0) (k9 : pb_P l G M I (pc + 1) lo (.int (x / y) :: rest) ws ck cn) : pb_P l G M I pc lo (.int y :: .int x :: rest) ws ck cn := fun E H locs ls hP hD hS hl => lv_idiv E.1 E.2.1 hdg hne (k9 E H locs ls hP hD hS hl)
theorem pb_irem {x y : Int32} (hdg : decode (pi_c I) pc = .ok (.irem, 1)) (hne : ¬ y = 0) (k9 : pb_P l G M I (pc + 1) lo (.int (x - x / y * y) :: rest) ws ck cn) : pb_P l G M I pc lo (.int y :: .int x :: rest) ws ck cn := fun E H locs ls hP hD hS hl => lv_irem E.1 E.2.1 hdg hne (k9 E H locs ls hP hD hS hl)
theorem pb_ineg {x : Int32} (hdg : decode (pi_c I) pc = .ok (.ineg, 1)) (k9 : pb_P l G M I (pc + 1) lo (.int (-x) :: rest) ws ck cn) : pb_P l G M I pc lo (.int x :: rest) ws ck cn := fun E H locs ls hP hD hS hl => lv_ineg E.1 E.2.1 hdg (k9 E H locs ls hP hD hS hl)
theorem pb_ladd {x y : Int64} (hdg : decode (pi_c I) pc = .ok (.ladd, 1)) (k9 : pb_P l G M I (pc + 1) lo (.long (x + y) :: rest) ws ck cn) : pb_P l G M I pc lo (.long y :: .long x :: rest) ws ck cn := fun E H locs ls hP hD hS hl => lv_ladd E.1 E.2.1 hdg (k9 E H locs ls hP hD hS hl)
theorem pb_lsub {x y : Int64} (hdg : decode (pi_c I) pc = .ok (.lsub, 1)) (k9 : pb_P l G M I (pc + 1) lo (.long (x - y) :: rest) ws ck cn) : pb_P l G M I pc lo (.long y :: .long x :: rest) ws ck cn := fun E H locs ls hP hD hS hl => lv_lsub E.1 E.2.1 hdg (k9 E H locs ls hP hD hS hl)
theorem pb_lmul {x y : Int64} (hdg : decode (pi_c I) pc = .ok (.lmul, 1)) (k9 : pb_P l G M I (pc + 1) lo (.long (x * y) :: rest) ws ck cn) : pb_P l G M I pc lo (.long y :: .long x :: rest) ws ck cn := fun E H locs ls hP hD hS hl => lv_lmul E.1 E.2.1 hdg (k9 E H locs ls hP hD hS hl)
theorem pb_land {x y : Int64} (hdg : decode (pi_c I) pc = .ok (.land, 1)) (k9 : pb_P l G M I (pc + 1) lo (.long (x &&& y) :: rest) ws ck cn) : pb_P l G M I pc lo (.long y :: .long x :: rest) ws ck cn := fun E H locs ls hP hD hS hl => lv_land E.1 E.2.1 hdg (k9 E H locs ls hP hD hS hl)
theorem pb_lor {x y : Int64} (hdg : decode (pi_c I) pc = .ok (.lor, 1)) (k9 : pb_P l G M I (pc + 1) lo (.long (x ||| y) :: rest) ws ck cn) : pb_P l G M I pc lo (.long y :: .long x :: rest) ws ck cn := fun E H locs ls hP hD hS hl => lv_lor E.1 E.2.1 hdg (k9 E H locs ls hP hD hS hl)
theorem pb_lxor {x y : Int64} (hdg : decode (pi_c I) pc = .ok (.lxor, 1)) (k9 : pb_P l G M I (pc + 1) lo (.long (x ^^^ y) :: rest) ws ck cn) : pb_P l G M I pc lo (.long y :: .long x :: rest) ws ck cn := fun E H locs ls hP hD hS hl => lv_lxor E.1 E.2.1 hdg (k9 E H locs ls hP hD hS hl)
theorem pb_lneg {x : Int64} (hdg : decode (pi_c I) pc = .ok (.lneg, 1)) (k9 : pb_P l G M I (pc + 1) lo (.long (-x) :: rest) ws ck cn) : pb_P l G M I pc lo (.long x :: rest) ws ck cn := fun E H locs ls hP hD hS hl => lv_lneg E.1 E.2.1 hdg (k9 E H locs ls hP hD hS hl)
theorem pb_ishl {x y : Int32} (hdg : decode (pi_c I) pc = .ok (.ishl, 1)) (k9 : pb_P l G M I (pc + 1) lo (.int (x <<< (y &&& 31)) :: rest) ws ck cn) : pb_P l G M I pc lo (.int y :: .int x :: rest) ws ck cn := fun E H locs ls hP hD hS hl => lv_ishl E.1 E.2.1 hdg (k9 E H locs ls hP hD hS hl)
theorem pb_ishr {x y : Int32} (hdg : decode (pi_c I) pc = .ok (.ishr, 1)) (k9 : pb_P l G M I (pc + 1) lo (.int (x >>> (y &&& 31)) :: rest) ws ck cn) : pb_P l G M I pc lo (.int y :: .int x :: rest) ws ck cn := fun E H locs ls hP hD hS hl => lv_ishr E.1 E.2.1 hdg (k9 E H locs ls hP hD hS hl)
theorem pb_i2l {x : Int32} {v : Int64} (hdg : decode (pi_c I) pc = .ok (.i2l, 1)) (hv : x.toInt64 = v) (k9 : pb_P l G M I (pc + 1) lo (.long v :: rest) ws ck cn) : pb_P l G M I pc lo (.int x :: rest) ws ck cn := fun E H locs ls hP hD hS hl => lv_i2l E.1 E.2.1 hdg hv (k9 E H locs ls hP hD hS hl)
theorem pb_l2i {x : Int64} {v : Int32} (hdg : decode (pi_c I) pc = .ok (.l2i, 1)) (hv : x.toInt32 = v) (k9 : pb_P l G M I (pc + 1) lo (.int v :: rest) ws ck cn) : pb_P l G M I pc lo (.long x :: rest) ws ck cn := fun E H locs ls hP hD hS hl => lv_l2i E.1 E.2.1 hdg hv (k9 E H locs ls hP hD hS hl)
theorem pb_i2b {x : Int32} {v : Int32} (hdg : decode (pi_c I) pc = .ok (.i2b, 1)) (hv : x.toInt8.toInt32 = v) (k9 : pb_P l G M I (pc + 1) lo (.int v :: rest) ws ck cn) : pb_P l G M I pc lo (.int x :: rest) ws ck cn := fun E H locs ls hP hD hS hl => lv_i2b E.1 E.2.1 hdg hv (k9 E H locs ls hP hD hS hl)
theorem pb_i2s {x : Int32} {v : Int32} (hdg : decode (pi_c I) pc = .ok (.i2s, 1)) (hv : x.toInt16.toInt32 = v) (k9 : pb_P l G M I (pc + 1) lo (.int v :: rest) ws ck cn) : pb_P l G M I pc lo (.int x :: rest) ws ck cn := fun E H locs ls hP hD hS hl => lv_i2s E.1 E.2.1 hdg hv (k9 E H locs ls hP hD hS hl)
theorem pb_i2c {x : Int32} {v : Int32} (hdg : decode (pi_c I) pc = .ok (.i2c, 1)) (hv : (x.toUInt32 % 65536).toInt32 = v) (k9 : pb_P l G M I (pc + 1) lo (.int v :: rest) ws ck cn) : pb_P l G M I pc lo (.int x :: rest) ws ck cn := fun E H locs ls hP hD hS hl => lv_i2c E.1 E.2.1 hdg hv (k9 E H locs ls hP hD hS hl)
theorem pb_iushr {x y v : Int32} (hdg : decode (pi_c I) pc = .ok (.iushr, 1)) (hv : (x.toUInt32 >>> (y.toUInt32 &&& Int32.toUInt32 31)).toInt32 = v) (k9 : pb_P l G M I (pc + 1) lo (.int v :: rest) ws ck cn) : pb_P l G M I pc lo (.int y :: .int x :: rest) ws ck cn := fun E H locs ls hP hD hS hl => lv_iushr E.1 E.2.1 hdg hv (k9 E H locs ls hP hD hS hl)
theorem pb_lushr {x v : Int64} {y : Int32} (hdg : decode (pi_c I) pc = .ok (.lushr, 1)) (hv : (x.toUInt64 >>> (y.toInt64.toUInt64 &&& Int64.toUInt64 63)).toInt64 = v) (k9 : pb_P l G M I (pc + 1) lo (.long v :: rest) ws ck cn) : pb_P l G M I pc lo (.int y :: .long x :: rest) ws ck cn := fun E H locs ls hP hD hS hl => lv_lushr E.1 E.2.1 hdg hv (k9 E H locs ls hP hD hS hl)
theorem pb_lshl {x v : Int64} {y : Int32} (hdg : decode (pi_c I) pc = .ok (.lshl, 1)) (hv : x <<< (y.toInt64 &&& 63) = v) (k9 : pb_P l G M I (pc + 1) lo (.long v :: rest) ws ck cn) : pb_P l G M I pc lo (.int y :: .long x :: rest) ws ck cn := fun E H locs ls hP hD hS hl => lv_lshl E.1 E.2.1 hdg hv (k9 E H locs ls hP hD hS hl)
theorem pb_lshr {x v : Int64} {y : Int32} (hdg : decode (pi_c I) pc = .ok (.lshr, 1)) (hv : x >>> (y.toInt64 &&& 63) = v) (k9 : pb_P l G M I (pc + 1) lo (.long v :: rest) ws ck cn) : pb_P l G M I pc lo (.int y :: .long x :: rest) ws ck cn := fun E H locs ls hP hD hS hl => lv_lshr E.1 E.2.1 hdg hv (k9 E H locs ls hP hD hS hl)
theorem pb_dup {va : Value} (hdg : decode (pi_c I) pc = .ok (.dup, 1)) (hva : va.category = 1) (k9 : pb_P l G M I (pc + 1) lo (va :: va :: rest) ws ck cn) : pb_P l G M I pc lo (va :: rest) ws ck cn := fun E H locs ls hP hD hS hl => lv_dup E.1 E.2.1 hdg hva (k9 E H locs ls hP hD hS hl)
theorem pb_pop {va : Value} (hdg : decode (pi_c I) pc = .ok (.pop, 1)) (hva : va.category = 1) (k9 : pb_P l G M I (pc + 1) lo (rest) ws ck cn) : pb_P l G M I pc lo (va :: rest) ws ck cn := fun E H locs ls hP hD hS hl => lv_pop E.1 E.2.1 hdg hva (k9 E H locs ls hP hD hS hl)
theorem pb_dup_x1 {va vb : Value} (hdg : decode (pi_c I) pc = .ok (.dup_x1, 1)) (hva : va.category = 1) (hvb : vb.category = 1) (k9 : pb_P l G M I (pc + 1) lo (va :: vb :: va :: rest) ws ck cn) : pb_P l G M I pc lo (va :: vb :: rest) ws ck cn := fun E H locs ls hP hD hS hl => lv_dup_x1 E.1 E.2.1 hdg hva hvb (k9 E H locs ls hP hD hS hl)
theorem pb_dup_x2 {va vb vd : Value} (hdg : decode (pi_c I) pc = .ok (.dup_x2, 1)) (hva : va.category = 1) (hvb : vb.category = 1) (hvd : vd.category = 1) (k9 : pb_P l G M I (pc + 1) lo (va :: vb :: vd :: va :: rest) ws ck cn) : pb_P l G M I pc lo (va :: vb :: vd :: rest) ws ck cn := fun E H locs ls hP hD hS hl => lv_dup_x2 E.1 E.2.1 hdg hva hvb hvd (k9 E H locs ls hP hD hS hl)
theorem pb_dup2_11 {va vb : Value} (hdg : decode (pi_c I) pc = .ok (.dup2, 1)) (hva : va.category = 1) (hvb : vb.category = 1) (k9 : pb_P l G M I (pc + 1) lo (va :: vb :: va :: vb :: rest) ws ck cn) : pb_P l G M I pc lo (va :: vb :: rest) ws ck cn := fun E H locs ls hP hD hS hl => lv_dup2_11 E.1 E.2.1 hdg hva hvb (k9 E H locs ls hP hD hS hl)
theorem pb_dup2_2 {va : Value} (hdg : decode (pi_c I) pc = .ok (.dup2, 1)) (hva : va.category = 2) (k9 : pb_P l G M I (pc + 1) lo (va :: va :: rest) ws ck cn) : pb_P l G M I pc lo (va :: rest) ws ck cn := fun E H locs ls hP hD hS hl => lv_dup2_2 E.1 E.2.1 hdg hva (k9 E H locs ls hP hD hS hl)
theorem pb_pop2_2 {va : Value} (hdg : decode (pi_c I) pc = .ok (.pop2, 1)) (hva : va.category = 2) (k9 : pb_P l G M I (pc + 1) lo (rest) ws ck cn) : pb_P l G M I pc lo (va :: rest) ws ck cn := fun E H locs ls hP hD hS hl => lv_pop2_2 E.1 E.2.1 hdg hva (k9 E H locs ls hP hD hS hl)
theorem pb_if_eq {x : Int32} {off : Int} {tgt : Nat} (hdg : decode (pi_c I) pc = .ok (.ifCond .eq off, 3)) (ht : (pc : Int) + off = (tgt : Int)) (kt9 : x = 0 → pb_P l G M I tgt lo rest ws ck cn) (kf9 : ¬ x = 0 → pb_P l G M I (pc + 3) lo rest ws ck cn) : pb_P l G M I pc lo (.int x :: rest) ws ck cn := fun E H locs ls hP hD hS hl => lv_if_eq E.1 E.2.1 hdg ht (fun z9 => kt9 z9 E H locs ls hP hD hS hl) (fun z9 => kf9 z9 E H locs ls hP hD hS hl)
theorem pb_icmp_eq {x y : Int32} {off : Int} {tgt : Nat} (hdg : decode (pi_c I) pc = .ok (.if_icmp .eq off, 3)) (ht : (pc : Int) + off = (tgt : Int)) (kt9 : x = y → pb_P l G M I tgt lo rest ws ck cn) (kf9 : ¬ x = y → pb_P l G M I (pc + 3) lo rest ws ck cn) : pb_P l G M I pc lo (.int y :: .int x :: rest) ws ck cn := fun E H locs ls hP hD hS hl => lv_icmp_eq E.1 E.2.1 hdg ht (fun z9 => kt9 z9 E H locs ls hP hD hS hl) (fun z9 => kf9 z9 E H locs ls hP hD hS hl)
theorem pb_if_ne {x : Int32} {off : Int} {tgt : Nat} (hdg : decode (pi_c I) pc = .ok (.ifCond .ne off, 3)) (ht : (pc : Int) + off = (tgt : Int)) (kt9 : ¬ x = 0 → pb_P l G M I tgt lo rest ws ck cn) (kf9 : x = 0 → pb_P l G M I (pc + 3) lo rest ws ck cn) : pb_P l G M I pc lo (.int x :: rest) ws ck cn := fun E H locs ls hP hD hS hl => lv_if_ne E.1 E.2.1 hdg ht (fun z9 => kt9 z9 E H locs ls hP hD hS hl) (fun z9 => kf9 z9 E H locs ls hP hD hS hl)
theorem pb_icmp_ne {x y : Int32} {off : Int} {tgt : Nat} (hdg : decode (pi_c I) pc = .ok (.if_icmp .ne off, 3)) (ht : (pc : Int) + off = (tgt : Int)) (kt9 : ¬ x = y → pb_P l G M I tgt lo rest ws ck cn) (kf9 : x = y → pb_P l G M I (pc + 3) lo rest ws ck cn) : pb_P l G M I pc lo (.int y :: .int x :: rest) ws ck cn := fun E H locs ls hP hD hS hl => lv_icmp_ne E.1 E.2.1 hdg ht (fun z9 => kt9 z9 E H locs ls hP hD hS hl) (fun z9 => kf9 z9 E H locs ls hP hD hS hl)
theorem pb_if_lt {x : Int32} {off : Int} {tgt : Nat} (hdg : decode (pi_c I) pc = .ok (.ifCond .lt off, 3)) (ht : (pc : Int) + off = (tgt : Int)) (kt9 : x < 0 → pb_P l G M I tgt lo rest ws ck cn) (kf9 : ¬ x < 0 → pb_P l G M I (pc + 3) lo rest ws ck cn) : pb_P l G M I pc lo (.int x :: rest) ws ck cn := fun E H locs ls hP hD hS hl => lv_if_lt E.1 E.2.1 hdg ht (fun z9 => kt9 z9 E H locs ls hP hD hS hl) (fun z9 => kf9 z9 E H locs ls hP hD hS hl)
theorem pb_icmp_lt {x y : Int32} {off : Int} {tgt : Nat} (hdg : decode (pi_c I) pc = .ok (.if_icmp .lt off, 3)) (ht : (pc : Int) + off = (tgt : Int)) (kt9 : x < y → pb_P l G M I tgt lo rest ws ck cn) (kf9 : ¬ x < y → pb_P l G M I (pc + 3) lo rest ws ck cn) : pb_P l G M I pc lo (.int y :: .int x :: rest) ws ck cn := fun E H locs ls hP hD hS hl => lv_icmp_lt E.1 E.2.1 hdg ht (fun z9 => kt9 z9 E H locs ls hP hD hS hl) (fun z9 => kf9 z9 E H locs ls hP hD hS hl)
theorem pb_if_ge {x : Int32} {off : Int} {tgt : Nat} (hdg : decode (pi_c I) pc = .ok (.ifCond .ge off, 3)) (ht : (pc : Int) + off = (tgt : Int)) (kt9 : 0 ≤ x → pb_P l G M I tgt lo rest ws ck cn) (kf9 : ¬ 0 ≤ x → pb_P l G M I (pc + 3) lo rest ws ck cn) : pb_P l G M I pc lo (.int x :: rest) ws ck cn := fun E H locs ls hP hD hS hl => lv_if_ge E.1 E.2.1 hdg ht (fun z9 => kt9 z9 E H locs ls hP hD hS hl) (fun z9 => kf9 z9 E H locs ls hP hD hS hl)
theorem pb_icmp_ge {x y : Int32} {off : Int} {tgt : Nat} (hdg : decode (pi_c I) pc = .ok (.if_icmp .ge off, 3)) (ht : (pc : Int) + off = (tgt : Int)) (kt9 : y ≤ x → pb_P l G M I tgt lo rest ws ck cn) (kf9 : ¬ y ≤ x → pb_P l G M I (pc + 3) lo rest ws ck cn) : pb_P l G M I pc lo (.int y :: .int x :: rest) ws ck cn := fun E H locs ls hP hD hS hl => lv_icmp_ge E.1 E.2.1 hdg ht (fun z9 => kt9 z9 E H locs ls hP hD hS hl) (fun z9 => kf9 z9 E H locs ls hP hD hS hl)
theorem pb_if_gt {x : Int32} {off : Int} {tgt : Nat} (hdg : decode (pi_c I) pc = .ok (.ifCond .gt off, 3)) (ht : (pc : Int) + off = (tgt : Int)) (kt9 : 0 < x → pb_P l G M I tgt lo rest ws ck cn) (kf9 : ¬ 0 < x → pb_P l G M I (pc + 3) lo rest ws ck cn) : pb_P l G M I pc lo (.int x :: rest) ws ck cn := fun E H locs ls hP hD hS hl => lv_if_gt E.1 E.2.1 hdg ht (fun z9 => kt9 z9 E H locs ls hP hD hS hl) (fun z9 => kf9 z9 E H locs ls hP hD hS hl)
theorem pb_icmp_gt {x y : Int32} {off : Int} {tgt : Nat} (hdg : decode (pi_c I) pc = .ok (.if_icmp .gt off, 3)) (ht : (pc : Int) + off = (tgt : Int)) (kt9 : y < x → pb_P l G M I tgt lo rest ws ck cn) (kf9 : ¬ y < x → pb_P l G M I (pc + 3) lo rest ws ck cn) : pb_P l G M I pc lo (.int y :: .int x :: rest) ws ck cn := fun E H locs ls hP hD hS hl => lv_icmp_gt E.1 E.2.1 hdg ht (fun z9 => kt9 z9 E H locs ls hP hD hS hl) (fun z9 => kf9 z9 E H locs ls hP hD hS hl)
theorem pb_if_le {x : Int32} {off : Int} {tgt : Nat} (hdg : decode (pi_c I) pc = .ok (.ifCond .le off, 3)) (ht : (pc : Int) + off = (tgt : Int)) (kt9 : x ≤ 0 → pb_P l G M I tgt lo rest ws ck cn) (kf9 : ¬ x ≤ 0 → pb_P l G M I (pc + 3) lo rest ws ck cn) : pb_P l G M I pc lo (.int x :: rest) ws ck cn := fun E H locs ls hP hD hS hl => lv_if_le E.1 E.2.1 hdg ht (fun z9 => kt9 z9 E H locs ls hP hD hS hl) (fun z9 => kf9 z9 E H locs ls hP hD hS hl)
theorem pb_icmp_le {x y : Int32} {off : Int} {tgt : Nat} (hdg : decode (pi_c I) pc = .ok (.if_icmp .le off, 3)) (ht : (pc : Int) + off = (tgt : Int)) (kt9 : x ≤ y → pb_P l G M I tgt lo rest ws ck cn) (kf9 : ¬ x ≤ y → pb_P l G M I (pc + 3) lo rest ws ck cn) : pb_P l G M I pc lo (.int y :: .int x :: rest) ws ck cn := fun E H locs ls hP hD hS hl => lv_icmp_le E.1 E.2.1 hdg ht (fun z9 => kt9 z9 E H locs ls hP hD hS hl) (fun z9 => kf9 z9 E H locs ls hP hD hS hl)
theorem pb_goto {off : Int} {tgt : Nat} (hdg : decode (pi_c I) pc = .ok (.goto off, 3)) (ht : (pc : Int) + off = (tgt : Int)) (k9 : pb_P l G M I tgt lo rest ws ck cn) : pb_P l G M I pc lo rest ws ck cn := fun E H locs ls hP hD hS hl => lv_goto E.1 E.2.1 hdg ht (k9 E H locs ls hP hD hS hl)
theorem pb_null (hdg : decode (pi_c I) pc = .ok (.aconst_null, 1)) (k9 : pb_P l G M I (pc + 1) lo (.null :: rest) ws ck cn) : pb_P l G M I pc lo rest ws ck cn := fun E H locs ls hP hD hS hl => lv_null E.1 E.2.1 hdg (k9 E H locs ls hP hD hS hl)
theorem pb_ifnull {x : Nat} {off : Int} (hdg : decode (pi_c I) pc = .ok (.ifnull off, 3)) (k9 : pb_P l G M I (pc + 3) lo rest ws ck cn) : pb_P l G M I pc lo (.ref x :: rest) ws ck cn := fun E H locs ls hP hD hS hl => lv_ifnull E.1 E.2.1 hdg (k9 E H locs ls hP hD hS hl)
theorem pb_ifnonnull {x : Nat} {off : Int} {tgt : Nat} (hdg : decode (pi_c I) pc = .ok (.ifnonnull off, 3)) (ht : (pc : Int) + off = (tgt : Int)) (k9 : pb_P l G M I tgt lo rest ws ck cn) : pb_P l G M I pc lo (.ref x :: rest) ws ck cn := fun E H locs ls hP hD hS hl => lv_ifnonnull E.1 E.2.1 hdg ht (k9 E H locs ls hP hD hS hl)
theorem pb_ifnullN {off : Int} {tgt : Nat} (hdg : decode (pi_c I) pc = .ok (.ifnull off, 3)) (ht : (pc : Int) + off = (tgt : Int)) (k9 : pb_P l G M I tgt lo rest ws ck cn) : pb_P l G M I pc lo (.null :: rest) ws ck cn := fun E H locs ls hP hD hS hl => lv_ifnullN E.1 E.2.1 hdg ht (k9 E H locs ls hP hD hS hl)
theorem pb_ifnonnullN {off : Int} (hdg : decode (pi_c I) pc = .ok (.ifnonnull off, 3)) (k9 : pb_P l G M I (pc + 3) lo rest ws ck cn) : pb_P l G M I pc lo (.null :: rest) ws ck cn := fun E H locs ls hP hD hS hl => lv_ifnonnullN E.1 E.2.1 hdg (k9 E H locs ls hP hD hS hl)
theorem pb_iload_n {k : Fin 4} {i : Nat} {x : Int32} (hd : decode (pi_c I) pc = .ok (.iload_n k, 1)) (j : Nat) (hj : lo[j]? = some (i, .int x)) (hi : (k : Nat) = i) (kk : pb_P l G M I (pc + 1) lo (.int x :: rest) ws ck cn) : pb_P l G M I pc lo rest ws ck cn := fun E H locs ls hP hD hS hl => lv_iload_n E.1 E.2.1 hd hi (lv_at hl j hj) (kk E H locs ls hP hD hS hl)
theorem pb_iload {i : Nat} {x : Int32} (hd : decode (pi_c I) pc = .ok (.iload i, 2)) (j : Nat) (hj : lo[j]? = some (i, .int x)) (kk : pb_P l G M I (pc + 2) lo (.int x :: rest) ws ck cn) : pb_P l G M I pc lo rest ws ck cn := fun E H locs ls hP hD hS hl => lv_iload E.1 E.2.1 hd (lv_at hl j hj) (kk E H locs ls hP hD hS hl)
theorem pb_istore_n {k : Fin 4} {i : Nat} {x : Int32} {lo' : List (Nat × Value)} (hd : decode (pi_c I) pc = .ok (.istore_n k, 1)) (hi : (k : Nat) = i) (hn : i < pi_n I) (hl9 : (i, Value.int x) :: lo.filter (fun q => !(q.1 == i) && !(q.1 + 1 == i && q.2.category == 2)) = lo') (kk : pb_P l G M I (pc + 1) lo' rest ws ck cn) : pb_P l G M I pc lo (.int x :: rest) ws ck cn := fun E H locs ls hP hD hS hl => lv_istore_n E.1 E.2.1 hd hi hl hn hl9 (fun ls' hl' => kk E H locs ls' hP hD hS hl')
theorem pb_istore {i : Nat} {x : Int32} {lo' : List (Nat × Value)} (hd : decode (pi_c I) pc = .ok (.istore i, 2)) (hn : i < pi_n I) (hl9 : (i, Value.int x) :: lo.filter (fun q => !(q.1 == i) && !(q.1 + 1 == i && q.2.category == 2)) = lo') (kk : pb_P l G M I (pc + 2) lo' rest ws ck cn) : pb_P l G M I pc lo (.int x :: rest) ws ck cn := fun E H locs ls hP hD hS hl => lv_istore E.1 E.2.1 hd hl hn hl9 (fun ls' hl' => kk E H locs ls' hP hD hS hl')
theorem pb_lload_n {k : Fin 4} {i : Nat} {x : Int64} (hd : decode (pi_c I) pc = .ok (.lload_n k, 1)) (j : Nat) (hj : lo[j]? = some (i, .long x)) (hi : (k : Nat) = i) (kk : pb_P l G M I (pc + 1) lo (.long x :: rest) ws ck cn) : pb_P l G M I pc lo rest ws ck cn := fun E H locs ls hP hD hS hl => lv_lload_n E.1 E.2.1 hd hi (lv_at hl j hj) (kk E H locs ls hP hD hS hl)
theorem pb_lload {i : Nat} {x : Int64} (hd : decode (pi_c I) pc = .ok (.lload i, 2)) (j : Nat) (hj : lo[j]? = some (i, .long x)) (kk : pb_P l G M I (pc + 2) lo (.long x :: rest) ws ck cn) : pb_P l G M I pc lo rest ws ck cn := fun E H locs ls hP hD hS hl => lv_lload E.1 E.2.1 hd (lv_at hl j hj) (kk E H locs ls hP hD hS hl)
theorem pb_lstore_n {k : Fin 4} {i : Nat} {x : Int64} {lo' : List (Nat × Value)} (hd : decode (pi_c I) pc = .ok (.lstore_n k, 1)) (hi : (k : Nat) = i) (hn : i + 1 < pi_n I) (hl9 : (i, Value.long x) :: lo.filter (fun q => !(q.1 == i) && (!(q.1 == i + 1) && !(q.1 + 1 == i && q.2.category == 2))) = lo') (kk : pb_P l G M I (pc + 1) lo' rest ws ck cn) : pb_P l G M I pc lo (.long x :: rest) ws ck cn := fun E H locs ls hP hD hS hl => lv_lstore_n E.1 E.2.1 hd hi hl hn hl9 (fun ls' hl' => kk E H locs ls' hP hD hS hl')
theorem pb_lstore {i : Nat} {x : Int64} {lo' : List (Nat × Value)} (hd : decode (pi_c I) pc = .ok (.lstore i, 2)) (hn : i + 1 < pi_n I) (hl9 : (i, Value.long x) :: lo.filter (fun q => !(q.1 == i) && (!(q.1 == i + 1) && !(q.1 + 1 == i && q.2.category == 2))) = lo') (kk : pb_P l G M I (pc + 2) lo' rest ws ck cn) : pb_P l G M I pc lo (.long x :: rest) ws ck cn := fun E H locs ls hP hD hS hl => lv_lstore E.1 E.2.1 hd hl hn hl9 (fun ls' hl' => kk E H locs ls' hP hD hS hl')
theorem pb_aload_n {k : Fin 4} {i : Nat} {x : Nat} (hd : decode (pi_c I) pc = .ok (.aload_n k, 1)) (j : Nat) (hj : lo[j]? = some (i, .ref x)) (hi : (k : Nat) = i) (kk : pb_P l G M I (pc + 1) lo (.ref x :: rest) ws ck cn) : pb_P l G M I pc lo rest ws ck cn := fun E H locs ls hP hD hS hl => lv_aload_n E.1 E.2.1 hd hi (lv_at hl j hj) (kk E H locs ls hP hD hS hl)
theorem pb_aload {i : Nat} {x : Nat} (hd : decode (pi_c I) pc = .ok (.aload i, 2)) (j : Nat) (hj : lo[j]? = some (i, .ref x)) (kk : pb_P l G M I (pc + 2) lo (.ref x :: rest) ws ck cn) : pb_P l G M I pc lo rest ws ck cn := fun E H locs ls hP hD hS hl => lv_aload E.1 E.2.1 hd (lv_at hl j hj) (kk E H locs ls hP hD hS hl)
theorem pb_astore_n {k : Fin 4} {i : Nat} {x : Nat} {lo' : List (Nat × Value)} (hd : decode (pi_c I) pc = .ok (.astore_n k, 1)) (hi : (k : Nat) = i) (hn : i < pi_n I) (hl9 : (i, Value.ref x) :: lo.filter (fun q => !(q.1 == i) && !(q.1 + 1 == i && q.2.category == 2)) = lo') (kk : pb_P l G M I (pc + 1) lo' rest ws ck cn) : pb_P l G M I pc lo (.ref x :: rest) ws ck cn := fun E H locs ls hP hD hS hl => lv_astore_n E.1 E.2.1 hd hi hl hn hl9 (fun ls' hl' => kk E H locs ls' hP hD hS hl')
theorem pb_astore {i : Nat} {x : Nat} {lo' : List (Nat × Value)} (hd : decode (pi_c I) pc = .ok (.astore i, 2)) (hn : i < pi_n I) (hl9 : (i, Value.ref x) :: lo.filter (fun q => !(q.1 == i) && !(q.1 + 1 == i && q.2.category == 2)) = lo') (kk : pb_P l G M I (pc + 2) lo' rest ws ck cn) : pb_P l G M I pc lo (.ref x :: rest) ws ck cn := fun E H locs ls hP hD hS hl => lv_astore E.1 E.2.1 hd hl hn hl9 (fun ls' hl' => kk E H locs ls' hP hD hS hl')
theorem pb_iinc {i : Nat} {z : Int} {x v : Int32} {lo' : List (Nat × Value)} (hd : decode (pi_c I) pc = .ok (.iinc i z, 3)) (j : Nat) (hj : lo[j]? = some (i, .int x)) (hv : x + Int32.ofInt z = v) (hn : i < pi_n I) (hl9 : (i, Value.int v) :: lo.filter (fun q => !(q.1 == i) && !(q.1 + 1 == i && q.2.category == 2)) = lo') (kk : pb_P l G M I (pc + 3) lo' rest ws ck cn) : pb_P l G M I pc lo rest ws ck cn := fun E H locs ls hP hD hS hl => lv_iinc E.1 E.2.1 hd hl hj hv hn hl9 (fun ls' hl' => kk E H locs ls' hP hD hS hl')
theorem pb_iald {a N : Nat} {f : Nat → Int32} {i : Int32} (hd : decode (pi_c I) pc = .ok (.iaload, 1)) (q0 : Nat) (ha : ws[q0]? = some (a, .inl (G.2.2.1, N, .inl f))) (hin : vp_in i N) (kk : pb_P l G M I (pc + 1) lo (.int (f i.toNatClampNeg) :: rest) ws ck cn) : pb_P l G M I pc lo (.int i :: .ref a :: rest) ws ck cn := fun E H locs ls hP hD hS hl => va_iald E.1 E.2.1 (pb_k E) hP q0 1 ha rfl hin hd (kk E H locs ls hP hD hS hl)
theorem pb_iast {a N : Nat} {f : Nat → Int32} {i : Int32} {x : Int32} {ws' : va_W} (hd : decode (pi_c I) pc = .ok (.iastore, 1)) (q0 : Nat) (ha : ws[q0]? = some (a, .inl (G.2.2.1, N, .inl f))) (hin : vp_in i N) (hw : ws.set q0 (a, .inl (G.2.2.1, N, .inl (upd f i.toNatClampNeg x))) = ws') (kk : pb_P l G M I (pc + 1) lo rest ws' ck cn) : pb_P l G M I pc lo (.int x :: .int i :: .ref a :: rest) ws ck cn := by
  subst hw
  exact fun E H locs ls hP hD hS hl => va_iast E.1 E.2.1 (pb_k E) hP hD hS q0 1 ha rfl hin hd (fun H1 locs1 hP1 hD1 hS1 => kk E H1 locs1 ls hP1 hD1 hS1 hl)
theorem pb_newi {z : Int32} {N : Nat} (hd : decode (pi_c I) pc = .ok (.newarray .int, 2)) (harr : Cond.arrayClass .int ∈ uW) (hn : ¬ z < 0) (hN : z.toNatClampNeg = N) (hb : N * componentBytes .int ≤ 536870912) (hc : ck + 1 ≤ (pi_R I).cells) (hs : cn + N ≤ (pi_R I).slots) (kk : ∀ q : Nat, pb_P l G M I (pc + 2) lo (.ref q :: rest) (ws ++ [(q, .inl (G.2.2.1, N, .inl (fun _ => 0)))]) (ck + 1) (cn + N)) : pb_P l G M I pc lo (.int z :: rest) ws ck cn := fun E H locs ls hP hD hS hl => by
  refine va_newa (a0 := (N, .inl (fun _ => 0))) (N' := N) (ty := .int) E.1 E.2.1 (atype := .int) (pb_w E harr) rfl (pb_k E) hP hD hS (pb_hA E) (fun cA => rfl) hn hN hb hc hs hd (fun q cA H1 hK1 hP1 hD1 hS1 => ?_)
  have hc9 : cA = G.2.2.1 := Option.some.inj ((hK1.2 4 (cA, .int) rfl).2.symm.trans (hK1.2 1 (G.2.2.1, .int) rfl).2)
  subst hc9
  exact kk q E H1 locs ls hP1 hD1 hS1 hl
theorem pb_bald {a N : Nat} {f : Nat → Int32} {i : Int32} (hd : decode (pi_c I) pc = .ok (.baload, 1)) (q0 : Nat) (ha : ws[q0]? = some (a, .inl (G.2.1, N, .inl f))) (hin : vp_in i N) (kk : pb_P l G M I (pc + 1) lo (.int (f i.toNatClampNeg) :: rest) ws ck cn) : pb_P l G M I pc lo (.int i :: .ref a :: rest) ws ck cn := fun E H locs ls hP hD hS hl => va_bald E.1 E.2.1 (pb_k E) hP q0 0 ha rfl hin hd (kk E H locs ls hP hD hS hl)
theorem pb_bast {a N : Nat} {f : Nat → Int32} {i : Int32} {x : Int32} {ws' : va_W} (hd : decode (pi_c I) pc = .ok (.bastore, 1)) (q0 : Nat) (ha : ws[q0]? = some (a, .inl (G.2.1, N, .inl f))) (hin : vp_in i N) (hw : ws.set q0 (a, .inl (G.2.1, N, .inl (upd f i.toNatClampNeg (vp_nar .byte x)))) = ws') (kk : pb_P l G M I (pc + 1) lo rest ws' ck cn) : pb_P l G M I pc lo (.int x :: .int i :: .ref a :: rest) ws ck cn := by
  subst hw
  exact fun E H locs ls hP hD hS hl => va_bast E.1 E.2.1 (pb_k E) hP hD hS q0 0 ha rfl hin hd (fun H1 locs1 hP1 hD1 hS1 => kk E H1 locs1 ls hP1 hD1 hS1 hl)
theorem pb_newb {z : Int32} {N : Nat} (hd : decode (pi_c I) pc = .ok (.newarray .byte, 2)) (harr : Cond.arrayClass .byte ∈ uW) (hn : ¬ z < 0) (hN : z.toNatClampNeg = N) (hb : N * componentBytes .byte ≤ 536870912) (hc : ck + 1 ≤ (pi_R I).cells) (hs : cn + N ≤ (pi_R I).slots) (kk : ∀ q : Nat, pb_P l G M I (pc + 2) lo (.ref q :: rest) (ws ++ [(q, .inl (G.2.1, N, .inl (fun _ => 0)))]) (ck + 1) (cn + N)) : pb_P l G M I pc lo (.int z :: rest) ws ck cn := fun E H locs ls hP hD hS hl => by
  refine va_newa (a0 := (N, .inl (fun _ => 0))) (N' := N) (ty := .byte) E.1 E.2.1 (atype := .byte) (pb_w E harr) rfl (pb_k E) hP hD hS (pb_hA E) (fun cA => rfl) hn hN hb hc hs hd (fun q cA H1 hK1 hP1 hD1 hS1 => ?_)
  have hc9 : cA = G.2.1 := Option.some.inj ((hK1.2 4 (cA, .byte) rfl).2.symm.trans (hK1.2 0 (G.2.1, .byte) rfl).2)
  subst hc9
  exact kk q E H1 locs ls hP1 hD1 hS1 hl
theorem pb_lald {a N : Nat} {f : Nat → Int64} {i : Int32} (hd : decode (pi_c I) pc = .ok (.laload, 1)) (q0 : Nat) (ha : ws[q0]? = some (a, .inl (G.2.2.2.1, N, .inr (.inl f)))) (hin : vp_in i N) (kk : pb_P l G M I (pc + 1) lo (.long (f i.toNatClampNeg) :: rest) ws ck cn) : pb_P l G M I pc lo (.int i :: .ref a :: rest) ws ck cn := fun E H locs ls hP hD hS hl => va_lald E.1 E.2.1 (pb_k E) hP q0 2 ha rfl hin hd (kk E H locs ls hP hD hS hl)
theorem pb_last {a N : Nat} {f : Nat → Int64} {i : Int32} {x : Int64} {ws' : va_W} (hd : decode (pi_c I) pc = .ok (.lastore, 1)) (q0 : Nat) (ha : ws[q0]? = some (a, .inl (G.2.2.2.1, N, .inr (.inl f)))) (hin : vp_in i N) (hw : ws.set q0 (a, .inl (G.2.2.2.1, N, .inr (.inl (vp_updL f i.toNatClampNeg x)))) = ws') (kk : pb_P l G M I (pc + 1) lo rest ws' ck cn) : pb_P l G M I pc lo (.long x :: .int i :: .ref a :: rest) ws ck cn := by
  subst hw
  exact fun E H locs ls hP hD hS hl => va_last E.1 E.2.1 (pb_k E) hP hD hS q0 2 ha rfl hin hd (fun H1 locs1 hP1 hD1 hS1 => kk E H1 locs1 ls hP1 hD1 hS1 hl)
theorem pb_newl {z : Int32} {N : Nat} (hd : decode (pi_c I) pc = .ok (.newarray .long, 2)) (harr : Cond.arrayClass .long ∈ uW) (hn : ¬ z < 0) (hN : z.toNatClampNeg = N) (hb : N * componentBytes .long ≤ 536870912) (hc : ck + 1 ≤ (pi_R I).cells) (hs : cn + N ≤ (pi_R I).slots) (kk : ∀ q : Nat, pb_P l G M I (pc + 2) lo (.ref q :: rest) (ws ++ [(q, .inl (G.2.2.2.1, N, .inr (.inl (fun _ => 0))))]) (ck + 1) (cn + N)) : pb_P l G M I pc lo (.int z :: rest) ws ck cn := fun E H locs ls hP hD hS hl => by
  refine va_newa (a0 := (N, .inr (.inl (fun _ => 0)))) (N' := N) (ty := .long) E.1 E.2.1 (atype := .long) (pb_w E harr) rfl (pb_k E) hP hD hS (pb_hA E) (fun cA => rfl) hn hN hb hc hs hd (fun q cA H1 hK1 hP1 hD1 hS1 => ?_)
  have hc9 : cA = G.2.2.2.1 := Option.some.inj ((hK1.2 4 (cA, .long) rfl).2.symm.trans (hK1.2 2 (G.2.2.2.1, .long) rfl).2)
  subst hc9
  exact kk q E H1 locs ls hP1 hD1 hS1 hl
theorem pb_zald {a N : Nat} {f : Nat → Int32} {i : Int32} (hd : decode (pi_c I) pc = .ok (.baload, 1)) (q0 : Nat) (ha : ws[q0]? = some (a, .inl (G.2.2.2.2.1, N, .inl f))) (hin : vp_in i N) (kk : pb_P l G M I (pc + 1) lo (.int (f i.toNatClampNeg) :: rest) ws ck cn) : pb_P l G M I pc lo (.int i :: .ref a :: rest) ws ck cn := fun E H locs ls hP hD hS hl => va_zald E.1 E.2.1 (pb_k E) hP q0 3 ha rfl hin hd (kk E H locs ls hP hD hS hl)
theorem pb_zast {a N : Nat} {f : Nat → Int32} {i : Int32} {x : Int32} {ws' : va_W} (hd : decode (pi_c I) pc = .ok (.bastore, 1)) (q0 : Nat) (ha : ws[q0]? = some (a, .inl (G.2.2.2.2.1, N, .inl f))) (hin : vp_in i N) (hw : ws.set q0 (a, .inl (G.2.2.2.2.1, N, .inl (upd f i.toNatClampNeg (vp_nar .boolean x)))) = ws') (kk : pb_P l G M I (pc + 1) lo rest ws' ck cn) : pb_P l G M I pc lo (.int x :: .int i :: .ref a :: rest) ws ck cn := by
  subst hw
  exact fun E H locs ls hP hD hS hl => va_zast E.1 E.2.1 (pb_k E) hP hD hS q0 3 ha rfl hin hd (fun H1 locs1 hP1 hD1 hS1 => kk E H1 locs1 ls hP1 hD1 hS1 hl)
theorem pb_newz {z : Int32} {N : Nat} (hd : decode (pi_c I) pc = .ok (.newarray .boolean, 2)) (harr : Cond.arrayClass .boolean ∈ uW) (hn : ¬ z < 0) (hN : z.toNatClampNeg = N) (hb : N * componentBytes .boolean ≤ 536870912) (hc : ck + 1 ≤ (pi_R I).cells) (hs : cn + N ≤ (pi_R I).slots) (kk : ∀ q : Nat, pb_P l G M I (pc + 2) lo (.ref q :: rest) (ws ++ [(q, .inl (G.2.2.2.2.1, N, .inl (fun _ => 0)))]) (ck + 1) (cn + N)) : pb_P l G M I pc lo (.int z :: rest) ws ck cn := fun E H locs ls hP hD hS hl => by
  refine va_newa (a0 := (N, .inl (fun _ => 0))) (N' := N) (ty := .boolean) E.1 E.2.1 (atype := .boolean) (pb_w E harr) rfl (pb_k E) hP hD hS (pb_hA E) (fun cA => rfl) hn hN hb hc hs hd (fun q cA H1 hK1 hP1 hD1 hS1 => ?_)
  have hc9 : cA = G.2.2.2.2.1 := Option.some.inj ((hK1.2 4 (cA, .boolean) rfl).2.symm.trans (hK1.2 3 (G.2.2.2.2.1, .boolean) rfl).2)
  subst hc9
  exact kk q E H1 locs ls hP1 hD1 hS1 hl
theorem pb_alen {a : Nat} {cA : ClassId} {x : vp_A} {v : Int32} (hd : decode (pi_c I) pc = .ok (.arraylength, 1)) (q0 t0 : Nat) (ha : ws[q0]? = some (a, .inl (cA, x))) {ty : FieldType} (ht : (pb_T G)[t0]? = some (cA, ty)) (hv : Int32.ofNat x.1 = v) (kk : pb_P l G M I (pc + 1) lo (.int v :: rest) ws ck cn) : pb_P l G M I pc lo (.ref a :: rest) ws ck cn := fun E H locs ls hP hD hS hl => va_alen E.1 E.2.1 (pb_k E) hP q0 t0 ha ht hv hd (kk E H locs ls hP hD hS hl)

theorem pb_ldc {v : Int32} {index : Nat} (hd : decode (pi_c I) pc = .ok (.ldc index, 2)) (hw : Cond.constant (pi_y I).cls index v ∈ uW) (kk : pb_P l G M I (pc + 2) lo (.int v :: rest) ws ck cn) : pb_P l G M I pc lo rest ws ck cn := fun E H locs ls hP hD hS hl => lv_ldc E.1 E.2.1 E.2.2.2.1 (pb_w E hw) hd (kk E H locs ls hP hD hS hl)
theorem pb_ldc2 {v : Int64} {index : Nat} (hd : decode (pi_c I) pc = .ok (.ldc2_w index, 3)) (hw : Cond.constantLong (pi_y I).cls index v ∈ uW) (kk : pb_P l G M I (pc + 3) lo (.long v :: rest) ws ck cn) : pb_P l G M I pc lo rest ws ck cn := fun E H locs ls hP hD hS hl => lv_ldc2 E.1 E.2.1 E.2.2.2.1 (pb_w E hw) hd (kk E H locs ls hP hD hS hl)
theorem pb_get {C : String} {T : u_T} {N ci index a : Nat} {fs : List Value} {v : Value} (hd : decode (pi_c I) pc = .ok (.getfield index, 3)) (q0 k : Nat) (he : ws[q0]? = some (a, .inr (ci, fs))) (hc : vwCl[ci]? = some (C, T, N)) (hk : k < N) (hin : ∀ w ∈ u_ws C T N, w ∈ uW) (hlink : Cond.fieldLink (pi_y I).cls index (T k).1 (T k).2.1 (T k).2.2.1 ∈ uW) (hv : fs[k]? = some v) (kk : pb_P l G M I (pc + 3) lo (v :: rest) ws ck cn) : pb_P l G M I pc lo (.ref a :: rest) ws ck cn := fun E H locs ls hP hD hS hl => va_get E.1 E.2.1 (pb_ws E) hin E.2.2.2.1 (pb_k E) hP q0 he hc k hk (pb_w E hlink) (fun _ h9 => h9) hv hd (kk E H locs ls hP hD hS hl)
theorem pb_getN {C host : String} {T : u_T} {N ci index a : Nat} {fs : List Value} {v : Value} (hd : decode (pi_c I) pc = .ok (.getfield index, 3)) (q0 k : Nat) (he : ws[q0]? = some (a, .inr (ci, fs))) (hc : vwCl[ci]? = some (C, T, N)) (hk : k < N) (hin : ∀ w ∈ u_ws C T N, w ∈ uW) (hlink : Cond.fieldLinkNest (pi_y I).cls index (T k).1 (T k).2.1 (T k).2.2.1 host ∈ uN) (hv : fs[k]? = some v) (kk : pb_P l G M I (pc + 3) lo (v :: rest) ws ck cn) : pb_P l G M I pc lo (.ref a :: rest) ws ck cn := fun E H locs ls hP hD hS hl => va_getN E.1 E.2.1 (pb_ws E) hin E.2.2.2.1 (pb_k E) hP q0 he hc k hk (pb_n E hlink) (fun _ h9 => h9) hv hd (kk E H locs ls hP hD hS hl)
theorem pb_put {C : String} {T : u_T} {N ci index a : Nat} {fs : List Value} {v : Value} {ty : FieldType} {ws' : va_W} (hd : decode (pi_c I) pc = .ok (.putfield index, 3)) (q0 k : Nat) (ty0 : Nat → FieldType) (hty : ∀ k, k < N → parseFieldDescriptor (T k).2.2.1 = some (ty0 k)) (hnm : ∀ a, a < N → ∀ b, b < N → a ≠ b → (T a).2.1 ≠ (T b).2.1) (he : ws[q0]? = some (a, .inr (ci, fs))) (hc : vwCl[ci]? = some (C, T, N)) (hk : k < N) (hin : ∀ w ∈ u_ws C T N, w ∈ uW) (hlink : Cond.fieldLink (pi_y I).cls index (T k).1 (T k).2.1 (T k).2.2.1 ∈ uW) (hfin : (T k).2.2.2 = false) (h3 : parseFieldDescriptor (T k).2.2.1 = some ty) (h4 : narrow ty v = v) (h5 : fits ty v = true) (h6 : k < fs.length) (hw : ws.set q0 (a, .inr (ci, fs.set k v)) = ws') (kk : pb_P l G M I (pc + 3) lo rest ws' ck cn) : pb_P l G M I pc lo (v :: .ref a :: rest) ws ck cn := by
  subst hw
  exact fun E H locs ls hP hD hS hl => va_put E.1 E.2.1 (pb_ws E) hin ty0 hty hnm E.2.2.2.1 (pb_k E) hP hD hS q0 he hc k hk (pb_w E hlink) (fun _ h9 => h9) hfin h3 h4 h5 h6 hd (fun H1 locs1 hP1 hD1 hS1 => kk E H1 locs1 ls hP1 hD1 hS1 hl)
theorem pb_putN {C host : String} {T : u_T} {N ci index a : Nat} {fs : List Value} {v : Value} {ty : FieldType} {ws' : va_W} (hd : decode (pi_c I) pc = .ok (.putfield index, 3)) (q0 k : Nat) (ty0 : Nat → FieldType) (hty : ∀ k, k < N → parseFieldDescriptor (T k).2.2.1 = some (ty0 k)) (hnm : ∀ a, a < N → ∀ b, b < N → a ≠ b → (T a).2.1 ≠ (T b).2.1) (he : ws[q0]? = some (a, .inr (ci, fs))) (hc : vwCl[ci]? = some (C, T, N)) (hk : k < N) (hin : ∀ w ∈ u_ws C T N, w ∈ uW) (hlink : Cond.fieldLinkNest (pi_y I).cls index (T k).1 (T k).2.1 (T k).2.2.1 host ∈ uN) (hfin : (T k).2.2.2 = false) (h3 : parseFieldDescriptor (T k).2.2.1 = some ty) (h4 : narrow ty v = v) (h5 : fits ty v = true) (h6 : k < fs.length) (hw : ws.set q0 (a, .inr (ci, fs.set k v)) = ws') (kk : pb_P l G M I (pc + 3) lo rest ws' ck cn) : pb_P l G M I pc lo (v :: .ref a :: rest) ws ck cn := by
  subst hw
  exact fun E H locs ls hP hD hS hl => va_putN E.1 E.2.1 (pb_ws E) hin ty0 hty hnm E.2.2.2.1 (pb_k E) hP hD hS q0 he hc k hk (pb_n E hlink) (fun _ h9 => h9) hfin h3 h4 h5 h6 hd (fun H1 locs1 hP1 hD1 hS1 => kk E H1 locs1 ls hP1 hD1 hS1 hl)
theorem pb_putF {C : String} {T : u_T} {N ci index a : Nat} {fs : List Value} {v : Value} {ty : FieldType} {ws' : va_W} (hd : decode (pi_c I) pc = .ok (.putfield index, 3)) (q0 k : Nat) (ty0 : Nat → FieldType) (hty : ∀ k, k < N → parseFieldDescriptor (T k).2.2.1 = some (ty0 k)) (hnm : ∀ a, a < N → ∀ b, b < N → a ≠ b → (T a).2.1 ≠ (T b).2.1) (he : ws[q0]? = some (a, .inr (ci, fs))) (hc : vwCl[ci]? = some (C, T, N)) (hk : k < N) (hin : ∀ w ∈ u_ws C T N, w ∈ uW) (hlink : Cond.fieldLink (pi_y I).cls index (T k).1 (T k).2.1 (T k).2.2.1 ∈ uW) (hfin : (T k).2.2.2 = true) (hin2 : (pi_y I).name = "<init>") (hdecl : (T k).1 = (pi_y I).cls) (h3 : parseFieldDescriptor (T k).2.2.1 = some ty) (h4 : narrow ty v = v) (h5 : fits ty v = true) (h6 : k < fs.length) (hw : ws.set q0 (a, .inr (ci, fs.set k v)) = ws') (kk : pb_P l G M I (pc + 3) lo rest ws' ck cn) : pb_P l G M I pc lo (v :: .ref a :: rest) ws ck cn := by
  subst hw
  exact fun E H locs ls hP hD hS hl => va_putF E.1 E.2.1 (pb_ws E) hin ty0 hty hnm E.2.2.2.1 (pb_k E) hP hD hS q0 he hc k hk (pb_w E hlink) (fun _ h9 => h9) hfin (pb_name E hin2) hdecl h3 h4 h5 h6 hd (fun H1 locs1 hP1 hD1 hS1 => kk E H1 locs1 ls hP1 hD1 hS1 hl)
theorem pb_new {C : String} {T : u_T} {N ci index : Nat} {fs : List Value} (hd : decode (pi_c I) pc = .ok (.new index, 3)) (ty : Nat → FieldType) (hty : ∀ k, k < N → parseFieldDescriptor (T k).2.2.1 = some (ty k)) (hc : vwCl[ci]? = some (C, T, N)) (hin : ∀ w ∈ u_ws C T N, w ∈ uW) (h1 : Cond.classLink (pi_y I).cls index C ∈ uW) (h2 : Cond.instantiable C N ∈ uW) (h3 : Cond.initialized C ∈ uW) (hfs : ∀ j, j < N → defaultValue (ty j) = vp_V fs j) (h4 : ck + 1 ≤ (pi_R I).cells) (h5 : cn + N ≤ (pi_R I).slots) (kk : ∀ q : Nat, pb_P l G M I (pc + 3) lo (.ref q :: rest) (ws ++ [(q, .inr (ci, fs))]) (ck + 1) (cn + N)) : pb_P l G M I pc lo rest ws ck cn := fun E H locs ls hP hD hS hl => va_new E.1 E.2.1 (pb_ws E) hin ty hty E.2.2.2.1 (pb_w E h1) (pb_w E h2) (pb_w E h3) (pb_k E) hP hD hS (pb_hA E) hc hfs h4 h5 hd (fun q H1 hP1 hD1 hS1 => kk q E H1 locs ls hP1 hD1 hS1 hl)
theorem pb_objInit {a index : Nat} (hd : decode (pi_c I) pc = .ok (.invokespecial index, 3)) (h1 : Cond.methodLink (pi_y I).cls index Lib.objectInit ∈ uW) (h2 : Cond.instanceMethod Lib.objectInit ∈ uW) (h3 : Cond.code Lib.objectInit ⟨#[0xb1]⟩ 1 none ∈ uW) (h4 : 1 ≤ (pi_R I).frames) (h5 : (rest.map fun v => v.category).sum + 12 ≤ (pi_R I).locals) (kk : pb_P l G M I (pc + 3) lo rest ws ck cn) : pb_P l G M I pc lo (.ref a :: rest) ws ck cn := fun E H locs ls hP hD hS hl => W.objInit E.1 E.2.1 E.2.2.2.1 (pb_w E h1) (pb_w E h2) (pb_w E h3) rfl (by rw [E.2.2.1]; exact hl.1) rfl hd h4 (by show 2 * 0 + _ + 12 ≤ _; omega) (kk E H locs ls hP hD hS hl)

/-- what a contract leaves behind: an answer v, a picture u of what came of the world -/
def cn_Q {S : Type} (G : pb_G) (A : Nat → Prop) (post : Option Value → S → Prop) (w1 : S → va_W) : Array Value → State → Outcome → State → Prop := fun _ s0 oc t =>
  (∃ (v : Option Value) (u : S), oc = .returned v ∧ post v u ∧ va_P G.1 vwCl (w1 u) t.heap ∧ va_D A (w1 u)) ∧ va_F A s0 t
def cn_B (G : pb_G) (w0 : va_W) (sz : Nat) (U : State) : Prop := U.heap.size = sz ∧ va_P G.1 vwCl w0 U.heap ∧ va_K G.1 vwCl (pb_T G) U ∧ va_D (fun _ => True) w0 ∧ pb_Z G.2.2.2.2.2 (va_A w0 sz) U U.heap
/-- a contract: method I with these arguments in the world w0 returns v with the world w1 u, where post v u -/
def Cn (l : Launch) (G : pb_G) (I : pb_I) (as : List Value) (w0 : va_W) {S : Type} (post : Option Value → S → Prop) (w1 : S → va_W) : Prop :=
  ∀ sz : Nat, Met l (pi_y I) (pi_w I) (pi_R I) (va_Pc as (cn_B G w0 sz)) (cn_Q G (va_A w0 sz) post w1) (pi_R I).cells (pi_R I).slots (va_A w0 sz)
/-- the goal of a method that only returns -/
def pb_Rq {S : Type} (G : pb_G) (M : pb_M) (I : pb_I) (post : Option Value → S → Prop) (w1 : S → va_W) : Prop :=
  pm_Q M = MQ (pm_b M) (cn_Q G (pm_A M) post w1) (pm_a M) (pm_s M) (pi_R I).cells (pi_R I).slots (pm_A M)
theorem pb_iret {S : Type} {post : Option Value → S → Prop} {w1 : S → va_W} {v : Int32} (hQ : pb_Rq G M I post w1) (hd : decode (pi_c I) pc = .ok (.ireturn, 1)) {ty : FieldType} (hr : pi_r I = some ty) (hn : narrow ty (.int v) = .int v) (u : S) (hp : post (some (.int v)) u) (is : List Nat) (h1 : va_nd is = true) (h2 : is.map (fun i => ws[i]?) = (w1 u).map some) (h3 : is.filterMap (fun i => ws[i]?) = w1 u) (h4 : ck ≤ (pi_R I).cells) (h5 : cn ≤ (pi_R I).slots) : pb_P l G M I pc lo [.int v] ws ck cn := fun E H locs ls hP hD hS hl => by
  refine W.widen h4 h5 ?_
  rw [show pm_Q M = _ from hQ]
  exact W.zret E.1 E.2.1 ((pb_ret E).trans hr) hn (fun t ht hW => ⟨⟨_, u, rfl, hp, by rw [ht]; exact hP.sub is h3, hD.sub is h1 h2⟩, hS.F ht⟩) hS.2.2 hd (pb_lock E)
theorem pb_vret {S : Type} {post : Option Value → S → Prop} {w1 : S → va_W} (hQ : pb_Rq G M I post w1) (hd : decode (pi_c I) pc = .ok (.return_, 1)) (hr : pi_r I = none) (u : S) (hp : post none u) (is : List Nat) (h1 : va_nd is = true) (h2 : is.map (fun i => ws[i]?) = (w1 u).map some) (h3 : is.filterMap (fun i => ws[i]?) = w1 u) (h4 : ck ≤ (pi_R I).cells) (h5 : cn ≤ (pi_R I).slots) : pb_P l G M I pc lo [] ws ck cn := fun E H locs ls hP hD hS hl => by
  refine W.widen h4 h5 ?_
  rw [show pm_Q M = _ from hQ]
  exact W.vret E.1 E.2.1 ((pb_ret E).trans hr) (fun t ht hW => ⟨⟨_, u, rfl, hp, by rw [ht]; exact hP.sub is h3, hD.sub is h1 h2⟩, hS.F ht⟩) hS.2.2 hd (pb_lock E)
theorem pb_lret {S : Type} {post : Option Value → S → Prop} {w1 : S → va_W} {v : Int64} (hQ : pb_Rq G M I post w1) (hd : decode (pi_c I) pc = .ok (.lreturn, 1)) (hr : pi_r I = some .long) (u : S) (hp : post (some (.long v)) u) (is : List Nat) (h1 : va_nd is = true) (h2 : is.map (fun i => ws[i]?) = (w1 u).map some) (h3 : is.filterMap (fun i => ws[i]?) = w1 u) (h4 : ck ≤ (pi_R I).cells) (h5 : cn ≤ (pi_R I).slots) : pb_P l G M I pc lo [.long v] ws ck cn := fun E H locs ls hP hD hS hl => by
  refine W.widen h4 h5 ?_
  rw [show pm_Q M = _ from hQ]
  exact W.lret E.1 E.2.1 ((pb_ret E).trans hr) (fun t ht hW => ⟨⟨_, u, rfl, hp, by rw [ht]; exact hP.sub is h3, hD.sub is h1 h2⟩, hS.F ht⟩) hS.2.2 hd (pb_lock E)
theorem Cn.of {S : Type} {as : List Value} {w0 : va_W} {post : Option Value → S → Prop} {w1 : S → va_W} (hl : l.stackTraces = false) (hy : plainName (pi_y I).cls = true) (hw : pi_d I = .code (pi_y I) (pi_c I) (pi_n I) (pi_r I)) (hn : (lg_sl as).length ≤ pi_n I)
    (body : ∀ M : pb_M, pb_Rq G M I post w1 → pb_P l G M I 0 (lv_args 0 as) [] w0 0 0) : Cn l G I as w0 post w1 := by
  intro sz
  refine Met.ofW (cc := pi_c I) (maxL := pi_n I) (ret := pi_r I) hy (pb_hw hw) ?_
  intro p e s m args below meth c s₁ B hml hv
  obtain ⟨rfl, hsz, hP, hK, hD0, hZ⟩ := hv
  subst hsz
  have hl9 := lv_entry as hn
  rw [lg_entry_eq]
  exact body ((p, e, s, m, as.toArray), (below, meth, c), (va_A w0 s.heap.size, MQ below (cn_Q G (va_A w0 s.heap.size) post w1) as.toArray s (pi_R I).cells (pi_R I).slots (va_A w0 s.heap.size))) rfl
    ⟨B.exec, B.bytes, hml, findClass_of_methodNamed B.named, fun w h => atoms_spec (ws := pi_w I) B.pre w (List.mem_cons_of_mem _ h), hK, fun q h => Or.inr h, B.notSynchronized, fun h9 => (name_of_methodNamed B.named B.method).1.trans h9, B.returns, hl, hZ⟩ s.heap [] _ hP hD0.self va_S.rf hl9
def cn_st (v : Option Value) (r : List Value) : List Value := match v with
  | none => r
  | some x => x :: r
theorem cn_st_eq (v : Option Value) (r : List Value) : v.toList ++ r = cn_st v r := by cases v <;> rfl
theorem cn_blind {G : pb_G} {as : List Value} {w0 : va_W} {sz : Nat} : FrameBlind (va_Pc as (cn_B G w0 sz)) := by
  intro a U g mk q
  obtain ⟨q0, q1, qP, qK, qD, qZ⟩ := q
  exact ⟨q0, q1, qP, va_K.moved (u := U) (U := U.calling g mk a) (Vm.Alike.refl U.vm) qK, qD, pb_Z.same (u := U) (U := U.calling g mk a) rfl qZ⟩
theorem cn_pre {as : List Value} {w0 : va_W} (E : pb_Ev l G M I) {H : Heap} {locs : List Loc} (hP : va_P G.1 vwCl ws H) (hD : va_D (pm_A M) ws) (hS : va_S (pm_A M) (pm_s M).heap H locs) (isC : List Nat) (h0 : va_nd isC = true) (hC : isC.map (fun i => ws[i]?) = w0.map some) (hC2 : isC.filterMap (fun i => ws[i]?) = w0) :
    ∀ U : State, U.heap = H → (pm_s M).WarmedH U.vm → va_Pc as (cn_B G w0 H.size) as.toArray U := by
  intro U hU hW
  refine ⟨rfl, by rw [hU], by rw [hU]; exact hP.sub isC hC2, va_K.moved hW.alike (pb_k E), (hD.sub isC h0 hC).weaken (fun _ _ _ _ => trivial), ?_⟩
  rw [hU]
  exact pb_Z.warm hW (pb_Z.narrow (va_free hD hS (pb_hA E) isC hC) ((pb_z E).kept hS))
theorem cn_go {S : Type} {post : Option Value → S → Prop} {w1 : S → va_W} {w0 wr : va_W} {a : Array Value} {mc ms : Nat} {st0 : List Value} {ls : Array Slot} {H : Heap} {locs : List Loc} (E : pb_Ev l G M I) (hP : va_P G.1 vwCl ws H) (hD : va_D (pm_A M) ws) (hS : va_S (pm_A M) (pm_s M).heap H locs) (hl : lv_has ls (pi_n I) lo)
    (isC isR : List Nat) (hC : isC.map (fun i => ws[i]?) = w0.map some) (hR : isR.map (fun i => ws[i]?) = wr.map some) (hn : va_nd isR = true) (hdis : ∀ i ∈ isR, i ∉ isC)
    (hr : va_Run (pm_p M) l (pm_e M) (pi_R I) (pm_s M) (pm_m M) (pm_a M) (pm_b M) (pm_h M) (pm_c M) H locs ck cn mc ms (F0 (pm_m M) pc ls st0) rest (cn_Q G (va_A w0 H.size) post w1 a) (va_A w0 H.size))
    (kk : ∀ (v : Option Value) (u : S), post v u → pb_P l G M I (pc + 3) lo (cn_st v rest) (wr ++ w1 u) (ck + mc) (cn + ms)) :
    W (pm_p M) l (pm_e M) (pi_R I) (pm_s M) (pm_m M) (pm_a M) (pm_b M) (pm_h M) (pm_c M) H locs ck cn (pm_Q M) (F0 (pm_m M) pc ls st0) := by
  have hF := va_free hD hS (pb_hA E) isC hC
  intro T hT X
  obtain ⟨v, st₀, t, T', L, h0, X', hL, e1, e2, ⟨⟨v', u, hv, hp, hP1, hD1⟩, hz, hk⟩, st⟩ := hr T hT X
  cases hv
  rw [h0] at hz hk
  rw [← e1] at hP1 hz hk
  obtain ⟨hP2, hD2⟩ := va_join hP hD isC isR hC hR hn hdis hk hF hP1 hD1
  obtain ⟨t2, a1, b1⟩ := kk v u hp E T'.heap (locs ++ L) ls hP2 hD2
    ⟨Nat.le_trans hS.1 hz, fun q h1 h2 => by rw [hk q (Nat.lt_of_lt_of_le h1 hS.1) (fun z => h2 (hF q z))]; exact hS.2.1 q h1 h2, fun q hq => by
      rcases List.mem_append.mp hq with h | h
      · exact hS.2.2 q h
      · exact hF _ (hL q h)⟩ hl T' rfl X'
  rw [← cn_st_eq] at a1
  exact ⟨t2, st t2 a1, b1⟩
/-- a call of a constructor -/
theorem pb_callI {S : Type} {J : pb_I} {nA : Nat} {as : List Value} {b index : Nat} {w0 wr : va_W} {post : Option Value → S → Prop} {w1 : S → va_W} (hd : decode (pi_c I) pc = .ok (.invokespecial index, 3)) (hM : Cn l G J (.ref b :: as) w0 post w1)
    (isC isR : List Nat) (h0 : va_nd isC = true) (hC : isC.map (fun i => ws[i]?) = w0.map some) (hC2 : isC.filterMap (fun i => ws[i]?) = w0) (hR : isR.map (fun i => ws[i]?) = wr.map some) (hn : va_nd isR = true) (hdis : ∀ i ∈ isR, i ∉ isC)
    (hcd : pi_d J ∈ uW) (hw : pi_d J = .code (pi_y J) (pi_c J) (pi_n J) none) (hini : Cond.initialized (pi_y J).cls ∈ uW) (hlk : Cond.methodLink (pi_y I).cls index (pi_y J) ∈ uW) (hin : Cond.instanceMethod (pi_y J) ∈ uW) (hy1 : (pi_y J).name = "<init>")
    (hy : (pi_y J).cls ≠ "java/lang/invoke/MethodHandle" ∧ (pi_y J).cls ≠ "java/lang/invoke/VarHandle" ∧ (parseMethodDescriptor (pi_y J).desc).map (fun d => d.parameters.length) = some nA) (hRm : (pi_R J).frames + 1 ≤ (pi_R I).frames ∧ 8 + (pi_n J + 11) + (pi_R J).locals ≤ (pi_R I).locals) (hA9 : as.length = nA)
    {st0 : List Value} (hst : st0 = as.reverse ++ .ref b :: rest) (h8 : (rest.map fun v => v.category).sum ≤ 8) (hf : ck + (pi_R J).cells ≤ (pi_R I).cells ∧ cn + (pi_R J).slots ≤ (pi_R I).slots)
    (kk : ∀ (v : Option Value) (u : S), post v u → pb_P l G M I (pc + 3) lo (cn_st v rest) (wr ++ w1 u) (ck + (pi_R J).cells) (cn + (pi_R J).slots)) : pb_P l G M I pc lo st0 ws ck cn := fun E H locs ls hP hD hS hl => by
  subst hst
  refine cn_go E hP hD hS hl isC isR hC hR hn hdis (va_runI (As := as) (b := b) ⟨E.1, E.2.1, E.2.2.1, E.2.2.2.1, pb_ws E⟩ (hM H.size) (cwI nA (pb_ws E) (pb_gd hcd) (pb_hw hw) rfl rfl (pb_w E hini) (pb_w E hlk) (pb_w E hin) hy1 hy hRm) ⟨cn_blind, cn_pre E hP hD hS isC h0 hC hC2⟩ rfl hA9 hl.1 rfl (lv_room h8) hd hf) kk
theorem pb_callIN {S : Type} {J : pb_I} {nA : Nat} {as : List Value} {b index : Nat} {host : String} {w0 wr : va_W} {post : Option Value → S → Prop} {w1 : S → va_W} (hd : decode (pi_c I) pc = .ok (.invokespecial index, 3)) (hM : Cn l G J (.ref b :: as) w0 post w1)
    (isC isR : List Nat) (h0 : va_nd isC = true) (hC : isC.map (fun i => ws[i]?) = w0.map some) (hC2 : isC.filterMap (fun i => ws[i]?) = w0) (hR : isR.map (fun i => ws[i]?) = wr.map some) (hn : va_nd isR = true) (hdis : ∀ i ∈ isR, i ∉ isC)
    (hcd : pi_d J ∈ uW) (hw : pi_d J = .code (pi_y J) (pi_c J) (pi_n J) none) (hini : Cond.initialized (pi_y J).cls ∈ uW) (hlk : Cond.methodLinkNest (pi_y I).cls index (pi_y J) host ∈ uN) (hin : Cond.instanceMethod (pi_y J) ∈ uW) (hy1 : (pi_y J).name = "<init>")
    (hy : (pi_y J).cls ≠ "java/lang/invoke/MethodHandle" ∧ (pi_y J).cls ≠ "java/lang/invoke/VarHandle" ∧ (parseMethodDescriptor (pi_y J).desc).map (fun d => d.parameters.length) = some nA) (hRm : (pi_R J).frames + 1 ≤ (pi_R I).frames ∧ 8 + (pi_n J + 11) + (pi_R J).locals ≤ (pi_R I).locals) (hA9 : as.length = nA)
    {st0 : List Value} (hst : st0 = as.reverse ++ .ref b :: rest) (h8 : (rest.map fun v => v.category).sum ≤ 8) (hf : ck + (pi_R J).cells ≤ (pi_R I).cells ∧ cn + (pi_R J).slots ≤ (pi_R I).slots)
    (kk : ∀ (v : Option Value) (u : S), post v u → pb_P l G M I (pc + 3) lo (cn_st v rest) (wr ++ w1 u) (ck + (pi_R J).cells) (cn + (pi_R J).slots)) : pb_P l G M I pc lo st0 ws ck cn := fun E H locs ls hP hD hS hl => by
  subst hst
  refine cn_go E hP hD hS hl isC isR hC hR hn hdis (va_runIN (As := as) (b := b) ⟨E.1, E.2.1, E.2.2.1, E.2.2.2.1, pb_ws E⟩ (hM H.size) ⟨va_cnB nA (pb_ws E) (pb_gd hcd) (pb_hw hw) rfl rfl (va_Nw.of rfl (pb_n E hlk)) (pb_w E hini) hy hRm, hy1, pb_w E hin⟩ ⟨cn_blind, cn_pre E hP hD hS isC h0 hC hC2⟩ rfl hA9 hl.1 rfl (lv_room h8) hd hf) kk
/-- a call of a static method -/
theorem pb_callS {S : Type} {J : pb_I} {nA : Nat} {as : List Value} {index : Nat} {w0 wr : va_W} {post : Option Value → S → Prop} {w1 : S → va_W} (hd : decode (pi_c I) pc = .ok (.invokestatic index, 3)) (hM : Cn l G J as w0 post w1)
    (isC isR : List Nat) (h0 : va_nd isC = true) (hC : isC.map (fun i => ws[i]?) = w0.map some) (hC2 : isC.filterMap (fun i => ws[i]?) = w0) (hR : isR.map (fun i => ws[i]?) = wr.map some) (hn : va_nd isR = true) (hdis : ∀ i ∈ isR, i ∉ isC)
    (hcd : pi_d J ∈ uW) (hw : pi_d J = .code (pi_y J) (pi_c J) (pi_n J) (pi_r J)) (hini : Cond.initialized (pi_y J).cls ∈ uW) (hlk : Cond.methodLink (pi_y I).cls index (pi_y J) ∈ uW) (hst9 : Cond.static (pi_y J) ∈ uW)
    (hy : (pi_y J).cls ≠ "java/lang/invoke/MethodHandle" ∧ (pi_y J).cls ≠ "java/lang/invoke/VarHandle" ∧ (parseMethodDescriptor (pi_y J).desc).map (fun d => d.parameters.length) = some nA) (hRm : (pi_R J).frames + 1 ≤ (pi_R I).frames ∧ 8 + (pi_n J + 11) + (pi_R J).locals ≤ (pi_R I).locals) (hA9 : as.length = nA)
    {st0 : List Value} (hst : st0 = as.reverse ++ rest) (h8 : (rest.map fun v => v.category).sum ≤ 8) (hf : ck + (pi_R J).cells ≤ (pi_R I).cells ∧ cn + (pi_R J).slots ≤ (pi_R I).slots)
    (kk : ∀ (v : Option Value) (u : S), post v u → pb_P l G M I (pc + 3) lo (cn_st v rest) (wr ++ w1 u) (ck + (pi_R J).cells) (cn + (pi_R J).slots)) : pb_P l G M I pc lo st0 ws ck cn := fun E H locs ls hP hD hS hl => by
  subst hst
  refine cn_go E hP hD hS hl isC isR hC hR hn hdis (va_runS (As := as) ⟨E.1, E.2.1, E.2.2.1, E.2.2.2.1, pb_ws E⟩ (hM H.size) (va_cwS nA (pb_ws E) (pb_gdS hcd hlk hst9 hini) (pb_hw hw) rfl rfl hy hRm) ⟨cn_blind, cn_pre E hP hD hS isC h0 hC hC2⟩ rfl hA9 hl.1 rfl (lv_room h8) hd hf) kk
theorem pb_callSN {S : Type} {J : pb_I} {nA : Nat} {as : List Value} {index : Nat} {host : String} {w0 wr : va_W} {post : Option Value → S → Prop} {w1 : S → va_W} (hd : decode (pi_c I) pc = .ok (.invokestatic index, 3)) (hM : Cn l G J as w0 post w1)
    (isC isR : List Nat) (h0 : va_nd isC = true) (hC : isC.map (fun i => ws[i]?) = w0.map some) (hC2 : isC.filterMap (fun i => ws[i]?) = w0) (hR : isR.map (fun i => ws[i]?) = wr.map some) (hn : va_nd isR = true) (hdis : ∀ i ∈ isR, i ∉ isC)
    (hcd : pi_d J ∈ uW) (hw : pi_d J = .code (pi_y J) (pi_c J) (pi_n J) (pi_r J)) (hini : Cond.initialized (pi_y J).cls ∈ uW) (hlk : Cond.methodLinkNest (pi_y I).cls index (pi_y J) host ∈ uN) (hst9 : Cond.static (pi_y J) ∈ uW)
    (hy : (pi_y J).cls ≠ "java/lang/invoke/MethodHandle" ∧ (pi_y J).cls ≠ "java/lang/invoke/VarHandle" ∧ (parseMethodDescriptor (pi_y J).desc).map (fun d => d.parameters.length) = some nA) (hRm : (pi_R J).frames + 1 ≤ (pi_R I).frames ∧ 8 + (pi_n J + 11) + (pi_R J).locals ≤ (pi_R I).locals) (hA9 : as.length = nA)
    {st0 : List Value} (hst : st0 = as.reverse ++ rest) (h8 : (rest.map fun v => v.category).sum ≤ 8) (hf : ck + (pi_R J).cells ≤ (pi_R I).cells ∧ cn + (pi_R J).slots ≤ (pi_R I).slots)
    (kk : ∀ (v : Option Value) (u : S), post v u → pb_P l G M I (pc + 3) lo (cn_st v rest) (wr ++ w1 u) (ck + (pi_R J).cells) (cn + (pi_R J).slots)) : pb_P l G M I pc lo st0 ws ck cn := fun E H locs ls hP hD hS hl => by
  subst hst
  refine cn_go E hP hD hS hl isC isR hC hR hn hdis (va_runSN (As := as) ⟨E.1, E.2.1, E.2.2.1, E.2.2.2.1, pb_ws E⟩ (hM H.size) ⟨va_cnB nA (pb_ws E) (pb_gd hcd) (pb_hw hw) rfl rfl (va_Nw.of rfl (pb_n E hlk)) (pb_w E hini) hy hRm, pb_w E hst9, trivial⟩ ⟨cn_blind, cn_pre E hP hD hS isC h0 hC hC2⟩ rfl hA9 hl.1 rfl (lv_room h8) hd hf) kk
/-- a call of an object's method -/
theorem pb_callV {S : Type} {J : pb_I} {nA : Nat} {as : List Value} {b index qb ci N : Nat} {T : u_T} {fs : List Value} {w0 wr : va_W} {post : Option Value → S → Prop} {w1 : S → va_W} (hd : decode (pi_c I) pc = .ok (.invokevirtual index, 3)) (hM : Cn l G J (.ref b :: as) w0 post w1)
    (hb : ws[qb]? = some (b, .inr (ci, fs))) (hc : vwCl[ci]? = some ((pi_y J).cls, T, N))
    (isC isR : List Nat) (h0 : va_nd isC = true) (hC : isC.map (fun i => ws[i]?) = w0.map some) (hC2 : isC.filterMap (fun i => ws[i]?) = w0) (hR : isR.map (fun i => ws[i]?) = wr.map some) (hn : va_nd isR = true) (hdis : ∀ i ∈ isR, i ∉ isC)
    (hcd : pi_d J ∈ uW) (hw : pi_d J = .code (pi_y J) (pi_c J) (pi_n J) (pi_r J)) (hini : Cond.initialized (pi_y J).cls ∈ uW) (hlk : Cond.methodLink (pi_y I).cls index (pi_y J) ∈ uW) (hin : Cond.instanceMethod (pi_y J) ∈ uW) (hsel : Cond.selects (pi_y J).cls (pi_y J) (pi_y J) ∈ uW)
    (hy : (pi_y J).cls = (pi_y J).cls ∧ (pi_y J).cls ≠ "java/lang/invoke/MethodHandle" ∧ (pi_y J).cls ≠ "java/lang/invoke/VarHandle" ∧ (parseMethodDescriptor (pi_y J).desc).map (fun d => d.parameters.length) = some nA) (hRm : (pi_R J).frames + 1 ≤ (pi_R I).frames ∧ 8 + (pi_n J + 11) + (pi_R J).locals ≤ (pi_R I).locals) (hA9 : as.length = nA)
    {st0 : List Value} (hst : st0 = as.reverse ++ .ref b :: rest) (h8 : (rest.map fun v => v.category).sum ≤ 8) (hf : ck + (pi_R J).cells ≤ (pi_R I).cells ∧ cn + (pi_R J).slots ≤ (pi_R I).slots)
    (kk : ∀ (v : Option Value) (u : S), post v u → pb_P l G M I (pc + 3) lo (cn_st v rest) (wr ++ w1 u) (ck + (pi_R J).cells) (cn + (pi_R J).slots)) : pb_P l G M I pc lo st0 ws ck cn := fun E H locs ls hP hD hS hl => by
  subst hst
  refine cn_go E hP hD hS hl isC isR hC hR hn hdis (va_runV (As := as) (b := b) (C := (pi_y J).cls) ⟨E.1, E.2.1, E.2.2.1, E.2.2.2.1, pb_ws E⟩ (hM H.size) (cwV nA (pb_ws E) (pb_gdV hcd hlk hin hsel hini) (pb_hw hw) rfl rfl hy hRm) ⟨cn_blind, va_recv (pb_k E) hP hc hb, cn_pre E hP hD hS isC h0 hC hC2⟩ rfl hA9 hl.1 rfl (lv_room h8) hd hf) kk
theorem pb_callVN {S : Type} {J : pb_I} {nA : Nat} {as : List Value} {b index qb ci N : Nat} {host : String} {T : u_T} {fs : List Value} {w0 wr : va_W} {post : Option Value → S → Prop} {w1 : S → va_W} (hd : decode (pi_c I) pc = .ok (.invokevirtual index, 3)) (hM : Cn l G J (.ref b :: as) w0 post w1)
    (hb : ws[qb]? = some (b, .inr (ci, fs))) (hc : vwCl[ci]? = some ((pi_y J).cls, T, N))
    (isC isR : List Nat) (h0 : va_nd isC = true) (hC : isC.map (fun i => ws[i]?) = w0.map some) (hC2 : isC.filterMap (fun i => ws[i]?) = w0) (hR : isR.map (fun i => ws[i]?) = wr.map some) (hn : va_nd isR = true) (hdis : ∀ i ∈ isR, i ∉ isC)
    (hcd : pi_d J ∈ uW) (hw : pi_d J = .code (pi_y J) (pi_c J) (pi_n J) (pi_r J)) (hini : Cond.initialized (pi_y J).cls ∈ uW) (hlk : Cond.methodLinkNest (pi_y I).cls index (pi_y J) host ∈ uN) (hin : Cond.instanceMethod (pi_y J) ∈ uW) (hsel : Cond.selects (pi_y J).cls (pi_y J) (pi_y J) ∈ uW)
    (hy : (pi_y J).cls ≠ "java/lang/invoke/MethodHandle" ∧ (pi_y J).cls ≠ "java/lang/invoke/VarHandle" ∧ (parseMethodDescriptor (pi_y J).desc).map (fun d => d.parameters.length) = some nA) (hRm : (pi_R J).frames + 1 ≤ (pi_R I).frames ∧ 8 + (pi_n J + 11) + (pi_R J).locals ≤ (pi_R I).locals) (hA9 : as.length = nA)
    {st0 : List Value} (hst : st0 = as.reverse ++ .ref b :: rest) (h8 : (rest.map fun v => v.category).sum ≤ 8) (hf : ck + (pi_R J).cells ≤ (pi_R I).cells ∧ cn + (pi_R J).slots ≤ (pi_R I).slots)
    (kk : ∀ (v : Option Value) (u : S), post v u → pb_P l G M I (pc + 3) lo (cn_st v rest) (wr ++ w1 u) (ck + (pi_R J).cells) (cn + (pi_R J).slots)) : pb_P l G M I pc lo st0 ws ck cn := fun E H locs ls hP hD hS hl => by
  subst hst
  refine cn_go E hP hD hS hl isC isR hC hR hn hdis (va_runVN (As := as) (b := b) (C := (pi_y J).cls) ⟨E.1, E.2.1, E.2.2.1, E.2.2.2.1, pb_ws E⟩ (hM H.size) ⟨va_cnB nA (pb_ws E) (pb_gd hcd) (pb_hw hw) rfl rfl (va_Nw.of rfl (pb_n E hlk)) (pb_w E hini) hy hRm, pb_w E hin, pb_w E hsel⟩ ⟨cn_blind, va_recv (pb_k E) hP hc hb, cn_pre E hP hD hS isC h0 hC hC2⟩ rfl hA9 hl.1 rfl (lv_room h8) hd hf) kk

theorem pb_re {ws' : va_W} {lo' : List (Nat × Value)} (is ks : List Nat) (h1 : va_nd is = true) (h2 : is.map (fun i => ws[i]?) = ws'.map some) (h3 : is.filterMap (fun i => ws[i]?) = ws') (h4 : lv_pick lo ks = lo') (kk : pb_P l G M I pc lo' rest ws' ck cn) : pb_P l G M I pc lo rest ws ck cn := fun E H locs ls hP hD hS hl => kk E H locs ls (hP.sub is h3) (hD.sub is h1 h2) hS (lv_sub hl ks h4)
theorem pb_iincN {i : Nat} {z : Int} {x c : Int32} (hd : decode (pi_c I) pc = .ok (.iinc i z, 3)) (j : Nat) (hj : lo[j]? = some (i, .int x)) (hz : Int32.ofInt z = c) (hn : i < pi_n I) (kk : ∀ y : Int32, y = x + c → pb_P l G M I (pc + 3) ((i, Value.int y) :: lo.filter (fun q => !(q.1 == i) && !(q.1 + 1 == i && q.2.category == 2))) rest ws ck cn) : pb_P l G M I pc lo rest ws ck cn := by
  subst hz
  exact pb_iinc hd j hj rfl hn rfl (kk _ rfl)
theorem pb_gets3 {index : Nat} (hd : decode (pi_c I) pc = .ok (.getstatic index, 3)) (hlk : Cond.fieldLink (pi_y I).cls index "PackageBook$Expander" "THIRD_ORDER" "[I" ∈ uW) (kk : ∀ t : Nat, va_T .int t 19 (fun j => .int (pb_third.getD j 0)) (pm_A M) (pm_s M) (pm_s M).heap → pb_P l G M I (pc + 3) lo (.ref t :: rest) ws ck cn) : pb_P l G M I pc lo rest ws ck cn := fun E H locs ls hP hD hS hl => by
  obtain ⟨t, h1, h2⟩ := pb_z3 E
  exact va_gets E.1 E.2.1 h1 hS E.2.2.2.1 (pb_w E hlk) (fun _ h9 => h9) hd (kk t h2 E H locs ls hP hD hS hl)
theorem pb_tlen {t N : Nat} {f : Nat → Value} {ty : FieldType} {v : Int32} (hT : va_T ty t N f (pm_A M) (pm_s M) (pm_s M).heap) (hv : Int32.ofNat N = v) (hd : decode (pi_c I) pc = .ok (.arraylength, 1)) (kk : pb_P l G M I (pc + 1) lo (.int v :: rest) ws ck cn) : pb_P l G M I pc lo (.ref t :: rest) ws ck cn := fun E H locs ls hP hD hS hl => va_tlen E.1 E.2.1 hT hS hv hd (kk E H locs ls hP hD hS hl)
theorem pb_copy {a0 a n0 n1 index : Nat} {f g : Nat → Int32} {cA : ClassId} {ty : FieldType} {sp dp z : Int32} {ws' : va_W} (hd : decode (pi_c I) pc = .ok (.invokestatic index, 3)) (t0 q0 q1 : Nat) (ht : (pb_T G)[t0]? = some (cA, ty)) (hp : refKind ty = false) (ha0 : ws[q0]? = some (a0, .inl (cA, n0, .inl f))) (ha1 : ws[q1]? = some (a, .inl (cA, n1, .inl g))) (w1 : Cond.methodLink (pi_y I).cls index arraycopyName ∈ uW) (w2 : Cond.native arraycopyName ∈ uW) (w3 : Cond.static arraycopyName ∈ uW) (w4 : Cond.initialized "java/lang/System" ∈ uW) (h1 : ¬ sp < 0) (h2 : ¬ dp < 0) (h3 : ¬ z < 0) (h4 : sp.toNatClampNeg + z.toNatClampNeg ≤ n0) (h5 : dp.toNatClampNeg + z.toNatClampNeg ≤ n1) (hfit : ∀ i, i < z.toNatClampNeg → fits ty (.int (f (sp.toNatClampNeg + i))) = true) (h6 : 1 ≤ (pi_R I).frames) (h7 : (rest.map fun v => v.category).sum + (nativeFrameWords "java/lang/System" "arraycopy" 5 + 11) ≤ (pi_R I).locals) (hw : ws.set q1 (a, .inl (cA, n1, .inl (va_cpy f g sp.toNatClampNeg dp.toNatClampNeg z.toNatClampNeg))) = ws') (kk : pb_P l G M I (pc + 3) lo rest ws' ck cn) : pb_P l G M I pc lo (.int z :: .int dp :: .ref a :: .int sp :: .ref a0 :: rest) ws ck cn := by
  subst hw
  exact fun E H locs ls hP hD hS hl => va_copyi E.1 E.2.1 (E.2.2.1.trans hl.1.symm) E.2.2.2.1 (pb_w E w1) (pb_w E w2) (pb_w E w3) (pb_w E w4) (pb_k E) hP hD hS q0 q1 t0 t0 ha0 ha1 ht ht hp h1 h2 h3 h4 h5 hfit h6 h7 hd (fun H1 locs1 hP1 hD1 hS1 => kk E H1 locs1 ls hP1 hD1 hS1 hl)
end PB

/-! numbers: an Int32 by its Int -/
theorem ti_bm {z : Int} (h1 : -2147483648 ≤ z) (h2 : z < 2147483648) : z.bmod (2 ^ 32) = z := by
  simp only [Int.bmod]; split <;> omega
theorem ti_add {x y z : Int32} {a b : Int} (e : z = x + y) (hx : x.toInt = a) (hy : y.toInt = b) (h1 : -2147483648 ≤ a + b) (h2 : a + b < 2147483648) : z.toInt = a + b := by
  subst e hx hy; rw [Int32.toInt_add]; exact ti_bm h1 h2
theorem ti_sub {x y z : Int32} {a b : Int} (e : z = x - y) (hx : x.toInt = a) (hy : y.toInt = b) (h1 : -2147483648 ≤ a - b) (h2 : a - b < 2147483648) : z.toInt = a - b := by
  subst e hx hy; rw [Int32.toInt_sub]; exact ti_bm h1 h2
theorem ti_mul {x y z : Int32} {a b : Int} (e : z = x * y) (hx : x.toInt = a) (hy : y.toInt = b) (h1 : -2147483648 ≤ a * b) (h2 : a * b < 2147483648) : z.toInt = a * b := by
  subst e hx hy; rw [Int32.toInt_mul]; exact ti_bm h1 h2
theorem ti_le {x y : Int32} {a b : Int} (hx : x.toInt = a) (hy : y.toInt = b) : x ≤ y ↔ a ≤ b := by rw [Int32.le_iff_toInt_le, hx, hy]
theorem ti_lt {x y : Int32} {a b : Int} (hx : x.toInt = a) (hy : y.toInt = b) : x < y ↔ a < b := by rw [Int32.lt_iff_toInt_lt, hx, hy]
theorem ti_eq {x y : Int32} {a b : Int} (hx : x.toInt = a) (hy : y.toInt = b) : x = y ↔ a = b := by rw [← Int32.toInt_inj, hx, hy]
theorem ti_ofNat {z : Int32} {n : Nat} (e : z = Int32.ofNat n) (h : n < 2147483648) : z.toInt = (n : Int) := by subst e; exact nI_toInt h
theorem ti_clamp {x : Int32} (h : 0 ≤ x.toInt) : (x.toNatClampNeg : Int) = x.toInt := by
  show ((x.toInt.toNat : Nat) : Int) = x.toInt
  omega
theorem ti_rng (x : Int32) : -2147483648 ≤ x.toInt ∧ x.toInt < 2147483648 := ⟨Int32.le_toInt x, Int32.toInt_lt x⟩
/-! ROWS OF NUMBERS -/
theorem omg_6b5d911ce7 {x0 : Nat} {x1 : Int} {x2 : Nat} {x3 : Int} {x4 : Int} {x5 : Int} (a0 : (((x0 : Nat) : Int) = x1)) (a1 : (((x2 : Nat) : Int) = x3)) (a2 : ((x3 ≤ x4) ∧ (x4 < (x3 + x5)))) : ((x0 + ((Int.toNat x4) - x2)) = (Int.toNat (x1 + (x4 - x3)))) := by omega
/-! more of numbers: masks, shifts, bytes, longs; arrays seen by an Int index -/
theorem fit_nar (x : Int32) : fits .byte (.int (vp_nar .byte x)) = true := by rw [vp_nar_byte]; exact pk_fb x
theorem ti_nat {x : Int32} (h : 0 ≤ x.toInt) : ∃ j : Nat, j < 2 ^ 31 ∧ x = nI j := nI_of (fun z9 => by
  have h1 := Int32.lt_iff_toInt_lt.mp z9
  have h2 : (0 : Int32).toInt = 0 := by decide
  omega)
theorem ti_and {x m z : Int32} {b : Int} (k : Nat) (e : z = x &&& m) (hm : m.toBitVec.toNat = 2 ^ k - 1) (hb : k ≤ 30 ∧ ((2 ^ k : Nat) : Int) = b + 1) : 0 ≤ z.toInt ∧ z.toInt ≤ b := by
  obtain ⟨j, hj, ej⟩ := pk_andE x (m := m) k hm
  have h2 : 2 ^ k ≤ 2 ^ 30 := Nat.pow_le_pow_right (by decide) hb.1
  have h3 : z.toInt = (j : Int) := by rw [e, ej]; exact nI_toInt (Nat.lt_of_lt_of_le hj (Nat.le_trans h2 (by decide)))
  have h4 := hb.2
  generalize 2 ^ k = B at *
  omega
theorem ti_andL {x m z : Int32} {b : Int} (k : Nat) (e : z = m &&& x) (hm : m.toBitVec.toNat = 2 ^ k - 1) (hb : k ≤ 30 ∧ ((2 ^ k : Nat) : Int) = b + 1) : 0 ≤ z.toInt ∧ z.toInt ≤ b := ti_and k (e.trans (Int32.and_comm _ _)) hm hb
theorem ti_shr {x s z : Int32} {a b : Int} (e : z = x >>> (s &&& 31)) (hx : x.toInt = a) (k : Nat) (hs : ((s &&& 31).toBitVec.smod 32).toNat = k) (hb : ((2 ^ k : Nat) : Int) = b) : z.toInt = a / b := by
  subst e hx hb
  rw [pk_shr _ _ k hs, Int.shiftRight_eq_div_pow]
theorem ti_shl {x s z : Int32} {a b : Int} (e : z = x <<< (s &&& 31)) (hx : x.toInt = a) (k : Nat) (hs : ((s &&& 31).toBitVec.smod 32).toNat = k) (hb : ((2 ^ k : Nat) : Int) = b) (h0 : 0 ≤ a) (h1 : a * b < 2147483648) : z.toInt = a * b := by
  subst e hx hb
  obtain ⟨j, hj, rfl⟩ := ti_nat h0
  have hj2 : (nI j).toInt = (j : Int) := nI_toInt hj
  rw [hj2] at h1 ⊢
  rw [← Int.natCast_mul] at h1 ⊢
  have h2 : j * 2 ^ k < 2147483648 := by
    generalize j * 2 ^ k = w at *
    omega
  rw [pk_shlN _ k hs (Nat.lt_trans h2 (by decide)), nI_toInt h2]
theorem ti_orN {i j : Nat} (hi : i < 2 ^ 31) (hj : j < 2 ^ 31) : (nI i ||| nI j).toInt = ((i ||| j : Nat) : Int) := by
  have hn : (nI i ||| nI j).toBitVec.toNat = i ||| j := by
    rw [Int32.toBitVec_or, BitVec.toNat_or, pk_tn (by omega), pk_tn (by omega)]
  have ho : i ||| j < 2 ^ 31 := Nat.or_lt_two_pow hi hj
  show (nI i ||| nI j).toBitVec.toInt = _
  rw [BitVec.toInt_eq_toNat_of_lt (by rw [hn]; omega), hn]
theorem ti_or {x y z : Int32} {a b c : Int} (k : Nat) (e : z = x ||| y) (hx : x.toInt = a) (hy : y.toInt = b) (h1 : 0 ≤ a) (h2 : a < c) (h3 : 0 ≤ b) (h4 : b < c) (hk : ((2 ^ k : Nat) : Int) = c) : 0 ≤ z.toInt ∧ z.toInt < c := by
  subst e hx hy hk
  obtain ⟨i, hi, rfl⟩ := ti_nat h1
  obtain ⟨j, hj, rfl⟩ := ti_nat h3
  rw [nI_toInt hi] at h2
  rw [nI_toInt hj] at h4
  have ho : i ||| j < 2 ^ k := Nat.or_lt_two_pow (Int.ofNat_lt.mp h2) (Int.ofNat_lt.mp h4)
  rw [ti_orN hi hj]
  exact ⟨Int.natCast_nonneg _, Int.ofNat_lt.mpr ho⟩
theorem ti_div {x y z : Int32} {a b : Int} (d : Nat) (e : z = x / y) (hx : x.toInt = a) (hy : y = nI d ∧ 0 < d ∧ d < 2 ^ 31) (h0 : 0 ≤ a) (hb : (d : Int) = b) : z.toInt = a / b := by
  subst e hx hb
  obtain ⟨rfl, h1, h2⟩ := hy
  obtain ⟨j, hj, rfl⟩ := ti_nat h0
  have h3 : j / d ≤ j := Nat.div_le_self _ _
  rw [pk_div hj h1 h2, nI_toInt hj, nI_toInt (by omega)]
  rfl
theorem ti_rem {x y z : Int32} {a b : Int} (d : Nat) (e : z = x - x / y * y) (hx : x.toInt = a) (hy : y = nI d ∧ 0 < d ∧ d < 2 ^ 31) (h0 : 0 ≤ a) (hb : (d : Int) = b) : z.toInt = a % b := by
  subst e hx hb
  obtain ⟨rfl, h1, h2⟩ := hy
  obtain ⟨j, hj, rfl⟩ := ti_nat h0
  have h3 : j % d ≤ j := Nat.mod_le _ _
  rw [pk_rem hj h1 h2, nI_toInt hj, nI_toInt (by omega)]
  rfl
theorem ti_neg {x z : Int32} {a : Int} (e : z = -x) (hx : x.toInt = a) (h1 : -2147483648 < a) : z.toInt = -a := by
  subst e hx
  have h2 := Int32.toInt_lt x
  rw [Int32.toInt_neg]
  exact ti_bm (by omega) (by omega)
theorem ti_i2b {x z : Int32} (e : z = x.toInt8.toInt32) : -128 ≤ z.toInt ∧ z.toInt ≤ 127 := by
  subst e
  have ⟨a, b⟩ := lg_i2b_range x
  omega
theorem ti_fit {x z : Int32} (h : fits .byte (.int x) = true) (e : z = x) : -128 ≤ z.toInt ∧ z.toInt ≤ 127 := by
  subst e
  have h1 : (-128 : Int32).toInt = -128 := by decide
  have h2 : (127 : Int32).toInt = 127 := by decide
  simp only [fits, Bool.and_eq_true, decide_eq_true_eq, Int32.le_iff_toInt_le, h1, h2] at h
  exact h
theorem ti_l2i {x : Int64} {z : Int32} {a : Int} (e : z = x.toInt32) (hx : x.toInt = a) (h1 : -2147483648 ≤ a) (h2 : a < 2147483648) : z.toInt = a := by
  subst e hx
  rw [Int64.toInt_toInt32]
  exact ti_bm h1 h2
theorem tl_i2l {x : Int32} {z : Int64} {a : Int} (e : z = x.toInt64) (hx : x.toInt = a) : z.toInt = a := by
  subst e hx
  exact Int32.toInt_toInt64 x
theorem tl_bm {z : Int} (h1 : -9223372036854775808 ≤ z) (h2 : z < 9223372036854775808) : z.bmod (2 ^ 64) = z := by
  simp only [Int.bmod]; split <;> omega
theorem tl_add {x y z : Int64} {a b : Int} (e : z = x + y) (hx : x.toInt = a) (hy : y.toInt = b) (h1 : -9223372036854775808 ≤ a + b) (h2 : a + b < 9223372036854775808) : z.toInt = a + b := by
  subst e hx hy; rw [Int64.toInt_add]; exact tl_bm h1 h2
theorem tl_sub {x y z : Int64} {a b : Int} (e : z = x - y) (hx : x.toInt = a) (hy : y.toInt = b) (h1 : -9223372036854775808 ≤ a - b) (h2 : a - b < 9223372036854775808) : z.toInt = a - b := by
  subst e hx hy; rw [Int64.toInt_sub]; exact tl_bm h1 h2
theorem tl_mul {x y z : Int64} {a b : Int} (e : z = x * y) (hx : x.toInt = a) (hy : y.toInt = b) (h1 : -9223372036854775808 ≤ a * b) (h2 : a * b < 9223372036854775808) : z.toInt = a * b := by
  subst e hx hy; rw [Int64.toInt_mul]; exact tl_bm h1 h2
theorem tl_nat {x : Int64} (h : 0 ≤ x.toInt) : ∃ j : Nat, j < 2 ^ 63 ∧ x = lN j := pk_lOf (fun z9 => by
  have h1 := Int64.lt_iff_toInt_lt.mp z9
  have h2 : (0 : Int64).toInt = 0 := by decide
  omega)
theorem tl_tn {n : Nat} (h : n < 2 ^ 64) : (lN n).toBitVec.toNat = n := Nat.mod_eq_of_lt h
theorem tl_orN {i j : Nat} (hi : i < 2 ^ 63) (hj : j < 2 ^ 63) : (lN i ||| lN j).toInt = ((i ||| j : Nat) : Int) := by
  have hn : (lN i ||| lN j).toBitVec.toNat = i ||| j := by
    rw [Int64.toBitVec_or, BitVec.toNat_or, tl_tn (by omega), tl_tn (by omega)]
  have ho : i ||| j < 2 ^ 63 := Nat.or_lt_two_pow hi hj
  show (lN i ||| lN j).toBitVec.toInt = _
  rw [BitVec.toInt_eq_toNat_of_lt (by rw [hn]; omega), hn]
theorem tl_or {x y z : Int64} {a b c : Int} (k : Nat) (e : z = x ||| y) (hx : x.toInt = a) (hy : y.toInt = b) (h1 : 0 ≤ a) (h2 : a < c) (h3 : 0 ≤ b) (h4 : b < c) (hk : ((2 ^ k : Nat) : Int) = c) : 0 ≤ z.toInt ∧ z.toInt < c := by
  subst e hx hy hk
  obtain ⟨i, hi, rfl⟩ := tl_nat h1
  obtain ⟨j, hj, rfl⟩ := tl_nat h3
  rw [pk_lT hi] at h2
  rw [pk_lT hj] at h4
  have ho : i ||| j < 2 ^ k := Nat.or_lt_two_pow (Int.ofNat_lt.mp h2) (Int.ofNat_lt.mp h4)
  rw [tl_orN hi hj]
  exact ⟨Int.natCast_nonneg _, Int.ofNat_lt.mpr ho⟩
theorem tl_shl {x z : Int64} {s : Int32} {a b : Int} (e : z = x <<< (s.toInt64 &&& 63)) (hx : x.toInt = a) (k : Nat) (hs : ((s.toInt64 &&& 63).toBitVec.smod 64).toNat = k ∧ ((2 ^ k : Nat) : Int) = b) (h0 : 0 ≤ a) (h1 : a * b < 9223372036854775808) : z.toInt = a * b := by
  obtain ⟨hs, rfl⟩ := hs
  subst e hx
  obtain ⟨j, hj, rfl⟩ := tl_nat h0
  rw [pk_lT hj] at h1 ⊢
  rw [← Int.natCast_mul] at h1 ⊢
  have h2 : j * 2 ^ k < 2 ^ 63 := by
    generalize j * 2 ^ k = w at *
    omega
  have hn : (lN j <<< (s.toInt64 &&& 63)).toBitVec.toNat = j * 2 ^ k := by
    show ((lN j).toBitVec <<< ((s.toInt64 &&& 63).toBitVec.smod 64).toNat).toNat = _
    rw [hs, BitVec.toNat_shiftLeft, Nat.shiftLeft_eq, tl_tn (by omega), Nat.mod_eq_of_lt (Nat.lt_trans h2 (by decide))]
  show (lN j <<< (s.toInt64 &&& 63)).toBitVec.toInt = _
  rw [BitVec.toInt_eq_toNat_of_lt (by rw [hn]; omega), hn]
theorem tl_cmp {x y : Int64} {z : Int32} {a b : Int} (e : z = lg_cmp x y) (hx : x.toInt = a) (hy : y.toInt = b) : (z.toInt < 0 ↔ a < b) ∧ (z.toInt = 0 ↔ a = b) ∧ (0 < z.toInt ↔ b < a) := by
  subst e hx hy
  have h0 : (0 : Int32).toInt = 0 := by decide
  have h1 : (1 : Int32).toInt = 1 := by decide
  have h2 : (-1 : Int32).toInt = -1 := by decide
  unfold lg_cmp
  by_cases g1 : x > y
  · have g2 := Int64.lt_iff_toInt_lt.mp g1
    rw [if_pos g1]
    omega
  · rw [if_neg g1]
    by_cases g2 : x = y
    · subst g2
      rw [if_pos rfl]
      omega
    · have g3 : ¬ y.toInt < x.toInt := fun z9 => g1 (Int64.lt_iff_toInt_lt.mpr z9)
      have g4 : ¬ x.toInt = y.toInt := fun z9 => g2 (Int64.toInt_inj.mp z9)
      rw [if_neg g2]
      omega
/-- an array by an Int index -/
def gx (f : Nat → Int32) (k : Int) : Int := (f k.toNat).toInt
def gr (f : Nat → Int32) (k : Int) : Int32 := f k.toNat
theorem gr_ld {z i : Int32} {f : Nat → Int32} {k : Int} (e : z = f i.toNatClampNeg) (hi : i.toInt = k) : z = gr f k := by subst e hi; rfl
theorem gx_ld {z i : Int32} {f : Nat → Int32} {k : Int} (e : z = f i.toNatClampNeg) (hi : i.toInt = k) : z.toInt = gx f k := by subst e hi; rfl
theorem gx_upd {f : Nat → Int32} {i v : Int32} {a : Int} (hi : i.toInt = a) (k : Int) (h0 : 0 ≤ a) (hk : 0 ≤ k) : gx (upd f i.toNatClampNeg v) k = if k = a then v.toInt else gx f k := by
  subst hi
  unfold gx
  by_cases h : k = i.toInt
  · subst h
    rw [if_pos rfl]
    exact congrArg Int32.toInt pk_us
  · rw [if_neg h]
    refine congrArg Int32.toInt (pk_un (fun z9 => h ?_))
    have h2 : ((i.toNatClampNeg : Nat) : Int) = i.toInt := ti_clamp h0
    omega
theorem gx_cpy {f g : Nat → Int32} {sp dp n : Int32} {a b c : Int} (h1 : sp.toInt = a) (h2 : dp.toInt = b) (h3 : n.toInt = c) (k : Int) (p1 : 0 ≤ a) (p2 : 0 ≤ b) (p3 : 0 ≤ c) (hk : 0 ≤ k) : gx (va_cpy f g sp.toNatClampNeg dp.toNatClampNeg n.toNatClampNeg) k = if b ≤ k ∧ k < b + c then gx f (a + (k - b)) else gx g k := by
  subst h1 h2 h3
  have q1 : ((sp.toNatClampNeg : Nat) : Int) = sp.toInt := ti_clamp p1
  have q2 : ((dp.toNatClampNeg : Nat) : Int) = dp.toInt := ti_clamp p2
  have q3 : ((n.toNatClampNeg : Nat) : Int) = n.toInt := ti_clamp p3
  unfold gx
  by_cases h : dp.toInt ≤ k ∧ k < dp.toInt + n.toInt
  · rw [if_pos h, pk_cpy_in (by omega) (by omega), show sp.toNatClampNeg + (k.toNat - dp.toNatClampNeg) = (sp.toInt + (k - dp.toInt)).toNat by (exact omg_6b5d911ce7 q1 q2 h)]
  · rw [if_neg h, pk_cpy_out (by omega)]
theorem nar_b {v : Int32} (h : v.toInt = 0 ∨ v.toInt = 1) : narrow .boolean (.int v) = .int v := by
  have h0 : (0 : Int32).toInt = 0 := by decide
  have h1 : (1 : Int32).toInt = 1 := by decide
  rcases h with h | h
  · obtain rfl : v = 0 := Int32.toInt_inj.mp (by omega)
    rfl
  · obtain rfl : v = 1 := Int32.toInt_inj.mp (by omega)
    rfl
theorem fit_b {v : Int32} (h : v.toInt = 0 ∨ v.toInt = 1) : fits .boolean (.int v) = true := by
  have h0 : (0 : Int32).toInt = 0 := by decide
  have h1 : (1 : Int32).toInt = 1 := by decide
  rcases h with h | h
  · obtain rfl : v = 0 := Int32.toInt_inj.mp (by omega)
    rfl
  · obtain rfl : v = 1 := Int32.toInt_inj.mp (by omega)
    rfl
theorem nar_byte {v : Int32} (h : -128 ≤ v.toInt ∧ v.toInt ≤ 127) : vp_nar .byte v = v := by
  rw [vp_nar_byte]
  apply Int32.toInt_inj.mp
  rw [Int8.toInt_toInt32, Int32.toInt_toInt8]
  simp only [Int.bmod]
  split <;> omega
theorem gx_updb {f : Nat → Int32} {i v : Int32} {a : Int} (hi : i.toInt = a) (k : Int) (h0 : 0 ≤ a) (hk : 0 ≤ k) (hv : -128 ≤ v.toInt ∧ v.toInt ≤ 127) : gx (upd f i.toNatClampNeg (vp_nar .byte v)) k = if k = a then v.toInt else gx f k := by
  rw [nar_byte hv]
  exact gx_upd hi k h0 hk
theorem ti_i2c {x z : Int32} {a : Int} (e : z = (x.toUInt32 % 65536).toInt32) (hx : x.toInt = a) (h : 0 ≤ a ∧ a ≤ 65535) : z.toInt = a := by
  subst e hx
  obtain ⟨j, hj, rfl⟩ := ti_nat h.1
  have e1 := nI_toInt hj
  rw [pk_char, pk_tn (by omega), Nat.mod_eq_of_lt (by omega)]
theorem nar_c {v : Int32} (h : 0 ≤ v.toInt ∧ v.toInt ≤ 65535) : narrow .char (.int v) = .int v := by
  obtain ⟨j, hj, rfl⟩ := ti_nat h.1
  have e1 := nI_toInt hj
  exact (pk_charN (by omega)).1
theorem st_lt (k : Nat) : st_lens.getD k 0 < 2147483648 := by
  have h := st_len_rng k
  unfold st_len at h
  omega
theorem t2_add {x y z : Int32} {a b : Int} (e : z = x + y) (hx : x.toInt = a) (hy : y.toInt = b) (h : -2147483648 ≤ a + b ∧ a + b < 2147483648) : z.toInt = a + b := ti_add e hx hy h.1 h.2
theorem t2_sub {x y z : Int32} {a b : Int} (e : z = x - y) (hx : x.toInt = a) (hy : y.toInt = b) (h : -2147483648 ≤ a - b ∧ a - b < 2147483648) : z.toInt = a - b := ti_sub e hx hy h.1 h.2
section PM
variable {l : Launch} {G : pb_G} {M : pb_M} {I : pb_I} {pc : Nat} {lo : List (Nat × Value)} {rest : List Value} {ws : va_W} {ck cn : Nat}
theorem pb_ldc_w {v : Int32} {index : Nat} (hd : decode (pi_c I) pc = .ok (.ldc_w index, 3)) (hw : Cond.constant (pi_y I).cls index v ∈ uW) (kk : pb_P l G M I (pc + 3) lo (.int v :: rest) ws ck cn) : pb_P l G M I pc lo rest ws ck cn := fun E H locs ls hP hD hS hl => lv_ldcw E.1 E.2.1 E.2.2.2.1 (pb_w E hw) hd (kk E H locs ls hP hD hS hl)
theorem pb_lcmp {x y : Int64} (hd : decode (pi_c I) pc = .ok (.lcmp, 1)) (kk : pb_P l G M I (pc + 1) lo (.int (lg_cmp x y) :: rest) ws ck cn) : pb_P l G M I pc lo (.long y :: .long x :: rest) ws ck cn := fun E H locs ls hP hD hS hl => W.lcmp E.1 E.2.1 hd (kk E H locs ls hP hD hS hl)
theorem pb_tald {t N : Nat} {g : Nat → Int32} {i : Int32} (hT : va_T .int t N (fun j => .int (g j)) (pm_A M) (pm_s M) (pm_s M).heap) (hin : vp_in i N) (hd : decode (pi_c I) pc = .ok (.iaload, 1)) (kk : pb_P l G M I (pc + 1) lo (.int (g i.toNatClampNeg) :: rest) ws ck cn) : pb_P l G M I pc lo (.int i :: .ref t :: rest) ws ck cn := fun E H locs ls hP hD hS hl => va_ti E.1 E.2.1 hT hS hin rfl hd (kk E H locs ls hP hD hS hl)
theorem pb_third_all : ∀ j : Nat, j < 19 → 0 ≤ (pb_third.getD j 0).toInt ∧ (pb_third.getD j 0).toInt ≤ 18 := by decide +kernel
theorem pb_third_rng {z i : Int32} (e : z = pb_third.getD i.toNatClampNeg 0) : 0 ≤ z.toInt ∧ z.toInt ≤ 18 := by
  rw [e]
  by_cases h : i.toNatClampNeg < 19
  · exact pb_third_all _ h
  · rw [List.getD_eq_getElem?_getD, List.getElem?_eq_none (show pb_third.length ≤ _ by show 19 ≤ _; omega)]
    decide
theorem pb_ldcS {tx : String} {index k : Nat} (hd : decode (pi_c I) pc = .ok (.ldc index, 2)) (hk : pb_strs[k]? = some ((pi_y I).cls, index, tx)) (hk9 : k < 19) (kk : pb_P l G M I (pc + 2) lo (.ref (G.2.2.2.2.2.1 k) :: rest) ws ck cn) : pb_P l G M I pc lo rest ws ck cn := fun E H locs ls hP hD hS hl T hT X => by
  have hr := (pb_z E).2.2.2.2.2.2.1 k _ hk9 hk
  obtain ⟨t, a, b⟩ := kk E H locs ls hP hD hS hl T hT X
  exact ⟨t, X.ldcString E.1 (own := (pi_y I).cls) (text := tx) (index := index) E.2.2.2.1 hr.1 hr.2 (g := F0 (pm_m M) pc ls rest) rfl (by rw [E.2.1]; exact hd) t a, b⟩
theorem va_ldcwS {p : Program} {e : Env} {R : Room} {s : State} {m : MethodId} {args : Array Value} {below : List Frame} {meth : Method} {c : Code} {T : State} {locs : List Loc} {cells slots : Nat} (X : Stand p l e R s m args below meth c T locs cells slots) (hexec : p.tables.exec = Jvm.exec) {own text : String} {index : Nat} {a : Addr} (hown : s.vm.findClass own = some m.cls)
    (hconst : (Cond.stringRef own index text).before args s = true) (hev : (Term.string own index).eval args s none [] s = some (.ref a)) {g : JFrame} (hg : g.method = m) (hdg : decode c.code g.pc = .ok (.ldc_w index, 3)) :
    ∀ target, Steps p.tables e below (T.setTop { g with pc := g.pc + 3, stack := .ref a :: g.stack }) target → Steps p.tables e below (T.setTop g) target := by
  obtain ⟨k, cf, i, a', hk, hcf, hcp, -, hr, hev'⟩ := Cond.stringRef_spec hown hconst
  cases hev.symm.trans hev'
  obtain ⟨k', hk', he⟩ := X.warmed.alike.2.2 _ _ hk
  have hr' : k'.resolved[index]? = some (some (.string a)) := by
    rcases X.warmed.entry hk hk' index with h | ⟨h, -⟩
    · rw [h]; exact hr
    · rw [hr] at h; cases h
  intro target hrest
  subst hg
  jvm_step X.here [hexec, hdg, ldc_w.wp_string (e := e) (s := T) (f := g) X.here.top hk' (by rw [he]; exact hcf) hcp hr']
  exact hrest
theorem pb_ldcSw {tx : String} {index k : Nat} (hd : decode (pi_c I) pc = .ok (.ldc_w index, 3)) (hk : pb_strs[k]? = some ((pi_y I).cls, index, tx)) (hk9 : k < 19) (kk : pb_P l G M I (pc + 3) lo (.ref (G.2.2.2.2.2.1 k) :: rest) ws ck cn) : pb_P l G M I pc lo rest ws ck cn := fun E H locs ls hP hD hS hl T hT X => by
  have hr := (pb_z E).2.2.2.2.2.2.1 k _ hk9 hk
  obtain ⟨t, a, b⟩ := kk E H locs ls hP hD hS hl T hT X
  exact ⟨t, va_ldcwS X E.1 (own := (pi_y I).cls) (text := tx) (index := index) E.2.2.2.1 hr.1 hr.2 (g := F0 (pm_m M) pc ls rest) rfl (by rw [E.2.1]; exact hd) t a, b⟩
theorem pb_sval {index k : Nat} (hd : decode (pi_c I) pc = .ok (.getfield index, 3)) (hk : k < st_n) (hlk : Cond.fieldLink (pi_y I).cls index "java/lang/String" "value" "[B" ∈ uW) (kk : pb_P l G M I (pc + 3) lo (.ref (G.2.2.2.2.2.2 k) :: rest) ws ck cn) : pb_P l G M I pc lo (.ref (G.2.2.2.2.2.1 k) :: rest) ws ck cn := fun E H locs ls hP hD hS hl => vk_getf E.1 E.2.1 ((pb_z E).2.2.2.2.2.1 k hk).2.2.1 hS E.2.2.2.1 (pb_w E hlk) (fun _ h9 => h9) hd (kk E H locs ls hP hD hS hl)
theorem pb_scod {index k : Nat} (hd : decode (pi_c I) pc = .ok (.getfield index, 3)) (hk : k < st_n) (hlk : Cond.fieldLink (pi_y I).cls index "java/lang/String" "coder" "B" ∈ uW) (kk : pb_P l G M I (pc + 3) lo (.int 0 :: rest) ws ck cn) : pb_P l G M I pc lo (.ref (G.2.2.2.2.2.1 k) :: rest) ws ck cn := fun E H locs ls hP hD hS hl => vk_getf E.1 E.2.1 ((pb_z E).2.2.2.2.2.1 k hk).2.1 hS E.2.2.2.1 (pb_w E hlk) (fun _ h9 => h9) hd (kk E H locs ls hP hD hS hl)
theorem pb_vlen {k : Nat} (hd : decode (pi_c I) pc = .ok (.arraylength, 1)) (hk : k < st_n) (kk : pb_P l G M I (pc + 1) lo (.int (Int32.ofNat (st_lens.getD k 0)) :: rest) ws ck cn) : pb_P l G M I pc lo (.ref (G.2.2.2.2.2.2 k) :: rest) ws ck cn := fun E H locs ls hP hD hS hl => va_tlen E.1 E.2.1 ((pb_z E).2.2.2.2.2.1 k hk).2.2.2 hS rfl hd (kk E H locs ls hP hD hS hl)
theorem pb_vld {k : Nat} {i : Int32} (hd : decode (pi_c I) pc = .ok (.baload, 1)) (hk : k < st_n) (hin : vp_in i (st_lens.getD k 0)) (kk : pb_P l G M I (pc + 1) lo (.int ((st_byts.getD k []).getD i.toNatClampNeg 0) :: rest) ws ck cn) : pb_P l G M I pc lo (.int i :: .ref (G.2.2.2.2.2.2 k) :: rest) ws ck cn := fun E H locs ls hP hD hS hl => va_tb E.1 E.2.1 ((pb_z E).2.2.2.2.2.1 k hk).2.2.2 hS hin rfl hd (kk E H locs ls hP hD hS hl)
theorem pb_getsC {index : Nat} (hd : decode (pi_c I) pc = .ok (.getstatic index, 3)) (hlk : Cond.fieldLink (pi_y I).cls index "java/lang/String" "COMPACT_STRINGS" "Z" ∈ uW) (kk : pb_P l G M I (pc + 3) lo (.int 1 :: rest) ws ck cn) : pb_P l G M I pc lo rest ws ck cn := fun E H locs ls hP hD hS hl => va_gets E.1 E.2.1 (pb_z E).2.2.2.2.2.2.2.1 hS E.2.2.2.1 (pb_w E hlk) (fun _ h9 => h9) hd (kk E H locs ls hP hD hS hl)
theorem pb_getsF {index : Nat} (hd : decode (pi_c I) pc = .ok (.getstatic index, 3)) (hlk : Cond.fieldLink (pi_y I).cls index "jdk/internal/util/Preconditions" "SIOOBE_FORMATTER" "Ljava/util/function/BiFunction;" ∈ uW) (k1 : pb_P l G M I (pc + 3) lo (.null :: rest) ws ck cn) (k2 : ∀ t : Nat, pb_P l G M I (pc + 3) lo (.ref t :: rest) ws ck cn) : pb_P l G M I pc lo rest ws ck cn := fun E H locs ls hP hD hS hl => by
  rcases (pb_z E).2.2.2.2.2.2.2.2.1.1 with g | ⟨t, g⟩
  · exact va_gets E.1 E.2.1 g hS E.2.2.2.1 (pb_w E hlk) (fun _ h9 => h9) hd (k1 E H locs ls hP hD hS hl)
  · exact va_gets E.1 E.2.1 g hS E.2.2.2.1 (pb_w E hlk) (fun _ h9 => h9) hd (k2 t E H locs ls hP hD hS hl)
theorem pb_callVS {S : Type} {J : pb_I} {nA : Nat} {as : List Value} {index k : Nat} {w0 wr : va_W} {post : Option Value → S → Prop} {w1 : S → va_W} (hd : decode (pi_c I) pc = .ok (.invokevirtual index, 3)) (hM : Cn l G J (.ref (G.2.2.2.2.2.1 k) :: as) w0 post w1)
    (hkn : k < st_n) (hcS : (pi_y J).cls = "java/lang/String")
    (isC isR : List Nat) (h0 : va_nd isC = true) (hC : isC.map (fun i => ws[i]?) = w0.map some) (hC2 : isC.filterMap (fun i => ws[i]?) = w0) (hR : isR.map (fun i => ws[i]?) = wr.map some) (hn : va_nd isR = true) (hdis : ∀ i ∈ isR, i ∉ isC)
    (hcd : pi_d J ∈ uW) (hw : pi_d J = .code (pi_y J) (pi_c J) (pi_n J) (pi_r J)) (hini : Cond.initialized (pi_y J).cls ∈ uW) (hlk : Cond.methodLink (pi_y I).cls index (pi_y J) ∈ uW) (hin : Cond.instanceMethod (pi_y J) ∈ uW) (hsel : Cond.selects (pi_y J).cls (pi_y J) (pi_y J) ∈ uW)
    (hy : (pi_y J).cls = (pi_y J).cls ∧ (pi_y J).cls ≠ "java/lang/invoke/MethodHandle" ∧ (pi_y J).cls ≠ "java/lang/invoke/VarHandle" ∧ (parseMethodDescriptor (pi_y J).desc).map (fun d => d.parameters.length) = some nA) (hRm : (pi_R J).frames + 1 ≤ (pi_R I).frames ∧ 8 + (pi_n J + 11) + (pi_R J).locals ≤ (pi_R I).locals) (hA9 : as.length = nA)
    {st0 : List Value} (hst : st0 = as.reverse ++ .ref (G.2.2.2.2.2.1 k) :: rest) (h8 : (rest.map fun v => v.category).sum ≤ 8) (hf : ck + (pi_R J).cells ≤ (pi_R I).cells ∧ cn + (pi_R J).slots ≤ (pi_R I).slots)
    (kk : ∀ (v : Option Value) (u : S), post v u → pb_P l G M I (pc + 3) lo (cn_st v rest) (wr ++ w1 u) (ck + (pi_R J).cells) (cn + (pi_R J).slots)) : pb_P l G M I pc lo st0 ws ck cn := fun E H locs ls hP hD hS hl => by
  subst hst
  refine cn_go E hP hD hS hl isC isR hC hR hn hdis (va_runV (As := as) (b := G.2.2.2.2.2.1 k) (C := (pi_y J).cls) ⟨E.1, E.2.1, E.2.2.1, E.2.2.2.1, pb_ws E⟩ (hM H.size) (cwV nA (pb_ws E) (pb_gdV hcd hlk hin hsel hini) (pb_hw hw) rfl rfl hy hRm) ⟨cn_blind, by rw [hcS]; exact sk_recv (pb_z E).2.2.2.2.2.1 hkn hS, cn_pre E hP hD hS isC h0 hC hC2⟩ rfl hA9 hl.1 rfl (lv_room h8) hd hf) kk
end PM
def hid_ (p : Prop) : Prop := p
theorem hid_i {p : Prop} (h : p) : hid_ p := h
theorem hid_o {p : Prop} (h : hid_ p) : p := h
/-- a number as a byte -/
def by_ (r : Int) : Int32 := (Int32.ofInt r).toInt8.toInt32
theorem by_E {i : Int32} {r : Int} (h : i.toInt = r) : i.toInt8.toInt32 = by_ r := by
  unfold by_
  rw [← h, Int32.ofInt_toInt]
/-- an array read behind a store, a copy -/
theorem gr_upd {f : Nat → Int32} {i v : Int32} {a : Int} (hi : i.toInt = a) (k : Int) (h0 : 0 ≤ a) (hk : 0 ≤ k) : gr (upd f i.toNatClampNeg v) k = if k = a then v else gr f k := by
  subst hi
  unfold gr
  by_cases h : k = i.toInt
  · subst h
    rw [if_pos rfl]
    exact pk_us
  · rw [if_neg h]
    refine pk_un (fun z9 => h ?_)
    have h2 : ((i.toNatClampNeg : Nat) : Int) = i.toInt := ti_clamp h0
    omega
theorem gr_updb {f : Nat → Int32} {i v : Int32} {a : Int} (hi : i.toInt = a) (k : Int) (h0 : 0 ≤ a) (hk : 0 ≤ k) : gr (upd f i.toNatClampNeg (vp_nar .byte v)) k = if k = a then v.toInt8.toInt32 else gr f k := by
  rw [gr_upd hi k h0 hk, vp_nar_byte]
theorem gr_cpy {f g : Nat → Int32} {sp dp n : Int32} {a b c : Int} (h1 : sp.toInt = a) (h2 : dp.toInt = b) (h3 : n.toInt = c) (k : Int) (p1 : 0 ≤ a) (p2 : 0 ≤ b) (p3 : 0 ≤ c) (hk : 0 ≤ k) : gr (va_cpy f g sp.toNatClampNeg dp.toNatClampNeg n.toNatClampNeg) k = if b ≤ k ∧ k < b + c then gr f (a + (k - b)) else gr g k := by
  subst h1 h2 h3
  have q1 : ((sp.toNatClampNeg : Nat) : Int) = sp.toInt := ti_clamp p1
  have q2 : ((dp.toNatClampNeg : Nat) : Int) = dp.toInt := ti_clamp p2
  have q3 : ((n.toNatClampNeg : Nat) : Int) = n.toInt := ti_clamp p3
  unfold gr
  by_cases h : dp.toInt ≤ k ∧ k < dp.toInt + n.toInt
  · rw [if_pos h, pk_cpy_in (by omega) (by omega), show sp.toNatClampNeg + (k.toNat - dp.toNatClampNeg) = (sp.toInt + (k - dp.toInt)).toNat by (exact omg_6b5d911ce7 q1 q2 h)]
  · rw [if_neg h, pk_cpy_out (by omega)]
theorem bz_nn (x : Int32) : x.toInt8.toInt32.toInt8.toInt32 = x.toInt8.toInt32 := by
  have h := nar_byte (v := x.toInt8.toInt32) (ti_i2b rfl)
  rw [vp_nar_byte] at h
  exact h
theorem bz_fit {x : Int32} (h : -128 ≤ x.toInt ∧ x.toInt ≤ 127) : x.toInt8.toInt32 = x := by
  rw [← vp_nar_byte]
  exact nar_byte h
theorem bz_sh8 (x : BitVec 64) (n : Nat) (hn : n ≤ 56) : ((x >>> n).signExtend 32).signExtend 8 = ((x.sshiftRight n).signExtend 32).signExtend 8 := by
  have e1 : ∀ y : BitVec 64, y.signExtend 32 = y.setWidth 32 := fun y => BitVec.signExtend_eq_setWidth_of_le y (by omega)
  have e2 : ∀ y : BitVec 32, y.signExtend 8 = y.setWidth 8 := fun y => BitVec.signExtend_eq_setWidth_of_le y (by omega)
  rw [e1, e1, e2, e2]
  apply BitVec.eq_of_getLsbD_eq
  intro i hi
  rw [BitVec.getLsbD_setWidth, BitVec.getLsbD_setWidth, BitVec.getLsbD_setWidth, BitVec.getLsbD_setWidth, BitVec.getLsbD_ushiftRight, BitVec.getLsbD_sshiftRight, if_pos (by omega)]
  have h1 : ¬ 64 ≤ i := by omega
  simp [h1]
theorem bz_l (w : Int64) {y c : Int32} (e : y = c) (n : Nat) (hn : n ≤ 56) (hu : ((c.toInt64.toUInt64 &&& Int64.toUInt64 63).toBitVec % 64).toNat = n) (hv : ((c.toInt64 &&& 63).toBitVec.smod 64).toNat = n) : (w.toUInt64 >>> (y.toInt64.toUInt64 &&& Int64.toUInt64 63)).toInt64.toInt32.toInt8.toInt32 = (w >>> (y.toInt64 &&& 63)).toInt32.toInt8.toInt32 := by
  subst e
  refine congrArg Int8.toInt32 (Int8.toBitVec_inj.mp ?_)
  show (((w.toBitVec >>> ((y.toInt64.toUInt64 &&& Int64.toUInt64 63).toBitVec % 64).toNat).signExtend 32).signExtend 8) = (((w.toBitVec.sshiftRight ((y.toInt64 &&& 63).toBitVec.smod 64).toNat).signExtend 32).signExtend 8)
  rw [hu, hv]
  exact bz_sh8 _ n hn
/-- byte k of a number, as it comes behind the tape -/
def tp_b (w : Int64) (k : Int) : Int32 := (w >>> ((Int32.ofInt (8 * k)).toInt64 &&& 63)).toInt32.toInt8.toInt32
theorem tp_m {w z : Int64} {y : Int32} {k : Int} (hz : z = w >>> (y.toInt64 &&& 63)) (hy : y.toInt = 8 * k) : z.toInt32.toInt8.toInt32 = tp_b w k := by
  subst hz
  unfold tp_b
  rw [← hy, Int32.ofInt_toInt]
theorem tp_c {w z : Int64} {y : Int32} {k : Int} (hz : z = (w.toUInt64 >>> (y.toInt64.toUInt64 &&& Int64.toUInt64 63)).toInt64) (hy : y.toInt = 8 * k) (h0 : 0 ≤ k) (h1 : k ≤ 7) : z.toInt32.toInt8.toInt32 = tp_b w k := by
  subst hz
  rw [← tp_m rfl hy]
  rcases (show k = 0 ∨ k = 1 ∨ k = 2 ∨ k = 3 ∨ k = 4 ∨ k = 5 ∨ k = 6 ∨ k = 7 by omega) with rfl | rfl | rfl | rfl | rfl | rfl | rfl | rfl
  · exact bz_l w (c := 0) (Int32.toInt_inj.mp (hy.trans (by decide))) 0 (by decide) (by decide) (by decide)
  · exact bz_l w (c := 8) (Int32.toInt_inj.mp (hy.trans (by decide))) 8 (by decide) (by decide) (by decide)
  · exact bz_l w (c := 16) (Int32.toInt_inj.mp (hy.trans (by decide))) 16 (by decide) (by decide) (by decide)
  · exact bz_l w (c := 24) (Int32.toInt_inj.mp (hy.trans (by decide))) 24 (by decide) (by decide) (by decide)
  · exact bz_l w (c := 32) (Int32.toInt_inj.mp (hy.trans (by decide))) 32 (by decide) (by decide) (by decide)
  · exact bz_l w (c := 40) (Int32.toInt_inj.mp (hy.trans (by decide))) 40 (by decide) (by decide) (by decide)
  · exact bz_l w (c := 48) (Int32.toInt_inj.mp (hy.trans (by decide))) 48 (by decide) (by decide) (by decide)
  · exact bz_l w (c := 56) (Int32.toInt_inj.mp (hy.trans (by decide))) 56 (by decide) (by decide) (by decide)
theorem tp_m2 {w z : Int64} {y v u : Int32} {k : Int} (e1 : v = u.toInt8.toInt32) (e2 : u = z.toInt32) (hz : z = w >>> (y.toInt64 &&& 63)) (hy : y.toInt = 8 * k) : v.toInt8.toInt32 = tp_b w k := by
  subst e1 e2
  rw [bz_nn]
  exact tp_m hz hy
theorem tp_c2 {w z : Int64} {y u : Int32} {k : Int} (e2 : u = z.toInt32) (hz : z = (w.toUInt64 >>> (y.toInt64.toUInt64 &&& Int64.toUInt64 63)).toInt64) (hy : y.toInt = 8 * k) (h0 : 0 ≤ k) (h1 : k ≤ 7) : u.toInt8.toInt32 = tp_b w k := by
  subst e2
  exact tp_c hz hy h0 h1
/-- the tape behind type, behind again -/
def tp_T (f g : Nat → Int32) (s t : Int) (w : Int64) : Prop := ∀ j : Int, 0 ≤ j → j < t → gr g j = if j < s then gr f j else tp_b w (j - s)
def tp_G (f g : Nat → Int32) (s t n : Int) : Prop := ∀ j : Int, 0 ≤ j → j < t → gr g j = if j < s then gr f j else gr f (j - n)
theorem tp_T0 {f : Nat → Int32} {s t : Int} {w : Int64} (h : t ≤ s) : tp_T f f s t w := fun j _ h1 => by rw [if_pos (by omega)]
theorem tp_G0 {f : Nat → Int32} {s t n : Int} (h : t ≤ s) : tp_G f f s t n := fun j _ h1 => by rw [if_pos (by omega)]
theorem tp_step {f g g2 : Nat → Int32} {s t t2 : Int} {v : Int32} {w : Int64} (h : tp_T f g s t w) (h2 : ∀ j : Int, 0 ≤ j → gr g2 j = if j = t then v.toInt8.toInt32 else gr g j) (ht : t2 = t + 1) (hs : s ≤ t) (hv : v.toInt8.toInt32 = tp_b w (t - s)) : tp_T f g2 s t2 w := by
  intro j h0 h1
  rw [h2 j h0]
  by_cases e : j = t
  · rw [if_pos e, if_neg (by omega), e, hv]
  · rw [if_neg e]
    exact h j h0 (by omega)
theorem tg_step {f g g2 : Nat → Int32} {s t t2 n : Int} {v : Int32} (h : tp_G f g s t n) (h2 : ∀ j : Int, 0 ≤ j → gr g2 j = if j = t then v.toInt8.toInt32 else gr g j) (ht : t2 = t + 1) (hs : s ≤ t) (hn : t - n < s) (hn0 : 0 ≤ t - n) (hv : v = gr g (t - n)) (hf : -128 ≤ v.toInt ∧ v.toInt ≤ 127) : tp_G f g2 s t2 n := by
  intro j h0 h1
  rw [h2 j h0]
  by_cases e : j = t
  · rw [if_pos e, if_neg (by omega), bz_fit hf, hv, h (t - n) hn0 (by omega), if_pos hn, e]
  · rw [if_neg e]
    exact h j h0 (by omega)
theorem tg_cpy {f g : Nat → Int32} {s t n x : Int} (h : ∀ j : Int, 0 ≤ j → gr g j = if s ≤ j ∧ j < s + n then gr f (x + (j - s)) else gr f j) (hx : x = s - n) (ht : t = s + n) : tp_G f g s t n := by
  intro j h0 h1
  rw [h j h0]
  by_cases e : j < s
  · rw [if_pos e, if_neg (by omega)]
  · rw [if_neg e, if_pos (by omega), hx, show s - n + (j - s) = j - n by omega]
/-- the two tapes have the same bytes -/
def rl_B (f g : Nat → Int32) (s : Int) : Prop := ∀ j : Int, 0 ≤ j → j < s → gr f j = gr g j
theorem rl_0 {f g : Nat → Int32} {s : Int} (h : s ≤ 0) : rl_B f g s := fun j h0 h1 => absurd h1 (by omega)
theorem rl_T {f g f2 g2 : Nat → Int32} {s s2 t t2 : Int} {w : Int64} (h : rl_B f g s) (e : s = t) (h1 : tp_T f f2 s s2 w) (h2 : tp_T g g2 t t2 w) (e2 : s2 = t2) : rl_B f2 g2 s2 := by
  intro j h0 hj
  rw [h1 j h0 hj, h2 j h0 (by omega)]
  by_cases c : j < s
  · rw [if_pos c, if_pos (by omega)]
    exact h j h0 c
  · rw [if_neg c, if_neg (by omega), e]
theorem rl_G {f g f2 g2 : Nat → Int32} {s s2 t t2 n : Int} (h : rl_B f g s) (e : s = t) (h1 : tp_G f f2 s s2 n) (h2 : tp_G g g2 t t2 n) (e2 : s2 = t2) (hn : 0 ≤ n ∧ n ≤ s ∧ s2 = s + n ∨ s2 ≤ s) : rl_B f2 g2 s2 := by
  intro j h0 hj
  rw [h1 j h0 hj, h2 j h0 (by omega)]
  by_cases c : j < s
  · rw [if_pos c, if_pos (by omega)]
    exact h j h0 c
  · rw [if_neg c, if_neg (by omega)]
    exact h (j - n) (by omega) (by omega)
/-- THE SUM: as the class makes it, a byte at a time -/
def cr_u (r : Int32) : Int32 := (r.toUInt32 >>> ((1 : Int32).toUInt32 &&& Int32.toUInt32 31)).toInt32
def cr_s (r : Int32) : Int32 := if r &&& 1 = 1 then cr_u r ^^^ (-306674912) else cr_u r
def cr_i : Nat → Int32 → Int32
  | 0, r => r
  | n + 1, r => cr_s (cr_i n r)
def cr_n (f : Nat → Int32) (x : Int) : Nat → Int32
  | 0 => -1
  | m + 1 => cr_i 8 (cr_n f x m ^^^ (gr f (x + m) &&& 255))
/-- as the reference makes it, a bit at a time -/
def cq_b (f : Nat → Int32) (x k : Int) : Int32 := (gr f (x + k / 8) >>> (Int32.ofInt (k % 8) &&& 31)) &&& 1
def cq_s (s b : Int32) : Int32 := if s &&& 1 = b then cr_u s else cr_u s ^^^ (-306674912)
def cq_n (f : Nat → Int32) (x : Int) : Nat → Int32
  | 0 => -1
  | m + 1 => cq_s (cq_n f x m) (cq_b f x m)
theorem cr_ub (r : Int32) : (cr_u r).toBitVec = r.toBitVec >>> 1 := by
  show r.toBitVec >>> (((1 : Int32).toUInt32 &&& Int32.toUInt32 31).toBitVec % 32).toNat = r.toBitVec >>> 1
  rw [show (((1 : Int32).toUInt32 &&& Int32.toUInt32 31).toBitVec % 32).toNat = 1 by decide]
theorem cr_a (r : Int32) (i : Nat) : (r &&& 1).toBitVec.getLsbD i = (r.toBitVec.getLsbD i && decide (i = 0)) := by
  rw [Int32.toBitVec_and, BitVec.getLsbD_and, show (1 : Int32).toBitVec = 1#32 from rfl, BitVec.getLsbD_one]
  simp
theorem cr_a1 {r : Int32} (h : r.toBitVec.getLsbD 0 = true) : r &&& 1 = 1 := by
  apply Int32.toBitVec_inj.mp
  apply BitVec.eq_of_getLsbD_eq
  intro i hi
  rw [cr_a, show (1 : Int32).toBitVec = 1#32 from rfl, BitVec.getLsbD_one]
  by_cases e : i = 0
  · subst e
    simp [h]
  · simp [e]
theorem cr_a0 {r : Int32} (h : r.toBitVec.getLsbD 0 = false) : r &&& 1 = 0 := by
  apply Int32.toBitVec_inj.mp
  apply BitVec.eq_of_getLsbD_eq
  intro i hi
  rw [cr_a, show (0 : Int32).toBitVec = 0#32 from rfl, BitVec.getLsbD_zero]
  by_cases e : i = 0
  · subst e
    rw [h]
    rfl
  · simp [e]
theorem cr_01 : ¬ (0 : Int32) = 1 := by decide
theorem cr_10 : ¬ (1 : Int32) = 0 := by decide
def cr_P : BitVec 32 := (-306674912 : Int32).toBitVec
theorem cr_sb (r : Int32) : (cr_s r).toBitVec = (r.toBitVec >>> 1) ^^^ (if r.toBitVec.getLsbD 0 = true then cr_P else 0#32) := by
  unfold cr_s
  cases hb : r.toBitVec.getLsbD 0
  · rw [cr_a0 hb, if_neg cr_01, if_neg (by decide), cr_ub, BitVec.xor_zero]
  · rw [cr_a1 hb, if_pos rfl, if_pos rfl, Int32.toBitVec_xor, cr_ub]
    rfl
theorem cq_sb (s b : Int32) : (cq_s s (b &&& 1)).toBitVec = (s.toBitVec >>> 1) ^^^ (if (s.toBitVec.getLsbD 0 ^^ b.toBitVec.getLsbD 0) = true then cr_P else 0#32) := by
  unfold cq_s
  cases hs : s.toBitVec.getLsbD 0 <;> cases hb : b.toBitVec.getLsbD 0
  · rw [cr_a0 hs, cr_a0 hb, if_pos rfl, if_neg (by decide), cr_ub, BitVec.xor_zero]
  · rw [cr_a0 hs, cr_a1 hb, if_neg cr_01, if_pos (by decide), Int32.toBitVec_xor, cr_ub]
    rfl
  · rw [cr_a1 hs, cr_a0 hb, if_neg cr_10, if_pos (by decide), Int32.toBitVec_xor, cr_ub]
    rfl
  · rw [cr_a1 hs, cr_a1 hb, if_pos rfl, if_neg (by decide), cr_ub, BitVec.xor_zero]
theorem cq_bit (a : Int32) (j : Nat) (hj : j < 8) : (a >>> (Int32.ofInt (j : Int) &&& 31)).toBitVec.getLsbD 0 = a.toBitVec.getLsbD j := by
  show (a.toBitVec.sshiftRight ((Int32.ofInt (j : Int) &&& 31).toBitVec.smod 32).toNat).getLsbD 0 = _
  have e : ((Int32.ofInt (j : Int) &&& 31).toBitVec.smod 32).toNat = j := by
    have h : ∀ n : Nat, n < 8 → ((Int32.ofInt (n : Int) &&& 31).toBitVec.smod 32).toNat = n := by decide
    exact h j hj
  rw [e, BitVec.getLsbD_sshiftRight, if_pos (by omega)]
  simp
theorem cr_255 (i : Nat) (hi : i < 32) : (255 : Int32).toBitVec.getLsbD i = decide (i < 8) := by
  have h : ∀ n : Nat, n < 32 → (255 : Int32).toBitVec.getLsbD n = decide (n < 8) := by decide
  exact h i hi
theorem cr_lo (a : Int32) (j : Nat) (hj : j < 8) : (a &&& 255).toBitVec.getLsbD j = a.toBitVec.getLsbD j := by
  rw [Int32.toBitVec_and, BitVec.getLsbD_and, cr_255 j (by omega)]
  simp [hj]
theorem cr_hi (a : Int32) : (a &&& 255).toBitVec >>> 8 = 0#32 := by
  apply BitVec.eq_of_getLsbD_eq
  intro i hi
  rw [BitVec.getLsbD_ushiftRight, Int32.toBitVec_and, BitVec.getLsbD_and, BitVec.getLsbD_zero]
  by_cases h : 8 + i < 32
  · rw [cr_255 (8 + i) h]
    simp
  · rw [BitVec.getLsbD_of_ge _ _ (by omega : 32 ≤ 8 + i)]
    simp
/-- the bits of one byte, one behind the other -/
def cq_j (a s : Int32) : Nat → Int32
  | 0 => s
  | j + 1 => cq_s (cq_j a s j) ((a >>> (Int32.ofInt (j : Int) &&& 31)) &&& 1)
theorem cr_cq (a s : Int32) : ∀ j : Nat, j ≤ 8 → (cr_i j (s ^^^ (a &&& 255))).toBitVec = (cq_j a s j).toBitVec ^^^ ((a &&& 255).toBitVec >>> j)
  | 0, _ => by
    show (s ^^^ (a &&& 255)).toBitVec = s.toBitVec ^^^ ((a &&& 255).toBitVec >>> 0)
    rw [Int32.toBitVec_xor, BitVec.ushiftRight_zero]
  | j + 1, h => by
    have ih := cr_cq a s j (by omega)
    show (cr_s (cr_i j (s ^^^ (a &&& 255)))).toBitVec = (cq_s (cq_j a s j) ((a >>> (Int32.ofInt (j : Int) &&& 31)) &&& 1)).toBitVec ^^^ ((a &&& 255).toBitVec >>> (j + 1))
    rw [cr_sb, cq_sb, ih, cq_bit a j (by omega), BitVec.getLsbD_xor, BitVec.getLsbD_ushiftRight, Nat.add_zero, cr_lo a j (by omega), BitVec.ushiftRight_xor_distrib, ← BitVec.shiftRight_add]
    rw [BitVec.xor_assoc, BitVec.xor_assoc, BitVec.xor_comm ((a &&& 255).toBitVec >>> (j + 1))]
theorem cr_byte (a s : Int32) : cr_i 8 (s ^^^ (a &&& 255)) = cq_j a s 8 := by
  apply Int32.toBitVec_inj.mp
  rw [cr_cq a s 8 (by omega), cr_hi, BitVec.xor_zero]
theorem cq_run (f : Nat → Int32) (x : Int) (m : Nat) : ∀ j : Nat, j ≤ 8 → cq_n f x (8 * m + j) = cq_j (gr f (x + m)) (cq_n f x (8 * m)) j
  | 0, _ => rfl
  | j + 1, h => by
    have ih := cq_run f x m j (by omega)
    show cq_s (cq_n f x (8 * m + j)) (cq_b f x ((8 * m + j : Nat) : Int)) = cq_s (cq_j (gr f (x + m)) (cq_n f x (8 * m)) j) _
    rw [ih]
    refine congrArg (cq_s _) ?_
    unfold cq_b
    rw [show x + ((8 * m + j : Nat) : Int) / 8 = x + m by omega, show ((8 * m + j : Nat) : Int) % 8 = (j : Int) by omega]
theorem cq_cr (f : Nat → Int32) (x : Int) : ∀ m : Nat, cq_n f x (8 * m) = cr_n f x m
  | 0 => rfl
  | m + 1 => by
    have ih := cq_cr f x m
    have h := cq_run f x m 8 (by omega)
    rw [show 8 * (m + 1) = 8 * m + 8 by omega, h, ih]
    exact (cr_byte _ _).symm
theorem cr_same {f g : Nat → Int32} {x y : Int} : ∀ m : Nat, (∀ j : Int, 0 ≤ j → j < m → gr f (x + j) = gr g (y + j)) → cr_n f x m = cr_n g y m
  | 0, _ => rfl
  | m + 1, h => by
    have ih := cr_same (f := f) (g := g) (x := x) (y := y) m (fun j h0 h1 => h j h0 (by omega))
    show cr_i 8 (cr_n f x m ^^^ (gr f (x + m) &&& 255)) = cr_i 8 (cr_n g y m ^^^ (gr g (y + m) &&& 255))
    rw [ih, h m (by omega) (by omega)]
/-- the steps of both loops -/
theorem cr_e1 {s m u v : Int32} (e1 : m = s &&& 1) (h : m.toInt = 1) (e2 : u = (s.toUInt32 >>> ((1 : Int32).toUInt32 &&& Int32.toUInt32 31)).toInt32) (e3 : v = u ^^^ (-306674912)) : v = cr_s s := by
  have hm : m = 1 := Int32.toInt_inj.mp (h.trans (by decide))
  unfold cr_s
  rw [if_pos (e1.symm.trans hm), e3, e2]
  rfl
theorem cr_e0 {s m u v : Int32} (e1 : m = s &&& 1) (h : ¬ m.toInt = 1) (e2 : u = (s.toUInt32 >>> ((1 : Int32).toUInt32 &&& Int32.toUInt32 31)).toInt32) (e3 : v = u ^^^ 0) : v = cr_s s := by
  have hm : ¬ m = 1 := fun z9 => h (by rw [z9]; decide)
  unfold cr_s
  rw [if_neg (fun z9 => hm (e1.trans z9)), e3, e2, Int32.xor_zero]
  rfl
theorem cr_st {a s s2 : Int32} {b b2 : Int} (h : s = cr_i b.toNat a) (h0 : 0 ≤ b) (hb : b2 = b + 1) (e : s2 = cr_s s) : s2 = cr_i b2.toNat a := by
  rw [hb, show (b + 1).toNat = b.toNat + 1 by omega]
  show s2 = cr_s (cr_i b.toNat a)
  rw [← h]
  exact e
theorem cr_z {f : Nat → Int32} {k : Int} {s i j v b : Int32} (e1 : v = s ^^^ j) (e2 : j = i &&& 255) (e3 : i = gr f k) (hb : b.toInt = 0) : v = cr_i b.toInt.toNat (s ^^^ (gr f k &&& 255)) := by
  rw [hb, e1, e2, e3]
  rfl
theorem cr_nx {f : Nat → Int32} {x k k2 b : Int} {s s2 : Int32} (hs : s = cr_n f x (k - x).toNat) (h2 : s2 = cr_i b.toNat (s ^^^ (gr f k &&& 255))) (hb : b = 8) (hk : x ≤ k) (hk2 : k2 = k + 1) : s2 = cr_n f x (k2 - x).toNat := by
  subst hb hk2
  rw [show (k + 1 - x).toNat = (k - x).toNat + 1 by omega]
  show s2 = cr_i 8 (cr_n f x (k - x).toNat ^^^ (gr f (x + ((k - x).toNat : Nat)) &&& 255))
  rw [← hs, show x + (((k - x).toNat : Nat) : Int) = k by omega]
  exact h2
theorem cq_bb {f : Nat → Int32} {x k : Int} {v i j m : Int32} (e1 : v = i &&& 1) (e2 : i = j >>> (m &&& 31)) (e3 : j = gr f (x + k / 8)) (hm : m.toInt = k % 8) : v = cq_b f x k := by
  unfold cq_b
  rw [e1, e2, e3, ← hm, Int32.ofInt_toInt]
theorem cq_e1 {s b m u v : Int32} (e1 : m = s &&& 1) (h : ¬ m.toInt = b.toInt) (e2 : u = (s.toUInt32 >>> ((1 : Int32).toUInt32 &&& Int32.toUInt32 31)).toInt32) (e3 : v = u ^^^ (-306674912)) : v = cq_s s b := by
  unfold cq_s
  rw [if_neg (fun z9 => h (by rw [e1, z9])), e3, e2]
  rfl
theorem cq_e0 {s b m u : Int32} (e1 : m = s &&& 1) (h : m.toInt = b.toInt) (e2 : u = (s.toUInt32 >>> ((1 : Int32).toUInt32 &&& Int32.toUInt32 31)).toInt32) : u = cq_s s b := by
  have hm : m = b := Int32.toInt_inj.mp h
  unfold cq_s
  rw [if_pos (e1.symm.trans hm), e2]
  rfl
theorem cq_st {f : Nat → Int32} {x k k2 : Int} {s s2 b : Int32} (hs : s = cq_n f x k.toNat) (hk : 0 ≤ k) (hk2 : k2 = k + 1) (hb : b = cq_b f x k) (e : s2 = cq_s s b) : s2 = cq_n f x k2.toNat := by
  subst hk2 hb
  rw [show (k + 1).toNat = k.toNat + 1 by omega]
  show s2 = cq_s (cq_n f x k.toNat) (cq_b f x ((k.toNat : Nat) : Int))
  rw [← hs, show ((k.toNat : Nat) : Int) = k by omega]
  exact e
theorem cq_ret {f : Nat → Int32} {x k n : Int} {s r : Int32} (hs : s = cq_n f x k.toNat) (hn : 0 ≤ n) (hk : k = 8 * n) (e : r = s ^^^ (-1)) : r = cr_n f x n.toNat ^^^ (-1) := by
  subst hk
  rw [e, hs, show (8 * n).toNat = 8 * n.toNat by omega, cq_cr]
theorem cr_ret {f : Nat → Int32} {x k n : Int} {s r : Int32} (hs : s = cr_n f x (k - x).toNat) (hk : k = x + n) (e : r = s ^^^ (-1)) : r = cr_n f x n.toNat ^^^ (-1) := by
  subst hk
  rw [e, hs, show x + n - x = n by omega]
theorem cr_rl {f g : Nat → Int32} {s t : Int} {a b : Int32} (h : rl_B f g s) (e : s = t) (ha : a = cr_n f (0 : Int32).toInt s.toNat ^^^ (-1)) (hb : b = cr_n g (0 : Int32).toInt t.toNat ^^^ (-1)) : a.toInt = b.toInt := by
  subst e
  have q : cr_n f 0 s.toNat = cr_n g 0 s.toNat := cr_same s.toNat (fun j h0 h1 => by rw [Int.zero_add]; exact h j h0 (by omega))
  rw [ha, hb, show (0 : Int32).toInt = 0 by decide, q]
/-- a byte more is the same -/
theorem rl_st {f g g2 : Nat → Int32} {k k2 : Int} {v : Int32} (h : rl_B f g k) (h2 : ∀ j : Int, 0 ≤ j → gr g2 j = if j = k then v.toInt8.toInt32 else gr g j) (hk : k2 = k + 1) (hv : v = gr f k) (hf : -128 ≤ v.toInt ∧ v.toInt ≤ 127) : rl_B f g2 k2 := fun j h0 h1 => by
  rw [h2 j h0]
  by_cases c : j = k
  · rw [if_pos c, bz_fit hf, hv, c]
  · rw [if_neg c]
    exact h j h0 (by omega)
theorem tn_dec {a b : Int} {N : Nat} (h : (a + 1).toNat < N + 1) (h0 : 0 ≤ a) (e : b = a + (-1)) : (b + 1).toNat < N := by omega

/-- two to a power -/
def p2 (k : Int) : Int := ((2 ^ k.toNat : Nat) : Int)
theorem p2_0 : p2 0 = 1 := rfl
theorem p2_s {k m : Int} (h : 0 ≤ k) (hm : m = k + 1) : p2 m = 2 * p2 k := by
  subst hm
  unfold p2
  rw [show (k + 1).toNat = k.toNat + 1 by omega, Nat.pow_succ]
  omega
theorem p2_pos (k : Int) : 1 ≤ p2 k := by
  unfold p2
  have := Nat.two_pow_pos k.toNat
  omega
theorem p2_le {k : Int} (h : k ≤ 16) : p2 k ≤ 65536 := by
  unfold p2
  have h1 : 2 ^ k.toNat ≤ 2 ^ 16 := Nat.pow_le_pow_right (by decide) (by omega)
  omega
/-- a byte without its sign; n bytes from y on as a number -/
def bv (f : Nat → Int32) (k : Int) : Int := (gr f k &&& 255).toInt
theorem bv_rng (f : Nat → Int32) (k : Int) : 0 ≤ bv f k ∧ bv f k ≤ 255 := ti_and (z := gr f k &&& 255) (m := 255) (b := 255) 8 rfl (by decide) (by decide)
def av (f : Nat → Int32) (y : Int) : Nat → Int
  | 0 => 0
  | n + 1 => 256 * av f (y + 1) n + bv f y
theorem av_rng (f : Nat → Int32) : ∀ (n : Nat) (y : Int), 0 ≤ av f y n ∧ av f y n < ((256 ^ n : Nat) : Int)
  | 0, y => by rw [av]; exact ⟨Int.le_refl _, by decide⟩
  | n + 1, y => by
    have a := av_rng f n (y + 1)
    have b := bv_rng f y
    rw [av, Nat.pow_succ]
    generalize 256 ^ n = w at *
    omega
theorem av2 (f : Nat → Int32) (y : Int) : 0 ≤ av f y 2 ∧ av f y 2 ≤ 65535 := by
  have a := av_rng f 2 y
  have b : ((256 ^ 2 : Nat) : Int) = 65536 := by decide
  omega
theorem av4 (f : Nat → Int32) (y : Int) : 0 ≤ av f y 4 ∧ av f y 4 < 4294967296 := by
  have a := av_rng f 4 y
  have b : ((256 ^ 4 : Nat) : Int) = 4294967296 := by decide
  omega
theorem av_le (f : Nat → Int32) {n : Nat} (h : n ≤ 4) (y : Int) : 0 ≤ av f y n ∧ av f y n < 4294967296 := by
  have a := av_rng f n y
  have b : 256 ^ n ≤ 256 ^ 4 := Nat.pow_le_pow_right (by decide) h
  have c : 256 ^ 4 = 4294967296 := by decide
  omega
theorem av_s {f : Nat → Int32} {x k n : Int} (h : k < n) (h0 : 0 ≤ k) : av f (x + k) (n - k).toNat = 256 * av f (x + k + 1) (n - k - 1).toNat + bv f (x + k) := by
  rw [show (n - k).toNat = (n - k - 1).toNat + 1 by omega, av]
/-- the places of the entries, as the reference steps -/
def dq (f : Nat → Int32) (a : Int) : Nat → Int
  | 0 => a
  | k + 1 => dq f a k + 46 + av f (dq f a k + 28) 2
theorem dq_up (f : Nat → Int32) (a : Int) : ∀ m k : Nat, dq f a k + 46 * m ≤ dq f a (k + m)
  | 0, k => by rw [Nat.add_zero]; omega
  | m + 1, k => by
    have h := dq_up f a m k
    have t := av2 f (dq f a (k + m) + 28)
    rw [show k + (m + 1) = (k + m) + 1 by omega, dq]
    omega
/-- a directory that can be walked from a to e -/
def dq_ok (f : Nat → Int32) (a e : Int) : Prop := 0 ≤ a ∧ a ≤ e ∧ ∃ n : Nat, dq f a n = e ∧ ∀ j : Nat, j < n → dq f a j + 46 ≤ e
theorem dq_next {f : Nat → Int32} {a e p : Int} (h : dq_ok f a e) (hp : ∃ j : Nat, p = dq f a j ∧ p ≤ e) (hl : p < e) : a ≤ p ∧ p + 46 + av f (p + 28) 2 ≤ e ∧ ∃ j : Nat, p + 46 + av f (p + 28) 2 = dq f a j := by
  obtain ⟨h0, h1, n, hn, hj⟩ := h
  obtain ⟨j, rfl, -⟩ := hp
  have hjn : j < n := by
    rcases Nat.lt_or_ge j n with w | w
    · exact w
    · have u := dq_up f a (j - n) n
      rw [show n + (j - n) = j by omega, hn] at u
      omega
  have u := dq_up f a (n - (j + 1)) (j + 1)
  rw [show j + 1 + (n - (j + 1)) = n by omega, hn, dq] at u
  have v := dq_up f a j 0
  rw [Nat.zero_add, dq] at v
  exact ⟨by omega, by omega, j + 1, by rw [dq]⟩

/-! bytes that are the same, that differ -/
theorem ie_eq {i j A B : Int32} (e1 : i = A) (e2 : j = B) (h : i.toInt = j.toInt) : A = B := by
  rw [← e1, ← e2]
  exact Int32.toInt_inj.mp h
theorem ie_ne {i j A B : Int32} (e1 : i = A) (e2 : j = B) (h : ¬ i.toInt = j.toInt) : ¬ A = B := fun z => h (by rw [e1, e2, z])
theorem ie_lt {i j A B C D : Int32} (e1 : i = A) (e2 : j = B) (ha : A = C) (hb : B = D) (h : i.toInt < j.toInt) : C.toInt < D.toInt := by
  rw [← ha, ← hb, ← e1, ← e2]
  exact h
theorem lp_st {α : Type} {A B : Int → α} {k k2 : Int} (h : ∀ j : Int, 0 ≤ j → j < k → A j = B j) (e : k2 = k + 1) (h3 : A k = B k) : ∀ j : Int, 0 ≤ j → j < k2 → A j = B j := fun j h0 h1 => by
  by_cases c : j = k
  · rw [c]
    exact h3
  · exact h j h0 (by omega)
theorem ll_st {P : Int → Prop} {k k2 : Int} (h : ∀ j : Int, 0 ≤ j → j < k → P j) (e : k2 = k + 1) (h3 : P k) : ∀ j : Int, 0 ≤ j → j < k2 → P j := fun j h0 h1 => by
  by_cases c : j = k
  · rw [c]
    exact h3
  · exact h j h0 (by omega)
/-! NAMES -/
def ch_ (c : Int) : Prop := 97 ≤ c ∧ c ≤ 122 ∨ 48 ≤ c ∧ c ≤ 57 ∨ c = 46 ∨ c = 95
def pe_ (a : Int → Int) (b e : Int) : Prop := b < e ∧ (∀ k : Int, b ≤ k → k < e → ch_ (a k)) ∧ ¬ (e - b ≤ 2 ∧ ∀ k : Int, b ≤ k → k < e → a k = 46)
def iA_ (a : Int → Int) (x n : Int) : Prop := 1 ≤ n ∧ n ≤ 24 ∧ ∀ b e : Int, x ≤ b → b ≤ e → e ≤ x + n → (b = x ∨ a (b - 1) = 47) → (e = x + n ∨ a e = 47) → (∀ k : Int, b ≤ k → k < e → ¬ a k = 47) → pe_ a b e
def iB_ (a : Int → Int) (x n bg : Int) : Prop := ∀ b e : Int, x ≤ b → b ≤ e → e < bg → (b = x ∨ a (b - 1) = 47) → (e = x + n ∨ a e = 47) → (∀ k : Int, b ≤ k → k < e → ¬ a k = 47) → pe_ a b e
theorem iB_0 {a : Int → Int} {x n bg : Int} (h : bg = x) : iB_ a x n bg := fun b e h0 h1 h2 => absurd h2 (by omega)
theorem iB_s {a : Int → Int} {x n bg k bg2 : Int} (h : iB_ a x n bg) (h0 : x ≤ bg) (hb : bg = x ∨ a (bg - 1) = 47) (h1 : bg ≤ k) (h47 : ∀ j : Int, bg ≤ j → j < k → ¬ a j = 47) (hk : k ≤ x + n) (p : pe_ a bg k) (e2 : bg2 = k + 1) : iB_ a x n bg2 := by
  subst e2
  intro b e b0 b1 b2 b3 b4 b5
  by_cases c : e < bg
  · exact h b e b0 b1 c b3 b4 b5
  · by_cases c2 : e = k
    · have hbb : b = bg := by
        rcases Int.lt_trichotomy b bg with q | q | q
        · rcases hb with r | r
          · omega
          · exact absurd r (b5 (bg - 1) (by omega) (by omega))
        · exact q
        · rcases b3 with r | r
          · omega
          · exact absurd r (h47 (b - 1) (by omega) (by omega))
      rw [hbb, c2]
      exact p
    · rcases b4 with r | r
      · omega
      · exact absurd r (h47 e (by omega) (by omega))
theorem iA_of {a : Int → Int} {x n bg : Int} (h : iB_ a x n bg) (hb : bg = x + n + 1) (h0 : 1 ≤ n) (h1 : n ≤ 24) : iA_ a x n := ⟨h0, h1, fun b e b0 b1 b2 b3 b4 b5 => h b e b0 b1 (by omega) b3 b4 b5⟩
theorem iA_no {a : Int → Int} {x n bg k : Int} (h0 : x ≤ bg) (hb : bg = x ∨ a (bg - 1) = 47) (h1 : bg ≤ k) (hk : k ≤ x + n) (h47 : ∀ j : Int, bg ≤ j → j < k → ¬ a j = 47) (he : k = x + n ∨ a k = 47) (p : ¬ pe_ a bg k) : ¬ iA_ a x n := fun q => p (q.2.2 bg k h0 h1 hk hb he h47)
theorem nx_ {a : Int → Int} {x n : Int} : ∀ (d : Nat) (k : Int), k + d = x + n → ∃ e : Int, k ≤ e ∧ e ≤ x + n ∧ (e = x + n ∨ a e = 47) ∧ ∀ j : Int, k ≤ j → j < e → ¬ a j = 47
  | 0, k, h => ⟨k, Int.le_refl _, by omega, Or.inl (by omega), fun j j0 j1 => absurd j1 (by omega)⟩
  | d + 1, k, h => by
    by_cases c : a k = 47
    · exact ⟨k, Int.le_refl _, by omega, Or.inr c, fun j j0 j1 => absurd j1 (by omega)⟩
    · obtain ⟨e, e0, e1, e2, e3⟩ := nx_ (a := a) (x := x) (n := n) d (k + 1) (by omega)
      refine ⟨e, by omega, e1, e2, fun j j0 j1 => ?_⟩
      by_cases q : j = k
      · rw [q]
        exact c
      · exact e3 j (by omega) j1
/-- a byte that no name has -/
theorem iA_ch {a : Int → Int} {x n bg k : Int} (h0 : x ≤ bg) (hb : bg = x ∨ a (bg - 1) = 47) (h1 : bg ≤ k) (hk : k < x + n) (h47 : ∀ j : Int, bg ≤ j → j < k → ¬ a j = 47) (hc : ¬ ch_ (a k)) (hn : ¬ a k = 47) : ¬ iA_ a x n := fun q => by
  obtain ⟨e, e0, e1, e2, e3⟩ := nx_ (a := a) (x := x) (n := n) (x + n - (k + 1)).toNat (k + 1) (by omega)
  have p := q.2.2 bg e h0 (by omega) e1 hb e2 (fun j j0 j1 => by
    by_cases c : j < k
    · exact h47 j j0 c
    · by_cases c2 : j = k
      · rw [c2]
        exact hn
      · exact e3 j (by omega) j1)
  exact hc (p.2.1 k h1 (by omega))
theorem iA_out {a : Int → Int} {x n : Int} (h : ¬ (1 ≤ n ∧ n ≤ 24)) : ¬ iA_ a x n := fun q => h ⟨q.1, q.2.1⟩
theorem iA_cong {a b : Int → Int} {x n : Int} (h : ∀ k : Int, x ≤ k → k < x + n → a k = b k) (q : iA_ a x n) : iA_ b x n := by
  obtain ⟨h0, h1, h2⟩ := q
  refine ⟨h0, h1, fun s e s0 s1 s2 s3 s4 s5 => ?_⟩
  have p := h2 s e s0 s1 s2 (by
    rcases s3 with r | r
    · exact Or.inl r
    · by_cases c : s = x
      · exact Or.inl c
      · exact Or.inr (by rw [h (s - 1) (by omega) (by omega)]; exact r)) (by
    rcases s4 with r | r
    · exact Or.inl r
    · by_cases c : e = x + n
      · exact Or.inl c
      · exact Or.inr (by rw [h e (by omega) (by omega)]; exact r)) (fun k k0 k1 => by rw [h k (by omega) (by omega)]; exact s5 k k0 k1)
  obtain ⟨p0, p1, p2⟩ := p
  refine ⟨p0, fun k k0 k1 => by rw [← h k (by omega) (by omega)]; exact p1 k k0 k1, fun r => p2 ⟨r.1, fun k k0 k1 => by rw [h k (by omega) (by omega)]; exact r.2 k k0 k1⟩⟩
/-- the class's count of dots -/
theorem pe_y {a : Int → Int} {b e d : Int} (h0 : b < e) (h1 : ∀ k : Int, b ≤ k → k < e → ch_ (a k)) (hd : (∀ k : Int, b ≤ k → k < e → a k = 46) → d = e - b) (h : d < e - b ∨ 2 < d) : pe_ a b e := ⟨h0, h1, fun q => by have := hd q.2; omega⟩
theorem pe_n {a : Int → Int} {b e d : Int} (hd : d = e - b → ∀ k : Int, b ≤ k → k < e → a k = 46) (h : ¬ b < e ∨ e - b ≤ d ∧ d ≤ 2) (hle : b < e → d ≤ e - b) : ¬ pe_ a b e := fun q => by
  have hl := hle q.1
  rcases h with r | r
  · exact r q.1
  · exact q.2.2 ⟨by omega, hd (by omega)⟩
theorem pe_c {a : Int → Int} {b e k : Int} (h0 : b ≤ k) (h1 : k < e) (hc : ¬ ch_ (a k)) : ¬ pe_ a b e := fun q => hc (q.2.1 k h0 h1)
theorem lq_st {P : Int → Prop} {b k k2 : Int} (h : ∀ j : Int, b ≤ j → j < k → P j) (e : k2 = k + 1) (h3 : P k) : ∀ j : Int, b ≤ j → j < k2 → P j := fun j h0 h1 => by
  by_cases c : j = k
  · rw [c]
    exact h3
  · exact h j h0 (by omega)
theorem dt_y {a : Int → Int} {b k k2 d d2 : Int} (h : d = k - b → ∀ j : Int, b ≤ j → j < k → a j = 46) (hle : d ≤ k - b) (e : k2 = k + 1) (hs : a k = 46 ∧ d2 = d + 1 ∨ ¬ a k = 46 ∧ d2 = d) : d2 = k2 - b → ∀ j : Int, b ≤ j → j < k2 → a j = 46 := fun q => lq_st (h (by omega)) e (by omega)
theorem dt_n {a : Int → Int} {b k k2 d d2 : Int} (h : (∀ j : Int, b ≤ j → j < k → a j = 46) → d = k - b) (hk : b ≤ k) (e : k2 = k + 1) (hs : a k = 46 ∧ d2 = d + 1 ∨ ¬ a k = 46 ∧ d2 = d) : (∀ j : Int, b ≤ j → j < k2 → a j = 46) → d2 = k2 - b := fun q => by
  have q1 := q k hk (by omega)
  have q2 := h (fun j j0 j1 => q j j0 (by omega))
  omega
/-- the reference's: a piece of bytes that names have -/
theorem pe_r {a : Int → Int} {b e : Int} (h0 : b < e) (h1 : ∀ k : Int, b ≤ k → k < e → ch_ (a k)) (hd : ¬ (e - b = 1 ∧ a b = 46 ∨ e - b = 2 ∧ a b = 46 ∧ a (b + 1) = 46)) : pe_ a b e := ⟨h0, h1, fun q => hd (by
  have q1 := q.2 b (Int.le_refl _) h0
  by_cases c : e - b = 1
  · exact Or.inl ⟨c, q1⟩
  · exact Or.inr ⟨by omega, q1, q.2 (b + 1) (by omega) (by omega)⟩)⟩
theorem pe_q {a : Int → Int} {b e : Int} (h : ¬ b < e ∨ (e - b = 1 ∧ a b = 46 ∨ e - b = 2 ∧ a b = 46 ∧ a (b + 1) = 46)) : ¬ pe_ a b e := fun q => by
  rcases h with r | ⟨r1, r2⟩ | ⟨r1, r2, r3⟩
  · exact r q.1
  · refine q.2.2 ⟨by omega, fun k k0 k1 => ?_⟩
    rw [show k = b by omega]
    exact r2
  · refine q.2.2 ⟨by omega, fun k k0 k1 => ?_⟩
    by_cases c : k = b
    · rw [c]
      exact r2
    · rw [show k = b + 1 by omega]
      exact r3
/-! NUMBERS OF A ROW -/
theorem or_nat (x y k : Nat) (h : x < 2 ^ k) : x ||| y * 2 ^ k = x + y * 2 ^ k := by
  rw [Nat.or_comm, ← Nat.shiftLeft_eq, ← Nat.shiftLeft_add_eq_or_of_lt h, Nat.add_comm]
theorem ti_orv {x y z : Int32} {a b c : Int} (k : Nat) (e : z = x ||| y) (hx : x.toInt = a) (hy : y.toInt = b * c) (hk : ((2 ^ k : Nat) : Int) = c) (a0 : 0 ≤ a) (a1 : a < c) (b0 : 0 ≤ b) : z.toInt = a + b * c := by
  subst e
  have hy0 : 0 ≤ y.toInt := by
    rw [hy]
    exact Int.mul_nonneg b0 (by omega)
  obtain ⟨i, hi, rfl⟩ := ti_nat (x := x) (by omega)
  obtain ⟨j, hj, rfl⟩ := ti_nat hy0
  rw [nI_toInt hi] at hx
  rw [nI_toInt hj] at hy
  obtain ⟨w, rfl⟩ : ∃ w : Nat, b = (w : Int) := ⟨b.toNat, by omega⟩
  subst hk hx
  have ej : j = w * 2 ^ k := by
    rw [← Int.natCast_mul] at hy
    exact Int.ofNat.inj hy
  subst ej
  rw [ti_orN hi hj, or_nat i w k (Int.ofNat_lt.mp a1), Int.natCast_add, Int.natCast_mul]
theorem tl_orv {x y z : Int64} {a b c : Int} (k : Nat) (e : z = x ||| y) (hx : x.toInt = a) (hy : y.toInt = b * c) (hk : ((2 ^ k : Nat) : Int) = c) (a0 : 0 ≤ a) (a1 : a < c) (b0 : 0 ≤ b) : z.toInt = a + b * c := by
  subst e
  have hy0 : 0 ≤ y.toInt := by
    rw [hy]
    exact Int.mul_nonneg b0 (by omega)
  obtain ⟨i, hi, rfl⟩ := tl_nat (x := x) (by omega)
  obtain ⟨j, hj, rfl⟩ := tl_nat hy0
  rw [pk_lT hi] at hx
  rw [pk_lT hj] at hy
  obtain ⟨w, rfl⟩ : ∃ w : Nat, b = (w : Int) := ⟨b.toNat, by omega⟩
  subst hk hx
  have ej : j = w * 2 ^ k := by
    rw [← Int.natCast_mul] at hy
    exact Int.ofNat.inj hy
  subst ej
  rw [tl_orN hi hj, or_nat i w k (Int.ofNat_lt.mp a1), Int.natCast_add, Int.natCast_mul]
theorem av_2 (f : Nat → Int32) (y : Int) : av f y 2 = bv f y + 256 * bv f (y + 1) := by
  rw [av, av, av]
  omega
theorem av4_2 (f : Nat → Int32) (y : Int) : av f y 4 = av f y 2 + 65536 * av f (y + 2) 2 := by
  rw [av_2, av_2, av, av, av, av, av, show y + 1 + 1 = y + 2 by omega, show y + 2 + 1 = y + 3 by omega]
  omega
theorem tw_avE {f : Nat → Int32} {x : Int} {z a b c d e : Int32} (e1 : z = a ||| b) (e2 : b = c <<< ((8 : Int32) &&& 31)) (e3 : c = d &&& 255) (e4 : d = gr f (x + 1)) (e5 : a = e &&& 255) (e6 : e = gr f x) : z.toInt = av f x 2 := by
  have ra := ti_and (m := 255) (b := 255) 8 e5 (by decide) (by decide)
  have rc := ti_and (m := 255) (b := 255) 8 e3 (by decide) (by decide)
  have hb := ti_shl (b := 256) e2 rfl 8 (by decide) (by decide) rc.1 (by omega)
  have h := ti_orv (c := 256) 8 e1 rfl hb (by decide) ra.1 (by omega) rc.1
  have ea : a.toInt = bv f x := by
    rw [e5, e6]
    rfl
  have ec : c.toInt = bv f (x + 1) := by
    rw [e3, e4]
    rfl
  rw [h, av_2, ea, ec]
  omega

/-- the sum of bytes -/
def cw_ (d : Int → Int32) : Nat → Int32
  | 0 => -1
  | m + 1 => cr_i 8 (cw_ d m ^^^ (d m &&& 255))
theorem cr_cw {f : Nat → Int32} {d : Int → Int32} {x : Int} : ∀ m : Nat, (∀ j : Int, 0 ≤ j → j < m → gr f (x + j) = d j) → cr_n f x m = cw_ d m
  | 0, _ => rfl
  | m + 1, h => by
    have ih := cr_cw (f := f) (d := d) (x := x) m (fun j h0 h1 => h j h0 (by omega))
    have e := h (m : Int) (by omega) (by omega)
    show cr_i 8 (cr_n f x m ^^^ (gr f (x + m) &&& 255)) = cr_i 8 (cw_ d m ^^^ (d m &&& 255))
    rw [ih, e]
theorem l2i_E {z : Int64} {w : Int32} {v : Int} (e : w = z.toInt32) (h : z.toInt = v) : w = Int32.ofInt v := by
  subst h
  rw [e]
  rfl
/-! THE FILE: the pure picture -/
def ap_ (f : Nat → Int32) (s : Int) (g : Nat → Int32) (t : Int) (K : List Int32) : Prop := t = s + (K.length : Int) ∧ (∀ j : Int, 0 ≤ j → j < s → gr g j = gr f j) ∧ ∀ k : Nat, k < K.length → K[k]? = some (gr g (s + (k : Int)))
theorem ap_nil {f : Nat → Int32} {s t : Int} (h : t = s) : ap_ f s f t [] := ⟨by
  show t = s + ((0 : Nat) : Int)
  omega, fun _ _ _ => rfl, fun k hk => absurd hk (Nat.not_lt_zero k)⟩
theorem ap_app {f g h : Nat → Int32} {s t u : Int} {K L : List Int32} (s0 : 0 ≤ s) (a : ap_ f s g t K) (b : ap_ g t h u L) : ap_ f s h u (K ++ L) := by
  obtain ⟨a1, a2, a3⟩ := a
  obtain ⟨b1, b2, b3⟩ := b
  refine ⟨by rw [List.length_append, Int.natCast_add]; omega, fun j j0 j1 => ?_, fun k hk => ?_⟩
  · rw [b2 j j0 (by omega), a2 j j0 j1]
  · rw [List.length_append] at hk
    by_cases c : k < K.length
    · rw [List.getElem?_append_left c, a3 k c, b2 _ (by omega) (by omega)]
    · rw [List.getElem?_append_right (by omega), b3 (k - K.length) (by omega)]
      exact congrArg (fun z => some (gr h z)) (by omega)
theorem ap_e {f g : Nat → Int32} {s t : Int} {K L : List Int32} (a : ap_ f s g t K) (e : K = L) : ap_ f s g t L := e ▸ a
theorem ap_1 {f g : Nat → Int32} {s t : Int} {v w : Int32} (ht : t = s + 1) (s0 : 0 ≤ s) (hg : ∀ j : Int, 0 ≤ j → gr g j = if j = s then v else gr f j) (e : v = w) : ap_ f s g t [w] := ⟨by
  show t = s + ((1 : Nat) : Int)
  omega, fun j j0 j1 => by rw [hg j j0, if_neg (by omega)], fun k hk => by
  have k1 : k < 1 := hk
  have k0 : k = 0 := by omega
  subst k0
  rw [hg _ (by omega), if_pos (by omega), e]
  rfl⟩
/-- a run of bytes -/
def bl_ (g : Nat → Int32) (y n : Int) : List Int32 := (List.range n.toNat).map (fun (k : Nat) => gr g (y + (k : Int)))
theorem bl_len (g : Nat → Int32) (y n : Int) : (bl_ g y n).length = n.toNat := by
  unfold bl_
  rw [List.length_map, List.length_range]
theorem bl_get {g : Nat → Int32} {y n : Int} {k : Nat} (h : k < n.toNat) : (bl_ g y n)[k]? = some (gr g (y + (k : Int))) := by
  unfold bl_
  rw [List.getElem?_map, List.getElem?_range h]
  rfl
theorem mp_ext {α β : Type} {f g : Nat → β} : ∀ {n : Nat}, (∀ k : Nat, k < n → f k = g k) → (List.range n).map f = (List.range n).map g := fun {n} h => List.map_congr_left (fun k hk => h k (List.mem_range.mp hk))
theorem bl_cg {f g : Nat → Int32} {x y n m : Int} (e : n = m) (h : ∀ k : Int, 0 ≤ k → k < n → gr f (x + k) = gr g (y + k)) : bl_ f x n = bl_ g y m := by
  subst e
  refine mp_ext (α := Nat) (fun k hk => ?_)
  exact h (k : Int) (by omega) (by omega)
theorem ap_bl {f g r : Nat → Int32} {s t n y : Int} (ht : t = s + n) (n0 : 0 ≤ n) (s0 : 0 ≤ s) (hg : ∀ j : Int, 0 ≤ j → gr g j = if s ≤ j ∧ j < s + n then gr r (y + (j - s)) else gr f j) : ap_ f s g t (bl_ r y n) := ⟨by
  rw [bl_len]
  omega, fun j j0 j1 => by rw [hg j j0, if_neg (by omega)], fun k hk => by
  rw [bl_len] at hk
  rw [bl_get hk, hg _ (by omega), if_pos (by omega)]
  exact congrArg (fun z => some (gr r z)) (by omega)⟩
/-- numbers, their lowest byte first -/
def nk_ (v : Int) : Nat → List Int32
  | 0 => []
  | k + 1 => nk_ v k ++ [by_ (v / ((256 ^ k : Nat) : Int))]
theorem nk_len (v : Int) : ∀ n : Nat, (nk_ v n).length = n
  | 0 => rfl
  | n + 1 => by
    show (nk_ v n ++ [by_ (v / ((256 ^ n : Nat) : Int))]).length = n + 1
    rw [List.length_append, nk_len v n]
    rfl
theorem nk_1 (v : Int) : nk_ v 1 = [by_ v] := by
  show [by_ (v / ((1 : Nat) : Int))] = [by_ v]
  rw [show v / ((1 : Nat) : Int) = v by omega]
theorem nk_2 (v : Int) : nk_ v 2 = [by_ v] ++ [by_ (v / 256)] := by
  show [by_ (v / ((1 : Nat) : Int)), by_ (v / ((256 : Nat) : Int))] = [by_ v, by_ (v / 256)]
  rw [show v / ((1 : Nat) : Int) = v by omega]
  rfl
theorem nk_4 (v : Int) : nk_ v 4 = nk_ v 2 ++ nk_ (v / 65536) 2 := by
  rw [nk_2, nk_2]
  show [by_ (v / ((1 : Nat) : Int)), by_ (v / ((256 : Nat) : Int)), by_ (v / ((65536 : Nat) : Int)), by_ (v / ((16777216 : Nat) : Int))] = [by_ v, by_ (v / 256), by_ (v / 65536), by_ (v / 65536 / 256)]
  rw [show v / ((1 : Nat) : Int) = v by omega, show v / 65536 / 256 = v / ((16777216 : Nat) : Int) by omega]
  rfl
theorem nk_42 {v : Int} (h0 : 0 ≤ v) (h1 : v < 65536) : nk_ v 4 = nk_ v 2 ++ nk_ 0 2 := by
  rw [nk_4, show v / 65536 = 0 by omega]
theorem nk_08 : nk_ 0 8 = nk_ 0 2 ++ nk_ 0 2 ++ nk_ 0 2 ++ nk_ 0 2 := rfl
theorem tb_c (w : Int64) {c : Int64} (n : Nat) (hv : (c.toBitVec.smod 64).toNat = n) : (w >>> c).toInt = w.toInt / ((2 ^ n : Nat) : Int) := by
  show (w.toBitVec.sshiftRight (c.toBitVec.smod 64).toNat).toInt = _
  rw [hv, BitVec.toInt_sshiftRight, Int.shiftRight_eq_div_pow]
  rfl
theorem tp_by {w : Int64} {k : Nat} (h : k ≤ 7) : tp_b w (k : Int) = by_ (w.toInt / ((256 ^ k : Nat) : Int)) := by
  unfold tp_b by_
  refine congrArg (fun z : Int32 => z.toInt8.toInt32) (l2i_E rfl ?_)
  rcases (show k = 0 ∨ k = 1 ∨ k = 2 ∨ k = 3 ∨ k = 4 ∨ k = 5 ∨ k = 6 ∨ k = 7 by omega) with rfl | rfl | rfl | rfl | rfl | rfl | rfl | rfl
  · exact tb_c w 0 (by decide)
  · exact tb_c w 8 (by decide)
  · exact tb_c w 16 (by decide)
  · exact tb_c w 24 (by decide)
  · exact tb_c w 32 (by decide)
  · exact tb_c w 40 (by decide)
  · exact tb_c w 48 (by decide)
  · exact tb_c w 56 (by decide)
theorem ap_nk {f g g2 : Nat → Int32} {s t t2 k k2 : Int} {v : Int32} {w : Int64} (s0 : 0 ≤ s) (h : ap_ f s g t (nk_ w.toInt k.toNat)) (k0 : 0 ≤ k) (k7 : k ≤ 7) (h2 : ∀ j : Int, 0 ≤ j → gr g2 j = if j = t then v.toInt8.toInt32 else gr g j) (hv : v.toInt8.toInt32 = tp_b w k) (ht : t2 = t + 1) (hk : k2 = k + 1) : ap_ f s g2 t2 (nk_ w.toInt k2.toNat) := by
  have tt : 0 ≤ t := by have := h.1; omega
  have e : tp_b w k = by_ (w.toInt / ((256 ^ k.toNat : Nat) : Int)) := by
    have q := tp_by (w := w) (k := k.toNat) (by omega)
    rw [show ((k.toNat : Nat) : Int) = k by omega] at q
    exact q
  rw [show k2.toNat = k.toNat + 1 by omega]
  exact ap_app s0 h (ap_1 ht tt h2 (hv.trans e))
theorem d_Row_init_0 : decode prog_9_method_1_code 0 = .ok (.aload_n 0, 1) := by decide +kernel
theorem d_Row_init_1 : decode prog_9_method_1_code 1 = .ok (.invokespecial 1, 3) := by decide +kernel
theorem k_155 : (Jvm.Cond.methodLink "PackageBook$Row" (1 : Nat) ({ cls := "java/lang/Object", name := "<init>", desc := "()V" } : Jvm.MethodName)) ∈ uW := uW_c0 38 rfl (by decide +kernel)
theorem k_148 : (Jvm.Cond.instanceMethod ({ cls := "java/lang/Object", name := "<init>", desc := "()V" } : Jvm.MethodName)) ∈ uW := uW_c0 31 rfl (by decide +kernel)
theorem k_149 : (Jvm.Cond.code ({ cls := "java/lang/Object", name := "<init>", desc := "()V" } : Jvm.MethodName) object_method_1_code (1 : Nat) (Option.none : Option Jvm.ClassFile.FieldType)) ∈ uW := uW_c0 32 rfl (by decide +kernel)
theorem d_Row_init_4 : decode prog_9_method_1_code 4 = .ok (.aload_n 0, 1) := by decide +kernel
theorem d_Row_init_5 : decode prog_9_method_1_code 5 = .ok (.iload_n 1, 1) := by decide +kernel
theorem d_Row_init_6 : decode prog_9_method_1_code 6 = .ok (.newarray .byte, 2) := by decide +kernel
theorem k_172 : (Jvm.Cond.arrayClass Jvm.ClassFile.FieldType.byte) ∈ uW := uW_c0 55 rfl (by decide +kernel)
theorem d_Row_init_8 : decode prog_9_method_1_code 8 = .ok (.putfield 7, 3) := by decide +kernel
theorem k_156 : (Jvm.Cond.fieldLink "PackageBook$Row" (7 : Nat) "PackageBook$Row" "bytes" "[B") ∈ uW := uW_c0 39 rfl (by decide +kernel)
theorem d_Row_init_11 : decode prog_9_method_1_code 11 = .ok (.return_, 1) := by decide +kernel
abbrev y_Row_init : MethodName := ⟨"PackageBook$Row", "<init>", "(I)V"⟩
abbrev i_Row_init : pb_I := (y_Row_init, prog_9_method_1_code, 2, (Option.none : Option Jvm.ClassFile.FieldType), [], { frames := 1, cells := 1, slots := 15000, locals := 20 })
set_option maxRecDepth 100000 in
set_option maxHeartbeats 4000000 in
theorem g_Row_init {l : Launch} (hl : l.stackTraces = false) (G : pb_G) (h : Nat) (n : Int32) (N : Nat) (hn : ¬ n < 0) (hN : n.toNatClampNeg = N) (hb : N ≤ 15000) : Cn l G i_Row_init [.ref h, .int n] [(h, .inr (0, [.null, .int 0]))] (S := Nat) (fun rv_ u => rv_ = none) (fun u => [(h, .inr (0, [.ref u, .int 0])), (u, .inl (G.2.1, N, .inl (fun _ => 0)))]) := by
  refine Cn.of hl (by decide +kernel) rfl (Nat.le_of_ble_eq_true rfl) (fun M hQ => ?_)
  refine pb_eq (pc' := 0) (lo' := [(0, .ref h), (1, .int n)]) (rest' := []) (ws' := [(h, .inr (0, [.null, .int 0]))]) ?_
  have zl0 : (0 : Int32).toInt = 0 := by decide
  have zl1 : (1 : Int32).toInt = 1 := by decide
  refine pb_aload_n (pc := 0) d_Row_init_0 0 rfl rfl ?_
  refine pb_objInit (pc := 1) d_Row_init_1 k_155 k_148 k_149 (by decide) (Nat.le_of_ble_eq_true rfl) ?_
  refine pb_aload_n (pc := 4) d_Row_init_4 0 rfl rfl ?_
  refine pb_iload_n (pc := 5) d_Row_init_5 1 rfl rfl ?_
  refine pb_newb (pc := 6) (N := N) d_Row_init_6 k_172 hn hN (by rw [show componentBytes .byte = 1 from rfl]; omega) (by decide) (by show 0 + N ≤ 15000; omega) (fun q1 => ?_)
  refine pb_widen (k' := 1) (n' := 15000) (by decide) (by omega) ?_
  refine pb_eq (pc' := 8) (lo' := [(0, .ref h), (1, .int n)]) (rest' := [.ref q1, .ref h]) (ws' := [(h, .inr (0, [.null, .int 0])), (q1, .inl (G.2.1, N, .inl (fun _ => 0)))]) ?_
  refine pb_putF (pc := 8) (ty := (.array .byte)) (ws' := [(h, .inr (0, [.ref q1, .int 0])), (q1, .inl (G.2.1, N, .inl (fun _ => 0)))]) d_Row_init_8 0 0 t_Row t_Row_ok n_Row rfl rfl (by decide) in_Row k_156 rfl rfl rfl (by decide +kernel) rfl rfl (Nat.le_of_ble_eq_true rfl) rfl ?_
  exact pb_vret (pc := 11) hQ d_Row_init_11 rfl (q1) rfl [0, 1] (by decide) rfl rfl (by decide) (by decide)

theorem d_Code_init_0 : decode prog_2_method_1_code 0 = .ok (.aload_n 0, 1) := by decide +kernel
theorem d_Code_init_1 : decode prog_2_method_1_code 1 = .ok (.invokespecial 1, 3) := by decide +kernel
theorem k_225 : (Jvm.Cond.methodLink "PackageBook$Code" (1 : Nat) ({ cls := "java/lang/Object", name := "<init>", desc := "()V" } : Jvm.MethodName)) ∈ uW := uW_c0 108 rfl (by decide +kernel)
theorem d_Code_init_4 : decode prog_2_method_1_code 4 = .ok (.aload_n 0, 1) := by decide +kernel
theorem d_Code_init_5 : decode prog_2_method_1_code 5 = .ok (.bipush 16, 2) := by decide +kernel
theorem d_Code_init_7 : decode prog_2_method_1_code 7 = .ok (.newarray .int, 2) := by decide +kernel
theorem k_211 : (Jvm.Cond.arrayClass Jvm.ClassFile.FieldType.int) ∈ uW := uW_c0 94 rfl (by decide +kernel)
theorem d_Code_init_9 : decode prog_2_method_1_code 9 = .ok (.putfield 9, 3) := by decide +kernel
theorem k_226 : (Jvm.Cond.fieldLink "PackageBook$Code" (9 : Nat) "PackageBook$Code" "counts" "[I") ∈ uW := uW_c0 109 rfl (by decide +kernel)
theorem d_Code_init_12 : decode prog_2_method_1_code 12 = .ok (.aload_n 0, 1) := by decide +kernel
theorem d_Code_init_13 : decode prog_2_method_1_code 13 = .ok (.iload_n 1, 1) := by decide +kernel
theorem d_Code_init_14 : decode prog_2_method_1_code 14 = .ok (.newarray .int, 2) := by decide +kernel
theorem d_Code_init_16 : decode prog_2_method_1_code 16 = .ok (.putfield 13, 3) := by decide +kernel
theorem k_228 : (Jvm.Cond.fieldLink "PackageBook$Code" (13 : Nat) "PackageBook$Code" "symbols" "[I") ∈ uW := uW_c0 111 rfl (by decide +kernel)
theorem d_Code_init_19 : decode prog_2_method_1_code 19 = .ok (.return_, 1) := by decide +kernel
abbrev y_Code_init : MethodName := ⟨"PackageBook$Code", "<init>", "(I)V"⟩
abbrev i_Code_init : pb_I := (y_Code_init, prog_2_method_1_code, 2, (Option.none : Option Jvm.ClassFile.FieldType), [], { frames := 1, cells := 2, slots := 316, locals := 20 })
set_option maxRecDepth 100000 in
set_option maxHeartbeats 4000000 in
theorem g_Code_init {l : Launch} (hl : l.stackTraces = false) (G : pb_G) (h : Nat) (n : Int32) (N : Nat) (hn : ¬ n < 0) (hN : n.toNatClampNeg = N) (hb : N ≤ 300) : Cn l G i_Code_init [.ref h, .int n] [(h, .inr (1, [.null, .null, .int 0]))] (S := Nat × Nat) (fun rv_ u => rv_ = none) (fun u => [(h, .inr (1, [.ref u.1, .ref u.2, .int 0])), (u.1, .inl (G.2.2.1, 16, .inl (fun _ => 0))), (u.2, .inl (G.2.2.1, N, .inl (fun _ => 0)))]) := by
  refine Cn.of hl (by decide +kernel) rfl (Nat.le_of_ble_eq_true rfl) (fun M hQ => ?_)
  refine pb_eq (pc' := 0) (lo' := [(0, .ref h), (1, .int n)]) (rest' := []) (ws' := [(h, .inr (1, [.null, .null, .int 0]))]) ?_
  have zl0 : (0 : Int32).toInt = 0 := by decide
  have zl1 : (1 : Int32).toInt = 1 := by decide
  have zl16 : (16 : Int32).toInt = 16 := by decide
  refine pb_aload_n (pc := 0) d_Code_init_0 0 rfl rfl ?_
  refine pb_objInit (pc := 1) d_Code_init_1 k_225 k_148 k_149 (by decide) (Nat.le_of_ble_eq_true rfl) ?_
  refine pb_aload_n (pc := 4) d_Code_init_4 0 rfl rfl ?_
  refine pb_bipush (pc := 5) (v := 16) d_Code_init_5 (by decide) ?_
  refine pb_newi (pc := 7) (N := 16) d_Code_init_7 k_211 (by decide) (by decide) (by decide) (by decide) (by decide) (fun q1 => ?_)
  refine pb_eq (pc' := 9) (lo' := [(0, .ref h), (1, .int n)]) (rest' := [.ref q1, .ref h]) (ws' := [(h, .inr (1, [.null, .null, .int 0])), (q1, .inl (G.2.2.1, 16, .inl (fun _ => 0)))]) ?_
  refine pb_putF (pc := 9) (ty := (.array .int)) (ws' := [(h, .inr (1, [.ref q1, .null, .int 0])), (q1, .inl (G.2.2.1, 16, .inl (fun _ => 0)))]) d_Code_init_9 0 0 t_Code t_Code_ok n_Code rfl rfl (by decide) in_Code k_226 rfl rfl rfl (by decide +kernel) rfl rfl (Nat.le_of_ble_eq_true rfl) rfl ?_
  refine pb_aload_n (pc := 12) d_Code_init_12 0 rfl rfl ?_
  refine pb_iload_n (pc := 13) d_Code_init_13 1 rfl rfl ?_
  refine pb_newi (pc := 14) (N := N) d_Code_init_14 k_211 hn hN (by rw [show componentBytes .int = 4 from rfl]; omega) (by decide) (by show 16 + N ≤ 316; omega) (fun q2 => ?_)
  refine pb_widen (k' := 2) (n' := 316) (by decide) (by omega) ?_
  refine pb_eq (pc' := 16) (lo' := [(0, .ref h), (1, .int n)]) (rest' := [.ref q2, .ref h]) (ws' := [(h, .inr (1, [.ref q1, .null, .int 0])), (q1, .inl (G.2.2.1, 16, .inl (fun _ => 0))), (q2, .inl (G.2.2.1, N, .inl (fun _ => 0)))]) ?_
  refine pb_putF (pc := 16) (ty := (.array .int)) (ws' := [(h, .inr (1, [.ref q1, .ref q2, .int 0])), (q1, .inl (G.2.2.1, 16, .inl (fun _ => 0))), (q2, .inl (G.2.2.1, N, .inl (fun _ => 0)))]) d_Code_init_16 0 1 t_Code t_Code_ok n_Code rfl rfl (by decide) in_Code k_228 rfl rfl rfl (by decide +kernel) rfl rfl (Nat.le_of_ble_eq_true rfl) rfl ?_
  exact pb_vret (pc := 19) hQ d_Code_init_19 rfl (q1, q2) rfl [0, 1, 2] (by decide) rfl rfl (by decide) (by decide)

theorem d_Shelf_init_0 : decode prog_10_method_1_code 0 = .ok (.aload_n 0, 1) := by decide +kernel
theorem d_Shelf_init_1 : decode prog_10_method_1_code 1 = .ok (.invokespecial 3, 3) := by decide +kernel
theorem k_388 : (Jvm.Cond.methodLink "PackageBook$Shelf" (3 : Nat) ({ cls := "java/lang/Object", name := "<init>", desc := "()V" } : Jvm.MethodName)) ∈ uW := uW_c1 31 rfl (by decide +kernel)
theorem d_Shelf_init_4 : decode prog_10_method_1_code 4 = .ok (.aload_n 0, 1) := by decide +kernel
theorem d_Shelf_init_5 : decode prog_10_method_1_code 5 = .ok (.sipush 384, 3) := by decide +kernel
theorem d_Shelf_init_8 : decode prog_10_method_1_code 8 = .ok (.newarray .byte, 2) := by decide +kernel
theorem d_Shelf_init_10 : decode prog_10_method_1_code 10 = .ok (.putfield 9, 3) := by decide +kernel
theorem k_389 : (Jvm.Cond.fieldLink "PackageBook$Shelf" (9 : Nat) "PackageBook$Shelf" "names" "[B") ∈ uW := uW_c1 32 rfl (by decide +kernel)
theorem d_Shelf_init_13 : decode prog_10_method_1_code 13 = .ok (.aload_n 0, 1) := by decide +kernel
theorem d_Shelf_init_14 : decode prog_10_method_1_code 14 = .ok (.bipush 16, 2) := by decide +kernel
theorem d_Shelf_init_16 : decode prog_10_method_1_code 16 = .ok (.newarray .int, 2) := by decide +kernel
theorem d_Shelf_init_18 : decode prog_10_method_1_code 18 = .ok (.putfield 15, 3) := by decide +kernel
theorem k_392 : (Jvm.Cond.fieldLink "PackageBook$Shelf" (15 : Nat) "PackageBook$Shelf" "nameSizes" "[I") ∈ uW := uW_c1 35 rfl (by decide +kernel)
theorem d_Shelf_init_21 : decode prog_10_method_1_code 21 = .ok (.aload_n 0, 1) := by decide +kernel
theorem d_Shelf_init_22 : decode prog_10_method_1_code 22 = .ok (.sipush 12000, 3) := by decide +kernel
theorem d_Shelf_init_25 : decode prog_10_method_1_code 25 = .ok (.newarray .byte, 2) := by decide +kernel
theorem d_Shelf_init_27 : decode prog_10_method_1_code 27 = .ok (.putfield 19, 3) := by decide +kernel
theorem k_395 : (Jvm.Cond.fieldLink "PackageBook$Shelf" (19 : Nat) "PackageBook$Shelf" "bytes" "[B") ∈ uW := uW_c1 38 rfl (by decide +kernel)
theorem d_Shelf_init_30 : decode prog_10_method_1_code 30 = .ok (.aload_n 0, 1) := by decide +kernel
theorem d_Shelf_init_31 : decode prog_10_method_1_code 31 = .ok (.bipush 17, 2) := by decide +kernel
theorem d_Shelf_init_33 : decode prog_10_method_1_code 33 = .ok (.newarray .int, 2) := by decide +kernel
theorem d_Shelf_init_35 : decode prog_10_method_1_code 35 = .ok (.putfield 22, 3) := by decide +kernel
theorem k_399 : (Jvm.Cond.fieldLink "PackageBook$Shelf" (22 : Nat) "PackageBook$Shelf" "begins" "[I") ∈ uW := uW_c1 42 rfl (by decide +kernel)
theorem d_Shelf_init_38 : decode prog_10_method_1_code 38 = .ok (.return_, 1) := by decide +kernel
abbrev y_Shelf_init : MethodName := ⟨"PackageBook$Shelf", "<init>", "()V"⟩
abbrev i_Shelf_init : pb_I := (y_Shelf_init, prog_10_method_1_code, 1, (Option.none : Option Jvm.ClassFile.FieldType), [], { frames := 1, cells := 4, slots := 12417, locals := 20 })
set_option maxRecDepth 100000 in
set_option maxHeartbeats 4000000 in
theorem g_Shelf_init {l : Launch} (hl : l.stackTraces = false) (G : pb_G) (h : Nat) : Cn l G i_Shelf_init [.ref h] [(h, .inr (3, [.null, .null, .null, .null, .int 0]))] (S := Nat × Nat × Nat × Nat) (fun rv_ u => rv_ = none) (fun u => [(h, .inr (3, [.ref u.1, .ref u.2.1, .ref u.2.2.1, .ref u.2.2.2, .int 0])), (u.1, .inl (G.2.1, 384, .inl (fun _ => 0))), (u.2.1, .inl (G.2.2.1, 16, .inl (fun _ => 0))), (u.2.2.1, .inl (G.2.1, 12000, .inl (fun _ => 0))), (u.2.2.2, .inl (G.2.2.1, 17, .inl (fun _ => 0)))]) := by
  refine Cn.of hl (by decide +kernel) rfl (Nat.le_of_ble_eq_true rfl) (fun M hQ => ?_)
  refine pb_eq (pc' := 0) (lo' := [(0, .ref h)]) (rest' := []) (ws' := [(h, .inr (3, [.null, .null, .null, .null, .int 0]))]) ?_
  have zl0 : (0 : Int32).toInt = 0 := by decide
  have zl1 : (1 : Int32).toInt = 1 := by decide
  have zl16 : (16 : Int32).toInt = 16 := by decide
  have zl17 : (17 : Int32).toInt = 17 := by decide
  have zl384 : (384 : Int32).toInt = 384 := by decide
  have zl12000 : (12000 : Int32).toInt = 12000 := by decide
  refine pb_aload_n (pc := 0) d_Shelf_init_0 0 rfl rfl ?_
  refine pb_objInit (pc := 1) d_Shelf_init_1 k_388 k_148 k_149 (by decide) (Nat.le_of_ble_eq_true rfl) ?_
  refine pb_aload_n (pc := 4) d_Shelf_init_4 0 rfl rfl ?_
  refine pb_sipush (pc := 5) (v := 384) d_Shelf_init_5 (by decide) ?_
  refine pb_newb (pc := 8) (N := 384) d_Shelf_init_8 k_172 (by decide) (by decide) (by decide) (by decide) (by decide) (fun q1 => ?_)
  refine pb_eq (pc' := 10) (lo' := [(0, .ref h)]) (rest' := [.ref q1, .ref h]) (ws' := [(h, .inr (3, [.null, .null, .null, .null, .int 0])), (q1, .inl (G.2.1, 384, .inl (fun _ => 0)))]) ?_
  refine pb_putF (pc := 10) (ty := (.array .byte)) (ws' := [(h, .inr (3, [.ref q1, .null, .null, .null, .int 0])), (q1, .inl (G.2.1, 384, .inl (fun _ => 0)))]) d_Shelf_init_10 0 0 t_Shelf t_Shelf_ok n_Shelf rfl rfl (by decide) in_Shelf k_389 rfl rfl rfl (by decide +kernel) rfl rfl (Nat.le_of_ble_eq_true rfl) rfl ?_
  refine pb_aload_n (pc := 13) d_Shelf_init_13 0 rfl rfl ?_
  refine pb_bipush (pc := 14) (v := 16) d_Shelf_init_14 (by decide) ?_
  refine pb_newi (pc := 16) (N := 16) d_Shelf_init_16 k_211 (by decide) (by decide) (by decide) (by decide) (by decide) (fun q2 => ?_)
  refine pb_eq (pc' := 18) (lo' := [(0, .ref h)]) (rest' := [.ref q2, .ref h]) (ws' := [(h, .inr (3, [.ref q1, .null, .null, .null, .int 0])), (q1, .inl (G.2.1, 384, .inl (fun _ => 0))), (q2, .inl (G.2.2.1, 16, .inl (fun _ => 0)))]) ?_
  refine pb_putF (pc := 18) (ty := (.array .int)) (ws' := [(h, .inr (3, [.ref q1, .ref q2, .null, .null, .int 0])), (q1, .inl (G.2.1, 384, .inl (fun _ => 0))), (q2, .inl (G.2.2.1, 16, .inl (fun _ => 0)))]) d_Shelf_init_18 0 1 t_Shelf t_Shelf_ok n_Shelf rfl rfl (by decide) in_Shelf k_392 rfl rfl rfl (by decide +kernel) rfl rfl (Nat.le_of_ble_eq_true rfl) rfl ?_
  refine pb_aload_n (pc := 21) d_Shelf_init_21 0 rfl rfl ?_
  refine pb_sipush (pc := 22) (v := 12000) d_Shelf_init_22 (by decide) ?_
  refine pb_newb (pc := 25) (N := 12000) d_Shelf_init_25 k_172 (by decide) (by decide) (by decide) (by decide) (by decide) (fun q3 => ?_)
  refine pb_eq (pc' := 27) (lo' := [(0, .ref h)]) (rest' := [.ref q3, .ref h]) (ws' := [(h, .inr (3, [.ref q1, .ref q2, .null, .null, .int 0])), (q1, .inl (G.2.1, 384, .inl (fun _ => 0))), (q2, .inl (G.2.2.1, 16, .inl (fun _ => 0))), (q3, .inl (G.2.1, 12000, .inl (fun _ => 0)))]) ?_
  refine pb_putF (pc := 27) (ty := (.array .byte)) (ws' := [(h, .inr (3, [.ref q1, .ref q2, .ref q3, .null, .int 0])), (q1, .inl (G.2.1, 384, .inl (fun _ => 0))), (q2, .inl (G.2.2.1, 16, .inl (fun _ => 0))), (q3, .inl (G.2.1, 12000, .inl (fun _ => 0)))]) d_Shelf_init_27 0 2 t_Shelf t_Shelf_ok n_Shelf rfl rfl (by decide) in_Shelf k_395 rfl rfl rfl (by decide +kernel) rfl rfl (Nat.le_of_ble_eq_true rfl) rfl ?_
  refine pb_aload_n (pc := 30) d_Shelf_init_30 0 rfl rfl ?_
  refine pb_bipush (pc := 31) (v := 17) d_Shelf_init_31 (by decide) ?_
  refine pb_newi (pc := 33) (N := 17) d_Shelf_init_33 k_211 (by decide) (by decide) (by decide) (by decide) (by decide) (fun q4 => ?_)
  refine pb_eq (pc' := 35) (lo' := [(0, .ref h)]) (rest' := [.ref q4, .ref h]) (ws' := [(h, .inr (3, [.ref q1, .ref q2, .ref q3, .null, .int 0])), (q1, .inl (G.2.1, 384, .inl (fun _ => 0))), (q2, .inl (G.2.2.1, 16, .inl (fun _ => 0))), (q3, .inl (G.2.1, 12000, .inl (fun _ => 0))), (q4, .inl (G.2.2.1, 17, .inl (fun _ => 0)))]) ?_
  refine pb_putF (pc := 35) (ty := (.array .int)) (ws' := [(h, .inr (3, [.ref q1, .ref q2, .ref q3, .ref q4, .int 0])), (q1, .inl (G.2.1, 384, .inl (fun _ => 0))), (q2, .inl (G.2.2.1, 16, .inl (fun _ => 0))), (q3, .inl (G.2.1, 12000, .inl (fun _ => 0))), (q4, .inl (G.2.2.1, 17, .inl (fun _ => 0)))]) d_Shelf_init_35 0 3 t_Shelf t_Shelf_ok n_Shelf rfl rfl (by decide) in_Shelf k_399 rfl rfl rfl (by decide +kernel) rfl rfl (Nat.le_of_ble_eq_true rfl) rfl ?_
  exact pb_vret (pc := 38) hQ d_Shelf_init_38 rfl (q1, q2, q3, q4) rfl [0, 1, 2, 3, 4] (by decide) rfl rfl (by decide) (by decide)

theorem d_Findings_init_0 : decode prog_6_method_1_code 0 = .ok (.aload_n 0, 1) := by decide +kernel
theorem d_Findings_init_1 : decode prog_6_method_1_code 1 = .ok (.invokespecial 3, 3) := by decide +kernel
theorem k_365 : (Jvm.Cond.methodLink "PackageBook$Findings" (3 : Nat) ({ cls := "java/lang/Object", name := "<init>", desc := "()V" } : Jvm.MethodName)) ∈ uW := uW_c1 8 rfl (by decide +kernel)
theorem d_Findings_init_4 : decode prog_6_method_1_code 4 = .ok (.aload_n 0, 1) := by decide +kernel
theorem d_Findings_init_5 : decode prog_6_method_1_code 5 = .ok (.sipush 1232, 3) := by decide +kernel
theorem d_Findings_init_8 : decode prog_6_method_1_code 8 = .ok (.newarray .int, 2) := by decide +kernel
theorem d_Findings_init_10 : decode prog_6_method_1_code 10 = .ok (.putfield 11, 3) := by decide +kernel
theorem k_366 : (Jvm.Cond.fieldLink "PackageBook$Findings" (11 : Nat) "PackageBook$Findings" "kinds" "[I") ∈ uW := uW_c1 9 rfl (by decide +kernel)
theorem d_Findings_init_13 : decode prog_6_method_1_code 13 = .ok (.aload_n 0, 1) := by decide +kernel
theorem d_Findings_init_14 : decode prog_6_method_1_code 14 = .ok (.sipush 1232, 3) := by decide +kernel
theorem d_Findings_init_17 : decode prog_6_method_1_code 17 = .ok (.newarray .int, 2) := by decide +kernel
theorem d_Findings_init_19 : decode prog_6_method_1_code 19 = .ok (.putfield 15, 3) := by decide +kernel
theorem k_368 : (Jvm.Cond.fieldLink "PackageBook$Findings" (15 : Nat) "PackageBook$Findings" "owners" "[I") ∈ uW := uW_c1 11 rfl (by decide +kernel)
theorem d_Findings_init_22 : decode prog_6_method_1_code 22 = .ok (.aload_n 0, 1) := by decide +kernel
theorem d_Findings_init_23 : decode prog_6_method_1_code 23 = .ok (.sipush 1232, 3) := by decide +kernel
theorem d_Findings_init_26 : decode prog_6_method_1_code 26 = .ok (.newarray .int, 2) := by decide +kernel
theorem d_Findings_init_28 : decode prog_6_method_1_code 28 = .ok (.putfield 18, 3) := by decide +kernel
theorem k_370 : (Jvm.Cond.fieldLink "PackageBook$Findings" (18 : Nat) "PackageBook$Findings" "places" "[I") ∈ uW := uW_c1 13 rfl (by decide +kernel)
theorem d_Findings_init_31 : decode prog_6_method_1_code 31 = .ok (.return_, 1) := by decide +kernel
abbrev y_Findings_init : MethodName := ⟨"PackageBook$Findings", "<init>", "()V"⟩
abbrev i_Findings_init : pb_I := (y_Findings_init, prog_6_method_1_code, 1, (Option.none : Option Jvm.ClassFile.FieldType), [], { frames := 1, cells := 3, slots := 3696, locals := 20 })
set_option maxRecDepth 100000 in
set_option maxHeartbeats 4000000 in
theorem g_Findings_init {l : Launch} (hl : l.stackTraces = false) (G : pb_G) (h : Nat) : Cn l G i_Findings_init [.ref h] [(h, .inr (2, [.null, .null, .null, .int 0]))] (S := Nat × Nat × Nat) (fun rv_ u => rv_ = none) (fun u => [(h, .inr (2, [.ref u.1, .ref u.2.1, .ref u.2.2, .int 0])), (u.1, .inl (G.2.2.1, 1232, .inl (fun _ => 0))), (u.2.1, .inl (G.2.2.1, 1232, .inl (fun _ => 0))), (u.2.2, .inl (G.2.2.1, 1232, .inl (fun _ => 0)))]) := by
  refine Cn.of hl (by decide +kernel) rfl (Nat.le_of_ble_eq_true rfl) (fun M hQ => ?_)
  refine pb_eq (pc' := 0) (lo' := [(0, .ref h)]) (rest' := []) (ws' := [(h, .inr (2, [.null, .null, .null, .int 0]))]) ?_
  have zl0 : (0 : Int32).toInt = 0 := by decide
  have zl1 : (1 : Int32).toInt = 1 := by decide
  have zl1232 : (1232 : Int32).toInt = 1232 := by decide
  refine pb_aload_n (pc := 0) d_Findings_init_0 0 rfl rfl ?_
  refine pb_objInit (pc := 1) d_Findings_init_1 k_365 k_148 k_149 (by decide) (Nat.le_of_ble_eq_true rfl) ?_
  refine pb_aload_n (pc := 4) d_Findings_init_4 0 rfl rfl ?_
  refine pb_sipush (pc := 5) (v := 1232) d_Findings_init_5 (by decide) ?_
  refine pb_newi (pc := 8) (N := 1232) d_Findings_init_8 k_211 (by decide) (by decide) (by decide) (by decide) (by decide) (fun q1 => ?_)
  refine pb_eq (pc' := 10) (lo' := [(0, .ref h)]) (rest' := [.ref q1, .ref h]) (ws' := [(h, .inr (2, [.null, .null, .null, .int 0])), (q1, .inl (G.2.2.1, 1232, .inl (fun _ => 0)))]) ?_
  refine pb_putF (pc := 10) (ty := (.array .int)) (ws' := [(h, .inr (2, [.ref q1, .null, .null, .int 0])), (q1, .inl (G.2.2.1, 1232, .inl (fun _ => 0)))]) d_Findings_init_10 0 0 t_Findings t_Findings_ok n_Findings rfl rfl (by decide) in_Findings k_366 rfl rfl rfl (by decide +kernel) rfl rfl (Nat.le_of_ble_eq_true rfl) rfl ?_
  refine pb_aload_n (pc := 13) d_Findings_init_13 0 rfl rfl ?_
  refine pb_sipush (pc := 14) (v := 1232) d_Findings_init_14 (by decide) ?_
  refine pb_newi (pc := 17) (N := 1232) d_Findings_init_17 k_211 (by decide) (by decide) (by decide) (by decide) (by decide) (fun q2 => ?_)
  refine pb_eq (pc' := 19) (lo' := [(0, .ref h)]) (rest' := [.ref q2, .ref h]) (ws' := [(h, .inr (2, [.ref q1, .null, .null, .int 0])), (q1, .inl (G.2.2.1, 1232, .inl (fun _ => 0))), (q2, .inl (G.2.2.1, 1232, .inl (fun _ => 0)))]) ?_
  refine pb_putF (pc := 19) (ty := (.array .int)) (ws' := [(h, .inr (2, [.ref q1, .ref q2, .null, .int 0])), (q1, .inl (G.2.2.1, 1232, .inl (fun _ => 0))), (q2, .inl (G.2.2.1, 1232, .inl (fun _ => 0)))]) d_Findings_init_19 0 1 t_Findings t_Findings_ok n_Findings rfl rfl (by decide) in_Findings k_368 rfl rfl rfl (by decide +kernel) rfl rfl (Nat.le_of_ble_eq_true rfl) rfl ?_
  refine pb_aload_n (pc := 22) d_Findings_init_22 0 rfl rfl ?_
  refine pb_sipush (pc := 23) (v := 1232) d_Findings_init_23 (by decide) ?_
  refine pb_newi (pc := 26) (N := 1232) d_Findings_init_26 k_211 (by decide) (by decide) (by decide) (by decide) (by decide) (fun q3 => ?_)
  refine pb_eq (pc' := 28) (lo' := [(0, .ref h)]) (rest' := [.ref q3, .ref h]) (ws' := [(h, .inr (2, [.ref q1, .ref q2, .null, .int 0])), (q1, .inl (G.2.2.1, 1232, .inl (fun _ => 0))), (q2, .inl (G.2.2.1, 1232, .inl (fun _ => 0))), (q3, .inl (G.2.2.1, 1232, .inl (fun _ => 0)))]) ?_
  refine pb_putF (pc := 28) (ty := (.array .int)) (ws' := [(h, .inr (2, [.ref q1, .ref q2, .ref q3, .int 0])), (q1, .inl (G.2.2.1, 1232, .inl (fun _ => 0))), (q2, .inl (G.2.2.1, 1232, .inl (fun _ => 0))), (q3, .inl (G.2.2.1, 1232, .inl (fun _ => 0)))]) d_Findings_init_28 0 2 t_Findings t_Findings_ok n_Findings rfl rfl (by decide) in_Findings k_370 rfl rfl rfl (by decide +kernel) rfl rfl (Nat.le_of_ble_eq_true rfl) rfl ?_
  exact pb_vret (pc := 31) hQ d_Findings_init_31 rfl (q1, q2, q3) rfl [0, 1, 2, 3] (by decide) rfl rfl (by decide) (by decide)

theorem d_FileReader_init_0 : decode prog_5_method_1_code 0 = .ok (.aload_n 0, 1) := by decide +kernel
theorem d_FileReader_init_1 : decode prog_5_method_1_code 1 = .ok (.invokespecial 3, 3) := by decide +kernel
theorem k_305 : (Jvm.Cond.methodLink "PackageBook$FileReader" (3 : Nat) ({ cls := "java/lang/Object", name := "<init>", desc := "()V" } : Jvm.MethodName)) ∈ uW := uW_c0 188 rfl (by decide +kernel)
theorem d_FileReader_init_4 : decode prog_5_method_1_code 4 = .ok (.aload_n 0, 1) := by decide +kernel
theorem d_FileReader_init_5 : decode prog_5_method_1_code 5 = .ok (.iconst 0, 1) := by decide +kernel
theorem d_FileReader_init_6 : decode prog_5_method_1_code 6 = .ok (.newarray .byte, 2) := by decide +kernel
theorem d_FileReader_init_8 : decode prog_5_method_1_code 8 = .ok (.putfield 9, 3) := by decide +kernel
theorem k_306 : (Jvm.Cond.fieldLink "PackageBook$FileReader" (9 : Nat) "PackageBook$FileReader" "row" "[B") ∈ uW := uW_c0 189 rfl (by decide +kernel)
theorem d_FileReader_init_11 : decode prog_5_method_1_code 11 = .ok (.return_, 1) := by decide +kernel
abbrev y_FileReader_init : MethodName := ⟨"PackageBook$FileReader", "<init>", "()V"⟩
abbrev i_FileReader_init : pb_I := (y_FileReader_init, prog_5_method_1_code, 1, (Option.none : Option Jvm.ClassFile.FieldType), [], { frames := 1, cells := 1, slots := 0, locals := 20 })
set_option maxRecDepth 100000 in
set_option maxHeartbeats 4000000 in
theorem g_FileReader_init {l : Launch} (hl : l.stackTraces = false) (G : pb_G) (h : Nat) : Cn l G i_FileReader_init [.ref h] [(h, .inr (7, [.null]))] (S := Nat) (fun rv_ u => rv_ = none) (fun u => [(h, .inr (7, [.ref u]))]) := by
  refine Cn.of hl (by decide +kernel) rfl (Nat.le_of_ble_eq_true rfl) (fun M hQ => ?_)
  refine pb_eq (pc' := 0) (lo' := [(0, .ref h)]) (rest' := []) (ws' := [(h, .inr (7, [.null]))]) ?_
  have zl0 : (0 : Int32).toInt = 0 := by decide
  have zl1 : (1 : Int32).toInt = 1 := by decide
  refine pb_aload_n (pc := 0) d_FileReader_init_0 0 rfl rfl ?_
  refine pb_objInit (pc := 1) d_FileReader_init_1 k_305 k_148 k_149 (by decide) (Nat.le_of_ble_eq_true rfl) ?_
  refine pb_aload_n (pc := 4) d_FileReader_init_4 0 rfl rfl ?_
  refine pb_iconst (pc := 5) (v := 0) d_FileReader_init_5 (by decide) ?_
  refine pb_newb (pc := 6) (N := 0) d_FileReader_init_6 k_172 (by decide) (by decide) (by decide) (by decide) (by decide) (fun q1 => ?_)
  refine pb_eq (pc' := 8) (lo' := [(0, .ref h)]) (rest' := [.ref q1, .ref h]) (ws' := [(h, .inr (7, [.null])), (q1, .inl (G.2.1, 0, .inl (fun _ => 0)))]) ?_
  refine pb_put (pc := 8) (ty := (.array .byte)) (ws' := [(h, .inr (7, [.ref q1])), (q1, .inl (G.2.1, 0, .inl (fun _ => 0)))]) d_FileReader_init_8 0 0 t_FileReader t_FileReader_ok n_FileReader rfl rfl (by decide) in_FileReader k_306 rfl (by decide +kernel) rfl rfl (Nat.le_of_ble_eq_true rfl) rfl ?_
  exact pb_vret (pc := 11) hQ d_FileReader_init_11 rfl (q1) rfl [0] (by decide) rfl rfl (by decide) (by decide)

theorem d_FileMaker_init_0 : decode prog_4_method_1_code 0 = .ok (.aload_n 0, 1) := by decide +kernel
theorem d_FileMaker_init_1 : decode prog_4_method_1_code 1 = .ok (.invokespecial 3, 3) := by decide +kernel
theorem k_289 : (Jvm.Cond.methodLink "PackageBook$FileMaker" (3 : Nat) ({ cls := "java/lang/Object", name := "<init>", desc := "()V" } : Jvm.MethodName)) ∈ uW := uW_c0 172 rfl (by decide +kernel)
theorem d_FileMaker_init_4 : decode prog_4_method_1_code 4 = .ok (.aload_n 0, 1) := by decide +kernel
theorem d_FileMaker_init_5 : decode prog_4_method_1_code 5 = .ok (.new 9, 3) := by decide +kernel
theorem k_290 : (Jvm.Cond.classLink "PackageBook$FileMaker" (9 : Nat) "PackageBook$Row") ∈ uW := uW_c0 173 rfl (by decide +kernel)
theorem k_151 : (Jvm.Cond.instantiable "PackageBook$Row" (2 : Nat)) ∈ uW := uW_c0 34 rfl (by decide +kernel)
theorem k_119 : (Jvm.Cond.initialized "PackageBook$Row") ∈ uW := uW_c0 2 rfl (by decide +kernel)
theorem d_FileMaker_init_8 : decode prog_4_method_1_code 8 = .ok (.dup, 1) := by decide +kernel
theorem d_FileMaker_init_9 : decode prog_4_method_1_code 9 = .ok (.sipush 14006, 3) := by decide +kernel
theorem d_FileMaker_init_12 : decode prog_4_method_1_code 12 = .ok (.invokespecial 11, 3) := by decide +kernel
theorem k_291 : (Jvm.Cond.methodLink "PackageBook$FileMaker" (11 : Nat) ({ cls := "PackageBook$Row", name := "<init>", desc := "(I)V" } : Jvm.MethodName)) ∈ uW := uW_c0 174 rfl (by decide +kernel)
theorem k_154 : (Jvm.Cond.code ({ cls := "PackageBook$Row", name := "<init>", desc := "(I)V" } : Jvm.MethodName) prog_9_method_1_code (2 : Nat) (Option.none : Option Jvm.ClassFile.FieldType)) ∈ uW := uW_c0 37 rfl (by decide +kernel)
theorem k_153 : (Jvm.Cond.instanceMethod ({ cls := "PackageBook$Row", name := "<init>", desc := "(I)V" } : Jvm.MethodName)) ∈ uW := uW_c0 36 rfl (by decide +kernel)
theorem hy_Row_init : (y_Row_init).cls ≠ "java/lang/invoke/MethodHandle" ∧ (y_Row_init).cls ≠ "java/lang/invoke/VarHandle" ∧ (parseMethodDescriptor (y_Row_init).desc).map (fun d => d.parameters.length) = some 1 := by decide +kernel
theorem d_FileMaker_init_15 : decode prog_4_method_1_code 15 = .ok (.putfield 14, 3) := by decide +kernel
theorem k_292 : (Jvm.Cond.fieldLink "PackageBook$FileMaker" (14 : Nat) "PackageBook$FileMaker" "made" "LPackageBook$Row;") ∈ uW := uW_c0 175 rfl (by decide +kernel)
theorem d_FileMaker_init_18 : decode prog_4_method_1_code 18 = .ok (.aload_n 0, 1) := by decide +kernel
theorem d_FileMaker_init_19 : decode prog_4_method_1_code 19 = .ok (.bipush 16, 2) := by decide +kernel
theorem d_FileMaker_init_21 : decode prog_4_method_1_code 21 = .ok (.newarray .int, 2) := by decide +kernel
theorem d_FileMaker_init_23 : decode prog_4_method_1_code 23 = .ok (.putfield 20, 3) := by decide +kernel
theorem k_294 : (Jvm.Cond.fieldLink "PackageBook$FileMaker" (20 : Nat) "PackageBook$FileMaker" "records" "[I") ∈ uW := uW_c0 177 rfl (by decide +kernel)
theorem d_FileMaker_init_26 : decode prog_4_method_1_code 26 = .ok (.return_, 1) := by decide +kernel
abbrev y_FileMaker_init : MethodName := ⟨"PackageBook$FileMaker", "<init>", "()V"⟩
abbrev i_FileMaker_init : pb_I := (y_FileMaker_init, prog_4_method_1_code, 1, (Option.none : Option Jvm.ClassFile.FieldType), [], { frames := 2, cells := 3, slots := 15018, locals := 41 })
set_option maxRecDepth 100000 in
set_option maxHeartbeats 4000000 in
theorem g_FileMaker_init {l : Launch} (hl : l.stackTraces = false) (G : pb_G) (h : Nat) : Cn l G i_FileMaker_init [.ref h] [(h, .inr (6, [.null, .null]))] (S := Nat × Nat × Nat) (fun rv_ u => rv_ = none) (fun u => [(h, .inr (6, [.ref u.1, .ref u.2.2])), (u.1, .inr (0, [.ref u.2.1, .int 0])), (u.2.1, .inl (G.2.1, 14006, .inl (fun _ => 0))), (u.2.2, .inl (G.2.2.1, 16, .inl (fun _ => 0)))]) := by
  refine Cn.of hl (by decide +kernel) rfl (Nat.le_of_ble_eq_true rfl) (fun M hQ => ?_)
  refine pb_eq (pc' := 0) (lo' := [(0, .ref h)]) (rest' := []) (ws' := [(h, .inr (6, [.null, .null]))]) ?_
  have zl0 : (0 : Int32).toInt = 0 := by decide
  have zl1 : (1 : Int32).toInt = 1 := by decide
  have zl16 : (16 : Int32).toInt = 16 := by decide
  have zl14006 : (14006 : Int32).toInt = 14006 := by decide
  refine pb_aload_n (pc := 0) d_FileMaker_init_0 0 rfl rfl ?_
  refine pb_objInit (pc := 1) d_FileMaker_init_1 k_289 k_148 k_149 (by decide) (Nat.le_of_ble_eq_true rfl) ?_
  refine pb_aload_n (pc := 4) d_FileMaker_init_4 0 rfl rfl ?_
  refine pb_new (pc := 5) (ci := 0) (fs := [.null, .int 0]) d_FileMaker_init_5 t_Row t_Row_ok rfl in_Row k_290 k_151 k_119 (by decide) (by decide) (by decide) (fun q1 => ?_)
  refine pb_eq (pc' := 8) (lo' := [(0, .ref h)]) (rest' := [.ref q1, .ref h]) (ws' := [(h, .inr (6, [.null, .null])), (q1, .inr (0, [.null, .int 0]))]) ?_
  refine pb_dup (pc := 8) d_FileMaker_init_8 rfl ?_
  refine pb_sipush (pc := 9) (v := 14006) d_FileMaker_init_9 (by decide) ?_
  refine pb_callI (pc := 12) (I := i_FileMaker_init) (nA := 1) (rest := [.ref q1, .ref h]) (wr := [(h, .inr (6, [.null, .null]))]) d_FileMaker_init_12 (g_Row_init hl G q1 14006 14006 (by decide) (by decide) (by decide)) [1] [0] (by decide) rfl rfl rfl (by decide) (by decide) k_154 rfl k_119 k_291 k_153 rfl hy_Row_init (by decide) rfl rfl (Nat.le_of_ble_eq_true rfl) (by decide) (fun v9 u3 ch2 => ?_)
  obtain ⟨q_4, rfl⟩ : ∃ z9, z9 = u3 := ⟨_, rfl⟩
  have ech2 := ch2
  have ech2 : v9 = none := ech2
  subst ech2
  refine pb_eq (pc' := 15) (lo' := [(0, .ref h)]) (rest' := [.ref q1, .ref h]) (ws' := [(h, .inr (6, [.null, .null])), (q1, .inr (0, [.ref q_4, .int 0])), (q_4, .inl (G.2.1, 14006, .inl (fun _ => 0)))]) ?_
  refine pb_putF (pc := 15) (ty := (.object "PackageBook$Row")) (ws' := [(h, .inr (6, [.ref q1, .null])), (q1, .inr (0, [.ref q_4, .int 0])), (q_4, .inl (G.2.1, 14006, .inl (fun _ => 0)))]) d_FileMaker_init_15 0 0 t_FileMaker t_FileMaker_ok n_FileMaker rfl rfl (by decide) in_FileMaker k_292 rfl rfl rfl (by decide +kernel) rfl rfl (Nat.le_of_ble_eq_true rfl) rfl ?_
  refine pb_aload_n (pc := 18) d_FileMaker_init_18 0 rfl rfl ?_
  refine pb_bipush (pc := 19) (v := 16) d_FileMaker_init_19 (by decide) ?_
  refine pb_newi (pc := 21) (N := 16) d_FileMaker_init_21 k_211 (by decide) (by decide) (by decide) (by decide) (by decide) (fun q5 => ?_)
  refine pb_eq (pc' := 23) (lo' := [(0, .ref h)]) (rest' := [.ref q5, .ref h]) (ws' := [(h, .inr (6, [.ref q1, .null])), (q1, .inr (0, [.ref q_4, .int 0])), (q_4, .inl (G.2.1, 14006, .inl (fun _ => 0))), (q5, .inl (G.2.2.1, 16, .inl (fun _ => 0)))]) ?_
  refine pb_putF (pc := 23) (ty := (.array .int)) (ws' := [(h, .inr (6, [.ref q1, .ref q5])), (q1, .inr (0, [.ref q_4, .int 0])), (q_4, .inl (G.2.1, 14006, .inl (fun _ => 0))), (q5, .inl (G.2.2.1, 16, .inl (fun _ => 0)))]) d_FileMaker_init_23 0 1 t_FileMaker t_FileMaker_ok n_FileMaker rfl rfl (by decide) in_FileMaker k_294 rfl rfl rfl (by decide +kernel) rfl rfl (Nat.le_of_ble_eq_true rfl) rfl ?_
  exact pb_vret (pc := 26) hQ d_FileMaker_init_26 rfl (q1, q_4, q5) rfl [0, 1, 2, 3] (by decide) rfl rfl (by decide) (by decide)

theorem d_Presser_init_0 : decode prog_8_method_1_code 0 = .ok (.aload_n 0, 1) := by decide +kernel
theorem d_Presser_init_1 : decode prog_8_method_1_code 1 = .ok (.invokespecial 3, 3) := by decide +kernel
theorem k_178 : (Jvm.Cond.methodLink "PackageBook$Presser" (3 : Nat) ({ cls := "java/lang/Object", name := "<init>", desc := "()V" } : Jvm.MethodName)) ∈ uW := uW_c0 61 rfl (by decide +kernel)
theorem d_Presser_init_4 : decode prog_8_method_1_code 4 = .ok (.aload_n 0, 1) := by decide +kernel
theorem d_Presser_init_5 : decode prog_8_method_1_code 5 = .ok (.new 9, 3) := by decide +kernel
theorem k_179 : (Jvm.Cond.classLink "PackageBook$Presser" (9 : Nat) "PackageBook$Row") ∈ uW := uW_c0 62 rfl (by decide +kernel)
theorem d_Presser_init_8 : decode prog_8_method_1_code 8 = .ok (.dup, 1) := by decide +kernel
theorem d_Presser_init_9 : decode prog_8_method_1_code 9 = .ok (.sipush 4502, 3) := by decide +kernel
theorem d_Presser_init_12 : decode prog_8_method_1_code 12 = .ok (.invokespecial 11, 3) := by decide +kernel
theorem k_180 : (Jvm.Cond.methodLink "PackageBook$Presser" (11 : Nat) ({ cls := "PackageBook$Row", name := "<init>", desc := "(I)V" } : Jvm.MethodName)) ∈ uW := uW_c0 63 rfl (by decide +kernel)
theorem d_Presser_init_15 : decode prog_8_method_1_code 15 = .ok (.putfield 14, 3) := by decide +kernel
theorem k_181 : (Jvm.Cond.fieldLink "PackageBook$Presser" (14 : Nat) "PackageBook$Presser" "pressed" "LPackageBook$Row;") ∈ uW := uW_c0 64 rfl (by decide +kernel)
theorem d_Presser_init_18 : decode prog_8_method_1_code 18 = .ok (.aload_n 0, 1) := by decide +kernel
theorem d_Presser_init_19 : decode prog_8_method_1_code 19 = .ok (.sipush 1024, 3) := by decide +kernel
theorem d_Presser_init_22 : decode prog_8_method_1_code 22 = .ok (.newarray .int, 2) := by decide +kernel
theorem d_Presser_init_24 : decode prog_8_method_1_code 24 = .ok (.putfield 20, 3) := by decide +kernel
theorem k_184 : (Jvm.Cond.fieldLink "PackageBook$Presser" (20 : Nat) "PackageBook$Presser" "latest" "[I") ∈ uW := uW_c0 67 rfl (by decide +kernel)
theorem d_Presser_init_27 : decode prog_8_method_1_code 27 = .ok (.aload_n 0, 1) := by decide +kernel
theorem d_Presser_init_28 : decode prog_8_method_1_code 28 = .ok (.sipush 4000, 3) := by decide +kernel
theorem d_Presser_init_31 : decode prog_8_method_1_code 31 = .ok (.newarray .int, 2) := by decide +kernel
theorem d_Presser_init_33 : decode prog_8_method_1_code 33 = .ok (.putfield 24, 3) := by decide +kernel
theorem k_185 : (Jvm.Cond.fieldLink "PackageBook$Presser" (24 : Nat) "PackageBook$Presser" "earlier" "[I") ∈ uW := uW_c0 68 rfl (by decide +kernel)
theorem d_Presser_init_36 : decode prog_8_method_1_code 36 = .ok (.aload_n 0, 1) := by decide +kernel
theorem d_Presser_init_37 : decode prog_8_method_1_code 37 = .ok (.iconst 0, 1) := by decide +kernel
theorem d_Presser_init_38 : decode prog_8_method_1_code 38 = .ok (.newarray .byte, 2) := by decide +kernel
theorem d_Presser_init_40 : decode prog_8_method_1_code 40 = .ok (.putfield 27, 3) := by decide +kernel
theorem k_186 : (Jvm.Cond.fieldLink "PackageBook$Presser" (27 : Nat) "PackageBook$Presser" "row" "[B") ∈ uW := uW_c0 69 rfl (by decide +kernel)
theorem d_Presser_init_43 : decode prog_8_method_1_code 43 = .ok (.return_, 1) := by decide +kernel
abbrev y_Presser_init : MethodName := ⟨"PackageBook$Presser", "<init>", "()V"⟩
abbrev i_Presser_init : pb_I := (y_Presser_init, prog_8_method_1_code, 1, (Option.none : Option Jvm.ClassFile.FieldType), [], { frames := 2, cells := 5, slots := 20026, locals := 41 })
set_option maxRecDepth 100000 in
set_option maxHeartbeats 4000000 in
theorem g_Presser_init {l : Launch} (hl : l.stackTraces = false) (G : pb_G) (h : Nat) : Cn l G i_Presser_init [.ref h] [(h, .inr (4, [.null, .null, .null, .null, .int 0, .int 0, .int 0, .int 0, .int 0]))] (S := Nat × Nat × Nat × Nat × Nat) (fun rv_ u => rv_ = none) (fun u => [(h, .inr (4, [.ref u.1, .ref u.2.2.1, .ref u.2.2.2.1, .ref u.2.2.2.2, .int 0, .int 0, .int 0, .int 0, .int 0])), (u.1, .inr (0, [.ref u.2.1, .int 0])), (u.2.1, .inl (G.2.1, 4502, .inl (fun _ => 0))), (u.2.2.1, .inl (G.2.2.1, 1024, .inl (fun _ => 0))), (u.2.2.2.1, .inl (G.2.2.1, 4000, .inl (fun _ => 0)))]) := by
  refine Cn.of hl (by decide +kernel) rfl (Nat.le_of_ble_eq_true rfl) (fun M hQ => ?_)
  refine pb_eq (pc' := 0) (lo' := [(0, .ref h)]) (rest' := []) (ws' := [(h, .inr (4, [.null, .null, .null, .null, .int 0, .int 0, .int 0, .int 0, .int 0]))]) ?_
  have zl0 : (0 : Int32).toInt = 0 := by decide
  have zl1 : (1 : Int32).toInt = 1 := by decide
  have zl1024 : (1024 : Int32).toInt = 1024 := by decide
  have zl4000 : (4000 : Int32).toInt = 4000 := by decide
  have zl4502 : (4502 : Int32).toInt = 4502 := by decide
  refine pb_aload_n (pc := 0) d_Presser_init_0 0 rfl rfl ?_
  refine pb_objInit (pc := 1) d_Presser_init_1 k_178 k_148 k_149 (by decide) (Nat.le_of_ble_eq_true rfl) ?_
  refine pb_aload_n (pc := 4) d_Presser_init_4 0 rfl rfl ?_
  refine pb_new (pc := 5) (ci := 0) (fs := [.null, .int 0]) d_Presser_init_5 t_Row t_Row_ok rfl in_Row k_179 k_151 k_119 (by decide) (by decide) (by decide) (fun q1 => ?_)
  refine pb_eq (pc' := 8) (lo' := [(0, .ref h)]) (rest' := [.ref q1, .ref h]) (ws' := [(h, .inr (4, [.null, .null, .null, .null, .int 0, .int 0, .int 0, .int 0, .int 0])), (q1, .inr (0, [.null, .int 0]))]) ?_
  refine pb_dup (pc := 8) d_Presser_init_8 rfl ?_
  refine pb_sipush (pc := 9) (v := 4502) d_Presser_init_9 (by decide) ?_
  refine pb_callI (pc := 12) (I := i_Presser_init) (nA := 1) (rest := [.ref q1, .ref h]) (wr := [(h, .inr (4, [.null, .null, .null, .null, .int 0, .int 0, .int 0, .int 0, .int 0]))]) d_Presser_init_12 (g_Row_init hl G q1 4502 4502 (by decide) (by decide) (by decide)) [1] [0] (by decide) rfl rfl rfl (by decide) (by decide) k_154 rfl k_119 k_180 k_153 rfl hy_Row_init (by decide) rfl rfl (Nat.le_of_ble_eq_true rfl) (by decide) (fun v9 u3 ch2 => ?_)
  obtain ⟨q_4, rfl⟩ : ∃ z9, z9 = u3 := ⟨_, rfl⟩
  have ech2 := ch2
  have ech2 : v9 = none := ech2
  subst ech2
  refine pb_eq (pc' := 15) (lo' := [(0, .ref h)]) (rest' := [.ref q1, .ref h]) (ws' := [(h, .inr (4, [.null, .null, .null, .null, .int 0, .int 0, .int 0, .int 0, .int 0])), (q1, .inr (0, [.ref q_4, .int 0])), (q_4, .inl (G.2.1, 4502, .inl (fun _ => 0)))]) ?_
  refine pb_putF (pc := 15) (ty := (.object "PackageBook$Row")) (ws' := [(h, .inr (4, [.ref q1, .null, .null, .null, .int 0, .int 0, .int 0, .int 0, .int 0])), (q1, .inr (0, [.ref q_4, .int 0])), (q_4, .inl (G.2.1, 4502, .inl (fun _ => 0)))]) d_Presser_init_15 0 0 t_Presser t_Presser_ok n_Presser rfl rfl (by decide) in_Presser k_181 rfl rfl rfl (by decide +kernel) rfl rfl (Nat.le_of_ble_eq_true rfl) rfl ?_
  refine pb_aload_n (pc := 18) d_Presser_init_18 0 rfl rfl ?_
  refine pb_sipush (pc := 19) (v := 1024) d_Presser_init_19 (by decide) ?_
  refine pb_newi (pc := 22) (N := 1024) d_Presser_init_22 k_211 (by decide) (by decide) (by decide) (by decide) (by decide) (fun q5 => ?_)
  refine pb_eq (pc' := 24) (lo' := [(0, .ref h)]) (rest' := [.ref q5, .ref h]) (ws' := [(h, .inr (4, [.ref q1, .null, .null, .null, .int 0, .int 0, .int 0, .int 0, .int 0])), (q1, .inr (0, [.ref q_4, .int 0])), (q_4, .inl (G.2.1, 4502, .inl (fun _ => 0))), (q5, .inl (G.2.2.1, 1024, .inl (fun _ => 0)))]) ?_
  refine pb_putF (pc := 24) (ty := (.array .int)) (ws' := [(h, .inr (4, [.ref q1, .ref q5, .null, .null, .int 0, .int 0, .int 0, .int 0, .int 0])), (q1, .inr (0, [.ref q_4, .int 0])), (q_4, .inl (G.2.1, 4502, .inl (fun _ => 0))), (q5, .inl (G.2.2.1, 1024, .inl (fun _ => 0)))]) d_Presser_init_24 0 1 t_Presser t_Presser_ok n_Presser rfl rfl (by decide) in_Presser k_184 rfl rfl rfl (by decide +kernel) rfl rfl (Nat.le_of_ble_eq_true rfl) rfl ?_
  refine pb_aload_n (pc := 27) d_Presser_init_27 0 rfl rfl ?_
  refine pb_sipush (pc := 28) (v := 4000) d_Presser_init_28 (by decide) ?_
  refine pb_newi (pc := 31) (N := 4000) d_Presser_init_31 k_211 (by decide) (by decide) (by decide) (by decide) (by decide) (fun q6 => ?_)
  refine pb_eq (pc' := 33) (lo' := [(0, .ref h)]) (rest' := [.ref q6, .ref h]) (ws' := [(h, .inr (4, [.ref q1, .ref q5, .null, .null, .int 0, .int 0, .int 0, .int 0, .int 0])), (q1, .inr (0, [.ref q_4, .int 0])), (q_4, .inl (G.2.1, 4502, .inl (fun _ => 0))), (q5, .inl (G.2.2.1, 1024, .inl (fun _ => 0))), (q6, .inl (G.2.2.1, 4000, .inl (fun _ => 0)))]) ?_
  refine pb_putF (pc := 33) (ty := (.array .int)) (ws' := [(h, .inr (4, [.ref q1, .ref q5, .ref q6, .null, .int 0, .int 0, .int 0, .int 0, .int 0])), (q1, .inr (0, [.ref q_4, .int 0])), (q_4, .inl (G.2.1, 4502, .inl (fun _ => 0))), (q5, .inl (G.2.2.1, 1024, .inl (fun _ => 0))), (q6, .inl (G.2.2.1, 4000, .inl (fun _ => 0)))]) d_Presser_init_33 0 2 t_Presser t_Presser_ok n_Presser rfl rfl (by decide) in_Presser k_185 rfl rfl rfl (by decide +kernel) rfl rfl (Nat.le_of_ble_eq_true rfl) rfl ?_
  refine pb_aload_n (pc := 36) d_Presser_init_36 0 rfl rfl ?_
  refine pb_iconst (pc := 37) (v := 0) d_Presser_init_37 (by decide) ?_
  refine pb_newb (pc := 38) (N := 0) d_Presser_init_38 k_172 (by decide) (by decide) (by decide) (by decide) (by decide) (fun q7 => ?_)
  refine pb_eq (pc' := 40) (lo' := [(0, .ref h)]) (rest' := [.ref q7, .ref h]) (ws' := [(h, .inr (4, [.ref q1, .ref q5, .ref q6, .null, .int 0, .int 0, .int 0, .int 0, .int 0])), (q1, .inr (0, [.ref q_4, .int 0])), (q_4, .inl (G.2.1, 4502, .inl (fun _ => 0))), (q5, .inl (G.2.2.1, 1024, .inl (fun _ => 0))), (q6, .inl (G.2.2.1, 4000, .inl (fun _ => 0))), (q7, .inl (G.2.1, 0, .inl (fun _ => 0)))]) ?_
  refine pb_put (pc := 40) (ty := (.array .byte)) (ws' := [(h, .inr (4, [.ref q1, .ref q5, .ref q6, .ref q7, .int 0, .int 0, .int 0, .int 0, .int 0])), (q1, .inr (0, [.ref q_4, .int 0])), (q_4, .inl (G.2.1, 4502, .inl (fun _ => 0))), (q5, .inl (G.2.2.1, 1024, .inl (fun _ => 0))), (q6, .inl (G.2.2.1, 4000, .inl (fun _ => 0))), (q7, .inl (G.2.1, 0, .inl (fun _ => 0)))]) d_Presser_init_40 0 3 t_Presser t_Presser_ok n_Presser rfl rfl (by decide) in_Presser k_186 rfl (by decide +kernel) rfl rfl (Nat.le_of_ble_eq_true rfl) rfl ?_
  exact pb_vret (pc := 43) hQ d_Presser_init_43 rfl (q1, q_4, q5, q6, q7) rfl [0, 1, 2, 3, 4] (by decide) rfl rfl (by decide) (by decide)

theorem d_Markup_init_0 : decode prog_7_method_1_code 0 = .ok (.aload_n 0, 1) := by decide +kernel
theorem d_Markup_init_1 : decode prog_7_method_1_code 1 = .ok (.invokespecial 3, 3) := by decide +kernel
theorem k_315 : (Jvm.Cond.methodLink "PackageBook$Markup" (3 : Nat) ({ cls := "java/lang/Object", name := "<init>", desc := "()V" } : Jvm.MethodName)) ∈ uW := uW_c0 198 rfl (by decide +kernel)
theorem d_Markup_init_4 : decode prog_7_method_1_code 4 = .ok (.aload_n 0, 1) := by decide +kernel
theorem d_Markup_init_5 : decode prog_7_method_1_code 5 = .ok (.sipush 200, 3) := by decide +kernel
theorem d_Markup_init_8 : decode prog_7_method_1_code 8 = .ok (.newarray .long, 2) := by decide +kernel
theorem k_359 : (Jvm.Cond.arrayClass Jvm.ClassFile.FieldType.long) ∈ uW := uW_c1 2 rfl (by decide +kernel)
theorem d_Markup_init_10 : decode prog_7_method_1_code 10 = .ok (.putfield 11, 3) := by decide +kernel
theorem k_316 : (Jvm.Cond.fieldLink "PackageBook$Markup" (11 : Nat) "PackageBook$Markup" "ids" "[J") ∈ uW := uW_c0 199 rfl (by decide +kernel)
theorem d_Markup_init_13 : decode prog_7_method_1_code 13 = .ok (.aload_n 0, 1) := by decide +kernel
theorem d_Markup_init_14 : decode prog_7_method_1_code 14 = .ok (.sipush 200, 3) := by decide +kernel
theorem d_Markup_init_17 : decode prog_7_method_1_code 17 = .ok (.newarray .int, 2) := by decide +kernel
theorem d_Markup_init_19 : decode prog_7_method_1_code 19 = .ok (.putfield 15, 3) := by decide +kernel
theorem k_317 : (Jvm.Cond.fieldLink "PackageBook$Markup" (15 : Nat) "PackageBook$Markup" "goals" "[I") ∈ uW := uW_c0 200 rfl (by decide +kernel)
theorem d_Markup_init_22 : decode prog_7_method_1_code 22 = .ok (.aload_n 0, 1) := by decide +kernel
theorem d_Markup_init_23 : decode prog_7_method_1_code 23 = .ok (.bipush 24, 2) := by decide +kernel
theorem d_Markup_init_25 : decode prog_7_method_1_code 25 = .ok (.newarray .byte, 2) := by decide +kernel
theorem d_Markup_init_27 : decode prog_7_method_1_code 27 = .ok (.putfield 19, 3) := by decide +kernel
theorem k_319 : (Jvm.Cond.fieldLink "PackageBook$Markup" (19 : Nat) "PackageBook$Markup" "value" "[B") ∈ uW := uW_c0 202 rfl (by decide +kernel)
theorem d_Markup_init_30 : decode prog_7_method_1_code 30 = .ok (.aload_n 0, 1) := by decide +kernel
theorem d_Markup_init_31 : decode prog_7_method_1_code 31 = .ok (.iconst 0, 1) := by decide +kernel
theorem d_Markup_init_32 : decode prog_7_method_1_code 32 = .ok (.newarray .byte, 2) := by decide +kernel
theorem d_Markup_init_34 : decode prog_7_method_1_code 34 = .ok (.putfield 23, 3) := by decide +kernel
theorem k_320 : (Jvm.Cond.fieldLink "PackageBook$Markup" (23 : Nat) "PackageBook$Markup" "row" "[B") ∈ uW := uW_c0 203 rfl (by decide +kernel)
theorem d_Markup_init_37 : decode prog_7_method_1_code 37 = .ok (.aload_n 0, 1) := by decide +kernel
theorem d_Markup_init_38 : decode prog_7_method_1_code 38 = .ok (.iconst (-1), 1) := by decide +kernel
theorem d_Markup_init_39 : decode prog_7_method_1_code 39 = .ok (.putfield 26, 3) := by decide +kernel
theorem k_323 : (Jvm.Cond.fieldLink "PackageBook$Markup" (26 : Nat) "PackageBook$Markup" "fault" "I") ∈ uW := uW_c0 206 rfl (by decide +kernel)
theorem d_Markup_init_42 : decode prog_7_method_1_code 42 = .ok (.return_, 1) := by decide +kernel
abbrev y_Markup_init : MethodName := ⟨"PackageBook$Markup", "<init>", "()V"⟩
abbrev i_Markup_init : pb_I := (y_Markup_init, prog_7_method_1_code, 1, (Option.none : Option Jvm.ClassFile.FieldType), [], { frames := 1, cells := 4, slots := 424, locals := 20 })
set_option maxRecDepth 100000 in
set_option maxHeartbeats 4000000 in
theorem g_Markup_init {l : Launch} (hl : l.stackTraces = false) (G : pb_G) (h : Nat) : Cn l G i_Markup_init [.ref h] [(h, .inr (8, [.null, .null, .null, .null, .int 0, .int 0, .int 0, .int 0, .int 0, .int 0, .int 0, .int 0, .int 0]))] (S := Nat × Nat × Nat × Nat) (fun rv_ u => rv_ = none) (fun u => [(h, .inr (8, [.ref u.1, .ref u.2.1, .ref u.2.2.1, .ref u.2.2.2, .int 0, .int (-1), .int 0, .int 0, .int 0, .int 0, .int 0, .int 0, .int 0])), (u.1, .inl (G.2.2.2.1, 200, .inr (.inl (fun _ => 0)))), (u.2.1, .inl (G.2.2.1, 200, .inl (fun _ => 0))), (u.2.2.1, .inl (G.2.1, 24, .inl (fun _ => 0)))]) := by
  refine Cn.of hl (by decide +kernel) rfl (Nat.le_of_ble_eq_true rfl) (fun M hQ => ?_)
  refine pb_eq (pc' := 0) (lo' := [(0, .ref h)]) (rest' := []) (ws' := [(h, .inr (8, [.null, .null, .null, .null, .int 0, .int 0, .int 0, .int 0, .int 0, .int 0, .int 0, .int 0, .int 0]))]) ?_
  have zm1 : ((-1) : Int32).toInt = (-1) := by decide
  have zl0 : (0 : Int32).toInt = 0 := by decide
  have zl1 : (1 : Int32).toInt = 1 := by decide
  have zl24 : (24 : Int32).toInt = 24 := by decide
  have zl200 : (200 : Int32).toInt = 200 := by decide
  refine pb_aload_n (pc := 0) d_Markup_init_0 0 rfl rfl ?_
  refine pb_objInit (pc := 1) d_Markup_init_1 k_315 k_148 k_149 (by decide) (Nat.le_of_ble_eq_true rfl) ?_
  refine pb_aload_n (pc := 4) d_Markup_init_4 0 rfl rfl ?_
  refine pb_sipush (pc := 5) (v := 200) d_Markup_init_5 (by decide) ?_
  refine pb_newl (pc := 8) (N := 200) d_Markup_init_8 k_359 (by decide) (by decide) (by decide) (by decide) (by decide) (fun q1 => ?_)
  refine pb_eq (pc' := 10) (lo' := [(0, .ref h)]) (rest' := [.ref q1, .ref h]) (ws' := [(h, .inr (8, [.null, .null, .null, .null, .int 0, .int 0, .int 0, .int 0, .int 0, .int 0, .int 0, .int 0, .int 0])), (q1, .inl (G.2.2.2.1, 200, .inr (.inl (fun _ => 0))))]) ?_
  refine pb_putF (pc := 10) (ty := (.array .long)) (ws' := [(h, .inr (8, [.ref q1, .null, .null, .null, .int 0, .int 0, .int 0, .int 0, .int 0, .int 0, .int 0, .int 0, .int 0])), (q1, .inl (G.2.2.2.1, 200, .inr (.inl (fun _ => 0))))]) d_Markup_init_10 0 0 t_Markup t_Markup_ok n_Markup rfl rfl (by decide) in_Markup k_316 rfl rfl rfl (by decide +kernel) rfl rfl (Nat.le_of_ble_eq_true rfl) rfl ?_
  refine pb_aload_n (pc := 13) d_Markup_init_13 0 rfl rfl ?_
  refine pb_sipush (pc := 14) (v := 200) d_Markup_init_14 (by decide) ?_
  refine pb_newi (pc := 17) (N := 200) d_Markup_init_17 k_211 (by decide) (by decide) (by decide) (by decide) (by decide) (fun q2 => ?_)
  refine pb_eq (pc' := 19) (lo' := [(0, .ref h)]) (rest' := [.ref q2, .ref h]) (ws' := [(h, .inr (8, [.ref q1, .null, .null, .null, .int 0, .int 0, .int 0, .int 0, .int 0, .int 0, .int 0, .int 0, .int 0])), (q1, .inl (G.2.2.2.1, 200, .inr (.inl (fun _ => 0)))), (q2, .inl (G.2.2.1, 200, .inl (fun _ => 0)))]) ?_
  refine pb_putF (pc := 19) (ty := (.array .int)) (ws' := [(h, .inr (8, [.ref q1, .ref q2, .null, .null, .int 0, .int 0, .int 0, .int 0, .int 0, .int 0, .int 0, .int 0, .int 0])), (q1, .inl (G.2.2.2.1, 200, .inr (.inl (fun _ => 0)))), (q2, .inl (G.2.2.1, 200, .inl (fun _ => 0)))]) d_Markup_init_19 0 1 t_Markup t_Markup_ok n_Markup rfl rfl (by decide) in_Markup k_317 rfl rfl rfl (by decide +kernel) rfl rfl (Nat.le_of_ble_eq_true rfl) rfl ?_
  refine pb_aload_n (pc := 22) d_Markup_init_22 0 rfl rfl ?_
  refine pb_bipush (pc := 23) (v := 24) d_Markup_init_23 (by decide) ?_
  refine pb_newb (pc := 25) (N := 24) d_Markup_init_25 k_172 (by decide) (by decide) (by decide) (by decide) (by decide) (fun q3 => ?_)
  refine pb_eq (pc' := 27) (lo' := [(0, .ref h)]) (rest' := [.ref q3, .ref h]) (ws' := [(h, .inr (8, [.ref q1, .ref q2, .null, .null, .int 0, .int 0, .int 0, .int 0, .int 0, .int 0, .int 0, .int 0, .int 0])), (q1, .inl (G.2.2.2.1, 200, .inr (.inl (fun _ => 0)))), (q2, .inl (G.2.2.1, 200, .inl (fun _ => 0))), (q3, .inl (G.2.1, 24, .inl (fun _ => 0)))]) ?_
  refine pb_putF (pc := 27) (ty := (.array .byte)) (ws' := [(h, .inr (8, [.ref q1, .ref q2, .ref q3, .null, .int 0, .int 0, .int 0, .int 0, .int 0, .int 0, .int 0, .int 0, .int 0])), (q1, .inl (G.2.2.2.1, 200, .inr (.inl (fun _ => 0)))), (q2, .inl (G.2.2.1, 200, .inl (fun _ => 0))), (q3, .inl (G.2.1, 24, .inl (fun _ => 0)))]) d_Markup_init_27 0 2 t_Markup t_Markup_ok n_Markup rfl rfl (by decide) in_Markup k_319 rfl rfl rfl (by decide +kernel) rfl rfl (Nat.le_of_ble_eq_true rfl) rfl ?_
  refine pb_aload_n (pc := 30) d_Markup_init_30 0 rfl rfl ?_
  refine pb_iconst (pc := 31) (v := 0) d_Markup_init_31 (by decide) ?_
  refine pb_newb (pc := 32) (N := 0) d_Markup_init_32 k_172 (by decide) (by decide) (by decide) (by decide) (by decide) (fun q4 => ?_)
  refine pb_eq (pc' := 34) (lo' := [(0, .ref h)]) (rest' := [.ref q4, .ref h]) (ws' := [(h, .inr (8, [.ref q1, .ref q2, .ref q3, .null, .int 0, .int 0, .int 0, .int 0, .int 0, .int 0, .int 0, .int 0, .int 0])), (q1, .inl (G.2.2.2.1, 200, .inr (.inl (fun _ => 0)))), (q2, .inl (G.2.2.1, 200, .inl (fun _ => 0))), (q3, .inl (G.2.1, 24, .inl (fun _ => 0))), (q4, .inl (G.2.1, 0, .inl (fun _ => 0)))]) ?_
  refine pb_put (pc := 34) (ty := (.array .byte)) (ws' := [(h, .inr (8, [.ref q1, .ref q2, .ref q3, .ref q4, .int 0, .int 0, .int 0, .int 0, .int 0, .int 0, .int 0, .int 0, .int 0])), (q1, .inl (G.2.2.2.1, 200, .inr (.inl (fun _ => 0)))), (q2, .inl (G.2.2.1, 200, .inl (fun _ => 0))), (q3, .inl (G.2.1, 24, .inl (fun _ => 0))), (q4, .inl (G.2.1, 0, .inl (fun _ => 0)))]) d_Markup_init_34 0 3 t_Markup t_Markup_ok n_Markup rfl rfl (by decide) in_Markup k_320 rfl (by decide +kernel) rfl rfl (Nat.le_of_ble_eq_true rfl) rfl ?_
  refine pb_aload_n (pc := 37) d_Markup_init_37 0 rfl rfl ?_
  refine pb_iconst (pc := 38) (v := (-1)) d_Markup_init_38 (by decide) ?_
  refine pb_put (pc := 39) (ty := .int) (ws' := [(h, .inr (8, [.ref q1, .ref q2, .ref q3, .ref q4, .int 0, .int (-1), .int 0, .int 0, .int 0, .int 0, .int 0, .int 0, .int 0])), (q1, .inl (G.2.2.2.1, 200, .inr (.inl (fun _ => 0)))), (q2, .inl (G.2.2.1, 200, .inl (fun _ => 0))), (q3, .inl (G.2.1, 24, .inl (fun _ => 0))), (q4, .inl (G.2.1, 0, .inl (fun _ => 0)))]) d_Markup_init_39 0 5 t_Markup t_Markup_ok n_Markup rfl rfl (by decide) in_Markup k_323 rfl (by decide +kernel) rfl rfl (Nat.le_of_ble_eq_true rfl) rfl ?_
  exact pb_vret (pc := 42) hQ d_Markup_init_42 rfl (q1, q2, q3, q4) rfl [0, 1, 2, 3] (by decide) rfl rfl (by decide) (by decide)
/-! the strings' bytes -/
theorem st_255 {x z : Int32} (e : z = x &&& 255) : z.toInt = x.toInt % 256 := by
  subst e
  rw [pk_and _ 8 (by decide), nI_toInt (by omega)]
  have h : x.toInt = x.toBitVec.toInt := rfl
  rw [h, BitVec.toInt_eq_toNat_bmod]
  have hx := x.toBitVec.isLt
  generalize x.toBitVec.toNat = n at *
  rw [Int.bmod_def]
  split <;> omega
def st_c (k : Nat) (j : Int) : Int := ((st_byts.getD k []).getD j.toNat 0).toInt
theorem sc_all : ∀ k : Nat, k < 64 → ∀ x ∈ st_byts.getD k [], 0 ≤ x.toInt ∧ x.toInt ≤ 127 := by decide +kernel
theorem sc_rng {k : Nat} (hk : k < st_n) (j : Int) : 0 ≤ st_c k j ∧ st_c k j ≤ 127 := by
  unfold st_c
  rw [List.getD_eq_getElem?_getD]
  cases c : (st_byts.getD k [])[j.toNat]? with
  | none => exact ⟨by decide, by decide⟩
  | some x => exact sc_all k (Nat.lt_trans hk (by decide)) x (List.mem_of_getElem? c)
theorem sc_ld {k : Nat} {i v w z : Int32} (hk : k < st_n) (e : v = (st_byts.getD k []).getD i.toNatClampNeg 0) (e2 : w = v &&& 255) (e3 : z.toInt = w.toInt) (h0 : 0 ≤ i.toInt) : z.toInt = st_c k i.toInt := by
  have h := sc_rng hk i.toInt
  have e4 : v.toInt = st_c k i.toInt := by
    unfold st_c
    rw [e]
    rfl
  rw [e3, st_255 e2, e4]
  omega

theorem d_JPreconditions_checkIndex_0 : decode prog_25_method_11_code 0 = .ok (.iload_n 0, 1) := by decide +kernel
theorem d_JPreconditions_checkIndex_1 : decode prog_25_method_11_code 1 = .ok (.ifCond .lt 8, 3) := by decide +kernel
theorem d_JPreconditions_checkIndex_4 : decode prog_25_method_11_code 4 = .ok (.iload_n 0, 1) := by decide +kernel
theorem d_JPreconditions_checkIndex_5 : decode prog_25_method_11_code 5 = .ok (.iload_n 1, 1) := by decide +kernel
theorem d_JPreconditions_checkIndex_6 : decode prog_25_method_11_code 6 = .ok (.if_icmp .lt 10, 3) := by decide +kernel
theorem d_JPreconditions_checkIndex_16 : decode prog_25_method_11_code 16 = .ok (.iload_n 0, 1) := by decide +kernel
theorem d_JPreconditions_checkIndex_17 : decode prog_25_method_11_code 17 = .ok (.ireturn, 1) := by decide +kernel
abbrev y_JPreconditions_checkIndex : MethodName := ⟨"jdk/internal/util/Preconditions", "checkIndex", "(IILjava/util/function/BiFunction;)I"⟩
abbrev i_JPreconditions_checkIndex : pb_I := (y_JPreconditions_checkIndex, prog_25_method_11_code, 3, (some Jvm.ClassFile.FieldType.int), [], { frames := 0, cells := 0, slots := 0, locals := 0 })
set_option maxRecDepth 100000 in
set_option maxHeartbeats 4000000 in
theorem g_ci0 {l : Launch} (hl : l.stackTraces = false) (G : pb_G) (x : Int32) (n : Int32) (h0 : 0 ≤ x.toInt) (h1 : x.toInt < n.toInt) : Cn l G i_JPreconditions_checkIndex [.int x, .int n, .null] [] (S := Unit) (fun rv_ u => rv_ = some (.int x)) (fun u => []) := by
  refine Cn.of hl (by decide +kernel) rfl (Nat.le_of_ble_eq_true rfl) (fun M hQ => ?_)
  refine pb_eq (pc' := 0) (lo' := [(0, .int x), (1, .int n), (2, .null)]) (rest' := []) (ws' := []) ?_
  have zl0 : (0 : Int32).toInt = 0 := by decide
  have zl1 : (1 : Int32).toInt = 1 := by decide
  refine pb_iload_n (pc := 0) d_JPreconditions_checkIndex_0 0 rfl rfl ?_
  refine pb_if_lt (pc := 1) (tgt := 9) d_JPreconditions_checkIndex_1 (by decide) (fun h9 => False.elim (by have t9 : x.toInt < 0 := (ti_lt rfl (by decide)).mp h9; omega)) (fun w1 => ?_)
  have tw1 : ¬ x.toInt < 0 := fun z9 => w1 ((ti_lt rfl (by decide)).mpr z9)
  refine pb_iload_n (pc := 4) d_JPreconditions_checkIndex_4 0 rfl rfl ?_
  refine pb_iload_n (pc := 5) d_JPreconditions_checkIndex_5 1 rfl rfl ?_
  refine pb_icmp_lt (pc := 6) (tgt := 16) d_JPreconditions_checkIndex_6 (by decide) (fun w2 => ?_) (fun h9 => False.elim (by have t9 : ¬ x.toInt < n.toInt := fun z9 => h9 ((ti_lt rfl rfl).mpr z9); omega))
  have tw2 : x.toInt < n.toInt := (ti_lt rfl rfl).mp w2
  refine pb_iload_n (pc := 16) d_JPreconditions_checkIndex_16 0 rfl rfl ?_
  exact pb_iret (pc := 17) hQ d_JPreconditions_checkIndex_17 rfl rfl () rfl [] (by decide) rfl rfl (by decide) (by decide)

set_option maxRecDepth 100000 in
set_option maxHeartbeats 4000000 in
theorem g_ci1 {l : Launch} (hl : l.stackTraces = false) (G : pb_G) (x : Int32) (n : Int32) (t : Nat) (h0 : 0 ≤ x.toInt) (h1 : x.toInt < n.toInt) : Cn l G i_JPreconditions_checkIndex [.int x, .int n, .ref t] [] (S := Unit) (fun rv_ u => rv_ = some (.int x)) (fun u => []) := by
  refine Cn.of hl (by decide +kernel) rfl (Nat.le_of_ble_eq_true rfl) (fun M hQ => ?_)
  refine pb_eq (pc' := 0) (lo' := [(0, .int x), (1, .int n), (2, .ref t)]) (rest' := []) (ws' := []) ?_
  have zl0 : (0 : Int32).toInt = 0 := by decide
  have zl1 : (1 : Int32).toInt = 1 := by decide
  refine pb_iload_n (pc := 0) d_JPreconditions_checkIndex_0 0 rfl rfl ?_
  refine pb_if_lt (pc := 1) (tgt := 9) d_JPreconditions_checkIndex_1 (by decide) (fun h9 => False.elim (by have t9 : x.toInt < 0 := (ti_lt rfl (by decide)).mp h9; omega)) (fun w1 => ?_)
  have tw1 : ¬ x.toInt < 0 := fun z9 => w1 ((ti_lt rfl (by decide)).mpr z9)
  refine pb_iload_n (pc := 4) d_JPreconditions_checkIndex_4 0 rfl rfl ?_
  refine pb_iload_n (pc := 5) d_JPreconditions_checkIndex_5 1 rfl rfl ?_
  refine pb_icmp_lt (pc := 6) (tgt := 16) d_JPreconditions_checkIndex_6 (by decide) (fun w2 => ?_) (fun h9 => False.elim (by have t9 : ¬ x.toInt < n.toInt := fun z9 => h9 ((ti_lt rfl rfl).mpr z9); omega))
  have tw2 : x.toInt < n.toInt := (ti_lt rfl rfl).mp w2
  refine pb_iload_n (pc := 16) d_JPreconditions_checkIndex_16 0 rfl rfl ?_
  exact pb_iret (pc := 17) hQ d_JPreconditions_checkIndex_17 rfl rfl () rfl [] (by decide) rfl rfl (by decide) (by decide)

theorem d_JString_checkIndex_0 : decode prog_18_method_155_code 0 = .ok (.iload_n 0, 1) := by decide +kernel
theorem d_JString_checkIndex_1 : decode prog_18_method_155_code 1 = .ok (.iload_n 1, 1) := by decide +kernel
theorem d_JString_checkIndex_2 : decode prog_18_method_155_code 2 = .ok (.getstatic 1053, 3) := by decide +kernel
theorem k_765 : (Jvm.Cond.fieldLink "java/lang/String" (1053 : Nat) "jdk/internal/util/Preconditions" "SIOOBE_FORMATTER" "Ljava/util/function/BiFunction;") ∈ uW := uW_c2 168 rfl (by decide +kernel)
theorem d_JString_checkIndex_5 : decode prog_18_method_155_code 5 = .ok (.invokestatic 1059, 3) := by decide +kernel
theorem k_767 : (Jvm.Cond.methodLink "java/lang/String" (1059 : Nat) ({ cls := "jdk/internal/util/Preconditions", name := "checkIndex", desc := "(IILjava/util/function/BiFunction;)I" } : Jvm.MethodName)) ∈ uW := uW_c2 170 rfl (by decide +kernel)
theorem k_140 : (Jvm.Cond.initialized "jdk/internal/util/Preconditions") ∈ uW := uW_c0 23 rfl (by decide +kernel)
theorem k_769 : (Jvm.Cond.code ({ cls := "jdk/internal/util/Preconditions", name := "checkIndex", desc := "(IILjava/util/function/BiFunction;)I" } : Jvm.MethodName) prog_25_method_11_code (3 : Nat) (Option.some Jvm.ClassFile.FieldType.int)) ∈ uW := uW_c2 172 rfl (by decide +kernel)
theorem k_768 : (Jvm.Cond.static ({ cls := "jdk/internal/util/Preconditions", name := "checkIndex", desc := "(IILjava/util/function/BiFunction;)I" } : Jvm.MethodName)) ∈ uW := uW_c2 171 rfl (by decide +kernel)
theorem hy_JPreconditions_checkIndex : (y_JPreconditions_checkIndex).cls ≠ "java/lang/invoke/MethodHandle" ∧ (y_JPreconditions_checkIndex).cls ≠ "java/lang/invoke/VarHandle" ∧ (parseMethodDescriptor (y_JPreconditions_checkIndex).desc).map (fun d => d.parameters.length) = some 3 := by decide +kernel
theorem d_JString_checkIndex_8 : decode prog_18_method_155_code 8 = .ok (.pop, 1) := by decide +kernel
theorem d_JString_checkIndex_9 : decode prog_18_method_155_code 9 = .ok (.return_, 1) := by decide +kernel
abbrev y_JString_checkIndex : MethodName := ⟨"java/lang/String", "checkIndex", "(II)V"⟩
abbrev i_JString_checkIndex : pb_I := (y_JString_checkIndex, prog_18_method_155_code, 2, (Option.none : Option Jvm.ClassFile.FieldType), [], { frames := 1, cells := 0, slots := 0, locals := 22 })
set_option maxRecDepth 100000 in
set_option maxHeartbeats 4000000 in
theorem g_Str_checkIndex {l : Launch} (hl : l.stackTraces = false) (G : pb_G) (x : Int32) (n : Int32) (h0 : 0 ≤ x.toInt) (h1 : x.toInt < n.toInt) : Cn l G i_JString_checkIndex [.int x, .int n] [] (S := Unit) (fun rv_ u => rv_ = none) (fun u => []) := by
  refine Cn.of hl (by decide +kernel) rfl (Nat.le_of_ble_eq_true rfl) (fun M hQ => ?_)
  refine pb_eq (pc' := 0) (lo' := [(0, .int x), (1, .int n)]) (rest' := []) (ws' := []) ?_
  have zl0 : (0 : Int32).toInt = 0 := by decide
  have zl1 : (1 : Int32).toInt = 1 := by decide
  refine pb_iload_n (pc := 0) d_JString_checkIndex_0 0 rfl rfl ?_
  refine pb_iload_n (pc := 1) d_JString_checkIndex_1 1 rfl rfl ?_
  refine pb_getsF (pc := 2) d_JString_checkIndex_2 k_765 ?_ (fun t9 => ?_)
  · refine pb_callS (pc := 5) (I := i_JString_checkIndex) (nA := 3) (rest := []) (wr := []) d_JString_checkIndex_5 (g_ci0 hl G x n (by first | (with_reducible assumption) | omega (splitDisjunctions := false) | assumption | omega | decide) (by first | (with_reducible assumption) | omega (splitDisjunctions := false) | assumption | omega | decide)) [] [] (by decide) rfl rfl rfl (by decide) (by decide) k_769 rfl k_140 k_767 k_768 hy_JPreconditions_checkIndex (by decide) rfl rfl (Nat.le_of_ble_eq_true rfl) (by decide) (fun v9 u2 ch1 => ?_)
    have ech1 := ch1
    have ech1 : v9 = some (.int x) := ech1
    subst ech1
    refine pb_eq (pc' := 8) (lo' := [(0, .int x), (1, .int n)]) (rest' := [.int x]) (ws' := []) ?_
    refine pb_pop (pc := 8) d_JString_checkIndex_8 rfl ?_
    exact pb_vret (pc := 9) hQ d_JString_checkIndex_9 rfl () rfl [] (by decide) rfl rfl (by decide) (by decide)
  · refine pb_callS (pc := 5) (I := i_JString_checkIndex) (nA := 3) (rest := []) (wr := []) d_JString_checkIndex_5 (g_ci1 hl G x n t9 (by first | (with_reducible assumption) | omega (splitDisjunctions := false) | assumption | omega | decide) (by first | (with_reducible assumption) | omega (splitDisjunctions := false) | assumption | omega | decide)) [] [] (by decide) rfl rfl rfl (by decide) (by decide) k_769 rfl k_140 k_767 k_768 hy_JPreconditions_checkIndex (by decide) rfl rfl (Nat.le_of_ble_eq_true rfl) (by decide) (fun v9 u4 ch3 => ?_)
    have ech3 := ch3
    have ech3 : v9 = some (.int x) := ech3
    subst ech3
    refine pb_eq (pc' := 8) (lo' := [(0, .int x), (1, .int n)]) (rest' := [.int x]) (ws' := []) ?_
    refine pb_pop (pc := 8) d_JString_checkIndex_8 rfl ?_
    exact pb_vret (pc := 9) hQ d_JString_checkIndex_9 rfl () rfl [] (by decide) rfl rfl (by decide) (by decide)

theorem d_JStringLatin1_charAt_0 : decode prog_19_method_2_code 0 = .ok (.iload_n 1, 1) := by decide +kernel
theorem d_JStringLatin1_charAt_1 : decode prog_19_method_2_code 1 = .ok (.aload_n 0, 1) := by decide +kernel
theorem d_JStringLatin1_charAt_2 : decode prog_19_method_2_code 2 = .ok (.arraylength, 1) := by decide +kernel
theorem d_JStringLatin1_charAt_3 : decode prog_19_method_2_code 3 = .ok (.invokestatic 9, 3) := by decide +kernel
theorem k_762 : (Jvm.Cond.methodLink "java/lang/StringLatin1" (9 : Nat) ({ cls := "java/lang/String", name := "checkIndex", desc := "(II)V" } : Jvm.MethodName)) ∈ uW := uW_c2 165 rfl (by decide +kernel)
theorem k_138 : (Jvm.Cond.initialized "java/lang/String") ∈ uW := uW_c0 21 rfl (by decide +kernel)
theorem k_764 : (Jvm.Cond.code ({ cls := "java/lang/String", name := "checkIndex", desc := "(II)V" } : Jvm.MethodName) prog_18_method_155_code (2 : Nat) (Option.none : Option Jvm.ClassFile.FieldType)) ∈ uW := uW_c2 167 rfl (by decide +kernel)
theorem k_763 : (Jvm.Cond.static ({ cls := "java/lang/String", name := "checkIndex", desc := "(II)V" } : Jvm.MethodName)) ∈ uW := uW_c2 166 rfl (by decide +kernel)
theorem hy_JString_checkIndex : (y_JString_checkIndex).cls ≠ "java/lang/invoke/MethodHandle" ∧ (y_JString_checkIndex).cls ≠ "java/lang/invoke/VarHandle" ∧ (parseMethodDescriptor (y_JString_checkIndex).desc).map (fun d => d.parameters.length) = some 2 := by decide +kernel
theorem d_JStringLatin1_charAt_6 : decode prog_19_method_2_code 6 = .ok (.aload_n 0, 1) := by decide +kernel
theorem d_JStringLatin1_charAt_7 : decode prog_19_method_2_code 7 = .ok (.iload_n 1, 1) := by decide +kernel
theorem d_JStringLatin1_charAt_8 : decode prog_19_method_2_code 8 = .ok (.baload, 1) := by decide +kernel
theorem d_JStringLatin1_charAt_9 : decode prog_19_method_2_code 9 = .ok (.sipush 255, 3) := by decide +kernel
theorem d_JStringLatin1_charAt_12 : decode prog_19_method_2_code 12 = .ok (.iand, 1) := by decide +kernel
theorem d_JStringLatin1_charAt_13 : decode prog_19_method_2_code 13 = .ok (.i2c, 1) := by decide +kernel
theorem d_JStringLatin1_charAt_14 : decode prog_19_method_2_code 14 = .ok (.ireturn, 1) := by decide +kernel
abbrev y_JStringLatin1_charAt : MethodName := ⟨"java/lang/StringLatin1", "charAt", "([BI)C"⟩
abbrev i_JStringLatin1_charAt : pb_I := (y_JStringLatin1_charAt, prog_19_method_2_code, 2, (some Jvm.ClassFile.FieldType.char), [], { frames := 2, cells := 0, slots := 0, locals := 43 })
set_option maxRecDepth 100000 in
set_option maxHeartbeats 4000000 in
theorem g_Lat_charAt {l : Launch} (hl : l.stackTraces = false) (G : pb_G) (k : Nat) (i : Int32) (hk : k < st_n) (h0 : 0 ≤ i.toInt) (h1 : i.toInt < st_len k) : Cn l G i_JStringLatin1_charAt [.ref (G.2.2.2.2.2.2 k), .int i] [] (S := Int32) (fun rv_ u => rv_ = some (.int u) ∧ (0 ≤ u.toInt) ∧ (u.toInt ≤ 255) ∧ (u.toInt = st_c k i.toInt)) (fun u => []) := by
  refine Cn.of hl (by decide +kernel) rfl (Nat.le_of_ble_eq_true rfl) (fun M hQ => ?_)
  refine pb_eq (pc' := 0) (lo' := [(0, .ref (G.2.2.2.2.2.2 k)), (1, .int i)]) (rest' := []) (ws' := []) ?_
  have zl0 : (0 : Int32).toInt = 0 := by decide
  have zl1 : (1 : Int32).toInt = 1 := by decide
  have zl255 : (255 : Int32).toInt = 255 := by decide
  refine pb_iload_n (pc := 0) d_JStringLatin1_charAt_0 1 rfl rfl ?_
  refine pb_aload_n (pc := 1) d_JStringLatin1_charAt_1 0 rfl rfl ?_
  refine pb_vlen (pc := 2) d_JStringLatin1_charAt_2 hk ?_
  refine pb_topi (fun i1 ei1 => ?_)
  have ti1 : i1.toInt = st_len k := ti_ofNat ei1 (st_lt _)
  refine pb_callS (pc := 3) (I := i_JStringLatin1_charAt) (nA := 2) (rest := []) (wr := []) d_JStringLatin1_charAt_3 (g_Str_checkIndex hl G i i1 (by first | (with_reducible assumption) | omega (splitDisjunctions := false) | assumption | omega | decide) (by first | (with_reducible assumption) | omega (splitDisjunctions := false) | assumption | omega | decide)) [] [] (by decide) rfl rfl rfl (by decide) (by decide) k_764 rfl k_138 k_762 k_763 hy_JString_checkIndex (by decide) rfl rfl (Nat.le_of_ble_eq_true rfl) (by decide) (fun v9 u3 ch2 => ?_)
  have ech2 := ch2
  have ech2 : v9 = none := ech2
  subst ech2
  refine pb_eq (pc' := 6) (lo' := [(0, .ref (G.2.2.2.2.2.2 k)), (1, .int i)]) (rest' := []) (ws' := []) ?_
  refine pb_aload_n (pc := 6) d_JStringLatin1_charAt_6 0 rfl rfl ?_
  refine pb_iload_n (pc := 7) d_JStringLatin1_charAt_7 1 rfl rfl ?_
  refine pb_vld (pc := 8) d_JStringLatin1_charAt_8 hk (vp_in_iff.mpr (by unfold st_len at *; constructor <;> omega)) ?_
  refine pb_topi (fun i4 ei4 => ?_)
  refine pb_sipush (pc := 9) (v := 255) d_JStringLatin1_charAt_9 (by decide) ?_
  refine pb_iand (pc := 12) d_JStringLatin1_charAt_12 ?_
  refine pb_topi (fun i5 ei5 => ?_)
  have ti5 : 0 ≤ i5.toInt ∧ i5.toInt ≤ 255 := ti_and 8 ei5 (by decide) (by decide)
  refine pb_i2c (pc := 13) d_JStringLatin1_charAt_13 rfl ?_
  refine pb_topi (fun i6 ei6 => ?_)
  have ti6 : i6.toInt = i5.toInt := ti_i2c ei6 rfl (by omega)
  exact pb_iret (pc := 14) hQ d_JStringLatin1_charAt_14 rfl (nar_c (by omega)) (i6) ⟨rfl, (by (try dsimp only); first | done | (with_reducible assumption) | omega (splitDisjunctions := false) | assumption | omega | decide), (by (try dsimp only); first | done | (with_reducible assumption) | omega (splitDisjunctions := false) | assumption | omega | decide), (show i6.toInt = st_c k i.toInt from (sc_ld hk (by assumption) (by assumption) (by omega) h0))⟩ [] (by decide) rfl rfl (by decide) (by decide)

theorem d_JString_isLatin1_0 : decode prog_18_method_154_code 0 = .ok (.getstatic 38, 3) := by decide +kernel
theorem k_749 : (Jvm.Cond.fieldLink "java/lang/String" (38 : Nat) "java/lang/String" "COMPACT_STRINGS" "Z") ∈ uW := uW_c2 152 rfl (by decide +kernel)
theorem d_JString_isLatin1_3 : decode prog_18_method_154_code 3 = .ok (.ifCond .eq 14, 3) := by decide +kernel
theorem d_JString_isLatin1_6 : decode prog_18_method_154_code 6 = .ok (.aload_n 0, 1) := by decide +kernel
theorem d_JString_isLatin1_7 : decode prog_18_method_154_code 7 = .ok (.getfield 15, 3) := by decide +kernel
theorem k_1675 : (Jvm.Cond.fieldLink "java/lang/String" (15 : Nat) "java/lang/String" "coder" "B") ∈ uW := uW_c6 118 rfl (by decide +kernel)
theorem d_JString_isLatin1_10 : decode prog_18_method_154_code 10 = .ok (.ifCond .ne 7, 3) := by decide +kernel
theorem d_JString_isLatin1_13 : decode prog_18_method_154_code 13 = .ok (.iconst 1, 1) := by decide +kernel
theorem d_JString_isLatin1_14 : decode prog_18_method_154_code 14 = .ok (.goto 4, 3) := by decide +kernel
theorem d_JString_isLatin1_18 : decode prog_18_method_154_code 18 = .ok (.ireturn, 1) := by decide +kernel
abbrev y_JString_isLatin1 : MethodName := ⟨"java/lang/String", "isLatin1", "()Z"⟩
abbrev i_JString_isLatin1 : pb_I := (y_JString_isLatin1, prog_18_method_154_code, 1, (some Jvm.ClassFile.FieldType.boolean), [], { frames := 0, cells := 0, slots := 0, locals := 0 })
set_option maxRecDepth 100000 in
set_option maxHeartbeats 4000000 in
theorem g_Str_isLatin1 {l : Launch} (hl : l.stackTraces = false) (G : pb_G) (k : Nat) (hk : k < st_n) : Cn l G i_JString_isLatin1 [.ref (G.2.2.2.2.2.1 k)] [] (S := Unit) (fun rv_ u => rv_ = some (.int 1)) (fun u => []) := by
  refine Cn.of hl (by decide +kernel) rfl (Nat.le_of_ble_eq_true rfl) (fun M hQ => ?_)
  refine pb_eq (pc' := 0) (lo' := [(0, .ref (G.2.2.2.2.2.1 k))]) (rest' := []) (ws' := []) ?_
  have zl0 : (0 : Int32).toInt = 0 := by decide
  have zl1 : (1 : Int32).toInt = 1 := by decide
  refine pb_getsC (pc := 0) d_JString_isLatin1_0 k_749 ?_
  refine pb_if_eq (pc := 3) (tgt := 17) d_JString_isLatin1_3 (by decide) (fun h9 => absurd h9 (by decide)) (fun _ => ?_)
  refine pb_aload_n (pc := 6) d_JString_isLatin1_6 0 rfl rfl ?_
  refine pb_scod (pc := 7) d_JString_isLatin1_7 hk k_1675 ?_
  refine pb_if_ne (pc := 10) (tgt := 17) d_JString_isLatin1_10 (by decide) (fun h9 => absurd h9 (by decide)) (fun _ => ?_)
  refine pb_iconst (pc := 13) (v := 1) d_JString_isLatin1_13 (by decide) ?_
  refine pb_goto (pc := 14) (tgt := 18) d_JString_isLatin1_14 (by decide) ?_
  exact pb_iret (pc := 18) hQ d_JString_isLatin1_18 rfl rfl () rfl [] (by decide) rfl rfl (by decide) (by decide)

theorem d_JString_charAt_0 : decode prog_18_method_56_code 0 = .ok (.aload_n 0, 1) := by decide +kernel
theorem d_JString_charAt_1 : decode prog_18_method_56_code 1 = .ok (.invokevirtual 492, 3) := by decide +kernel
theorem k_755 : (Jvm.Cond.methodLink "java/lang/String" (492 : Nat) ({ cls := "java/lang/String", name := "isLatin1", desc := "()Z" } : Jvm.MethodName)) ∈ uW := uW_c2 158 rfl (by decide +kernel)
theorem k_758 : (Jvm.Cond.code ({ cls := "java/lang/String", name := "isLatin1", desc := "()Z" } : Jvm.MethodName) prog_18_method_154_code (1 : Nat) (Option.some Jvm.ClassFile.FieldType.boolean)) ∈ uW := uW_c2 161 rfl (by decide +kernel)
theorem k_756 : (Jvm.Cond.instanceMethod ({ cls := "java/lang/String", name := "isLatin1", desc := "()Z" } : Jvm.MethodName)) ∈ uW := uW_c2 159 rfl (by decide +kernel)
theorem k_757 : (Jvm.Cond.selects "java/lang/String" ({ cls := "java/lang/String", name := "isLatin1", desc := "()Z" } : Jvm.MethodName) ({ cls := "java/lang/String", name := "isLatin1", desc := "()Z" } : Jvm.MethodName)) ∈ uW := uW_c2 160 rfl (by decide +kernel)
theorem hy_JString_isLatin1 : (y_JString_isLatin1).cls ≠ "java/lang/invoke/MethodHandle" ∧ (y_JString_isLatin1).cls ≠ "java/lang/invoke/VarHandle" ∧ (parseMethodDescriptor (y_JString_isLatin1).desc).map (fun d => d.parameters.length) = some 0 := by decide +kernel
theorem d_JString_charAt_4 : decode prog_18_method_56_code 4 = .ok (.ifCond .eq 12, 3) := by decide +kernel
theorem d_JString_charAt_7 : decode prog_18_method_56_code 7 = .ok (.aload_n 0, 1) := by decide +kernel
theorem d_JString_charAt_8 : decode prog_18_method_56_code 8 = .ok (.getfield 9, 3) := by decide +kernel
theorem k_1674 : (Jvm.Cond.fieldLink "java/lang/String" (9 : Nat) "java/lang/String" "value" "[B") ∈ uW := uW_c6 117 rfl (by decide +kernel)
theorem d_JString_charAt_11 : decode prog_18_method_56_code 11 = .ok (.iload_n 1, 1) := by decide +kernel
theorem d_JString_charAt_12 : decode prog_18_method_56_code 12 = .ok (.invokestatic 495, 3) := by decide +kernel
theorem k_759 : (Jvm.Cond.methodLink "java/lang/String" (495 : Nat) ({ cls := "java/lang/StringLatin1", name := "charAt", desc := "([BI)C" } : Jvm.MethodName)) ∈ uW := uW_c2 162 rfl (by decide +kernel)
theorem k_139 : (Jvm.Cond.initialized "java/lang/StringLatin1") ∈ uW := uW_c0 22 rfl (by decide +kernel)
theorem k_761 : (Jvm.Cond.code ({ cls := "java/lang/StringLatin1", name := "charAt", desc := "([BI)C" } : Jvm.MethodName) prog_19_method_2_code (2 : Nat) (Option.some Jvm.ClassFile.FieldType.char)) ∈ uW := uW_c2 164 rfl (by decide +kernel)
theorem k_760 : (Jvm.Cond.static ({ cls := "java/lang/StringLatin1", name := "charAt", desc := "([BI)C" } : Jvm.MethodName)) ∈ uW := uW_c2 163 rfl (by decide +kernel)
theorem hy_JStringLatin1_charAt : (y_JStringLatin1_charAt).cls ≠ "java/lang/invoke/MethodHandle" ∧ (y_JStringLatin1_charAt).cls ≠ "java/lang/invoke/VarHandle" ∧ (parseMethodDescriptor (y_JStringLatin1_charAt).desc).map (fun d => d.parameters.length) = some 2 := by decide +kernel
theorem d_JString_charAt_15 : decode prog_18_method_56_code 15 = .ok (.ireturn, 1) := by decide +kernel
abbrev y_JString_charAt : MethodName := ⟨"java/lang/String", "charAt", "(I)C"⟩
abbrev i_JString_charAt : pb_I := (y_JString_charAt, prog_18_method_56_code, 2, (some Jvm.ClassFile.FieldType.char), [], { frames := 3, cells := 0, slots := 0, locals := 64 })
set_option maxRecDepth 100000 in
set_option maxHeartbeats 4000000 in
theorem g_Str_charAt {l : Launch} (hl : l.stackTraces = false) (G : pb_G) (k : Nat) (i : Int32) (hk : k < st_n) (h0 : 0 ≤ i.toInt) (h1 : i.toInt < st_len k) : Cn l G i_JString_charAt [.ref (G.2.2.2.2.2.1 k), .int i] [] (S := Int32) (fun rv_ u => rv_ = some (.int u) ∧ (0 ≤ u.toInt) ∧ (u.toInt ≤ 255) ∧ (u.toInt = st_c k i.toInt)) (fun u => []) := by
  refine Cn.of hl (by decide +kernel) rfl (Nat.le_of_ble_eq_true rfl) (fun M hQ => ?_)
  refine pb_eq (pc' := 0) (lo' := [(0, .ref (G.2.2.2.2.2.1 k)), (1, .int i)]) (rest' := []) (ws' := []) ?_
  have zl0 : (0 : Int32).toInt = 0 := by decide
  have zl1 : (1 : Int32).toInt = 1 := by decide
  refine pb_aload_n (pc := 0) d_JString_charAt_0 0 rfl rfl ?_
  refine pb_callVS (pc := 1) (I := i_JString_charAt) (k := k) (nA := 0) (rest := []) (wr := []) d_JString_charAt_1 (g_Str_isLatin1 hl G k (by first | (with_reducible assumption) | omega (splitDisjunctions := false) | assumption | omega | decide)) hk rfl [] [] (by decide) rfl rfl rfl (by decide) (by decide) k_758 rfl k_138 k_755 k_756 k_757 ⟨rfl, hy_JString_isLatin1⟩ (by decide) rfl rfl (Nat.le_of_ble_eq_true rfl) (by decide) (fun v9 u2 ch1 => ?_)
  have ech1 := ch1
  have ech1 : v9 = some (.int 1) := ech1
  subst ech1
  refine pb_eq (pc' := 4) (lo' := [(0, .ref (G.2.2.2.2.2.1 k)), (1, .int i)]) (rest' := [.int 1]) (ws' := []) ?_
  refine pb_if_eq (pc := 4) (tgt := 16) d_JString_charAt_4 (by decide) (fun h9 => absurd h9 (by decide)) (fun _ => ?_)
  refine pb_aload_n (pc := 7) d_JString_charAt_7 0 rfl rfl ?_
  refine pb_sval (pc := 8) d_JString_charAt_8 hk k_1674 ?_
  refine pb_iload_n (pc := 11) d_JString_charAt_11 1 rfl rfl ?_
  refine pb_callS (pc := 12) (I := i_JString_charAt) (nA := 2) (rest := []) (wr := []) d_JString_charAt_12 (g_Lat_charAt hl G k i (by first | (with_reducible assumption) | omega (splitDisjunctions := false) | assumption | omega | decide) (by first | (with_reducible assumption) | omega (splitDisjunctions := false) | assumption | omega | decide) (by first | (with_reducible assumption) | omega (splitDisjunctions := false) | assumption | omega | decide)) [] [] (by decide) rfl rfl rfl (by decide) (by decide) k_761 rfl k_139 k_759 k_760 hy_JStringLatin1_charAt (by decide) rfl rfl (Nat.le_of_ble_eq_true rfl) (by decide) (fun v9 u5 ch4 => ?_)
  obtain ⟨r_6, rfl⟩ : ∃ z9, z9 = u5 := ⟨_, rfl⟩
  obtain ⟨ech4, ch4⟩ := ch4
  have ech4 : v9 = some (.int r_6) := ech4
  subst ech4
  obtain ⟨fh7, fh8, fh9⟩ : (0 ≤ r_6.toInt) ∧ (r_6.toInt ≤ 255) ∧ (r_6.toInt = st_c k i.toInt) := ch4
  refine pb_eq (pc' := 15) (lo' := [(0, .ref (G.2.2.2.2.2.1 k)), (1, .int i)]) (rest' := [.int r_6]) (ws' := []) ?_
  exact pb_iret (pc := 15) hQ d_JString_charAt_15 rfl (nar_c (by omega)) (r_6) ⟨rfl, (by (try dsimp only); first | done | (with_reducible assumption) | omega (splitDisjunctions := false) | assumption | omega | decide), (by (try dsimp only); first | done | (with_reducible assumption) | omega (splitDisjunctions := false) | assumption | omega | decide), (by (try dsimp only); first | done | (with_reducible assumption) | omega (splitDisjunctions := false) | assumption | omega | decide)⟩ [] (by decide) rfl rfl (by decide) (by decide)

theorem d_JString_coder_0 : decode prog_18_method_152_code 0 = .ok (.getstatic 38, 3) := by decide +kernel
theorem d_JString_coder_3 : decode prog_18_method_152_code 3 = .ok (.ifCond .eq 10, 3) := by decide +kernel
theorem d_JString_coder_6 : decode prog_18_method_152_code 6 = .ok (.aload_n 0, 1) := by decide +kernel
theorem d_JString_coder_7 : decode prog_18_method_152_code 7 = .ok (.getfield 15, 3) := by decide +kernel
theorem d_JString_coder_10 : decode prog_18_method_152_code 10 = .ok (.goto 4, 3) := by decide +kernel
theorem d_JString_coder_14 : decode prog_18_method_152_code 14 = .ok (.ireturn, 1) := by decide +kernel
abbrev y_JString_coder : MethodName := ⟨"java/lang/String", "coder", "()B"⟩
abbrev i_JString_coder : pb_I := (y_JString_coder, prog_18_method_152_code, 1, (some Jvm.ClassFile.FieldType.byte), [], { frames := 0, cells := 0, slots := 0, locals := 0 })
set_option maxRecDepth 100000 in
set_option maxHeartbeats 4000000 in
theorem g_Str_coder {l : Launch} (hl : l.stackTraces = false) (G : pb_G) (k : Nat) (hk : k < st_n) : Cn l G i_JString_coder [.ref (G.2.2.2.2.2.1 k)] [] (S := Unit) (fun rv_ u => rv_ = some (.int 0)) (fun u => []) := by
  refine Cn.of hl (by decide +kernel) rfl (Nat.le_of_ble_eq_true rfl) (fun M hQ => ?_)
  refine pb_eq (pc' := 0) (lo' := [(0, .ref (G.2.2.2.2.2.1 k))]) (rest' := []) (ws' := []) ?_
  have zl0 : (0 : Int32).toInt = 0 := by decide
  have zl1 : (1 : Int32).toInt = 1 := by decide
  refine pb_getsC (pc := 0) d_JString_coder_0 k_749 ?_
  refine pb_if_eq (pc := 3) (tgt := 13) d_JString_coder_3 (by decide) (fun h9 => absurd h9 (by decide)) (fun _ => ?_)
  refine pb_aload_n (pc := 6) d_JString_coder_6 0 rfl rfl ?_
  refine pb_scod (pc := 7) d_JString_coder_7 hk k_1675 ?_
  refine pb_goto (pc := 10) (tgt := 14) d_JString_coder_10 (by decide) ?_
  exact pb_iret (pc := 14) hQ d_JString_coder_14 rfl rfl () rfl [] (by decide) rfl rfl (by decide) (by decide)

theorem d_JString_length_0 : decode prog_18_method_54_code 0 = .ok (.aload_n 0, 1) := by decide +kernel
theorem d_JString_length_1 : decode prog_18_method_54_code 1 = .ok (.getfield 9, 3) := by decide +kernel
theorem d_JString_length_4 : decode prog_18_method_54_code 4 = .ok (.arraylength, 1) := by decide +kernel
theorem d_JString_length_5 : decode prog_18_method_54_code 5 = .ok (.aload_n 0, 1) := by decide +kernel
theorem d_JString_length_6 : decode prog_18_method_54_code 6 = .ok (.invokevirtual 335, 3) := by decide +kernel
theorem k_745 : (Jvm.Cond.methodLink "java/lang/String" (335 : Nat) ({ cls := "java/lang/String", name := "coder", desc := "()B" } : Jvm.MethodName)) ∈ uW := uW_c2 148 rfl (by decide +kernel)
theorem k_748 : (Jvm.Cond.code ({ cls := "java/lang/String", name := "coder", desc := "()B" } : Jvm.MethodName) prog_18_method_152_code (1 : Nat) (Option.some Jvm.ClassFile.FieldType.byte)) ∈ uW := uW_c2 151 rfl (by decide +kernel)
theorem k_746 : (Jvm.Cond.instanceMethod ({ cls := "java/lang/String", name := "coder", desc := "()B" } : Jvm.MethodName)) ∈ uW := uW_c2 149 rfl (by decide +kernel)
theorem k_747 : (Jvm.Cond.selects "java/lang/String" ({ cls := "java/lang/String", name := "coder", desc := "()B" } : Jvm.MethodName) ({ cls := "java/lang/String", name := "coder", desc := "()B" } : Jvm.MethodName)) ∈ uW := uW_c2 150 rfl (by decide +kernel)
theorem hy_JString_coder : (y_JString_coder).cls ≠ "java/lang/invoke/MethodHandle" ∧ (y_JString_coder).cls ≠ "java/lang/invoke/VarHandle" ∧ (parseMethodDescriptor (y_JString_coder).desc).map (fun d => d.parameters.length) = some 0 := by decide +kernel
theorem d_JString_length_9 : decode prog_18_method_54_code 9 = .ok (.ishr, 1) := by decide +kernel
theorem d_JString_length_10 : decode prog_18_method_54_code 10 = .ok (.ireturn, 1) := by decide +kernel
abbrev y_JString_length : MethodName := ⟨"java/lang/String", "length", "()I"⟩
abbrev i_JString_length : pb_I := (y_JString_length, prog_18_method_54_code, 1, (some Jvm.ClassFile.FieldType.int), [], { frames := 1, cells := 0, slots := 0, locals := 20 })
set_option maxRecDepth 100000 in
set_option maxHeartbeats 4000000 in
theorem g_Str_length {l : Launch} (hl : l.stackTraces = false) (G : pb_G) (k : Nat) (hk : k < st_n) : Cn l G i_JString_length [.ref (G.2.2.2.2.2.1 k)] [] (S := Int32) (fun rv_ u => rv_ = some (.int u) ∧ (u.toInt = st_len k)) (fun u => []) := by
  refine Cn.of hl (by decide +kernel) rfl (Nat.le_of_ble_eq_true rfl) (fun M hQ => ?_)
  refine pb_eq (pc' := 0) (lo' := [(0, .ref (G.2.2.2.2.2.1 k))]) (rest' := []) (ws' := []) ?_
  have zl0 : (0 : Int32).toInt = 0 := by decide
  have zl1 : (1 : Int32).toInt = 1 := by decide
  refine pb_aload_n (pc := 0) d_JString_length_0 0 rfl rfl ?_
  refine pb_sval (pc := 1) d_JString_length_1 hk k_1674 ?_
  refine pb_vlen (pc := 4) d_JString_length_4 hk ?_
  refine pb_topi (fun i1 ei1 => ?_)
  have ti1 : i1.toInt = st_len k := ti_ofNat ei1 (st_lt _)
  refine pb_aload_n (pc := 5) d_JString_length_5 0 rfl rfl ?_
  refine pb_callVS (pc := 6) (I := i_JString_length) (k := k) (nA := 0) (rest := [.int i1]) (wr := []) d_JString_length_6 (g_Str_coder hl G k (by first | (with_reducible assumption) | omega (splitDisjunctions := false) | assumption | omega | decide)) hk rfl [] [] (by decide) rfl rfl rfl (by decide) (by decide) k_748 rfl k_138 k_745 k_746 k_747 ⟨rfl, hy_JString_coder⟩ (by decide) rfl rfl (Nat.le_of_ble_eq_true rfl) (by decide) (fun v9 u3 ch2 => ?_)
  have ech2 := ch2
  have ech2 : v9 = some (.int 0) := ech2
  subst ech2
  refine pb_eq (pc' := 9) (lo' := [(0, .ref (G.2.2.2.2.2.1 k))]) (rest' := [.int 0, .int i1]) (ws' := []) ?_
  refine pb_ishr (pc := 9) d_JString_length_9 ?_
  refine pb_topi (fun i4 ei4 => ?_)
  have ti4 : i4.toInt = i1.toInt / 1 := ti_shr ei4 rfl 0 (by decide) (by decide)
  exact pb_iret (pc := 10) hQ d_JString_length_10 rfl rfl (i4) ⟨rfl, (by (try dsimp only); first | done | (with_reducible assumption) | omega (splitDisjunctions := false) | assumption | omega | decide)⟩ [] (by decide) rfl rfl (by decide) (by decide)
/-! ROWS OF NUMBERS -/
theorem omg_7c8a06b1f5 {x0 : Int} {x1 : Int} {x2 : Nat} {x3 : Int} (a0 : ((Int.toNat (x0 - x1)) < (x2 + (1 : Nat)))) (a1 : (¬ (x0 ≤ x1))) (a2 : (x3 = (x1 + (1 : Int)))) : ((Int.toNat (x0 - x3)) < x2) := by omega
theorem omg_d9c3f42b32 {x0 : Int} (a0 : ((x0 = (0 : Int)) ∨ (x0 = (1 : Int)))) (a1 : (¬ (x0 = (0 : Int)))) : (x0 = (1 : Int)) := by omega
theorem omg_d2f4b98d7b {x0 : Int} {x1 : Nat} {x2 : Int} (a0 : ((Int.toNat ((8 : Int) - x0)) < (x1 + (1 : Nat)))) (a1 : (¬ ((8 : Int) ≤ x0))) (a2 : (x2 = (x0 + (1 : Int)))) : ((Int.toNat ((8 : Int) - x2)) < x1) := by omega
theorem d_Book_isSame_0 : decode prog_1_method_28_code 0 = .ok (.iconst 0, 1) := by decide +kernel
theorem d_Book_isSame_1 : decode prog_1_method_28_code 1 = .ok (.istore 5, 2) := by decide +kernel
theorem d_Book_isSame_3 : decode prog_1_method_28_code 3 = .ok (.iload 5, 2) := by decide +kernel
theorem d_Book_isSame_5 : decode prog_1_method_28_code 5 = .ok (.iload 4, 2) := by decide +kernel
theorem d_Book_isSame_7 : decode prog_1_method_28_code 7 = .ok (.if_icmp .ge 26, 3) := by decide +kernel
theorem d_Book_isSame_33 : decode prog_1_method_28_code 33 = .ok (.iconst 1, 1) := by decide +kernel
theorem d_Book_isSame_34 : decode prog_1_method_28_code 34 = .ok (.ireturn, 1) := by decide +kernel
theorem d_Book_isSame_10 : decode prog_1_method_28_code 10 = .ok (.aload_n 0, 1) := by decide +kernel
theorem d_Book_isSame_11 : decode prog_1_method_28_code 11 = .ok (.iload_n 1, 1) := by decide +kernel
theorem d_Book_isSame_12 : decode prog_1_method_28_code 12 = .ok (.iload 5, 2) := by decide +kernel
theorem d_Book_isSame_14 : decode prog_1_method_28_code 14 = .ok (.iadd, 1) := by decide +kernel
theorem d_Book_isSame_15 : decode prog_1_method_28_code 15 = .ok (.baload, 1) := by decide +kernel
theorem d_Book_isSame_16 : decode prog_1_method_28_code 16 = .ok (.aload_n 2, 1) := by decide +kernel
theorem d_Book_isSame_17 : decode prog_1_method_28_code 17 = .ok (.iload_n 3, 1) := by decide +kernel
theorem d_Book_isSame_18 : decode prog_1_method_28_code 18 = .ok (.iload 5, 2) := by decide +kernel
theorem d_Book_isSame_20 : decode prog_1_method_28_code 20 = .ok (.iadd, 1) := by decide +kernel
theorem d_Book_isSame_21 : decode prog_1_method_28_code 21 = .ok (.baload, 1) := by decide +kernel
theorem d_Book_isSame_22 : decode prog_1_method_28_code 22 = .ok (.if_icmp .eq 5, 3) := by decide +kernel
theorem d_Book_isSame_27 : decode prog_1_method_28_code 27 = .ok (.iinc 5 1, 3) := by decide +kernel
theorem d_Book_isSame_30 : decode prog_1_method_28_code 30 = .ok (.goto (-27), 3) := by decide +kernel
theorem d_Book_isSame_25 : decode prog_1_method_28_code 25 = .ok (.iconst 0, 1) := by decide +kernel
theorem d_Book_isSame_26 : decode prog_1_method_28_code 26 = .ok (.ireturn, 1) := by decide +kernel
abbrev y_Book_isSame : MethodName := ⟨"PackageBook", "isSame", "([BI[BII)Z"⟩
abbrev i_Book_isSame : pb_I := (y_Book_isSame, prog_1_method_28_code, 6, (some Jvm.ClassFile.FieldType.boolean), [], { frames := 0, cells := 0, slots := 0, locals := 0 })
set_option maxRecDepth 100000 in
set_option maxHeartbeats 4000000 in
theorem g_isSame {l : Launch} (hl : l.stackTraces = false) (G : pb_G) (a : Nat) (b : Nat) (Na : Nat) (Nb : Nat) (f : Nat → Int32) (g : Nat → Int32) (x : Int32) (y : Int32) (n : Int32) (h0 : 0 ≤ x.toInt) (h1 : 0 ≤ y.toInt) (h2 : x.toInt + n.toInt ≤ Na) (h3 : y.toInt + n.toInt ≤ Nb) (h4 : Na ≤ 1000000) (h5 : Nb ≤ 1000000) (F_f : sb_Fit f) (F_g : sb_Fit g) : Cn l G i_Book_isSame [.ref a, .int x, .ref b, .int y, .int n] [(a, .inl (G.2.1, Na, .inl f)), (b, .inl (G.2.1, Nb, .inl g))] (S := Int32) (fun rv_ u => rv_ = some (.int u) ∧ (u.toInt = 0 ∨ u.toInt = 1) ∧ (u.toInt = 1 → ∀ j : Int, 0 ≤ j → j < n.toInt → gx f (x.toInt + j) = gx g (y.toInt + j)) ∧ (u.toInt = 0 → ¬ (∀ j : Int, 0 ≤ j → j < n.toInt → gx f (x.toInt + j) = gx g (y.toInt + j)))) (fun u => [(a, .inl (G.2.1, Na, .inl f)), (b, .inl (G.2.1, Nb, .inl g))]) := by
  refine Cn.of hl (by decide +kernel) rfl (Nat.le_of_ble_eq_true rfl) (fun M hQ => ?_)
  refine pb_eq (pc' := 0) (lo' := [(0, .ref a), (1, .int x), (2, .ref b), (3, .int y), (4, .int n)]) (rest' := []) (ws' := [(a, .inl (G.2.1, Na, .inl f)), (b, .inl (G.2.1, Nb, .inl g))]) ?_
  have zl0 : (0 : Int32).toInt = 0 := by decide
  have zl1 : (1 : Int32).toInt = 1 := by decide
  refine pb_iconst (pc := 0) (v := 0) d_Book_isSame_0 (by decide) ?_
  refine pb_istore (pc := 1) (lo' := [(5, .int 0), (0, .ref a), (1, .int x), (2, .ref b), (3, .int y), (4, .int n)]) d_Book_isSame_1 (by decide) rfl ?_
  have hL3_1 : ∀ (N9 : Nat) (k : Int32), (0 ≤ k.toInt) → (∀ j : Int, 0 ≤ j → j < k.toInt → gx f (x.toInt + j) = gx g (y.toInt + j)) → ((n.toInt - k.toInt).toNat) < N9 → pb_P l G M i_Book_isSame 3 [(5, .int k), (0, .ref a), (1, .int x), (2, .ref b), (3, .int y), (4, .int n)] [] [(a, .inl (G.2.1, Na, .inl f)), (b, .inl (G.2.1, Nb, .inl g))] 0 0 := by
    intro N9
    induction N9 with
    | zero => intro k hk hg hm9; exact absurd hm9 (Nat.not_lt_zero _)
    | succ N9 ih3 =>
      intro k hk hg hm9
      refine pb_iload (pc := 3) d_Book_isSame_3 0 rfl ?_
      refine pb_iload (pc := 5) d_Book_isSame_5 5 rfl ?_
      refine pb_icmp_ge (pc := 7) (tgt := 33) d_Book_isSame_7 (by decide) (fun w2 => ?_) (fun w2 => ?_)
      · have tw2 : n.toInt ≤ k.toInt := (ti_le rfl rfl).mp w2
        refine pb_iconst (pc := 33) (v := 1) d_Book_isSame_33 (by decide) ?_
        exact pb_iret (pc := 34) hQ d_Book_isSame_34 rfl rfl (1) ⟨rfl, (by (try dsimp only); first | done | (with_reducible assumption) | omega (splitDisjunctions := false) | assumption | omega | decide), (show (1 : Int32).toInt = 1 → ∀ j : Int, 0 ≤ j → j < n.toInt → gx f (x.toInt + j) = gx g (y.toInt + j) from (fun _ j h0 h1 => hg j h0 (by omega))), (show (1 : Int32).toInt = 0 → ¬ (∀ j : Int, 0 ≤ j → j < n.toInt → gx f (x.toInt + j) = gx g (y.toInt + j)) from (fun q9 => absurd q9 (by omega)))⟩ [0, 1] (by decide) rfl rfl (by decide) (by decide)
      · have tw2 : ¬ n.toInt ≤ k.toInt := fun z9 => w2 ((ti_le rfl rfl).mpr z9)
        refine pb_aload_n (pc := 10) d_Book_isSame_10 1 rfl rfl ?_
        refine pb_iload_n (pc := 11) d_Book_isSame_11 2 rfl rfl ?_
        refine pb_iload (pc := 12) d_Book_isSame_12 0 rfl ?_
        refine pb_iadd (pc := 14) d_Book_isSame_14 ?_
        refine pb_topi (fun i3 ei3 => ?_)
        try have ti3 : i3.toInt = x.toInt + k.toInt := ti_add ei3 rfl rfl (by omega) (by omega)
        refine pb_bald (pc := 15) d_Book_isSame_15 0 rfl (vp_in_iff.mpr (by constructor <;> omega)) ?_
        refine pb_topi (fun i4 ei4 => ?_)
        have xi4 : i4 = gr f (x.toInt + k.toInt) := gr_ld ei4 (by omega)
        have yi4 : i4.toInt = gx f (x.toInt + k.toInt) := congrArg Int32.toInt xi4
        have ti4 : -128 ≤ i4.toInt ∧ i4.toInt ≤ 127 := ti_fit (F_f _) ei4
        refine pb_aload_n (pc := 16) d_Book_isSame_16 3 rfl rfl ?_
        refine pb_iload_n (pc := 17) d_Book_isSame_17 4 rfl rfl ?_
        refine pb_iload (pc := 18) d_Book_isSame_18 0 rfl ?_
        refine pb_iadd (pc := 20) d_Book_isSame_20 ?_
        refine pb_topi (fun i5 ei5 => ?_)
        try have ti5 : i5.toInt = y.toInt + k.toInt := ti_add ei5 rfl rfl (by omega) (by omega)
        refine pb_bald (pc := 21) d_Book_isSame_21 1 rfl (vp_in_iff.mpr (by constructor <;> omega)) ?_
        refine pb_topi (fun i6 ei6 => ?_)
        have xi6 : i6 = gr g (y.toInt + k.toInt) := gr_ld ei6 (by omega)
        have yi6 : i6.toInt = gx g (y.toInt + k.toInt) := congrArg Int32.toInt xi6
        have ti6 : -128 ≤ i6.toInt ∧ i6.toInt ≤ 127 := ti_fit (F_g _) ei6
        refine pb_icmp_eq (pc := 22) (tgt := 27) d_Book_isSame_22 (by decide) (fun w7 => ?_) (fun w7 => ?_)
        · have tw7 : i4.toInt = i6.toInt := (ti_eq rfl rfl).mp w7
          refine pb_iincN (pc := 27) (c := 1) d_Book_isSame_27 0 rfl (by decide) (by decide) (fun i8 ei8 => ?_)
          have ti8 : i8.toInt = k.toInt + 1 := ti_add ei8 rfl (by decide) (by omega) (by omega)
          refine pb_eq (pc' := 30) (lo' := [(5, .int i8), (0, .ref a), (1, .int x), (2, .ref b), (3, .int y), (4, .int n)]) (rest' := []) (ws' := [(a, .inl (G.2.1, Na, .inl f)), (b, .inl (G.2.1, Nb, .inl g))]) ?_
          refine pb_goto (pc := 30) (tgt := 3) d_Book_isSame_30 (by decide) ?_
          exact ih3 i8 (by first | (with_reducible assumption) | omega (splitDisjunctions := false) | assumption | omega | decide) (lp_st hg (by omega) (by omega)) (by (exact omg_7c8a06b1f5 hm9 tw2 ti8))
        · have tw7 : ¬ i4.toInt = i6.toInt := fun z9 => w7 ((ti_eq rfl rfl).mpr z9)
          refine pb_iconst (pc := 25) (v := 0) d_Book_isSame_25 (by decide) ?_
          exact pb_iret (pc := 26) hQ d_Book_isSame_26 rfl rfl (0) ⟨rfl, (by (try dsimp only); first | done | (with_reducible assumption) | omega (splitDisjunctions := false) | assumption | omega | decide), (show (0 : Int32).toInt = 1 → ∀ j : Int, 0 ≤ j → j < n.toInt → gx f (x.toInt + j) = gx g (y.toInt + j) from (fun q9 => absurd q9 (by omega))), (show (0 : Int32).toInt = 0 → ¬ (∀ j : Int, 0 ≤ j → j < n.toInt → gx f (x.toInt + j) = gx g (y.toInt + j)) from (fun _ q9 => absurd (q9 k.toInt hk (by omega)) (by omega)))⟩ [0, 1] (by decide) rfl rfl (by decide) (by decide)
  exact hL3_1 _ 0 (by first | (with_reducible assumption) | omega (splitDisjunctions := false) | assumption | omega | decide) (fun j h0 h1 => absurd h1 (by omega)) (Nat.lt_succ_self _)

set_option maxRecDepth 100000 in
set_option maxHeartbeats 4000000 in
theorem g_isSame1 {l : Launch} (hl : l.stackTraces = false) (G : pb_G) (a : Nat) (Na : Nat) (f : Nat → Int32) (x : Int32) (y : Int32) (n : Int32) (h0 : 0 ≤ x.toInt) (h1 : 0 ≤ y.toInt) (h2 : x.toInt + n.toInt ≤ Na) (h3 : y.toInt + n.toInt ≤ Na) (h4 : Na ≤ 1000000) (h5 : Na ≤ 1000000) (F_f : sb_Fit f) : Cn l G i_Book_isSame [.ref a, .int x, .ref a, .int y, .int n] [(a, .inl (G.2.1, Na, .inl f))] (S := Int32) (fun rv_ u => rv_ = some (.int u) ∧ (u.toInt = 0 ∨ u.toInt = 1) ∧ (u.toInt = 1 → ∀ j : Int, 0 ≤ j → j < n.toInt → gx f (x.toInt + j) = gx f (y.toInt + j)) ∧ (u.toInt = 0 → ¬ (∀ j : Int, 0 ≤ j → j < n.toInt → gx f (x.toInt + j) = gx f (y.toInt + j)))) (fun u => [(a, .inl (G.2.1, Na, .inl f))]) := by
  refine Cn.of hl (by decide +kernel) rfl (Nat.le_of_ble_eq_true rfl) (fun M hQ => ?_)
  refine pb_eq (pc' := 0) (lo' := [(0, .ref a), (1, .int x), (2, .ref a), (3, .int y), (4, .int n)]) (rest' := []) (ws' := [(a, .inl (G.2.1, Na, .inl f))]) ?_
  have zl0 : (0 : Int32).toInt = 0 := by decide
  have zl1 : (1 : Int32).toInt = 1 := by decide
  refine pb_iconst (pc := 0) (v := 0) d_Book_isSame_0 (by decide) ?_
  refine pb_istore (pc := 1) (lo' := [(5, .int 0), (0, .ref a), (1, .int x), (2, .ref a), (3, .int y), (4, .int n)]) d_Book_isSame_1 (by decide) rfl ?_
  have hL3_1 : ∀ (N9 : Nat) (k : Int32), (0 ≤ k.toInt) → (∀ j : Int, 0 ≤ j → j < k.toInt → gx f (x.toInt + j) = gx f (y.toInt + j)) → ((n.toInt - k.toInt).toNat) < N9 → pb_P l G M i_Book_isSame 3 [(5, .int k), (0, .ref a), (1, .int x), (2, .ref a), (3, .int y), (4, .int n)] [] [(a, .inl (G.2.1, Na, .inl f))] 0 0 := by
    intro N9
    induction N9 with
    | zero => intro k hk hg hm9; exact absurd hm9 (Nat.not_lt_zero _)
    | succ N9 ih3 =>
      intro k hk hg hm9
      refine pb_iload (pc := 3) d_Book_isSame_3 0 rfl ?_
      refine pb_iload (pc := 5) d_Book_isSame_5 5 rfl ?_
      refine pb_icmp_ge (pc := 7) (tgt := 33) d_Book_isSame_7 (by decide) (fun w2 => ?_) (fun w2 => ?_)
      · have tw2 : n.toInt ≤ k.toInt := (ti_le rfl rfl).mp w2
        refine pb_iconst (pc := 33) (v := 1) d_Book_isSame_33 (by decide) ?_
        exact pb_iret (pc := 34) hQ d_Book_isSame_34 rfl rfl (1) ⟨rfl, (by (try dsimp only); first | done | (with_reducible assumption) | omega (splitDisjunctions := false) | assumption | omega | decide), (show (1 : Int32).toInt = 1 → ∀ j : Int, 0 ≤ j → j < n.toInt → gx f (x.toInt + j) = gx f (y.toInt + j) from (fun _ j h0 h1 => hg j h0 (by omega))), (show (1 : Int32).toInt = 0 → ¬ (∀ j : Int, 0 ≤ j → j < n.toInt → gx f (x.toInt + j) = gx f (y.toInt + j)) from (fun q9 => absurd q9 (by omega)))⟩ [0] (by decide) rfl rfl (by decide) (by decide)
      · have tw2 : ¬ n.toInt ≤ k.toInt := fun z9 => w2 ((ti_le rfl rfl).mpr z9)
        refine pb_aload_n (pc := 10) d_Book_isSame_10 1 rfl rfl ?_
        refine pb_iload_n (pc := 11) d_Book_isSame_11 2 rfl rfl ?_
        refine pb_iload (pc := 12) d_Book_isSame_12 0 rfl ?_
        refine pb_iadd (pc := 14) d_Book_isSame_14 ?_
        refine pb_topi (fun i3 ei3 => ?_)
        try have ti3 : i3.toInt = x.toInt + k.toInt := ti_add ei3 rfl rfl (by omega) (by omega)
        refine pb_bald (pc := 15) d_Book_isSame_15 0 rfl (vp_in_iff.mpr (by constructor <;> omega)) ?_
        refine pb_topi (fun i4 ei4 => ?_)
        have xi4 : i4 = gr f (x.toInt + k.toInt) := gr_ld ei4 (by omega)
        have yi4 : i4.toInt = gx f (x.toInt + k.toInt) := congrArg Int32.toInt xi4
        have ti4 : -128 ≤ i4.toInt ∧ i4.toInt ≤ 127 := ti_fit (F_f _) ei4
        refine pb_aload_n (pc := 16) d_Book_isSame_16 3 rfl rfl ?_
        refine pb_iload_n (pc := 17) d_Book_isSame_17 4 rfl rfl ?_
        refine pb_iload (pc := 18) d_Book_isSame_18 0 rfl ?_
        refine pb_iadd (pc := 20) d_Book_isSame_20 ?_
        refine pb_topi (fun i5 ei5 => ?_)
        try have ti5 : i5.toInt = y.toInt + k.toInt := ti_add ei5 rfl rfl (by omega) (by omega)
        refine pb_bald (pc := 21) d_Book_isSame_21 0 rfl (vp_in_iff.mpr (by constructor <;> omega)) ?_
        refine pb_topi (fun i6 ei6 => ?_)
        have xi6 : i6 = gr f (y.toInt + k.toInt) := gr_ld ei6 (by omega)
        have yi6 : i6.toInt = gx f (y.toInt + k.toInt) := congrArg Int32.toInt xi6
        have ti6 : -128 ≤ i6.toInt ∧ i6.toInt ≤ 127 := ti_fit (F_f _) ei6
        refine pb_icmp_eq (pc := 22) (tgt := 27) d_Book_isSame_22 (by decide) (fun w7 => ?_) (fun w7 => ?_)
        · have tw7 : i4.toInt = i6.toInt := (ti_eq rfl rfl).mp w7
          refine pb_iincN (pc := 27) (c := 1) d_Book_isSame_27 0 rfl (by decide) (by decide) (fun i8 ei8 => ?_)
          have ti8 : i8.toInt = k.toInt + 1 := ti_add ei8 rfl (by decide) (by omega) (by omega)
          refine pb_eq (pc' := 30) (lo' := [(5, .int i8), (0, .ref a), (1, .int x), (2, .ref a), (3, .int y), (4, .int n)]) (rest' := []) (ws' := [(a, .inl (G.2.1, Na, .inl f))]) ?_
          refine pb_goto (pc := 30) (tgt := 3) d_Book_isSame_30 (by decide) ?_
          exact ih3 i8 (by first | (with_reducible assumption) | omega (splitDisjunctions := false) | assumption | omega | decide) (lp_st hg (by omega) (by omega)) (by (exact omg_7c8a06b1f5 hm9 tw2 ti8))
        · have tw7 : ¬ i4.toInt = i6.toInt := fun z9 => w7 ((ti_eq rfl rfl).mpr z9)
          refine pb_iconst (pc := 25) (v := 0) d_Book_isSame_25 (by decide) ?_
          exact pb_iret (pc := 26) hQ d_Book_isSame_26 rfl rfl (0) ⟨rfl, (by (try dsimp only); first | done | (with_reducible assumption) | omega (splitDisjunctions := false) | assumption | omega | decide), (show (0 : Int32).toInt = 1 → ∀ j : Int, 0 ≤ j → j < n.toInt → gx f (x.toInt + j) = gx f (y.toInt + j) from (fun q9 => absurd q9 (by omega))), (show (0 : Int32).toInt = 0 → ¬ (∀ j : Int, 0 ≤ j → j < n.toInt → gx f (x.toInt + j) = gx f (y.toInt + j)) from (fun _ q9 => absurd (q9 k.toInt hk (by omega)) (by omega)))⟩ [0] (by decide) rfl rfl (by decide) (by decide)
  exact hL3_1 _ 0 (by first | (with_reducible assumption) | omega (splitDisjunctions := false) | assumption | omega | decide) (fun j h0 h1 => absurd h1 (by omega)) (Nat.lt_succ_self _)

theorem d_Book_isPiece_0 : decode prog_1_method_27_code 0 = .ok (.iconst 0, 1) := by decide +kernel
theorem d_Book_isPiece_1 : decode prog_1_method_27_code 1 = .ok (.istore_n 3, 1) := by decide +kernel
theorem d_Book_isPiece_2 : decode prog_1_method_27_code 2 = .ok (.iload_n 1, 1) := by decide +kernel
theorem d_Book_isPiece_3 : decode prog_1_method_27_code 3 = .ok (.istore 4, 2) := by decide +kernel
theorem d_Book_isPiece_5 : decode prog_1_method_27_code 5 = .ok (.iload 4, 2) := by decide +kernel
theorem d_Book_isPiece_7 : decode prog_1_method_27_code 7 = .ok (.iload_n 2, 1) := by decide +kernel
theorem d_Book_isPiece_8 : decode prog_1_method_27_code 8 = .ok (.if_icmp .ge 65, 3) := by decide +kernel
theorem d_Book_isPiece_73 : decode prog_1_method_27_code 73 = .ok (.iload_n 2, 1) := by decide +kernel
theorem d_Book_isPiece_74 : decode prog_1_method_27_code 74 = .ok (.iload_n 1, 1) := by decide +kernel
theorem d_Book_isPiece_75 : decode prog_1_method_27_code 75 = .ok (.if_icmp .le 19, 3) := by decide +kernel
theorem d_Book_isPiece_94 : decode prog_1_method_27_code 94 = .ok (.iconst 0, 1) := by decide +kernel
theorem d_Book_isPiece_95 : decode prog_1_method_27_code 95 = .ok (.ireturn, 1) := by decide +kernel
theorem d_Book_isPiece_78 : decode prog_1_method_27_code 78 = .ok (.iload_n 3, 1) := by decide +kernel
theorem d_Book_isPiece_79 : decode prog_1_method_27_code 79 = .ok (.iload_n 2, 1) := by decide +kernel
theorem d_Book_isPiece_80 : decode prog_1_method_27_code 80 = .ok (.iload_n 1, 1) := by decide +kernel
theorem d_Book_isPiece_81 : decode prog_1_method_27_code 81 = .ok (.isub, 1) := by decide +kernel
theorem d_Book_isPiece_82 : decode prog_1_method_27_code 82 = .ok (.if_icmp .lt 8, 3) := by decide +kernel
theorem d_Book_isPiece_90 : decode prog_1_method_27_code 90 = .ok (.iconst 1, 1) := by decide +kernel
theorem d_Book_isPiece_91 : decode prog_1_method_27_code 91 = .ok (.goto 4, 3) := by decide +kernel
theorem d_Book_isPiece_85 : decode prog_1_method_27_code 85 = .ok (.iload_n 3, 1) := by decide +kernel
theorem d_Book_isPiece_86 : decode prog_1_method_27_code 86 = .ok (.iconst 2, 1) := by decide +kernel
theorem d_Book_isPiece_87 : decode prog_1_method_27_code 87 = .ok (.if_icmp .le 7, 3) := by decide +kernel
theorem d_Book_isPiece_11 : decode prog_1_method_27_code 11 = .ok (.aload_n 0, 1) := by decide +kernel
theorem d_Book_isPiece_12 : decode prog_1_method_27_code 12 = .ok (.iload 4, 2) := by decide +kernel
theorem d_Book_isPiece_14 : decode prog_1_method_27_code 14 = .ok (.baload, 1) := by decide +kernel
theorem d_Book_isPiece_15 : decode prog_1_method_27_code 15 = .ok (.istore 5, 2) := by decide +kernel
theorem d_Book_isPiece_17 : decode prog_1_method_27_code 17 = .ok (.iload 5, 2) := by decide +kernel
theorem d_Book_isPiece_19 : decode prog_1_method_27_code 19 = .ok (.bipush 46, 2) := by decide +kernel
theorem d_Book_isPiece_21 : decode prog_1_method_27_code 21 = .ok (.if_icmp .ne 9, 3) := by decide +kernel
theorem d_Book_isPiece_30 : decode prog_1_method_27_code 30 = .ok (.iload 5, 2) := by decide +kernel
theorem d_Book_isPiece_32 : decode prog_1_method_27_code 32 = .ok (.bipush 97, 2) := by decide +kernel
theorem d_Book_isPiece_34 : decode prog_1_method_27_code 34 = .ok (.if_icmp .lt 10, 3) := by decide +kernel
theorem d_Book_isPiece_44 : decode prog_1_method_27_code 44 = .ok (.iload 5, 2) := by decide +kernel
theorem d_Book_isPiece_46 : decode prog_1_method_27_code 46 = .ok (.bipush 48, 2) := by decide +kernel
theorem d_Book_isPiece_48 : decode prog_1_method_27_code 48 = .ok (.if_icmp .lt 10, 3) := by decide +kernel
theorem d_Book_isPiece_58 : decode prog_1_method_27_code 58 = .ok (.iload 5, 2) := by decide +kernel
theorem d_Book_isPiece_60 : decode prog_1_method_27_code 60 = .ok (.bipush 95, 2) := by decide +kernel
theorem d_Book_isPiece_62 : decode prog_1_method_27_code 62 = .ok (.if_icmp .eq 5, 3) := by decide +kernel
theorem d_Book_isPiece_67 : decode prog_1_method_27_code 67 = .ok (.iinc 4 1, 3) := by decide +kernel
theorem d_Book_isPiece_70 : decode prog_1_method_27_code 70 = .ok (.goto (-65), 3) := by decide +kernel
theorem d_Book_isPiece_65 : decode prog_1_method_27_code 65 = .ok (.iconst 0, 1) := by decide +kernel
theorem d_Book_isPiece_66 : decode prog_1_method_27_code 66 = .ok (.ireturn, 1) := by decide +kernel
theorem d_Book_isPiece_51 : decode prog_1_method_27_code 51 = .ok (.iload 5, 2) := by decide +kernel
theorem d_Book_isPiece_53 : decode prog_1_method_27_code 53 = .ok (.bipush 57, 2) := by decide +kernel
theorem d_Book_isPiece_55 : decode prog_1_method_27_code 55 = .ok (.if_icmp .le 12, 3) := by decide +kernel
theorem d_Book_isPiece_37 : decode prog_1_method_27_code 37 = .ok (.iload 5, 2) := by decide +kernel
theorem d_Book_isPiece_39 : decode prog_1_method_27_code 39 = .ok (.bipush 122, 2) := by decide +kernel
theorem d_Book_isPiece_41 : decode prog_1_method_27_code 41 = .ok (.if_icmp .le 26, 3) := by decide +kernel
theorem d_Book_isPiece_24 : decode prog_1_method_27_code 24 = .ok (.iinc 3 1, 3) := by decide +kernel
theorem d_Book_isPiece_27 : decode prog_1_method_27_code 27 = .ok (.goto 40, 3) := by decide +kernel
abbrev y_Book_isPiece : MethodName := ⟨"PackageBook", "isPiece", "([BII)Z"⟩
abbrev i_Book_isPiece : pb_I := (y_Book_isPiece, prog_1_method_27_code, 6, (some Jvm.ClassFile.FieldType.boolean), [], { frames := 0, cells := 0, slots := 0, locals := 0 })
set_option maxRecDepth 100000 in
set_option maxHeartbeats 4000000 in
theorem g_isPiece {l : Launch} (hl : l.stackTraces = false) (G : pb_G) (a : Nat) (Na : Nat) (f : Nat → Int32) (x : Int32) (e : Int32) (h0 : 0 ≤ x.toInt) (h1 : e.toInt ≤ Na) (h2 : Na ≤ 1000000) (h3 : x.toInt ≤ 1000000) (F_f : sb_Fit f) : Cn l G i_Book_isPiece [.ref a, .int x, .int e] [(a, .inl (G.2.1, Na, .inl f))] (S := Int32) (fun rv_ u => rv_ = some (.int u) ∧ (u.toInt = 0 ∨ u.toInt = 1) ∧ (u.toInt = 1 → pe_ (gx f) x.toInt e.toInt) ∧ (u.toInt = 0 → ¬ pe_ (gx f) x.toInt e.toInt)) (fun u => [(a, .inl (G.2.1, Na, .inl f))]) := by
  refine Cn.of hl (by decide +kernel) rfl (Nat.le_of_ble_eq_true rfl) (fun M hQ => ?_)
  refine pb_eq (pc' := 0) (lo' := [(0, .ref a), (1, .int x), (2, .int e)]) (rest' := []) (ws' := [(a, .inl (G.2.1, Na, .inl f))]) ?_
  have zl0 : (0 : Int32).toInt = 0 := by decide
  have zl1 : (1 : Int32).toInt = 1 := by decide
  have zl2 : (2 : Int32).toInt = 2 := by decide
  have zl46 : (46 : Int32).toInt = 46 := by decide
  have zl48 : (48 : Int32).toInt = 48 := by decide
  have zl57 : (57 : Int32).toInt = 57 := by decide
  have zl95 : (95 : Int32).toInt = 95 := by decide
  have zl97 : (97 : Int32).toInt = 97 := by decide
  have zl122 : (122 : Int32).toInt = 122 := by decide
  refine pb_iconst (pc := 0) (v := 0) d_Book_isPiece_0 (by decide) ?_
  refine pb_istore_n (pc := 1) (lo' := [(3, .int 0), (0, .ref a), (1, .int x), (2, .int e)]) d_Book_isPiece_1 rfl (by decide) rfl ?_
  refine pb_iload_n (pc := 2) d_Book_isPiece_2 2 rfl rfl ?_
  refine pb_istore (pc := 3) (lo' := [(4, .int x), (3, .int 0), (0, .ref a), (1, .int x), (2, .int e)]) d_Book_isPiece_3 (by decide) rfl ?_
  have hL5_1 : ∀ (N9 : Nat) (k : Int32) (d : Int32), (x.toInt ≤ k.toInt) → (0 ≤ d.toInt) → (d.toInt ≤ k.toInt - x.toInt) → (k.toInt ≤ e.toInt ∨ k.toInt = x.toInt) → (∀ j : Int, x.toInt ≤ j → j < k.toInt → ch_ (gx f j)) → (d.toInt = k.toInt - x.toInt → ∀ j : Int, x.toInt ≤ j → j < k.toInt → gx f j = 46) → ((∀ j : Int, x.toInt ≤ j → j < k.toInt → gx f j = 46) → d.toInt = k.toInt - x.toInt) → ((e.toInt - k.toInt).toNat) < N9 → pb_P l G M i_Book_isPiece 5 [(4, .int k), (3, .int d), (0, .ref a), (1, .int x), (2, .int e)] [] [(a, .inl (G.2.1, Na, .inl f))] 0 0 := by
    intro N9
    induction N9 with
    | zero => intro k d hk hd hd2 hk2 hc hy hn hm9; exact absurd hm9 (Nat.not_lt_zero _)
    | succ N9 ih5 =>
      intro k d hk hd hd2 hk2 hc hy hn hm9
      refine pb_iload (pc := 5) d_Book_isPiece_5 0 rfl ?_
      refine pb_iload_n (pc := 7) d_Book_isPiece_7 4 rfl rfl ?_
      refine pb_icmp_ge (pc := 8) (tgt := 73) d_Book_isPiece_8 (by decide) (fun w2 => ?_) (fun w2 => ?_)
      · have tw2 : e.toInt ≤ k.toInt := (ti_le rfl rfl).mp w2
        refine pb_iload_n (pc := 73) d_Book_isPiece_73 4 rfl rfl ?_
        refine pb_iload_n (pc := 74) d_Book_isPiece_74 3 rfl rfl ?_
        refine pb_icmp_le (pc := 75) (tgt := 94) d_Book_isPiece_75 (by decide) (fun w3 => ?_) (fun w3 => ?_)
        · have tw3 : e.toInt ≤ x.toInt := (ti_le rfl rfl).mp w3
          refine pb_iconst (pc := 94) (v := 0) d_Book_isPiece_94 (by decide) ?_
          exact pb_iret (pc := 95) hQ d_Book_isPiece_95 rfl rfl (0) ⟨rfl, (by (try dsimp only); first | done | (with_reducible assumption) | omega (splitDisjunctions := false) | assumption | omega | decide), (show (0 : Int32).toInt = 1 → pe_ (gx f) x.toInt e.toInt from (by first | exact fun q9 => absurd q9 (by omega) | exact fun _ => pe_y (d := d.toInt) (by omega) (fun j h0 h1 => hc j h0 (by omega)) (fun q9 => by have q8 := hn (fun j h0 h1 => q9 j h0 (by omega)); omega) (by omega))), (show (0 : Int32).toInt = 0 → ¬ pe_ (gx f) x.toInt e.toInt from (by first | exact fun q9 => absurd q9 (by omega) | exact fun _ => pe_n (d := d.toInt) (fun q9 j h0 h1 => hy (by omega) j h0 (by omega)) (by omega) (fun _ => by omega)))⟩ [0] (by decide) rfl rfl (by decide) (by decide)
        · have tw3 : ¬ e.toInt ≤ x.toInt := fun z9 => w3 ((ti_le rfl rfl).mpr z9)
          refine pb_iload_n (pc := 78) d_Book_isPiece_78 1 rfl rfl ?_
          refine pb_iload_n (pc := 79) d_Book_isPiece_79 4 rfl rfl ?_
          refine pb_iload_n (pc := 80) d_Book_isPiece_80 3 rfl rfl ?_
          refine pb_isub (pc := 81) d_Book_isPiece_81 ?_
          refine pb_topi (fun i4 ei4 => ?_)
          try have ti4 : i4.toInt = e.toInt - x.toInt := ti_sub ei4 rfl rfl (by omega) (by omega)
          refine pb_icmp_lt (pc := 82) (tgt := 90) d_Book_isPiece_82 (by decide) (fun w5 => ?_) (fun w5 => ?_)
          · have tw5 : d.toInt < i4.toInt := (ti_lt rfl rfl).mp w5
            refine pb_iconst (pc := 90) (v := 1) d_Book_isPiece_90 (by decide) ?_
            refine pb_goto (pc := 91) (tgt := 95) d_Book_isPiece_91 (by decide) ?_
            exact pb_iret (pc := 95) hQ d_Book_isPiece_95 rfl rfl (1) ⟨rfl, (by (try dsimp only); first | done | (with_reducible assumption) | omega (splitDisjunctions := false) | assumption | omega | decide), (show (1 : Int32).toInt = 1 → pe_ (gx f) x.toInt e.toInt from (by first | exact fun q9 => absurd q9 (by omega) | exact fun _ => pe_y (d := d.toInt) (by omega) (fun j h0 h1 => hc j h0 (by omega)) (fun q9 => by have q8 := hn (fun j h0 h1 => q9 j h0 (by omega)); omega) (by omega))), (show (1 : Int32).toInt = 0 → ¬ pe_ (gx f) x.toInt e.toInt from (by first | exact fun q9 => absurd q9 (by omega) | exact fun _ => pe_n (d := d.toInt) (fun q9 j h0 h1 => hy (by omega) j h0 (by omega)) (by omega) (fun _ => by omega)))⟩ [0] (by decide) rfl rfl (by decide) (by decide)
          · have tw5 : ¬ d.toInt < i4.toInt := fun z9 => w5 ((ti_lt rfl rfl).mpr z9)
            refine pb_iload_n (pc := 85) d_Book_isPiece_85 1 rfl rfl ?_
            refine pb_iconst (pc := 86) (v := 2) d_Book_isPiece_86 (by decide) ?_
            refine pb_icmp_le (pc := 87) (tgt := 94) d_Book_isPiece_87 (by decide) (fun w6 => ?_) (fun w6 => ?_)
            · have tw6 : d.toInt ≤ 2 := (ti_le rfl (by decide)).mp w6
              refine pb_iconst (pc := 94) (v := 0) d_Book_isPiece_94 (by decide) ?_
              exact pb_iret (pc := 95) hQ d_Book_isPiece_95 rfl rfl (0) ⟨rfl, (by (try dsimp only); first | done | (with_reducible assumption) | omega (splitDisjunctions := false) | assumption | omega | decide), (show (0 : Int32).toInt = 1 → pe_ (gx f) x.toInt e.toInt from (by first | exact fun q9 => absurd q9 (by omega) | exact fun _ => pe_y (d := d.toInt) (by omega) (fun j h0 h1 => hc j h0 (by omega)) (fun q9 => by have q8 := hn (fun j h0 h1 => q9 j h0 (by omega)); omega) (by omega))), (show (0 : Int32).toInt = 0 → ¬ pe_ (gx f) x.toInt e.toInt from (by first | exact fun q9 => absurd q9 (by omega) | exact fun _ => pe_n (d := d.toInt) (fun q9 j h0 h1 => hy (by omega) j h0 (by omega)) (by omega) (fun _ => by omega)))⟩ [0] (by decide) rfl rfl (by decide) (by decide)
            · have tw6 : ¬ d.toInt ≤ 2 := fun z9 => w6 ((ti_le rfl (by decide)).mpr z9)
              refine pb_iconst (pc := 90) (v := 1) d_Book_isPiece_90 (by decide) ?_
              refine pb_goto (pc := 91) (tgt := 95) d_Book_isPiece_91 (by decide) ?_
              exact pb_iret (pc := 95) hQ d_Book_isPiece_95 rfl rfl (1) ⟨rfl, (by (try dsimp only); first | done | (with_reducible assumption) | omega (splitDisjunctions := false) | assumption | omega | decide), (show (1 : Int32).toInt = 1 → pe_ (gx f) x.toInt e.toInt from (by first | exact fun q9 => absurd q9 (by omega) | exact fun _ => pe_y (d := d.toInt) (by omega) (fun j h0 h1 => hc j h0 (by omega)) (fun q9 => by have q8 := hn (fun j h0 h1 => q9 j h0 (by omega)); omega) (by omega))), (show (1 : Int32).toInt = 0 → ¬ pe_ (gx f) x.toInt e.toInt from (by first | exact fun q9 => absurd q9 (by omega) | exact fun _ => pe_n (d := d.toInt) (fun q9 j h0 h1 => hy (by omega) j h0 (by omega)) (by omega) (fun _ => by omega)))⟩ [0] (by decide) rfl rfl (by decide) (by decide)
      · have tw2 : ¬ e.toInt ≤ k.toInt := fun z9 => w2 ((ti_le rfl rfl).mpr z9)
        refine pb_aload_n (pc := 11) d_Book_isPiece_11 2 rfl rfl ?_
        refine pb_iload (pc := 12) d_Book_isPiece_12 0 rfl ?_
        refine pb_bald (pc := 14) d_Book_isPiece_14 0 rfl (vp_in_iff.mpr (by constructor <;> omega)) ?_
        refine pb_topi (fun i7 ei7 => ?_)
        have xi7 : i7 = gr f (k.toInt) := gr_ld ei7 (by omega)
        have yi7 : i7.toInt = gx f (k.toInt) := congrArg Int32.toInt xi7
        have ti7 : -128 ≤ i7.toInt ∧ i7.toInt ≤ 127 := ti_fit (F_f _) ei7
        refine pb_istore (pc := 15) (lo' := [(5, .int i7), (4, .int k), (3, .int d), (0, .ref a), (1, .int x), (2, .int e)]) d_Book_isPiece_15 (by decide) rfl ?_
        refine pb_iload (pc := 17) d_Book_isPiece_17 0 rfl ?_
        refine pb_bipush (pc := 19) (v := 46) d_Book_isPiece_19 (by decide) ?_
        refine pb_icmp_ne (pc := 21) (tgt := 30) d_Book_isPiece_21 (by decide) (fun w8 => ?_) (fun w8 => ?_)
        · have tw8 : ¬ i7.toInt = 46 := fun z9 => w8 ((ti_eq rfl (by decide)).mpr z9)
          refine pb_iload (pc := 30) d_Book_isPiece_30 0 rfl ?_
          refine pb_bipush (pc := 32) (v := 97) d_Book_isPiece_32 (by decide) ?_
          refine pb_icmp_lt (pc := 34) (tgt := 44) d_Book_isPiece_34 (by decide) (fun w9 => ?_) (fun w9 => ?_)
          · have tw9 : i7.toInt < 97 := (ti_lt rfl (by decide)).mp w9
            refine pb_iload (pc := 44) d_Book_isPiece_44 0 rfl ?_
            refine pb_bipush (pc := 46) (v := 48) d_Book_isPiece_46 (by decide) ?_
            refine pb_icmp_lt (pc := 48) (tgt := 58) d_Book_isPiece_48 (by decide) (fun w10 => ?_) (fun w10 => ?_)
            · have tw10 : i7.toInt < 48 := (ti_lt rfl (by decide)).mp w10
              refine pb_iload (pc := 58) d_Book_isPiece_58 0 rfl ?_
              refine pb_bipush (pc := 60) (v := 95) d_Book_isPiece_60 (by decide) ?_
              refine pb_icmp_eq (pc := 62) (tgt := 67) d_Book_isPiece_62 (by decide) (fun w11 => ?_) (fun w11 => ?_)
              · have tw11 : i7.toInt = 95 := (ti_eq rfl (by decide)).mp w11
                refine pb_iincN (pc := 67) (c := 1) d_Book_isPiece_67 1 rfl (by decide) (by decide) (fun i12 ei12 => ?_)
                have ti12 : i12.toInt = k.toInt + 1 := ti_add ei12 rfl (by decide) (by omega) (by omega)
                refine pb_eq (pc' := 70) (lo' := [(4, .int i12), (5, .int i7), (3, .int d), (0, .ref a), (1, .int x), (2, .int e)]) (rest' := []) (ws' := [(a, .inl (G.2.1, Na, .inl f))]) ?_
                refine pb_goto (pc := 70) (tgt := 5) d_Book_isPiece_70 (by decide) ?_
                refine pb_re (ws' := [(a, .inl (G.2.1, Na, .inl f))]) (lo' := [(4, .int i12), (3, .int d), (0, .ref a), (1, .int x), (2, .int e)]) [0] [0, 2, 3, 4, 5] (by decide) rfl rfl rfl ?_
                exact ih5 i12 d (by first | (with_reducible assumption) | omega (splitDisjunctions := false) | assumption | omega | decide) (by first | (with_reducible assumption) | omega (splitDisjunctions := false) | assumption | omega | decide) (by first | (with_reducible assumption) | omega (splitDisjunctions := false) | assumption | omega | decide) (by first | (with_reducible assumption) | omega (splitDisjunctions := false) | assumption | omega | decide) (lq_st hc (by omega) (by unfold ch_; omega)) (dt_y hy (by omega) (by omega) (by omega)) (dt_n hn (by omega) (by omega) (by omega)) (by omega)
              · have tw11 : ¬ i7.toInt = 95 := fun z9 => w11 ((ti_eq rfl (by decide)).mpr z9)
                refine pb_iconst (pc := 65) (v := 0) d_Book_isPiece_65 (by decide) ?_
                exact pb_iret (pc := 66) hQ d_Book_isPiece_66 rfl rfl (0) ⟨rfl, (by (try dsimp only); first | done | (with_reducible assumption) | omega (splitDisjunctions := false) | assumption | omega | decide), (show (0 : Int32).toInt = 1 → pe_ (gx f) x.toInt e.toInt from (fun q9 => absurd q9 (by omega))), (show (0 : Int32).toInt = 0 → ¬ pe_ (gx f) x.toInt e.toInt from (fun _ => pe_c hk (by omega) (by unfold ch_; omega)))⟩ [0] (by decide) rfl rfl (by decide) (by decide)
            · have tw10 : ¬ i7.toInt < 48 := fun z9 => w10 ((ti_lt rfl (by decide)).mpr z9)
              refine pb_iload (pc := 51) d_Book_isPiece_51 0 rfl ?_
              refine pb_bipush (pc := 53) (v := 57) d_Book_isPiece_53 (by decide) ?_
              refine pb_icmp_le (pc := 55) (tgt := 67) d_Book_isPiece_55 (by decide) (fun w13 => ?_) (fun w13 => ?_)
              · have tw13 : i7.toInt ≤ 57 := (ti_le rfl (by decide)).mp w13
                refine pb_iincN (pc := 67) (c := 1) d_Book_isPiece_67 1 rfl (by decide) (by decide) (fun i14 ei14 => ?_)
                have ti14 : i14.toInt = k.toInt + 1 := ti_add ei14 rfl (by decide) (by omega) (by omega)
                refine pb_eq (pc' := 70) (lo' := [(4, .int i14), (5, .int i7), (3, .int d), (0, .ref a), (1, .int x), (2, .int e)]) (rest' := []) (ws' := [(a, .inl (G.2.1, Na, .inl f))]) ?_
                refine pb_goto (pc := 70) (tgt := 5) d_Book_isPiece_70 (by decide) ?_
                refine pb_re (ws' := [(a, .inl (G.2.1, Na, .inl f))]) (lo' := [(4, .int i14), (3, .int d), (0, .ref a), (1, .int x), (2, .int e)]) [0] [0, 2, 3, 4, 5] (by decide) rfl rfl rfl ?_
                exact ih5 i14 d (by first | (with_reducible assumption) | omega (splitDisjunctions := false) | assumption | omega | decide) (by first | (with_reducible assumption) | omega (splitDisjunctions := false) | assumption | omega | decide) (by first | (with_reducible assumption) | omega (splitDisjunctions := false) | assumption | omega | decide) (by first | (with_reducible assumption) | omega (splitDisjunctions := false) | assumption | omega | decide) (lq_st hc (by omega) (by unfold ch_; omega)) (dt_y hy (by omega) (by omega) (by omega)) (dt_n hn (by omega) (by omega) (by omega)) (by (exact omg_7c8a06b1f5 hm9 tw2 ti14))
              · have tw13 : ¬ i7.toInt ≤ 57 := fun z9 => w13 ((ti_le rfl (by decide)).mpr z9)
                refine pb_iload (pc := 58) d_Book_isPiece_58 0 rfl ?_
                refine pb_bipush (pc := 60) (v := 95) d_Book_isPiece_60 (by decide) ?_
                refine pb_icmp_eq (pc := 62) (tgt := 67) d_Book_isPiece_62 (by decide) (fun w15 => ?_) (fun w15 => ?_)
                · have tw15 : i7.toInt = 95 := (ti_eq rfl (by decide)).mp w15
                  refine pb_iincN (pc := 67) (c := 1) d_Book_isPiece_67 1 rfl (by decide) (by decide) (fun i16 ei16 => ?_)
                  have ti16 : i16.toInt = k.toInt + 1 := ti_add ei16 rfl (by decide) (by omega) (by omega)
                  refine pb_eq (pc' := 70) (lo' := [(4, .int i16), (5, .int i7), (3, .int d), (0, .ref a), (1, .int x), (2, .int e)]) (rest' := []) (ws' := [(a, .inl (G.2.1, Na, .inl f))]) ?_
                  refine pb_goto (pc := 70) (tgt := 5) d_Book_isPiece_70 (by decide) ?_
                  refine pb_re (ws' := [(a, .inl (G.2.1, Na, .inl f))]) (lo' := [(4, .int i16), (3, .int d), (0, .ref a), (1, .int x), (2, .int e)]) [0] [0, 2, 3, 4, 5] (by decide) rfl rfl rfl ?_
                  exact ih5 i16 d (by first | (with_reducible assumption) | omega (splitDisjunctions := false) | assumption | omega | decide) (by first | (with_reducible assumption) | omega (splitDisjunctions := false) | assumption | omega | decide) (by first | (with_reducible assumption) | omega (splitDisjunctions := false) | assumption | omega | decide) (by first | (with_reducible assumption) | omega (splitDisjunctions := false) | assumption | omega | decide) (lq_st hc (by omega) (by unfold ch_; omega)) (dt_y hy (by omega) (by omega) (by omega)) (dt_n hn (by omega) (by omega) (by omega)) (by (exact omg_7c8a06b1f5 hm9 tw2 ti16))
                · have tw15 : ¬ i7.toInt = 95 := fun z9 => w15 ((ti_eq rfl (by decide)).mpr z9)
                  refine pb_iconst (pc := 65) (v := 0) d_Book_isPiece_65 (by decide) ?_
                  exact pb_iret (pc := 66) hQ d_Book_isPiece_66 rfl rfl (0) ⟨rfl, (by (try dsimp only); first | done | (with_reducible assumption) | omega (splitDisjunctions := false) | assumption | omega | decide), (show (0 : Int32).toInt = 1 → pe_ (gx f) x.toInt e.toInt from (fun q9 => absurd q9 (by omega))), (show (0 : Int32).toInt = 0 → ¬ pe_ (gx f) x.toInt e.toInt from (fun _ => pe_c hk (by omega) (by unfold ch_; omega)))⟩ [0] (by decide) rfl rfl (by decide) (by decide)
          · have tw9 : ¬ i7.toInt < 97 := fun z9 => w9 ((ti_lt rfl (by decide)).mpr z9)
            refine pb_iload (pc := 37) d_Book_isPiece_37 0 rfl ?_
            refine pb_bipush (pc := 39) (v := 122) d_Book_isPiece_39 (by decide) ?_
            refine pb_icmp_le (pc := 41) (tgt := 67) d_Book_isPiece_41 (by decide) (fun w17 => ?_) (fun w17 => ?_)
            · have tw17 : i7.toInt ≤ 122 := (ti_le rfl (by decide)).mp w17
              refine pb_iincN (pc := 67) (c := 1) d_Book_isPiece_67 1 rfl (by decide) (by decide) (fun i18 ei18 => ?_)
              have ti18 : i18.toInt = k.toInt + 1 := ti_add ei18 rfl (by decide) (by omega) (by omega)
              refine pb_eq (pc' := 70) (lo' := [(4, .int i18), (5, .int i7), (3, .int d), (0, .ref a), (1, .int x), (2, .int e)]) (rest' := []) (ws' := [(a, .inl (G.2.1, Na, .inl f))]) ?_
              refine pb_goto (pc := 70) (tgt := 5) d_Book_isPiece_70 (by decide) ?_
              refine pb_re (ws' := [(a, .inl (G.2.1, Na, .inl f))]) (lo' := [(4, .int i18), (3, .int d), (0, .ref a), (1, .int x), (2, .int e)]) [0] [0, 2, 3, 4, 5] (by decide) rfl rfl rfl ?_
              exact ih5 i18 d (by first | (with_reducible assumption) | omega (splitDisjunctions := false) | assumption | omega | decide) (by first | (with_reducible assumption) | omega (splitDisjunctions := false) | assumption | omega | decide) (by first | (with_reducible assumption) | omega (splitDisjunctions := false) | assumption | omega | decide) (by first | (with_reducible assumption) | omega (splitDisjunctions := false) | assumption | omega | decide) (lq_st hc (by omega) (by unfold ch_; omega)) (dt_y hy (by omega) (by omega) (by omega)) (dt_n hn (by omega) (by omega) (by omega)) (by (exact omg_7c8a06b1f5 hm9 tw2 ti18))
            · have tw17 : ¬ i7.toInt ≤ 122 := fun z9 => w17 ((ti_le rfl (by decide)).mpr z9)
              refine pb_iload (pc := 44) d_Book_isPiece_44 0 rfl ?_
              refine pb_bipush (pc := 46) (v := 48) d_Book_isPiece_46 (by decide) ?_
              refine pb_icmp_lt (pc := 48) (tgt := 58) d_Book_isPiece_48 (by decide) (fun w19 => ?_) (fun w19 => ?_)
              · have tw19 : i7.toInt < 48 := (ti_lt rfl (by decide)).mp w19
                refine pb_iload (pc := 58) d_Book_isPiece_58 0 rfl ?_
                refine pb_bipush (pc := 60) (v := 95) d_Book_isPiece_60 (by decide) ?_
                refine pb_icmp_eq (pc := 62) (tgt := 67) d_Book_isPiece_62 (by decide) (fun w20 => ?_) (fun w20 => ?_)
                · have tw20 : i7.toInt = 95 := (ti_eq rfl (by decide)).mp w20
                  refine pb_iincN (pc := 67) (c := 1) d_Book_isPiece_67 1 rfl (by decide) (by decide) (fun i21 ei21 => ?_)
                  have ti21 : i21.toInt = k.toInt + 1 := ti_add ei21 rfl (by decide) (by omega) (by omega)
                  refine pb_eq (pc' := 70) (lo' := [(4, .int i21), (5, .int i7), (3, .int d), (0, .ref a), (1, .int x), (2, .int e)]) (rest' := []) (ws' := [(a, .inl (G.2.1, Na, .inl f))]) ?_
                  refine pb_goto (pc := 70) (tgt := 5) d_Book_isPiece_70 (by decide) ?_
                  refine pb_re (ws' := [(a, .inl (G.2.1, Na, .inl f))]) (lo' := [(4, .int i21), (3, .int d), (0, .ref a), (1, .int x), (2, .int e)]) [0] [0, 2, 3, 4, 5] (by decide) rfl rfl rfl ?_
                  exact ih5 i21 d (by first | (with_reducible assumption) | omega (splitDisjunctions := false) | assumption | omega | decide) (by first | (with_reducible assumption) | omega (splitDisjunctions := false) | assumption | omega | decide) (by first | (with_reducible assumption) | omega (splitDisjunctions := false) | assumption | omega | decide) (by first | (with_reducible assumption) | omega (splitDisjunctions := false) | assumption | omega | decide) (lq_st hc (by omega) (by unfold ch_; omega)) (dt_y hy (by omega) (by omega) (by omega)) (dt_n hn (by omega) (by omega) (by omega)) (by omega)
                · have tw20 : ¬ i7.toInt = 95 := fun z9 => w20 ((ti_eq rfl (by decide)).mpr z9)
                  refine pb_iconst (pc := 65) (v := 0) d_Book_isPiece_65 (by decide) ?_
                  exact pb_iret (pc := 66) hQ d_Book_isPiece_66 rfl rfl (0) ⟨rfl, (by (try dsimp only); first | done | (with_reducible assumption) | omega (splitDisjunctions := false) | assumption | omega | decide), (show (0 : Int32).toInt = 1 → pe_ (gx f) x.toInt e.toInt from (fun q9 => absurd q9 (by omega))), (show (0 : Int32).toInt = 0 → ¬ pe_ (gx f) x.toInt e.toInt from (fun _ => pe_c hk (by omega) (by unfold ch_; omega)))⟩ [0] (by decide) rfl rfl (by decide) (by decide)
              · have tw19 : ¬ i7.toInt < 48 := fun z9 => w19 ((ti_lt rfl (by decide)).mpr z9)
                refine pb_iload (pc := 51) d_Book_isPiece_51 0 rfl ?_
                refine pb_bipush (pc := 53) (v := 57) d_Book_isPiece_53 (by decide) ?_
                refine pb_icmp_le (pc := 55) (tgt := 67) d_Book_isPiece_55 (by decide) (fun w22 => ?_) (fun w22 => ?_)
                · have tw22 : i7.toInt ≤ 57 := (ti_le rfl (by decide)).mp w22
                  refine pb_iincN (pc := 67) (c := 1) d_Book_isPiece_67 1 rfl (by decide) (by decide) (fun i23 ei23 => ?_)
                  have ti23 : i23.toInt = k.toInt + 1 := ti_add ei23 rfl (by decide) (by omega) (by omega)
                  refine pb_eq (pc' := 70) (lo' := [(4, .int i23), (5, .int i7), (3, .int d), (0, .ref a), (1, .int x), (2, .int e)]) (rest' := []) (ws' := [(a, .inl (G.2.1, Na, .inl f))]) ?_
                  refine pb_goto (pc := 70) (tgt := 5) d_Book_isPiece_70 (by decide) ?_
                  refine pb_re (ws' := [(a, .inl (G.2.1, Na, .inl f))]) (lo' := [(4, .int i23), (3, .int d), (0, .ref a), (1, .int x), (2, .int e)]) [0] [0, 2, 3, 4, 5] (by decide) rfl rfl rfl ?_
                  exact ih5 i23 d (by first | (with_reducible assumption) | omega (splitDisjunctions := false) | assumption | omega | decide) (by first | (with_reducible assumption) | omega (splitDisjunctions := false) | assumption | omega | decide) (by first | (with_reducible assumption) | omega (splitDisjunctions := false) | assumption | omega | decide) (by first | (with_reducible assumption) | omega (splitDisjunctions := false) | assumption | omega | decide) (lq_st hc (by omega) (by unfold ch_; omega)) (dt_y hy (by omega) (by omega) (by omega)) (dt_n hn (by omega) (by omega) (by omega)) (by omega)
                · have tw22 : ¬ i7.toInt ≤ 57 := fun z9 => w22 ((ti_le rfl (by decide)).mpr z9)
                  refine pb_iload (pc := 58) d_Book_isPiece_58 0 rfl ?_
                  refine pb_bipush (pc := 60) (v := 95) d_Book_isPiece_60 (by decide) ?_
                  refine pb_icmp_eq (pc := 62) (tgt := 67) d_Book_isPiece_62 (by decide) (fun w24 => ?_) (fun w24 => ?_)
                  · have tw24 : i7.toInt = 95 := (ti_eq rfl (by decide)).mp w24
                    refine pb_iincN (pc := 67) (c := 1) d_Book_isPiece_67 1 rfl (by decide) (by decide) (fun i25 ei25 => ?_)
                    have ti25 : i25.toInt = k.toInt + 1 := ti_add ei25 rfl (by decide) (by omega) (by omega)
                    refine pb_eq (pc' := 70) (lo' := [(4, .int i25), (5, .int i7), (3, .int d), (0, .ref a), (1, .int x), (2, .int e)]) (rest' := []) (ws' := [(a, .inl (G.2.1, Na, .inl f))]) ?_
                    refine pb_goto (pc := 70) (tgt := 5) d_Book_isPiece_70 (by decide) ?_
                    refine pb_re (ws' := [(a, .inl (G.2.1, Na, .inl f))]) (lo' := [(4, .int i25), (3, .int d), (0, .ref a), (1, .int x), (2, .int e)]) [0] [0, 2, 3, 4, 5] (by decide) rfl rfl rfl ?_
                    exact ih5 i25 d (by first | (with_reducible assumption) | omega (splitDisjunctions := false) | assumption | omega | decide) (by first | (with_reducible assumption) | omega (splitDisjunctions := false) | assumption | omega | decide) (by first | (with_reducible assumption) | omega (splitDisjunctions := false) | assumption | omega | decide) (by first | (with_reducible assumption) | omega (splitDisjunctions := false) | assumption | omega | decide) (lq_st hc (by omega) (by unfold ch_; omega)) (dt_y hy (by omega) (by omega) (by omega)) (dt_n hn (by omega) (by omega) (by omega)) (by omega)
                  · have tw24 : ¬ i7.toInt = 95 := fun z9 => w24 ((ti_eq rfl (by decide)).mpr z9)
                    refine pb_iconst (pc := 65) (v := 0) d_Book_isPiece_65 (by decide) ?_
                    exact pb_iret (pc := 66) hQ d_Book_isPiece_66 rfl rfl (0) ⟨rfl, (by (try dsimp only); first | done | (with_reducible assumption) | omega (splitDisjunctions := false) | assumption | omega | decide), (show (0 : Int32).toInt = 1 → pe_ (gx f) x.toInt e.toInt from (fun q9 => absurd q9 (by omega))), (show (0 : Int32).toInt = 0 → ¬ pe_ (gx f) x.toInt e.toInt from (fun _ => pe_c hk (by omega) (by unfold ch_; omega)))⟩ [0] (by decide) rfl rfl (by decide) (by decide)
        · have tw8 : i7.toInt = 46 := (ti_eq rfl (by decide)).mp w8
          refine pb_iincN (pc := 24) (c := 1) d_Book_isPiece_24 2 rfl (by decide) (by decide) (fun i26 ei26 => ?_)
          have ti26 : i26.toInt = d.toInt + 1 := ti_add ei26 rfl (by decide) (by omega) (by omega)
          refine pb_eq (pc' := 27) (lo' := [(3, .int i26), (5, .int i7), (4, .int k), (0, .ref a), (1, .int x), (2, .int e)]) (rest' := []) (ws' := [(a, .inl (G.2.1, Na, .inl f))]) ?_
          refine pb_goto (pc := 27) (tgt := 67) d_Book_isPiece_27 (by decide) ?_
          refine pb_iincN (pc := 67) (c := 1) d_Book_isPiece_67 2 rfl (by decide) (by decide) (fun i27 ei27 => ?_)
          have ti27 : i27.toInt = k.toInt + 1 := ti_add ei27 rfl (by decide) (by omega) (by omega)
          refine pb_eq (pc' := 70) (lo' := [(4, .int i27), (3, .int i26), (5, .int i7), (0, .ref a), (1, .int x), (2, .int e)]) (rest' := []) (ws' := [(a, .inl (G.2.1, Na, .inl f))]) ?_
          refine pb_goto (pc := 70) (tgt := 5) d_Book_isPiece_70 (by decide) ?_
          refine pb_re (ws' := [(a, .inl (G.2.1, Na, .inl f))]) (lo' := [(4, .int i27), (3, .int i26), (0, .ref a), (1, .int x), (2, .int e)]) [0] [0, 1, 3, 4, 5] (by decide) rfl rfl rfl ?_
          exact ih5 i27 i26 (by first | (with_reducible assumption) | omega (splitDisjunctions := false) | assumption | omega | decide) (by first | (with_reducible assumption) | omega (splitDisjunctions := false) | assumption | omega | decide) (by first | (with_reducible assumption) | omega (splitDisjunctions := false) | assumption | omega | decide) (by first | (with_reducible assumption) | omega (splitDisjunctions := false) | assumption | omega | decide) (lq_st hc (by omega) (by unfold ch_; omega)) (dt_y hy (by omega) (by omega) (by omega)) (dt_n hn (by omega) (by omega) (by omega)) (by (exact omg_7c8a06b1f5 hm9 tw2 ti27))
  exact hL5_1 _ x 0 (by first | (with_reducible assumption) | omega (splitDisjunctions := false) | assumption | omega | decide) (by first | (with_reducible assumption) | omega (splitDisjunctions := false) | assumption | omega | decide) (by first | (with_reducible assumption) | omega (splitDisjunctions := false) | assumption | omega | decide) (by first | (with_reducible assumption) | omega (splitDisjunctions := false) | assumption | omega | decide) (fun j h0 h1 => absurd h1 (by omega)) (fun _ j h0 h1 => absurd h1 (by omega)) (fun _ => by omega) (Nat.lt_succ_self _)

theorem d_Book_isName_0 : decode prog_1_method_26_code 0 = .ok (.iload_n 2, 1) := by decide +kernel
theorem d_Book_isName_1 : decode prog_1_method_26_code 1 = .ok (.iconst 1, 1) := by decide +kernel
theorem d_Book_isName_2 : decode prog_1_method_26_code 2 = .ok (.if_icmp .lt 9, 3) := by decide +kernel
theorem d_Book_isName_11 : decode prog_1_method_26_code 11 = .ok (.iconst 0, 1) := by decide +kernel
theorem d_Book_isName_12 : decode prog_1_method_26_code 12 = .ok (.ireturn, 1) := by decide +kernel
theorem d_Book_isName_5 : decode prog_1_method_26_code 5 = .ok (.iload_n 2, 1) := by decide +kernel
theorem d_Book_isName_6 : decode prog_1_method_26_code 6 = .ok (.bipush 24, 2) := by decide +kernel
theorem d_Book_isName_8 : decode prog_1_method_26_code 8 = .ok (.if_icmp .le 5, 3) := by decide +kernel
theorem d_Book_isName_13 : decode prog_1_method_26_code 13 = .ok (.iload_n 1, 1) := by decide +kernel
theorem d_Book_isName_14 : decode prog_1_method_26_code 14 = .ok (.iload_n 2, 1) := by decide +kernel
theorem d_Book_isName_15 : decode prog_1_method_26_code 15 = .ok (.iadd, 1) := by decide +kernel
theorem d_Book_isName_16 : decode prog_1_method_26_code 16 = .ok (.istore_n 3, 1) := by decide +kernel
theorem d_Book_isName_17 : decode prog_1_method_26_code 17 = .ok (.iload_n 1, 1) := by decide +kernel
theorem d_Book_isName_18 : decode prog_1_method_26_code 18 = .ok (.istore 4, 2) := by decide +kernel
theorem d_Book_isName_20 : decode prog_1_method_26_code 20 = .ok (.iload_n 1, 1) := by decide +kernel
theorem d_Book_isName_21 : decode prog_1_method_26_code 21 = .ok (.istore 5, 2) := by decide +kernel
theorem d_Book_isName_23 : decode prog_1_method_26_code 23 = .ok (.iload 5, 2) := by decide +kernel
theorem d_Book_isName_25 : decode prog_1_method_26_code 25 = .ok (.iload_n 3, 1) := by decide +kernel
theorem d_Book_isName_26 : decode prog_1_method_26_code 26 = .ok (.if_icmp .ge 37, 3) := by decide +kernel
theorem d_Book_isName_63 : decode prog_1_method_26_code 63 = .ok (.aload_n 0, 1) := by decide +kernel
theorem d_Book_isName_64 : decode prog_1_method_26_code 64 = .ok (.iload 4, 2) := by decide +kernel
theorem d_Book_isName_66 : decode prog_1_method_26_code 66 = .ok (.iload_n 3, 1) := by decide +kernel
theorem d_Book_isName_67 : decode prog_1_method_26_code 67 = .ok (.invokestatic 262, 3) := by decide +kernel
theorem k_623 : (Jvm.Cond.methodLink "PackageBook" (262 : Nat) ({ cls := "PackageBook", name := "isPiece", desc := "([BII)Z" } : Jvm.MethodName)) ∈ uW := uW_c2 26 rfl (by decide +kernel)
theorem k_118 : (Jvm.Cond.initialized "PackageBook") ∈ uW := uW_c0 1 rfl (by decide +kernel)
theorem k_625 : (Jvm.Cond.code ({ cls := "PackageBook", name := "isPiece", desc := "([BII)Z" } : Jvm.MethodName) prog_1_method_27_code (6 : Nat) (Option.some Jvm.ClassFile.FieldType.boolean)) ∈ uW := uW_c2 28 rfl (by decide +kernel)
theorem k_624 : (Jvm.Cond.static ({ cls := "PackageBook", name := "isPiece", desc := "([BII)Z" } : Jvm.MethodName)) ∈ uW := uW_c2 27 rfl (by decide +kernel)
theorem hy_Book_isPiece : (y_Book_isPiece).cls ≠ "java/lang/invoke/MethodHandle" ∧ (y_Book_isPiece).cls ≠ "java/lang/invoke/VarHandle" ∧ (parseMethodDescriptor (y_Book_isPiece).desc).map (fun d => d.parameters.length) = some 3 := by decide +kernel
theorem d_Book_isName_70 : decode prog_1_method_26_code 70 = .ok (.ireturn, 1) := by decide +kernel
theorem d_Book_isName_29 : decode prog_1_method_26_code 29 = .ok (.aload_n 0, 1) := by decide +kernel
theorem d_Book_isName_30 : decode prog_1_method_26_code 30 = .ok (.iload 5, 2) := by decide +kernel
theorem d_Book_isName_32 : decode prog_1_method_26_code 32 = .ok (.baload, 1) := by decide +kernel
theorem d_Book_isName_33 : decode prog_1_method_26_code 33 = .ok (.bipush 47, 2) := by decide +kernel
theorem d_Book_isName_35 : decode prog_1_method_26_code 35 = .ok (.if_icmp .ne 22, 3) := by decide +kernel
theorem d_Book_isName_57 : decode prog_1_method_26_code 57 = .ok (.iinc 5 1, 3) := by decide +kernel
theorem d_Book_isName_60 : decode prog_1_method_26_code 60 = .ok (.goto (-37), 3) := by decide +kernel
theorem d_Book_isName_38 : decode prog_1_method_26_code 38 = .ok (.aload_n 0, 1) := by decide +kernel
theorem d_Book_isName_39 : decode prog_1_method_26_code 39 = .ok (.iload 4, 2) := by decide +kernel
theorem d_Book_isName_41 : decode prog_1_method_26_code 41 = .ok (.iload 5, 2) := by decide +kernel
theorem d_Book_isName_43 : decode prog_1_method_26_code 43 = .ok (.invokestatic 262, 3) := by decide +kernel
theorem d_Book_isName_46 : decode prog_1_method_26_code 46 = .ok (.ifCond .ne 5, 3) := by decide +kernel
theorem d_Book_isName_51 : decode prog_1_method_26_code 51 = .ok (.iload 5, 2) := by decide +kernel
theorem d_Book_isName_53 : decode prog_1_method_26_code 53 = .ok (.iconst 1, 1) := by decide +kernel
theorem d_Book_isName_54 : decode prog_1_method_26_code 54 = .ok (.iadd, 1) := by decide +kernel
theorem d_Book_isName_55 : decode prog_1_method_26_code 55 = .ok (.istore 4, 2) := by decide +kernel
theorem d_Book_isName_49 : decode prog_1_method_26_code 49 = .ok (.iconst 0, 1) := by decide +kernel
theorem d_Book_isName_50 : decode prog_1_method_26_code 50 = .ok (.ireturn, 1) := by decide +kernel
abbrev y_Book_isName : MethodName := ⟨"PackageBook", "isName", "([BII)Z"⟩
abbrev i_Book_isName : pb_I := (y_Book_isName, prog_1_method_26_code, 6, (some Jvm.ClassFile.FieldType.boolean), [], { frames := 1, cells := 0, slots := 0, locals := 25 })
set_option maxRecDepth 100000 in
set_option maxHeartbeats 4000000 in
theorem g_isName {l : Launch} (hl : l.stackTraces = false) (G : pb_G) (a : Nat) (Na : Nat) (f : Nat → Int32) (x : Int32) (n : Int32) (h0 : 0 ≤ x.toInt) (h1 : 1 ≤ n.toInt → n.toInt ≤ 24 → x.toInt + n.toInt ≤ Na) (h2 : Na ≤ 1000000) (h3 : x.toInt ≤ 1000000) (F_f : sb_Fit f) : Cn l G i_Book_isName [.ref a, .int x, .int n] [(a, .inl (G.2.1, Na, .inl f))] (S := Int32) (fun rv_ u => rv_ = some (.int u) ∧ (u.toInt = 0 ∨ u.toInt = 1) ∧ (u.toInt = 1 → 1 ≤ n.toInt ∧ n.toInt ≤ 24) ∧ (u.toInt = 1 → iA_ (gx f) x.toInt n.toInt) ∧ (u.toInt = 0 → ¬ iA_ (gx f) x.toInt n.toInt)) (fun u => [(a, .inl (G.2.1, Na, .inl f))]) := by
  refine Cn.of hl (by decide +kernel) rfl (Nat.le_of_ble_eq_true rfl) (fun M hQ => ?_)
  refine pb_eq (pc' := 0) (lo' := [(0, .ref a), (1, .int x), (2, .int n)]) (rest' := []) (ws' := [(a, .inl (G.2.1, Na, .inl f))]) ?_
  have zl0 : (0 : Int32).toInt = 0 := by decide
  have zl1 : (1 : Int32).toInt = 1 := by decide
  have zl24 : (24 : Int32).toInt = 24 := by decide
  have zl47 : (47 : Int32).toInt = 47 := by decide
  refine pb_iload_n (pc := 0) d_Book_isName_0 2 rfl rfl ?_
  refine pb_iconst (pc := 1) (v := 1) d_Book_isName_1 (by decide) ?_
  refine pb_icmp_lt (pc := 2) (tgt := 11) d_Book_isName_2 (by decide) (fun w1 => ?_) (fun w1 => ?_)
  · have tw1 : n.toInt < 1 := (ti_lt rfl (by decide)).mp w1
    refine pb_iconst (pc := 11) (v := 0) d_Book_isName_11 (by decide) ?_
    exact pb_iret (pc := 12) hQ d_Book_isName_12 rfl rfl (0) ⟨rfl, (by (try dsimp only); first | done | (with_reducible assumption) | omega (splitDisjunctions := false) | assumption | omega | decide), (by (try dsimp only); first | done | (with_reducible assumption) | omega (splitDisjunctions := false) | assumption | omega | decide), (show (0 : Int32).toInt = 1 → iA_ (gx f) x.toInt n.toInt from (fun q9 => absurd q9 (by omega))), (show (0 : Int32).toInt = 0 → ¬ iA_ (gx f) x.toInt n.toInt from (fun _ => iA_out (by omega)))⟩ [0] (by decide) rfl rfl (by decide) (by decide)
  · have tw1 : ¬ n.toInt < 1 := fun z9 => w1 ((ti_lt rfl (by decide)).mpr z9)
    refine pb_iload_n (pc := 5) d_Book_isName_5 2 rfl rfl ?_
    refine pb_bipush (pc := 6) (v := 24) d_Book_isName_6 (by decide) ?_
    refine pb_icmp_le (pc := 8) (tgt := 13) d_Book_isName_8 (by decide) (fun w2 => ?_) (fun w2 => ?_)
    · have tw2 : n.toInt ≤ 24 := (ti_le rfl (by decide)).mp w2
      refine pb_iload_n (pc := 13) d_Book_isName_13 1 rfl rfl ?_
      refine pb_iload_n (pc := 14) d_Book_isName_14 2 rfl rfl ?_
      refine pb_iadd (pc := 15) d_Book_isName_15 ?_
      refine pb_topi (fun i3 ei3 => ?_)
      try have ti3 : i3.toInt = x.toInt + n.toInt := ti_add ei3 rfl rfl (by omega) (by omega)
      refine pb_istore_n (pc := 16) (lo' := [(3, .int i3), (0, .ref a), (1, .int x), (2, .int n)]) d_Book_isName_16 rfl (by decide) rfl ?_
      refine pb_iload_n (pc := 17) d_Book_isName_17 2 rfl rfl ?_
      refine pb_istore (pc := 18) (lo' := [(4, .int x), (3, .int i3), (0, .ref a), (1, .int x), (2, .int n)]) d_Book_isName_18 (by decide) rfl ?_
      refine pb_iload_n (pc := 20) d_Book_isName_20 3 rfl rfl ?_
      refine pb_istore (pc := 21) (lo' := [(5, .int x), (4, .int x), (3, .int i3), (0, .ref a), (1, .int x), (2, .int n)]) d_Book_isName_21 (by decide) rfl ?_
      have hL23_4 : ∀ (N9 : Nat) (k : Int32) (bg : Int32) (en : Int32), (x.toInt ≤ k.toInt) → (x.toInt ≤ bg.toInt) → (bg.toInt ≤ k.toInt) → (en.toInt = x.toInt + n.toInt) → (k.toInt ≤ en.toInt) → (1 ≤ n.toInt) → (n.toInt ≤ 24) → (iB_ (gx f) x.toInt n.toInt bg.toInt) → (bg.toInt = x.toInt ∨ gx f (bg.toInt - 1) = 47) → (∀ j : Int, bg.toInt ≤ j → j < k.toInt → ¬ gx f j = 47) → ((en.toInt - k.toInt).toNat) < N9 → pb_P l G M i_Book_isName 23 [(5, .int k), (4, .int bg), (3, .int en), (0, .ref a), (1, .int x), (2, .int n)] [] [(a, .inl (G.2.1, Na, .inl f))] 0 0 := by
        intro N9
        induction N9 with
        | zero => intro k bg en hk hb hb2 he hk2 n1_ n2_ hB hb3 h47 hm9; exact absurd hm9 (Nat.not_lt_zero _)
        | succ N9 ih23 =>
          intro k bg en hk hb hb2 he hk2 n1_ n2_ hB hb3 h47 hm9
          refine pb_iload (pc := 23) d_Book_isName_23 0 rfl ?_
          refine pb_iload_n (pc := 25) d_Book_isName_25 2 rfl rfl ?_
          refine pb_icmp_ge (pc := 26) (tgt := 63) d_Book_isName_26 (by decide) (fun w5 => ?_) (fun w5 => ?_)
          · have tw5 : en.toInt ≤ k.toInt := (ti_le rfl rfl).mp w5
            refine pb_aload_n (pc := 63) d_Book_isName_63 3 rfl rfl ?_
            refine pb_iload (pc := 64) d_Book_isName_64 1 rfl ?_
            refine pb_iload_n (pc := 66) d_Book_isName_66 2 rfl rfl ?_
            refine pb_callS (pc := 67) (I := i_Book_isName) (nA := 3) (rest := []) (wr := []) d_Book_isName_67 (g_isPiece hl G a Na f bg en (by first | (with_reducible assumption) | omega (splitDisjunctions := false) | assumption | omega | decide) (by first | (with_reducible assumption) | omega (splitDisjunctions := false) | assumption | omega | decide) (by first | (with_reducible assumption) | omega (splitDisjunctions := false) | assumption | omega | decide) (by first | (with_reducible assumption) | omega (splitDisjunctions := false) | assumption | omega | decide) F_f) [0] [] (by decide) rfl rfl rfl (by decide) (by decide) k_625 rfl k_118 k_623 k_624 hy_Book_isPiece (by decide) rfl rfl (Nat.le_of_ble_eq_true rfl) (by decide) (fun v9 u7 ch6 => ?_)
            obtain ⟨r_8, rfl⟩ : ∃ z9, z9 = u7 := ⟨_, rfl⟩
            obtain ⟨ech6, ch6⟩ := ch6
            have ech6 : v9 = some (.int r_8) := ech6
            subst ech6
            obtain ⟨fh9, fh10, fh11⟩ : (r_8.toInt = 0 ∨ r_8.toInt = 1) ∧ (r_8.toInt = 1 → pe_ (gx f) bg.toInt en.toInt) ∧ (r_8.toInt = 0 → ¬ pe_ (gx f) bg.toInt en.toInt) := ch6
            have pF1 := fh10
            have pF0 := fh11
            refine pb_eq (pc' := 70) (lo' := [(5, .int k), (4, .int bg), (3, .int en), (0, .ref a), (1, .int x), (2, .int n)]) (rest' := [.int r_8]) (ws' := [(a, .inl (G.2.1, Na, .inl f))]) ?_
            exact pb_iret (pc := 70) hQ d_Book_isName_70 rfl (nar_b (by omega)) (r_8) ⟨rfl, (by (try dsimp only); first | done | (with_reducible assumption) | omega (splitDisjunctions := false) | assumption | omega | decide), (by (try dsimp only); first | done | (with_reducible assumption) | omega (splitDisjunctions := false) | assumption | omega | decide), (show r_8.toInt = 1 → iA_ (gx f) x.toInt n.toInt from (fun q9 => iA_of (iB_s hB (by omega) hb3 (by omega) (fun j h0 h1 => h47 j h0 (by omega)) (by omega) (pF1 q9) rfl) (by omega) (by omega) (by omega))), (show r_8.toInt = 0 → ¬ iA_ (gx f) x.toInt n.toInt from (fun q9 => iA_no (by omega) hb3 (by omega) (by omega) (fun j h0 h1 => h47 j h0 (by omega)) (Or.inl (by omega)) (pF0 q9)))⟩ [0] (by decide) rfl rfl (by decide) (by decide)
          · have tw5 : ¬ en.toInt ≤ k.toInt := fun z9 => w5 ((ti_le rfl rfl).mpr z9)
            refine pb_aload_n (pc := 29) d_Book_isName_29 3 rfl rfl ?_
            refine pb_iload (pc := 30) d_Book_isName_30 0 rfl ?_
            refine pb_bald (pc := 32) d_Book_isName_32 0 rfl (vp_in_iff.mpr (by constructor <;> omega)) ?_
            refine pb_topi (fun i12 ei12 => ?_)
            have xi12 : i12 = gr f (k.toInt) := gr_ld ei12 (by omega)
            have yi12 : i12.toInt = gx f (k.toInt) := congrArg Int32.toInt xi12
            have ti12 : -128 ≤ i12.toInt ∧ i12.toInt ≤ 127 := ti_fit (F_f _) ei12
            refine pb_bipush (pc := 33) (v := 47) d_Book_isName_33 (by decide) ?_
            refine pb_icmp_ne (pc := 35) (tgt := 57) d_Book_isName_35 (by decide) (fun w13 => ?_) (fun w13 => ?_)
            · have tw13 : ¬ i12.toInt = 47 := fun z9 => w13 ((ti_eq rfl (by decide)).mpr z9)
              refine pb_iincN (pc := 57) (c := 1) d_Book_isName_57 0 rfl (by decide) (by decide) (fun i14 ei14 => ?_)
              have ti14 : i14.toInt = k.toInt + 1 := ti_add ei14 rfl (by decide) (by omega) (by omega)
              refine pb_eq (pc' := 60) (lo' := [(5, .int i14), (4, .int bg), (3, .int en), (0, .ref a), (1, .int x), (2, .int n)]) (rest' := []) (ws' := [(a, .inl (G.2.1, Na, .inl f))]) ?_
              refine pb_goto (pc := 60) (tgt := 23) d_Book_isName_60 (by decide) ?_
              exact ih23 i14 bg en (by first | (with_reducible assumption) | omega (splitDisjunctions := false) | assumption | omega | decide) (by first | (with_reducible assumption) | omega (splitDisjunctions := false) | assumption | omega | decide) (by first | (with_reducible assumption) | omega (splitDisjunctions := false) | assumption | omega | decide) (by first | (with_reducible assumption) | omega (splitDisjunctions := false) | assumption | omega | decide) (by first | (with_reducible assumption) | omega (splitDisjunctions := false) | assumption | omega | decide) (by first | (with_reducible assumption) | omega (splitDisjunctions := false) | assumption | omega | decide) (by first | (with_reducible assumption) | omega (splitDisjunctions := false) | assumption | omega | decide) (by first | exact hB | exact iB_s hB (by omega) hb3 (by omega) h47 (by omega) (pF1 (by omega)) (by omega)) (by first | exact hb3 | exact Or.inr (by rw [show bg.toInt - 1 = k.toInt by omega]; omega)) (by first | exact lq_st h47 (by omega) (by omega) | exact fun j h0 h1 => absurd h1 (by omega)) (by (exact omg_7c8a06b1f5 hm9 tw5 ti14))
            · have tw13 : i12.toInt = 47 := (ti_eq rfl (by decide)).mp w13
              refine pb_aload_n (pc := 38) d_Book_isName_38 3 rfl rfl ?_
              refine pb_iload (pc := 39) d_Book_isName_39 1 rfl ?_
              refine pb_iload (pc := 41) d_Book_isName_41 0 rfl ?_
              refine pb_callS (pc := 43) (I := i_Book_isName) (nA := 3) (rest := []) (wr := []) d_Book_isName_43 (g_isPiece hl G a Na f bg k (by first | (with_reducible assumption) | omega (splitDisjunctions := false) | assumption | omega | decide) (by first | (with_reducible assumption) | omega (splitDisjunctions := false) | assumption | omega | decide) (by first | (with_reducible assumption) | omega (splitDisjunctions := false) | assumption | omega | decide) (by first | (with_reducible assumption) | omega (splitDisjunctions := false) | assumption | omega | decide) F_f) [0] [] (by decide) rfl rfl rfl (by decide) (by decide) k_625 rfl k_118 k_623 k_624 hy_Book_isPiece (by decide) rfl rfl (Nat.le_of_ble_eq_true rfl) (by decide) (fun v9 u16 ch15 => ?_)
              obtain ⟨r_17, rfl⟩ : ∃ z9, z9 = u16 := ⟨_, rfl⟩
              obtain ⟨ech15, ch15⟩ := ch15
              have ech15 : v9 = some (.int r_17) := ech15
              subst ech15
              obtain ⟨fh18, fh19, fh20⟩ : (r_17.toInt = 0 ∨ r_17.toInt = 1) ∧ (r_17.toInt = 1 → pe_ (gx f) bg.toInt k.toInt) ∧ (r_17.toInt = 0 → ¬ pe_ (gx f) bg.toInt k.toInt) := ch15
              have pF1 := fh19
              have pF0 := fh20
              refine pb_eq (pc' := 46) (lo' := [(5, .int k), (4, .int bg), (3, .int en), (0, .ref a), (1, .int x), (2, .int n)]) (rest' := [.int r_17]) (ws' := [(a, .inl (G.2.1, Na, .inl f))]) ?_
              refine pb_if_ne (pc := 46) (tgt := 51) d_Book_isName_46 (by decide) (fun w21 => ?_) (fun w21 => ?_)
              · have tw21 : ¬ r_17.toInt = 0 := fun z9 => w21 ((ti_eq rfl (by decide)).mpr z9)
                refine pb_iload (pc := 51) d_Book_isName_51 0 rfl ?_
                refine pb_iconst (pc := 53) (v := 1) d_Book_isName_53 (by decide) ?_
                refine pb_iadd (pc := 54) d_Book_isName_54 ?_
                refine pb_topi (fun i22 ei22 => ?_)
                try have ti22 : i22.toInt = k.toInt + 1 := ti_add ei22 rfl (by decide) (by omega) (by omega)
                refine pb_istore (pc := 55) (lo' := [(4, .int i22), (5, .int k), (3, .int en), (0, .ref a), (1, .int x), (2, .int n)]) d_Book_isName_55 (by decide) rfl ?_
                refine pb_iincN (pc := 57) (c := 1) d_Book_isName_57 1 rfl (by decide) (by decide) (fun i23 ei23 => ?_)
                have ti23 : i23.toInt = k.toInt + 1 := ti_add ei23 rfl (by decide) (by omega) (by omega)
                refine pb_eq (pc' := 60) (lo' := [(5, .int i23), (4, .int i22), (3, .int en), (0, .ref a), (1, .int x), (2, .int n)]) (rest' := []) (ws' := [(a, .inl (G.2.1, Na, .inl f))]) ?_
                refine pb_goto (pc := 60) (tgt := 23) d_Book_isName_60 (by decide) ?_
                exact ih23 i23 i22 en (by first | (with_reducible assumption) | omega (splitDisjunctions := false) | assumption | omega | decide) (by first | (with_reducible assumption) | omega (splitDisjunctions := false) | assumption | omega | decide) (by first | (with_reducible assumption) | omega (splitDisjunctions := false) | assumption | omega | decide) (by first | (with_reducible assumption) | omega (splitDisjunctions := false) | assumption | omega | decide) (by first | (with_reducible assumption) | omega (splitDisjunctions := false) | assumption | omega | decide) (by first | (with_reducible assumption) | omega (splitDisjunctions := false) | assumption | omega | decide) (by first | (with_reducible assumption) | omega (splitDisjunctions := false) | assumption | omega | decide) (by first | exact hB | exact iB_s hB (by omega) hb3 (by omega) h47 (by omega) (pF1 (by (exact omg_d9c3f42b32 fh18 tw21))) (by omega)) (by first | exact hb3 | exact Or.inr (by rw [show i22.toInt - 1 = k.toInt by omega]; omega)) (by first | exact lq_st h47 (by omega) (by omega) | exact fun j h0 h1 => absurd h1 (by omega)) (by (exact omg_7c8a06b1f5 hm9 tw5 ti23))
              · have tw21 : r_17.toInt = 0 := (ti_eq rfl (by decide)).mp w21
                refine pb_iconst (pc := 49) (v := 0) d_Book_isName_49 (by decide) ?_
                exact pb_iret (pc := 50) hQ d_Book_isName_50 rfl rfl (0) ⟨rfl, (by (try dsimp only); first | done | (with_reducible assumption) | omega (splitDisjunctions := false) | assumption | omega | decide), (by (try dsimp only); first | done | (with_reducible assumption) | omega (splitDisjunctions := false) | assumption | omega | decide), (show (0 : Int32).toInt = 1 → iA_ (gx f) x.toInt n.toInt from (fun q9 => absurd q9 (by omega))), (show (0 : Int32).toInt = 0 → ¬ iA_ (gx f) x.toInt n.toInt from (fun _ => iA_no (by omega) hb3 (by omega) (by omega) h47 (Or.inr (by omega)) (pF0 (by omega))))⟩ [0] (by decide) rfl rfl (by decide) (by decide)
      exact hL23_4 _ x x i3 (by first | (with_reducible assumption) | omega (splitDisjunctions := false) | assumption | omega | decide) (by first | (with_reducible assumption) | omega (splitDisjunctions := false) | assumption | omega | decide) (by first | (with_reducible assumption) | omega (splitDisjunctions := false) | assumption | omega | decide) (by first | (with_reducible assumption) | omega (splitDisjunctions := false) | assumption | omega | decide) (by first | (with_reducible assumption) | omega (splitDisjunctions := false) | assumption | omega | decide) (by first | (with_reducible assumption) | omega (splitDisjunctions := false) | assumption | omega | decide) (by first | (with_reducible assumption) | omega (splitDisjunctions := false) | assumption | omega | decide) (iB_0 rfl) (by first | (with_reducible assumption) | omega (splitDisjunctions := false) | assumption | omega | decide) (fun j h0 h1 => absurd h1 (by omega)) (Nat.lt_succ_self _)
    · have tw2 : ¬ n.toInt ≤ 24 := fun z9 => w2 ((ti_le rfl (by decide)).mpr z9)
      refine pb_iconst (pc := 11) (v := 0) d_Book_isName_11 (by decide) ?_
      exact pb_iret (pc := 12) hQ d_Book_isName_12 rfl rfl (0) ⟨rfl, (by (try dsimp only); first | done | (with_reducible assumption) | omega (splitDisjunctions := false) | assumption | omega | decide), (by (try dsimp only); first | done | (with_reducible assumption) | omega (splitDisjunctions := false) | assumption | omega | decide), (show (0 : Int32).toInt = 1 → iA_ (gx f) x.toInt n.toInt from (fun q9 => absurd q9 (by omega))), (show (0 : Int32).toInt = 0 → ¬ iA_ (gx f) x.toInt n.toInt from (fun _ => iA_out (by omega)))⟩ [0] (by decide) rfl rfl (by decide) (by decide)

theorem d_Book_sumOf_0 : decode prog_1_method_29_code 0 = .ok (.iconst (-1), 1) := by decide +kernel
theorem d_Book_sumOf_1 : decode prog_1_method_29_code 1 = .ok (.istore_n 3, 1) := by decide +kernel
theorem d_Book_sumOf_2 : decode prog_1_method_29_code 2 = .ok (.iload_n 1, 1) := by decide +kernel
theorem d_Book_sumOf_3 : decode prog_1_method_29_code 3 = .ok (.istore 4, 2) := by decide +kernel
theorem d_Book_sumOf_5 : decode prog_1_method_29_code 5 = .ok (.iload 4, 2) := by decide +kernel
theorem d_Book_sumOf_7 : decode prog_1_method_29_code 7 = .ok (.iload_n 1, 1) := by decide +kernel
theorem d_Book_sumOf_8 : decode prog_1_method_29_code 8 = .ok (.iload_n 2, 1) := by decide +kernel
theorem d_Book_sumOf_9 : decode prog_1_method_29_code 9 = .ok (.iadd, 1) := by decide +kernel
theorem d_Book_sumOf_10 : decode prog_1_method_29_code 10 = .ok (.if_icmp .ge 59, 3) := by decide +kernel
theorem d_Book_sumOf_69 : decode prog_1_method_29_code 69 = .ok (.iload_n 3, 1) := by decide +kernel
theorem d_Book_sumOf_70 : decode prog_1_method_29_code 70 = .ok (.iconst (-1), 1) := by decide +kernel
theorem d_Book_sumOf_71 : decode prog_1_method_29_code 71 = .ok (.ixor, 1) := by decide +kernel
theorem d_Book_sumOf_72 : decode prog_1_method_29_code 72 = .ok (.ireturn, 1) := by decide +kernel
theorem d_Book_sumOf_13 : decode prog_1_method_29_code 13 = .ok (.iload_n 3, 1) := by decide +kernel
theorem d_Book_sumOf_14 : decode prog_1_method_29_code 14 = .ok (.aload_n 0, 1) := by decide +kernel
theorem d_Book_sumOf_15 : decode prog_1_method_29_code 15 = .ok (.iload 4, 2) := by decide +kernel
theorem d_Book_sumOf_17 : decode prog_1_method_29_code 17 = .ok (.baload, 1) := by decide +kernel
theorem d_Book_sumOf_18 : decode prog_1_method_29_code 18 = .ok (.sipush 255, 3) := by decide +kernel
theorem d_Book_sumOf_21 : decode prog_1_method_29_code 21 = .ok (.iand, 1) := by decide +kernel
theorem d_Book_sumOf_22 : decode prog_1_method_29_code 22 = .ok (.ixor, 1) := by decide +kernel
theorem d_Book_sumOf_23 : decode prog_1_method_29_code 23 = .ok (.istore_n 3, 1) := by decide +kernel
theorem d_Book_sumOf_24 : decode prog_1_method_29_code 24 = .ok (.iconst 0, 1) := by decide +kernel
theorem d_Book_sumOf_25 : decode prog_1_method_29_code 25 = .ok (.istore 5, 2) := by decide +kernel
theorem d_Book_sumOf_27 : decode prog_1_method_29_code 27 = .ok (.iload 5, 2) := by decide +kernel
theorem d_Book_sumOf_29 : decode prog_1_method_29_code 29 = .ok (.bipush 8, 2) := by decide +kernel
theorem d_Book_sumOf_31 : decode prog_1_method_29_code 31 = .ok (.if_icmp .ge 32, 3) := by decide +kernel
theorem d_Book_sumOf_63 : decode prog_1_method_29_code 63 = .ok (.iinc 4 1, 3) := by decide +kernel
theorem d_Book_sumOf_66 : decode prog_1_method_29_code 66 = .ok (.goto (-61), 3) := by decide +kernel
theorem d_Book_sumOf_34 : decode prog_1_method_29_code 34 = .ok (.iload_n 3, 1) := by decide +kernel
theorem d_Book_sumOf_35 : decode prog_1_method_29_code 35 = .ok (.iconst 1, 1) := by decide +kernel
theorem d_Book_sumOf_36 : decode prog_1_method_29_code 36 = .ok (.iand, 1) := by decide +kernel
theorem d_Book_sumOf_37 : decode prog_1_method_29_code 37 = .ok (.istore 6, 2) := by decide +kernel
theorem d_Book_sumOf_39 : decode prog_1_method_29_code 39 = .ok (.iload_n 3, 1) := by decide +kernel
theorem d_Book_sumOf_40 : decode prog_1_method_29_code 40 = .ok (.iconst 1, 1) := by decide +kernel
theorem d_Book_sumOf_41 : decode prog_1_method_29_code 41 = .ok (.iushr, 1) := by decide +kernel
theorem d_Book_sumOf_42 : decode prog_1_method_29_code 42 = .ok (.iload 6, 2) := by decide +kernel
theorem d_Book_sumOf_44 : decode prog_1_method_29_code 44 = .ok (.iconst 1, 1) := by decide +kernel
theorem d_Book_sumOf_45 : decode prog_1_method_29_code 45 = .ok (.if_icmp .ne 9, 3) := by decide +kernel
theorem d_Book_sumOf_54 : decode prog_1_method_29_code 54 = .ok (.iconst 0, 1) := by decide +kernel
theorem d_Book_sumOf_55 : decode prog_1_method_29_code 55 = .ok (.ixor, 1) := by decide +kernel
theorem d_Book_sumOf_56 : decode prog_1_method_29_code 56 = .ok (.istore_n 3, 1) := by decide +kernel
theorem d_Book_sumOf_57 : decode prog_1_method_29_code 57 = .ok (.iinc 5 1, 3) := by decide +kernel
theorem d_Book_sumOf_60 : decode prog_1_method_29_code 60 = .ok (.goto (-33), 3) := by decide +kernel
theorem d_Book_sumOf_48 : decode prog_1_method_29_code 48 = .ok (.ldc_w 265, 3) := by decide +kernel
theorem k_560 : (Jvm.Cond.constant "PackageBook" (265 : Nat) (-306674912 : Int32)) ∈ uW := uW_c1 203 rfl (by decide +kernel)
theorem d_Book_sumOf_51 : decode prog_1_method_29_code 51 = .ok (.goto 4, 3) := by decide +kernel
abbrev y_Book_sumOf : MethodName := ⟨"PackageBook", "sumOf", "([BII)I"⟩
abbrev i_Book_sumOf : pb_I := (y_Book_sumOf, prog_1_method_29_code, 7, (some Jvm.ClassFile.FieldType.int), [], { frames := 0, cells := 0, slots := 0, locals := 0 })
set_option maxRecDepth 100000 in
set_option maxHeartbeats 4000000 in
theorem g_sumOf {l : Launch} (hl : l.stackTraces = false) (G : pb_G) (a : Nat) (Na : Nat) (f : Nat → Int32) (x : Int32) (n : Int32) (h0 : 0 ≤ x.toInt) (h1 : 0 ≤ n.toInt) (h2 : x.toInt + n.toInt ≤ Na) (h3 : Na ≤ 1000000) (F_f : sb_Fit f) : Cn l G i_Book_sumOf [.ref a, .int x, .int n] [(a, .inl (G.2.1, Na, .inl f))] (S := Int32) (fun rv_ u => rv_ = some (.int u) ∧ (u = cr_n f x.toInt n.toInt.toNat ^^^ (-1))) (fun u => [(a, .inl (G.2.1, Na, .inl f))]) := by
  refine Cn.of hl (by decide +kernel) rfl (Nat.le_of_ble_eq_true rfl) (fun M hQ => ?_)
  refine pb_eq (pc' := 0) (lo' := [(0, .ref a), (1, .int x), (2, .int n)]) (rest' := []) (ws' := [(a, .inl (G.2.1, Na, .inl f))]) ?_
  have zm1 : ((-1) : Int32).toInt = (-1) := by decide
  have zl0 : (0 : Int32).toInt = 0 := by decide
  have zl1 : (1 : Int32).toInt = 1 := by decide
  have zl8 : (8 : Int32).toInt = 8 := by decide
  have zl255 : (255 : Int32).toInt = 255 := by decide
  refine pb_iconst (pc := 0) (v := (-1)) d_Book_sumOf_0 (by decide) ?_
  refine pb_istore_n (pc := 1) (lo' := [(3, .int (-1)), (0, .ref a), (1, .int x), (2, .int n)]) d_Book_sumOf_1 rfl (by decide) rfl ?_
  refine pb_iload_n (pc := 2) d_Book_sumOf_2 2 rfl rfl ?_
  refine pb_istore (pc := 3) (lo' := [(4, .int x), (3, .int (-1)), (0, .ref a), (1, .int x), (2, .int n)]) d_Book_sumOf_3 (by decide) rfl ?_
  have hL5_1 : ∀ (N9 : Nat) (k : Int32) (s : Int32), (x.toInt ≤ k.toInt) → (k.toInt ≤ x.toInt + n.toInt) → (s = cr_n f x.toInt (k.toInt - x.toInt).toNat) → ((x.toInt + n.toInt - k.toInt).toNat) < N9 → pb_P l G M i_Book_sumOf 5 [(4, .int k), (3, .int s), (0, .ref a), (1, .int x), (2, .int n)] [] [(a, .inl (G.2.1, Na, .inl f))] 0 0 := by
    intro N9
    induction N9 with
    | zero => intro k s hk hk2 hs hm9; exact absurd hm9 (Nat.not_lt_zero _)
    | succ N9 ih5 =>
      intro k s hk hk2 hs hm9
      refine pb_iload (pc := 5) d_Book_sumOf_5 0 rfl ?_
      refine pb_iload_n (pc := 7) d_Book_sumOf_7 3 rfl rfl ?_
      refine pb_iload_n (pc := 8) d_Book_sumOf_8 4 rfl rfl ?_
      refine pb_iadd (pc := 9) d_Book_sumOf_9 ?_
      refine pb_topi (fun i2 ei2 => ?_)
      try have ti2 : i2.toInt = x.toInt + n.toInt := ti_add ei2 rfl rfl (by omega) (by omega)
      refine pb_icmp_ge (pc := 10) (tgt := 69) d_Book_sumOf_10 (by decide) (fun w3 => ?_) (fun w3 => ?_)
      · have tw3 : i2.toInt ≤ k.toInt := (ti_le rfl rfl).mp w3
        refine pb_iload_n (pc := 69) d_Book_sumOf_69 1 rfl rfl ?_
        refine pb_iconst (pc := 70) (v := (-1)) d_Book_sumOf_70 (by decide) ?_
        refine pb_ixor (pc := 71) d_Book_sumOf_71 ?_
        refine pb_topi (fun i4 ei4 => ?_)
        exact pb_iret (pc := 72) hQ d_Book_sumOf_72 rfl rfl (i4) ⟨rfl, (show i4 = cr_n f x.toInt n.toInt.toNat ^^^ (-1) from (cr_ret hs (by omega) (by assumption)))⟩ [0] (by decide) rfl rfl (by decide) (by decide)
      · have tw3 : ¬ i2.toInt ≤ k.toInt := fun z9 => w3 ((ti_le rfl rfl).mpr z9)
        refine pb_iload_n (pc := 13) d_Book_sumOf_13 1 rfl rfl ?_
        refine pb_aload_n (pc := 14) d_Book_sumOf_14 2 rfl rfl ?_
        refine pb_iload (pc := 15) d_Book_sumOf_15 0 rfl ?_
        refine pb_bald (pc := 17) d_Book_sumOf_17 0 rfl (vp_in_iff.mpr (by constructor <;> omega)) ?_
        refine pb_topi (fun i5 ei5 => ?_)
        have xi5 : i5 = gr f (k.toInt) := gr_ld ei5 (by omega)
        have yi5 : i5.toInt = gx f (k.toInt) := congrArg Int32.toInt xi5
        have ti5 : -128 ≤ i5.toInt ∧ i5.toInt ≤ 127 := ti_fit (F_f _) ei5
        refine pb_sipush (pc := 18) (v := 255) d_Book_sumOf_18 (by decide) ?_
        refine pb_iand (pc := 21) d_Book_sumOf_21 ?_
        refine pb_topi (fun i6 ei6 => ?_)
        have ti6 : 0 ≤ i6.toInt ∧ i6.toInt ≤ 255 := ti_and 8 ei6 (by decide) (by decide)
        refine pb_ixor (pc := 22) d_Book_sumOf_22 ?_
        refine pb_topi (fun i7 ei7 => ?_)
        refine pb_istore_n (pc := 23) (lo' := [(3, .int i7), (4, .int k), (0, .ref a), (1, .int x), (2, .int n)]) d_Book_sumOf_23 rfl (by decide) rfl ?_
        refine pb_iconst (pc := 24) (v := 0) d_Book_sumOf_24 (by decide) ?_
        refine pb_istore (pc := 25) (lo' := [(5, .int 0), (3, .int i7), (4, .int k), (0, .ref a), (1, .int x), (2, .int n)]) d_Book_sumOf_25 (by decide) rfl ?_
        have hL27_8 : ∀ (N9 : Nat) (b : Int32) (s2 : Int32), (0 ≤ b.toInt) → (b.toInt ≤ 8) → (s2 = cr_i b.toInt.toNat (s ^^^ (gr f k.toInt &&& 255))) → ((8 - b.toInt).toNat) < N9 → pb_P l G M i_Book_sumOf 27 [(5, .int b), (3, .int s2), (4, .int k), (0, .ref a), (1, .int x), (2, .int n)] [] [(a, .inl (G.2.1, Na, .inl f))] 0 0 := by
          intro N9
          induction N9 with
          | zero => intro b s2 hb hb8 hs2 hm9; exact absurd hm9 (Nat.not_lt_zero _)
          | succ N9 ih27 =>
            intro b s2 hb hb8 hs2 hm9
            refine pb_iload (pc := 27) d_Book_sumOf_27 0 rfl ?_
            refine pb_bipush (pc := 29) (v := 8) d_Book_sumOf_29 (by decide) ?_
            refine pb_icmp_ge (pc := 31) (tgt := 63) d_Book_sumOf_31 (by decide) (fun w9 => ?_) (fun w9 => ?_)
            · have tw9 : 8 ≤ b.toInt := (ti_le (by decide) rfl).mp w9
              refine pb_iincN (pc := 63) (c := 1) d_Book_sumOf_63 2 rfl (by decide) (by decide) (fun i10 ei10 => ?_)
              have ti10 : i10.toInt = k.toInt + 1 := ti_add ei10 rfl (by decide) (by omega) (by omega)
              refine pb_eq (pc' := 66) (lo' := [(4, .int i10), (5, .int b), (3, .int s2), (0, .ref a), (1, .int x), (2, .int n)]) (rest' := []) (ws' := [(a, .inl (G.2.1, Na, .inl f))]) ?_
              refine pb_goto (pc := 66) (tgt := 5) d_Book_sumOf_66 (by decide) ?_
              refine pb_re (ws' := [(a, .inl (G.2.1, Na, .inl f))]) (lo' := [(4, .int i10), (3, .int s2), (0, .ref a), (1, .int x), (2, .int n)]) [0] [0, 2, 3, 4, 5] (by decide) rfl rfl rfl ?_
              exact ih5 i10 s2 (by first | (with_reducible assumption) | omega (splitDisjunctions := false) | assumption | omega | decide) (by first | (with_reducible assumption) | omega (splitDisjunctions := false) | assumption | omega | decide) (cr_nx hs hs2 (by omega) (by omega) (by omega)) (by omega)
            · have tw9 : ¬ 8 ≤ b.toInt := fun z9 => w9 ((ti_le (by decide) rfl).mpr z9)
              refine pb_iload_n (pc := 34) d_Book_sumOf_34 1 rfl rfl ?_
              refine pb_iconst (pc := 35) (v := 1) d_Book_sumOf_35 (by decide) ?_
              refine pb_iand (pc := 36) d_Book_sumOf_36 ?_
              refine pb_topi (fun i11 ei11 => ?_)
              have ti11 : 0 ≤ i11.toInt ∧ i11.toInt ≤ 1 := ti_and 1 ei11 (by decide) (by decide)
              refine pb_istore (pc := 37) (lo' := [(6, .int i11), (5, .int b), (3, .int s2), (4, .int k), (0, .ref a), (1, .int x), (2, .int n)]) d_Book_sumOf_37 (by decide) rfl ?_
              refine pb_iload_n (pc := 39) d_Book_sumOf_39 2 rfl rfl ?_
              refine pb_iconst (pc := 40) (v := 1) d_Book_sumOf_40 (by decide) ?_
              refine pb_iushr (pc := 41) d_Book_sumOf_41 rfl ?_
              refine pb_topi (fun i12 ei12 => ?_)
              refine pb_iload (pc := 42) d_Book_sumOf_42 0 rfl ?_
              refine pb_iconst (pc := 44) (v := 1) d_Book_sumOf_44 (by decide) ?_
              refine pb_icmp_ne (pc := 45) (tgt := 54) d_Book_sumOf_45 (by decide) (fun w13 => ?_) (fun w13 => ?_)
              · have tw13 : ¬ i11.toInt = 1 := fun z9 => w13 ((ti_eq rfl (by decide)).mpr z9)
                refine pb_iconst (pc := 54) (v := 0) d_Book_sumOf_54 (by decide) ?_
                refine pb_ixor (pc := 55) d_Book_sumOf_55 ?_
                refine pb_topi (fun i14 ei14 => ?_)
                refine pb_istore_n (pc := 56) (lo' := [(3, .int i14), (6, .int i11), (5, .int b), (4, .int k), (0, .ref a), (1, .int x), (2, .int n)]) d_Book_sumOf_56 rfl (by decide) rfl ?_
                refine pb_iincN (pc := 57) (c := 1) d_Book_sumOf_57 2 rfl (by decide) (by decide) (fun i15 ei15 => ?_)
                have ti15 : i15.toInt = b.toInt + 1 := ti_add ei15 rfl (by decide) (by omega) (by omega)
                refine pb_eq (pc' := 60) (lo' := [(5, .int i15), (3, .int i14), (6, .int i11), (4, .int k), (0, .ref a), (1, .int x), (2, .int n)]) (rest' := []) (ws' := [(a, .inl (G.2.1, Na, .inl f))]) ?_
                refine pb_goto (pc := 60) (tgt := 27) d_Book_sumOf_60 (by decide) ?_
                refine pb_re (ws' := [(a, .inl (G.2.1, Na, .inl f))]) (lo' := [(5, .int i15), (3, .int i14), (4, .int k), (0, .ref a), (1, .int x), (2, .int n)]) [0] [0, 1, 3, 4, 5, 6] (by decide) rfl rfl rfl ?_
                exact ih27 i15 i14 (by first | (with_reducible assumption) | omega (splitDisjunctions := false) | assumption | omega | decide) (by first | (with_reducible assumption) | omega (splitDisjunctions := false) | assumption | omega | decide) (cr_st hs2 (by omega) (by omega) (by first | exact cr_e1 (by assumption) (by omega) (by assumption) (by assumption) | exact cr_e0 (by assumption) (by omega) (by assumption) (by assumption))) (by (exact omg_d2f4b98d7b hm9 tw9 ti15))
              · have tw13 : i11.toInt = 1 := (ti_eq rfl (by decide)).mp w13
                refine pb_ldc_w (pc := 48) (v := (-306674912)) d_Book_sumOf_48 k_560 ?_
                refine pb_goto (pc := 51) (tgt := 55) d_Book_sumOf_51 (by decide) ?_
                refine pb_ixor (pc := 55) d_Book_sumOf_55 ?_
                refine pb_topi (fun i16 ei16 => ?_)
                refine pb_istore_n (pc := 56) (lo' := [(3, .int i16), (6, .int i11), (5, .int b), (4, .int k), (0, .ref a), (1, .int x), (2, .int n)]) d_Book_sumOf_56 rfl (by decide) rfl ?_
                refine pb_iincN (pc := 57) (c := 1) d_Book_sumOf_57 2 rfl (by decide) (by decide) (fun i17 ei17 => ?_)
                have ti17 : i17.toInt = b.toInt + 1 := ti_add ei17 rfl (by decide) (by omega) (by omega)
                refine pb_eq (pc' := 60) (lo' := [(5, .int i17), (3, .int i16), (6, .int i11), (4, .int k), (0, .ref a), (1, .int x), (2, .int n)]) (rest' := []) (ws' := [(a, .inl (G.2.1, Na, .inl f))]) ?_
                refine pb_goto (pc := 60) (tgt := 27) d_Book_sumOf_60 (by decide) ?_
                refine pb_re (ws' := [(a, .inl (G.2.1, Na, .inl f))]) (lo' := [(5, .int i17), (3, .int i16), (4, .int k), (0, .ref a), (1, .int x), (2, .int n)]) [0] [0, 1, 3, 4, 5, 6] (by decide) rfl rfl rfl ?_
                exact ih27 i17 i16 (by first | (with_reducible assumption) | omega (splitDisjunctions := false) | assumption | omega | decide) (by first | (with_reducible assumption) | omega (splitDisjunctions := false) | assumption | omega | decide) (cr_st hs2 (by omega) (by omega) (by first | exact cr_e1 (by assumption) (by omega) (by assumption) (by assumption) | exact cr_e0 (by assumption) (by omega) (by assumption) (by assumption))) (by (exact omg_d2f4b98d7b hm9 tw9 ti17))
        exact hL27_8 _ 0 i7 (by first | (with_reducible assumption) | omega (splitDisjunctions := false) | assumption | omega | decide) (by first | (with_reducible assumption) | omega (splitDisjunctions := false) | assumption | omega | decide) (cr_z (by assumption) (by assumption) (by assumption) zl0) (Nat.lt_succ_self _)
  exact hL5_1 _ x (-1) (by first | (with_reducible assumption) | omega (splitDisjunctions := false) | assumption | omega | decide) (by first | (with_reducible assumption) | omega (splitDisjunctions := false) | assumption | omega | decide) (by rw [show x.toInt - x.toInt = 0 by omega]; rfl) (Nat.lt_succ_self _)

/-- the two bytes at a place, as a number -/
def tw_r (f : Nat → Int32) (k : Int) : Int32 := (gr f k &&& 255) ||| ((gr f (k + 1) &&& 255) <<< ((8 : Int32) &&& 31))
def tw (f : Nat → Int32) (k : Int) : Int := (tw_r f k).toInt

theorem d_Book_twoAt_0 : decode prog_1_method_30_code 0 = .ok (.aload_n 0, 1) := by decide +kernel
theorem d_Book_twoAt_1 : decode prog_1_method_30_code 1 = .ok (.iload_n 1, 1) := by decide +kernel
theorem d_Book_twoAt_2 : decode prog_1_method_30_code 2 = .ok (.baload, 1) := by decide +kernel
theorem d_Book_twoAt_3 : decode prog_1_method_30_code 3 = .ok (.sipush 255, 3) := by decide +kernel
theorem d_Book_twoAt_6 : decode prog_1_method_30_code 6 = .ok (.iand, 1) := by decide +kernel
theorem d_Book_twoAt_7 : decode prog_1_method_30_code 7 = .ok (.aload_n 0, 1) := by decide +kernel
theorem d_Book_twoAt_8 : decode prog_1_method_30_code 8 = .ok (.iload_n 1, 1) := by decide +kernel
theorem d_Book_twoAt_9 : decode prog_1_method_30_code 9 = .ok (.iconst 1, 1) := by decide +kernel
theorem d_Book_twoAt_10 : decode prog_1_method_30_code 10 = .ok (.iadd, 1) := by decide +kernel
theorem d_Book_twoAt_11 : decode prog_1_method_30_code 11 = .ok (.baload, 1) := by decide +kernel
theorem d_Book_twoAt_12 : decode prog_1_method_30_code 12 = .ok (.sipush 255, 3) := by decide +kernel
theorem d_Book_twoAt_15 : decode prog_1_method_30_code 15 = .ok (.iand, 1) := by decide +kernel
theorem d_Book_twoAt_16 : decode prog_1_method_30_code 16 = .ok (.bipush 8, 2) := by decide +kernel
theorem d_Book_twoAt_18 : decode prog_1_method_30_code 18 = .ok (.ishl, 1) := by decide +kernel
theorem d_Book_twoAt_19 : decode prog_1_method_30_code 19 = .ok (.ior, 1) := by decide +kernel
theorem d_Book_twoAt_20 : decode prog_1_method_30_code 20 = .ok (.ireturn, 1) := by decide +kernel
abbrev y_Book_twoAt : MethodName := ⟨"PackageBook", "twoAt", "([BI)I"⟩
abbrev i_Book_twoAt : pb_I := (y_Book_twoAt, prog_1_method_30_code, 2, (some Jvm.ClassFile.FieldType.int), [], { frames := 0, cells := 0, slots := 0, locals := 0 })
set_option maxRecDepth 100000 in
set_option maxHeartbeats 4000000 in
theorem g_twoAt {l : Launch} (hl : l.stackTraces = false) (G : pb_G) (a : Nat) (Na : Nat) (f : Nat → Int32) (x : Int32) (h0 : 0 ≤ x.toInt) (h1 : x.toInt + 2 ≤ Na) (h2 : Na ≤ 1000000) (F_f : sb_Fit f) : Cn l G i_Book_twoAt [.ref a, .int x] [(a, .inl (G.2.1, Na, .inl f))] (S := Int32) (fun rv_ u => rv_ = some (.int u) ∧ (0 ≤ u.toInt) ∧ (u.toInt ≤ 65535) ∧ (u.toInt = tw f x.toInt) ∧ (u.toInt = av f x.toInt 2)) (fun u => [(a, .inl (G.2.1, Na, .inl f))]) := by
  refine Cn.of hl (by decide +kernel) rfl (Nat.le_of_ble_eq_true rfl) (fun M hQ => ?_)
  refine pb_eq (pc' := 0) (lo' := [(0, .ref a), (1, .int x)]) (rest' := []) (ws' := [(a, .inl (G.2.1, Na, .inl f))]) ?_
  have zl0 : (0 : Int32).toInt = 0 := by decide
  have zl1 : (1 : Int32).toInt = 1 := by decide
  have zl8 : (8 : Int32).toInt = 8 := by decide
  have zl255 : (255 : Int32).toInt = 255 := by decide
  refine pb_aload_n (pc := 0) d_Book_twoAt_0 0 rfl rfl ?_
  refine pb_iload_n (pc := 1) d_Book_twoAt_1 1 rfl rfl ?_
  refine pb_bald (pc := 2) d_Book_twoAt_2 0 rfl (vp_in_iff.mpr (by constructor <;> omega)) ?_
  refine pb_topi (fun i1 ei1 => ?_)
  have xi1 : i1 = gr f (x.toInt) := gr_ld ei1 (by omega)
  have yi1 : i1.toInt = gx f (x.toInt) := congrArg Int32.toInt xi1
  have ti1 : -128 ≤ i1.toInt ∧ i1.toInt ≤ 127 := ti_fit (F_f _) ei1
  refine pb_sipush (pc := 3) (v := 255) d_Book_twoAt_3 (by decide) ?_
  refine pb_iand (pc := 6) d_Book_twoAt_6 ?_
  refine pb_topi (fun i2 ei2 => ?_)
  have ti2 : 0 ≤ i2.toInt ∧ i2.toInt ≤ 255 := ti_and 8 ei2 (by decide) (by decide)
  refine pb_aload_n (pc := 7) d_Book_twoAt_7 0 rfl rfl ?_
  refine pb_iload_n (pc := 8) d_Book_twoAt_8 1 rfl rfl ?_
  refine pb_iconst (pc := 9) (v := 1) d_Book_twoAt_9 (by decide) ?_
  refine pb_iadd (pc := 10) d_Book_twoAt_10 ?_
  refine pb_topi (fun i3 ei3 => ?_)
  try have ti3 : i3.toInt = x.toInt + 1 := ti_add ei3 rfl (by decide) (by omega) (by omega)
  refine pb_bald (pc := 11) d_Book_twoAt_11 0 rfl (vp_in_iff.mpr (by constructor <;> omega)) ?_
  refine pb_topi (fun i4 ei4 => ?_)
  have xi4 : i4 = gr f (x.toInt + 1) := gr_ld ei4 (by omega)
  have yi4 : i4.toInt = gx f (x.toInt + 1) := congrArg Int32.toInt xi4
  have ti4 : -128 ≤ i4.toInt ∧ i4.toInt ≤ 127 := ti_fit (F_f _) ei4
  refine pb_sipush (pc := 12) (v := 255) d_Book_twoAt_12 (by decide) ?_
  refine pb_iand (pc := 15) d_Book_twoAt_15 ?_
  refine pb_topi (fun i5 ei5 => ?_)
  have ti5 : 0 ≤ i5.toInt ∧ i5.toInt ≤ 255 := ti_and 8 ei5 (by decide) (by decide)
  refine pb_bipush (pc := 16) (v := 8) d_Book_twoAt_16 (by decide) ?_
  refine pb_ishl (pc := 18) d_Book_twoAt_18 ?_
  refine pb_topi (fun i6 ei6 => ?_)
  try have ti6 : i6.toInt = i5.toInt * 256 := ti_shl ei6 rfl 8 (by decide) (by decide) (by omega) (by omega)
  refine pb_ior (pc := 19) d_Book_twoAt_19 ?_
  refine pb_topi (fun i7 ei7 => ?_)
  have ti7 : 0 ≤ i7.toInt ∧ i7.toInt < 65536 := ti_or 16 ei7 rfl rfl (by omega) (by omega) (by omega) (by omega) (by decide)
  exact pb_iret (pc := 20) hQ d_Book_twoAt_20 rfl rfl (i7) ⟨rfl, (by (try dsimp only); first | done | (with_reducible assumption) | omega (splitDisjunctions := false) | assumption | omega | decide), (by (try dsimp only); first | done | (with_reducible assumption) | omega (splitDisjunctions := false) | assumption | omega | decide), (show i7.toInt = tw f x.toInt from (by unfold tw; exact congrArg Int32.toInt (by simp only [xi1, ei2, ei3, xi4, ei5, ei6, ei7, tw_r]))), (show i7.toInt = av f x.toInt 2 from (tw_avE (by assumption) (by assumption) (by assumption) (by assumption) (by assumption) (by assumption)))⟩ [0] (by decide) rfl rfl (by decide) (by decide)

theorem d_Book_fourAt_0 : decode prog_1_method_31_code 0 = .ok (.aload_n 0, 1) := by decide +kernel
theorem d_Book_fourAt_1 : decode prog_1_method_31_code 1 = .ok (.iload_n 1, 1) := by decide +kernel
theorem d_Book_fourAt_2 : decode prog_1_method_31_code 2 = .ok (.invokestatic 266, 3) := by decide +kernel
theorem k_595 : (Jvm.Cond.methodLink "PackageBook" (266 : Nat) ({ cls := "PackageBook", name := "twoAt", desc := "([BI)I" } : Jvm.MethodName)) ∈ uW := uW_c1 238 rfl (by decide +kernel)
theorem k_597 : (Jvm.Cond.code ({ cls := "PackageBook", name := "twoAt", desc := "([BI)I" } : Jvm.MethodName) prog_1_method_30_code (2 : Nat) (Option.some Jvm.ClassFile.FieldType.int)) ∈ uW := uW_c2 0 rfl (by decide +kernel)
theorem k_596 : (Jvm.Cond.static ({ cls := "PackageBook", name := "twoAt", desc := "([BI)I" } : Jvm.MethodName)) ∈ uW := uW_c1 239 rfl (by decide +kernel)
theorem hy_Book_twoAt : (y_Book_twoAt).cls ≠ "java/lang/invoke/MethodHandle" ∧ (y_Book_twoAt).cls ≠ "java/lang/invoke/VarHandle" ∧ (parseMethodDescriptor (y_Book_twoAt).desc).map (fun d => d.parameters.length) = some 2 := by decide +kernel
theorem d_Book_fourAt_5 : decode prog_1_method_31_code 5 = .ok (.i2l, 1) := by decide +kernel
theorem d_Book_fourAt_6 : decode prog_1_method_31_code 6 = .ok (.aload_n 0, 1) := by decide +kernel
theorem d_Book_fourAt_7 : decode prog_1_method_31_code 7 = .ok (.iload_n 1, 1) := by decide +kernel
theorem d_Book_fourAt_8 : decode prog_1_method_31_code 8 = .ok (.iconst 2, 1) := by decide +kernel
theorem d_Book_fourAt_9 : decode prog_1_method_31_code 9 = .ok (.iadd, 1) := by decide +kernel
theorem d_Book_fourAt_10 : decode prog_1_method_31_code 10 = .ok (.invokestatic 266, 3) := by decide +kernel
theorem d_Book_fourAt_13 : decode prog_1_method_31_code 13 = .ok (.i2l, 1) := by decide +kernel
theorem d_Book_fourAt_14 : decode prog_1_method_31_code 14 = .ok (.bipush 16, 2) := by decide +kernel
theorem d_Book_fourAt_16 : decode prog_1_method_31_code 16 = .ok (.lshl, 1) := by decide +kernel
theorem d_Book_fourAt_17 : decode prog_1_method_31_code 17 = .ok (.lor, 1) := by decide +kernel
theorem d_Book_fourAt_18 : decode prog_1_method_31_code 18 = .ok (.lreturn, 1) := by decide +kernel
abbrev y_Book_fourAt : MethodName := ⟨"PackageBook", "fourAt", "([BI)J"⟩
abbrev i_Book_fourAt : pb_I := (y_Book_fourAt, prog_1_method_31_code, 2, (some Jvm.ClassFile.FieldType.long), [], { frames := 1, cells := 0, slots := 0, locals := 21 })
set_option maxRecDepth 100000 in
set_option maxHeartbeats 4000000 in
theorem g_fourAt {l : Launch} (hl : l.stackTraces = false) (G : pb_G) (a : Nat) (Na : Nat) (f : Nat → Int32) (x : Int32) (h0 : 0 ≤ x.toInt) (h1 : x.toInt + 4 ≤ Na) (h2 : Na ≤ 1000000) (F_f : sb_Fit f) : Cn l G i_Book_fourAt [.ref a, .int x] [(a, .inl (G.2.1, Na, .inl f))] (S := Int64) (fun rv_ u => rv_ = some (.long u) ∧ (0 ≤ u.toInt) ∧ (u.toInt < 4294967296) ∧ (u.toInt = av f x.toInt 4)) (fun u => [(a, .inl (G.2.1, Na, .inl f))]) := by
  refine Cn.of hl (by decide +kernel) rfl (Nat.le_of_ble_eq_true rfl) (fun M hQ => ?_)
  refine pb_eq (pc' := 0) (lo' := [(0, .ref a), (1, .int x)]) (rest' := []) (ws' := [(a, .inl (G.2.1, Na, .inl f))]) ?_
  have zl0 : (0 : Int32).toInt = 0 := by decide
  have zl1 : (1 : Int32).toInt = 1 := by decide
  have zl2 : (2 : Int32).toInt = 2 := by decide
  have zl16 : (16 : Int32).toInt = 16 := by decide
  refine pb_aload_n (pc := 0) d_Book_fourAt_0 0 rfl rfl ?_
  refine pb_iload_n (pc := 1) d_Book_fourAt_1 1 rfl rfl ?_
  refine pb_callS (pc := 2) (I := i_Book_fourAt) (nA := 2) (rest := []) (wr := []) d_Book_fourAt_2 (g_twoAt hl G a Na f x (by first | (with_reducible assumption) | omega (splitDisjunctions := false) | assumption | omega | decide) (by first | (with_reducible assumption) | omega (splitDisjunctions := false) | assumption | omega | decide) (by first | (with_reducible assumption) | omega (splitDisjunctions := false) | assumption | omega | decide) F_f) [0] [] (by decide) rfl rfl rfl (by decide) (by decide) k_597 rfl k_118 k_595 k_596 hy_Book_twoAt (by decide) rfl rfl (Nat.le_of_ble_eq_true rfl) (by decide) (fun v9 u2 ch1 => ?_)
  obtain ⟨r_3, rfl⟩ : ∃ z9, z9 = u2 := ⟨_, rfl⟩
  obtain ⟨ech1, ch1⟩ := ch1
  have ech1 : v9 = some (.int r_3) := ech1
  subst ech1
  obtain ⟨fh4, fh5, fh6, fh7⟩ : (0 ≤ r_3.toInt) ∧ (r_3.toInt ≤ 65535) ∧ (r_3.toInt = tw f x.toInt) ∧ (r_3.toInt = av f x.toInt 2) := ch1
  have u1F := fh7
  have u1R := fh5
  have u1Z := fh4
  refine pb_eq (pc' := 5) (lo' := [(0, .ref a), (1, .int x)]) (rest' := [.int r_3]) (ws' := [(a, .inl (G.2.1, Na, .inl f))]) ?_
  refine pb_i2l (pc := 5) d_Book_fourAt_5 rfl ?_
  refine pb_topl (fun j8 ej8 => ?_)
  have tj8 : j8.toInt = r_3.toInt := tl_i2l ej8 rfl
  refine pb_aload_n (pc := 6) d_Book_fourAt_6 0 rfl rfl ?_
  refine pb_iload_n (pc := 7) d_Book_fourAt_7 1 rfl rfl ?_
  refine pb_iconst (pc := 8) (v := 2) d_Book_fourAt_8 (by decide) ?_
  refine pb_iadd (pc := 9) d_Book_fourAt_9 ?_
  refine pb_topi (fun i9 ei9 => ?_)
  try have ti9 : i9.toInt = x.toInt + 2 := ti_add ei9 rfl (by decide) (by omega) (by omega)
  refine pb_callS (pc := 10) (I := i_Book_fourAt) (nA := 2) (rest := [.long j8]) (wr := []) d_Book_fourAt_10 (g_twoAt hl G a Na f i9 (by first | (with_reducible assumption) | omega (splitDisjunctions := false) | assumption | omega | decide) (by first | (with_reducible assumption) | omega (splitDisjunctions := false) | assumption | omega | decide) (by first | (with_reducible assumption) | omega (splitDisjunctions := false) | assumption | omega | decide) F_f) [0] [] (by decide) rfl rfl rfl (by decide) (by decide) k_597 rfl k_118 k_595 k_596 hy_Book_twoAt (by decide) rfl rfl (Nat.le_of_ble_eq_true rfl) (by decide) (fun v9 u11 ch10 => ?_)
  obtain ⟨r_12, rfl⟩ : ∃ z9, z9 = u11 := ⟨_, rfl⟩
  obtain ⟨ech10, ch10⟩ := ch10
  have ech10 : v9 = some (.int r_12) := ech10
  subst ech10
  obtain ⟨fh13, fh14, fh15, fh16⟩ : (0 ≤ r_12.toInt) ∧ (r_12.toInt ≤ 65535) ∧ (r_12.toInt = tw f i9.toInt) ∧ (r_12.toInt = av f i9.toInt 2) := ch10
  have u2F := fh16
  rw [show i9.toInt = x.toInt + 2 by omega] at u2F
  have u2Z := fh13
  refine pb_eq (pc' := 13) (lo' := [(0, .ref a), (1, .int x)]) (rest' := [.int r_12, .long j8]) (ws' := [(a, .inl (G.2.1, Na, .inl f))]) ?_
  refine pb_i2l (pc := 13) d_Book_fourAt_13 rfl ?_
  refine pb_topl (fun j17 ej17 => ?_)
  have tj17 : j17.toInt = r_12.toInt := tl_i2l ej17 rfl
  refine pb_bipush (pc := 14) (v := 16) d_Book_fourAt_14 (by decide) ?_
  refine pb_lshl (pc := 16) d_Book_fourAt_16 rfl ?_
  refine pb_topl (fun j18 ej18 => ?_)
  try have tj18 : j18.toInt = j17.toInt * 65536 := tl_shl ej18 rfl 16 (by decide) (by omega) (by omega)
  refine pb_lor (pc := 17) d_Book_fourAt_17 ?_
  refine pb_topl (fun j19 ej19 => ?_)
  have tj19 : 0 ≤ j19.toInt ∧ j19.toInt < 4294967296 := tl_or 32 ej19 rfl rfl (by omega) (by omega) (by omega) (by omega) (by decide)
  exact pb_lret (pc := 18) hQ d_Book_fourAt_18 rfl (j19) ⟨rfl, (by (try dsimp only); first | done | (with_reducible assumption) | omega (splitDisjunctions := false) | assumption | omega | decide), (by (try dsimp only); first | done | (with_reducible assumption) | omega (splitDisjunctions := false) | assumption | omega | decide), (show j19.toInt = av f x.toInt 4 from (by have q9 := tl_orv (c := 65536) 16 (show _ = _ ||| _ by assumption) (by omega) (by omega) (by decide) u1Z (by omega) u2Z; rw [q9, av4_2]; omega))⟩ [0] (by decide) rfl rfl (by decide) (by decide)
theorem d_Row_putByte_0 : decode prog_9_method_2_code 0 = .ok (.aload_n 0, 1) := by decide +kernel
theorem d_Row_putByte_1 : decode prog_9_method_2_code 1 = .ok (.getfield 13, 3) := by decide +kernel
theorem k_162 : (Jvm.Cond.fieldLink "PackageBook$Row" (13 : Nat) "PackageBook$Row" "size" "I") ∈ uW := uW_c0 45 rfl (by decide +kernel)
theorem d_Row_putByte_4 : decode prog_9_method_2_code 4 = .ok (.aload_n 0, 1) := by decide +kernel
theorem d_Row_putByte_5 : decode prog_9_method_2_code 5 = .ok (.getfield 7, 3) := by decide +kernel
theorem d_Row_putByte_8 : decode prog_9_method_2_code 8 = .ok (.arraylength, 1) := by decide +kernel
theorem d_Row_putByte_9 : decode prog_9_method_2_code 9 = .ok (.if_icmp .ge 24, 3) := by decide +kernel
theorem d_Row_putByte_12 : decode prog_9_method_2_code 12 = .ok (.aload_n 0, 1) := by decide +kernel
theorem d_Row_putByte_13 : decode prog_9_method_2_code 13 = .ok (.getfield 7, 3) := by decide +kernel
theorem d_Row_putByte_16 : decode prog_9_method_2_code 16 = .ok (.aload_n 0, 1) := by decide +kernel
theorem d_Row_putByte_17 : decode prog_9_method_2_code 17 = .ok (.getfield 13, 3) := by decide +kernel
theorem d_Row_putByte_20 : decode prog_9_method_2_code 20 = .ok (.iload_n 1, 1) := by decide +kernel
theorem d_Row_putByte_21 : decode prog_9_method_2_code 21 = .ok (.i2b, 1) := by decide +kernel
theorem d_Row_putByte_22 : decode prog_9_method_2_code 22 = .ok (.bastore, 1) := by decide +kernel
theorem d_Row_putByte_23 : decode prog_9_method_2_code 23 = .ok (.aload_n 0, 1) := by decide +kernel
theorem d_Row_putByte_24 : decode prog_9_method_2_code 24 = .ok (.dup, 1) := by decide +kernel
theorem d_Row_putByte_25 : decode prog_9_method_2_code 25 = .ok (.getfield 13, 3) := by decide +kernel
theorem d_Row_putByte_28 : decode prog_9_method_2_code 28 = .ok (.iconst 1, 1) := by decide +kernel
theorem d_Row_putByte_29 : decode prog_9_method_2_code 29 = .ok (.iadd, 1) := by decide +kernel
theorem d_Row_putByte_30 : decode prog_9_method_2_code 30 = .ok (.putfield 13, 3) := by decide +kernel
theorem d_Row_putByte_33 : decode prog_9_method_2_code 33 = .ok (.return_, 1) := by decide +kernel
abbrev y_Row_putByte : MethodName := ⟨"PackageBook$Row", "putByte", "(I)V"⟩
abbrev i_Row_putByte : pb_I := (y_Row_putByte, prog_9_method_2_code, 2, (Option.none : Option Jvm.ClassFile.FieldType), [], { frames := 0, cells := 0, slots := 0, locals := 0 })
set_option maxRecDepth 100000 in
set_option maxHeartbeats 4000000 in
theorem g_Row_putByte {l : Launch} (hl : l.stackTraces = false) (G : pb_G) (h : Nat) (b : Nat) (N : Nat) (f : Nat → Int32) (sz : Int32) (v : Int32) (h0 : 0 ≤ sz.toInt) (h1 : sz.toInt + 1 ≤ N) (hN : N ≤ 100000) (F_f : sb_Fit f) : Cn l G i_Row_putByte [.ref h, .int v] [(h, .inr (0, [.ref b, .int sz])), (b, .inl (G.2.1, N, .inl f))] (S := Int32 × (Nat → Int32)) (fun rv_ u => rv_ = none ∧ (u.1.toInt = sz.toInt + 1) ∧ (∀ j : Int, 0 ≤ j → gr u.2 j = if j = sz.toInt then v.toInt8.toInt32 else gr f j) ∧ (sb_Fit u.2)) (fun u => [(h, .inr (0, [.ref b, .int u.1])), (b, .inl (G.2.1, N, .inl u.2))]) := by
  refine Cn.of hl (by decide +kernel) rfl (Nat.le_of_ble_eq_true rfl) (fun M hQ => ?_)
  refine pb_eq (pc' := 0) (lo' := [(0, .ref h), (1, .int v)]) (rest' := []) (ws' := [(h, .inr (0, [.ref b, .int sz])), (b, .inl (G.2.1, N, .inl f))]) ?_
  have zl0 : (0 : Int32).toInt = 0 := by decide
  have zl1 : (1 : Int32).toInt = 1 := by decide
  refine pb_aload_n (pc := 0) d_Row_putByte_0 0 rfl rfl ?_
  refine pb_get (pc := 1) d_Row_putByte_1 0 1 rfl rfl (by decide) in_Row k_162 rfl ?_
  refine pb_aload_n (pc := 4) d_Row_putByte_4 0 rfl rfl ?_
  refine pb_get (pc := 5) d_Row_putByte_5 0 0 rfl rfl (by decide) in_Row k_156 rfl ?_
  refine pb_alen (pc := 8) d_Row_putByte_8 1 0 rfl rfl rfl ?_
  refine pb_topi (fun i1 ei1 => ?_)
  have ti1 : i1.toInt = (N : Int) := ti_ofNat ei1 (by omega)
  refine pb_icmp_ge (pc := 9) (tgt := 33) d_Row_putByte_9 (by decide) (fun h9 => False.elim (by have t9 : i1.toInt ≤ sz.toInt := (ti_le rfl rfl).mp h9; omega)) (fun w2 => ?_)
  have tw2 : ¬ i1.toInt ≤ sz.toInt := fun z9 => w2 ((ti_le rfl rfl).mpr z9)
  refine pb_aload_n (pc := 12) d_Row_putByte_12 0 rfl rfl ?_
  refine pb_get (pc := 13) d_Row_putByte_13 0 0 rfl rfl (by decide) in_Row k_156 rfl ?_
  refine pb_aload_n (pc := 16) d_Row_putByte_16 0 rfl rfl ?_
  refine pb_get (pc := 17) d_Row_putByte_17 0 1 rfl rfl (by decide) in_Row k_162 rfl ?_
  refine pb_iload_n (pc := 20) d_Row_putByte_20 1 rfl rfl ?_
  refine pb_i2b (pc := 21) d_Row_putByte_21 rfl ?_
  refine pb_topi (fun i3 ei3 => ?_)
  have ti3 : -128 ≤ i3.toInt ∧ i3.toInt ≤ 127 := ti_i2b ei3
  refine pb_bast (pc := 22) (ws' := [(h, .inr (0, [.ref b, .int sz])), (b, .inl (G.2.1, N, .inl (upd f ((sz : Int32).toNatClampNeg) (vp_nar .byte i3))))]) d_Row_putByte_22 1 rfl (vp_in_iff.mpr (by constructor <;> omega)) rfl ?_
  refine pb_aload_n (pc := 23) d_Row_putByte_23 0 rfl rfl ?_
  refine pb_dup (pc := 24) d_Row_putByte_24 rfl ?_
  refine pb_get (pc := 25) d_Row_putByte_25 0 1 rfl rfl (by decide) in_Row k_162 rfl ?_
  refine pb_iconst (pc := 28) (v := 1) d_Row_putByte_28 (by decide) ?_
  refine pb_iadd (pc := 29) d_Row_putByte_29 ?_
  refine pb_topi (fun i4 ei4 => ?_)
  try have ti4 : i4.toInt = sz.toInt + 1 := ti_add ei4 rfl (by decide) (by omega) (by omega)
  refine pb_put (pc := 30) (ty := .int) (ws' := [(h, .inr (0, [.ref b, .int i4])), (b, .inl (G.2.1, N, .inl (upd f ((sz : Int32).toNatClampNeg) (vp_nar .byte i3))))]) d_Row_putByte_30 0 1 t_Row t_Row_ok n_Row rfl rfl (by decide) in_Row k_162 rfl (by decide +kernel) rfl rfl (Nat.le_of_ble_eq_true rfl) rfl ?_
  exact pb_vret (pc := 33) hQ d_Row_putByte_33 rfl (i4, (upd f ((sz : Int32).toNatClampNeg) (vp_nar .byte i3))) ⟨rfl, (by (try dsimp only); first | done | (with_reducible assumption) | omega (splitDisjunctions := false) | assumption | omega | decide), (show ∀ j : Int, 0 ≤ j → gr (upd f ((sz : Int32).toNatClampNeg) (vp_nar .byte i3)) j = if j = sz.toInt then v.toInt8.toInt32 else gr f j from (fun j hj => by rw [gr_updb rfl j h0 hj]; simp only [ei3, ei4, bz_nn])), (sb_fitU F_f (fit_nar _))⟩ [0, 1] (by decide) rfl rfl (by decide) (by decide)

theorem d_Row_putTwo_0 : decode prog_9_method_3_code 0 = .ok (.aload_n 0, 1) := by decide +kernel
theorem d_Row_putTwo_1 : decode prog_9_method_3_code 1 = .ok (.iload_n 1, 1) := by decide +kernel
theorem d_Row_putTwo_2 : decode prog_9_method_3_code 2 = .ok (.invokevirtual 17, 3) := by decide +kernel
theorem k_552 : (Jvm.Cond.methodLink "PackageBook$Row" (17 : Nat) ({ cls := "PackageBook$Row", name := "putByte", desc := "(I)V" } : Jvm.MethodName)) ∈ uW := uW_c1 195 rfl (by decide +kernel)
theorem k_555 : (Jvm.Cond.code ({ cls := "PackageBook$Row", name := "putByte", desc := "(I)V" } : Jvm.MethodName) prog_9_method_2_code (2 : Nat) (Option.none : Option Jvm.ClassFile.FieldType)) ∈ uW := uW_c1 198 rfl (by decide +kernel)
theorem k_553 : (Jvm.Cond.instanceMethod ({ cls := "PackageBook$Row", name := "putByte", desc := "(I)V" } : Jvm.MethodName)) ∈ uW := uW_c1 196 rfl (by decide +kernel)
theorem k_554 : (Jvm.Cond.selects "PackageBook$Row" ({ cls := "PackageBook$Row", name := "putByte", desc := "(I)V" } : Jvm.MethodName) ({ cls := "PackageBook$Row", name := "putByte", desc := "(I)V" } : Jvm.MethodName)) ∈ uW := uW_c1 197 rfl (by decide +kernel)
theorem hy_Row_putByte : (y_Row_putByte).cls ≠ "java/lang/invoke/MethodHandle" ∧ (y_Row_putByte).cls ≠ "java/lang/invoke/VarHandle" ∧ (parseMethodDescriptor (y_Row_putByte).desc).map (fun d => d.parameters.length) = some 1 := by decide +kernel
theorem d_Row_putTwo_5 : decode prog_9_method_3_code 5 = .ok (.aload_n 0, 1) := by decide +kernel
theorem d_Row_putTwo_6 : decode prog_9_method_3_code 6 = .ok (.iload_n 1, 1) := by decide +kernel
theorem d_Row_putTwo_7 : decode prog_9_method_3_code 7 = .ok (.bipush 8, 2) := by decide +kernel
theorem d_Row_putTwo_9 : decode prog_9_method_3_code 9 = .ok (.ishr, 1) := by decide +kernel
theorem d_Row_putTwo_10 : decode prog_9_method_3_code 10 = .ok (.invokevirtual 17, 3) := by decide +kernel
theorem d_Row_putTwo_13 : decode prog_9_method_3_code 13 = .ok (.return_, 1) := by decide +kernel
abbrev y_Row_putTwo : MethodName := ⟨"PackageBook$Row", "putTwo", "(I)V"⟩
abbrev i_Row_putTwo : pb_I := (y_Row_putTwo, prog_9_method_3_code, 2, (Option.none : Option Jvm.ClassFile.FieldType), [], { frames := 1, cells := 0, slots := 0, locals := 21 })
set_option maxRecDepth 100000 in
set_option maxHeartbeats 4000000 in
theorem g_Row_putTwo {l : Launch} (hl : l.stackTraces = false) (G : pb_G) (h : Nat) (b : Nat) (N : Nat) (f : Nat → Int32) (sz : Int32) (v : Int32) (h0 : 0 ≤ sz.toInt) (h1 : sz.toInt + 2 ≤ N) (hN : N ≤ 100000) (F_f : sb_Fit f) : Cn l G i_Row_putTwo [.ref h, .int v] [(h, .inr (0, [.ref b, .int sz])), (b, .inl (G.2.1, N, .inl f))] (S := Int32 × (Nat → Int32)) (fun rv_ u => rv_ = none ∧ (u.1.toInt = sz.toInt + 2) ∧ (ap_ f sz.toInt u.2 u.1.toInt (nk_ v.toInt 2)) ∧ (sb_Fit u.2)) (fun u => [(h, .inr (0, [.ref b, .int u.1])), (b, .inl (G.2.1, N, .inl u.2))]) := by
  refine Cn.of hl (by decide +kernel) rfl (Nat.le_of_ble_eq_true rfl) (fun M hQ => ?_)
  refine pb_eq (pc' := 0) (lo' := [(0, .ref h), (1, .int v)]) (rest' := []) (ws' := [(h, .inr (0, [.ref b, .int sz])), (b, .inl (G.2.1, N, .inl f))]) ?_
  have zl0 : (0 : Int32).toInt = 0 := by decide
  have zl1 : (1 : Int32).toInt = 1 := by decide
  have zl8 : (8 : Int32).toInt = 8 := by decide
  refine pb_aload_n (pc := 0) d_Row_putTwo_0 0 rfl rfl ?_
  refine pb_iload_n (pc := 1) d_Row_putTwo_1 1 rfl rfl ?_
  refine pb_callV (pc := 2) (I := i_Row_putTwo) (qb := 0) (ci := 0) (nA := 1) (rest := []) (wr := []) d_Row_putTwo_2 (g_Row_putByte hl G h b N f sz v (by first | (with_reducible assumption) | omega (splitDisjunctions := false) | assumption | omega | decide) (by first | (with_reducible assumption) | omega (splitDisjunctions := false) | assumption | omega | decide) (by first | (with_reducible assumption) | omega (splitDisjunctions := false) | assumption | omega | decide) F_f) rfl rfl [0, 1] [] (by decide) rfl rfl rfl (by decide) (by decide) k_555 rfl k_119 k_552 k_553 k_554 ⟨rfl, hy_Row_putByte⟩ (by decide) rfl rfl (Nat.le_of_ble_eq_true rfl) (by decide) (fun v9 u2 ch1 => ?_)
  obtain ⟨s_3, f_4⟩ := u2
  obtain ⟨ech1, ch1⟩ := ch1
  have ech1 : v9 = none := ech1
  subst ech1
  obtain ⟨fh5, fh6, fh7⟩ : (s_3.toInt = sz.toInt + 1) ∧ (∀ j : Int, 0 ≤ j → gr f_4 j = if j = sz.toInt then v.toInt8.toInt32 else gr f j) ∧ (sb_Fit f_4) := ch1
  have a1 := fh6
  refine pb_eq (pc' := 5) (lo' := [(0, .ref h), (1, .int v)]) (rest' := []) (ws' := [(h, .inr (0, [.ref b, .int s_3])), (b, .inl (G.2.1, N, .inl f_4))]) ?_
  refine pb_aload_n (pc := 5) d_Row_putTwo_5 0 rfl rfl ?_
  refine pb_iload_n (pc := 6) d_Row_putTwo_6 1 rfl rfl ?_
  refine pb_bipush (pc := 7) (v := 8) d_Row_putTwo_7 (by decide) ?_
  refine pb_ishr (pc := 9) d_Row_putTwo_9 ?_
  refine pb_topi (fun i8 ei8 => ?_)
  have ti8 : i8.toInt = v.toInt / 256 := ti_shr ei8 rfl 8 (by decide) (by decide)
  refine pb_callV (pc := 10) (I := i_Row_putTwo) (qb := 0) (ci := 0) (nA := 1) (rest := []) (wr := []) d_Row_putTwo_10 (g_Row_putByte hl G h b N f_4 s_3 i8 (by first | (with_reducible assumption) | omega (splitDisjunctions := false) | assumption | omega | decide) (by first | (with_reducible assumption) | omega (splitDisjunctions := false) | assumption | omega | decide) (by first | (with_reducible assumption) | omega (splitDisjunctions := false) | assumption | omega | decide) fh7) rfl rfl [0, 1] [] (by decide) rfl rfl rfl (by decide) (by decide) k_555 rfl k_119 k_552 k_553 k_554 ⟨rfl, hy_Row_putByte⟩ (by decide) rfl rfl (Nat.le_of_ble_eq_true rfl) (by decide) (fun v9 u10 ch9 => ?_)
  obtain ⟨s_11, f_12⟩ := u10
  obtain ⟨ech9, ch9⟩ := ch9
  have ech9 : v9 = none := ech9
  subst ech9
  obtain ⟨fh13, fh14, fh15⟩ : (s_11.toInt = s_3.toInt + 1) ∧ (∀ j : Int, 0 ≤ j → gr f_12 j = if j = s_3.toInt then i8.toInt8.toInt32 else gr f_4 j) ∧ (sb_Fit f_12) := ch9
  have a2 := fh14
  refine pb_eq (pc' := 13) (lo' := [(0, .ref h), (1, .int v)]) (rest' := []) (ws' := [(h, .inr (0, [.ref b, .int s_11])), (b, .inl (G.2.1, N, .inl f_12))]) ?_
  exact pb_vret (pc := 13) hQ d_Row_putTwo_13 rfl (s_11, f_12) ⟨rfl, (by (try dsimp only); first | done | (with_reducible assumption) | omega (splitDisjunctions := false) | assumption | omega | decide), (show ap_ f sz.toInt f_12 s_11.toInt (nk_ v.toInt 2) from (ap_e (ap_app h0 (ap_1 (by omega) h0 a1 (by_E rfl)) (ap_1 (by omega) (by omega) a2 (by_E (by omega)))) (nk_2 _).symm)), fh15⟩ [0, 1] (by decide) rfl rfl (by decide) (by decide)

theorem d_Row_putFour_0 : decode prog_9_method_4_code 0 = .ok (.aload_n 0, 1) := by decide +kernel
theorem d_Row_putFour_1 : decode prog_9_method_4_code 1 = .ok (.iload_n 1, 1) := by decide +kernel
theorem d_Row_putFour_2 : decode prog_9_method_4_code 2 = .ok (.invokevirtual 21, 3) := by decide +kernel
theorem k_548 : (Jvm.Cond.methodLink "PackageBook$Row" (21 : Nat) ({ cls := "PackageBook$Row", name := "putTwo", desc := "(I)V" } : Jvm.MethodName)) ∈ uW := uW_c1 191 rfl (by decide +kernel)
theorem k_551 : (Jvm.Cond.code ({ cls := "PackageBook$Row", name := "putTwo", desc := "(I)V" } : Jvm.MethodName) prog_9_method_3_code (2 : Nat) (Option.none : Option Jvm.ClassFile.FieldType)) ∈ uW := uW_c1 194 rfl (by decide +kernel)
theorem k_549 : (Jvm.Cond.instanceMethod ({ cls := "PackageBook$Row", name := "putTwo", desc := "(I)V" } : Jvm.MethodName)) ∈ uW := uW_c1 192 rfl (by decide +kernel)
theorem k_550 : (Jvm.Cond.selects "PackageBook$Row" ({ cls := "PackageBook$Row", name := "putTwo", desc := "(I)V" } : Jvm.MethodName) ({ cls := "PackageBook$Row", name := "putTwo", desc := "(I)V" } : Jvm.MethodName)) ∈ uW := uW_c1 193 rfl (by decide +kernel)
theorem hy_Row_putTwo : (y_Row_putTwo).cls ≠ "java/lang/invoke/MethodHandle" ∧ (y_Row_putTwo).cls ≠ "java/lang/invoke/VarHandle" ∧ (parseMethodDescriptor (y_Row_putTwo).desc).map (fun d => d.parameters.length) = some 1 := by decide +kernel
theorem d_Row_putFour_5 : decode prog_9_method_4_code 5 = .ok (.aload_n 0, 1) := by decide +kernel
theorem d_Row_putFour_6 : decode prog_9_method_4_code 6 = .ok (.iload_n 1, 1) := by decide +kernel
theorem d_Row_putFour_7 : decode prog_9_method_4_code 7 = .ok (.bipush 16, 2) := by decide +kernel
theorem d_Row_putFour_9 : decode prog_9_method_4_code 9 = .ok (.ishr, 1) := by decide +kernel
theorem d_Row_putFour_10 : decode prog_9_method_4_code 10 = .ok (.invokevirtual 21, 3) := by decide +kernel
theorem d_Row_putFour_13 : decode prog_9_method_4_code 13 = .ok (.return_, 1) := by decide +kernel
abbrev y_Row_putFour : MethodName := ⟨"PackageBook$Row", "putFour", "(I)V"⟩
abbrev i_Row_putFour : pb_I := (y_Row_putFour, prog_9_method_4_code, 2, (Option.none : Option Jvm.ClassFile.FieldType), [], { frames := 2, cells := 0, slots := 0, locals := 42 })
set_option maxRecDepth 100000 in
set_option maxHeartbeats 4000000 in
theorem g_Row_putFour {l : Launch} (hl : l.stackTraces = false) (G : pb_G) (h : Nat) (b : Nat) (N : Nat) (f : Nat → Int32) (sz : Int32) (v : Int32) (h0 : 0 ≤ sz.toInt) (h1 : sz.toInt + 4 ≤ N) (hN : N ≤ 100000) (F_f : sb_Fit f) : Cn l G i_Row_putFour [.ref h, .int v] [(h, .inr (0, [.ref b, .int sz])), (b, .inl (G.2.1, N, .inl f))] (S := Int32 × (Nat → Int32)) (fun rv_ u => rv_ = none ∧ (u.1.toInt = sz.toInt + 4) ∧ (ap_ f sz.toInt u.2 u.1.toInt (nk_ v.toInt 4)) ∧ (sb_Fit u.2)) (fun u => [(h, .inr (0, [.ref b, .int u.1])), (b, .inl (G.2.1, N, .inl u.2))]) := by
  refine Cn.of hl (by decide +kernel) rfl (Nat.le_of_ble_eq_true rfl) (fun M hQ => ?_)
  refine pb_eq (pc' := 0) (lo' := [(0, .ref h), (1, .int v)]) (rest' := []) (ws' := [(h, .inr (0, [.ref b, .int sz])), (b, .inl (G.2.1, N, .inl f))]) ?_
  have zl0 : (0 : Int32).toInt = 0 := by decide
  have zl1 : (1 : Int32).toInt = 1 := by decide
  have zl16 : (16 : Int32).toInt = 16 := by decide
  refine pb_aload_n (pc := 0) d_Row_putFour_0 0 rfl rfl ?_
  refine pb_iload_n (pc := 1) d_Row_putFour_1 1 rfl rfl ?_
  refine pb_callV (pc := 2) (I := i_Row_putFour) (qb := 0) (ci := 0) (nA := 1) (rest := []) (wr := []) d_Row_putFour_2 (g_Row_putTwo hl G h b N f sz v (by first | (with_reducible assumption) | omega (splitDisjunctions := false) | assumption | omega | decide) (by first | (with_reducible assumption) | omega (splitDisjunctions := false) | assumption | omega | decide) (by first | (with_reducible assumption) | omega (splitDisjunctions := false) | assumption | omega | decide) F_f) rfl rfl [0, 1] [] (by decide) rfl rfl rfl (by decide) (by decide) k_551 rfl k_119 k_548 k_549 k_550 ⟨rfl, hy_Row_putTwo⟩ (by decide) rfl rfl (Nat.le_of_ble_eq_true rfl) (by decide) (fun v9 u2 ch1 => ?_)
  obtain ⟨s_3, f_4⟩ := u2
  obtain ⟨ech1, ch1⟩ := ch1
  have ech1 : v9 = none := ech1
  subst ech1
  obtain ⟨fh5, fh6, fh7⟩ : (s_3.toInt = sz.toInt + 2) ∧ (ap_ f sz.toInt f_4 s_3.toInt (nk_ v.toInt 2)) ∧ (sb_Fit f_4) := ch1
  have a1 := fh6
  refine pb_eq (pc' := 5) (lo' := [(0, .ref h), (1, .int v)]) (rest' := []) (ws' := [(h, .inr (0, [.ref b, .int s_3])), (b, .inl (G.2.1, N, .inl f_4))]) ?_
  refine pb_aload_n (pc := 5) d_Row_putFour_5 0 rfl rfl ?_
  refine pb_iload_n (pc := 6) d_Row_putFour_6 1 rfl rfl ?_
  refine pb_bipush (pc := 7) (v := 16) d_Row_putFour_7 (by decide) ?_
  refine pb_ishr (pc := 9) d_Row_putFour_9 ?_
  refine pb_topi (fun i8 ei8 => ?_)
  have ti8 : i8.toInt = v.toInt / 65536 := ti_shr ei8 rfl 16 (by decide) (by decide)
  refine pb_callV (pc := 10) (I := i_Row_putFour) (qb := 0) (ci := 0) (nA := 1) (rest := []) (wr := []) d_Row_putFour_10 (g_Row_putTwo hl G h b N f_4 s_3 i8 (by first | (with_reducible assumption) | omega (splitDisjunctions := false) | assumption | omega | decide) (by first | (with_reducible assumption) | omega (splitDisjunctions := false) | assumption | omega | decide) (by first | (with_reducible assumption) | omega (splitDisjunctions := false) | assumption | omega | decide) fh7) rfl rfl [0, 1] [] (by decide) rfl rfl rfl (by decide) (by decide) k_551 rfl k_119 k_548 k_549 k_550 ⟨rfl, hy_Row_putTwo⟩ (by decide) rfl rfl (Nat.le_of_ble_eq_true rfl) (by decide) (fun v9 u10 ch9 => ?_)
  obtain ⟨s_11, f_12⟩ := u10
  obtain ⟨ech9, ch9⟩ := ch9
  have ech9 : v9 = none := ech9
  subst ech9
  obtain ⟨fh13, fh14, fh15⟩ : (s_11.toInt = s_3.toInt + 2) ∧ (ap_ f_4 s_3.toInt f_12 s_11.toInt (nk_ i8.toInt 2)) ∧ (sb_Fit f_12) := ch9
  have a2 := fh14
  rw [show i8.toInt = v.toInt / 65536 by omega] at a2
  refine pb_eq (pc' := 13) (lo' := [(0, .ref h), (1, .int v)]) (rest' := []) (ws' := [(h, .inr (0, [.ref b, .int s_11])), (b, .inl (G.2.1, N, .inl f_12))]) ?_
  exact pb_vret (pc := 13) hQ d_Row_putFour_13 rfl (s_11, f_12) ⟨rfl, (by (try dsimp only); first | done | (with_reducible assumption) | omega (splitDisjunctions := false) | assumption | omega | decide), (show ap_ f sz.toInt f_12 s_11.toInt (nk_ v.toInt 4) from (ap_e (ap_app h0 a1 a2) (nk_4 _).symm)), fh15⟩ [0, 1] (by decide) rfl rfl (by decide) (by decide)

theorem d_Row_putBytes_0 : decode prog_9_method_5_code 0 = .ok (.iload_n 3, 1) := by decide +kernel
theorem d_Row_putBytes_1 : decode prog_9_method_5_code 1 = .ok (.aload_n 0, 1) := by decide +kernel
theorem d_Row_putBytes_2 : decode prog_9_method_5_code 2 = .ok (.getfield 7, 3) := by decide +kernel
theorem d_Row_putBytes_5 : decode prog_9_method_5_code 5 = .ok (.arraylength, 1) := by decide +kernel
theorem d_Row_putBytes_6 : decode prog_9_method_5_code 6 = .ok (.aload_n 0, 1) := by decide +kernel
theorem d_Row_putBytes_7 : decode prog_9_method_5_code 7 = .ok (.getfield 13, 3) := by decide +kernel
theorem d_Row_putBytes_10 : decode prog_9_method_5_code 10 = .ok (.isub, 1) := by decide +kernel
theorem d_Row_putBytes_11 : decode prog_9_method_5_code 11 = .ok (.if_icmp .gt 27, 3) := by decide +kernel
theorem d_Row_putBytes_14 : decode prog_9_method_5_code 14 = .ok (.aload_n 1, 1) := by decide +kernel
theorem d_Row_putBytes_15 : decode prog_9_method_5_code 15 = .ok (.iload_n 2, 1) := by decide +kernel
theorem d_Row_putBytes_16 : decode prog_9_method_5_code 16 = .ok (.aload_n 0, 1) := by decide +kernel
theorem d_Row_putBytes_17 : decode prog_9_method_5_code 17 = .ok (.getfield 7, 3) := by decide +kernel
theorem d_Row_putBytes_20 : decode prog_9_method_5_code 20 = .ok (.aload_n 0, 1) := by decide +kernel
theorem d_Row_putBytes_21 : decode prog_9_method_5_code 21 = .ok (.getfield 13, 3) := by decide +kernel
theorem d_Row_putBytes_24 : decode prog_9_method_5_code 24 = .ok (.iload_n 3, 1) := by decide +kernel
theorem d_Row_putBytes_25 : decode prog_9_method_5_code 25 = .ok (.invokestatic 24, 3) := by decide +kernel
theorem k_565 : (Jvm.Cond.methodLink "PackageBook$Row" (24 : Nat) ({ cls := "java/lang/System", name := "arraycopy", desc := "(Ljava/lang/Object;ILjava/lang/Object;II)V" } : Jvm.MethodName)) ∈ uW := uW_c1 208 rfl (by decide +kernel)
theorem k_484 : (Jvm.Cond.native ({ cls := "java/lang/System", name := "arraycopy", desc := "(Ljava/lang/Object;ILjava/lang/Object;II)V" } : Jvm.MethodName)) ∈ uW := uW_c1 127 rfl (by decide +kernel)
theorem k_483 : (Jvm.Cond.static ({ cls := "java/lang/System", name := "arraycopy", desc := "(Ljava/lang/Object;ILjava/lang/Object;II)V" } : Jvm.MethodName)) ∈ uW := uW_c1 126 rfl (by decide +kernel)
theorem k_134 : (Jvm.Cond.initialized "java/lang/System") ∈ uW := uW_c0 17 rfl (by decide +kernel)
theorem d_Row_putBytes_28 : decode prog_9_method_5_code 28 = .ok (.aload_n 0, 1) := by decide +kernel
theorem d_Row_putBytes_29 : decode prog_9_method_5_code 29 = .ok (.dup, 1) := by decide +kernel
theorem d_Row_putBytes_30 : decode prog_9_method_5_code 30 = .ok (.getfield 13, 3) := by decide +kernel
theorem d_Row_putBytes_33 : decode prog_9_method_5_code 33 = .ok (.iload_n 3, 1) := by decide +kernel
theorem d_Row_putBytes_34 : decode prog_9_method_5_code 34 = .ok (.iadd, 1) := by decide +kernel
theorem d_Row_putBytes_35 : decode prog_9_method_5_code 35 = .ok (.putfield 13, 3) := by decide +kernel
theorem d_Row_putBytes_38 : decode prog_9_method_5_code 38 = .ok (.return_, 1) := by decide +kernel
abbrev y_Row_putBytes : MethodName := ⟨"PackageBook$Row", "putBytes", "([BII)V"⟩
abbrev i_Row_putBytes : pb_I := (y_Row_putBytes, prog_9_method_5_code, 4, (Option.none : Option Jvm.ClassFile.FieldType), [], { frames := 1, cells := 0, slots := 0, locals := 60 })
set_option maxRecDepth 100000 in
set_option maxHeartbeats 4000000 in
theorem g_Row_putBytes {l : Launch} (hl : l.stackTraces = false) (G : pb_G) (h : Nat) (b : Nat) (N : Nat) (f : Nat → Int32) (sz : Int32) (c : Nat) (Mc : Nat) (g : Nat → Int32) (x : Int32) (n : Int32) (h0 : 0 ≤ sz.toInt) (h1 : 0 ≤ n.toInt) (h2 : sz.toInt + n.toInt ≤ N) (h3 : 0 ≤ x.toInt) (hN : N ≤ 100000) (h4 : x.toInt + n.toInt ≤ Mc) (hM : Mc ≤ 100000) (F_f : sb_Fit f) (F_g : sb_Fit g) : Cn l G i_Row_putBytes [.ref h, .ref c, .int x, .int n] [(h, .inr (0, [.ref b, .int sz])), (b, .inl (G.2.1, N, .inl f)), (c, .inl (G.2.1, Mc, .inl g))] (S := Int32 × (Nat → Int32)) (fun rv_ u => rv_ = none ∧ (u.1.toInt = sz.toInt + n.toInt) ∧ (∀ j : Int, 0 ≤ j → gr u.2 j = if sz.toInt ≤ j ∧ j < sz.toInt + n.toInt then gr g (x.toInt + (j - sz.toInt)) else gr f j) ∧ (ap_ f sz.toInt u.2 u.1.toInt (bl_ g x.toInt n.toInt)) ∧ (sb_Fit u.2)) (fun u => [(h, .inr (0, [.ref b, .int u.1])), (b, .inl (G.2.1, N, .inl u.2)), (c, .inl (G.2.1, Mc, .inl g))]) := by
  refine Cn.of hl (by decide +kernel) rfl (Nat.le_of_ble_eq_true rfl) (fun M hQ => ?_)
  refine pb_eq (pc' := 0) (lo' := [(0, .ref h), (1, .ref c), (2, .int x), (3, .int n)]) (rest' := []) (ws' := [(h, .inr (0, [.ref b, .int sz])), (b, .inl (G.2.1, N, .inl f)), (c, .inl (G.2.1, Mc, .inl g))]) ?_
  have zl0 : (0 : Int32).toInt = 0 := by decide
  have zl1 : (1 : Int32).toInt = 1 := by decide
  refine pb_iload_n (pc := 0) d_Row_putBytes_0 3 rfl rfl ?_
  refine pb_aload_n (pc := 1) d_Row_putBytes_1 0 rfl rfl ?_
  refine pb_get (pc := 2) d_Row_putBytes_2 0 0 rfl rfl (by decide) in_Row k_156 rfl ?_
  refine pb_alen (pc := 5) d_Row_putBytes_5 1 0 rfl rfl rfl ?_
  refine pb_topi (fun i1 ei1 => ?_)
  have ti1 : i1.toInt = (N : Int) := ti_ofNat ei1 (by omega)
  refine pb_aload_n (pc := 6) d_Row_putBytes_6 0 rfl rfl ?_
  refine pb_get (pc := 7) d_Row_putBytes_7 0 1 rfl rfl (by decide) in_Row k_162 rfl ?_
  refine pb_isub (pc := 10) d_Row_putBytes_10 ?_
  refine pb_topi (fun i2 ei2 => ?_)
  try have ti2 : i2.toInt = i1.toInt - sz.toInt := ti_sub ei2 rfl rfl (by omega) (by omega)
  refine pb_icmp_gt (pc := 11) (tgt := 38) d_Row_putBytes_11 (by decide) (fun h9 => False.elim (by have t9 : i2.toInt < n.toInt := (ti_lt rfl rfl).mp h9; omega)) (fun w3 => ?_)
  have tw3 : ¬ i2.toInt < n.toInt := fun z9 => w3 ((ti_lt rfl rfl).mpr z9)
  refine pb_aload_n (pc := 14) d_Row_putBytes_14 1 rfl rfl ?_
  refine pb_iload_n (pc := 15) d_Row_putBytes_15 2 rfl rfl ?_
  refine pb_aload_n (pc := 16) d_Row_putBytes_16 0 rfl rfl ?_
  refine pb_get (pc := 17) d_Row_putBytes_17 0 0 rfl rfl (by decide) in_Row k_156 rfl ?_
  refine pb_aload_n (pc := 20) d_Row_putBytes_20 0 rfl rfl ?_
  refine pb_get (pc := 21) d_Row_putBytes_21 0 1 rfl rfl (by decide) in_Row k_162 rfl ?_
  refine pb_iload_n (pc := 24) d_Row_putBytes_24 3 rfl rfl ?_
  refine pb_copy (pc := 25) (ws' := [(h, .inr (0, [.ref b, .int sz])), (b, .inl (G.2.1, N, .inl (va_cpy g f (x : Int32).toNatClampNeg (sz : Int32).toNatClampNeg (n : Int32).toNatClampNeg))), (c, .inl (G.2.1, Mc, .inl g))]) d_Row_putBytes_25 0 2 1 rfl rfl rfl rfl k_565 k_484 k_483 k_134 (fun z9 => by have t9 : x.toInt < 0 := (ti_lt rfl (by decide)).mp z9; omega) (fun z9 => by have t9 : sz.toInt < 0 := (ti_lt rfl (by decide)).mp z9; omega) (fun z9 => by have t9 : n.toInt < 0 := (ti_lt rfl (by decide)).mp z9; omega) (by have := ti_clamp (x := x) (by omega); have := ti_clamp (x := n) (by omega); omega) (by have := ti_clamp (x := sz) (by omega); have := ti_clamp (x := n) (by omega); omega) (fun i _ => F_g _) (by decide) (Nat.le_of_ble_eq_true rfl) rfl ?_
  refine pb_aload_n (pc := 28) d_Row_putBytes_28 0 rfl rfl ?_
  refine pb_dup (pc := 29) d_Row_putBytes_29 rfl ?_
  refine pb_get (pc := 30) d_Row_putBytes_30 0 1 rfl rfl (by decide) in_Row k_162 rfl ?_
  refine pb_iload_n (pc := 33) d_Row_putBytes_33 3 rfl rfl ?_
  refine pb_iadd (pc := 34) d_Row_putBytes_34 ?_
  refine pb_topi (fun i4 ei4 => ?_)
  try have ti4 : i4.toInt = sz.toInt + n.toInt := ti_add ei4 rfl rfl (by omega) (by omega)
  refine pb_put (pc := 35) (ty := .int) (ws' := [(h, .inr (0, [.ref b, .int i4])), (b, .inl (G.2.1, N, .inl (va_cpy g f (x : Int32).toNatClampNeg (sz : Int32).toNatClampNeg (n : Int32).toNatClampNeg))), (c, .inl (G.2.1, Mc, .inl g))]) d_Row_putBytes_35 0 1 t_Row t_Row_ok n_Row rfl rfl (by decide) in_Row k_162 rfl (by decide +kernel) rfl rfl (Nat.le_of_ble_eq_true rfl) rfl ?_
  exact pb_vret (pc := 38) hQ d_Row_putBytes_38 rfl (i4, (va_cpy g f (x : Int32).toNatClampNeg (sz : Int32).toNatClampNeg (n : Int32).toNatClampNeg)) ⟨rfl, (by (try dsimp only); first | done | (with_reducible assumption) | omega (splitDisjunctions := false) | assumption | omega | decide), (show ∀ j : Int, 0 ≤ j → gr (va_cpy g f (x : Int32).toNatClampNeg (sz : Int32).toNatClampNeg (n : Int32).toNatClampNeg) j = if sz.toInt ≤ j ∧ j < sz.toInt + n.toInt then gr g (x.toInt + (j - sz.toInt)) else gr f j from (fun j hj => gr_cpy rfl rfl rfl j h3 h0 h1 hj)), (show ap_ f sz.toInt (va_cpy g f (x : Int32).toNatClampNeg (sz : Int32).toNatClampNeg (n : Int32).toNatClampNeg) i4.toInt (bl_ g x.toInt n.toInt) from (ap_bl (by omega) h1 h0 (fun j hj => gr_cpy rfl rfl rfl j h3 h0 h1 hj))), (sb_fitC F_g F_f)⟩ [0, 1, 2] (by decide) rfl rfl (by decide) (by decide)

set_option maxRecDepth 100000 in
set_option maxHeartbeats 4000000 in
theorem g_Row_putBytes1 {l : Launch} (hl : l.stackTraces = false) (G : pb_G) (h : Nat) (b : Nat) (N : Nat) (f : Nat → Int32) (sz : Int32) (x : Int32) (n : Int32) (h0 : 0 ≤ sz.toInt) (h1 : 0 ≤ n.toInt) (h2 : sz.toInt + n.toInt ≤ N) (h3 : 0 ≤ x.toInt) (hN : N ≤ 100000) (h4 : x.toInt + n.toInt ≤ N) (F_f : sb_Fit f) : Cn l G i_Row_putBytes [.ref h, .ref b, .int x, .int n] [(h, .inr (0, [.ref b, .int sz])), (b, .inl (G.2.1, N, .inl f))] (S := Int32 × (Nat → Int32)) (fun rv_ u => rv_ = none ∧ (u.1.toInt = sz.toInt + n.toInt) ∧ (∀ j : Int, 0 ≤ j → gr u.2 j = if sz.toInt ≤ j ∧ j < sz.toInt + n.toInt then gr f (x.toInt + (j - sz.toInt)) else gr f j) ∧ (ap_ f sz.toInt u.2 u.1.toInt (bl_ f x.toInt n.toInt)) ∧ (sb_Fit u.2)) (fun u => [(h, .inr (0, [.ref b, .int u.1])), (b, .inl (G.2.1, N, .inl u.2))]) := by
  refine Cn.of hl (by decide +kernel) rfl (Nat.le_of_ble_eq_true rfl) (fun M hQ => ?_)
  refine pb_eq (pc' := 0) (lo' := [(0, .ref h), (1, .ref b), (2, .int x), (3, .int n)]) (rest' := []) (ws' := [(h, .inr (0, [.ref b, .int sz])), (b, .inl (G.2.1, N, .inl f))]) ?_
  have zl0 : (0 : Int32).toInt = 0 := by decide
  have zl1 : (1 : Int32).toInt = 1 := by decide
  refine pb_iload_n (pc := 0) d_Row_putBytes_0 3 rfl rfl ?_
  refine pb_aload_n (pc := 1) d_Row_putBytes_1 0 rfl rfl ?_
  refine pb_get (pc := 2) d_Row_putBytes_2 0 0 rfl rfl (by decide) in_Row k_156 rfl ?_
  refine pb_alen (pc := 5) d_Row_putBytes_5 1 0 rfl rfl rfl ?_
  refine pb_topi (fun i1 ei1 => ?_)
  have ti1 : i1.toInt = (N : Int) := ti_ofNat ei1 (by omega)
  refine pb_aload_n (pc := 6) d_Row_putBytes_6 0 rfl rfl ?_
  refine pb_get (pc := 7) d_Row_putBytes_7 0 1 rfl rfl (by decide) in_Row k_162 rfl ?_
  refine pb_isub (pc := 10) d_Row_putBytes_10 ?_
  refine pb_topi (fun i2 ei2 => ?_)
  try have ti2 : i2.toInt = i1.toInt - sz.toInt := ti_sub ei2 rfl rfl (by omega) (by omega)
  refine pb_icmp_gt (pc := 11) (tgt := 38) d_Row_putBytes_11 (by decide) (fun h9 => False.elim (by have t9 : i2.toInt < n.toInt := (ti_lt rfl rfl).mp h9; omega)) (fun w3 => ?_)
  have tw3 : ¬ i2.toInt < n.toInt := fun z9 => w3 ((ti_lt rfl rfl).mpr z9)
  refine pb_aload_n (pc := 14) d_Row_putBytes_14 1 rfl rfl ?_
  refine pb_iload_n (pc := 15) d_Row_putBytes_15 2 rfl rfl ?_
  refine pb_aload_n (pc := 16) d_Row_putBytes_16 0 rfl rfl ?_
  refine pb_get (pc := 17) d_Row_putBytes_17 0 0 rfl rfl (by decide) in_Row k_156 rfl ?_
  refine pb_aload_n (pc := 20) d_Row_putBytes_20 0 rfl rfl ?_
  refine pb_get (pc := 21) d_Row_putBytes_21 0 1 rfl rfl (by decide) in_Row k_162 rfl ?_
  refine pb_iload_n (pc := 24) d_Row_putBytes_24 3 rfl rfl ?_
  refine pb_copy (pc := 25) (ws' := [(h, .inr (0, [.ref b, .int sz])), (b, .inl (G.2.1, N, .inl (va_cpy f f (x : Int32).toNatClampNeg (sz : Int32).toNatClampNeg (n : Int32).toNatClampNeg)))]) d_Row_putBytes_25 0 1 1 rfl rfl rfl rfl k_565 k_484 k_483 k_134 (fun z9 => by have t9 : x.toInt < 0 := (ti_lt rfl (by decide)).mp z9; omega) (fun z9 => by have t9 : sz.toInt < 0 := (ti_lt rfl (by decide)).mp z9; omega) (fun z9 => by have t9 : n.toInt < 0 := (ti_lt rfl (by decide)).mp z9; omega) (by have := ti_clamp (x := x) (by omega); have := ti_clamp (x := n) (by omega); omega) (by have := ti_clamp (x := sz) (by omega); have := ti_clamp (x := n) (by omega); omega) (fun i _ => F_f _) (by decide) (Nat.le_of_ble_eq_true rfl) rfl ?_
  refine pb_aload_n (pc := 28) d_Row_putBytes_28 0 rfl rfl ?_
  refine pb_dup (pc := 29) d_Row_putBytes_29 rfl ?_
  refine pb_get (pc := 30) d_Row_putBytes_30 0 1 rfl rfl (by decide) in_Row k_162 rfl ?_
  refine pb_iload_n (pc := 33) d_Row_putBytes_33 3 rfl rfl ?_
  refine pb_iadd (pc := 34) d_Row_putBytes_34 ?_
  refine pb_topi (fun i4 ei4 => ?_)
  try have ti4 : i4.toInt = sz.toInt + n.toInt := ti_add ei4 rfl rfl (by omega) (by omega)
  refine pb_put (pc := 35) (ty := .int) (ws' := [(h, .inr (0, [.ref b, .int i4])), (b, .inl (G.2.1, N, .inl (va_cpy f f (x : Int32).toNatClampNeg (sz : Int32).toNatClampNeg (n : Int32).toNatClampNeg)))]) d_Row_putBytes_35 0 1 t_Row t_Row_ok n_Row rfl rfl (by decide) in_Row k_162 rfl (by decide +kernel) rfl rfl (Nat.le_of_ble_eq_true rfl) rfl ?_
  exact pb_vret (pc := 38) hQ d_Row_putBytes_38 rfl (i4, (va_cpy f f (x : Int32).toNatClampNeg (sz : Int32).toNatClampNeg (n : Int32).toNatClampNeg)) ⟨rfl, (by (try dsimp only); first | done | (with_reducible assumption) | omega (splitDisjunctions := false) | assumption | omega | decide), (show ∀ j : Int, 0 ≤ j → gr (va_cpy f f (x : Int32).toNatClampNeg (sz : Int32).toNatClampNeg (n : Int32).toNatClampNeg) j = if sz.toInt ≤ j ∧ j < sz.toInt + n.toInt then gr f (x.toInt + (j - sz.toInt)) else gr f j from (fun j hj => gr_cpy rfl rfl rfl j h3 h0 h1 hj)), (show ap_ f sz.toInt (va_cpy f f (x : Int32).toNatClampNeg (sz : Int32).toNatClampNeg (n : Int32).toNatClampNeg) i4.toInt (bl_ f x.toInt n.toInt) from (ap_bl (by omega) h1 h0 (fun j hj => gr_cpy rfl rfl rfl j h3 h0 h1 hj))), (sb_fitC F_f F_f)⟩ [0, 1] (by decide) rfl rfl (by decide) (by decide)

theorem d_Row_become_0 : decode prog_9_method_6_code 0 = .ok (.aload_n 0, 1) := by decide +kernel
theorem d_Row_become_1 : decode prog_9_method_6_code 1 = .ok (.iconst 0, 1) := by decide +kernel
theorem d_Row_become_2 : decode prog_9_method_6_code 2 = .ok (.putfield 13, 3) := by decide +kernel
theorem d_Row_become_5 : decode prog_9_method_6_code 5 = .ok (.aload_n 0, 1) := by decide +kernel
theorem d_Row_become_6 : decode prog_9_method_6_code 6 = .ok (.aload_n 1, 1) := by decide +kernel
theorem d_Row_become_7 : decode prog_9_method_6_code 7 = .ok (.getfield 7, 3) := by decide +kernel
theorem d_Row_become_10 : decode prog_9_method_6_code 10 = .ok (.iconst 0, 1) := by decide +kernel
theorem d_Row_become_11 : decode prog_9_method_6_code 11 = .ok (.aload_n 1, 1) := by decide +kernel
theorem d_Row_become_12 : decode prog_9_method_6_code 12 = .ok (.getfield 13, 3) := by decide +kernel
theorem d_Row_become_15 : decode prog_9_method_6_code 15 = .ok (.invokevirtual 30, 3) := by decide +kernel
theorem k_722 : (Jvm.Cond.methodLink "PackageBook$Row" (30 : Nat) ({ cls := "PackageBook$Row", name := "putBytes", desc := "([BII)V" } : Jvm.MethodName)) ∈ uW := uW_c2 125 rfl (by decide +kernel)
theorem k_564 : (Jvm.Cond.code ({ cls := "PackageBook$Row", name := "putBytes", desc := "([BII)V" } : Jvm.MethodName) prog_9_method_5_code (4 : Nat) (Option.none : Option Jvm.ClassFile.FieldType)) ∈ uW := uW_c1 207 rfl (by decide +kernel)
theorem k_562 : (Jvm.Cond.instanceMethod ({ cls := "PackageBook$Row", name := "putBytes", desc := "([BII)V" } : Jvm.MethodName)) ∈ uW := uW_c1 205 rfl (by decide +kernel)
theorem k_563 : (Jvm.Cond.selects "PackageBook$Row" ({ cls := "PackageBook$Row", name := "putBytes", desc := "([BII)V" } : Jvm.MethodName) ({ cls := "PackageBook$Row", name := "putBytes", desc := "([BII)V" } : Jvm.MethodName)) ∈ uW := uW_c1 206 rfl (by decide +kernel)
theorem hy_Row_putBytes : (y_Row_putBytes).cls ≠ "java/lang/invoke/MethodHandle" ∧ (y_Row_putBytes).cls ≠ "java/lang/invoke/VarHandle" ∧ (parseMethodDescriptor (y_Row_putBytes).desc).map (fun d => d.parameters.length) = some 3 := by decide +kernel
theorem d_Row_become_18 : decode prog_9_method_6_code 18 = .ok (.return_, 1) := by decide +kernel
abbrev y_Row_become : MethodName := ⟨"PackageBook$Row", "become", "(LPackageBook$Row;)V"⟩
abbrev i_Row_become : pb_I := (y_Row_become, prog_9_method_6_code, 2, (Option.none : Option Jvm.ClassFile.FieldType), [], { frames := 2, cells := 0, slots := 0, locals := 83 })
set_option maxRecDepth 100000 in
set_option maxHeartbeats 4000000 in
theorem g_Row_become {l : Launch} (hl : l.stackTraces = false) (G : pb_G) (h : Nat) (b : Nat) (N : Nat) (f : Nat → Int32) (sz : Int32) (h2 : Nat) (c : Nat) (Mc : Nat) (g : Nat → Int32) (sy : Int32) (h0 : 0 ≤ sy.toInt) (h1 : sy.toInt ≤ N) (h2_ : sy.toInt ≤ Mc) (hN : N ≤ 100000) (hM : Mc ≤ 100000) (F_f : sb_Fit f) (F_g : sb_Fit g) : Cn l G i_Row_become [.ref h, .ref h2] [(h, .inr (0, [.ref b, .int sz])), (b, .inl (G.2.1, N, .inl f)), (h2, .inr (0, [.ref c, .int sy])), (c, .inl (G.2.1, Mc, .inl g))] (S := Int32 × (Nat → Int32)) (fun rv_ u => rv_ = none ∧ (u.1.toInt = sy.toInt) ∧ (rl_B g u.2 sy.toInt) ∧ (sb_Fit u.2)) (fun u => [(h, .inr (0, [.ref b, .int u.1])), (b, .inl (G.2.1, N, .inl u.2)), (h2, .inr (0, [.ref c, .int sy])), (c, .inl (G.2.1, Mc, .inl g))]) := by
  refine Cn.of hl (by decide +kernel) rfl (Nat.le_of_ble_eq_true rfl) (fun M hQ => ?_)
  refine pb_eq (pc' := 0) (lo' := [(0, .ref h), (1, .ref h2)]) (rest' := []) (ws' := [(h, .inr (0, [.ref b, .int sz])), (b, .inl (G.2.1, N, .inl f)), (h2, .inr (0, [.ref c, .int sy])), (c, .inl (G.2.1, Mc, .inl g))]) ?_
  have zl0 : (0 : Int32).toInt = 0 := by decide
  have zl1 : (1 : Int32).toInt = 1 := by decide
  refine pb_aload_n (pc := 0) d_Row_become_0 0 rfl rfl ?_
  refine pb_iconst (pc := 1) (v := 0) d_Row_become_1 (by decide) ?_
  refine pb_put (pc := 2) (ty := .int) (ws' := [(h, .inr (0, [.ref b, .int 0])), (b, .inl (G.2.1, N, .inl f)), (h2, .inr (0, [.ref c, .int sy])), (c, .inl (G.2.1, Mc, .inl g))]) d_Row_become_2 0 1 t_Row t_Row_ok n_Row rfl rfl (by decide) in_Row k_162 rfl (by decide +kernel) rfl rfl (Nat.le_of_ble_eq_true rfl) rfl ?_
  refine pb_aload_n (pc := 5) d_Row_become_5 0 rfl rfl ?_
  refine pb_aload_n (pc := 6) d_Row_become_6 1 rfl rfl ?_
  refine pb_get (pc := 7) d_Row_become_7 2 0 rfl rfl (by decide) in_Row k_156 rfl ?_
  refine pb_iconst (pc := 10) (v := 0) d_Row_become_10 (by decide) ?_
  refine pb_aload_n (pc := 11) d_Row_become_11 1 rfl rfl ?_
  refine pb_get (pc := 12) d_Row_become_12 2 1 rfl rfl (by decide) in_Row k_162 rfl ?_
  refine pb_callV (pc := 15) (I := i_Row_become) (qb := 0) (ci := 0) (nA := 3) (rest := []) (wr := [(h2, .inr (0, [.ref c, .int sy]))]) d_Row_become_15 (g_Row_putBytes hl G h b N f 0 c Mc g 0 sy (by first | (with_reducible assumption) | omega (splitDisjunctions := false) | assumption | omega | decide) (by first | (with_reducible assumption) | omega (splitDisjunctions := false) | assumption | omega | decide) (by first | (with_reducible assumption) | omega (splitDisjunctions := false) | assumption | omega | decide) (by first | (with_reducible assumption) | omega (splitDisjunctions := false) | assumption | omega | decide) (by first | (with_reducible assumption) | omega (splitDisjunctions := false) | assumption | omega | decide) (by first | (with_reducible assumption) | omega (splitDisjunctions := false) | assumption | omega | decide) (by first | (with_reducible assumption) | omega (splitDisjunctions := false) | assumption | omega | decide) F_f F_g) rfl rfl [0, 1, 3] [2] (by decide) rfl rfl rfl (by decide) (by decide) k_564 rfl k_119 k_722 k_562 k_563 ⟨rfl, hy_Row_putBytes⟩ (by decide) rfl rfl (Nat.le_of_ble_eq_true rfl) (by decide) (fun v9 u2 ch1 => ?_)
  obtain ⟨s_3, f_4⟩ := u2
  obtain ⟨ech1, ch1⟩ := ch1
  have ech1 : v9 = none := ech1
  subst ech1
  obtain ⟨fh5, fh6, fh7, fh8⟩ : (s_3.toInt = (0 : Int32).toInt + sy.toInt) ∧ (∀ j : Int, 0 ≤ j → gr f_4 j = if (0 : Int32).toInt ≤ j ∧ j < (0 : Int32).toInt + sy.toInt then gr g ((0 : Int32).toInt + (j - (0 : Int32).toInt)) else gr f j) ∧ (ap_ f (0 : Int32).toInt f_4 s_3.toInt (bl_ g (0 : Int32).toInt sy.toInt)) ∧ (sb_Fit f_4) := ch1
  have pbF := fh6
  refine pb_eq (pc' := 18) (lo' := [(0, .ref h), (1, .ref h2)]) (rest' := []) (ws' := [(h2, .inr (0, [.ref c, .int sy])), (h, .inr (0, [.ref b, .int s_3])), (b, .inl (G.2.1, N, .inl f_4)), (c, .inl (G.2.1, Mc, .inl g))]) ?_
  exact pb_vret (pc := 18) hQ d_Row_become_18 rfl (s_3, f_4) ⟨rfl, (by (try dsimp only); first | done | (with_reducible assumption) | omega (splitDisjunctions := false) | assumption | omega | decide), (show rl_B g f_4 sy.toInt from (fun j h0 h1 => by rw [pbF j h0, if_pos (by omega)]; exact congrArg (gr g) (by omega))), fh8⟩ [1, 2, 0, 3] (by decide) rfl rfl (by decide) (by decide)
