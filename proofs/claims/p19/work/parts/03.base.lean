/-! The pure layer: pb_P says of a frame (pc, locals, stack) and a world that the machine comes to its goal from there. Heap, locations and slots are inside. -/
abbrev pb_G : Type := va_G × (ClassId × ClassId × ClassId × ClassId × ((Nat → Nat) × (Nat → Nat)))
def pb_T (G : pb_G) : List (ClassId × FieldType) := [(G.2.1, .byte), (G.2.2.1, .int), (G.2.2.2.1, .long), (G.2.2.2.2.1, .boolean)]
/-- a method: name, bytes, locals, what it returns, its handlers, room -/
abbrev pb_I : Type := MethodName × ByteArray × Nat × Option FieldType × List (Nat × Nat × Nat × Nat) × Room
abbrev pi_y (I : pb_I) : MethodName := I.1
abbrev pi_c (I : pb_I) : ByteArray := I.2.1
abbrev pi_n (I : pb_I) : Nat := I.2.2.1
abbrev pi_r (I : pb_I) : Option FieldType := I.2.2.2.1
abbrev pi_h (I : pb_I) : List (Nat × Nat × Nat × Nat) := I.2.2.2.2.1
abbrev pi_R (I : pb_I) : Room := I.2.2.2.2.2
/-- its own word, and the words of all methods -/
def pi_d (I : pb_I) : Cond := match pi_h I with
  | [] => .code (pi_y I) (pi_c I) (pi_n I) (pi_r I)
  | h => .codeWith (pi_y I) (pi_c I) (pi_n I) (pi_r I) h
def pi_w (I : pb_I) : List Cond := pi_d I :: uW
theorem uW_good {w : Cond} (h : w ∈ uW) : (w.onTables && w.keeps) = true ∨ ∃ ty, w = .arrayClass ty := good_of_word (List.mem_filter.mp h).2
theorem pb_gd {J : pb_I} (h : pi_d J ∈ uW) : GoodIn uW (pi_w J) := fun w hw => by
  rcases List.mem_cons.mp hw with rfl | h1
  · exact ⟨h, uW_good h⟩
  · exact ⟨h1, uW_good h1⟩
theorem pb_gdS {own : String} {index : Nat} {J : pb_I} (h : pi_d J ∈ uW) (h1 : Cond.methodLink own index (pi_y J) ∈ uW) (h2 : Cond.static (pi_y J) ∈ uW) (h3 : Cond.initialized (pi_y J).cls ∈ uW) : GoodIn uW (va_wsS own index (pi_y J) (pi_w J)) := fun w hw => by
  rcases List.mem_append.mp hw with h9 | h9
  · simp only [List.mem_cons, List.not_mem_nil, or_false] at h9
    rcases h9 with rfl | rfl | rfl
    · exact ⟨h1, uW_good h1⟩
    · exact ⟨h2, uW_good h2⟩
    · exact ⟨h3, uW_good h3⟩
  · exact pb_gd h w h9
theorem pb_gdV {own C : String} {index : Nat} {J : pb_I} (h : pi_d J ∈ uW) (h1 : Cond.methodLink own index (pi_y J) ∈ uW) (h2 : Cond.instanceMethod (pi_y J) ∈ uW) (h3 : Cond.selects C (pi_y J) (pi_y J) ∈ uW) (h4 : Cond.initialized C ∈ uW) : GoodIn uW (wsV own index C (pi_y J) (pi_w J)) := fun w hw => by
  rcases List.mem_append.mp hw with h9 | h9
  · simp only [List.mem_cons, List.not_mem_nil, or_false] at h9
    rcases h9 with rfl | rfl | rfl | rfl
    · exact ⟨h1, uW_good h1⟩
    · exact ⟨h2, uW_good h2⟩
    · exact ⟨h3, uW_good h3⟩
    · exact ⟨h4, uW_good h4⟩
  · exact pb_gd h w h9
/-- the machine's things of one run of a method -/
abbrev pb_M : Type := (Program × Env × State × MethodId × Array Value) × (List Frame × Method × Code) × ((Nat → Prop) × (State → Prop))
abbrev pm_p (M : pb_M) : Program := M.1.1
abbrev pm_e (M : pb_M) : Env := M.1.2.1
abbrev pm_s (M : pb_M) : State := M.1.2.2.1
abbrev pm_m (M : pb_M) : MethodId := M.1.2.2.2.1
abbrev pm_a (M : pb_M) : Array Value := M.1.2.2.2.2
abbrev pm_b (M : pb_M) : List Frame := M.2.1.1
abbrev pm_h (M : pb_M) : Method := M.2.1.2.1
abbrev pm_c (M : pb_M) : Code := M.2.1.2.2
abbrev pm_A (M : pb_M) : Nat → Prop := M.2.2.1
abbrev pm_Q (M : pb_M) : State → Prop := M.2.2.2
def pb_Ev (l : Launch) (G : pb_G) (M : pb_M) (I : pb_I) : Prop :=
  (pm_p M).tables.exec = Jvm.exec ∧ (pm_c M).code = pi_c I ∧ (pm_c M).maxLocals = pi_n I ∧ (pm_s M).vm.findClass (pi_y I).cls = some (pm_m M).cls ∧
  (∀ w ∈ uW, w.before (pm_a M) (pm_s M) = true) ∧ va_K G.1 vwCl (pb_T G) (pm_s M) ∧ (∀ q, (pm_s M).heap.size ≤ q → pm_A M q) ∧
  (pm_h M).locks = false ∧ ((pi_y I).name = "<init>" → (pm_h M).name = "<init>") ∧ (pm_h M).sig.returnType = pi_r I ∧ l.stackTraces = false ∧ pb_Z G.2.2.2.2.2 (pm_A M) (pm_s M) (pm_s M).heap
def pb_P (l : Launch) (G : pb_G) (M : pb_M) (I : pb_I) (pc : Nat) (lo : List (Nat × Value)) (rest : List Value) (ws : va_W) (ck cn : Nat) : Prop :=
  pb_Ev l G M I → ∀ (H : Heap) (locs : List Loc) (ls : Array Slot), va_P G.1 vwCl ws H → va_D (pm_A M) ws → va_S (pm_A M) (pm_s M).heap H locs → lv_has ls (pi_n I) lo →
    W (pm_p M) l (pm_e M) (pi_R I) (pm_s M) (pm_m M) (pm_a M) (pm_b M) (pm_h M) (pm_c M) H locs ck cn (pm_Q M) (F0 (pm_m M) pc ls rest)
section PB
variable {l : Launch} {G : pb_G} {M : pb_M} {I : pb_I} {pc : Nat} {lo : List (Nat × Value)} {rest : List Value} {ws : va_W} {ck cn : Nat}
theorem pb_hw {J : pb_I} {w : Cond} (h : pi_d J = w) : pi_w J = w :: uW := by show pi_d J :: uW = _; rw [h]
theorem pb_w (E : pb_Ev l G M I) {w : Cond} (h : w ∈ uW) : w.before (pm_a M) (pm_s M) = true := E.2.2.2.2.1 w h
theorem pb_ws (E : pb_Ev l G M I) : ∀ w ∈ uW, w.before (pm_a M) (pm_s M) = true := E.2.2.2.2.1
theorem pb_k (E : pb_Ev l G M I) : va_K G.1 vwCl (pb_T G) (pm_s M) := E.2.2.2.2.2.1
theorem pb_hA (E : pb_Ev l G M I) : ∀ q, (pm_s M).heap.size ≤ q → pm_A M q := E.2.2.2.2.2.2.1
theorem pb_lock (E : pb_Ev l G M I) : (pm_h M).locks = false := E.2.2.2.2.2.2.2.1
theorem pb_name (E : pb_Ev l G M I) : (pi_y I).name = "<init>" → (pm_h M).name = "<init>" := E.2.2.2.2.2.2.2.2.1
theorem pb_ret (E : pb_Ev l G M I) : (pm_h M).sig.returnType = pi_r I := E.2.2.2.2.2.2.2.2.2.1
theorem pb_tr (E : pb_Ev l G M I) : l.stackTraces = false := E.2.2.2.2.2.2.2.2.2.2.1
theorem pb_z (E : pb_Ev l G M I) : pb_Z G.2.2.2.2.2 (pm_A M) (pm_s M) (pm_s M).heap := E.2.2.2.2.2.2.2.2.2.2.2
theorem pb_z3 (E : pb_Ev l G M I) : ∃ t : Nat, va_Z "PackageBook$Expander" "THIRD_ORDER" "[I" (.ref t) (pm_A M) (pm_s M) (pm_s M).heap ∧ va_T .int t 19 (fun j => .int (pb_third.getD j 0)) (pm_A M) (pm_s M) (pm_s M).heap := (pb_z E).1
theorem pb_n (E : pb_Ev l G M I) {w : Cond} (h : w ∈ uN) : w.before (pm_a M) (pm_s M) = true := uN_use h ((pb_z E).2.1 w h)
/-- the same place in other words -/
theorem pb_eq {pc' : Nat} {lo' : List (Nat × Value)} {rest' : List Value} {ws' : va_W} (kk : pb_P l G M I pc' lo' rest' ws' ck cn) (h1 : pc = pc' := by rfl) (h2 : lo = lo' := by rfl) (h3 : rest = rest' := by rfl) (h4 : ws = ws' := by rfl) : pb_P l G M I pc lo rest ws ck cn := by
  subst h1 h2 h3 h4; exact kk
theorem pb_asi {x y : Int32} (h : x = y) (kk : pb_P l G M I pc lo (.int y :: rest) ws ck cn) : pb_P l G M I pc lo (.int x :: rest) ws ck cn := by subst h; exact kk
theorem pb_asl {x y : Int64} (h : x = y) (kk : pb_P l G M I pc lo (.long y :: rest) ws ck cn) : pb_P l G M I pc lo (.long x :: rest) ws ck cn := by subst h; exact kk
theorem pb_topi {x : Int32} (kk : ∀ y : Int32, y = x → pb_P l G M I pc lo (.int y :: rest) ws ck cn) : pb_P l G M I pc lo (.int x :: rest) ws ck cn := kk x rfl
theorem pb_topl {x : Int64} (kk : ∀ y : Int64, y = x → pb_P l G M I pc lo (.long y :: rest) ws ck cn) : pb_P l G M I pc lo (.long x :: rest) ws ck cn := kk x rfl
theorem pb_widen {k' n' : Nat} (h1 : ck ≤ k') (h2 : cn ≤ n') (kk : pb_P l G M I pc lo rest ws k' n') : pb_P l G M I pc lo rest ws ck cn := fun E H locs ls hP hD hS hl => W.widen h1 h2 (kk E H locs ls hP hD hS hl)
theorem pb_iconst {n : Int} {v : Int32} (hdg : decode (pi_c I) pc = .ok (.iconst n, 1)) (hv : Int32.ofInt n = v) (k9 : pb_P l G M I (pc + 1) lo (.int v :: rest) ws ck cn) : pb_P l G M I pc lo (rest) ws ck cn := fun E H locs ls hP hD hS hl => lv_iconst E.1 E.2.1 hdg hv (k9 E H locs ls hP hD hS hl)
theorem pb_bipush {n : Int} {v : Int32} (hdg : decode (pi_c I) pc = .ok (.bipush n, 2)) (hv : (Int8.ofInt n).toInt32 = v) (k9 : pb_P l G M I (pc + 2) lo (.int v :: rest) ws ck cn) : pb_P l G M I pc lo (rest) ws ck cn := fun E H locs ls hP hD hS hl => lv_bipush E.1 E.2.1 hdg hv (k9 E H locs ls hP hD hS hl)
theorem pb_sipush {n : Int} {v : Int32} (hdg : decode (pi_c I) pc = .ok (.sipush n, 3)) (hv : (Int16.ofInt n).toInt32 = v) (k9 : pb_P l G M I (pc + 3) lo (.int v :: rest) ws ck cn) : pb_P l G M I pc lo (rest) ws ck cn := fun E H locs ls hP hD hS hl => lv_sipush E.1 E.2.1 hdg hv (k9 E H locs ls hP hD hS hl)
theorem pb_lconst {n : Fin 2} {v : Int64} (hdg : decode (pi_c I) pc = .ok (.lconst n, 1)) (hv : Int64.ofNat (n : Nat) = v) (k9 : pb_P l G M I (pc + 1) lo (.long v :: rest) ws ck cn) : pb_P l G M I pc lo (rest) ws ck cn := fun E H locs ls hP hD hS hl => lv_lconst E.1 E.2.1 hdg hv (k9 E H locs ls hP hD hS hl)
theorem pb_iadd {x y : Int32} (hdg : decode (pi_c I) pc = .ok (.iadd, 1)) (k9 : pb_P l G M I (pc + 1) lo (.int (x + y) :: rest) ws ck cn) : pb_P l G M I pc lo (.int y :: .int x :: rest) ws ck cn := fun E H locs ls hP hD hS hl => lv_iadd E.1 E.2.1 hdg (k9 E H locs ls hP hD hS hl)
theorem pb_isub {x y : Int32} (hdg : decode (pi_c I) pc = .ok (.isub, 1)) (k9 : pb_P l G M I (pc + 1) lo (.int (x - y) :: rest) ws ck cn) : pb_P l G M I pc lo (.int y :: .int x :: rest) ws ck cn := fun E H locs ls hP hD hS hl => lv_isub E.1 E.2.1 hdg (k9 E H locs ls hP hD hS hl)
theorem pb_imul {x y : Int32} (hdg : decode (pi_c I) pc = .ok (.imul, 1)) (k9 : pb_P l G M I (pc + 1) lo (.int (x * y) :: rest) ws ck cn) : pb_P l G M I pc lo (.int y :: .int x :: rest) ws ck cn := fun E H locs ls hP hD hS hl => lv_imul E.1 E.2.1 hdg (k9 E H locs ls hP hD hS hl)
theorem pb_iand {x y : Int32} (hdg : decode (pi_c I) pc = .ok (.iand, 1)) (k9 : pb_P l G M I (pc + 1) lo (.int (x &&& y) :: rest) ws ck cn) : pb_P l G M I pc lo (.int y :: .int x :: rest) ws ck cn := fun E H locs ls hP hD hS hl => lv_iand E.1 E.2.1 hdg (k9 E H locs ls hP hD hS hl)
theorem pb_ior {x y : Int32} (hdg : decode (pi_c I) pc = .ok (.ior, 1)) (k9 : pb_P l G M I (pc + 1) lo (.int (x ||| y) :: rest) ws ck cn) : pb_P l G M I pc lo (.int y :: .int x :: rest) ws ck cn := fun E H locs ls hP hD hS hl => lv_ior E.1 E.2.1 hdg (k9 E H locs ls hP hD hS hl)
theorem pb_ixor {x y : Int32} (hdg : decode (pi_c I) pc = .ok (.ixor, 1)) (k9 : pb_P l G M I (pc + 1) lo (.int (x ^^^ y) :: rest) ws ck cn) : pb_P l G M I pc lo (.int y :: .int x :: rest) ws ck cn := fun E H locs ls hP hD hS hl => lv_ixor E.1 E.2.1 hdg (k9 E H locs ls hP hD hS hl)
theorem pb_idiv {x y : Int32} (hdg : decode (pi_c I) pc = .ok (.idiv, 1)) (hne : ¬ y = 0) (k9 : pb_P l G M I (pc + 1) lo (.int (x / y) :: rest) ws ck cn) : pb_P l G M I pc lo (.int y :: .int x :: rest) ws ck cn := fun E H locs ls hP hD hS hl => lv_idiv E.1 E.2.1 hdg hne (k9 E H locs ls hP hD hS hl)
theorem pb_irem {x y : Int32} (hdg : decode (pi_c I) pc = .ok (.irem, 1)) (hne : ¬ y = 0) (k9 : pb_P l G M I (pc + 1) lo (.int (x - x / y * y) :: rest) ws ck cn) : pb_P l G M I pc lo (.int y :: .int x :: rest) ws ck cn := fun E H locs ls hP hD hS hl => lv_irem E.1 E.2.1 hdg hne (k9 E H locs ls hP hD hS hl)
theorem pb_ineg {x : Int32} (hdg : decode (pi_c I) pc = .ok (.ineg, 1)) (k9 : pb_P l G M I (pc + 1) lo (.int (-x) :: rest) ws ck cn) : pb_P l G M I pc lo (.int x :: rest) ws ck cn := fun E H locs ls hP hD hS hl => lv_ineg E.1 E.2.1 hdg (k9 E H locs ls hP hD hS hl)
theorem pb_ladd {x y : Int64} (hdg : decode (pi_c I) pc = .ok (.ladd, 1)) (k9 : pb_P l G M I (pc + 1) lo (.long (x + y) :: rest) ws ck cn) : pb_P l G M I pc lo (.long y :: .long x :: rest) ws ck cn := fun E H locs ls hP hD hS hl => lv_ladd E.1 E.2.1 hdg (k9 E H locs ls hP hD hS hl)
theorem pb_lsub {x y : Int64} (hdg : decode (pi_c I) pc = .ok (.lsub, 1)) (k9 : pb_P l G M I (pc + 1) lo (.long (x - y) :: rest) ws ck cn) : pb_P l G M I pc lo (.long y :: .long x :: rest) ws ck cn := fun E H locs ls hP hD hS hl => lv_lsub E.1 E.2.1 hdg (k9 E H locs ls hP hD hS hl)
theorem pb_lmul {x y : Int64} (hdg : decode (pi_c I) pc = .ok (.lmul, 1)) (k9 : pb_P l G M I (pc + 1) lo (.long (x * y) :: rest) ws ck cn) : pb_P l G M I pc lo (.long y :: .long x :: rest) ws ck cn := fun E H locs ls hP hD hS hl => lv_lmul E.1 E.2.1 hdg (k9 E H locs ls hP hD hS hl)
theorem pb_land {x y : Int64} (hdg : decode (pi_c I) pc = .ok (.land, 1)) (k9 : pb_P l G M I (pc + 1) lo (.long (x &&& y) :: rest) ws ck cn) : pb_P l G M I pc lo (.long y :: .long x :: rest) ws ck cn := fun E H locs ls hP hD hS hl => lv_land E.1 E.2.1 hdg (k9 E H locs ls hP hD hS hl)
theorem pb_lor {x y : Int64} (hdg : decode (pi_c I) pc = .ok (.lor, 1)) (k9 : pb_P l G M I (pc + 1) lo (.long (x ||| y) :: rest) ws ck cn) : pb_P l G M I pc lo (.long y :: .long x :: rest) ws ck cn := fun E H locs ls hP hD hS hl => lv_lor E.1 E.2.1 hdg (k9 E H locs ls hP hD hS hl)
theorem pb_lxor {x y : Int64} (hdg : decode (pi_c I) pc = .ok (.lxor, 1)) (k9 : pb_P l G M I (pc + 1) lo (.long (x ^^^ y) :: rest) ws ck cn) : pb_P l G M I pc lo (.long y :: .long x :: rest) ws ck cn := fun E H locs ls hP hD hS hl => lv_lxor E.1 E.2.1 hdg (k9 E H locs ls hP hD hS hl)
theorem pb_lneg {x : Int64} (hdg : decode (pi_c I) pc = .ok (.lneg, 1)) (k9 : pb_P l G M I (pc + 1) lo (.long (-x) :: rest) ws ck cn) : pb_P l G M I pc lo (.long x :: rest) ws ck cn := fun E H locs ls hP hD hS hl => lv_lneg E.1 E.2.1 hdg (k9 E H locs ls hP hD hS hl)
theorem pb_ishl {x y : Int32} (hdg : decode (pi_c I) pc = .ok (.ishl, 1)) (k9 : pb_P l G M I (pc + 1) lo (.int (x <<< (y &&& 31)) :: rest) ws ck cn) : pb_P l G M I pc lo (.int y :: .int x :: rest) ws ck cn := fun E H locs ls hP hD hS hl => lv_ishl E.1 E.2.1 hdg (k9 E H locs ls hP hD hS hl)
theorem pb_ishr {x y : Int32} (hdg : decode (pi_c I) pc = .ok (.ishr, 1)) (k9 : pb_P l G M I (pc + 1) lo (.int (x >>> (y &&& 31)) :: rest) ws ck cn) : pb_P l G M I pc lo (.int y :: .int x :: rest) ws ck cn := fun E H locs ls hP hD hS hl => lv_ishr E.1 E.2.1 hdg (k9 E H locs ls hP hD hS hl)
theorem pb_i2l {x : Int32} {v : Int64} (hdg : decode (pi_c I) pc = .ok (.i2l, 1)) (hv : x.toInt64 = v) (k9 : pb_P l G M I (pc + 1) lo (.long v :: rest) ws ck cn) : pb_P l G M I pc lo (.int x :: rest) ws ck cn := fun E H locs ls hP hD hS hl => lv_i2l E.1 E.2.1 hdg hv (k9 E H locs ls hP hD hS hl)
theorem pb_l2i {x : Int64} {v : Int32} (hdg : decode (pi_c I) pc = .ok (.l2i, 1)) (hv : x.toInt32 = v) (k9 : pb_P l G M I (pc + 1) lo (.int v :: rest) ws ck cn) : pb_P l G M I pc lo (.long x :: rest) ws ck cn := fun E H locs ls hP hD hS hl => lv_l2i E.1 E.2.1 hdg hv (k9 E H locs ls hP hD hS hl)
theorem pb_i2b {x : Int32} {v : Int32} (hdg : decode (pi_c I) pc = .ok (.i2b, 1)) (hv : x.toInt8.toInt32 = v) (k9 : pb_P l G M I (pc + 1) lo (.int v :: rest) ws ck cn) : pb_P l G M I pc lo (.int x :: rest) ws ck cn := fun E H locs ls hP hD hS hl => lv_i2b E.1 E.2.1 hdg hv (k9 E H locs ls hP hD hS hl)
theorem pb_i2s {x : Int32} {v : Int32} (hdg : decode (pi_c I) pc = .ok (.i2s, 1)) (hv : x.toInt16.toInt32 = v) (k9 : pb_P l G M I (pc + 1) lo (.int v :: rest) ws ck cn) : pb_P l G M I pc lo (.int x :: rest) ws ck cn := fun E H locs ls hP hD hS hl => lv_i2s E.1 E.2.1 hdg hv (k9 E H locs ls hP hD hS hl)
theorem pb_i2c {x : Int32} {v : Int32} (hdg : decode (pi_c I) pc = .ok (.i2c, 1)) (hv : (x.toUInt32 % 65536).toInt32 = v) (k9 : pb_P l G M I (pc + 1) lo (.int v :: rest) ws ck cn) : pb_P l G M I pc lo (.int x :: rest) ws ck cn := fun E H locs ls hP hD hS hl => lv_i2c E.1 E.2.1 hdg hv (k9 E H locs ls hP hD hS hl)
theorem pb_iushr {x y v : Int32} (hdg : decode (pi_c I) pc = .ok (.iushr, 1)) (hv : (x.toUInt32 >>> (y.toUInt32 &&& Int32.toUInt32 31)).toInt32 = v) (k9 : pb_P l G M I (pc + 1) lo (.int v :: rest) ws ck cn) : pb_P l G M I pc lo (.int y :: .int x :: rest) ws ck cn := fun E H locs ls hP hD hS hl => lv_iushr E.1 E.2.1 hdg hv (k9 E H locs ls hP hD hS hl)
theorem pb_lushr {x v : Int64} {y : Int32} (hdg : decode (pi_c I) pc = .ok (.lushr, 1)) (hv : (x.toUInt64 >>> (y.toInt64.toUInt64 &&& Int64.toUInt64 63)).toInt64 = v) (k9 : pb_P l G M I (pc + 1) lo (.long v :: rest) ws ck cn) : pb_P l G M I pc lo (.int y :: .long x :: rest) ws ck cn := fun E H locs ls hP hD hS hl => lv_lushr E.1 E.2.1 hdg hv (k9 E H locs ls hP hD hS hl)
theorem pb_lshl {x v : Int64} {y : Int32} (hdg : decode (pi_c I) pc = .ok (.lshl, 1)) (hv : x <<< (y.toInt64 &&& 63) = v) (k9 : pb_P l G M I (pc + 1) lo (.long v :: rest) ws ck cn) : pb_P l G M I pc lo (.int y :: .long x :: rest) ws ck cn := fun E H locs ls hP hD hS hl => lv_lshl E.1 E.2.1 hdg hv (k9 E H locs ls hP hD hS hl)
theorem pb_lshr {x v : Int64} {y : Int32} (hdg : decode (pi_c I) pc = .ok (.lshr, 1)) (hv : x >>> (y.toInt64 &&& 63) = v) (k9 : pb_P l G M I (pc + 1) lo (.long v :: rest) ws ck cn) : pb_P l G M I pc lo (.int y :: .long x :: rest) ws ck cn := fun E H locs ls hP hD hS hl => lv_lshr E.1 E.2.1 hdg hv (k9 E H locs ls hP hD hS hl)
theorem pb_dup {va : Value} (hdg : decode (pi_c I) pc = .ok (.dup, 1)) (hva : va.category = 1) (k9 : pb_P l G M I (pc + 1) lo (va :: va :: rest) ws ck cn) : pb_P l G M I pc lo (va :: rest) ws ck cn := fun E H locs ls hP hD hS hl => lv_dup E.1 E.2.1 hdg hva (k9 E H locs ls hP hD hS hl)
theorem pb_pop {va : Value} (hdg : decode (pi_c I) pc = .ok (.pop, 1)) (hva : va.category = 1) (k9 : pb_P l G M I (pc + 1) lo (rest) ws ck cn) : pb_P l G M I pc lo (va :: rest) ws ck cn := fun E H locs ls hP hD hS hl => lv_pop E.1 E.2.1 hdg hva (k9 E H locs ls hP hD hS hl)
theorem pb_dup_x1 {va vb : Value} (hdg : decode (pi_c I) pc = .ok (.dup_x1, 1)) (hva : va.category = 1) (hvb : vb.category = 1) (k9 : pb_P l G M I (pc + 1) lo (va :: vb :: va :: rest) ws ck cn) : pb_P l G M I pc lo (va :: vb :: rest) ws ck cn := fun E H locs ls hP hD hS hl => lv_dup_x1 E.1 E.2.1 hdg hva hvb (k9 E H locs ls hP hD hS hl)
theorem pb_dup_x2 {va vb vd : Value} (hdg : decode (pi_c I) pc = .ok (.dup_x2, 1)) (hva : va.category = 1) (hvb : vb.category = 1) (hvd : vd.category = 1) (k9 : pb_P l G M I (pc + 1) lo (va :: vb :: vd :: va :: rest) ws ck cn) : pb_P l G M I pc lo (va :: vb :: vd :: rest) ws ck cn := fun E H locs ls hP hD hS hl => lv_dup_x2 E.1 E.2.1 hdg hva hvb hvd (k9 E H locs ls hP hD hS hl)
theorem pb_dup2_11 {va vb : Value} (hdg : decode (pi_c I) pc = .ok (.dup2, 1)) (hva : va.category = 1) (hvb : vb.category = 1) (k9 : pb_P l G M I (pc + 1) lo (va :: vb :: va :: vb :: rest) ws ck cn) : pb_P l G M I pc lo (va :: vb :: rest) ws ck cn := fun E H locs ls hP hD hS hl => lv_dup2_11 E.1 E.2.1 hdg hva hvb (k9 E H locs ls hP hD hS hl)
theorem pb_dup2_2 {va : Value} (hdg : decode (pi_c I) pc = .ok (.dup2, 1)) (hva : va.category = 2) (k9 : pb_P l G M I (pc + 1) lo (va :: va :: rest) ws ck cn) : pb_P l G M I pc lo (va :: rest) ws ck cn := fun E H locs ls hP hD hS hl => lv_dup2_2 E.1 E.2.1 hdg hva (k9 E H locs ls hP hD hS hl)
theorem pb_pop2_2 {va : Value} (hdg : decode (pi_c I) pc = .ok (.pop2, 1)) (hva : va.category = 2) (k9 : pb_P l G M I (pc + 1) lo (rest) ws ck cn) : pb_P l G M I pc lo (va :: rest) ws ck cn := fun E H locs ls hP hD hS hl => lv_pop2_2 E.1 E.2.1 hdg hva (k9 E H locs ls hP hD hS hl)
theorem pb_if_eq {x : Int32} {off : Int} {tgt : Nat} (hdg : decode (pi_c I) pc = .ok (.ifCond .eq off, 3)) (ht : (pc : Int) + off = (tgt : Int)) (kt9 : x = 0 → pb_P l G M I tgt lo rest ws ck cn) (kf9 : ¬ x = 0 → pb_P l G M I (pc + 3) lo rest ws ck cn) : pb_P l G M I pc lo (.int x :: rest) ws ck cn := fun E H locs ls hP hD hS hl => lv_if_eq E.1 E.2.1 hdg ht (fun z9 => kt9 z9 E H locs ls hP hD hS hl) (fun z9 => kf9 z9 E H locs ls hP hD hS hl)
theorem pb_icmp_eq {x y : Int32} {off : Int} {tgt : Nat} (hdg : decode (pi_c I) pc = .ok (.if_icmp .eq off, 3)) (ht : (pc : Int) + off = (tgt : Int)) (kt9 : x = y → pb_P l G M I tgt lo rest ws ck cn) (kf9 : ¬ x = y → pb_P l G M I (pc + 3) lo rest ws ck cn) : pb_P l G M I pc lo (.int y :: .int x :: rest) ws ck cn := fun E H locs ls hP hD hS hl => lv_icmp_eq E.1 E.2.1 hdg ht (fun z9 => kt9 z9 E H locs ls hP hD hS hl) (fun z9 => kf9 z9 E H locs ls hP hD hS hl)
theorem pb_if_ne {x : Int32} {off : Int} {tgt : Nat} (hdg : decode (pi_c I) pc = .ok (.ifCond .ne off, 3)) (ht : (pc : Int) + off = (tgt : Int)) (kt9 : ¬ x = 0 → pb_P l G M I tgt lo rest ws ck cn) (kf9 : x = 0 → pb_P l G M I (pc + 3) lo rest ws ck cn) : pb_P l G M I pc lo (.int x :: rest) ws ck cn := fun E H locs ls hP hD hS hl => lv_if_ne E.1 E.2.1 hdg ht (fun z9 => kt9 z9 E H locs ls hP hD hS hl) (fun z9 => kf9 z9 E H locs ls hP hD hS hl)
theorem pb_icmp_ne {x y : Int32} {off : Int} {tgt : Nat} (hdg : decode (pi_c I) pc = .ok (.if_icmp .ne off, 3)) (ht : (pc : Int) + off = (tgt : Int)) (kt9 : ¬ x = y → pb_P l G M I tgt lo rest ws ck cn) (kf9 : x = y → pb_P l G M I (pc + 3) lo rest ws ck cn) : pb_P l G M I pc lo (.int y :: .int x :: rest) ws ck cn := fun E H locs ls hP hD hS hl => lv_icmp_ne E.1 E.2.1 hdg ht (fun z9 => kt9 z9 E H locs ls hP hD hS hl) (fun z9 => kf9 z9 E H locs ls hP hD hS hl)
theorem pb_if_lt {x : Int32} {off : Int} {tgt : Nat} (hdg : decode (pi_c I) pc = .ok (.ifCond .lt off, 3)) (ht : (pc : Int) + off = (tgt : Int)) (kt9 : x < 0 → pb_P l G M I tgt lo rest ws ck cn) (kf9 : ¬ x < 0 → pb_P l G M I (pc + 3) lo rest ws ck cn) : pb_P l G M I pc lo (.int x :: rest) ws ck cn := fun E H locs ls hP hD hS hl => lv_if_lt E.1 E.2.1 hdg ht (fun z9 => kt9 z9 E H locs ls hP hD hS hl) (fun z9 => kf9 z9 E H locs ls hP hD hS hl)
theorem pb_icmp_lt {x y : Int32} {off : Int} {tgt : Nat} (hdg : decode (pi_c I) pc = .ok (.if_icmp .lt off, 3)) (ht : (pc : Int) + off = (tgt : Int)) (kt9 : x < y → pb_P l G M I tgt lo rest ws ck cn) (kf9 : ¬ x < y → pb_P l G M I (pc + 3) lo rest ws ck cn) : pb_P l G M I pc lo (.int y :: .int x :: rest) ws ck cn := fun E H locs ls hP hD hS hl => lv_icmp_lt E.1 E.2.1 hdg ht (fun z9 => kt9 z9 E H locs ls hP hD hS hl) (fun z9 => kf9 z9 E H locs ls hP hD hS hl)
theorem pb_if_ge {x : Int32} {off : Int} {tgt : Nat} (hdg : decode (pi_c I) pc = .ok (.ifCond .ge off, 3)) (ht : (pc : Int) + off = (tgt : Int)) (kt9 : 0 ≤ x → pb_P l G M I tgt lo rest ws ck cn) (kf9 : ¬ 0 ≤ x → pb_P l G M I (pc + 3) lo rest ws ck cn) : pb_P l G M I pc lo (.int x :: rest) ws ck cn := fun E H locs ls hP hD hS hl => lv_if_ge E.1 E.2.1 hdg ht (fun z9 => kt9 z9 E H locs ls hP hD hS hl) (fun z9 => kf9 z9 E H locs ls hP hD hS hl)
theorem pb_icmp_ge {x y : Int32} {off : Int} {tgt : Nat} (hdg : decode (pi_c I) pc = .ok (.if_icmp .ge off, 3)) (ht : (pc : Int) + off = (tgt : Int)) (kt9 : y ≤ x → pb_P l G M I tgt lo rest ws ck cn) (kf9 : ¬ y ≤ x → pb_P l G M I (pc + 3) lo rest ws ck cn) : pb_P l G M I pc lo (.int y :: .int x :: rest) ws ck cn := fun E H locs ls hP hD hS hl => lv_icmp_ge E.1 E.2.1 hdg ht (fun z9 => kt9 z9 E H locs ls hP hD hS hl) (fun z9 => kf9 z9 E H locs ls hP hD hS hl)
theorem pb_if_gt {x : Int32} {off : Int} {tgt : Nat} (hdg : decode (pi_c I) pc = .ok (.ifCond .gt off, 3)) (ht : (pc : Int) + off = (tgt : Int)) (kt9 : 0 < x → pb_P l G M I tgt lo rest ws ck cn) (kf9 : ¬ 0 < x → pb_P l G M I (pc + 3) lo rest ws ck cn) : pb_P l G M I pc lo (.int x :: rest) ws ck cn := fun E H locs ls hP hD hS hl => lv_if_gt E.1 E.2.1 hdg ht (fun z9 => kt9 z9 E H locs ls hP hD hS hl) (fun z9 => kf9 z9 E H locs ls hP hD hS hl)
theorem pb_icmp_gt {x y : Int32} {off : Int} {tgt : Nat} (hdg : decode (pi_c I) pc = .ok (.if_icmp .gt off, 3)) (ht : (pc : Int) + off = (tgt : Int)) (kt9 : y < x → pb_P l G M I tgt lo rest ws ck cn) (kf9 : ¬ y < x → pb_P l G M I (pc + 3) lo rest ws ck cn) : pb_P l G M I pc lo (.int y :: .int x :: rest) ws ck cn := fun E H locs ls hP hD hS hl => lv_icmp_gt E.1 E.2.1 hdg ht (fun z9 => kt9 z9 E H locs ls hP hD hS hl) (fun z9 => kf9 z9 E H locs ls hP hD hS hl)
theorem pb_if_le {x : Int32} {off : Int} {tgt : Nat} (hdg : decode (pi_c I) pc = .ok (.ifCond .le off, 3)) (ht : (pc : Int) + off = (tgt : Int)) (kt9 : x ≤ 0 → pb_P l G M I tgt lo rest ws ck cn) (kf9 : ¬ x ≤ 0 → pb_P l G M I (pc + 3) lo rest ws ck cn) : pb_P l G M I pc lo (.int x :: rest) ws ck cn := fun E H locs ls hP hD hS hl => lv_if_le E.1 E.2.1 hdg ht (fun z9 => kt9 z9 E H locs ls hP hD hS hl) (fun z9 => kf9 z9 E H locs ls hP hD hS hl)
theorem pb_icmp_le {x y : Int32} {off : Int} {tgt : Nat} (hdg : decode (pi_c I) pc = .ok (.if_icmp .le off, 3)) (ht : (pc : Int) + off = (tgt : Int)) (kt9 : x ≤ y → pb_P l G M I tgt lo rest ws ck cn) (kf9 : ¬ x ≤ y → pb_P l G M I (pc + 3) lo rest ws ck cn) : pb_P l G M I pc lo (.int y :: .int x :: rest) ws ck cn := fun E H locs ls hP hD hS hl => lv_icmp_le E.1 E.2.1 hdg ht (fun z9 => kt9 z9 E H locs ls hP hD hS hl) (fun z9 => kf9 z9 E H locs ls hP hD hS hl)
theorem pb_goto {off : Int} {tgt : Nat} (hdg : decode (pi_c I) pc = .ok (.goto off, 3)) (ht : (pc : Int) + off = (tgt : Int)) (k9 : pb_P l G M I tgt lo rest ws ck cn) : pb_P l G M I pc lo rest ws ck cn := fun E H locs ls hP hD hS hl => lv_goto E.1 E.2.1 hdg ht (k9 E H locs ls hP hD hS hl)
theorem pb_null (hdg : decode (pi_c I) pc = .ok (.aconst_null, 1)) (k9 : pb_P l G M I (pc + 1) lo (.null :: rest) ws ck cn) : pb_P l G M I pc lo rest ws ck cn := fun E H locs ls hP hD hS hl => lv_null E.1 E.2.1 hdg (k9 E H locs ls hP hD hS hl)
theorem pb_ifnull {x : Nat} {off : Int} (hdg : decode (pi_c I) pc = .ok (.ifnull off, 3)) (k9 : pb_P l G M I (pc + 3) lo rest ws ck cn) : pb_P l G M I pc lo (.ref x :: rest) ws ck cn := fun E H locs ls hP hD hS hl => lv_ifnull E.1 E.2.1 hdg (k9 E H locs ls hP hD hS hl)
theorem pb_ifnonnull {x : Nat} {off : Int} {tgt : Nat} (hdg : decode (pi_c I) pc = .ok (.ifnonnull off, 3)) (ht : (pc : Int) + off = (tgt : Int)) (k9 : pb_P l G M I tgt lo rest ws ck cn) : pb_P l G M I pc lo (.ref x :: rest) ws ck cn := fun E H locs ls hP hD hS hl => lv_ifnonnull E.1 E.2.1 hdg ht (k9 E H locs ls hP hD hS hl)
theorem pb_ifnullN {off : Int} {tgt : Nat} (hdg : decode (pi_c I) pc = .ok (.ifnull off, 3)) (ht : (pc : Int) + off = (tgt : Int)) (k9 : pb_P l G M I tgt lo rest ws ck cn) : pb_P l G M I pc lo (.null :: rest) ws ck cn := fun E H locs ls hP hD hS hl => lv_ifnullN E.1 E.2.1 hdg ht (k9 E H locs ls hP hD hS hl)
theorem pb_ifnonnullN {off : Int} (hdg : decode (pi_c I) pc = .ok (.ifnonnull off, 3)) (k9 : pb_P l G M I (pc + 3) lo rest ws ck cn) : pb_P l G M I pc lo (.null :: rest) ws ck cn := fun E H locs ls hP hD hS hl => lv_ifnonnullN E.1 E.2.1 hdg (k9 E H locs ls hP hD hS hl)
theorem pb_iload_n {k : Fin 4} {i : Nat} {x : Int32} (hd : decode (pi_c I) pc = .ok (.iload_n k, 1)) (j : Nat) (hj : lo[j]? = some (i, .int x)) (hi : (k : Nat) = i) (kk : pb_P l G M I (pc + 1) lo (.int x :: rest) ws ck cn) : pb_P l G M I pc lo rest ws ck cn := fun E H locs ls hP hD hS hl => lv_iload_n E.1 E.2.1 hd hi (lv_at hl j hj) (kk E H locs ls hP hD hS hl)
theorem pb_iload {i : Nat} {x : Int32} (hd : decode (pi_c I) pc = .ok (.iload i, 2)) (j : Nat) (hj : lo[j]? = some (i, .int x)) (kk : pb_P l G M I (pc + 2) lo (.int x :: rest) ws ck cn) : pb_P l G M I pc lo rest ws ck cn := fun E H locs ls hP hD hS hl => lv_iload E.1 E.2.1 hd (lv_at hl j hj) (kk E H locs ls hP hD hS hl)
theorem pb_istore_n {k : Fin 4} {i : Nat} {x : Int32} {lo' : List (Nat × Value)} (hd : decode (pi_c I) pc = .ok (.istore_n k, 1)) (hi : (k : Nat) = i) (hn : i < pi_n I) (hl9 : (i, Value.int x) :: lo.filter (fun q => !(q.1 == i) && !(q.1 + 1 == i && q.2.category == 2)) = lo') (kk : pb_P l G M I (pc + 1) lo' rest ws ck cn) : pb_P l G M I pc lo (.int x :: rest) ws ck cn := fun E H locs ls hP hD hS hl => lv_istore_n E.1 E.2.1 hd hi hl hn hl9 (fun ls' hl' => kk E H locs ls' hP hD hS hl')
theorem pb_istore {i : Nat} {x : Int32} {lo' : List (Nat × Value)} (hd : decode (pi_c I) pc = .ok (.istore i, 2)) (hn : i < pi_n I) (hl9 : (i, Value.int x) :: lo.filter (fun q => !(q.1 == i) && !(q.1 + 1 == i && q.2.category == 2)) = lo') (kk : pb_P l G M I (pc + 2) lo' rest ws ck cn) : pb_P l G M I pc lo (.int x :: rest) ws ck cn := fun E H locs ls hP hD hS hl => lv_istore E.1 E.2.1 hd hl hn hl9 (fun ls' hl' => kk E H locs ls' hP hD hS hl')
theorem pb_lload_n {k : Fin 4} {i : Nat} {x : Int64} (hd : decode (pi_c I) pc = .ok (.lload_n k, 1)) (j : Nat) (hj : lo[j]? = some (i, .long x)) (hi : (k : Nat) = i) (kk : pb_P l G M I (pc + 1) lo (.long x :: rest) ws ck cn) : pb_P l G M I pc lo rest ws ck cn := fun E H locs ls hP hD hS hl => lv_lload_n E.1 E.2.1 hd hi (lv_at hl j hj) (kk E H locs ls hP hD hS hl)
theorem pb_lload {i : Nat} {x : Int64} (hd : decode (pi_c I) pc = .ok (.lload i, 2)) (j : Nat) (hj : lo[j]? = some (i, .long x)) (kk : pb_P l G M I (pc + 2) lo (.long x :: rest) ws ck cn) : pb_P l G M I pc lo rest ws ck cn := fun E H locs ls hP hD hS hl => lv_lload E.1 E.2.1 hd (lv_at hl j hj) (kk E H locs ls hP hD hS hl)
theorem pb_lstore_n {k : Fin 4} {i : Nat} {x : Int64} {lo' : List (Nat × Value)} (hd : decode (pi_c I) pc = .ok (.lstore_n k, 1)) (hi : (k : Nat) = i) (hn : i + 1 < pi_n I) (hl9 : (i, Value.long x) :: lo.filter (fun q => !(q.1 == i) && (!(q.1 == i + 1) && !(q.1 + 1 == i && q.2.category == 2))) = lo') (kk : pb_P l G M I (pc + 1) lo' rest ws ck cn) : pb_P l G M I pc lo (.long x :: rest) ws ck cn := fun E H locs ls hP hD hS hl => lv_lstore_n E.1 E.2.1 hd hi hl hn hl9 (fun ls' hl' => kk E H locs ls' hP hD hS hl')
theorem pb_lstore {i : Nat} {x : Int64} {lo' : List (Nat × Value)} (hd : decode (pi_c I) pc = .ok (.lstore i, 2)) (hn : i + 1 < pi_n I) (hl9 : (i, Value.long x) :: lo.filter (fun q => !(q.1 == i) && (!(q.1 == i + 1) && !(q.1 + 1 == i && q.2.category == 2))) = lo') (kk : pb_P l G M I (pc + 2) lo' rest ws ck cn) : pb_P l G M I pc lo (.long x :: rest) ws ck cn := fun E H locs ls hP hD hS hl => lv_lstore E.1 E.2.1 hd hl hn hl9 (fun ls' hl' => kk E H locs ls' hP hD hS hl')
theorem pb_aload_n {k : Fin 4} {i : Nat} {x : Nat} (hd : decode (pi_c I) pc = .ok (.aload_n k, 1)) (j : Nat) (hj : lo[j]? = some (i, .ref x)) (hi : (k : Nat) = i) (kk : pb_P l G M I (pc + 1) lo (.ref x :: rest) ws ck cn) : pb_P l G M I pc lo rest ws ck cn := fun E H locs ls hP hD hS hl => lv_aload_n E.1 E.2.1 hd hi (lv_at hl j hj) (kk E H locs ls hP hD hS hl)
theorem pb_aload {i : Nat} {x : Nat} (hd : decode (pi_c I) pc = .ok (.aload i, 2)) (j : Nat) (hj : lo[j]? = some (i, .ref x)) (kk : pb_P l G M I (pc + 2) lo (.ref x :: rest) ws ck cn) : pb_P l G M I pc lo rest ws ck cn := fun E H locs ls hP hD hS hl => lv_aload E.1 E.2.1 hd (lv_at hl j hj) (kk E H locs ls hP hD hS hl)
theorem pb_astore_n {k : Fin 4} {i : Nat} {x : Nat} {lo' : List (Nat × Value)} (hd : decode (pi_c I) pc = .ok (.astore_n k, 1)) (hi : (k : Nat) = i) (hn : i < pi_n I) (hl9 : (i, Value.ref x) :: lo.filter (fun q => !(q.1 == i) && !(q.1 + 1 == i && q.2.category == 2)) = lo') (kk : pb_P l G M I (pc + 1) lo' rest ws ck cn) : pb_P l G M I pc lo (.ref x :: rest) ws ck cn := fun E H locs ls hP hD hS hl => lv_astore_n E.1 E.2.1 hd hi hl hn hl9 (fun ls' hl' => kk E H locs ls' hP hD hS hl')
theorem pb_astore {i : Nat} {x : Nat} {lo' : List (Nat × Value)} (hd : decode (pi_c I) pc = .ok (.astore i, 2)) (hn : i < pi_n I) (hl9 : (i, Value.ref x) :: lo.filter (fun q => !(q.1 == i) && !(q.1 + 1 == i && q.2.category == 2)) = lo') (kk : pb_P l G M I (pc + 2) lo' rest ws ck cn) : pb_P l G M I pc lo (.ref x :: rest) ws ck cn := fun E H locs ls hP hD hS hl => lv_astore E.1 E.2.1 hd hl hn hl9 (fun ls' hl' => kk E H locs ls' hP hD hS hl')
theorem pb_iinc {i : Nat} {z : Int} {x v : Int32} {lo' : List (Nat × Value)} (hd : decode (pi_c I) pc = .ok (.iinc i z, 3)) (j : Nat) (hj : lo[j]? = some (i, .int x)) (hv : x + Int32.ofInt z = v) (hn : i < pi_n I) (hl9 : (i, Value.int v) :: lo.filter (fun q => !(q.1 == i) && !(q.1 + 1 == i && q.2.category == 2)) = lo') (kk : pb_P l G M I (pc + 3) lo' rest ws ck cn) : pb_P l G M I pc lo rest ws ck cn := fun E H locs ls hP hD hS hl => lv_iinc E.1 E.2.1 hd hl hj hv hn hl9 (fun ls' hl' => kk E H locs ls' hP hD hS hl')
theorem pb_iald {a N : Nat} {f : Nat → Int32} {i : Int32} (hd : decode (pi_c I) pc = .ok (.iaload, 1)) (q0 : Nat) (ha : ws[q0]? = some (a, .inl (G.2.2.1, N, .inl f))) (hin : vp_in i N) (kk : pb_P l G M I (pc + 1) lo (.int (f i.toNatClampNeg) :: rest) ws ck cn) : pb_P l G M I pc lo (.int i :: .ref a :: rest) ws ck cn := fun E H locs ls hP hD hS hl => va_iald E.1 E.2.1 (pb_k E) hP q0 1 ha rfl hin hd (kk E H locs ls hP hD hS hl)
theorem pb_iast {a N : Nat} {f : Nat → Int32} {i : Int32} {x : Int32} {ws' : va_W} (hd : decode (pi_c I) pc = .ok (.iastore, 1)) (q0 : Nat) (ha : ws[q0]? = some (a, .inl (G.2.2.1, N, .inl f))) (hin : vp_in i N) (hw : ws.set q0 (a, .inl (G.2.2.1, N, .inl (upd f i.toNatClampNeg x))) = ws') (kk : pb_P l G M I (pc + 1) lo rest ws' ck cn) : pb_P l G M I pc lo (.int x :: .int i :: .ref a :: rest) ws ck cn := by
  subst hw
  exact fun E H locs ls hP hD hS hl => va_iast E.1 E.2.1 (pb_k E) hP hD hS q0 1 ha rfl hin hd (fun H1 locs1 hP1 hD1 hS1 => kk E H1 locs1 ls hP1 hD1 hS1 hl)
theorem pb_newi {z : Int32} {N : Nat} (hd : decode (pi_c I) pc = .ok (.newarray .int, 2)) (harr : Cond.arrayClass .int ∈ uW) (hn : ¬ z < 0) (hN : z.toNatClampNeg = N) (hb : N * componentBytes .int ≤ 536870912) (hc : ck + 1 ≤ (pi_R I).cells) (hs : cn + N ≤ (pi_R I).slots) (kk : ∀ q : Nat, pb_P l G M I (pc + 2) lo (.ref q :: rest) (ws ++ [(q, .inl (G.2.2.1, N, .inl (fun _ => 0)))]) (ck + 1) (cn + N)) : pb_P l G M I pc lo (.int z :: rest) ws ck cn := fun E H locs ls hP hD hS hl => by
  refine va_newa (a0 := (N, .inl (fun _ => 0))) (N' := N) (ty := .int) E.1 E.2.1 (atype := .int) (pb_w E harr) rfl (pb_k E) hP hD hS (pb_hA E) (fun cA => rfl) hn hN hb hc hs hd (fun q cA H1 hK1 hP1 hD1 hS1 => ?_)
  have hc9 : cA = G.2.2.1 := Option.some.inj ((hK1.2 4 (cA, .int) rfl).2.symm.trans (hK1.2 1 (G.2.2.1, .int) rfl).2)
  subst hc9
  exact kk q E H1 locs ls hP1 hD1 hS1 hl
theorem pb_bald {a N : Nat} {f : Nat → Int32} {i : Int32} (hd : decode (pi_c I) pc = .ok (.baload, 1)) (q0 : Nat) (ha : ws[q0]? = some (a, .inl (G.2.1, N, .inl f))) (hin : vp_in i N) (kk : pb_P l G M I (pc + 1) lo (.int (f i.toNatClampNeg) :: rest) ws ck cn) : pb_P l G M I pc lo (.int i :: .ref a :: rest) ws ck cn := fun E H locs ls hP hD hS hl => va_bald E.1 E.2.1 (pb_k E) hP q0 0 ha rfl hin hd (kk E H locs ls hP hD hS hl)
theorem pb_bast {a N : Nat} {f : Nat → Int32} {i : Int32} {x : Int32} {ws' : va_W} (hd : decode (pi_c I) pc = .ok (.bastore, 1)) (q0 : Nat) (ha : ws[q0]? = some (a, .inl (G.2.1, N, .inl f))) (hin : vp_in i N) (hw : ws.set q0 (a, .inl (G.2.1, N, .inl (upd f i.toNatClampNeg (vp_nar .byte x)))) = ws') (kk : pb_P l G M I (pc + 1) lo rest ws' ck cn) : pb_P l G M I pc lo (.int x :: .int i :: .ref a :: rest) ws ck cn := by
  subst hw
  exact fun E H locs ls hP hD hS hl => va_bast E.1 E.2.1 (pb_k E) hP hD hS q0 0 ha rfl hin hd (fun H1 locs1 hP1 hD1 hS1 => kk E H1 locs1 ls hP1 hD1 hS1 hl)
theorem pb_newb {z : Int32} {N : Nat} (hd : decode (pi_c I) pc = .ok (.newarray .byte, 2)) (harr : Cond.arrayClass .byte ∈ uW) (hn : ¬ z < 0) (hN : z.toNatClampNeg = N) (hb : N * componentBytes .byte ≤ 536870912) (hc : ck + 1 ≤ (pi_R I).cells) (hs : cn + N ≤ (pi_R I).slots) (kk : ∀ q : Nat, pb_P l G M I (pc + 2) lo (.ref q :: rest) (ws ++ [(q, .inl (G.2.1, N, .inl (fun _ => 0)))]) (ck + 1) (cn + N)) : pb_P l G M I pc lo (.int z :: rest) ws ck cn := fun E H locs ls hP hD hS hl => by
  refine va_newa (a0 := (N, .inl (fun _ => 0))) (N' := N) (ty := .byte) E.1 E.2.1 (atype := .byte) (pb_w E harr) rfl (pb_k E) hP hD hS (pb_hA E) (fun cA => rfl) hn hN hb hc hs hd (fun q cA H1 hK1 hP1 hD1 hS1 => ?_)
  have hc9 : cA = G.2.1 := Option.some.inj ((hK1.2 4 (cA, .byte) rfl).2.symm.trans (hK1.2 0 (G.2.1, .byte) rfl).2)
  subst hc9
  exact kk q E H1 locs ls hP1 hD1 hS1 hl
theorem pb_lald {a N : Nat} {f : Nat → Int64} {i : Int32} (hd : decode (pi_c I) pc = .ok (.laload, 1)) (q0 : Nat) (ha : ws[q0]? = some (a, .inl (G.2.2.2.1, N, .inr (.inl f)))) (hin : vp_in i N) (kk : pb_P l G M I (pc + 1) lo (.long (f i.toNatClampNeg) :: rest) ws ck cn) : pb_P l G M I pc lo (.int i :: .ref a :: rest) ws ck cn := fun E H locs ls hP hD hS hl => va_lald E.1 E.2.1 (pb_k E) hP q0 2 ha rfl hin hd (kk E H locs ls hP hD hS hl)
theorem pb_last {a N : Nat} {f : Nat → Int64} {i : Int32} {x : Int64} {ws' : va_W} (hd : decode (pi_c I) pc = .ok (.lastore, 1)) (q0 : Nat) (ha : ws[q0]? = some (a, .inl (G.2.2.2.1, N, .inr (.inl f)))) (hin : vp_in i N) (hw : ws.set q0 (a, .inl (G.2.2.2.1, N, .inr (.inl (vp_updL f i.toNatClampNeg x)))) = ws') (kk : pb_P l G M I (pc + 1) lo rest ws' ck cn) : pb_P l G M I pc lo (.long x :: .int i :: .ref a :: rest) ws ck cn := by
  subst hw
  exact fun E H locs ls hP hD hS hl => va_last E.1 E.2.1 (pb_k E) hP hD hS q0 2 ha rfl hin hd (fun H1 locs1 hP1 hD1 hS1 => kk E H1 locs1 ls hP1 hD1 hS1 hl)
theorem pb_newl {z : Int32} {N : Nat} (hd : decode (pi_c I) pc = .ok (.newarray .long, 2)) (harr : Cond.arrayClass .long ∈ uW) (hn : ¬ z < 0) (hN : z.toNatClampNeg = N) (hb : N * componentBytes .long ≤ 536870912) (hc : ck + 1 ≤ (pi_R I).cells) (hs : cn + N ≤ (pi_R I).slots) (kk : ∀ q : Nat, pb_P l G M I (pc + 2) lo (.ref q :: rest) (ws ++ [(q, .inl (G.2.2.2.1, N, .inr (.inl (fun _ => 0))))]) (ck + 1) (cn + N)) : pb_P l G M I pc lo (.int z :: rest) ws ck cn := fun E H locs ls hP hD hS hl => by
  refine va_newa (a0 := (N, .inr (.inl (fun _ => 0)))) (N' := N) (ty := .long) E.1 E.2.1 (atype := .long) (pb_w E harr) rfl (pb_k E) hP hD hS (pb_hA E) (fun cA => rfl) hn hN hb hc hs hd (fun q cA H1 hK1 hP1 hD1 hS1 => ?_)
  have hc9 : cA = G.2.2.2.1 := Option.some.inj ((hK1.2 4 (cA, .long) rfl).2.symm.trans (hK1.2 2 (G.2.2.2.1, .long) rfl).2)
  subst hc9
  exact kk q E H1 locs ls hP1 hD1 hS1 hl
theorem pb_zald {a N : Nat} {f : Nat → Int32} {i : Int32} (hd : decode (pi_c I) pc = .ok (.baload, 1)) (q0 : Nat) (ha : ws[q0]? = some (a, .inl (G.2.2.2.2.1, N, .inl f))) (hin : vp_in i N) (kk : pb_P l G M I (pc + 1) lo (.int (f i.toNatClampNeg) :: rest) ws ck cn) : pb_P l G M I pc lo (.int i :: .ref a :: rest) ws ck cn := fun E H locs ls hP hD hS hl => va_zald E.1 E.2.1 (pb_k E) hP q0 3 ha rfl hin hd (kk E H locs ls hP hD hS hl)
theorem pb_zast {a N : Nat} {f : Nat → Int32} {i : Int32} {x : Int32} {ws' : va_W} (hd : decode (pi_c I) pc = .ok (.bastore, 1)) (q0 : Nat) (ha : ws[q0]? = some (a, .inl (G.2.2.2.2.1, N, .inl f))) (hin : vp_in i N) (hw : ws.set q0 (a, .inl (G.2.2.2.2.1, N, .inl (upd f i.toNatClampNeg (vp_nar .boolean x)))) = ws') (kk : pb_P l G M I (pc + 1) lo rest ws' ck cn) : pb_P l G M I pc lo (.int x :: .int i :: .ref a :: rest) ws ck cn := by
  subst hw
  exact fun E H locs ls hP hD hS hl => va_zast E.1 E.2.1 (pb_k E) hP hD hS q0 3 ha rfl hin hd (fun H1 locs1 hP1 hD1 hS1 => kk E H1 locs1 ls hP1 hD1 hS1 hl)
theorem pb_newz {z : Int32} {N : Nat} (hd : decode (pi_c I) pc = .ok (.newarray .boolean, 2)) (harr : Cond.arrayClass .boolean ∈ uW) (hn : ¬ z < 0) (hN : z.toNatClampNeg = N) (hb : N * componentBytes .boolean ≤ 536870912) (hc : ck + 1 ≤ (pi_R I).cells) (hs : cn + N ≤ (pi_R I).slots) (kk : ∀ q : Nat, pb_P l G M I (pc + 2) lo (.ref q :: rest) (ws ++ [(q, .inl (G.2.2.2.2.1, N, .inl (fun _ => 0)))]) (ck + 1) (cn + N)) : pb_P l G M I pc lo (.int z :: rest) ws ck cn := fun E H locs ls hP hD hS hl => by
  refine va_newa (a0 := (N, .inl (fun _ => 0))) (N' := N) (ty := .boolean) E.1 E.2.1 (atype := .boolean) (pb_w E harr) rfl (pb_k E) hP hD hS (pb_hA E) (fun cA => rfl) hn hN hb hc hs hd (fun q cA H1 hK1 hP1 hD1 hS1 => ?_)
  have hc9 : cA = G.2.2.2.2.1 := Option.some.inj ((hK1.2 4 (cA, .boolean) rfl).2.symm.trans (hK1.2 3 (G.2.2.2.2.1, .boolean) rfl).2)
  subst hc9
  exact kk q E H1 locs ls hP1 hD1 hS1 hl
theorem pb_alen {a : Nat} {cA : ClassId} {x : vp_A} {v : Int32} (hd : decode (pi_c I) pc = .ok (.arraylength, 1)) (q0 t0 : Nat) (ha : ws[q0]? = some (a, .inl (cA, x))) {ty : FieldType} (ht : (pb_T G)[t0]? = some (cA, ty)) (hv : Int32.ofNat x.1 = v) (kk : pb_P l G M I (pc + 1) lo (.int v :: rest) ws ck cn) : pb_P l G M I pc lo (.ref a :: rest) ws ck cn := fun E H locs ls hP hD hS hl => va_alen E.1 E.2.1 (pb_k E) hP q0 t0 ha ht hv hd (kk E H locs ls hP hD hS hl)

theorem pb_ldc {v : Int32} {index : Nat} (hd : decode (pi_c I) pc = .ok (.ldc index, 2)) (hw : Cond.constant (pi_y I).cls index v ∈ uW) (kk : pb_P l G M I (pc + 2) lo (.int v :: rest) ws ck cn) : pb_P l G M I pc lo rest ws ck cn := fun E H locs ls hP hD hS hl => lv_ldc E.1 E.2.1 E.2.2.2.1 (pb_w E hw) hd (kk E H locs ls hP hD hS hl)
theorem pb_ldc2 {v : Int64} {index : Nat} (hd : decode (pi_c I) pc = .ok (.ldc2_w index, 3)) (hw : Cond.constantLong (pi_y I).cls index v ∈ uW) (kk : pb_P l G M I (pc + 3) lo (.long v :: rest) ws ck cn) : pb_P l G M I pc lo rest ws ck cn := fun E H locs ls hP hD hS hl => lv_ldc2 E.1 E.2.1 E.2.2.2.1 (pb_w E hw) hd (kk E H locs ls hP hD hS hl)
theorem pb_get {C : String} {T : u_T} {N ci index a : Nat} {fs : List Value} {v : Value} (hd : decode (pi_c I) pc = .ok (.getfield index, 3)) (q0 k : Nat) (he : ws[q0]? = some (a, .inr (ci, fs))) (hc : vwCl[ci]? = some (C, T, N)) (hk : k < N) (hin : ∀ w ∈ u_ws C T N, w ∈ uW) (hlink : Cond.fieldLink (pi_y I).cls index (T k).1 (T k).2.1 (T k).2.2.1 ∈ uW) (hv : fs[k]? = some v) (kk : pb_P l G M I (pc + 3) lo (v :: rest) ws ck cn) : pb_P l G M I pc lo (.ref a :: rest) ws ck cn := fun E H locs ls hP hD hS hl => va_get E.1 E.2.1 (pb_ws E) hin E.2.2.2.1 (pb_k E) hP q0 he hc k hk (pb_w E hlink) (fun _ h9 => h9) hv hd (kk E H locs ls hP hD hS hl)
theorem pb_getN {C host : String} {T : u_T} {N ci index a : Nat} {fs : List Value} {v : Value} (hd : decode (pi_c I) pc = .ok (.getfield index, 3)) (q0 k : Nat) (he : ws[q0]? = some (a, .inr (ci, fs))) (hc : vwCl[ci]? = some (C, T, N)) (hk : k < N) (hin : ∀ w ∈ u_ws C T N, w ∈ uW) (hlink : Cond.fieldLinkNest (pi_y I).cls index (T k).1 (T k).2.1 (T k).2.2.1 host ∈ uN) (hv : fs[k]? = some v) (kk : pb_P l G M I (pc + 3) lo (v :: rest) ws ck cn) : pb_P l G M I pc lo (.ref a :: rest) ws ck cn := fun E H locs ls hP hD hS hl => va_getN E.1 E.2.1 (pb_ws E) hin E.2.2.2.1 (pb_k E) hP q0 he hc k hk (pb_n E hlink) (fun _ h9 => h9) hv hd (kk E H locs ls hP hD hS hl)
theorem pb_put {C : String} {T : u_T} {N ci index a : Nat} {fs : List Value} {v : Value} {ty : FieldType} {ws' : va_W} (hd : decode (pi_c I) pc = .ok (.putfield index, 3)) (q0 k : Nat) (ty0 : Nat → FieldType) (hty : ∀ k, k < N → parseFieldDescriptor (T k).2.2.1 = some (ty0 k)) (hnm : ∀ a, a < N → ∀ b, b < N → a ≠ b → (T a).2.1 ≠ (T b).2.1) (he : ws[q0]? = some (a, .inr (ci, fs))) (hc : vwCl[ci]? = some (C, T, N)) (hk : k < N) (hin : ∀ w ∈ u_ws C T N, w ∈ uW) (hlink : Cond.fieldLink (pi_y I).cls index (T k).1 (T k).2.1 (T k).2.2.1 ∈ uW) (hfin : (T k).2.2.2 = false) (h3 : parseFieldDescriptor (T k).2.2.1 = some ty) (h4 : narrow ty v = v) (h5 : fits ty v = true) (h6 : k < fs.length) (hw : ws.set q0 (a, .inr (ci, fs.set k v)) = ws') (kk : pb_P l G M I (pc + 3) lo rest ws' ck cn) : pb_P l G M I pc lo (v :: .ref a :: rest) ws ck cn := by
  subst hw
  exact fun E H locs ls hP hD hS hl => va_put E.1 E.2.1 (pb_ws E) hin ty0 hty hnm E.2.2.2.1 (pb_k E) hP hD hS q0 he hc k hk (pb_w E hlink) (fun _ h9 => h9) hfin h3 h4 h5 h6 hd (fun H1 locs1 hP1 hD1 hS1 => kk E H1 locs1 ls hP1 hD1 hS1 hl)
theorem pb_putN {C host : String} {T : u_T} {N ci index a : Nat} {fs : List Value} {v : Value} {ty : FieldType} {ws' : va_W} (hd : decode (pi_c I) pc = .ok (.putfield index, 3)) (q0 k : Nat) (ty0 : Nat → FieldType) (hty : ∀ k, k < N → parseFieldDescriptor (T k).2.2.1 = some (ty0 k)) (hnm : ∀ a, a < N → ∀ b, b < N → a ≠ b → (T a).2.1 ≠ (T b).2.1) (he : ws[q0]? = some (a, .inr (ci, fs))) (hc : vwCl[ci]? = some (C, T, N)) (hk : k < N) (hin : ∀ w ∈ u_ws C T N, w ∈ uW) (hlink : Cond.fieldLinkNest (pi_y I).cls index (T k).1 (T k).2.1 (T k).2.2.1 host ∈ uN) (hfin : (T k).2.2.2 = false) (h3 : parseFieldDescriptor (T k).2.2.1 = some ty) (h4 : narrow ty v = v) (h5 : fits ty v = true) (h6 : k < fs.length) (hw : ws.set q0 (a, .inr (ci, fs.set k v)) = ws') (kk : pb_P l G M I (pc + 3) lo rest ws' ck cn) : pb_P l G M I pc lo (v :: .ref a :: rest) ws ck cn := by
  subst hw
  exact fun E H locs ls hP hD hS hl => va_putN E.1 E.2.1 (pb_ws E) hin ty0 hty hnm E.2.2.2.1 (pb_k E) hP hD hS q0 he hc k hk (pb_n E hlink) (fun _ h9 => h9) hfin h3 h4 h5 h6 hd (fun H1 locs1 hP1 hD1 hS1 => kk E H1 locs1 ls hP1 hD1 hS1 hl)
theorem pb_putF {C : String} {T : u_T} {N ci index a : Nat} {fs : List Value} {v : Value} {ty : FieldType} {ws' : va_W} (hd : decode (pi_c I) pc = .ok (.putfield index, 3)) (q0 k : Nat) (ty0 : Nat → FieldType) (hty : ∀ k, k < N → parseFieldDescriptor (T k).2.2.1 = some (ty0 k)) (hnm : ∀ a, a < N → ∀ b, b < N → a ≠ b → (T a).2.1 ≠ (T b).2.1) (he : ws[q0]? = some (a, .inr (ci, fs))) (hc : vwCl[ci]? = some (C, T, N)) (hk : k < N) (hin : ∀ w ∈ u_ws C T N, w ∈ uW) (hlink : Cond.fieldLink (pi_y I).cls index (T k).1 (T k).2.1 (T k).2.2.1 ∈ uW) (hfin : (T k).2.2.2 = true) (hin2 : (pi_y I).name = "<init>") (hdecl : (T k).1 = (pi_y I).cls) (h3 : parseFieldDescriptor (T k).2.2.1 = some ty) (h4 : narrow ty v = v) (h5 : fits ty v = true) (h6 : k < fs.length) (hw : ws.set q0 (a, .inr (ci, fs.set k v)) = ws') (kk : pb_P l G M I (pc + 3) lo rest ws' ck cn) : pb_P l G M I pc lo (v :: .ref a :: rest) ws ck cn := by
  subst hw
  exact fun E H locs ls hP hD hS hl => va_putF E.1 E.2.1 (pb_ws E) hin ty0 hty hnm E.2.2.2.1 (pb_k E) hP hD hS q0 he hc k hk (pb_w E hlink) (fun _ h9 => h9) hfin (pb_name E hin2) hdecl h3 h4 h5 h6 hd (fun H1 locs1 hP1 hD1 hS1 => kk E H1 locs1 ls hP1 hD1 hS1 hl)
theorem pb_new {C : String} {T : u_T} {N ci index : Nat} {fs : List Value} (hd : decode (pi_c I) pc = .ok (.new index, 3)) (ty : Nat → FieldType) (hty : ∀ k, k < N → parseFieldDescriptor (T k).2.2.1 = some (ty k)) (hc : vwCl[ci]? = some (C, T, N)) (hin : ∀ w ∈ u_ws C T N, w ∈ uW) (h1 : Cond.classLink (pi_y I).cls index C ∈ uW) (h2 : Cond.instantiable C N ∈ uW) (h3 : Cond.initialized C ∈ uW) (hfs : ∀ j, j < N → defaultValue (ty j) = vp_V fs j) (h4 : ck + 1 ≤ (pi_R I).cells) (h5 : cn + N ≤ (pi_R I).slots) (kk : ∀ q : Nat, pb_P l G M I (pc + 3) lo (.ref q :: rest) (ws ++ [(q, .inr (ci, fs))]) (ck + 1) (cn + N)) : pb_P l G M I pc lo rest ws ck cn := fun E H locs ls hP hD hS hl => va_new E.1 E.2.1 (pb_ws E) hin ty hty E.2.2.2.1 (pb_w E h1) (pb_w E h2) (pb_w E h3) (pb_k E) hP hD hS (pb_hA E) hc hfs h4 h5 hd (fun q H1 hP1 hD1 hS1 => kk q E H1 locs ls hP1 hD1 hS1 hl)
theorem pb_objInit {a index : Nat} (hd : decode (pi_c I) pc = .ok (.invokespecial index, 3)) (h1 : Cond.methodLink (pi_y I).cls index Lib.objectInit ∈ uW) (h2 : Cond.instanceMethod Lib.objectInit ∈ uW) (h3 : Cond.code Lib.objectInit ⟨#[0xb1]⟩ 1 none ∈ uW) (h4 : 1 ≤ (pi_R I).frames) (h5 : (rest.map fun v => v.category).sum + 12 ≤ (pi_R I).locals) (kk : pb_P l G M I (pc + 3) lo rest ws ck cn) : pb_P l G M I pc lo (.ref a :: rest) ws ck cn := fun E H locs ls hP hD hS hl => W.objInit E.1 E.2.1 E.2.2.2.1 (pb_w E h1) (pb_w E h2) (pb_w E h3) rfl (by rw [E.2.2.1]; exact hl.1) rfl hd h4 (by show 2 * 0 + _ + 12 ≤ _; omega) (kk E H locs ls hP hD hS hl)

/-- what a contract leaves behind: an answer v, a picture u of what came of the world -/
def cn_Q {S : Type} (G : pb_G) (A : Nat → Prop) (post : Option Value → S → Prop) (w1 : S → va_W) : Array Value → State → Outcome → State → Prop := fun _ s0 oc t =>
  (∃ (v : Option Value) (u : S), oc = .returned v ∧ post v u ∧ va_P G.1 vwCl (w1 u) t.heap ∧ va_D A (w1 u)) ∧ va_F A s0 t
def cn_B (G : pb_G) (w0 : va_W) (sz : Nat) (U : State) : Prop := U.heap.size = sz ∧ va_P G.1 vwCl w0 U.heap ∧ va_K G.1 vwCl (pb_T G) U ∧ va_D (fun _ => True) w0 ∧ pb_Z G.2.2.2.2.2 (va_A w0 sz) U U.heap
/-- a contract: method I with these arguments in the world w0 returns v with the world w1 u, where post v u -/
def Cn (l : Launch) (G : pb_G) (I : pb_I) (as : List Value) (w0 : va_W) {S : Type} (post : Option Value → S → Prop) (w1 : S → va_W) : Prop :=
  ∀ sz : Nat, Met l (pi_y I) (pi_w I) (pi_R I) (va_Pc as (cn_B G w0 sz)) (cn_Q G (va_A w0 sz) post w1) (pi_R I).cells (pi_R I).slots (va_A w0 sz)
/-- the goal of a method that only returns -/
def pb_Rq {S : Type} (G : pb_G) (M : pb_M) (I : pb_I) (post : Option Value → S → Prop) (w1 : S → va_W) : Prop :=
  pm_Q M = MQ (pm_b M) (cn_Q G (pm_A M) post w1) (pm_a M) (pm_s M) (pi_R I).cells (pi_R I).slots (pm_A M)
theorem pb_iret {S : Type} {post : Option Value → S → Prop} {w1 : S → va_W} {v : Int32} (hQ : pb_Rq G M I post w1) (hd : decode (pi_c I) pc = .ok (.ireturn, 1)) {ty : FieldType} (hr : pi_r I = some ty) (hn : narrow ty (.int v) = .int v) (u : S) (hp : post (some (.int v)) u) (is : List Nat) (h1 : va_nd is = true) (h2 : is.map (fun i => ws[i]?) = (w1 u).map some) (h3 : is.filterMap (fun i => ws[i]?) = w1 u) (h4 : ck ≤ (pi_R I).cells) (h5 : cn ≤ (pi_R I).slots) : pb_P l G M I pc lo [.int v] ws ck cn := fun E H locs ls hP hD hS hl => by
  refine W.widen h4 h5 ?_
  rw [show pm_Q M = _ from hQ]
  exact W.zret E.1 E.2.1 ((pb_ret E).trans hr) hn (fun t ht hW => ⟨⟨_, u, rfl, hp, by rw [ht]; exact hP.sub is h3, hD.sub is h1 h2⟩, hS.F ht⟩) hS.2.2 hd (pb_lock E)
theorem pb_vret {S : Type} {post : Option Value → S → Prop} {w1 : S → va_W} (hQ : pb_Rq G M I post w1) (hd : decode (pi_c I) pc = .ok (.return_, 1)) (hr : pi_r I = none) (u : S) (hp : post none u) (is : List Nat) (h1 : va_nd is = true) (h2 : is.map (fun i => ws[i]?) = (w1 u).map some) (h3 : is.filterMap (fun i => ws[i]?) = w1 u) (h4 : ck ≤ (pi_R I).cells) (h5 : cn ≤ (pi_R I).slots) : pb_P l G M I pc lo [] ws ck cn := fun E H locs ls hP hD hS hl => by
  refine W.widen h4 h5 ?_
  rw [show pm_Q M = _ from hQ]
  exact W.vret E.1 E.2.1 ((pb_ret E).trans hr) (fun t ht hW => ⟨⟨_, u, rfl, hp, by rw [ht]; exact hP.sub is h3, hD.sub is h1 h2⟩, hS.F ht⟩) hS.2.2 hd (pb_lock E)
theorem pb_lret {S : Type} {post : Option Value → S → Prop} {w1 : S → va_W} {v : Int64} (hQ : pb_Rq G M I post w1) (hd : decode (pi_c I) pc = .ok (.lreturn, 1)) (hr : pi_r I = some .long) (u : S) (hp : post (some (.long v)) u) (is : List Nat) (h1 : va_nd is = true) (h2 : is.map (fun i => ws[i]?) = (w1 u).map some) (h3 : is.filterMap (fun i => ws[i]?) = w1 u) (h4 : ck ≤ (pi_R I).cells) (h5 : cn ≤ (pi_R I).slots) : pb_P l G M I pc lo [.long v] ws ck cn := fun E H locs ls hP hD hS hl => by
  refine W.widen h4 h5 ?_
  rw [show pm_Q M = _ from hQ]
  exact W.lret E.1 E.2.1 ((pb_ret E).trans hr) (fun t ht hW => ⟨⟨_, u, rfl, hp, by rw [ht]; exact hP.sub is h3, hD.sub is h1 h2⟩, hS.F ht⟩) hS.2.2 hd (pb_lock E)
theorem Cn.of {S : Type} {as : List Value} {w0 : va_W} {post : Option Value → S → Prop} {w1 : S → va_W} (hl : l.stackTraces = false) (hy : plainName (pi_y I).cls = true) (hw : pi_d I = .code (pi_y I) (pi_c I) (pi_n I) (pi_r I)) (hn : (lg_sl as).length ≤ pi_n I)
    (body : ∀ M : pb_M, pb_Rq G M I post w1 → pb_P l G M I 0 (lv_args 0 as) [] w0 0 0) : Cn l G I as w0 post w1 := by
  intro sz
  refine Met.ofW (cc := pi_c I) (maxL := pi_n I) (ret := pi_r I) hy (pb_hw hw) ?_
  intro p e s m args below meth c s₁ B hml hv
  obtain ⟨rfl, hsz, hP, hK, hD0, hZ⟩ := hv
  subst hsz
  have hl9 := lv_entry as hn
  rw [lg_entry_eq]
  exact body ((p, e, s, m, as.toArray), (below, meth, c), (va_A w0 s.heap.size, MQ below (cn_Q G (va_A w0 s.heap.size) post w1) as.toArray s (pi_R I).cells (pi_R I).slots (va_A w0 s.heap.size))) rfl
    ⟨B.exec, B.bytes, hml, findClass_of_methodNamed B.named, fun w h => atoms_spec (ws := pi_w I) B.pre w (List.mem_cons_of_mem _ h), hK, fun q h => Or.inr h, B.notSynchronized, fun h9 => (name_of_methodNamed B.named B.method).1.trans h9, B.returns, hl, hZ⟩ s.heap [] _ hP hD0.self va_S.rf hl9
def cn_st (v : Option Value) (r : List Value) : List Value := match v with
  | none => r
  | some x => x :: r
theorem cn_st_eq (v : Option Value) (r : List Value) : v.toList ++ r = cn_st v r := by cases v <;> rfl
theorem cn_blind {G : pb_G} {as : List Value} {w0 : va_W} {sz : Nat} : FrameBlind (va_Pc as (cn_B G w0 sz)) := by
  intro a U g mk q
  obtain ⟨q0, q1, qP, qK, qD, qZ⟩ := q
  exact ⟨q0, q1, qP, va_K.moved (u := U) (U := U.calling g mk a) (Vm.Alike.refl U.vm) qK, qD, pb_Z.same (u := U) (U := U.calling g mk a) rfl qZ⟩
theorem cn_pre {as : List Value} {w0 : va_W} (E : pb_Ev l G M I) {H : Heap} {locs : List Loc} (hP : va_P G.1 vwCl ws H) (hD : va_D (pm_A M) ws) (hS : va_S (pm_A M) (pm_s M).heap H locs) (isC : List Nat) (h0 : va_nd isC = true) (hC : isC.map (fun i => ws[i]?) = w0.map some) (hC2 : isC.filterMap (fun i => ws[i]?) = w0) :
    ∀ U : State, U.heap = H → (pm_s M).WarmedH U.vm → va_Pc as (cn_B G w0 H.size) as.toArray U := by
  intro U hU hW
  refine ⟨rfl, by rw [hU], by rw [hU]; exact hP.sub isC hC2, va_K.moved hW.alike (pb_k E), (hD.sub isC h0 hC).weaken (fun _ _ _ _ => trivial), ?_⟩
  rw [hU]
  exact pb_Z.warm hW (pb_Z.narrow (va_free hD hS (pb_hA E) isC hC) ((pb_z E).kept hS))
theorem cn_go {S : Type} {post : Option Value → S → Prop} {w1 : S → va_W} {w0 wr : va_W} {a : Array Value} {mc ms : Nat} {st0 : List Value} {ls : Array Slot} {H : Heap} {locs : List Loc} (E : pb_Ev l G M I) (hP : va_P G.1 vwCl ws H) (hD : va_D (pm_A M) ws) (hS : va_S (pm_A M) (pm_s M).heap H locs) (hl : lv_has ls (pi_n I) lo)
    (isC isR : List Nat) (hC : isC.map (fun i => ws[i]?) = w0.map some) (hR : isR.map (fun i => ws[i]?) = wr.map some) (hn : va_nd isR = true) (hdis : ∀ i ∈ isR, i ∉ isC)
    (hr : va_Run (pm_p M) l (pm_e M) (pi_R I) (pm_s M) (pm_m M) (pm_a M) (pm_b M) (pm_h M) (pm_c M) H locs ck cn mc ms (F0 (pm_m M) pc ls st0) rest (cn_Q G (va_A w0 H.size) post w1 a) (va_A w0 H.size))
    (kk : ∀ (v : Option Value) (u : S), post v u → pb_P l G M I (pc + 3) lo (cn_st v rest) (wr ++ w1 u) (ck + mc) (cn + ms)) :
    W (pm_p M) l (pm_e M) (pi_R I) (pm_s M) (pm_m M) (pm_a M) (pm_b M) (pm_h M) (pm_c M) H locs ck cn (pm_Q M) (F0 (pm_m M) pc ls st0) := by
  have hF := va_free hD hS (pb_hA E) isC hC
  intro T hT X
  obtain ⟨v, st₀, t, T', L, h0, X', hL, e1, e2, ⟨⟨v', u, hv, hp, hP1, hD1⟩, hz, hk⟩, st⟩ := hr T hT X
  cases hv
  rw [h0] at hz hk
  rw [← e1] at hP1 hz hk
  obtain ⟨hP2, hD2⟩ := va_join hP hD isC isR hC hR hn hdis hk hF hP1 hD1
  obtain ⟨t2, a1, b1⟩ := kk v u hp E T'.heap (locs ++ L) ls hP2 hD2
    ⟨Nat.le_trans hS.1 hz, fun q h1 h2 => by rw [hk q (Nat.lt_of_lt_of_le h1 hS.1) (fun z => h2 (hF q z))]; exact hS.2.1 q h1 h2, fun q hq => by
      rcases List.mem_append.mp hq with h | h
      · exact hS.2.2 q h
      · exact hF _ (hL q h)⟩ hl T' rfl X'
  rw [← cn_st_eq] at a1
  exact ⟨t2, st t2 a1, b1⟩
/-- a call of a constructor -/
theorem pb_callI {S : Type} {J : pb_I} {nA : Nat} {as : List Value} {b index : Nat} {w0 wr : va_W} {post : Option Value → S → Prop} {w1 : S → va_W} (hd : decode (pi_c I) pc = .ok (.invokespecial index, 3)) (hM : Cn l G J (.ref b :: as) w0 post w1)
    (isC isR : List Nat) (h0 : va_nd isC = true) (hC : isC.map (fun i => ws[i]?) = w0.map some) (hC2 : isC.filterMap (fun i => ws[i]?) = w0) (hR : isR.map (fun i => ws[i]?) = wr.map some) (hn : va_nd isR = true) (hdis : ∀ i ∈ isR, i ∉ isC)
    (hcd : pi_d J ∈ uW) (hw : pi_d J = .code (pi_y J) (pi_c J) (pi_n J) none) (hini : Cond.initialized (pi_y J).cls ∈ uW) (hlk : Cond.methodLink (pi_y I).cls index (pi_y J) ∈ uW) (hin : Cond.instanceMethod (pi_y J) ∈ uW) (hy1 : (pi_y J).name = "<init>")
    (hy : (pi_y J).cls ≠ "java/lang/invoke/MethodHandle" ∧ (pi_y J).cls ≠ "java/lang/invoke/VarHandle" ∧ (parseMethodDescriptor (pi_y J).desc).map (fun d => d.parameters.length) = some nA) (hRm : (pi_R J).frames + 1 ≤ (pi_R I).frames ∧ 8 + (pi_n J + 11) + (pi_R J).locals ≤ (pi_R I).locals) (hA9 : as.length = nA)
    {st0 : List Value} (hst : st0 = as.reverse ++ .ref b :: rest) (h8 : (rest.map fun v => v.category).sum ≤ 8) (hf : ck + (pi_R J).cells ≤ (pi_R I).cells ∧ cn + (pi_R J).slots ≤ (pi_R I).slots)
    (kk : ∀ (v : Option Value) (u : S), post v u → pb_P l G M I (pc + 3) lo (cn_st v rest) (wr ++ w1 u) (ck + (pi_R J).cells) (cn + (pi_R J).slots)) : pb_P l G M I pc lo st0 ws ck cn := fun E H locs ls hP hD hS hl => by
  subst hst
  refine cn_go E hP hD hS hl isC isR hC hR hn hdis (va_runI (As := as) (b := b) ⟨E.1, E.2.1, E.2.2.1, E.2.2.2.1, pb_ws E⟩ (hM H.size) (cwI nA (pb_ws E) (pb_gd hcd) (pb_hw hw) rfl rfl (pb_w E hini) (pb_w E hlk) (pb_w E hin) hy1 hy hRm) ⟨cn_blind, cn_pre E hP hD hS isC h0 hC hC2⟩ rfl hA9 hl.1 rfl (lv_room h8) hd hf) kk
theorem pb_callIN {S : Type} {J : pb_I} {nA : Nat} {as : List Value} {b index : Nat} {host : String} {w0 wr : va_W} {post : Option Value → S → Prop} {w1 : S → va_W} (hd : decode (pi_c I) pc = .ok (.invokespecial index, 3)) (hM : Cn l G J (.ref b :: as) w0 post w1)
    (isC isR : List Nat) (h0 : va_nd isC = true) (hC : isC.map (fun i => ws[i]?) = w0.map some) (hC2 : isC.filterMap (fun i => ws[i]?) = w0) (hR : isR.map (fun i => ws[i]?) = wr.map some) (hn : va_nd isR = true) (hdis : ∀ i ∈ isR, i ∉ isC)
    (hcd : pi_d J ∈ uW) (hw : pi_d J = .code (pi_y J) (pi_c J) (pi_n J) none) (hini : Cond.initialized (pi_y J).cls ∈ uW) (hlk : Cond.methodLinkNest (pi_y I).cls index (pi_y J) host ∈ uN) (hin : Cond.instanceMethod (pi_y J) ∈ uW) (hy1 : (pi_y J).name = "<init>")
    (hy : (pi_y J).cls ≠ "java/lang/invoke/MethodHandle" ∧ (pi_y J).cls ≠ "java/lang/invoke/VarHandle" ∧ (parseMethodDescriptor (pi_y J).desc).map (fun d => d.parameters.length) = some nA) (hRm : (pi_R J).frames + 1 ≤ (pi_R I).frames ∧ 8 + (pi_n J + 11) + (pi_R J).locals ≤ (pi_R I).locals) (hA9 : as.length = nA)
    {st0 : List Value} (hst : st0 = as.reverse ++ .ref b :: rest) (h8 : (rest.map fun v => v.category).sum ≤ 8) (hf : ck + (pi_R J).cells ≤ (pi_R I).cells ∧ cn + (pi_R J).slots ≤ (pi_R I).slots)
    (kk : ∀ (v : Option Value) (u : S), post v u → pb_P l G M I (pc + 3) lo (cn_st v rest) (wr ++ w1 u) (ck + (pi_R J).cells) (cn + (pi_R J).slots)) : pb_P l G M I pc lo st0 ws ck cn := fun E H locs ls hP hD hS hl => by
  subst hst
  refine cn_go E hP hD hS hl isC isR hC hR hn hdis (va_runIN (As := as) (b := b) ⟨E.1, E.2.1, E.2.2.1, E.2.2.2.1, pb_ws E⟩ (hM H.size) ⟨va_cnB nA (pb_ws E) (pb_gd hcd) (pb_hw hw) rfl rfl (va_Nw.of rfl (pb_n E hlk)) (pb_w E hini) hy hRm, hy1, pb_w E hin⟩ ⟨cn_blind, cn_pre E hP hD hS isC h0 hC hC2⟩ rfl hA9 hl.1 rfl (lv_room h8) hd hf) kk
/-- a call of a static method -/
theorem pb_callS {S : Type} {J : pb_I} {nA : Nat} {as : List Value} {index : Nat} {w0 wr : va_W} {post : Option Value → S → Prop} {w1 : S → va_W} (hd : decode (pi_c I) pc = .ok (.invokestatic index, 3)) (hM : Cn l G J as w0 post w1)
    (isC isR : List Nat) (h0 : va_nd isC = true) (hC : isC.map (fun i => ws[i]?) = w0.map some) (hC2 : isC.filterMap (fun i => ws[i]?) = w0) (hR : isR.map (fun i => ws[i]?) = wr.map some) (hn : va_nd isR = true) (hdis : ∀ i ∈ isR, i ∉ isC)
    (hcd : pi_d J ∈ uW) (hw : pi_d J = .code (pi_y J) (pi_c J) (pi_n J) (pi_r J)) (hini : Cond.initialized (pi_y J).cls ∈ uW) (hlk : Cond.methodLink (pi_y I).cls index (pi_y J) ∈ uW) (hst9 : Cond.static (pi_y J) ∈ uW)
    (hy : (pi_y J).cls ≠ "java/lang/invoke/MethodHandle" ∧ (pi_y J).cls ≠ "java/lang/invoke/VarHandle" ∧ (parseMethodDescriptor (pi_y J).desc).map (fun d => d.parameters.length) = some nA) (hRm : (pi_R J).frames + 1 ≤ (pi_R I).frames ∧ 8 + (pi_n J + 11) + (pi_R J).locals ≤ (pi_R I).locals) (hA9 : as.length = nA)
    {st0 : List Value} (hst : st0 = as.reverse ++ rest) (h8 : (rest.map fun v => v.category).sum ≤ 8) (hf : ck + (pi_R J).cells ≤ (pi_R I).cells ∧ cn + (pi_R J).slots ≤ (pi_R I).slots)
    (kk : ∀ (v : Option Value) (u : S), post v u → pb_P l G M I (pc + 3) lo (cn_st v rest) (wr ++ w1 u) (ck + (pi_R J).cells) (cn + (pi_R J).slots)) : pb_P l G M I pc lo st0 ws ck cn := fun E H locs ls hP hD hS hl => by
  subst hst
  refine cn_go E hP hD hS hl isC isR hC hR hn hdis (va_runS (As := as) ⟨E.1, E.2.1, E.2.2.1, E.2.2.2.1, pb_ws E⟩ (hM H.size) (va_cwS nA (pb_ws E) (pb_gdS hcd hlk hst9 hini) (pb_hw hw) rfl rfl hy hRm) ⟨cn_blind, cn_pre E hP hD hS isC h0 hC hC2⟩ rfl hA9 hl.1 rfl (lv_room h8) hd hf) kk
theorem pb_callSN {S : Type} {J : pb_I} {nA : Nat} {as : List Value} {index : Nat} {host : String} {w0 wr : va_W} {post : Option Value → S → Prop} {w1 : S → va_W} (hd : decode (pi_c I) pc = .ok (.invokestatic index, 3)) (hM : Cn l G J as w0 post w1)
    (isC isR : List Nat) (h0 : va_nd isC = true) (hC : isC.map (fun i => ws[i]?) = w0.map some) (hC2 : isC.filterMap (fun i => ws[i]?) = w0) (hR : isR.map (fun i => ws[i]?) = wr.map some) (hn : va_nd isR = true) (hdis : ∀ i ∈ isR, i ∉ isC)
    (hcd : pi_d J ∈ uW) (hw : pi_d J = .code (pi_y J) (pi_c J) (pi_n J) (pi_r J)) (hini : Cond.initialized (pi_y J).cls ∈ uW) (hlk : Cond.methodLinkNest (pi_y I).cls index (pi_y J) host ∈ uN) (hst9 : Cond.static (pi_y J) ∈ uW)
    (hy : (pi_y J).cls ≠ "java/lang/invoke/MethodHandle" ∧ (pi_y J).cls ≠ "java/lang/invoke/VarHandle" ∧ (parseMethodDescriptor (pi_y J).desc).map (fun d => d.parameters.length) = some nA) (hRm : (pi_R J).frames + 1 ≤ (pi_R I).frames ∧ 8 + (pi_n J + 11) + (pi_R J).locals ≤ (pi_R I).locals) (hA9 : as.length = nA)
    {st0 : List Value} (hst : st0 = as.reverse ++ rest) (h8 : (rest.map fun v => v.category).sum ≤ 8) (hf : ck + (pi_R J).cells ≤ (pi_R I).cells ∧ cn + (pi_R J).slots ≤ (pi_R I).slots)
    (kk : ∀ (v : Option Value) (u : S), post v u → pb_P l G M I (pc + 3) lo (cn_st v rest) (wr ++ w1 u) (ck + (pi_R J).cells) (cn + (pi_R J).slots)) : pb_P l G M I pc lo st0 ws ck cn := fun E H locs ls hP hD hS hl => by
  subst hst
  refine cn_go E hP hD hS hl isC isR hC hR hn hdis (va_runSN (As := as) ⟨E.1, E.2.1, E.2.2.1, E.2.2.2.1, pb_ws E⟩ (hM H.size) ⟨va_cnB nA (pb_ws E) (pb_gd hcd) (pb_hw hw) rfl rfl (va_Nw.of rfl (pb_n E hlk)) (pb_w E hini) hy hRm, pb_w E hst9, trivial⟩ ⟨cn_blind, cn_pre E hP hD hS isC h0 hC hC2⟩ rfl hA9 hl.1 rfl (lv_room h8) hd hf) kk
/-- a call of an object's method -/
theorem pb_callV {S : Type} {J : pb_I} {nA : Nat} {as : List Value} {b index qb ci N : Nat} {T : u_T} {fs : List Value} {w0 wr : va_W} {post : Option Value → S → Prop} {w1 : S → va_W} (hd : decode (pi_c I) pc = .ok (.invokevirtual index, 3)) (hM : Cn l G J (.ref b :: as) w0 post w1)
    (hb : ws[qb]? = some (b, .inr (ci, fs))) (hc : vwCl[ci]? = some ((pi_y J).cls, T, N))
    (isC isR : List Nat) (h0 : va_nd isC = true) (hC : isC.map (fun i => ws[i]?) = w0.map some) (hC2 : isC.filterMap (fun i => ws[i]?) = w0) (hR : isR.map (fun i => ws[i]?) = wr.map some) (hn : va_nd isR = true) (hdis : ∀ i ∈ isR, i ∉ isC)
    (hcd : pi_d J ∈ uW) (hw : pi_d J = .code (pi_y J) (pi_c J) (pi_n J) (pi_r J)) (hini : Cond.initialized (pi_y J).cls ∈ uW) (hlk : Cond.methodLink (pi_y I).cls index (pi_y J) ∈ uW) (hin : Cond.instanceMethod (pi_y J) ∈ uW) (hsel : Cond.selects (pi_y J).cls (pi_y J) (pi_y J) ∈ uW)
    (hy : (pi_y J).cls = (pi_y J).cls ∧ (pi_y J).cls ≠ "java/lang/invoke/MethodHandle" ∧ (pi_y J).cls ≠ "java/lang/invoke/VarHandle" ∧ (parseMethodDescriptor (pi_y J).desc).map (fun d => d.parameters.length) = some nA) (hRm : (pi_R J).frames + 1 ≤ (pi_R I).frames ∧ 8 + (pi_n J + 11) + (pi_R J).locals ≤ (pi_R I).locals) (hA9 : as.length = nA)
    {st0 : List Value} (hst : st0 = as.reverse ++ .ref b :: rest) (h8 : (rest.map fun v => v.category).sum ≤ 8) (hf : ck + (pi_R J).cells ≤ (pi_R I).cells ∧ cn + (pi_R J).slots ≤ (pi_R I).slots)
    (kk : ∀ (v : Option Value) (u : S), post v u → pb_P l G M I (pc + 3) lo (cn_st v rest) (wr ++ w1 u) (ck + (pi_R J).cells) (cn + (pi_R J).slots)) : pb_P l G M I pc lo st0 ws ck cn := fun E H locs ls hP hD hS hl => by
  subst hst
  refine cn_go E hP hD hS hl isC isR hC hR hn hdis (va_runV (As := as) (b := b) (C := (pi_y J).cls) ⟨E.1, E.2.1, E.2.2.1, E.2.2.2.1, pb_ws E⟩ (hM H.size) (cwV nA (pb_ws E) (pb_gdV hcd hlk hin hsel hini) (pb_hw hw) rfl rfl hy hRm) ⟨cn_blind, va_recv (pb_k E) hP hc hb, cn_pre E hP hD hS isC h0 hC hC2⟩ rfl hA9 hl.1 rfl (lv_room h8) hd hf) kk
theorem pb_callVN {S : Type} {J : pb_I} {nA : Nat} {as : List Value} {b index qb ci N : Nat} {host : String} {T : u_T} {fs : List Value} {w0 wr : va_W} {post : Option Value → S → Prop} {w1 : S → va_W} (hd : decode (pi_c I) pc = .ok (.invokevirtual index, 3)) (hM : Cn l G J (.ref b :: as) w0 post w1)
    (hb : ws[qb]? = some (b, .inr (ci, fs))) (hc : vwCl[ci]? = some ((pi_y J).cls, T, N))
    (isC isR : List Nat) (h0 : va_nd isC = true) (hC : isC.map (fun i => ws[i]?) = w0.map some) (hC2 : isC.filterMap (fun i => ws[i]?) = w0) (hR : isR.map (fun i => ws[i]?) = wr.map some) (hn : va_nd isR = true) (hdis : ∀ i ∈ isR, i ∉ isC)
    (hcd : pi_d J ∈ uW) (hw : pi_d J = .code (pi_y J) (pi_c J) (pi_n J) (pi_r J)) (hini : Cond.initialized (pi_y J).cls ∈ uW) (hlk : Cond.methodLinkNest (pi_y I).cls index (pi_y J) host ∈ uN) (hin : Cond.instanceMethod (pi_y J) ∈ uW) (hsel : Cond.selects (pi_y J).cls (pi_y J) (pi_y J) ∈ uW)
    (hy : (pi_y J).cls ≠ "java/lang/invoke/MethodHandle" ∧ (pi_y J).cls ≠ "java/lang/invoke/VarHandle" ∧ (parseMethodDescriptor (pi_y J).desc).map (fun d => d.parameters.length) = some nA) (hRm : (pi_R J).frames + 1 ≤ (pi_R I).frames ∧ 8 + (pi_n J + 11) + (pi_R J).locals ≤ (pi_R I).locals) (hA9 : as.length = nA)
    {st0 : List Value} (hst : st0 = as.reverse ++ .ref b :: rest) (h8 : (rest.map fun v => v.category).sum ≤ 8) (hf : ck + (pi_R J).cells ≤ (pi_R I).cells ∧ cn + (pi_R J).slots ≤ (pi_R I).slots)
    (kk : ∀ (v : Option Value) (u : S), post v u → pb_P l G M I (pc + 3) lo (cn_st v rest) (wr ++ w1 u) (ck + (pi_R J).cells) (cn + (pi_R J).slots)) : pb_P l G M I pc lo st0 ws ck cn := fun E H locs ls hP hD hS hl => by
  subst hst
  refine cn_go E hP hD hS hl isC isR hC hR hn hdis (va_runVN (As := as) (b := b) (C := (pi_y J).cls) ⟨E.1, E.2.1, E.2.2.1, E.2.2.2.1, pb_ws E⟩ (hM H.size) ⟨va_cnB nA (pb_ws E) (pb_gd hcd) (pb_hw hw) rfl rfl (va_Nw.of rfl (pb_n E hlk)) (pb_w E hini) hy hRm, pb_w E hin, pb_w E hsel⟩ ⟨cn_blind, va_recv (pb_k E) hP hc hb, cn_pre E hP hD hS isC h0 hC hC2⟩ rfl hA9 hl.1 rfl (lv_room h8) hd hf) kk

theorem pb_re {ws' : va_W} {lo' : List (Nat × Value)} (is ks : List Nat) (h1 : va_nd is = true) (h2 : is.map (fun i => ws[i]?) = ws'.map some) (h3 : is.filterMap (fun i => ws[i]?) = ws') (h4 : lv_pick lo ks = lo') (kk : pb_P l G M I pc lo' rest ws' ck cn) : pb_P l G M I pc lo rest ws ck cn := fun E H locs ls hP hD hS hl => kk E H locs ls (hP.sub is h3) (hD.sub is h1 h2) hS (lv_sub hl ks h4)
theorem pb_iincN {i : Nat} {z : Int} {x c : Int32} (hd : decode (pi_c I) pc = .ok (.iinc i z, 3)) (j : Nat) (hj : lo[j]? = some (i, .int x)) (hz : Int32.ofInt z = c) (hn : i < pi_n I) (kk : ∀ y : Int32, y = x + c → pb_P l G M I (pc + 3) ((i, Value.int y) :: lo.filter (fun q => !(q.1 == i) && !(q.1 + 1 == i && q.2.category == 2))) rest ws ck cn) : pb_P l G M I pc lo rest ws ck cn := by
  subst hz
  exact pb_iinc hd j hj rfl hn rfl (kk _ rfl)
theorem pb_gets3 {index : Nat} (hd : decode (pi_c I) pc = .ok (.getstatic index, 3)) (hlk : Cond.fieldLink (pi_y I).cls index "PackageBook$Expander" "THIRD_ORDER" "[I" ∈ uW) (kk : ∀ t : Nat, va_T .int t 19 (fun j => .int (pb_third.getD j 0)) (pm_A M) (pm_s M) (pm_s M).heap → pb_P l G M I (pc + 3) lo (.ref t :: rest) ws ck cn) : pb_P l G M I pc lo rest ws ck cn := fun E H locs ls hP hD hS hl => by
  obtain ⟨t, h1, h2⟩ := pb_z3 E
  exact va_gets E.1 E.2.1 h1 hS E.2.2.2.1 (pb_w E hlk) (fun _ h9 => h9) hd (kk t h2 E H locs ls hP hD hS hl)
theorem pb_tlen {t N : Nat} {f : Nat → Value} {ty : FieldType} {v : Int32} (hT : va_T ty t N f (pm_A M) (pm_s M) (pm_s M).heap) (hv : Int32.ofNat N = v) (hd : decode (pi_c I) pc = .ok (.arraylength, 1)) (kk : pb_P l G M I (pc + 1) lo (.int v :: rest) ws ck cn) : pb_P l G M I pc lo (.ref t :: rest) ws ck cn := fun E H locs ls hP hD hS hl => va_tlen E.1 E.2.1 hT hS hv hd (kk E H locs ls hP hD hS hl)
theorem pb_copy {a0 a n0 n1 index : Nat} {f g : Nat → Int32} {cA : ClassId} {ty : FieldType} {sp dp z : Int32} {ws' : va_W} (hd : decode (pi_c I) pc = .ok (.invokestatic index, 3)) (t0 q0 q1 : Nat) (ht : (pb_T G)[t0]? = some (cA, ty)) (hp : refKind ty = false) (ha0 : ws[q0]? = some (a0, .inl (cA, n0, .inl f))) (ha1 : ws[q1]? = some (a, .inl (cA, n1, .inl g))) (w1 : Cond.methodLink (pi_y I).cls index arraycopyName ∈ uW) (w2 : Cond.native arraycopyName ∈ uW) (w3 : Cond.static arraycopyName ∈ uW) (w4 : Cond.initialized "java/lang/System" ∈ uW) (h1 : ¬ sp < 0) (h2 : ¬ dp < 0) (h3 : ¬ z < 0) (h4 : sp.toNatClampNeg + z.toNatClampNeg ≤ n0) (h5 : dp.toNatClampNeg + z.toNatClampNeg ≤ n1) (hfit : ∀ i, i < z.toNatClampNeg → fits ty (.int (f (sp.toNatClampNeg + i))) = true) (h6 : 1 ≤ (pi_R I).frames) (h7 : (rest.map fun v => v.category).sum + (nativeFrameWords "java/lang/System" "arraycopy" 5 + 11) ≤ (pi_R I).locals) (hw : ws.set q1 (a, .inl (cA, n1, .inl (va_cpy f g sp.toNatClampNeg dp.toNatClampNeg z.toNatClampNeg))) = ws') (kk : pb_P l G M I (pc + 3) lo rest ws' ck cn) : pb_P l G M I pc lo (.int z :: .int dp :: .ref a :: .int sp :: .ref a0 :: rest) ws ck cn := by
  subst hw
  exact fun E H locs ls hP hD hS hl => va_copyi E.1 E.2.1 (E.2.2.1.trans hl.1.symm) E.2.2.2.1 (pb_w E w1) (pb_w E w2) (pb_w E w3) (pb_w E w4) (pb_k E) hP hD hS q0 q1 t0 t0 ha0 ha1 ht ht hp h1 h2 h3 h4 h5 hfit h6 h7 hd (fun H1 locs1 hP1 hD1 hS1 => kk E H1 locs1 ls hP1 hD1 hS1 hl)
end PB

/-! numbers: an Int32 by its Int -/
theorem ti_bm {z : Int} (h1 : -2147483648 ≤ z) (h2 : z < 2147483648) : z.bmod (2 ^ 32) = z := by
  simp only [Int.bmod]; split <;> omega
theorem ti_add {x y z : Int32} {a b : Int} (e : z = x + y) (hx : x.toInt = a) (hy : y.toInt = b) (h1 : -2147483648 ≤ a + b) (h2 : a + b < 2147483648) : z.toInt = a + b := by
  subst e hx hy; rw [Int32.toInt_add]; exact ti_bm h1 h2
theorem ti_sub {x y z : Int32} {a b : Int} (e : z = x - y) (hx : x.toInt = a) (hy : y.toInt = b) (h1 : -2147483648 ≤ a - b) (h2 : a - b < 2147483648) : z.toInt = a - b := by
  subst e hx hy; rw [Int32.toInt_sub]; exact ti_bm h1 h2
theorem ti_mul {x y z : Int32} {a b : Int} (e : z = x * y) (hx : x.toInt = a) (hy : y.toInt = b) (h1 : -2147483648 ≤ a * b) (h2 : a * b < 2147483648) : z.toInt = a * b := by
  subst e hx hy; rw [Int32.toInt_mul]; exact ti_bm h1 h2
theorem ti_le {x y : Int32} {a b : Int} (hx : x.toInt = a) (hy : y.toInt = b) : x ≤ y ↔ a ≤ b := by rw [Int32.le_iff_toInt_le, hx, hy]
theorem ti_lt {x y : Int32} {a b : Int} (hx : x.toInt = a) (hy : y.toInt = b) : x < y ↔ a < b := by rw [Int32.lt_iff_toInt_lt, hx, hy]
theorem ti_eq {x y : Int32} {a b : Int} (hx : x.toInt = a) (hy : y.toInt = b) : x = y ↔ a = b := by rw [← Int32.toInt_inj, hx, hy]
theorem ti_ofNat {z : Int32} {n : Nat} (e : z = Int32.ofNat n) (h : n < 2147483648) : z.toInt = (n : Int) := by subst e; exact nI_toInt h
theorem ti_clamp {x : Int32} (h : 0 ≤ x.toInt) : (x.toNatClampNeg : Int) = x.toInt := by
  show ((x.toInt.toNat : Nat) : Int) = x.toInt
  omega
theorem ti_rng (x : Int32) : -2147483648 ≤ x.toInt ∧ x.toInt < 2147483648 := ⟨Int32.le_toInt x, Int32.toInt_lt x⟩
