/-! methods that may throw, their calls, and catching (launches without stack traces) -/
section PX
variable {l : Launch} {G : pb_G} {M : pb_M} {I : pb_I} {pc : Nat} {lo : List (Nat × Value)} {rest : List Value} {ws : va_W} {ck cn : Nat}
/-- what a method leaves that returns or throws: px of the exception's class and of the world then -/
def cx_Q {S SX : Type} (G : pb_G) (A : Nat → Prop) (post : Option Value → S → Prop) (w1 : S → va_W) (px : String → SX → Prop) (wx : SX → va_W) (mc ms : Nat) : Array Value → State → Outcome → State → Prop := fun a s0 o t =>
  (cn_Q G A post w1 a s0 o t ∧ ∃ L, FrameEnd s0 o t L mc ms ∧ ∀ q ∈ L, A q.base) ∨
  ∃ (q : Addr) (E : String) (ce : Cell) (L : List Loc) (u : SX), o = .threw q ∧ (px E u ∧ va_P G.1 vwCl (wx u) t.heap ∧ va_D A (wx u) ∧ va_F A s0 t) ∧ t.heap[q]? = some ce ∧ ce.vm = .none ∧ s0.vm.findClass E = some ce.cls ∧ s0.WarmedH t.vm ∧ s0.sameButNew ({ t with vm := s0.vm } : State) L mc ms ∧ ∀ z ∈ L, A z.base
def Cx (l : Launch) (G : pb_G) (I : pb_I) (as : List Value) (w0 : va_W) {S SX : Type} (post : Option Value → S → Prop) (w1 : S → va_W) (px : String → SX → Prop) (wx : SX → va_W) : Prop :=
  ∀ sz : Nat, MetFree l (pi_y I) (headSpec (pi_w I) (pi_R I)) (va_Pc as (cn_B G w0 sz)) (fun _ _ _ _ _ => True) (cx_Q G (va_A w0 sz) post w1 px wx (pi_R I).cells (pi_R I).slots)
def pb_Rx {S SX : Type} (G : pb_G) (M : pb_M) (I : pb_I) (post : Option Value → S → Prop) (w1 : S → va_W) (px : String → SX → Prop) (wx : SX → va_W) : Prop :=
  pm_Q M = (fun t => ∃ o, t.status = .running ∧ Ended t (pm_b M) o ∧ cx_Q G (pm_A M) post w1 px wx (pi_R I).cells (pi_R I).slots (pm_a M) (pm_s M) o t) ∧ ∀ x ∈ (pm_c M).exceptionTable.toList, False
theorem pb_iretx {S SX : Type} {post : Option Value → S → Prop} {w1 : S → va_W} {px : String → SX → Prop} {wx : SX → va_W} {v : Int32} (hQ : pb_Rx G M I post w1 px wx) (hd : decode (pi_c I) pc = .ok (.ireturn, 1)) {ty : FieldType} (hr : pi_r I = some ty) (hn : narrow ty (.int v) = .int v) (u : S) (hp : post (some (.int v)) u) (is : List Nat) (h1 : va_nd is = true) (h2 : is.map (fun i => ws[i]?) = (w1 u).map some) (h3 : is.filterMap (fun i => ws[i]?) = w1 u) (h4 : ck ≤ (pi_R I).cells) (h5 : cn ≤ (pi_R I).slots) : pb_P l G M I pc lo [.int v] ws ck cn := fun E H locs ls hP hD hS hl => by
  refine W.widen h4 h5 ?_
  rw [show pm_Q M = _ from hQ.1]
  intro T hT X
  obtain ⟨t, a1, o, b1, b2, b3, b4⟩ := (W.zret (Qc := cn_Q G (pm_A M) post w1) (free := pm_A M) E.1 E.2.1 ((pb_ret E).trans hr) hn (fun t ht hW => ⟨⟨_, u, rfl, hp, by rw [ht]; exact hP.sub is h3, hD.sub is h1 h2⟩, hS.F ht⟩) hS.2.2 hd (pb_lock E)) T hT X
  exact ⟨t, a1, o, b1, b2, Or.inl ⟨b3, b4⟩⟩
theorem Cx.of {S SX : Type} {as : List Value} {w0 : va_W} {post : Option Value → S → Prop} {w1 : S → va_W} {px : String → SX → Prop} {wx : SX → va_W} (hl : l.stackTraces = false) (hy : plainName (pi_y I).cls = true) (hw : pi_d I = .code (pi_y I) (pi_c I) (pi_n I) (pi_r I)) (hn : (lg_sl as).length ≤ pi_n I)
    (body : ∀ M : pb_M, pb_Rx G M I post w1 px wx → pb_P l G M I 0 (lv_args 0 as) [] w0 0 0) : Cx l G I as w0 post w1 px wx := by
  intro sz
  have hw2 := pb_hw hw
  refine MetFree.of_bodyS (code := pi_c I) (maxLocals := pi_n I) (ret := pi_r I) hy ?_ ?_
  · intro args s m h hn
    obtain ⟨meth, c, h1, h2, h3, h4, h5, h6, -, -⟩ := Cond.code_spec hn (atoms_spec (ws := pi_w I) h _ (by rw [hw2]; exact List.mem_cons_self))
    exact ⟨meth, c, h1, h2, h3, h4, h5, h6⟩
  · intro p e s m args below meth c s₁ B hml hv _
    have hh0 : s₁.heap = s.heap := by rw [B.state]; rfl
    have ht : ∀ x ∈ c.exceptionTable.toList, False := by
      obtain ⟨meth9, c9, h1, h2, -, -, -, -, h7, -⟩ := Cond.code_spec B.named (atoms_spec (ws := pi_w I) B.pre _ (by rw [hw2]; exact List.mem_cons_self))
      cases Option.some.inj (h1.symm.trans B.method)
      cases Option.some.inj (h2.symm.trans (Stand.of_body B).code)
      intro x hx
      rw [Array.isEmpty_iff.mp h7] at hx
      cases hx
    obtain ⟨rfl, hsz, hP, hK, hD0, hZ⟩ := hv
    subst hsz
    have hl9 := lv_entry as hn
    have K := body ((p, e, s, m, as.toArray), (below, meth, c), (va_A w0 s.heap.size, fun t => ∃ o, t.status = .running ∧ Ended t below o ∧ cx_Q G (va_A w0 s.heap.size) post w1 px wx (pi_R I).cells (pi_R I).slots as.toArray s o t)) ⟨rfl, ht⟩
      ⟨B.exec, B.bytes, hml, findClass_of_methodNamed B.named, fun w h => atoms_spec (ws := pi_w I) B.pre w (List.mem_cons_of_mem _ h), hK, fun q h => Or.inr h, B.notSynchronized, fun h9 => (name_of_methodNamed B.named B.method).1.trans h9, B.returns, hl, hZ⟩ s.heap [] _ hP hD0.self va_S.rf hl9
    obtain ⟨t, a1, o, b1, b2, b3⟩ := K s₁ hh0 (Stand.of_body B)
    refine ⟨t, o, ?_, b1, b2, b3⟩
    rw [lg_entry_eq]
    exact a1
/-- the same place, begun anew there -/
theorem px_base {p : Program} {e : Env} {R R' : Room} {s T : State} {m : MethodId} {args : Array Value} {below : List Frame} {meth : Method} {c : Code} {locs : List Loc} {cells slots : Nat} (X : Stand p l e R s m args below meth c T locs cells slots) (hf : R'.frames ≤ R.frames) (hl : R'.locals ≤ R.locals) (hc : cells + R'.cells ≤ R.cells) (hs : slots + R'.slots ≤ R.slots) :
    Stand p l e R' ((T.setVm s.vm).setFrames (.invoking m args :: below)) m args below meth c T [] 0 0 := by
  have htop : (T.setVm s.vm).topJava?.isSome := X.here.top
  have hF : ((T.setVm s.vm).setFrames (.invoking m args :: below)).frames = .invoking m args :: below := State.frames_setFrames _ (State.cur_lt_of_top htop)
  obtain ⟨g₀, hg0⟩ := Option.isSome_iff_exists.mp htop
  obtain ⟨r, hr⟩ := State.topJava?_eq_some.mp hg0
  have hl9 : e.platform.stackLimits (T.setVm s.vm).me = e.platform.stackLimits s.me := X.limits
  have hb9 : (T.setVm s.vm).me.stackBytes = s.me.stackBytes := X.bytes
  have hd9 : (T.heap.toList.drop T.heap.size) = [] := List.drop_eq_nil_of_le (Nat.le_of_eq Array.length_toList)
  refine ⟨X.admits, X.cas, X.clock, hF, ?_, X.hears, X.method, X.code, X.here, X.tail, X.warmed, ?_, ?_, ?_⟩
  · have h := X.room
    have hU : ((T.setVm s.vm).setFrames (.invoking m args :: below)).localsInUse = s.localsInUse := by
      rw [State.localsInUse_invoking hF (meth := meth) (c := c) X.method X.code, State.localsInUse_invoking X.frames X.method X.code]
    simp only [State.hasRoom, Bool.and_eq_true, decide_eq_true_eq] at h ⊢
    obtain ⟨⟨⟨⟨h1, h2, h3, h4, h5, h6⟩, h7⟩, h8⟩, h9⟩ := h
    rw [X.frames, List.length_cons] at h2 h3
    have q1 := X.heapSize
    have q2 := X.used
    simp only [hF, hU, List.length_cons, State.stackLimits_setFrames, State.stackBytes_setFrames, hl9, hb9]
    refine ⟨⟨⟨⟨by omega, by omega, by omega, by omega, by omega, h6⟩, ?_⟩, ?_⟩, X.book⟩
    · show T.heap.size + R'.cells ≤ e.platform.maxCells
      omega
    · show T.slotsUsed + R'.slots ≤ e.platform.maxSlots
      omega
  · rw [State.stackLimits_setFrames]; rfl
  · rw [State.stackBytes_setFrames]; rfl
  · refine ⟨?_, Nat.le_refl _, Nat.le_refl _, ?_, ?_, fun a c9 h9 => ⟨c9, h9, rfl, rfl, fun _ _ => rfl⟩⟩
    · obtain ⟨t, ht, -⟩ := State.frames_cons hr
      show T.setVm s.vm = { ((T.setVm s.vm).setFrames (.invoking m args :: below)).setFrames (T.setVm s.vm).frames with heap := T.heap, slotsUsed := T.slotsUsed }
      rw [State.setFrames_setFrames, State.setFrames_self ht]
      rfl
    · show T.slotsUsed = T.slotsUsed + ((T.heap.toList.drop T.heap.size).map (·.slots.size)).sum
      rw [hd9]; rfl
    · show ((T.heap.toList.drop T.heap.size).map (·.slots.size)).sum ≤ 0
      rw [hd9]; exact Nat.le_refl _
theorem px_frame {s U : State} {locs : List Loc} {k n : Nat} (h : s.sameButNew ({ U with vm := s.vm } : State) locs k n) : s.heap.size ≤ U.heap.size ∧ ∀ q : Nat, q < s.heap.size → (∀ z ∈ locs, z.base ≠ q) → U.heap[q]? = s.heap[q]? := by
  obtain ⟨-, h2, -, -, -, h6⟩ := h
  refine ⟨h2, fun q hq hz => ?_⟩
  obtain ⟨c9, e1, e2, -, e4⟩ := h6 q _ (Array.getElem?_eq_getElem hq)
  have hs : c9.slots = (s.heap[q]).slots := Array.ext_getElem? fun i => e4 i fun hm => hz _ hm rfl
  rw [hs] at e2
  have h9 : c9 = s.heap[q] := e2
  have e5 : U.heap[q]? = some c9 := e1
  rw [e5, h9, Array.getElem?_eq_getElem hq]
/-- the words of a throw but for the four that are about the heap -/
def px_no (w : Cond) : Bool := decide (w ≠ .isRef (.static Bundle.tN "UNASSIGNED_STACK" Bundle.steD)) && decide (w ≠ .isRef (.static Bundle.tN "SUPPRESSED_SENTINEL" Bundle.listD)) && decide (w ≠ .laysStatic Bundle.tN "UNASSIGNED_STACK" Bundle.steD) && decide (w ≠ .laysStatic Bundle.tN "SUPPRESSED_SENTINEL" Bundle.listD)
def px_in (L : List Cond) : Bool := L.all fun w => !px_no w || (decide (w ∈ lw_tbl) && (goodWord w || pb_isN w))
theorem px_words {L : List Cond} (hin : px_in L = true) (E : pb_Ev l G M I) {s' : State} {H : Heap} {locs : List Loc} (hS : va_S (pm_A M) (pm_s M).heap H locs) (hvm : s'.vm = (pm_s M).vm) (hhp : s'.heap = H) : ∀ w ∈ L, w.before (pm_a M) s' = true := by
  have hW0 : (pm_s M).WarmedH s'.vm := by rw [hvm]; exact State.WarmedH.refl _
  have hZ := pb_Z.same (U := s') hvm ((pb_z E).kept hS)
  rw [← hhp] at hZ
  intro w hw
  have h1 := List.all_eq_true.mp hin w hw
  by_cases e1 : w = .isRef (.static Bundle.tN "UNASSIGNED_STACK" Bundle.steD)
  · rw [e1]; exact hZ.2.2.2.1.isRef
  by_cases e2 : w = .isRef (.static Bundle.tN "SUPPRESSED_SENTINEL" Bundle.listD)
  · rw [e2]; exact hZ.2.2.2.2.1.isRef
  by_cases e3 : w = .laysStatic Bundle.tN "UNASSIGNED_STACK" Bundle.steD
  · rw [e3]; exact hZ.2.2.2.1.lays
  by_cases e4 : w = .laysStatic Bundle.tN "SUPPRESSED_SENTINEL" Bundle.listD
  · rw [e4]; exact hZ.2.2.2.2.1.lays
  have hno : px_no w = true := by unfold px_no; rw [decide_eq_true e1, decide_eq_true e2, decide_eq_true e3, decide_eq_true e4]; rfl
  rw [hno] at h1
  simp only [Bool.not_true, Bool.false_or, Bool.and_eq_true, Bool.or_eq_true, decide_eq_true_eq] at h1
  obtain ⟨hm, hg | hg⟩ := h1
  · have hu : w ∈ uW := List.mem_filter.mpr ⟨hm, hg⟩
    exact word_at hW0 (uW_good hu) (pb_w E hu)
  · have hu : w ∈ uN := List.mem_filter.mpr ⟨hm, hg⟩
    exact uN_use hu (hZ.2.1 w hu)
theorem px_own {own X : String} {ic : Nat} {names : List String} {a b : Cond} (h0 : px_in (Bundle.throwableAtoms ++ Bundle.throwableSAtoms) = true) (h1 : px_in (a :: b :: (Bundle.ownAtoms own ic X names).drop (Bundle.throwableAtoms ++ Bundle.throwableSAtoms).length) = true) : px_in (a :: b :: Bundle.ownAtoms own ic X names) = true := by
  have e : Bundle.ownAtoms own ic X names = (Bundle.throwableAtoms ++ Bundle.throwableSAtoms) ++ (Bundle.ownAtoms own ic X names).drop (Bundle.throwableAtoms ++ Bundle.throwableSAtoms).length := by
    unfold Bundle.ownAtoms
    rw [List.append_assoc (Bundle.throwableAtoms ++ Bundle.throwableSAtoms), List.drop_left]
  have h2 : px_in ([a, b] ++ (Bundle.ownAtoms own ic X names).drop (Bundle.throwableAtoms ++ Bundle.throwableSAtoms).length) = true := h1
  show px_in ([a, b] ++ Bundle.ownAtoms own ic X names) = true
  unfold px_in at h0 h2 ⊢
  rw [List.all_append, Bool.and_eq_true] at h2
  rw [e, List.all_append, List.all_append, h2.1, h0, h2.2]; rfl
theorem px_base0 : px_in (Bundle.throwableAtoms ++ Bundle.throwableSAtoms) = true := by decide +kernel
set_option maxHeartbeats 1000000 in
/-- throw new cls(text) -/
theorem pb_throwS {S SX : Type} {post : Option Value → S → Prop} {w1 : S → va_W} {px : String → SX → Prop} {wx : SX → va_W} {cls text : String} {names : List String} {ik is ic : Nat} (hQ : pb_Rx G M I post w1 px wx)
    (d0 : decode (pi_c I) pc = .ok (.new ik, 3)) (d3 : decode (pi_c I) (pc + 3) = .ok (.dup, 1)) (d4 : decode (pi_c I) (pc + 4) = .ok (.ldc is, 2)) (d6 : decode (pi_c I) (pc + 6) = .ok (.invokespecial ic, 3)) (d9 : decode (pi_c I) (pc + 9) = .ok (.athrow, 1))
    (hcls : Bundle.fit cls = true) (hnames : ∀ n ∈ names, Bundle.fit n = true) (hat : px_in (.classLink (pi_y I).cls ik cls :: .initialized cls :: Bundle.ownAtoms (pi_y I).cls ic cls names) = true) (hstr : ((pi_y I).cls, is, text) ∈ pb_strs)
    (h6 : names.length + 3 < (pi_R I).frames) (h7 : (rest.map fun v => v.category).sum + (13 * (names.length + 1) + 43) ≤ (pi_R I).locals) (h4 : ck + 1 ≤ (pi_R I).cells) (h5 : cn + 6 ≤ (pi_R I).slots)
    (u : SX) (hp : px cls u) (ps : List Nat) (h1 : va_nd ps = true) (h2 : ps.map (fun i => ws[i]?) = (wx u).map some) (h3 : ps.filterMap (fun i => ws[i]?) = wx u) : pb_P l G M I pc lo rest ws ck cn := fun E H locs ls hP hD hS hl => by
  rw [show pm_Q M = _ from hQ.1]
  obtain ⟨sa, hsa⟩ := (pb_z E).2.2.1 _ hstr
  intro T hT X
  have htr : (pm_e M).platform.stackTraces = false := (show (pm_e M).platform.stackTraces = l.stackTraces by rw [X.admits.platform]).trans (pb_tr E)
  have Y := px_base X (R' := { frames := (pi_R I).frames, locals := (pi_R I).locals, cells := 1, slots := 6 }) (Nat.le_refl _) (Nat.le_refl _) h4 h5
  obtain ⟨s', hA⟩ : ∃ z, z = (T.setVm (pm_s M).vm).setFrames (.invoking (pm_m M) (pm_a M) :: (pm_b M)) := ⟨_, rfl⟩
  rw [← hA] at Y
  have hvm : s'.vm = (pm_s M).vm := by rw [hA]; rfl
  have hhp : s'.heap = H := by rw [hA]; exact hT
  have hW0 : (pm_s M).WarmedH s'.vm := by rw [hvm]; exact State.WarmedH.refl _
  have hw := px_words hat E hS hvm hhp
  have hk' := hw _ List.mem_cons_self
  have hini' := hw _ (List.mem_cons_of_mem _ List.mem_cons_self)
  have h : ∀ w ∈ Bundle.ownAtoms (pi_y I).cls ic cls names, w.before (pm_a M) s' = true := fun w hw9 => hw w (List.mem_cons_of_mem _ (List.mem_cons_of_mem _ hw9))
  have hown' : s'.vm.findClass (pi_y I).cls = some (pm_m M).cls := by rw [hvm]; exact E.2.2.2.1
  have hins : (Cond.instantiable cls 6).before (pm_a M) s' = true := h _ (by simp [Bundle.ownAtoms])
  obtain ⟨vm₁, cX, kX, hfX, hkX, -, -, X₁, st1⟩ := Y.newCold E.1 (own := (pi_y I).cls) (C := cls) (index := ik) (n := 6) hown' hk' hins hini'
    (g := F0 (pm_m M) pc ls rest) rfl (by rw [E.2.1]; exact d0) (Nat.le_refl _) (Nat.le_refl _)
  generalize hT1 : (T.setVm vm₁).pushCell { cls := cX, slots := kX.instanceTypes.map defaultValue, vm := .none } = T1 at X₁ st1
  have hcat : (Value.ref T.heap.size).category = 1 := rfl
  have hcellA : T1.heap[T.heap.size]? = some (freshCell cX kX) := by rw [← hT1]; exact State.heap_pushCell_size _ _
  have d3' : decode (pm_c M).code (pc + 3) = .ok (.dup, 1) := by rw [E.2.1]; exact d3
  have d4' : decode (pm_c M).code (pc + 4) = .ok (.ldc is, 2) := by rw [E.2.1]; exact d4
  have hstr' : vk_R (pi_y I).cls is text sa s' := vk_R.warm hW0 hsa
  have hexec : (pm_p M).tables.exec = Jvm.exec := E.1
  obtain ⟨U, hsteps, hrun, hend, hW, hsame, ce, hce, hO⟩ := X₁.ctorThrowS E.1 htr (own := (pi_y I).cls) (cls := cls) (names := names) (ic := ic) hown' hcls hnames h (fun x hx => nomatch hx) hfX hkX hcellA (by rw [hhp, hT]; exact Nat.le_refl _) (msg := .ref sa) rfl
    (g := { method := pm_m M, pc := pc + 6, locals := ls, stack := .ref sa :: .ref T.heap.size :: .ref T.heap.size :: rest, locked := none }) rfl (hl.1.trans E.2.2.1.symm) rfl rfl (rest := rest) rfl
    (by rw [E.2.1]; exact d6) (by rw [E.2.1]; exact d9) (fun x hx => (hQ.2 x hx).elim) h6 (by simp only [List.map_cons, List.sum_cons, hcat]; omega) (pb_lock E)
  obtain ⟨f1, f2⟩ := px_frame hsame
  rw [hhp] at f1 f2
  have hWs : (pm_s M).WarmedH U.vm := State.WarmedH.trans hW0 hW
  have hcl : (pm_s M).vm.findClass cls = some ce.cls := by
    have h9 := hO.cls
    rw [hvm] at h9
    exact h9
  have hall : (pm_s M).sameButNew ({ U with vm := (pm_s M).vm } : State) locs (pi_R I).cells (pi_R I).slots := by
    subst hA
    obtain ⟨e1, e2⟩ := hsame
    rw [State.setFrames_setFrames] at e1
    have g2 : (T.setVm (pm_s M).vm).sameButNew ({ U with vm := (pm_s M).vm } : State) [] (0 + 1) (0 + 6) := ⟨e1, e2⟩
    have g3 := X.same.trans g2
    rw [List.append_nil] at g3
    exact g3.mono h4 h5
  have hkeep : ∀ q : Nat, q < H.size → U.heap[q]? = H[q]? := fun q hq => f2 q hq (fun z hz => nomatch hz)
  refine ⟨U, ?_, .threw T.heap.size, hrun, hend, Or.inr ⟨T.heap.size, cls, ce, locs, u, rfl, ⟨hp, (hP.sub ps h3).kept (fun k q hq => hkeep q.1 (va_at.lt ((hP.sub ps h3) k q hq))), hD.sub ps h1 h2, Nat.le_trans hS.1 f1, fun q hq hA9 => ?_⟩, hce, hO.vm, hcl, hWs, hall, hS.2.2⟩⟩
  · refine st1 _ ?_
    show Steps (pm_p M).tables (pm_e M) (pm_b M) (T1.setTop { method := pm_m M, pc := pc + 3, locals := ls, stack := .ref T.heap.size :: rest, locked := none }) _
    jvm_step X₁.here [X₁.here.top, hexec, d3', Value.category]
    exact X₁.ldcString E.1 (own := (pi_y I).cls) (text := text) (index := is) (a := sa) hown' hstr'.1 hstr'.2
      (g := { method := pm_m M, pc := pc + 4, locals := ls, stack := .ref T.heap.size :: .ref T.heap.size :: rest, locked := none }) rfl d4' _ hsteps
  · rw [hkeep q (Nat.lt_of_lt_of_le hq hS.1)]
    exact hS.2.1 q hq hA9
set_option maxHeartbeats 1000000 in
/-- a call that comes back, or throws: from the callee's contract, at the call's own place -/
theorem px_back {S SX : Type} {J : pb_I} {as : List Value} {w0 : va_W} {post : Option Value → S → Prop} {w1 : S → va_W} {px : String → SX → Prop} {wx : SX → va_W} (hM : Cx l G J as w0 post w1 px wx) (hcd : pi_d J ∈ uW) (hw : pi_d J = .code (pi_y J) (pi_c J) (pi_n J) (pi_r J)) (hini : Cond.initialized (pi_y J).cls ∈ uW) (hRm : (pi_R J).frames + 1 ≤ (pi_R I).frames ∧ 8 + (pi_n J + 11) + (pi_R J).locals ≤ (pi_R I).locals) (hf : ck + (pi_R J).cells ≤ (pi_R I).cells ∧ cn + (pi_R J).slots ≤ (pi_R I).slots)
    (E : pb_Ev l G M I) {H : Heap} {locs : List Loc} {T : State} (hT : T.heap = H) (X : Stand (pm_p M) l (pm_e M) (pi_R I) (pm_s M) (pm_m M) (pm_a M) (pm_b M) (pm_h M) (pm_c M) T locs ck cn) (hpre : ∀ U : State, U.heap = H → (pm_s M).WarmedH U.vm → va_Pc as (cn_B G w0 H.size) as.toArray U)
    {g : JFrame} {ig : Instr} {mk : MethodId} (hg : g.method = pm_m M) (hsize : g.locals.size = (pm_c M).maxLocals) (hdg : decode (pm_c M).code g.pc = .ok (ig, 3)) (hW : 2 * g.monitorRoom + (g.stack.map fun v => v.category).sum ≤ 8) (hn : T.methodNamed? (pi_y J) = some mk) :
    (∃ (v : Option Value) (s0 t T' : State) (L : List Loc), s0.heap = H ∧ Stand (pm_p M) l (pm_e M) (pi_R I) (pm_s M) (pm_m M) (pm_a M) (pm_b M) (pm_h M) (pm_c M) T' (locs ++ L) (ck + (pi_R J).cells) (cn + (pi_R J).slots) ∧ (∀ q ∈ L, va_A w0 H.size q.base) ∧ T'.heap = t.heap ∧ cn_Q G (va_A w0 H.size) post w1 as.toArray s0 (.returned v) t ∧
      Steps (pm_p M).tables (pm_e M) (pm_b M) (doInvoke (pm_e M) (T.setTop g) [] mk as.toArray).1 (T'.setTop { g with pc := g.pc + 3, stack := v.toList ++ g.stack })) ∨
    (∃ (q : Addr) (E0 : String) (ce : Cell) (u : SX) (s0 t T' : State) (L : List Loc), s0.heap = H ∧ Stand (pm_p M) l (pm_e M) (pi_R I) (pm_s M) (pm_m M) (pm_a M) (pm_b M) (pm_h M) (pm_c M) T' (locs ++ L) (ck + (pi_R J).cells) (cn + (pi_R J).slots) ∧ (∀ z ∈ L, va_A w0 H.size z.base) ∧ T'.heap = t.heap ∧ (px E0 u ∧ va_P G.1 vwCl (wx u) t.heap ∧ va_D (va_A w0 H.size) (wx u) ∧ va_F (va_A w0 H.size) s0 t) ∧ t.heap[q]? = some ce ∧ ce.vm = .none ∧ (pm_s M).vm.findClass E0 = some ce.cls ∧
      Steps (pm_p M).tables (pm_e M) (pm_b M) (doInvoke (pm_e M) (T.setTop g) [] mk as.toArray).1 ((T'.setTop g).pushFrame (.throwing q))) := by
  have hws : ∀ w ∈ pi_w J, ∀ (a' : Array Value) (U : State), (pm_s M).WarmedH U.vm → w.before a' U = true := fun w hw9 a' U hU => by
    have hu := (pb_gd hcd w hw9).1
    exact word_at hU (uW_good hu) (pb_w E hu)
  have h1 : (headSpec (pi_w J) (pi_R J)).pre.before as.toArray T = true := atoms_intro fun w hw9 => hws w hw9 _ _ X.warmed
  have h2 : (Cond.code (pi_y J) (pi_c J) (pi_n J) (pi_r J)).before as.toArray T = true := by rw [← hw]; exact hws _ List.mem_cons_self _ _ X.warmed
  have h3 : (Cond.initialized (pi_y J).cls).before as.toArray T = true := word_at X.warmed (uW_good hini) (pb_w E hini)
  have hPc : va_Pc as (cn_B G w0 H.size) as.toArray (T.calling g mk as.toArray) := cn_blind _ _ _ _ (hpre T hT X.warmed)
  obtain ⟨methY, cY, hmY, hcY, -, hlY, -, -, -, -⟩ := Cond.code_spec hn h2
  obtain ⟨kY, hkY, -⟩ := className_of_methodNamed hn
  have hinitY : kY.init = .initialized := Cond.initialized_spec (findClass_of_methodNamed hn) hkY h3
  have h : At T g.method (pm_c M) (pm_b M) := by rw [hg]; exact X.here
  have happ : (headSpec (pi_w J) (pi_R J)).appliesLoose (pi_y J) (pm_e M).platform (T.calling g mk as.toArray) = true :=
    Spec.appliesLoose_calling (g := g) h hdg hn hkY hinitY
      (X.room_calling (g := g) (R' := (headSpec (pi_w J) (pi_R J)).room) hsize hmY hcY hRm.1 (by have := hRm.2; rw [hlY]; show _ + (pi_R J).locals ≤ _; omega) hf.1 hf.2) h1
  obtain ⟨mid, hmid⟩ := h.above
  have hfr : (T.setTop g).frames = (.java g :: mid) ++ pm_b M := by rw [State.frames_setTop' g h.top, hmid]; rfl
  obtain ⟨o, s₂, hsteps, -, hend, hq⟩ := Steps.callFree (hM H.size) (pm_p M) X.admits X.cas X.clock (acts := []) hfr happ hPc trivial
  have hq' : cx_Q G (va_A w0 H.size) post w1 px wx (pi_R J).cells (pi_R J).slots as.toArray (T.calling g mk as.toArray) o s₂ := hq
  rw [State.frames_setTop' g h.top] at hend
  obtain ⟨g₀, hg0⟩ := Option.isSome_iff_exists.mp h.top
  obtain ⟨r, hr⟩ := State.topJava?_eq_some.mp hg0
  have hr' : (({ T with heap := s₂.heap, slotsUsed := s₂.slotsUsed } : State).setVm s₂.vm).frames = .java g₀ :: r := hr
  have hs0 : (T.calling g mk as.toArray).heap = H := hT
  rcases hq' with ⟨hqc, L, hfe, hL⟩ | ⟨q, E0, ce, L, u, rfl, hpx, hce, hcv, hcl, hW₂, hsm, hL⟩
  · obtain ⟨⟨v, rfl⟩, hW₂, e2, q2, q3, q4, q5, q6⟩ := id hfe
    have e3 : s₂ = ({ (T.calling g mk as.toArray).setFrames s₂.frames with heap := s₂.heap, slotsUsed := s₂.slotsUsed } : State).setVm s₂.vm := by
      have e9 : s₂ = ({ s₂ with vm := (T.calling g mk as.toArray).vm } : State).setVm s₂.vm := rfl
      rw [e2] at e9
      exact e9
    obtain ⟨c₂, i₂, len₂, hc₂, hd₂, hf₂⟩ := hend
    have hW' : T.WarmedH s₂.vm := hW₂
    have hcc : c₂ = pm_c M := by
      have g1 : s₂.code? g.method = T.code? g.method := by
        rw [State.code?_eq, State.code?_eq, hW'.alike.method?]
      exact Option.some.inj (hc₂.symm.trans (g1.trans h.code))
    subst hcc
    have hlen : len₂ = 3 := by rw [hdg] at hd₂; cases hd₂; rfl
    subst hlen
    have hs₂ : s₂ = (({ T with heap := s₂.heap, slotsUsed := s₂.slotsUsed } : State).setVm s₂.vm).setTop { g with pc := g.pc + 3, stack := v.toList ++ g.stack } := by
      refine e3.trans ?_
      rw [hf₂, State.calling_eq h.top, State.setFrames_setFrames, State.setTop_of_frames _ hr', hr]
      rfl
    have hsame : T.sameButNew ({ T with heap := s₂.heap, slotsUsed := s₂.slotsUsed } : State) L (pi_R J).cells (pi_R J).slots := by
      refine ⟨?_, q2, q3, q4, q5, q6⟩
      obtain ⟨t, ht, -⟩ := State.frames_cons hr
      show ({ T with heap := s₂.heap, slotsUsed := s₂.slotsUsed } : State) = { T.setFrames T.frames with heap := s₂.heap, slotsUsed := s₂.slotsUsed }
      rw [State.setFrames_self ht]
    refine Or.inl ⟨v, _, s₂, (({ T with heap := s₂.heap, slotsUsed := s₂.slotsUsed } : State).setVm s₂.vm), L, hs0,
      ⟨X.admits, X.cas, X.clock, X.frames, X.room, X.hears, X.method, X.code, (X.here.setHeapUsed s₂.heap s₂.slotsUsed).setVm hW'.alike, X.tail, State.WarmedH.trans X.warmed hW', X.limits, X.bytes, X.same.trans (hsame.setVm (pm_s M).vm)⟩, hL, rfl, hqc, ?_⟩
    rw [← hs₂]
    exact hsteps
  · obtain ⟨e2, q2, q3, q4, q5, q6⟩ := id hsm
    have e3 : s₂ = ({ (T.calling g mk as.toArray).setFrames s₂.frames with heap := s₂.heap, slotsUsed := s₂.slotsUsed } : State).setVm s₂.vm := by
      have e9 : s₂ = ({ s₂ with vm := (T.calling g mk as.toArray).vm } : State).setVm s₂.vm := rfl
      rw [e2] at e9
      exact e9
    have hf₂ : s₂.frames = .throwing q :: .java g :: T.frames.tail := hend
    have hW' : T.WarmedH s₂.vm := hW₂
    have hs₂ : s₂ = ((({ T with heap := s₂.heap, slotsUsed := s₂.slotsUsed } : State).setVm s₂.vm).setTop g).pushFrame (.throwing q) := by
      refine e3.trans ?_
      rw [hf₂, State.calling_eq h.top, State.setFrames_setFrames, State.pushFrame, State.frames_setTop _ hr', State.setTop_of_frames _ hr', State.setFrames_setFrames, hr]
      rfl
    have hsame : T.sameButNew ({ T with heap := s₂.heap, slotsUsed := s₂.slotsUsed } : State) L (pi_R J).cells (pi_R J).slots := by
      refine ⟨?_, q2, q3, q4, q5, q6⟩
      obtain ⟨t, ht, -⟩ := State.frames_cons hr
      show ({ T with heap := s₂.heap, slotsUsed := s₂.slotsUsed } : State) = { T.setFrames T.frames with heap := s₂.heap, slotsUsed := s₂.slotsUsed }
      rw [State.setFrames_self ht]
    have hcl9 : (pm_s M).vm.findClass E0 = some ce.cls := by
      have g1 : T.vm.findClass E0 = some ce.cls := hcl
      rw [X.warmed.alike.findClass] at g1
      exact g1
    refine Or.inr ⟨q, E0, ce, u, _, s₂, (({ T with heap := s₂.heap, slotsUsed := s₂.slotsUsed } : State).setVm s₂.vm), L, hs0,
      ⟨X.admits, X.cas, X.clock, X.frames, X.room, X.hears, X.method, X.code, (X.here.setHeapUsed s₂.heap s₂.slotsUsed).setVm hW'.alike, X.tail, State.WarmedH.trans X.warmed hW', X.limits, X.bytes, X.same.trans (hsame.setVm (pm_s M).vm)⟩, hL, rfl, hpx, hce, hcv, hcl9, ?_⟩
    rw [← hs₂]
    exact hsteps
/-- at a place where q, of class E0, is being thrown -/
def pb_X (l : Launch) (G : pb_G) (M : pb_M) (I : pb_I) (pc : Nat) (lo : List (Nat × Value)) (rest : List Value) (ws : va_W) (ck cn : Nat) (E0 : String) : Prop :=
  pb_Ev l G M I → ∀ (H : Heap) (locs : List Loc) (ls : Array Slot) (q : Addr) (ce : Cell), va_P G.1 vwCl ws H → va_D (pm_A M) ws → va_S (pm_A M) (pm_s M).heap H locs → lv_has ls (pi_n I) lo → H[q]? = some ce → ce.vm = .none → (pm_s M).vm.findClass E0 = some ce.cls →
    ∀ T : State, T.heap = H → Stand (pm_p M) l (pm_e M) (pi_R I) (pm_s M) (pm_m M) (pm_a M) (pm_b M) (pm_h M) (pm_c M) T locs ck cn → ∃ t, Steps (pm_p M).tables (pm_e M) (pm_b M) ((T.setTop (F0 (pm_m M) pc ls rest)).pushFrame (.throwing q)) t ∧ pm_Q M t
theorem pb_catch {E0 name : String} {x : ExceptionTableEntry} {suf : List ExceptionTableEntry} (hT : (pm_c M).exceptionTable.toList = x :: suf) (hx : covers x pc = true) (h0 : x.catchType ≠ 0) (hlk : Cond.classLink (pi_y I).cls x.catchType name ∈ uW) (hcast : Cond.castable E0 name ∈ uN)
    (kk : ∀ q : Nat, pb_P l G M I x.handlerPc lo [.ref q] ws ck cn) : pb_X l G M I pc lo rest ws ck cn E0 := fun E H locs ls q ce hP hD hS hl g1 g2 g3 T hT9 X => by
  have hpl : (pm_e M).platform.magicAccessors = ({} : Platform).magicAccessors := by rw [X.admits.platform]
  obtain ⟨c3, c4, hc3, hc4, hasg⟩ := Cond.castable_spec (pb_n E hcast)
  cases Option.some.inj (hc3.symm.trans g3)
  obtain ⟨c5, hc5, hcl5⟩ := Cond.classLink_spec E.2.2.2.1 (pb_w E hlk) (pm_e M).platform hpl
  cases Option.some.inj (hc4.symm.trans hc5)
  obtain ⟨vm', X', st⟩ := X.thenCaughtThrough q (g := F0 (pm_m M) pc ls rest) rfl (Steps.refl _) (by rw [hT9]; exact g1) (by rw [g2]; rfl) (by obtain ⟨k9, h9, -⟩ := Vm.findClass_spec g3; exact ⟨k9, h9⟩) [] x suf hT
    (fun z hz => absurd hz List.not_mem_nil) hx (Or.inr ⟨h0, c4, hcl5, hasg⟩)
  obtain ⟨t, a1, b1⟩ := kk q E H locs ls hP hD hS hl (T.setVm vm') hT9 X'
  exact ⟨t, st.trans a1, b1⟩
theorem pb_catch2 {E0 name nm1 : String} {y x : ExceptionTableEntry} {suf : List ExceptionTableEntry} (hT : (pm_c M).exceptionTable.toList = y :: x :: suf) (hx : covers x pc = true) (h0 : x.catchType ≠ 0) (hlk : Cond.classLink (pi_y I).cls x.catchType name ∈ uW) (hcast : Cond.castable E0 name ∈ uN) (h01 : y.catchType ≠ 0) (hlk1 : Cond.classLink (pi_y I).cls y.catchType nm1 ∈ uW) (hnc : (E0, nm1) ∈ pb_ncs)
    (kk : ∀ q : Nat, pb_P l G M I x.handlerPc lo [.ref q] ws ck cn) : pb_X l G M I pc lo rest ws ck cn E0 := fun E H locs ls q ce hP hD hS hl g1 g2 g3 T hT9 X => by
  have hpl : (pm_e M).platform.magicAccessors = ({} : Platform).magicAccessors := by rw [X.admits.platform]
  obtain ⟨c3, c4, hc3, hc4, hasg⟩ := Cond.castable_spec (pb_n E hcast)
  cases Option.some.inj (hc3.symm.trans g3)
  obtain ⟨c5, hc5, hcl5⟩ := Cond.classLink_spec E.2.2.2.1 (pb_w E hlk) (pm_e M).platform hpl
  cases Option.some.inj (hc4.symm.trans hc5)
  obtain ⟨c6, t6, n1, n2, n3⟩ := (pb_z E).2.2.2.2.2.2.2.2.2 _ hnc
  cases Option.some.inj (n1.symm.trans g3)
  obtain ⟨c7, hc7, hcl7⟩ := Cond.classLink_spec E.2.2.2.1 (pb_w E hlk1) (pm_e M).platform hpl
  cases Option.some.inj (n2.symm.trans hc7)
  obtain ⟨vm', X', st⟩ := X.thenCaughtThrough q (g := F0 (pm_m M) pc ls rest) rfl (Steps.refl _) (by rw [hT9]; exact g1) (by rw [g2]; rfl) (by obtain ⟨k9, h9, -⟩ := Vm.findClass_spec g3; exact ⟨k9, h9⟩) [y] x suf hT
    (fun z hz => by
      obtain rfl := List.mem_singleton.mp hz
      exact Or.inr ⟨h01, _, hcl7, n3⟩) hx (Or.inr ⟨h0, c4, hcl5, hasg⟩)
  obtain ⟨t, a1, b1⟩ := kk q E H locs ls hP hD hS hl (T.setVm vm') hT9 X'
  exact ⟨t, st.trans a1, b1⟩
theorem pb_out {S SX : Type} {post : Option Value → S → Prop} {w1 : S → va_W} {px : String → SX → Prop} {wx : SX → va_W} {E0 : String} (hQ : pb_Rx G M I post w1 px wx) (u : SX) (hp : px E0 u) (ps : List Nat) (h1 : va_nd ps = true) (h2 : ps.map (fun i => ws[i]?) = (wx u).map some) (h3 : ps.filterMap (fun i => ws[i]?) = wx u) (h4 : ck ≤ (pi_R I).cells) (h5 : cn ≤ (pi_R I).slots) : pb_X l G M I pc lo rest ws ck cn E0 := fun E H locs ls q ce hP hD hS hl g1 g2 g3 T hT X => by
  rw [show pm_Q M = _ from hQ.1]
  obtain ⟨st1, hrun, hend, hW, hsm⟩ := X.leaveThrown q (g := F0 (pm_m M) pc ls rest) rfl rfl rfl (fun x hx => (hQ.2 x hx).elim) (pb_lock E)
  have hcell9 : (T.setFrames (.throwing q :: pm_b M)).heap[q]? = some ce := by
    show T.heap[q]? = some ce
    rw [hT]; exact g1
  have hhp : (T.setFrames (.throwing q :: pm_b M)).heap = H := hT
  exact ⟨_, st1, .threw q, hrun, hend, Or.inr ⟨q, E0, ce, locs, u, rfl, ⟨hp, by rw [hhp]; exact hP.sub ps h3, hD.sub ps h1 h2, hS.F hhp⟩, hcell9, g2, g3, hW, hsm.mono h4 h5, hS.2.2⟩⟩
theorem px_go {S SX : Type} {J : pb_I} {as : List Value} {post : Option Value → S → Prop} {w1 : S → va_W} {px : String → SX → Prop} {wx : SX → va_W} {w0 wr : va_W} {st0 : List Value} {ls : Array Slot} {H : Heap} {locs : List Loc} (E : pb_Ev l G M I) (hP : va_P G.1 vwCl ws H) (hD : va_D (pm_A M) ws) (hS : va_S (pm_A M) (pm_s M).heap H locs) (hl : lv_has ls (pi_n I) lo)
    (isC isR : List Nat) (hC : isC.map (fun i => ws[i]?) = w0.map some) (hR : isR.map (fun i => ws[i]?) = wr.map some) (hn : va_nd isR = true) (hdis : ∀ i ∈ isR, i ∉ isC) {T T1 : State} {mk : MethodId} {g : JFrame} (hgF : g = F0 (pm_m M) pc ls rest)
    (hstep : ∀ tg, Steps (pm_p M).tables (pm_e M) (pm_b M) (doInvoke (pm_e M) (T1.setTop g) [] mk as.toArray).1 tg → Steps (pm_p M).tables (pm_e M) (pm_b M) (T.setTop (F0 (pm_m M) pc ls st0)) tg)
    (hb : (∃ (v : Option Value) (s0 t T' : State) (L : List Loc), s0.heap = H ∧ Stand (pm_p M) l (pm_e M) (pi_R I) (pm_s M) (pm_m M) (pm_a M) (pm_b M) (pm_h M) (pm_c M) T' (locs ++ L) (ck + (pi_R J).cells) (cn + (pi_R J).slots) ∧ (∀ q ∈ L, va_A w0 H.size q.base) ∧ T'.heap = t.heap ∧ cn_Q G (va_A w0 H.size) post w1 as.toArray s0 (.returned v) t ∧
      Steps (pm_p M).tables (pm_e M) (pm_b M) (doInvoke (pm_e M) (T1.setTop g) [] mk as.toArray).1 (T'.setTop { g with pc := g.pc + 3, stack := v.toList ++ g.stack })) ∨
    (∃ (q : Addr) (E0 : String) (ce : Cell) (u : SX) (s0 t T' : State) (L : List Loc), s0.heap = H ∧ Stand (pm_p M) l (pm_e M) (pi_R I) (pm_s M) (pm_m M) (pm_a M) (pm_b M) (pm_h M) (pm_c M) T' (locs ++ L) (ck + (pi_R J).cells) (cn + (pi_R J).slots) ∧ (∀ z ∈ L, va_A w0 H.size z.base) ∧ T'.heap = t.heap ∧ (px E0 u ∧ va_P G.1 vwCl (wx u) t.heap ∧ va_D (va_A w0 H.size) (wx u) ∧ va_F (va_A w0 H.size) s0 t) ∧ t.heap[q]? = some ce ∧ ce.vm = .none ∧ (pm_s M).vm.findClass E0 = some ce.cls ∧
      Steps (pm_p M).tables (pm_e M) (pm_b M) (doInvoke (pm_e M) (T1.setTop g) [] mk as.toArray).1 ((T'.setTop g).pushFrame (.throwing q))))
    (kx : ∀ (E0 : String) (u : SX), px E0 u → pb_X l G M I pc lo rest (wr ++ wx u) (ck + (pi_R J).cells) (cn + (pi_R J).slots) E0)
    (kk : ∀ (v : Option Value) (u : S), post v u → pb_P l G M I (pc + 3) lo (cn_st v rest) (wr ++ w1 u) (ck + (pi_R J).cells) (cn + (pi_R J).slots)) :
    ∃ t, Steps (pm_p M).tables (pm_e M) (pm_b M) (T.setTop (F0 (pm_m M) pc ls st0)) t ∧ pm_Q M t := by
  subst hgF
  have hF := va_free hD hS (pb_hA E) isC hC
  have hSj : ∀ {T' : State} {L : List Loc}, H.size ≤ T'.heap.size → (∀ q : Nat, q < H.size → ¬ va_A w0 H.size q → T'.heap[q]? = H[q]?) → (∀ q ∈ L, va_A w0 H.size q.base) → va_S (pm_A M) (pm_s M).heap T'.heap (locs ++ L) := fun hz hk hL =>
    ⟨Nat.le_trans hS.1 hz, fun q h1 h2 => by rw [hk q (Nat.lt_of_lt_of_le h1 hS.1) (fun z => h2 (hF q z))]; exact hS.2.1 q h1 h2, fun q hq => by
      rcases List.mem_append.mp hq with h | h
      · exact hS.2.2 q h
      · exact hF _ (hL q h)⟩
  rcases hb with ⟨v, s0, t, T', L, h0, X', hL, e1, ⟨⟨v', u, hv, hp, hP1, hD1⟩, hz, hk⟩, st⟩ | ⟨q, E0, ce, u, s0, t, T', L, h0, X', hL, e1, ⟨hp, hP1, hD1, hz, hk⟩, hce, hcv, hcl, st⟩
  · cases hv
    rw [h0] at hz hk
    rw [← e1] at hP1 hz hk
    obtain ⟨hP2, hD2⟩ := va_join hP hD isC isR hC hR hn hdis hk hF hP1 hD1
    obtain ⟨t2, a1, b1⟩ := kk v u hp E T'.heap (locs ++ L) ls hP2 hD2 (hSj hz hk hL) hl T' rfl X'
    rw [← cn_st_eq] at a1
    exact ⟨t2, hstep _ (st.trans a1), b1⟩
  · rw [h0] at hz hk
    rw [← e1] at hP1 hz hk hce
    obtain ⟨hP2, hD2⟩ := va_join hP hD isC isR hC hR hn hdis hk hF hP1 hD1
    obtain ⟨t2, a1, b1⟩ := kx E0 u hp E T'.heap (locs ++ L) ls q ce hP2 hD2 (hSj hz hk hL) hl hce hcv hcl T' rfl X'
    exact ⟨t2, hstep _ (st.trans a1), b1⟩
set_option maxHeartbeats 1000000 in
/-- a call of an object's method that may throw -/
theorem pb_callVX {S SX : Type} {J : pb_I} {nA : Nat} {as : List Value} {b index qb ci N : Nat} {T9 : u_T} {fs : List Value} {w0 wr : va_W} {post : Option Value → S → Prop} {w1 : S → va_W} {px : String → SX → Prop} {wx : SX → va_W} (hd : decode (pi_c I) pc = .ok (.invokevirtual index, 3)) (hM : Cx l G J (.ref b :: as) w0 post w1 px wx)
    (hb : ws[qb]? = some (b, .inr (ci, fs))) (hc : vwCl[ci]? = some ((pi_y J).cls, T9, N))
    (isC isR : List Nat) (h0 : va_nd isC = true) (hC : isC.map (fun i => ws[i]?) = w0.map some) (hC2 : isC.filterMap (fun i => ws[i]?) = w0) (hR : isR.map (fun i => ws[i]?) = wr.map some) (hn : va_nd isR = true) (hdis : ∀ i ∈ isR, i ∉ isC)
    (hcd : pi_d J ∈ uW) (hw : pi_d J = .code (pi_y J) (pi_c J) (pi_n J) (pi_r J)) (hini : Cond.initialized (pi_y J).cls ∈ uW) (hlk : Cond.methodLink (pi_y I).cls index (pi_y J) ∈ uW) (hin : Cond.instanceMethod (pi_y J) ∈ uW) (hsel : Cond.selects (pi_y J).cls (pi_y J) (pi_y J) ∈ uW)
    (hy : (pi_y J).cls ≠ "java/lang/invoke/MethodHandle" ∧ (pi_y J).cls ≠ "java/lang/invoke/VarHandle" ∧ (parseMethodDescriptor (pi_y J).desc).map (fun d => d.parameters.length) = some nA) (hRm : (pi_R J).frames + 1 ≤ (pi_R I).frames ∧ 8 + (pi_n J + 11) + (pi_R J).locals ≤ (pi_R I).locals) (hA9 : as.length = nA)
    {st0 : List Value} (hst : st0 = as.reverse ++ .ref b :: rest) (h8 : (rest.map fun v => v.category).sum ≤ 8) (hf : ck + (pi_R J).cells ≤ (pi_R I).cells ∧ cn + (pi_R J).slots ≤ (pi_R I).slots)
    (kx : ∀ (E0 : String) (u : SX), px E0 u → pb_X l G M I pc lo rest (wr ++ wx u) (ck + (pi_R J).cells) (cn + (pi_R J).slots) E0)
    (kk : ∀ (v : Option Value) (u : S), post v u → pb_P l G M I (pc + 3) lo (cn_st v rest) (wr ++ w1 u) (ck + (pi_R J).cells) (cn + (pi_R J).slots)) : pb_P l G M I pc lo st0 ws ck cn := fun E H locs ls hP hD hS hl => by
  subst hst
  intro T hT X
  obtain ⟨cellB, hcB, hoB, hclB⟩ := va_recv (pb_k E) hP hc hb
  have hcode : (Cond.code (pi_y J) (pi_c J) (pi_n J) (pi_r J)).before (pm_a M) (pm_s M) = true := by rw [← hw]; exact pb_w E hcd
  obtain ⟨mk, methM, hnamed, hmethM, hstM, habM⟩ := Cond.instanceMethod_spec (pb_w E hin)
  obtain ⟨methM', cM, hmethM', -, -, -, -, -, -, hsigM⟩ := Cond.code_spec hnamed hcode
  cases hmethM.symm.trans hmethM'
  obtain ⟨c2, r2, m2, q1, q2, q3, q4, kP, hkP, hkPi⟩ := Cond.selects_spec (pb_w E hsel)
  cases hclB.symm.trans q1
  cases (State.methodFound?_of_named hnamed ⟨hy.1, hy.2.1⟩).symm.trans q2
  cases hnamed.symm.trans q3
  have hselP : selectMethod (pm_e M).platform (pm_s M).vm cellB.cls mk = .method mk := by rw [Launch.admits_selectMethod X.admits]; exact q4
  have hlen : as.length = methM.sig.parameters.length := by
    have h2 := hy.2.2
    rw [hsigM] at h2
    exact hA9.trans (Option.some.inj h2).symm
  obtain ⟨vm₁, X₁, hstep₁⟩ := X.invokevirtual E.1 E.2.2.2.1 (pb_w E hlk) hnamed hmethM hstM hkP hkPi ⟨hy.1, hy.2.1⟩ (a := b) (cell := cellB) (by rw [hT]; exact hcB)
    (fun z h => by rw [h] at hoB; cases hoB) hselP hmethM habM hkP hkPi (g := F0 (pm_m M) pc ls (as.reverse ++ .ref b :: rest)) rfl (argsL := as) (rest := rest) hlen rfl (by rw [E.2.1]; exact hd)
  refine px_go E hP hD hS hl isC isR hC hR hn hdis (T1 := T.setVm vm₁) (g := F0 (pm_m M) pc ls rest) rfl (fun tg h => hstep₁ _ fun acts => by rw [doInvoke_state]; exact h)
    (px_back (T := T.setVm vm₁) hM hcd hw hini hRm hf E (show (T.setVm vm₁).heap = H from hT) X₁ (cn_pre E hP hD hS isC h0 hC hC2) rfl (hl.1.trans E.2.2.1.symm) (by rw [E.2.1]; exact hd) (lv_room h8) (X₁.named hnamed)) kx kk
set_option maxHeartbeats 1000000 in
/-- a call of a static method that may throw -/
theorem pb_callSX {S SX : Type} {J : pb_I} {nA : Nat} {as : List Value} {index : Nat} {w0 wr : va_W} {post : Option Value → S → Prop} {w1 : S → va_W} {px : String → SX → Prop} {wx : SX → va_W} (hd : decode (pi_c I) pc = .ok (.invokestatic index, 3)) (hM : Cx l G J as w0 post w1 px wx)
    (isC isR : List Nat) (h0 : va_nd isC = true) (hC : isC.map (fun i => ws[i]?) = w0.map some) (hC2 : isC.filterMap (fun i => ws[i]?) = w0) (hR : isR.map (fun i => ws[i]?) = wr.map some) (hn : va_nd isR = true) (hdis : ∀ i ∈ isR, i ∉ isC)
    (hcd : pi_d J ∈ uW) (hw : pi_d J = .code (pi_y J) (pi_c J) (pi_n J) (pi_r J)) (hini : Cond.initialized (pi_y J).cls ∈ uW) (hlk : Cond.methodLink (pi_y I).cls index (pi_y J) ∈ uW) (hst9 : Cond.static (pi_y J) ∈ uW)
    (hy : (pi_y J).cls ≠ "java/lang/invoke/MethodHandle" ∧ (pi_y J).cls ≠ "java/lang/invoke/VarHandle" ∧ (parseMethodDescriptor (pi_y J).desc).map (fun d => d.parameters.length) = some nA) (hRm : (pi_R J).frames + 1 ≤ (pi_R I).frames ∧ 8 + (pi_n J + 11) + (pi_R J).locals ≤ (pi_R I).locals) (hA9 : as.length = nA)
    {st0 : List Value} (hst : st0 = as.reverse ++ rest) (h8 : (rest.map fun v => v.category).sum ≤ 8) (hf : ck + (pi_R J).cells ≤ (pi_R I).cells ∧ cn + (pi_R J).slots ≤ (pi_R I).slots)
    (kx : ∀ (E0 : String) (u : SX), px E0 u → pb_X l G M I pc lo rest (wr ++ wx u) (ck + (pi_R J).cells) (cn + (pi_R J).slots) E0)
    (kk : ∀ (v : Option Value) (u : S), post v u → pb_P l G M I (pc + 3) lo (cn_st v rest) (wr ++ w1 u) (ck + (pi_R J).cells) (cn + (pi_R J).slots)) : pb_P l G M I pc lo st0 ws ck cn := fun E H locs ls hP hD hS hl => by
  subst hst
  intro T hT X
  have hcode : (Cond.code (pi_y J) (pi_c J) (pi_n J) (pi_r J)).before (pm_a M) (pm_s M) = true := by rw [← hw]; exact pb_w E hcd
  obtain ⟨mk, hnamed⟩ := Cond.code_named hcode
  obtain ⟨methM', cM, hmethM, -, -, -, -, -, -, hsigM⟩ := Cond.code_spec hnamed hcode
  have hstatic : methM'.isStatic = true := Cond.static_spec hnamed hmethM (pb_w E hst9)
  obtain ⟨kP, hkP, -⟩ := className_of_methodNamed hnamed
  have hinitP : kP.init = .initialized := Cond.initialized_spec (findClass_of_methodNamed hnamed) hkP (pb_w E hini)
  have hlen : as.length = methM'.sig.parameters.length := by
    have h2 := hy.2.2
    rw [hsigM] at h2
    exact hA9.trans (Option.some.inj h2).symm
  obtain ⟨vm₁, X₁, hstep₁⟩ := X.invokestatic E.1 E.2.2.2.1 (pb_w E hlk) hnamed hmethM hstatic hkP hinitP ⟨hy.1, hy.2.1⟩ (g := F0 (pm_m M) pc ls (as.reverse ++ rest)) rfl (argsL := as) (rest := rest) hlen rfl (by rw [E.2.1]; exact hd)
  refine px_go E hP hD hS hl isC isR hC hR hn hdis (T1 := T.setVm vm₁) (g := F0 (pm_m M) pc ls rest) rfl (fun tg h => hstep₁ _ fun acts => by rw [doInvoke_state]; exact h)
    (px_back (T := T.setVm vm₁) hM hcd hw hini hRm hf E (show (T.setVm vm₁).heap = H from hT) X₁ (cn_pre E hP hD hS isC h0 hC hC2) rfl (hl.1.trans E.2.2.1.symm) (by rw [E.2.1]; exact hd) (lv_room h8) (X₁.named hnamed)) kx kk
/-- a method with handlers that only returns -/
theorem Cn.ofW {S : Type} {as : List Value} {w0 : va_W} {post : Option Value → S → Prop} {w1 : S → va_W} {hh : List (Nat × Nat × Nat × Nat)} (hl : l.stackTraces = false) (hy : plainName (pi_y I).cls = true) (hw : pi_d I = .codeWith (pi_y I) (pi_c I) (pi_n I) (pi_r I) hh) (hn : (lg_sl as).length ≤ pi_n I)
    (body : ∀ M : pb_M, pb_Rq G M I post w1 → (pm_c M).exceptionTable.toList = tableOf hh → pb_P l G M I 0 (lv_args 0 as) [] w0 0 0) : Cn l G I as w0 post w1 := by
  intro sz
  refine va_MetW (cc := pi_c I) (maxL := pi_n I) (ret := pi_r I) hy (pb_hw hw) ?_
  intro p e s m args below meth c s₁ B hml hv
  obtain ⟨rfl, hsz, hP, hK, hD0, hZ⟩ := hv
  have hT : c.exceptionTable.toList = tableOf hh := by
    obtain ⟨m9, meth9, c9, hn9, h1, h2, -, -, h6, -⟩ := Cond.codeWith_spec (atoms_spec (ws := pi_w I) B.pre _ (by rw [pb_hw hw]; exact List.mem_cons_self))
    cases Option.some.inj (hn9.symm.trans B.named)
    cases Option.some.inj (h1.symm.trans B.method)
    cases Option.some.inj (h2.symm.trans (Stand.of_body B).code)
    rw [← h6, table_eq]
  subst hsz
  have hl9 := lv_entry as hn
  rw [lg_entry_eq]
  exact body ((p, e, s, m, as.toArray), (below, meth, c), (va_A w0 s.heap.size, MQ below (cn_Q G (va_A w0 s.heap.size) post w1) as.toArray s (pi_R I).cells (pi_R I).slots (va_A w0 s.heap.size))) rfl hT
    ⟨B.exec, B.bytes, hml, findClass_of_methodNamed B.named, fun w h => atoms_spec (ws := pi_w I) B.pre w (List.mem_cons_of_mem _ h), hK, fun q h => Or.inr h, B.notSynchronized, fun h9 => (name_of_methodNamed B.named B.method).1.trans h9, B.returns, hl, hZ⟩ s.heap [] _ hP hD0.self va_S.rf hl9
set_option maxHeartbeats 1000000 in
/-- a call of a static method with handlers that only returns -/
theorem pb_callSW {S : Type} {J : pb_I} {nA : Nat} {as : List Value} {index : Nat} {w0 wr : va_W} {post : Option Value → S → Prop} {w1 : S → va_W} {hh : List (Nat × Nat × Nat × Nat)} (hd : decode (pi_c I) pc = .ok (.invokestatic index, 3)) (hM : Cn l G J as w0 post w1)
    (isC isR : List Nat) (h0 : va_nd isC = true) (hC : isC.map (fun i => ws[i]?) = w0.map some) (hC2 : isC.filterMap (fun i => ws[i]?) = w0) (hR : isR.map (fun i => ws[i]?) = wr.map some) (hn : va_nd isR = true) (hdis : ∀ i ∈ isR, i ∉ isC)
    (hcd : pi_d J ∈ uW) (hw : pi_d J = .codeWith (pi_y J) (pi_c J) (pi_n J) (pi_r J) hh) (hini : Cond.initialized (pi_y J).cls ∈ uW) (hlk : Cond.methodLink (pi_y I).cls index (pi_y J) ∈ uW) (hst9 : Cond.static (pi_y J) ∈ uW)
    (hy : (pi_y J).cls ≠ "java/lang/invoke/MethodHandle" ∧ (pi_y J).cls ≠ "java/lang/invoke/VarHandle" ∧ (parseMethodDescriptor (pi_y J).desc).map (fun d => d.parameters.length) = some nA) (hRm : (pi_R J).frames + 1 ≤ (pi_R I).frames ∧ 8 + (pi_n J + 11) + (pi_R J).locals ≤ (pi_R I).locals) (hA9 : as.length = nA)
    {st0 : List Value} (hst : st0 = as.reverse ++ rest) (h8 : (rest.map fun v => v.category).sum ≤ 8) (hf : ck + (pi_R J).cells ≤ (pi_R I).cells ∧ cn + (pi_R J).slots ≤ (pi_R I).slots)
    (kk : ∀ (v : Option Value) (u : S), post v u → pb_P l G M I (pc + 3) lo (cn_st v rest) (wr ++ w1 u) (ck + (pi_R J).cells) (cn + (pi_R J).slots)) : pb_P l G M I pc lo st0 ws ck cn := fun E H locs ls hP hD hS hl => by
  subst hst
  refine cn_go (mc := (pi_R J).cells) (ms := (pi_R J).slots) (a := as.toArray) E hP hD hS hl isC isR hC hR hn hdis ?_ kk
  intro T hT X
  have hws : ∀ w ∈ pi_w J, ∀ (a' : Array Value) (U : State), (pm_s M).WarmedH U.vm → w.before a' U = true := fun w hw9 a' U hU => by
    have hu := (pb_gd hcd w hw9).1
    exact word_at hU (uW_good hu) (pb_w E hu)
  have hcode : (Cond.codeWith (pi_y J) (pi_c J) (pi_n J) (pi_r J) hh).before (pm_a M) (pm_s M) = true := by rw [← hw]; exact pb_w E hcd
  have hK : Back l (pi_R I) (pm_p M) (pm_e M) (pm_b M) (pm_s M) (pm_a M) (pi_y J) 3 8 (PreOf (pi_R I) (pi_R J).cells (pi_R J).slots (va_Pc as (cn_B G w0 H.size))) (PostOf (cn_Q G (va_A w0 H.size) post w1) (pi_R J).cells (pi_R J).slots (va_A w0 H.size)) :=
    va_backW (bytes := pi_c J) (maxL := pi_n J) (ret := pi_r J) (hh := hh) (hM H.size) cn_blind rfl rfl hRm.1 hRm.2 hws (by rw [← hw]; exact List.mem_cons_self) (fun a' U hU => word_at hU (uW_good hini) (pb_w E hini))
  obtain ⟨mk, methM, cM, hnamed, hmethM, -, -, -, -, -, -, hsigM⟩ := Cond.codeWith_spec hcode
  have hstatic : methM.isStatic = true := Cond.static_spec hnamed hmethM (pb_w E hst9)
  obtain ⟨kP, hkP, -⟩ := className_of_methodNamed hnamed
  have hinitP : kP.init = .initialized := Cond.initialized_spec (findClass_of_methodNamed hnamed) hkP (pb_w E hini)
  have hlen : as.length = methM.sig.parameters.length := by
    have h2 := hy.2.2
    rw [hsigM] at h2
    exact hA9.trans (Option.some.inj h2).symm
  obtain ⟨vm₁, X₁, hstep₁⟩ := X.invokestatic E.1 E.2.2.2.1 (pb_w E hlk) hnamed hmethM hstatic hkP hinitP ⟨hy.1, hy.2.1⟩ (g := F0 (pm_m M) pc ls (as.reverse ++ rest)) rfl (argsL := as) (rest := rest) hlen rfl (by rw [E.2.1]; exact hd)
  obtain ⟨v, ⟨U', l2, c2, s2⟩, X', ⟨g', mk', t, L, e1, e2, hq, g1, hL, g2, g3⟩, hsteps⟩ := hK (pm_m M) (pm_h M) (pm_c M) ⟨T.setVm vm₁, locs, ck, cn⟩ (F0 (pm_m M) pc ls rest) (.invokestatic index) mk as.toArray X₁ rfl (hl.1.trans E.2.2.1.symm) (by rw [E.2.1]; exact hd) (lv_room h8) (X₁.named hnamed) ⟨hf.1, hf.2, cn_pre E hP hD hS isC h0 hC hC2 (T.setVm vm₁) hT X₁.warmed⟩
  dsimp only [Pt.U, Pt.locs, Pt.cells, Pt.slots] at X' e1 e2 g1 g2 g3 hsteps
  subst g1; subst g2; subst g3
  exact ⟨v, _, t, U', L, hT, X', hL, e1, e2, hq, fun target h => hstep₁ _ fun acts => by rw [doInvoke_state]; exact hsteps.trans h⟩
end PX
section PL
variable {l : Launch} {G : pb_G} {M : pb_M} {I : pb_I} {pc : Nat} {lo : List (Nat × Value)} {rest : List Value} {ws : va_W} {ck cn : Nat}
theorem pb_sld {b L : Nat} {xs : Nat → Int32} {i : Int32} (hX : va_X b L xs (pm_s M) (pm_s M).heap) (hbl : b < (pm_s M).heap.size) (hbA : ¬ pm_A M b) (hin : vp_in i L) (hd : decode (pi_c I) pc = .ok (.iaload, 1)) (kk : pb_P l G M I (pc + 1) lo (.int (xs i.toNatClampNeg) :: rest) ws ck cn) : pb_P l G M I pc lo (.int i :: .ref b :: rest) ws ck cn := fun E H locs ls hP hD hS hl => va_sld E.1 E.2.1 hX hbl hbA hS hin hd (kk E H locs ls hP hD hS hl)
theorem pb_slen {b L : Nat} {xs : Nat → Int32} (hX : va_X b L xs (pm_s M) (pm_s M).heap) (hbl : b < (pm_s M).heap.size) (hbA : ¬ pm_A M b) (hd : decode (pi_c I) pc = .ok (.arraylength, 1)) (kk : pb_P l G M I (pc + 1) lo (.int (Int32.ofNat L) :: rest) ws ck cn) : pb_P l G M I pc lo (.ref b :: rest) ws ck cn := fun E H locs ls hP hD hS hl => va_slen E.1 E.2.1 hX hbl hbA hS hd (kk E H locs ls hP hD hS hl)
theorem pb_tabOut {dflt lw hi : Int} {offs : Array Int} {len : Nat} {x : Int32} {tgt : Nat} (hd : decode (pi_c I) pc = .ok (.tableswitch dflt lw hi offs, len)) (h : x.toInt < lw ∨ hi < x.toInt) (ht : (pc : Int) + dflt = (tgt : Int)) (kk : pb_P l G M I tgt lo rest ws ck cn) : pb_P l G M I pc lo (.int x :: rest) ws ck cn := fun E H locs ls hP hD hS hl => lv_tableOut E.1 E.2.1 hd h ht (kk E H locs ls hP hD hS hl)
theorem pb_tabIn {dflt lw hi : Int} {offs : Array Int} {len : Nat} {x : Int32} {off : Int} {tgt : Nat} (hd : decode (pi_c I) pc = .ok (.tableswitch dflt lw hi offs, len)) (h1 : ¬ x.toInt < lw) (h2 : ¬ hi < x.toInt) (ho : offs[(x.toInt - lw).toNat]? = some off) (ht : (pc : Int) + off = (tgt : Int)) (kk : pb_P l G M I tgt lo rest ws ck cn) : pb_P l G M I pc lo (.int x :: rest) ws ck cn := fun E H locs ls hP hD hS hl => lv_tableIn E.1 E.2.1 hd h1 h2 ho ht (kk E H locs ls hP hD hS hl)
theorem lg_cmp0 {x y : Int64} : lg_cmp x y = 0 ↔ x = y := by
  unfold lg_cmp
  constructor
  · intro h
    split at h
    · exact absurd h (by decide)
    · split at h
      · assumption
      · exact absurd h (by decide)
  · intro h
    subst h
    simp
end PL
