-- ===== end of PART A; then your names; then what follows =====
/-! THE CLAIM OUT OF ONE WALK OF THE LAW'S BODY. Your part is whole_start (and what it stands on); all else here is the same for every law, but numbers. -/
def R_law : String := "PackageBookLaw"
def lw_P (b : Addr) (xs : List Int32) (args : Array Value) (s : State) : Prop := args = #[.ref b] ∧ s.IntsAt b xs ∧ xs.length ≤ 4 ∧ (Jvm.Cond.and given_1 narrow_1).before args s = true
def lw_Q (_ : Array Value) (s : State) (o : Outcome) (t : State) : Prop := o = .returned (some (.int 1)) ∧ Framed s o t [] 600002 7302232
def lw_Z (below : List Frame) (a : Array Value) (s : State) : State → Prop := fun t => ∃ o, t.status = .running ∧ Ended t below o ∧ lw_Q a s o t
/-- the law's own end, with 1 on the stack, nothing written that was there before, its room as the claim has it -/
theorem lw_ret {p : Program} {l : Launch} {e : Env} {s : State} {m : MethodId} {below : List Frame} {meth : Method} {c : Code} {b : Nat} (hx : p.tables.exec = Jvm.exec) (hb : c.code = code) (hr : meth.sig.returnType = ret) (hlocks : meth.locks = false) {pc : Nat} {H : Heap} {ls : Array Slot} (hdg : decode code pc = .ok (.ireturn, 1)) : W p l e room_1 s m #[Value.ref b] below meth c H [] 600002 7302232 (lw_Z below #[Value.ref b] s) (F0 m pc ls [.int 1]) := by
  intro T hT X
  obtain ⟨fs, hret, hrun, hended, hW, hframe⟩ := X.leave (v := some (.int 1)) (hlocks := hlocks) (fun h => by rw [hr] at h; cases h)
  have hmeth' : T.vm.method? m = some meth := X.method'
  refine ⟨T.setFrames fs, ?_, .returned (some (.int 1)), hrun, hended, rfl, ⟨_, rfl⟩, hW, hframe⟩
  jvm_step X.here [X.here.top, hx, hb, hdg, hmeth', hr, ret, narrow_b1]
  (try refine ⟨rfl, ?_⟩); (try refine ⟨rfl, ?_⟩)
  first | (intro acts; rw [hret _ acts rfl rfl rfl]) | rw [hret _ _ rfl rfl rfl]
  exact Steps.refl _
/-- what holds at the law's entry: the machine, the code, the tables' words (any of lw_tbl by 'hts w (by decide +kernel)'), the script of L ints xs at the cell b, what the Statement gives of the start (any of its parts by flat_of_before) -/
def lw_At (p : Program) (s : State) (m : MethodId) (meth : Method) (c : Code) (b L : Nat) (xs : Nat → Int32) : Prop :=
  p.tables.exec = Jvm.exec ∧ c.code = code ∧ meth.sig.returnType = ret ∧ c.maxLocals = 7 ∧ s.vm.findClass R_law = some m.cls ∧ (∀ w ∈ lw_tbl, w.before #[Value.ref b] s = true) ∧ va_X b L xs s s.heap ∧ b < s.heap.size ∧ meth.locks = false ∧ (Jvm.Cond.and given_1 narrow_1).before #[Value.ref b] s = true

theorem d_Law_law_23 : decode code 23 = .ok (.iload 4, 2) := by decide +kernel
theorem d_Law_law_25 : decode code 25 = .ok (.aload_n 0, 1) := by decide +kernel
theorem d_Law_law_26 : decode code 26 = .ok (.arraylength, 1) := by decide +kernel
theorem d_Law_law_27 : decode code 27 = .ok (.iconst 4, 1) := by decide +kernel
theorem d_Law_law_28 : decode code 28 = .ok (.isub, 1) := by decide +kernel
theorem d_Law_law_29 : decode code 29 = .ok (.if_icmp .gt 943, 3) := by decide +kernel
theorem d_Law_law_966 : decode code 966 = .ok (.iinc 4 4, 3) := by decide +kernel
theorem d_Law_law_969 : decode code 969 = .ok (.goto (-946), 3) := by decide +kernel
theorem d_Law_law_972 : decode code 972 = .ok (.iconst 1, 1) := by decide +kernel
theorem d_Law_law_973 : decode code 973 = .ok (.ireturn, 1) := by decide +kernel
/-- the goal of the law's own frame -/
def law_Q (M : pb_M) (b : Nat) : Prop := pm_Q M = lw_Z (pm_b M) #[Value.ref b] (pm_s M) ∧ pm_a M = #[Value.ref b] ∧ pm_A M = (fun q => (pm_s M).heap.size ≤ q)
abbrev y_Law_law : MethodName := ⟨"PackageBookLaw", "law", "([I)Z"⟩
abbrev i_Law_law : pb_I := (y_Law_law, code, 7, ret, [], room_1)
theorem law_ret {l : Launch} {G : pb_G} {M : pb_M} {b : Nat} {lo : List (Nat × Value)} {ws : va_W} {ck cn pc : Nat} (hQ : law_Q M b) (hd : decode code pc = .ok (.ireturn, 1)) (h1 : ck ≤ 600002) (h2 : cn ≤ 7302232) : pb_P l G M i_Law_law pc lo [.int 1] ws ck cn := fun E H locs ls hP hD hS hl => by
  obtain ⟨⟨p, e, s, m, a⟩, ⟨below, meth, c⟩, A, Q⟩ := M
  obtain ⟨q1, q2, q3⟩ := hQ
  change Q = lw_Z below #[Value.ref b] s at q1
  change a = #[Value.ref b] at q2
  change A = (fun q => s.heap.size ≤ q) at q3
  subst q1 q2 q3
  refine va_forget (fun q hq => hS.2.2 q hq) ?_
  refine W.widen h1 h2 ?_
  exact lw_ret E.1 E.2.1 (pb_ret E) (pb_lock E) hd
theorem law_tail {l : Launch} {G : pb_G} {M : pb_M} {b : Nat} {xs : Nat → Int32} {ck cn : Nat} (hQ : law_Q M b) (hX : va_X b 4 xs (pm_s M) (pm_s M).heap) (hbl : b < (pm_s M).heap.size) (hbA : ¬ pm_A M b) (h1 : ck ≤ 600002) (h2 : cn ≤ 7302232) : pb_P l G M i_Law_law 966 [(4, .int 0), (0, .ref b)] [] [] ck cn := by
  refine pb_iinc (pc := 966) (v := 4) (lo' := [(4, .int 4), (0, .ref b)]) d_Law_law_966 0 rfl (by decide) (by decide) rfl ?_
  refine pb_goto (pc := 969) (tgt := 23) d_Law_law_969 (by decide) ?_
  refine pb_iload (pc := 23) d_Law_law_23 0 rfl ?_
  refine pb_aload_n (pc := 25) d_Law_law_25 1 rfl rfl ?_
  refine pb_slen (pc := 26) hX hbl hbA d_Law_law_26 ?_
  refine pb_asi (y := 4) (by decide) ?_
  refine pb_iconst (pc := 27) (v := 4) d_Law_law_27 (by decide) ?_
  refine pb_isub (pc := 28) d_Law_law_28 ?_
  refine pb_asi (y := 0) (by decide) ?_
  refine pb_icmp_gt (pc := 29) (tgt := 972) d_Law_law_29 (by decide) (fun _ => ?_) (fun h9 => absurd h9 (by decide))
  refine pb_iconst (pc := 972) (v := 1) d_Law_law_972 (by decide) ?_
  exact law_ret hQ d_Law_law_973 h1 h2
