/-! ROWS OF NUMBERS -/
theorem omg_98d8457d27 {x0 : Int} {x1 : Int} (a0 : ((x0 = (0 : Int)) ∨ ((x0 = (1 : Int)) ∨ (x0 = (2 : Int))))) (a1 : (x1 = (2 : Int))) (a2 : (¬ (x0 = (1 : Int)))) (a3 : (¬ (x0 = (0 : Int)))) : (x1 = x0) := by omega
theorem omg_e89e2d4435 {x0 : Int} {x1 : Int} {x2 : Int} {x3 : Int} {x4 : Int} {x5 : Prop} {x6 : Int} (a0 : (x0 = x1)) (a1 : ((x2 = (0 : Int)) ∨ ((x2 = (1 : Int)) ∨ (x2 = (2 : Int))))) (a2 : ((x2 = (1 : Int)) → (¬ (((0 : Int) ≤ x3) ∧ (x3 < x0))))) (a3 : ((x2 = (2 : Int)) → ((((0 : Int) ≤ x3) ∧ (x3 < x0)) ∧ (¬ (((0 : Int) ≤ x4) ∧ (x4 ≤ (255 : Int))))))) (a4 : ((x2 = (0 : Int)) → ((((0 : Int) ≤ x3) ∧ (x3 < x0)) ∧ ((((0 : Int) ≤ x4) ∧ (x4 ≤ (255 : Int))) ∧ x5)))) (a5 : ((x6 = (0 : Int)) ∨ ((x6 = (1 : Int)) ∨ (x6 = (2 : Int))))) (a6 : ((x6 = (0 : Int)) → ((((0 : Int) ≤ x3) ∧ (x3 < x1)) ∧ (((0 : Int) ≤ x4) ∧ (x4 ≤ (255 : Int)))))) (a7 : ((x6 = (1 : Int)) → (¬ (((0 : Int) ≤ x3) ∧ (x3 < x1))))) (a8 : ((x6 = (2 : Int)) → ((((0 : Int) ≤ x3) ∧ (x3 < x1)) ∧ (¬ (((0 : Int) ≤ x4) ∧ (x4 ≤ (255 : Int))))))) : (x2 = x6) := by omega
-- ===== end of PART A; then your names; then what follows =====
/-! THE CLAIM OUT OF ONE WALK OF THE LAW'S BODY. Your part is whole_start (and what it stands on); all else here is the same for every law, but numbers. -/
def R_law : String := "PackageBookLaw"
def lw_P (b : Addr) (xs : List Int32) (args : Array Value) (s : State) : Prop := args = #[.ref b] ∧ s.IntsAt b xs ∧ xs.length ≤ 2048 ∧ (Jvm.Cond.and given_1 narrow_1).before args s = true
def lw_Q (_ : Array Value) (s : State) (o : Outcome) (t : State) : Prop := o = .returned (some (.int 1)) ∧ Framed s o t [] 601024 7293034
def lw_Z (below : List Frame) (a : Array Value) (s : State) : State → Prop := fun t => ∃ o, t.status = .running ∧ Ended t below o ∧ lw_Q a s o t
/-- the law's own end, with 1 on the stack, nothing written that was there before, its room as the claim has it -/
theorem lw_ret {p : Program} {l : Launch} {e : Env} {s : State} {m : MethodId} {below : List Frame} {meth : Method} {c : Code} {b : Nat} (hx : p.tables.exec = Jvm.exec) (hb : c.code = code) (hr : meth.sig.returnType = ret) (hlocks : meth.locks = false) {pc : Nat} {H : Heap} {ls : Array Slot} (hdg : decode code pc = .ok (.ireturn, 1)) : W p l e room_1 s m #[Value.ref b] below meth c H [] 601024 7293034 (lw_Z below #[Value.ref b] s) (F0 m pc ls [.int 1]) := by
  intro T hT X
  obtain ⟨fs, hret, hrun, hended, hW, hframe⟩ := X.leave (v := some (.int 1)) (hlocks := hlocks) (fun h => by rw [hr] at h; cases h)
  have hmeth' : T.vm.method? m = some meth := X.method'
  refine ⟨T.setFrames fs, ?_, .returned (some (.int 1)), hrun, hended, rfl, ⟨_, rfl⟩, hW, hframe⟩
  jvm_step X.here [X.here.top, hx, hb, hdg, hmeth', hr, ret, narrow_b1]
  (try refine ⟨rfl, ?_⟩); (try refine ⟨rfl, ?_⟩)
  first | (intro acts; rw [hret _ acts rfl rfl rfl]) | rw [hret _ _ rfl rfl rfl]
  exact Steps.refl _
/-- what holds at the law's entry: the machine, the code, the tables' words (any of lw_tbl by 'hts w (by decide +kernel)'), the script of L ints xs at the cell b, what the Statement gives of the start (any of its parts by flat_of_before) -/
def lw_At (p : Program) (s : State) (m : MethodId) (meth : Method) (c : Code) (b L : Nat) (xs : Nat → Int32) : Prop :=
  p.tables.exec = Jvm.exec ∧ c.code = code ∧ meth.sig.returnType = ret ∧ c.maxLocals = 7 ∧ s.vm.findClass R_law = some m.cls ∧ (∀ w ∈ lw_tbl, w.before #[Value.ref b] s = true) ∧ va_X b L xs s s.heap ∧ b < s.heap.size ∧ meth.locks = false ∧ (Jvm.Cond.and given_1 narrow_1).before #[Value.ref b] s = true

/-- the goal of the law's own frame -/
def law_Q (M : pb_M) (b : Nat) : Prop := pm_Q M = lw_Z (pm_b M) #[Value.ref b] (pm_s M) ∧ pm_a M = #[Value.ref b] ∧ pm_A M = (fun q => (pm_s M).heap.size ≤ q)
abbrev y_Law_law : MethodName := ⟨"PackageBookLaw", "law", "([I)Z"⟩
abbrev i_Law_law : pb_I := (y_Law_law, code, 7, ret, [], room_1)
theorem law_ret {l : Launch} {G : pb_G} {M : pb_M} {b : Nat} {lo : List (Nat × Value)} {ws : va_W} {ck cn pc : Nat} (hQ : law_Q M b) (hd : decode code pc = .ok (.ireturn, 1)) (h1 : ck ≤ 601024) (h2 : cn ≤ 7293034) : pb_P l G M i_Law_law pc lo [.int 1] ws ck cn := fun E H locs ls hP hD hS hl => by
  obtain ⟨⟨p, e, s, m, a⟩, ⟨below, meth, c⟩, A, Q⟩ := M
  obtain ⟨q1, q2, q3⟩ := hQ
  change Q = lw_Z below #[Value.ref b] s at q1
  change a = #[Value.ref b] at q2
  change A = (fun q => s.heap.size ≤ q) at q3
  subst q1 q2 q3
  refine va_forget (fun q hq => hS.2.2 q hq) ?_
  refine W.widen h1 h2 ?_
  exact lw_ret E.1 E.2.1 (pb_ret E) (pb_lock E) hd

/-! BOTH SIDES -/
theorem rl_gx {f g : Nat → Int32} {s : Int} (h : rl_B f g s) : ∀ k : Int, 0 ≤ k → k < s → gx f k = gx g k := fun k k0 k1 => congrArg Int32.toInt (h k k0 k1)
theorem AD_g {V W : VW_} {a a' : Int → Int} {m s : Int} {d d' : Int → Int32} (h : AD_ V a m s d W) (ha : ∀ k : Int, 0 ≤ k → k < m → a k = a' k) (hd : ∀ k : Int, 0 ≤ k → k < s → d k = d' k) : ∃ W' : VW_, AD_ V a' m s d' W' ∧ vE_ W W' := by
  rcases h with ⟨q, q0, q1, q2, q3⟩ | ⟨n, r, r0, r1⟩
  · refine ⟨_, Or.inl ⟨q, q0, q1, nE_cg q2 ha, rfl⟩, ?_⟩
    rw [q3]
    exact vse_vE ha hd
  · refine ⟨_, Or.inr ⟨fun i i0 i1 q => n i i0 i1 (nE_cg q (fun k k0 k1 => (ha k k0 k1).symm)), r, isP_cg r0 ha, rfl⟩, ?_⟩
    rw [r1]
    exact vin_vE ha hd
theorem RM_g {V : VW_} {a a' : Int → Int} {m s : Int} (ha : ∀ k : Int, 0 ≤ k → k < m → a k = a' k) (h : RM_ V a m s) : RM_ V a' m s := by
  have hb : ∀ k : Int, 0 ≤ k → k < m → a' k = a k := fun k k0 k1 => (ha k k0 k1).symm
  exact ⟨h.1, fun q q0 q1 q2 => h.2.1 q q0 q1 (nE_cg q2 hb), fun n => h.2.2 (fun q q0 q1 q2 => n q q0 q1 (nE_cg q2 ha))⟩
theorem iA_g {a a' : Int → Int} {n : Int} (ha : ∀ k : Int, 0 ≤ k → k < n → a k = a' k) (h : iA_ a 0 n) : iA_ a' 0 n := iA_cong (fun k k0 k1 => ha k k0 (by omega)) h
def rV_ (c : Int) (fn fz fb fg : Nat → Int32) (b e : Int) (z n s d : Nat → Int32) : Prop := ∃ V : VW_, srt_ V ∧ rC_ c fn fz fb fg V ∧ rM_ b e z n s d V
theorem add_law {f g fn fz fb fg z n s d : Nat → Int32} {V : VW_} {t u m c e kr th o r : Int} (hs : srt_ V) (rl : rl_B f g t) (tu : t = u)
    (k0 : kr = 0 ∨ kr = 1 ∨ kr = 2) (k1 : kr = 1 → ¬ (0 ≤ m ∧ m ≤ t ∧ iA_ (gx f) 0 m)) (k2 : kr = 2 → (0 ≤ m ∧ m ≤ t ∧ iA_ (gx f) 0 m) ∧ ¬ RM_ V (gx f) m (t - m)) (k3 : kr = 0 → (0 ≤ m ∧ m ≤ t ∧ iA_ (gx f) 0 m) ∧ RM_ V (gx f) m (t - m) ∧ hid_ (∃ W : VW_, AD_ V (gx f) m (t - m) (fun k => gr f (m + k)) W ∧ rC_ c fn fz fb fg W ∧ o = vC W)) (k4 : ¬ kr = 0 → rC_ c fn fz fb fg V)
    (m0 : th = 0 ∨ th = 1 ∨ th = 2) (m1 : th = 1 → ¬ (0 ≤ m ∧ m ≤ u ∧ iA_ (gx g) 0 m)) (ma : th ≠ 1 → 0 ≤ m ∧ m ≤ u ∧ iA_ (gx g) 0 m) (m2 : th = 2 → ¬ RM_ V (gx g) m (u - m)) (m3 : th = 0 → RM_ V (gx g) m (u - m) ∧ hid_ (∃ W : VW_, AD_ V (gx g) m (u - m) (fun k => gr g (m + k)) W ∧ rM_ 0 e z n s d W ∧ r = vC W)) (m4 : th ≠ 0 → rM_ 0 e z n s d V) : kr = th ∧ (kr = 0 → o = r) ∧ hid_ (rV_ c fn fz fb fg 0 e z n s d) := by
  subst tu
  have ha : 0 ≤ m → m ≤ t → ∀ k : Int, 0 ≤ k → k < m → gx f k = gx g k := fun _ p1 k q0 q1 => rl_gx rl k q0 (by omega)
  have hb : 0 ≤ m → m ≤ t → ∀ k : Int, 0 ≤ k → k < m → gx g k = gx f k := fun p0 p1 k q0 q1 => (ha p0 p1 k q0 q1).symm
  have hd : 0 ≤ m → ∀ k : Int, 0 ≤ k → k < t - m → gr f (m + k) = gr g (m + k) := fun p0 k q0 q1 => rl (m + k) (by omega) (by omega)
  rcases k0 with h | h | h
  · obtain ⟨⟨a1, a2, a3⟩, b1, b2⟩ := k3 h
    have e1 : ¬ th = 1 := fun q => m1 q ⟨a1, a2, iA_g (ha a1 a2) a3⟩
    have e2 : ¬ th = 2 := fun q => m2 q (RM_g (ha a1 a2) b1)
    have e3 : th = 0 := by omega
    obtain ⟨c1, c2⟩ := m3 e3
    obtain ⟨W, w1, w2, w3⟩ := hid_o b2
    obtain ⟨W', v1, v2, v3⟩ := hid_o c2
    obtain ⟨X, x1, x2⟩ := AD_g w1 (ha a1 a2) (hd a1)
    have eW := AD_u hs x1 v1
    subst eW
    refine ⟨by omega, fun _ => ?_, hid_i ⟨X, srt_AD hs x1, rC_vE w2 x2, v2⟩⟩
    have q := x2.1
    omega
  · have e1 : th = 1 := Classical.byContradiction (fun q => by
      obtain ⟨a1, a2, a3⟩ := ma q
      exact k1 h ⟨a1, a2, iA_g (hb a1 a2) a3⟩)
    exact ⟨by omega, fun q => absurd q (by omega), hid_i ⟨V, hs, k4 (by omega), m4 (by omega)⟩⟩
  · obtain ⟨⟨a1, a2, a3⟩, b1⟩ := k2 h
    have e1 : ¬ th = 1 := fun q => m1 q ⟨a1, a2, iA_g (ha a1 a2) a3⟩
    have e2 : ¬ th = 0 := fun q => b1 (RM_g (hb a1 a2) (m3 q).1)
    exact ⟨by (exact omg_98d8457d27 m0 h e1 e2), fun q => absurd q (by omega), hid_i ⟨V, hs, k4 (by omega), m4 (by omega)⟩⟩
theorem rem_law {f g fn fz fb fg z n s d : Nat → Int32} {V : VW_} {t u c e x r : Int} (hs : srt_ V) (rl : rl_B f g t) (tu : t = u) (h : hid_ (∃ q : Int, isF_ V t (gx f) q ∧ (0 ≤ q ∧ x = 1 ∧ rC_ c fn fz fb fg (vou_ V q) ∨ q = -1 ∧ x = 0 ∧ rC_ c fn fz fb fg V))) (k : hid_ (∃ q : Int, isF_ V u (gx g) q ∧ (0 ≤ q ∧ r = 1 ∧ rM_ 0 e z n s d (vou_ V q) ∨ q = -1 ∧ r = 0 ∧ rM_ 0 e z n s d V))) : x = r ∧ hid_ (rV_ c fn fz fb fg 0 e z n s d) := by
  subst tu
  obtain ⟨q, h1, h2⟩ := hid_o h
  obtain ⟨p, k1, k2⟩ := hid_o k
  have e1 := isF_u hs (isF_cg h1 (rl_gx rl)) k1
  subst e1
  rcases h2 with ⟨a1, a2, a3⟩ | ⟨a1, a2, a3⟩
  · rcases k2 with ⟨b1, b2, b3⟩ | ⟨b1, b2, b3⟩
    · exact ⟨by omega, hid_i ⟨vou_ V q, srt_ou hs a1, a3, b3⟩⟩
    · omega
  · rcases k2 with ⟨b1, b2, b3⟩ | ⟨b1, b2, b3⟩
    · omega
    · exact ⟨by omega, hid_i ⟨V, hs, a3, b3⟩⟩
theorem pk_law {k th s t : Int} {P : Prop} (kk : k = 0 ∨ k = 1) (l1 : k = 1 → 4000 < s) (l0 : k = 0 → s ≤ 4000 ∧ P) (e : s = t) (m : th = 0 ∧ t ≤ 4000 ∨ th = 1 ∧ 4000 < t) : k = th := by
  rcases kk with h | h
  · have a := (l0 h).1
    clear l0 l1
    omega
  · have a := l1 h
    clear l0 l1
    omega
theorem rd_law {A : Int → Int32} {fn fz fb fg fn' fz' fb' fg' z n s d : Nat → Int32} {V : VW_} {t u c c' e x r : Int} (hs : srt_ V) (tu : t = u) (R : rC_ c fn fz fb fg V) (h : hid_ (∃ W : VW_, rd_ A t x W ∧ (x = 0 → rC_ c' fn' fz' fb' fg' W))) (k : hid_ (∃ W : VW_, rd_ A u r W ∧ (r = 0 → rM_ 0 e z n s d W))) (kV : ¬ r = 0 → rM_ 0 e z n s d V) : x = r ∧ (x = 0 → hid_ (rV_ c' fn' fz' fb' fg' 0 e z n s d)) ∧ (¬ x = 0 → hid_ (rV_ c fn fz fb fg 0 e z n s d)) := by
  subst tu
  obtain ⟨W, h1, h2⟩ := hid_o h
  obtain ⟨W', k1, k2⟩ := hid_o k
  obtain ⟨u1, u2⟩ := rd_u h1 k1
  refine ⟨u1, fun q => ?_, fun q => hid_i ⟨V, hs, R, kV (by omega)⟩⟩
  have eW := u2 q
  subst eW
  exact hid_i ⟨W, rd_srt h1 q, h2 q, k2 (by omega)⟩
theorem fi_law {f g : Nat → Int32} {V : VW_} {t u : Int} (h : hid_ (∃ K : List Int32, FI_ V K ∧ fw_ f t K)) (k : hid_ (∃ K : List Int32, FI_ V K ∧ fw_ g u K)) : t = u ∧ rl_B f g t := by
  obtain ⟨K, h1, h2⟩ := hid_o h
  obtain ⟨L, k1, k2⟩ := hid_o k
  have e := FI_u h1 k1
  subst e
  exact fw_rl h2 k2
theorem rr_law {A : Int → Int32} {fn fz fb fg fn' fz' fb' fg' z n s d : Nat → Int32} {V : VW_} {t u c c' e kr th o r i x : Int} (hs : srt_ V) (tu : t = u) (R : rC_ c fn fz fb fg V)
    (k0 : kr = 0 ∨ kr = 1 ∨ kr = 2) (k1 : kr = 1 → ¬ (0 ≤ i ∧ i < t)) (k2 : kr = 2 → (0 ≤ i ∧ i < t) ∧ ¬ (0 ≤ x ∧ x ≤ 255)) (k3 : kr = 0 → (0 ≤ i ∧ i < t) ∧ (0 ≤ x ∧ x ≤ 255) ∧ hid_ (∃ W : VW_, rd_ A t o W ∧ (o = 0 → rC_ c' fn' fz' fb' fg' W)))
    (m0 : th = 0 ∨ th = 1 ∨ th = 2) (m1 : th = 0 → (0 ≤ i ∧ i < u) ∧ (0 ≤ x ∧ x ≤ 255)) (m2 : th = 1 → ¬ (0 ≤ i ∧ i < u)) (m3 : th = 2 → (0 ≤ i ∧ i < u) ∧ ¬ (0 ≤ x ∧ x ≤ 255)) (mR : th = 0 → hid_ (∃ W : VW_, rd_ A u r W ∧ (r = 0 → rM_ 0 e z n s d W))) (mV : ¬ (th = 0 ∧ r = 0) → rM_ 0 e z n s d V) : kr = th ∧ (kr = 0 → o = r) ∧ (kr = 0 ∧ o = 0 → hid_ (rV_ c' fn' fz' fb' fg' 0 e z n s d)) ∧ (¬ (kr = 0 ∧ o = 0) → hid_ (rV_ c fn fz fb fg 0 e z n s d)) := by
  have e1 : kr = th := by (exact omg_e89e2d4435 tu k0 k1 k2 k3 m0 m1 m2 m3)
  by_cases h : kr = 0
  · have q := rd_law hs tu R (k3 h).2.2 (mR (by omega)) (fun w => mV (by omega))
    exact ⟨e1, fun _ => q.1, fun w => q.2.1 w.2, fun w => q.2.2 (fun v => w ⟨h, v⟩)⟩
  · exact ⟨e1, fun w => absurd w h, fun w => absurd w.1 h, fun _ => hid_i ⟨V, hs, R, mV (by omega)⟩⟩
/-- what both sides say of 'about' and of 'byteOf' -/
theorem ab_law {kr th x o r c z s t : Int} {R : Prop} (k0 : kr = 0 ∨ kr = 1) (k1 : kr = 1 → ¬ (x = 0 ∨ x = 3 ∨ (x = 1 ∨ x = 2) ∧ R)) (k2 : kr = 0 → (x = 0 ∨ x = 3 ∨ (x = 1 ∨ x = 2) ∧ R) ∧ (x = 0 → o = c) ∧ (x = 1 → o = z) ∧ (x = 2 → o = s) ∧ (x = 3 → o = t)) (m0 : th = 0 ∨ th = 1) (m1 : th = 1 ↔ ¬ (x = 0 ∨ x = 3 ∨ (x = 1 ∨ x = 2) ∧ R)) (m2 : th = 0 → (x = 0 → r = c) ∧ (x = 1 → r = z) ∧ (x = 2 → r = s) ∧ (x = 3 → r = t)) : th = kr ∧ (kr = 0 → o = r) := by
  rcases k0 with h | h
  · have p := k2 h
    have e : th = 0 := by
      rcases m0 with q | q
      · exact q
      · exact absurd p.1 (m1.mp q)
    have m := m2 e
    refine ⟨e.trans h.symm, fun _ => ?_⟩
    rcases p.1 with q | q | ⟨q | q, _⟩
    · exact (p.2.1 q).trans (m.1 q).symm
    · exact (p.2.2.2.2 q).trans (m.2.2.2 q).symm
    · exact (p.2.2.1 q).trans (m.2.1 q).symm
    · exact (p.2.2.2.1 q).trans (m.2.2.1 q).symm
  · exact ⟨(m1.mpr (k1 h)).trans h.symm, fun q => absurd (q.symm.trans h) (by decide)⟩
theorem bo_law {kr th o r b : Int} {P : Prop} (k0 : kr = 0 ∨ kr = 1) (k1 : kr = 1 → ¬ P) (k2 : kr = 0 → P ∧ o = b) (m0 : th = 0 ∧ P ∨ th = 1 ∧ ¬ P) (m2 : th = 0 → r = b) : th = kr ∧ (kr = 0 → o = r) := by
  rcases k0 with h | h
  · have p := k2 h
    rcases m0 with ⟨q, _⟩ | ⟨_, n⟩
    · exact ⟨q.trans h.symm, fun _ => p.2.trans (m2 q).symm⟩
    · exact absurd p.1 n
  · rcases m0 with ⟨_, p⟩ | ⟨q, _⟩
    · exact absurd p (k1 h)
    · exact ⟨q.trans h.symm, fun q => absurd (q.symm.trans h) (by decide)⟩

/-! relations and relation: both sides -/
theorem rl_law {fn fz fb fg z n s d : Nat → Int32} {V : VW_} {c e i kr th o r : Int} (hs : srt_ V) (Rc : rC_ c fn fz fb fg V) (Rm : rM_ 0 e z n s d V) (k0 : kr = 0 ∨ kr = 1) (k1 : kr = 1 → ¬ (0 ≤ i ∧ i < c)) (k2 : kr = 0 → (0 ≤ i ∧ i < c) ∧ hid_ (∃ t : Int, isF_ (cN_ c fn fz) (gx fz i + 5) (tn6_ (cN_ c fn fz) i) t ∧ o = nl6_ (tT6_ t (mk_ (mB_ fb (gx fg t)) (gx fg (t + 1) - gx fg t))))) (m0 : th = 0 ∨ th = 1) (m1 : th = 1 → ¬ (0 ≤ i ∧ i < e)) (m2 : th = 0 → (0 ≤ i ∧ i < e) ∧ hid_ (∃ t : Int, isF_ (cN_ e n z) (gx z i + 5) (tn6_ (cN_ e n z) i) t ∧ r = nl6_ (tT6_ t (mk_ (fun j => gr d (4000 * t + j)) (gx s t))))) : kr = th ∧ (kr = 0 → o = r) := by
  have ce : c = e := Rc.1.trans Rm.1.symm
  have e1 : kr = th := by
    rcases k0 with q | q <;> rcases m0 with p | p
    · omega
    · exact absurd (k2 q).1 (by rw [ce]; exact m1 p)
    · exact absurd (m2 p).1 (by rw [← ce]; exact k1 q)
    · omega
  refine ⟨e1, fun q => ?_⟩
  obtain ⟨a1, a2⟩ := k2 q
  obtain ⟨b1, b2⟩ := m2 (by omega)
  obtain ⟨t, t1, t2⟩ := hid_o a2
  obtain ⟨u, u1, u2⟩ := hid_o b2
  have t3 := tl_N (rC_N Rc) a1.1 a1.2 t1
  have u3 := tl_N (rM_N Rm) b1.1 b1.2 u1
  have tu := isF_u hs t3 u3
  have tl : t < c := by
    have w := isF_lt t3 (by rw [← Rc.1]; omega)
    rw [← Rc.1] at w
    exact w
  rw [mk_C Rc tl] at t2
  rw [mk_M Rm (by omega), ← tu] at u2
  rw [t2, u2]
theorem gq_u {V : VW_} {T : Option (List RE_)} {k r s x y : Int} (hs : srt_ V) (h : gq6_ V T k r x) (h' : gq6_ V T k s y) : x = y ∧ (x = 0 → r = s) := by
  rcases h with ⟨h1, h2, L, R, h3, h4, h5⟩ | ⟨h1, h2⟩
  · rcases h' with ⟨g1, g2, L', R', g3, g4, g5⟩ | ⟨g1, g2⟩
    · refine ⟨by omega, fun _ => ?_⟩
      have e : L = L' := Option.some.inj (h3.symm.trans g3)
      rw [← e] at g4
      have e2 : R = R' := Option.some.inj (h4.symm.trans g4)
      rw [← e2] at g5
      exact isF_u hs h5 g5
    · exact absurd ⟨h2, L, R, h3, h4⟩ g2
  · rcases h' with ⟨g1, g2, L', R', g3, g4, g5⟩ | ⟨g1, g2⟩
    · exact absurd ⟨g2, L', R', g3, g4⟩ h2
    · exact ⟨by omega, fun q => absurd q (by omega)⟩
theorem gq_N {c n' : Int} {n z : Nat → Int32} {V : VW_} {T : Option (List RE_)} {k r x : Int} (R : rN_ c n z V) (h : gq6_ (cN_ c n z) T k r x) : gq6_ V T k r x := by
  rcases h with ⟨h1, h2, L, Q, h3, h4, h5⟩ | h
  · exact Or.inl ⟨h1, h2, L, Q, h3, h4, isF_N R h5⟩
  · exact Or.inr h
theorem rn_law {fn fz fb fg z n s d : Nat → Int32} {V : VW_} {c e i k kr th o r : Int} (hs : srt_ V) (Rc : rC_ c fn fz fb fg V) (Rm : rM_ 0 e z n s d V) (k0 : kr = 0 ∨ kr = 1) (k1 : kr = 1 → hid_ (¬ (0 ≤ i ∧ i < c) ∨ ((0 ≤ i ∧ i < c) ∧ ∃ t : Int, isF_ (cN_ c fn fz) (gx fz i + 5) (tn6_ (cN_ c fn fz) i) t ∧ gq6_ (cN_ c fn fz) (tT6_ t (mk_ (mB_ fb (gx fg t)) (gx fg (t + 1) - gx fg t))) k 0 1))) (k2 : kr = 0 → (0 ≤ i ∧ i < c) ∧ hid_ (∃ t : Int, isF_ (cN_ c fn fz) (gx fz i + 5) (tn6_ (cN_ c fn fz) i) t ∧ gq6_ (cN_ c fn fz) (tT6_ t (mk_ (mB_ fb (gx fg t)) (gx fg (t + 1) - gx fg t))) k o 0)) (m : hid_ ((¬ (0 ≤ i ∧ i < e) ∧ th = 1) ∨ ((0 ≤ i ∧ i < e) ∧ ∃ t : Int, isF_ (cN_ e n z) (gx z i + 5) (tn6_ (cN_ e n z) i) t ∧ gq6_ (cN_ e n z) (tT6_ t (mk_ (fun j => gr d (4000 * t + j)) (gx s t))) k r th))) : kr = th ∧ (kr = 0 → o = r) := by
  have ce : c = e := Rc.1.trans Rm.1.symm
  have key : ∀ (x : Int) (y : Int), (0 ≤ i ∧ i < c) → (∃ t : Int, isF_ (cN_ c fn fz) (gx fz i + 5) (tn6_ (cN_ c fn fz) i) t ∧ gq6_ (cN_ c fn fz) (tT6_ t (mk_ (mB_ fb (gx fg t)) (gx fg (t + 1) - gx fg t))) k x y) → y = th ∧ (y = 0 → x = r) := fun x y a1 a2 => by
    rcases hid_o m with ⟨b1, b2⟩ | ⟨b1, u, u1, u2⟩
    · exact absurd a1 (by rw [ce]; exact b1)
    · obtain ⟨t, t1, t2⟩ := a2
      have t3 := tl_N (rC_N Rc) a1.1 a1.2 t1
      have u3 := tl_N (rM_N Rm) b1.1 b1.2 u1
      have tu := isF_u hs t3 u3
      have tl : t < c := by
        have w := isF_lt t3 (by rw [← Rc.1]; omega)
        rw [← Rc.1] at w
        exact w
      rw [mk_C Rc tl] at t2
      rw [mk_M Rm (by omega), ← tu] at u2
      exact gq_u hs (gq_N (n' := 0) (rC_N Rc) t2) (gq_N (n' := 0) (rM_N Rm) u2)
  rcases k0 with q | q
  · obtain ⟨a1, a2⟩ := k2 q
    have w := key o 0 a1 (hid_o a2)
    exact ⟨by omega, fun _ => w.2 rfl⟩
  · rcases hid_o (k1 q) with a | ⟨a1, a2⟩
    · rcases hid_o m with ⟨b1, b2⟩ | ⟨b1, _⟩
      · exact ⟨by omega, fun w => absurd w (by omega)⟩
      · exact absurd b1 (by rw [← ce]; exact a)
    · have w := key 0 1 a1 a2
      exact ⟨by omega, fun y => absurd y (by omega)⟩

/-- the law's loop, or a place in it, with every state of both objects: it comes to its goal from there -/
def lwK (l : Launch) (G : pb_G) (M : pb_M) (b : Nat) (i : Int32) (pc ck cn : Nat) : Prop := ∀ (x : Nat) (ta : Nat) (ca : Nat) (ps : Nat) (xe : Nat) (mk : Nat) (rd : Nat) (mu : Nat) (fi : Nat) (go : Nat) (sp : Nat) (ss : Nat) (tab : Nat) (tas : Int32) (taf : Nat → Int32) (cab : Nat) (cas : Int32) (caf : Nat → Int32) (pp : Nat) (pl : Nat) (pe : Nat) (pr : Nat) (pbg : Int32) (psz : Int32) (pbt : Int32) (pln : Int32) (pds : Int32) (pb : Nat) (pz : Int32) (pf : Nat → Int32) (pfl : Nat → Int32) (pfe : Nat → Int32) (ex : Nat) (et : Nat) (ea : Nat) (eb : Nat) (ec : Nat) (ed : Nat) (ef : Nat) (er : Nat) (xat : Int32) (xen : Int32) (xfl : Int32) (ey : Nat) (xxs : Int32) (xxf : Nat → Int32) (xtf : Nat → Int32) (ea1 : Nat) (ea2 : Nat) (eas : Int32) (eac : Nat → Int32) (eay : Nat → Int32) (eb1 : Nat) (eb2 : Nat) (ebs : Int32) (ebc : Nat → Int32) (eby : Nat → Int32) (ef1 : Nat) (ef2 : Nat) (efs : Int32) (efc : Nat → Int32) (efy : Nat → Int32) (ec1 : Nat) (ec2 : Nat) (ecs : Int32) (ecc : Nat → Int32) (ecy : Nat → Int32) (ed1 : Nat) (ed2 : Nat) (eds : Int32) (edc : Nat → Int32) (edy : Nat → Int32) (mm : Nat) (mr : Nat) (mb : Nat) (ms : Int32) (mf : Nat → Int32) (mrf : Nat → Int32) (rr : Nat) (ui : Nat) (ug : Nat) (uv : Nat) (ur : Nat) (uct : Int32) (ufa : Int32) (ubg : Int32) (uat : Int32) (uen : Int32) (uvs : Int32) (uio : Int32) (uhi : Int32) (uht : Int32) (uvf : Nat → Int32) (ugf : Nat → Int32) (udf : Nat → Int64) (fk : Nat) (fo : Nat) (fp : Nat) (fn : Int32) (ff1 : Nat → Int32) (ff2 : Nat → Int32) (ff3 : Nat → Int32) (gof : Nat → Int32) (tn : Nat) (tz : Nat) (tb : Nat) (tg : Nat) (tc : Int32) (tfn : Nat → Int32) (tfz : Nat → Int32) (tfb : Nat → Int32) (tfg : Nat → Int32) (wn : Nat) (wz : Nat) (wb : Nat) (wg : Nat) (wc : Int32) (wfn : Nat → Int32) (wfz : Nat → Int32) (wfb : Nat → Int32) (wfg : Nat → Int32) (m : Nat) (m_rels : Nat) (m_openRels : Nat) (m_closeRels : Nat) (m_openRel : Nat) (m_closeRel : Nat) (m_comment : Nat) (m_ends : Nat) (m_order : Nat) (v_thrown : Int32) (v_taped : Int32) (m_tape : Nat) (m_count : Nat) (m_nameSize : Nat) (m_names : Nat) (m_size : Nat) (m_data : Nat) (v_lookedSize : Int32) (m_looked : Nat) (v_fileSize : Int32) (m_file : Nat) (v_directorySize : Int32) (m_directory : Nat) (v_outSize : Int32) (m_out : Nat) (v_rowSize : Int32) (m_row : Nat) (v_bitAt : Int32) (v_bitEnd : Int32) (v_why : Int32) (v_madeSize : Int32) (m_made : Nat) (m_length : Nat) (v_firstCount : Int32) (v_secondCount : Int32) (v_heldBits : Int32) (v_heldCount : Int32) (v_pressedSize : Int32) (m_pressed : Nat) (v_at : Int32) (v_bad : Int32) (v_markSize : Int32) (m_mark : Nat) (v_relationCount : Int32) (m_idSize : Nat) (m_ids : Nat) (m_goalSize : Nat) (m_goals : Nat) (v_valueSize : Int32) (m_value : Nat) (v_faultCount : Int32) (m_faults : Nat) (m_reached : Nat) (a_rels : Nat → Int32) (a_openRels : Nat → Int32) (a_closeRels : Nat → Int32) (a_openRel : Nat → Int32) (a_closeRel : Nat → Int32) (a_comment : Nat → Int32) (a_ends : Nat → Int32) (a_order : Nat → Int32) (a_tape : Nat → Int32) (a_count : Nat → Int32) (a_nameSize : Nat → Int32) (a_names : Nat → Int32) (a_size : Nat → Int32) (a_data : Nat → Int32) (a_looked : Nat → Int32) (a_file : Nat → Int32) (a_directory : Nat → Int32) (a_out : Nat → Int32) (a_row : Nat → Int32) (a_made : Nat → Int32) (a_length : Nat → Int32) (a_pressed : Nat → Int32) (a_mark : Nat → Int32) (a_idSize : Nat → Int32) (a_ids : Nat → Int32) (a_goalSize : Nat → Int32) (a_goals : Nat → Int32) (a_value : Nat → Int32) (a_faults : Nat → Int32) (a_reached : Nat → Int32) (o : Nat) (ofn : Nat → Int64), (sb_Fit taf) → (sb_Fit caf) → (sb_Fit pf) → (sb_Fit xxf) → (sb_Fit mf) → (sb_Fit uvf) → (sb_Fit tfn) → (sb_Fit tfb) → (sb_Fit wfn) → (sb_Fit wfb) → (sb_Fit a_rels) → (sb_Fit a_openRels) → (sb_Fit a_closeRels) → (sb_Fit a_openRel) → (sb_Fit a_closeRel) → (sb_Fit a_comment) → (sb_Fit a_ends) → (sb_Fit a_order) → (sb_Fit a_tape) → (sb_Fit a_names) → (sb_Fit a_data) → (sb_Fit a_looked) → (sb_Fit a_file) → (sb_Fit a_directory) → (sb_Fit a_out) → (sb_Fit a_row) → (sb_Fit a_made) → (sb_Fit a_pressed) → (sb_Fit a_mark) → (sb_Fit a_ids) → (sb_Fit a_goals) → (sb_Fit a_value) → (0 ≤ tas.toInt) → (tas.toInt ≤ 8000) → (cas.toInt ≤ 4502) → (sh_I tc.toInt tfz tfg) → (co_I eas.toInt eac eay 288) → (eas.toInt ≤ 288) → (co_I ebs.toInt ebc eby 32) → (ebs.toInt ≤ 32) → (cs_R eas.toInt eac eay fx_1 288) → (cs_R ebs.toInt ebc eby fx_2 32) → (co_I efs.toInt efc efy 19) → (efs.toInt ≤ 19) → (co_I ecs.toInt ecc ecy 288) → (ecs.toInt ≤ 286) → (co_I eds.toInt edc edy 32) → (eds.toInt ≤ 30) → (0 ≤ xxs.toInt) → (xxs.toInt ≤ 4000) → (0 ≤ ms.toInt) → (ms.toInt ≤ 14006) → (0 ≤ fn.toInt) → (fn.toInt ≤ 1232) → (0 ≤ uct.toInt) → (uct.toInt ≤ 200) → (0 ≤ v_taped.toInt) → (v_taped.toInt ≤ 8000) → (ms_I 0 (gx a_count 0) a_nameSize a_size a_names) → (le_I a_length) → (∀ x : Int, 0 ≤ x → x < 19 → 0 ≤ gx a_order x ∧ gx a_order x ≤ 18) → (∀ j : Int, 0 ≤ j → j < 19 → gx a_order j = od_ j) → (0 ≤ v_lookedSize.toInt) → (v_lookedSize.toInt ≤ 8000) → (0 ≤ v_madeSize.toInt) → (v_madeSize.toInt ≤ 4000) → (v_outSize.toInt ≤ 5000) → (0 ≤ v_fileSize.toInt) → (v_fileSize.toInt ≤ 20000) → (0 ≤ v_valueSize.toInt) → (v_valueSize.toInt ≤ 4000) → (∀ x : Int, 0 ≤ x → x < 200 → 0 ≤ gx a_idSize x ∧ gx a_idSize x ≤ 8) → (∀ x : Int, 0 ≤ x → x < 200 → 0 ≤ gx a_goalSize x ∧ gx a_goalSize x ≤ 24) → (∀ x : Int, 0 ≤ x → x < 4 → 0 ≤ gx a_openRel x) → (∀ x : Int, 0 ≤ x → x < 5 → 0 ≤ gx a_closeRel x) → (∀ x : Int, 0 ≤ x → x < 2 → 0 ≤ gx a_ends x) → (∀ x : Int, 0 ≤ x → x < 4 → 0 ≤ gx a_comment x) → (∀ x : Int, 0 ≤ x → x < 4 → gx a_openRel x = tE_ x) → (∀ x : Int, 0 ≤ x → x < 5 → gx a_closeRel x = tF_ x) → (∀ x : Int, 0 ≤ x → x < 2 → gx a_ends x = tG_ x) → (∀ x : Int, 0 ≤ x → x < 4 → gx a_comment x = tC_ x) → (∀ x : Int, 0 ≤ x → x < 5 → 0 ≤ gx a_openRels x) → (∀ x : Int, 0 ≤ x → x < 6 → 0 ≤ gx a_closeRels x) → (∀ x : Int, 0 ≤ x → x < 5 → gx a_openRels x = tH_ x) → (∀ x : Int, 0 ≤ x → x < 6 → gx a_closeRels x = tI_ x) → (∀ x : Int, 0 ≤ x → x < 5 → gx a_rels x = tr_ x) → (0 ≤ v_relationCount.toInt) → (v_relationCount.toInt ≤ 200) → (v_bad.toInt = 0 ∨ v_bad.toInt = 1) → (v_faultCount.toInt ≤ 2000) → (tas.toInt = v_taped.toInt) → (rl_B taf a_tape tas.toInt) → (cas.toInt = v_outSize.toInt) → (rl_B caf a_out cas.toInt) → (hid_ (rV_ tc.toInt tfn tfz tfb tfg 0 (gx a_count 0) a_nameSize a_names a_size a_data)) → (ms.toInt = v_fileSize.toInt) → (rl_B mf a_file ms.toInt) → pb_P l G M i_Law_law pc [(4, .int i), (3, .ref o), (2, .ref m), (1, .ref x), (0, .ref b)] [] [(x, .inr (9, [.ref ta, .ref ca, .ref ps, .ref xe, .ref mk, .ref rd, .ref mu, .ref fi, .ref go, .ref sp, .ref ss])), (ta, .inr (0, [.ref tab, .int tas])), (tab, .inl (G.2.1, 8000, .inl taf)), (ca, .inr (0, [.ref cab, .int cas])), (cab, .inl (G.2.1, 4502, .inl caf)), (ps, .inr (4, [.ref pp, .ref pl, .ref pe, .ref pr, .int pbg, .int psz, .int pbt, .int pln, .int pds])), (pp, .inr (0, [.ref pb, .int pz])), (pb, .inl (G.2.1, 4502, .inl pf)), (pl, .inl (G.2.2.1, 1024, .inl pfl)), (pe, .inl (G.2.2.1, 4000, .inl pfe)), (xe, .inr (5, [.ref ex, .ref et, .ref ea, .ref eb, .ref ec, .ref ed, .ref ef, .ref er, .int xat, .int xen, .int xfl])), (ex, .inr (0, [.ref ey, .int xxs])), (ey, .inl (G.2.1, 4000, .inl xxf)), (et, .inl (G.2.2.1, 316, .inl xtf)), (ea, .inr (1, [.ref ea1, .ref ea2, .int eas])), (ea1, .inl (G.2.2.1, 16, .inl eac)), (ea2, .inl (G.2.2.1, 288, .inl eay)), (eb, .inr (1, [.ref eb1, .ref eb2, .int ebs])), (eb1, .inl (G.2.2.1, 16, .inl ebc)), (eb2, .inl (G.2.2.1, 32, .inl eby)), (ef, .inr (1, [.ref ef1, .ref ef2, .int efs])), (ef1, .inl (G.2.2.1, 16, .inl efc)), (ef2, .inl (G.2.2.1, 19, .inl efy)), (ec, .inr (1, [.ref ec1, .ref ec2, .int ecs])), (ec1, .inl (G.2.2.1, 16, .inl ecc)), (ec2, .inl (G.2.2.1, 286, .inl ecy)), (ed, .inr (1, [.ref ed1, .ref ed2, .int eds])), (ed1, .inl (G.2.2.1, 16, .inl edc)), (ed2, .inl (G.2.2.1, 30, .inl edy)), (mk, .inr (6, [.ref mm, .ref mr])), (mm, .inr (0, [.ref mb, .int ms])), (mb, .inl (G.2.1, 14006, .inl mf)), (mr, .inl (G.2.2.1, 16, .inl mrf)), (rd, .inr (7, [.ref rr])), (mu, .inr (8, [.ref ui, .ref ug, .ref uv, .ref ur, .int uct, .int ufa, .int ubg, .int uat, .int uen, .int uvs, .int uio, .int uhi, .int uht])), (uv, .inl (G.2.1, 24, .inl uvf)), (ug, .inl (G.2.2.1, 200, .inl ugf)), (ui, .inl (G.2.2.2.1, 200, .inr (.inl udf))), (fi, .inr (2, [.ref fk, .ref fo, .ref fp, .int fn])), (fk, .inl (G.2.2.1, 1232, .inl ff1)), (fo, .inl (G.2.2.1, 1232, .inl ff2)), (fp, .inl (G.2.2.1, 1232, .inl ff3)), (go, .inl (G.2.2.1, 16, .inl gof)), (sp, .inr (3, [.ref tn, .ref tz, .ref tb, .ref tg, .int tc])), (tn, .inl (G.2.1, 384, .inl tfn)), (tz, .inl (G.2.2.1, 16, .inl tfz)), (tb, .inl (G.2.1, 12000, .inl tfb)), (tg, .inl (G.2.2.1, 17, .inl tfg)), (ss, .inr (3, [.ref wn, .ref wz, .ref wb, .ref wg, .int wc])), (wn, .inl (G.2.1, 384, .inl wfn)), (wz, .inl (G.2.2.1, 16, .inl wfz)), (wb, .inl (G.2.1, 12000, .inl wfb)), (wg, .inl (G.2.2.1, 17, .inl wfg)), (m, .inr (10, [.ref m_rels, .ref m_openRels, .ref m_closeRels, .ref m_openRel, .ref m_closeRel, .ref m_comment, .ref m_ends, .ref m_order, .int v_thrown, .int v_taped, .ref m_tape, .ref m_count, .ref m_nameSize, .ref m_names, .ref m_size, .ref m_data, .int v_lookedSize, .ref m_looked, .int v_fileSize, .ref m_file, .int v_directorySize, .ref m_directory, .int v_outSize, .ref m_out, .int v_rowSize, .ref m_row, .int v_bitAt, .int v_bitEnd, .int v_why, .int v_madeSize, .ref m_made, .ref m_length, .int v_firstCount, .int v_secondCount, .int v_heldBits, .int v_heldCount, .int v_pressedSize, .ref m_pressed, .int v_at, .int v_bad, .int v_markSize, .ref m_mark, .int v_relationCount, .ref m_idSize, .ref m_ids, .ref m_goalSize, .ref m_goals, .int v_valueSize, .ref m_value, .int v_faultCount, .ref m_faults, .ref m_reached])), (m_rels, .inl (G.2.1, 5, .inl a_rels)), (m_openRels, .inl (G.2.1, 5, .inl a_openRels)), (m_closeRels, .inl (G.2.1, 6, .inl a_closeRels)), (m_openRel, .inl (G.2.1, 4, .inl a_openRel)), (m_closeRel, .inl (G.2.1, 5, .inl a_closeRel)), (m_comment, .inl (G.2.1, 4, .inl a_comment)), (m_ends, .inl (G.2.1, 2, .inl a_ends)), (m_order, .inl (G.2.1, 19, .inl a_order)), (m_tape, .inl (G.2.1, 8000, .inl a_tape)), (m_count, .inl (G.2.2.1, 2, .inl a_count)), (m_nameSize, .inl (G.2.2.1, 34, .inl a_nameSize)), (m_names, .inl (G.2.1, 816, .inl a_names)), (m_size, .inl (G.2.2.1, 34, .inl a_size)), (m_data, .inl (G.2.1, 136000, .inl a_data)), (m_looked, .inl (G.2.1, 40, .inl a_looked)), (m_file, .inl (G.2.1, 20000, .inl a_file)), (m_directory, .inl (G.2.1, 2000, .inl a_directory)), (m_out, .inl (G.2.1, 5000, .inl a_out)), (m_row, .inl (G.2.1, 20000, .inl a_row)), (m_made, .inl (G.2.1, 4000, .inl a_made)), (m_length, .inl (G.2.2.1, 420, .inl a_length)), (m_pressed, .inl (G.2.1, 5000, .inl a_pressed)), (m_mark, .inl (G.2.1, 4000, .inl a_mark)), (m_idSize, .inl (G.2.2.1, 200, .inl a_idSize)), (m_ids, .inl (G.2.1, 1600, .inl a_ids)), (m_goalSize, .inl (G.2.2.1, 200, .inl a_goalSize)), (m_goals, .inl (G.2.1, 4800, .inl a_goals)), (m_value, .inl (G.2.1, 4000, .inl a_value)), (m_faults, .inl (G.2.2.1, 6000, .inl a_faults)), (m_reached, .inl (G.2.2.2.2.1, 16, .inl a_reached)), (o, .inl (G.2.2.2.1, 1, .inr (.inl ofn)))] ck cn
