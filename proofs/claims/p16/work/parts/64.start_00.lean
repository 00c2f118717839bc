theorem st_arr {s : State} {args : Array Value} {ty : FieldType} (h : (Cond.arrayClass ty).before args s = true) : ∃ cA : ClassId, ArrOfT s cA ty ∧ s.vm.findClass ("[" ++ ty.toString) = some cA := by
  obtain ⟨cA, kA, comp, hfind, hk, hkind⟩ := Cond.arrayClass_spec h
  exact ⟨cA, fun n z => ⟨fun k h => (by cases h), kA, hk, comp, hkind⟩, hfind⟩
theorem uN_nw {w : Cond} (h : w ∈ uN) {U : State} {a : Array Value} (hb : w.before a U = true) : va_Nw w U := by
  have hg := (List.mem_filter.mp h).2
  cases w <;> first | exact va_Nw.of rfl hb | cases hg
theorem st_third : ((List.range 19).all fun j => decide ((Cond.eq (.elem (.static "PackageBook$Expander" "THIRD_ORDER" "[I") (.int (Int32.ofNat j))) (.int (pb_third.getD j 0))) ∈ flatC (Jvm.Cond.and given_1 narrow_1))) = true := by decide +kernel
theorem st_strs : (pb_strs.all fun q => decide (Cond.stringRef q.1 q.2.1 q.2.2 ∈ lw_tbl) && decide (Cond.exactly (.string q.1 q.2.1) "java/lang/String" ∈ flatC (Jvm.Cond.and given_1 narrow_1))) = true := by decide +kernel
def st_tm (q : String × Nat × String) : Term := .field (.string q.1 q.2.1) "java/lang/String" "value" "[B"
theorem st_cont : ((pb_strs.take 19).all fun q => decide (Cond.exactly (.string q.1 q.2.1) "java/lang/String" ∈ flatC (Jvm.Cond.and given_1 narrow_1)) && decide (Cond.eq (.field (.string q.1 q.2.1) "java/lang/String" "coder" "B") (.int 0) ∈ flatC (Jvm.Cond.and given_1 narrow_1)) && decide (Cond.arrayOf (st_tm q) .byte ∈ flatC (Jvm.Cond.and given_1 narrow_1)) && decide (Cond.eq (.length (st_tm q)) (.int (Int32.ofNat q.2.2.length)) ∈ flatC (Jvm.Cond.and given_1 narrow_1)) && ((List.range q.2.2.length).all fun j => decide (Cond.eq (.elem (st_tm q) (.int (Int32.ofNat j))) (.int ((st_B q.2.2).getD j 0)) ∈ flatC (Jvm.Cond.and given_1 narrow_1)))) = true := by decide +kernel
theorem st_lens_at : ∀ k : Nat, k < 19 → ∃ q, pb_strs[k]? = some q ∧ q ∈ pb_strs.take 19 ∧ st_lens.getD k 0 = q.2.2.length ∧ st_byts.getD k [] = st_B q.2.2 := by
  intro k hk
  have h : k < pb_strs.length := Nat.lt_of_lt_of_le hk (by decide +kernel)
  refine ⟨pb_strs[k], List.getElem?_eq_getElem h, ?_, ?_, ?_⟩
  · exact List.mem_take_iff_getElem.mpr ⟨k, by omega, rfl⟩
  · simp [st_lens, List.getD_eq_getElem?_getD, List.getElem?_map, List.getElem?_eq_getElem h]
  · simp [st_byts, List.getD_eq_getElem?_getD, List.getElem?_map, List.getElem?_eq_getElem h]
theorem st_len31 : ∀ q ∈ pb_strs.take 19, q.2.2.length < 2 ^ 31 := by decide +kernel
theorem st_S {s : State} {args : Array Value} (hgv : (Jvm.Cond.and given_1 narrow_1).before args s = true) (A : Nat → Prop) (hA : ∀ a : Nat, a < s.heap.size → ¬ A a) : ∃ ad : (Nat → Nat) × (Nat → Nat), sk_S ad A s s.heap ∧ ∀ k q, k < 19 → pb_strs[k]? = some q → (Term.string q.1 q.2.1).eval args s none [] s = some (.ref (ad.1 k)) := by
  have hs := flat_of_before _ hgv
  have one : ∀ k : Nat, ∃ q2 : Nat × Nat, k < 19 → (va_O "java/lang/String" q2.1 A s s.heap ∧ va_OF "java/lang/String" "coder" "B" (.int 0) q2.1 A s s.heap ∧ va_OF "java/lang/String" "value" "[B" (.ref q2.2) q2.1 A s s.heap ∧ va_T .byte q2.2 (st_lens.getD k 0) (fun j => .int ((st_byts.getD k []).getD j 0)) A s s.heap) ∧ ∀ q, pb_strs[k]? = some q → (Term.string q.1 q.2.1).eval args s none [] s = some (.ref q2.1) := by
    intro k
    by_cases hk : k < 19
    · obtain ⟨q, h1, h2, h3, h4⟩ := st_lens_at k hk
      have h5 := List.all_eq_true.mp st_cont q h2
      simp only [Bool.and_eq_true, decide_eq_true_eq] at h5
      obtain ⟨⟨⟨⟨c1, c2⟩, c3⟩, c4⟩, c5⟩ := h5
      have z0 : ∀ i : Nat, i < 1 → i = 0 := fun i hi => by omega
      have e1 : ∀ i : Nat, i < 1 → ([q.2.2.length] : List Nat).getD i 0 < 2 ^ 31 := fun i hi => by cases z0 i hi; exact st_len31 q h2
      have e4 : ∀ i : Nat, i < 1 → (Cond.eq (.length (.field (.string q.1 q.2.1) "java/lang/String" "value" "[B")) (.int (Int32.ofNat (([q.2.2.length] : List Nat).getD i 0)))).before args s = true := fun i hi => by cases z0 i hi; exact hs _ c4
      have e5 : ∀ i : Nat, i < 1 → ∀ j : Nat, j < ([q.2.2.length] : List Nat).getD i 0 → (Cond.eq (.elem (.field (.string q.1 q.2.1) "java/lang/String" "value" "[B") (.int (Int32.ofNat j))) (.int ((([st_B q.2.2] : List (List Int32)).getD i []).getD j 0))).before args s = true := fun i hi j hj => by cases z0 i hi; exact hs _ (of_decide_eq_true (List.all_eq_true.mp c5 j (List.mem_range.mpr hj)))
      have e6 : ∀ i j : Nat, i < 1 → j < 1 → i ≠ j → (Cond.not (Cond.eq (.string q.1 q.2.1) (.string q.1 q.2.1))).before args s = true ∨ (Cond.not (Cond.eq (.string q.1 q.2.1) (.string q.1 q.2.1))).before args s = true := fun i j hi hj hne => absurd (by omega : i = j) hne
      obtain ⟨adK, adV, ⟨g1, -⟩, g2⟩ := vk_Sof (args := args) (s := s) (N := 1) (tm := fun _ => .string q.1 q.2.1) (len := [q.2.2.length]) (byt := [st_B q.2.2]) (A := A) e1 (fun i hi => hs _ c1) (fun i hi => hs _ c2) (fun i hi => hs _ c3) e4 e5 e6 hA
      refine ⟨(adK 0, adV 0), fun _ => ⟨?_, fun q' hq' => ?_⟩⟩
      · have g := g1 0 (by omega)
        rw [h3, h4]
        exact g
      · cases Option.some.inj (h1.symm.trans hq')
        exact g2 0 (by omega)
    · exact ⟨(0, 0), fun h => absurd h hk⟩
  obtain ⟨f, hf⟩ := Classical.axiomOfChoice one
  exact ⟨(fun k => (f k).1, fun k => (f k).2), fun k hk => (hf k hk).1, fun k q hk hq => (hf k hk).2 q hq⟩
theorem st_nc : (pb_ncs.all fun q => decide (Cond.not (.castable q.1 q.2) ∈ flatC (Jvm.Cond.and given_1 narrow_1))) = true := by decide +kernel
theorem st_Z {s : State} {args : Array Value} (hts : ∀ w ∈ lw_tbl, w.before args s = true) (hgv : (Jvm.Cond.and given_1 narrow_1).before args s = true) (A : Nat → Prop) (hA : ∀ a : Nat, a < s.heap.size → ¬ A a) : ∃ ad, pb_Z ad A s s.heap := by
  have hs := flat_of_before _ hgv
  obtain ⟨ad, had, hev⟩ := st_S hgv A hA
  refine ⟨ad, ?_, fun w hw => uN_nw hw (hts w (List.mem_filter.mp hw).1), fun q hq => ?_, ?_, ?_, had, fun k q hk hq => ?_, ?_, ?_, fun q hq => ?_⟩
  · obtain ⟨t, ht, hT⟩ := va_Tof (tm := .static "PackageBook$Expander" "THIRD_ORDER" "[I") (ty := .int) (N := 19) (f := fun j => .int (pb_third.getD j 0)) (A := A) (by decide) (hs _ (by decide +kernel)) (va_eqt (hs _ (by decide +kernel)))
      (fun j hj => va_eqt (hs _ (of_decide_eq_true (List.all_eq_true.mp st_third j (List.mem_range.mpr hj))))) hA
    exact ⟨t, va_Zof (hts _ (by decide +kernel)) (hts _ (by decide +kernel)) ht hA, hT⟩
  · have h1 := List.all_eq_true.mp st_strs q hq
    rw [Bool.and_eq_true, decide_eq_true_eq, decide_eq_true_eq] at h1
    obtain ⟨a, -, -, -, q1, -⟩ := Cond.exactly_spec (args := args) (first := s) (o := none) (s := s) (idx := []) (hs _ h1.2)
    exact ⟨a, vk_R.of (hts _ h1.1) q1⟩
  · exact tz_of (hts _ (by decide +kernel)) (hts _ (by decide +kernel)) (hs _ (by decide +kernel)) hA
  · exact tz_of (hts _ (by decide +kernel)) (hts _ (by decide +kernel)) (hs _ (by decide +kernel)) hA
  · have h1 := List.all_eq_true.mp st_strs q (List.mem_of_getElem? hq)
    rw [Bool.and_eq_true, decide_eq_true_eq, decide_eq_true_eq] at h1
    exact vk_R.of (hts _ h1.1) (hev k q hk hq)
  · exact va_Zof (hts _ (by decide +kernel)) (hts _ (by decide +kernel)) (va_eqt (hs _ (by decide +kernel))) hA
  · exact tz_of (hts _ (by decide +kernel)) (hts _ (by decide +kernel)) (hs _ (by decide +kernel)) hA
  · exact va_Nc.of (hs _ (of_decide_eq_true (List.all_eq_true.mp st_nc q hq)))


theorem st_K {s : State} {args : Array Value} (hts : ∀ w ∈ lw_tbl, w.before args s = true) (ad : (Nat → Nat) × (Nat → Nat)) : ∃ G : pb_G, G.2.2.2.2.2 = ad ∧ va_K G.1 vwCl (pb_T G) s := by
  have hu : ∀ w ∈ uW, w.before args s = true := fun w h => hts w (List.mem_filter.mp h).1
  obtain ⟨c0, i0, h0⟩ := u_known hu in_Row (hu _ k_151)
  obtain ⟨c1, i1, h1⟩ := u_known hu in_Code (hu _ k_221)
  obtain ⟨c2, i2, h2⟩ := u_known hu in_Findings (hu _ k_361)
  obtain ⟨c3, i3, h3⟩ := u_known hu in_Shelf (hu _ k_384)
  obtain ⟨c4, i4, h4⟩ := u_known hu in_Presser (hu _ k_174)
  obtain ⟨c5, i5, h5⟩ := u_known hu in_Expander (hu _ k_213)
  obtain ⟨c6, i6, h6⟩ := u_known hu in_FileMaker (hu _ k_285)
  obtain ⟨c7, i7, h7⟩ := u_known hu in_FileReader (hu _ k_301)
  obtain ⟨c8, i8, h8⟩ := u_known hu in_Markup (hu _ k_311)
  obtain ⟨c9, i9, h9⟩ := u_known hu in_Book (hu _ k_143)
  obtain ⟨c10, i10, h10⟩ := u_known hu in_Mod (hu _ k_1140)
  obtain ⟨cB, hB⟩ := st_arr (hu _ k_172)
  obtain ⟨cI, hI⟩ := st_arr (hu _ k_211)
  obtain ⟨cL, hL⟩ := st_arr (hu _ k_359)
  obtain ⟨cZ, hZ⟩ := st_arr (hu _ k_1303)
  refine ⟨((fun k => match k with | 0 => c0 | 1 => c1 | 2 => c2 | 3 => c3 | 4 => c4 | 5 => c5 | 6 => c6 | 7 => c7 | 8 => c8 | 9 => c9 | _ => c10, fun k => match k with | 0 => i0 | 1 => i1 | 2 => i2 | 3 => i3 | 4 => i4 | 5 => i5 | 6 => i6 | 7 => i7 | 8 => i8 | 9 => i9 | _ => i10), cB, cI, cL, cZ, ad), rfl, ?_, ?_⟩
  · intro c q hq
    match c, hq with
    | 0, hq => obtain rfl := Option.some.inj hq; exact h0
    | 1, hq => obtain rfl := Option.some.inj hq; exact h1
    | 2, hq => obtain rfl := Option.some.inj hq; exact h2
    | 3, hq => obtain rfl := Option.some.inj hq; exact h3
    | 4, hq => obtain rfl := Option.some.inj hq; exact h4
    | 5, hq => obtain rfl := Option.some.inj hq; exact h5
    | 6, hq => obtain rfl := Option.some.inj hq; exact h6
    | 7, hq => obtain rfl := Option.some.inj hq; exact h7
    | 8, hq => obtain rfl := Option.some.inj hq; exact h8
    | 9, hq => obtain rfl := Option.some.inj hq; exact h9
    | 10, hq => obtain rfl := Option.some.inj hq; exact h10
    | n + 11, hq => exact absurd hq (by show (none : Option vw_C) ≠ some q; exact (Option.some_ne_none q).symm)
  · intro c q hq
    match c, hq with
    | 0, hq => obtain rfl := Option.some.inj hq; exact ⟨hB.1, hB.2⟩
    | 1, hq => obtain rfl := Option.some.inj hq; exact ⟨hI.1, hI.2⟩
    | 2, hq => obtain rfl := Option.some.inj hq; exact ⟨hL.1, hL.2⟩
    | 3, hq => obtain rfl := Option.some.inj hq; exact ⟨hZ.1, hZ.2⟩
    | n + 4, hq => exact absurd hq (by show (none : Option (ClassId × FieldType)) ≠ some q; exact (Option.some_ne_none q).symm)

theorem whole_start {p : Program} {e : Env} {s : State} {m : MethodId} {below : List Frame} {meth : Method} {c : Code} (l : Launch) (hl : l.stackTraces = false) {b L : Nat} {xs : Nat → Int32} (hL : L ≤ 2048) (C0 : lw_At p s m meth c b L xs) : W p l e room_1 s m #[Value.ref b] below meth c s.heap [] 0 0 (lw_Z below #[Value.ref b] s) (entryFrame m ([Value.ref b] : List Value).toArray 7) := by
  obtain ⟨hx, hb, hr, hml, hown, hts, hX, hbl, hlocks, hgv⟩ := C0
  obtain ⟨ad, hZ⟩ := st_Z hts hgv (fun q => s.heap.size ≤ q) (fun a h => Nat.not_le_of_lt h)
  obtain ⟨G, hG, hK⟩ := st_K hts ad
  subst hG
  rw [lg_entry_eq]
  exact law_main hl G (M := ((p, e, s, m, #[Value.ref b]), (below, meth, c), (fun q => s.heap.size ≤ q, lw_Z below #[Value.ref b] s))) ⟨rfl, rfl, rfl⟩ hX hbl (Nat.not_le_of_lt hbl) hL
    ⟨hx, hb, hml, hown, fun w h => hts w (List.mem_filter.mp h).1, hK, fun q h => h, hlocks, fun h => absurd h (by decide), hr, hl, hZ⟩ s.heap [] _ (fun k q h => by simp at h) ⟨fun i j p q h => by simp at h, fun k q h => by simp at h⟩ va_S.rf (lv_entry [Value.ref b] (n := 7) (Nat.le_of_ble_eq_true rfl))
