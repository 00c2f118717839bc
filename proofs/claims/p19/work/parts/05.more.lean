section PM
variable {l : Launch} {G : pb_G} {M : pb_M} {I : pb_I} {pc : Nat} {lo : List (Nat × Value)} {rest : List Value} {ws : va_W} {ck cn : Nat}
theorem pb_ldc_w {v : Int32} {index : Nat} (hd : decode (pi_c I) pc = .ok (.ldc_w index, 3)) (hw : Cond.constant (pi_y I).cls index v ∈ uW) (kk : pb_P l G M I (pc + 3) lo (.int v :: rest) ws ck cn) : pb_P l G M I pc lo rest ws ck cn := fun E H locs ls hP hD hS hl => lv_ldcw E.1 E.2.1 E.2.2.2.1 (pb_w E hw) hd (kk E H locs ls hP hD hS hl)
theorem pb_lcmp {x y : Int64} (hd : decode (pi_c I) pc = .ok (.lcmp, 1)) (kk : pb_P l G M I (pc + 1) lo (.int (lg_cmp x y) :: rest) ws ck cn) : pb_P l G M I pc lo (.long y :: .long x :: rest) ws ck cn := fun E H locs ls hP hD hS hl => W.lcmp E.1 E.2.1 hd (kk E H locs ls hP hD hS hl)
theorem pb_tald {t N : Nat} {g : Nat → Int32} {i : Int32} (hT : va_T .int t N (fun j => .int (g j)) (pm_A M) (pm_s M) (pm_s M).heap) (hin : vp_in i N) (hd : decode (pi_c I) pc = .ok (.iaload, 1)) (kk : pb_P l G M I (pc + 1) lo (.int (g i.toNatClampNeg) :: rest) ws ck cn) : pb_P l G M I pc lo (.int i :: .ref t :: rest) ws ck cn := fun E H locs ls hP hD hS hl => va_ti E.1 E.2.1 hT hS hin rfl hd (kk E H locs ls hP hD hS hl)
theorem pb_third_all : ∀ j : Nat, j < 19 → 0 ≤ (pb_third.getD j 0).toInt ∧ (pb_third.getD j 0).toInt ≤ 18 := by decide +kernel
theorem pb_third_rng {z i : Int32} (e : z = pb_third.getD i.toNatClampNeg 0) : 0 ≤ z.toInt ∧ z.toInt ≤ 18 := by
  rw [e]
  by_cases h : i.toNatClampNeg < 19
  · exact pb_third_all _ h
  · rw [List.getD_eq_getElem?_getD, List.getElem?_eq_none (show pb_third.length ≤ _ by show 19 ≤ _; omega)]
    decide
theorem pb_ldcS {tx : String} {index k : Nat} (hd : decode (pi_c I) pc = .ok (.ldc index, 2)) (hk : pb_strs[k]? = some ((pi_y I).cls, index, tx)) (hk9 : k < 19) (kk : pb_P l G M I (pc + 2) lo (.ref (G.2.2.2.2.2.1 k) :: rest) ws ck cn) : pb_P l G M I pc lo rest ws ck cn := fun E H locs ls hP hD hS hl T hT X => by
  have hr := (pb_z E).2.2.2.2.2.2.1 k _ hk9 hk
  obtain ⟨t, a, b⟩ := kk E H locs ls hP hD hS hl T hT X
  exact ⟨t, X.ldcString E.1 (own := (pi_y I).cls) (text := tx) (index := index) E.2.2.2.1 hr.1 hr.2 (g := F0 (pm_m M) pc ls rest) rfl (by rw [E.2.1]; exact hd) t a, b⟩
theorem va_ldcwS {p : Program} {e : Env} {R : Room} {s : State} {m : MethodId} {args : Array Value} {below : List Frame} {meth : Method} {c : Code} {T : State} {locs : List Loc} {cells slots : Nat} (X : Stand p l e R s m args below meth c T locs cells slots) (hexec : p.tables.exec = Jvm.exec) {own text : String} {index : Nat} {a : Addr} (hown : s.vm.findClass own = some m.cls)
    (hconst : (Cond.stringRef own index text).before args s = true) (hev : (Term.string own index).eval args s none [] s = some (.ref a)) {g : JFrame} (hg : g.method = m) (hdg : decode c.code g.pc = .ok (.ldc_w index, 3)) :
    ∀ target, Steps p.tables e below (T.setTop { g with pc := g.pc + 3, stack := .ref a :: g.stack }) target → Steps p.tables e below (T.setTop g) target := by
  obtain ⟨k, cf, i, a', hk, hcf, hcp, -, hr, hev'⟩ := Cond.stringRef_spec hown hconst
  cases hev.symm.trans hev'
  obtain ⟨k', hk', he⟩ := X.warmed.alike.2.2 _ _ hk
  have hr' : k'.resolved[index]? = some (some (.string a)) := by
    rcases X.warmed.entry hk hk' index with h | ⟨h, -⟩
    · rw [h]; exact hr
    · rw [hr] at h; cases h
  intro target hrest
  subst hg
  jvm_step X.here [hexec, hdg, ldc_w.wp_string (e := e) (s := T) (f := g) X.here.top hk' (by rw [he]; exact hcf) hcp hr']
  exact hrest
theorem pb_ldcSw {tx : String} {index k : Nat} (hd : decode (pi_c I) pc = .ok (.ldc_w index, 3)) (hk : pb_strs[k]? = some ((pi_y I).cls, index, tx)) (hk9 : k < 19) (kk : pb_P l G M I (pc + 3) lo (.ref (G.2.2.2.2.2.1 k) :: rest) ws ck cn) : pb_P l G M I pc lo rest ws ck cn := fun E H locs ls hP hD hS hl T hT X => by
  have hr := (pb_z E).2.2.2.2.2.2.1 k _ hk9 hk
  obtain ⟨t, a, b⟩ := kk E H locs ls hP hD hS hl T hT X
  exact ⟨t, va_ldcwS X E.1 (own := (pi_y I).cls) (text := tx) (index := index) E.2.2.2.1 hr.1 hr.2 (g := F0 (pm_m M) pc ls rest) rfl (by rw [E.2.1]; exact hd) t a, b⟩
theorem pb_sval {index k : Nat} (hd : decode (pi_c I) pc = .ok (.getfield index, 3)) (hk : k < st_n) (hlk : Cond.fieldLink (pi_y I).cls index "java/lang/String" "value" "[B" ∈ uW) (kk : pb_P l G M I (pc + 3) lo (.ref (G.2.2.2.2.2.2 k) :: rest) ws ck cn) : pb_P l G M I pc lo (.ref (G.2.2.2.2.2.1 k) :: rest) ws ck cn := fun E H locs ls hP hD hS hl => vk_getf E.1 E.2.1 ((pb_z E).2.2.2.2.2.1 k hk).2.2.1 hS E.2.2.2.1 (pb_w E hlk) (fun _ h9 => h9) hd (kk E H locs ls hP hD hS hl)
theorem pb_scod {index k : Nat} (hd : decode (pi_c I) pc = .ok (.getfield index, 3)) (hk : k < st_n) (hlk : Cond.fieldLink (pi_y I).cls index "java/lang/String" "coder" "B" ∈ uW) (kk : pb_P l G M I (pc + 3) lo (.int 0 :: rest) ws ck cn) : pb_P l G M I pc lo (.ref (G.2.2.2.2.2.1 k) :: rest) ws ck cn := fun E H locs ls hP hD hS hl => vk_getf E.1 E.2.1 ((pb_z E).2.2.2.2.2.1 k hk).2.1 hS E.2.2.2.1 (pb_w E hlk) (fun _ h9 => h9) hd (kk E H locs ls hP hD hS hl)
theorem pb_vlen {k : Nat} (hd : decode (pi_c I) pc = .ok (.arraylength, 1)) (hk : k < st_n) (kk : pb_P l G M I (pc + 1) lo (.int (Int32.ofNat (st_lens.getD k 0)) :: rest) ws ck cn) : pb_P l G M I pc lo (.ref (G.2.2.2.2.2.2 k) :: rest) ws ck cn := fun E H locs ls hP hD hS hl => va_tlen E.1 E.2.1 ((pb_z E).2.2.2.2.2.1 k hk).2.2.2 hS rfl hd (kk E H locs ls hP hD hS hl)
theorem pb_vld {k : Nat} {i : Int32} (hd : decode (pi_c I) pc = .ok (.baload, 1)) (hk : k < st_n) (hin : vp_in i (st_lens.getD k 0)) (kk : pb_P l G M I (pc + 1) lo (.int ((st_byts.getD k []).getD i.toNatClampNeg 0) :: rest) ws ck cn) : pb_P l G M I pc lo (.int i :: .ref (G.2.2.2.2.2.2 k) :: rest) ws ck cn := fun E H locs ls hP hD hS hl => va_tb E.1 E.2.1 ((pb_z E).2.2.2.2.2.1 k hk).2.2.2 hS hin rfl hd (kk E H locs ls hP hD hS hl)
theorem pb_getsC {index : Nat} (hd : decode (pi_c I) pc = .ok (.getstatic index, 3)) (hlk : Cond.fieldLink (pi_y I).cls index "java/lang/String" "COMPACT_STRINGS" "Z" ∈ uW) (kk : pb_P l G M I (pc + 3) lo (.int 1 :: rest) ws ck cn) : pb_P l G M I pc lo rest ws ck cn := fun E H locs ls hP hD hS hl => va_gets E.1 E.2.1 (pb_z E).2.2.2.2.2.2.2.1 hS E.2.2.2.1 (pb_w E hlk) (fun _ h9 => h9) hd (kk E H locs ls hP hD hS hl)
theorem pb_getsF {index : Nat} (hd : decode (pi_c I) pc = .ok (.getstatic index, 3)) (hlk : Cond.fieldLink (pi_y I).cls index "jdk/internal/util/Preconditions" "SIOOBE_FORMATTER" "Ljava/util/function/BiFunction;" ∈ uW) (k1 : pb_P l G M I (pc + 3) lo (.null :: rest) ws ck cn) (k2 : ∀ t : Nat, pb_P l G M I (pc + 3) lo (.ref t :: rest) ws ck cn) : pb_P l G M I pc lo rest ws ck cn := fun E H locs ls hP hD hS hl => by
  rcases (pb_z E).2.2.2.2.2.2.2.2.1.1 with g | ⟨t, g⟩
  · exact va_gets E.1 E.2.1 g hS E.2.2.2.1 (pb_w E hlk) (fun _ h9 => h9) hd (k1 E H locs ls hP hD hS hl)
  · exact va_gets E.1 E.2.1 g hS E.2.2.2.1 (pb_w E hlk) (fun _ h9 => h9) hd (k2 t E H locs ls hP hD hS hl)
theorem pb_callVS {S : Type} {J : pb_I} {nA : Nat} {as : List Value} {index k : Nat} {w0 wr : va_W} {post : Option Value → S → Prop} {w1 : S → va_W} (hd : decode (pi_c I) pc = .ok (.invokevirtual index, 3)) (hM : Cn l G J (.ref (G.2.2.2.2.2.1 k) :: as) w0 post w1)
    (hkn : k < st_n) (hcS : (pi_y J).cls = "java/lang/String")
    (isC isR : List Nat) (h0 : va_nd isC = true) (hC : isC.map (fun i => ws[i]?) = w0.map some) (hC2 : isC.filterMap (fun i => ws[i]?) = w0) (hR : isR.map (fun i => ws[i]?) = wr.map some) (hn : va_nd isR = true) (hdis : ∀ i ∈ isR, i ∉ isC)
    (hcd : pi_d J ∈ uW) (hw : pi_d J = .code (pi_y J) (pi_c J) (pi_n J) (pi_r J)) (hini : Cond.initialized (pi_y J).cls ∈ uW) (hlk : Cond.methodLink (pi_y I).cls index (pi_y J) ∈ uW) (hin : Cond.instanceMethod (pi_y J) ∈ uW) (hsel : Cond.selects (pi_y J).cls (pi_y J) (pi_y J) ∈ uW)
    (hy : (pi_y J).cls = (pi_y J).cls ∧ (pi_y J).cls ≠ "java/lang/invoke/MethodHandle" ∧ (pi_y J).cls ≠ "java/lang/invoke/VarHandle" ∧ (parseMethodDescriptor (pi_y J).desc).map (fun d => d.parameters.length) = some nA) (hRm : (pi_R J).frames + 1 ≤ (pi_R I).frames ∧ 8 + (pi_n J + 11) + (pi_R J).locals ≤ (pi_R I).locals) (hA9 : as.length = nA)
    {st0 : List Value} (hst : st0 = as.reverse ++ .ref (G.2.2.2.2.2.1 k) :: rest) (h8 : (rest.map fun v => v.category).sum ≤ 8) (hf : ck + (pi_R J).cells ≤ (pi_R I).cells ∧ cn + (pi_R J).slots ≤ (pi_R I).slots)
    (kk : ∀ (v : Option Value) (u : S), post v u → pb_P l G M I (pc + 3) lo (cn_st v rest) (wr ++ w1 u) (ck + (pi_R J).cells) (cn + (pi_R J).slots)) : pb_P l G M I pc lo st0 ws ck cn := fun E H locs ls hP hD hS hl => by
  subst hst
  refine cn_go E hP hD hS hl isC isR hC hR hn hdis (va_runV (As := as) (b := G.2.2.2.2.2.1 k) (C := (pi_y J).cls) ⟨E.1, E.2.1, E.2.2.1, E.2.2.2.1, pb_ws E⟩ (hM H.size) (cwV nA (pb_ws E) (pb_gdV hcd hlk hin hsel hini) (pb_hw hw) rfl rfl hy hRm) ⟨cn_blind, by rw [hcS]; exact sk_recv (pb_z E).2.2.2.2.2.1 hkn hS, cn_pre E hP hD hS isC h0 hC hC2⟩ rfl hA9 hl.1 rfl (lv_room h8) hd hf) kk
end PM
