/-! ===== calls ===== -/
def ab_rm (d N : Nat) : Room := { frames := d, cells := (ab_bud N).1, slots := (ab_bud N).2, locals := 64 * d }
def ab_wsN (N : Nat) : List Cond := .code (ab_yN N) (ab_meth N).2.1 (ab_meth N).2.2.1 (ab_meth N).2.2.2.1 :: ab_ws
def ab_Pc (base : Nat) (H0 : Heap) (sp : Nat → Nat) (D : va_G) (cA : Nat → ClassId) (SL : Nat) (xs : Nat → Int32) (As : List ab_V) (g : ab_G) (I : ab_I) (J : ab_J) : Array Value → State → Prop := fun v U => v = (As.map (ab_cv base sp)).toArray ∧ ab_Rep base H0 sp D cA SL xs g I J U.heap ∧ ab_Kn base H0 sp D cA SL xs U
def ab_Qc (base : Nat) (H0 : Heap) (sp : Nat → Nat) (D : va_G) (cA : Nat → ClassId) (SL : Nat) (xs : Nat → Int32) (Q : ab_Q) : Array Value → State → Outcome → State → Prop := fun _ _ o t => ∃ r g' I' J', o = .returned (r.map (ab_cv base sp)) ∧ Q r g' I' J' ∧ ab_Rep base H0 sp D cA SL xs g' I' J' t.heap
/-- every method meets what the abstract machine says of it at this depth -/
def ab_Ok (l : Launch) (base : Nat) (H0 : Heap) (sp : Nat → Nat) (D : va_G) (cA : Nat → ClassId) (SL : Nat) (xs : Nat → Int32) (d : Nat) : Prop := ∀ N As g I J Q, N < 259 → ab_isMath N = false → ab_run d N As g I J Q → Met l (ab_yN N) (ab_wsN N) (ab_rm d N) (ab_Pc base H0 sp D cA SL xs As g I J) (ab_Qc base H0 sp D cA SL xs Q) (ab_bud N).1 (ab_bud N).2 (fun q => base ≤ q)
theorem ab_blind {base : Nat} {H0 : Heap} {sp : Nat → Nat} {D : va_G} {cA : Nat → ClassId} {SL : Nat} {xs : Nat → Int32} {As : List ab_V} {g : ab_G} {I : ab_I} {J : ab_J} : FrameBlind (ab_Pc base H0 sp D cA SL xs As g I J) := fun a U g mk h => ⟨h.1, h.2.1, ab_Kn.same (s := U) (U := U.calling g mk a) rfl h.2.2⟩
section CALL
variable {p : Program} {l : Launch} {e : Env} {R : Room} {s : State} {m : MethodId} {args : Array Value} {below : List Frame} {meth : Method} {c : Code} {Qm : State → Prop}
variable {base : Nat} {H0 : Heap} {sp : Nat → Nat} {D : va_G} {cA : Nat → ClassId} {SL : Nat} {xs : Nat → Int32} {cc : ByteArray} {own : String}
theorem ab_mok_f {N : Nat} (hm : ab_hasC N ∧ ab_mok N = true) : Cond.code (ab_yN N) (ab_meth N).2.1 (ab_meth N).2.2.1 (ab_meth N).2.2.2.1 ∈ ab_ws ∧ (ab_meth N).2.2.1 ≤ 45 ∧ plainName (ab_yN N).cls = true ∧ ((ab_yN N).cls ≠ "java/lang/invoke/MethodHandle" ∧ (ab_yN N).cls ≠ "java/lang/invoke/VarHandle" ∧ (parseMethodDescriptor (ab_yN N).desc).map (fun d => d.parameters.length) = some (ab_mpN N).2.1) ∧ Cond.initialized (ab_yN N).cls ∈ ab_ws ∧
    ((ab_mpN N).1 = 0 → Cond.static (ab_yN N) ∈ ab_ws) ∧ ((ab_mpN N).1 = 1 → Cond.instanceMethod (ab_yN N) ∈ ab_ws ∧ Cond.selects (ab_yN N).cls (ab_yN N) (ab_yN N) ∈ ab_ws) ∧ ((ab_mpN N).1 = 2 → Cond.instanceMethod (ab_yN N) ∈ ab_ws ∧ (ab_yN N).name = "<init>" ∧ (ab_meth N).2.2.2.1 = none) := by
  obtain ⟨h1, h⟩ := hm
  unfold ab_mok at h
  simp only [Bool.and_eq_true, decide_eq_true_eq] at h
  obtain ⟨h2, h3, h4, h5, h6, h7, h8⟩ := h
  refine ⟨ab_in_ws h1 rfl, h2, h3, ⟨h4, h5, h6⟩, ab_in_ws h7 rfl, fun z => ?_, fun z => ?_, fun z => ?_⟩
  · rw [z] at h8
    exact ab_in_ws (of_decide_eq_true h8) rfl
  · rw [z] at h8
    simp only [Bool.and_eq_true, decide_eq_true_eq] at h8
    exact ⟨ab_in_ws h8.1 rfl, List.mem_filter.mpr ⟨List.mem_of_getElem? h8.2, rfl⟩⟩
  · rw [z] at h8
    simp only [Bool.and_eq_true, decide_eq_true_eq] at h8
    exact ⟨ab_in_ws h8.1 rfl, h8.2.1, h8.2.2⟩
theorem ab_wsN_good {N : Nat} (h : ab_hasC N ∧ ab_mok N = true) : GoodIn ab_ws (ab_wsN N) := by
  intro w hw
  rcases List.mem_cons.mp hw with rfl | hw
  · exact ⟨(ab_mok_f h).1, good_of_word rfl⟩
  · exact ab_ws_good w hw
/-- a call's end -/
theorem ab_callW {H : Heap} {locs : List Loc} {cells slots mc ms : Nat} {gf : JFrame} {rest : List Value} {Qa : State → Outcome → State → Prop} {free : Addr → Prop} (hr : CallRun p l e R s m args below meth c H locs cells slots mc ms gf rest Qa free)
    (kk : ∀ (v : Option Value) (st₀ t : State) (L1 : List Loc), st₀.heap = H → Qa st₀ (.returned v) t → (∀ q ∈ L1, free q.base) → W p l e R s m args below meth c t.heap (locs ++ L1) (cells + mc) (slots + ms) Qm { gf with pc := gf.pc + 3, stack := v.toList ++ rest }) : W p l e R s m args below meth c H locs cells slots Qm gf := by
  intro T hT X
  obtain ⟨v, st₀, t, T', L1, h0, X', hL, e1, hq, st⟩ := hr T hT X
  obtain ⟨t2, a1, b1⟩ := kk v st₀ t L1 h0 hq hL T' e1 X'
  exact ⟨t2, st t2 a1, b1⟩
theorem ab_take_eq {n : Nat} {st : List ab_V} : st = ((st.take n).reverse).reverse ++ st.drop n := by rw [List.reverse_reverse, List.take_append_drop]
theorem ab_pushV {r : Option ab_V} {rest : List ab_V} : (r.map (ab_cv base sp)).toList ++ rest.map (ab_cv base sp) = (ab_push r rest).map (ab_cv base sp) := by cases r <;> rfl
/-- what every call comes to, when the kit's run of it stands -/
theorem ab_call_end {d N : Nat} {L : ab_L} {As rest : List ab_V} {pc ce sl : Nat} {g : ab_G} {I : ab_I} {J : ab_J} {mc ms : Nat} {H : Heap} {locs : List Loc} {ls : Array Slot} {stv : List Value}
    (h : ab_call (ab_run d) ab_bud mc ms N As rest pc L ce sl g I J (ab_Pk p l e R s m args below meth c base H0 sp D cA SL xs Qm)) (hL : L.length = c.maxLocals) (hl : ab_lv base sp ls L) (hq : ∀ q ∈ locs, base ≤ q.base)
    (hr : CallRun p l e R s m args below meth c H locs ce sl (ab_bud N).1 (ab_bud N).2 (F0 m pc ls stv) (rest.map (ab_cv base sp)) (ab_Qc base H0 sp D cA SL xs (fun r g' I' J' => ab_Pk p l e R s m args below meth c base H0 sp D cA SL xs Qm (pc + 3) L (ab_push r rest) (ce + (ab_bud N).1) (sl + (ab_bud N).2) g' I' J') (As.map (ab_cv base sp)).toArray) (fun q => base ≤ q)) :
    W p l e R s m args below meth c H locs ce sl Qm (F0 m pc ls stv) := by
  refine ab_callW hr fun v st₀ t L1 h0 hQ hL1 => ?_
  obtain ⟨r, g', I', J', hv, hk, hR'⟩ := hQ
  cases hv
  have h9 := hk hL t.heap (locs ++ L1) ls hR' hl (fun q hq2 => by
    rcases List.mem_append.mp hq2 with h8 | h8
    · exact hq q h8
    · exact hL1 q h8)
  rw [← ab_pushV] at h9
  exact h9
theorem ab_CallB (B : ab_Bd p s m args c base H0 sp D cA SL xs cc own) {d N i : Nat} (hmk : ab_hasC N ∧ ab_mok N = true) (hfr : d + 1 ≤ R.frames) (hlo : 64 * (d + 1) ≤ R.locals) (hlink : (Cond.methodLink own i (ab_yN N)).before args s = true) :
    CallB R s args own i (ab_yN N) (ab_meth N).2.1 (ab_meth N).2.2.1 (ab_meth N).2.2.2.1 (ab_wsN N) (ab_rm d N) (ab_bud N).1 (ab_bud N).2 (ab_mpN N).2.1 := by
  obtain ⟨f1, f2, f3, f4, f5, f6, f7, f8⟩ := ab_mok_f hmk
  exact callB_of (ab_mpN N).2.1 B.2.2.2.1 (ab_wsN_good hmk) rfl rfl rfl (B.2.2.2.1 _ f5) hlink f4 ⟨hfr, by show 8 + ((ab_meth N).2.2.1 + 11) + 64 * d ≤ R.locals; omega⟩
theorem ab_CallN (B : ab_Bd p s m args c base H0 sp D cA SL xs cc own) {d N i : Nat} (hmk : ab_hasC N ∧ ab_mok N = true) (hfr : d + 1 ≤ R.frames) (hlo : 64 * (d + 1) ≤ R.locals) (hlink : va_Nw (.methodLinkNest own i (ab_yN N) "CareRules") s) :
    va_CN R s args own i (ab_yN N) "CareRules" (ab_meth N).2.1 (ab_meth N).2.2.1 (ab_meth N).2.2.2.1 (ab_wsN N) (ab_rm d N) (ab_bud N).1 (ab_bud N).2 (ab_mpN N).2.1 := by
  obtain ⟨f1, f2, f3, f4, f5, f6, f7, f8⟩ := ab_mok_f hmk
  exact va_cnB (ab_mpN N).2.1 B.2.2.2.1 (ab_wsN_good hmk) rfl rfl rfl hlink (B.2.2.2.1 _ f5) f4 ⟨hfr, by show 8 + ((ab_meth N).2.2.1 + 11) + 64 * d ≤ R.locals; omega⟩
/-- a run that says of the tables too is one -/
theorem ab_runOf {H : Heap} {locs : List Loc} {cells slots mc ms : Nat} {gf : JFrame} {rest : List Value} {Qa : State → Outcome → State → Prop} {free : Addr → Prop} (h : va_Run p l e R s m args below meth c H locs cells slots mc ms gf rest Qa free) : CallRun p l e R s m args below meth c H locs cells slots mc ms gf rest Qa free := by
  intro T hT X
  obtain ⟨v, st₀, t, T', L1, h0, X', hL, e1, e2, hq, st⟩ := h T hT X
  exact ⟨v, st₀, t, T', L1, h0, X', hL, e1, hq, st⟩
theorem ab_PreS (B : ab_Bd p s m args c base H0 sp D cA SL xs cc own) {As : List ab_V} {g : ab_G} {I : ab_I} {J : ab_J} {H : Heap} (hR : ab_Rep base H0 sp D cA SL xs g I J H) : PreS s H (ab_Pc base H0 sp D cA SL xs As g I J) (As.map (ab_cv base sp)) :=
  ⟨ab_blind, fun U hU hW => ⟨rfl, by rw [hU]; exact hR, B.2.2.2.2.warm hW⟩⟩
theorem ab_room8 {pc : Nat} {ls : Array Slot} {stv : List Value} {rest : List ab_V} (h : ab_cs rest ≤ 8) : 2 * (F0 m pc ls stv).monitorRoom + ((rest.map (ab_cv base sp)).map fun v => v.category).sum ≤ 8 := by
  show 2 * 0 + _ ≤ 8
  rw [ab_cs_cv]
  omega
theorem ab_so_static (B : ab_Bd p s m args c base H0 sp D cA SL xs cc own) {d : Nat} (hok : ab_Ok l base H0 sp D cA SL xs d) {mc ms rt pc ln r1 r2 : Nat} {rs : List Nat} {L : ab_L} {st : List ab_V} {ce sl : Nat} {g : ab_G} {I : ab_I} {J : ab_J} {Q : ab_Q} {i : Nat} (hd : decode cc pc = .ok (.invokestatic i, ln)) (hfr : d + 1 ≤ R.frames) (hlo : 64 * (d + 1) ≤ R.locals) (hrc : mc ≤ R.cells) (hrs : ms ≤ R.slots) (h3 : ¬ rs.getD 0 0 = 3) (hln : ln = 3)
    (h6 : r1 < 259) (hmk : ab_hasC r1 ∧ ab_mok r1 = true) (hnm : ab_isMath r1 = false) (hkd : (ab_mpN r1).1 = 0) (hnp : r2 = (ab_mpN r1).2.1) (hw : (if rs.getD 0 0 = 1 then ab_nd (rs.getD 1 0) (.methodLinkNest own i (ab_yN r1) "CareRules") else ab_wd (rs.getD 1 0) (.methodLink own i (ab_yN r1))) = true)
    (h : ab_st (ab_run d) ab_bud mc ms rt (pc, .invokestatic i, ln, r1, r2, rs) L st ce sl g I J Q (ab_Pk p l e R s m args below meth c base H0 sp D cA SL xs Qm)) : ab_Pk p l e R s m args below meth c base H0 sp D cA SL xs Qm pc L st ce sl g I J := by
  subst hln
  change (if rs.getD 0 0 = 3 then _ else _) at h
  rw [if_neg h3] at h
  obtain ⟨hlen, h⟩ := h
  generalize hAs : (st.take r2).reverse = As at h
  generalize hrest : st.drop r2 = rest at h
  have hst : st = As.reverse ++ rest := by rw [← hAs, ← hrest]; exact ab_take_eq
  have hAl : As.length = r2 := by rw [← hAs, List.length_reverse, List.length_take]; omega
  subst hst
  intro hL H locs ls hR hl hq
  have hstat := B.2.2.2.1 _ ((ab_mok_f hmk).2.2.2.2.2.1 hkd)
  have hM := hok r1 As g I J _ h6 hnm h.2.2.2
  refine ab_call_end h hL hl hq ?_
  have hS : CallFix p m c cc c.maxLocals s args ab_ws own := ⟨B.1, B.2.1, rfl, B.2.2.1, B.2.2.2.1⟩
  have hsz : (F0 m pc ls ((As.reverse ++ rest).map (ab_cv base sp))).locals.size = c.maxLocals := by show ls.size = _; rw [hl.1]; exact hL
  have hstk : (F0 m pc ls ((As.reverse ++ rest).map (ab_cv base sp))).stack = (As.map (ab_cv base sp)).reverse ++ rest.map (ab_cv base sp) := by show (As.reverse ++ rest).map (ab_cv base sp) = _; rw [List.map_append, List.map_reverse]
  by_cases e1 : rs.getD 0 0 = 1
  · rw [if_pos e1] at hw
    exact ab_runOf (va_runSN hS hM ⟨ab_CallN B hmk hfr hlo (ab_nd_use B hw), hstat, trivial⟩ (ab_PreS B hR) rfl (by rw [List.length_map, hAl]; exact hnp) hsz hstk (ab_room8 h.1) hd ⟨by have := h.2.1; omega, by have := h.2.2.1; omega⟩)
  · rw [if_neg e1] at hw
    exact W.runS hS hM ⟨ab_CallB B hmk hfr hlo (ab_wd_use B hw), hstat⟩ (ab_PreS B hR) rfl (by rw [List.length_map, hAl]; exact hnp) hsz hstk (ab_room8 h.1) hd ⟨by have := h.2.1; omega, by have := h.2.2.1; omega⟩
theorem ab_so_special (B : ab_Bd p s m args c base H0 sp D cA SL xs cc own) {d : Nat} (hok : ab_Ok l base H0 sp D cA SL xs d) {mc ms rt pc ln r1 r2 : Nat} {rs : List Nat} {L : ab_L} {st : List ab_V} {ce sl : Nat} {g : ab_G} {I : ab_I} {J : ab_J} {Q : ab_Q} {i : Nat} (hd : decode cc pc = .ok (.invokespecial i, ln)) (hfr : d + 1 ≤ R.frames) (hlo : 64 * (d + 1) ≤ R.locals) (hrc : mc ≤ R.cells) (hrs : ms ≤ R.slots) (h3 : ¬ rs.getD 0 0 = 2) (hln : ln = 3)
    (h6 : r1 < 259) (hmk : ab_hasC r1 ∧ ab_mok r1 = true) (hnm : ab_isMath r1 = false) (hkd : (ab_mpN r1).1 = 2) (hnp : r2 = (ab_mpN r1).2.1) (hw : (if rs.getD 0 0 = 1 then ab_nd (rs.getD 1 0) (.methodLinkNest own i (ab_yN r1) "CareRules") else ab_wd (rs.getD 1 0) (.methodLink own i (ab_yN r1))) = true)
    (h : ab_st (ab_run d) ab_bud mc ms rt (pc, .invokespecial i, ln, r1, r2, rs) L st ce sl g I J Q (ab_Pk p l e R s m args below meth c base H0 sp D cA SL xs Qm)) : ab_Pk p l e R s m args below meth c base H0 sp D cA SL xs Qm pc L st ce sl g I J := by
  subst hln
  change (if rs.getD 0 0 = 2 then _ else _) at h
  rw [if_neg h3] at h
  obtain ⟨hlen, h⟩ := h
  generalize hAs : (st.take (r2 + 1)).reverse = As at h
  generalize hrest : st.drop (r2 + 1) = rest at h
  have hst : st = As.reverse ++ rest := by rw [← hAs, ← hrest]; exact ab_take_eq
  have hAl : As.length = r2 + 1 := by rw [← hAs, List.length_reverse, List.length_take]; omega
  subst hst
  obtain ⟨⟨b, hb⟩, h⟩ := h
  cases As with
  | nil => cases hb
  | cons a0 As =>
  cases hb
  intro hL H locs ls hR hl hq
  obtain ⟨-, -, -, -, -, -, -, hf⟩ := ab_mok_f hmk
  obtain ⟨hin, hnm2, hrt⟩ := hf hkd
  have hM := hok r1 _ g I J _ h6 hnm h.2.2.2
  refine ab_call_end h hL hl hq ?_
  have hS : CallFix p m c cc c.maxLocals s args ab_ws own := ⟨B.1, B.2.1, rfl, B.2.2.1, B.2.2.2.1⟩
  have hsz : (F0 m pc ls (((vR (some b) :: As).reverse ++ rest).map (ab_cv base sp))).locals.size = c.maxLocals := by show ls.size = _; rw [hl.1]; exact hL
  have hstk : (F0 m pc ls (((vR (some b) :: As).reverse ++ rest).map (ab_cv base sp))).stack = (As.map (ab_cv base sp)).reverse ++ .ref (ab_ad base sp b) :: rest.map (ab_cv base sp) := by
    show ((vR (some b) :: As).reverse ++ rest).map (ab_cv base sp) = _
    rw [List.reverse_cons, List.append_assoc, List.map_append, List.map_reverse]
    rfl
  have hn : (As.map (ab_cv base sp)).length = (ab_mpN r1).2.1 := by rw [List.length_map, ← hnp]; simp at hAl; omega
  by_cases e1 : rs.getD 0 0 = 1
  · rw [if_pos e1] at hw
    have hc := ab_CallN B hmk hfr hlo (ab_nd_use B hw)
    rw [hrt] at hc
    exact ab_runOf (va_runIN hS hM ⟨hc, hnm2, B.2.2.2.1 _ hin⟩ (ab_PreS B hR) rfl hn hsz hstk (ab_room8 h.1) hd ⟨by have := h.2.1; omega, by have := h.2.2.1; omega⟩)
  · rw [if_neg e1] at hw
    have hc := ab_CallB B hmk hfr hlo (ab_wd_use B hw)
    rw [hrt] at hc
    exact W.runI hS hM ⟨hc, hnm2, B.2.2.2.1 _ hin⟩ (ab_PreS B hR) rfl hn hsz hstk (ab_room8 h.1) hd ⟨by have := h.2.1; omega, by have := h.2.2.1; omega⟩
/-- what a call's receiver is -/
theorem ab_recv (B : ab_Bd p s m args c base H0 sp D cA SL xs cc own) {g : ab_G} {I : ab_I} {J : ab_J} {H : Heap} (hR : ab_Rep base H0 sp D cA SL xs g I J H) {b C : Nat} (hC : C ≤ 12) (ht : ab_ty g b = 10 + C) : ∃ cellB : Cell, H[ab_ad base sp b]? = some cellB ∧ cellB.vm.isStatics = false ∧ s.vm.findClass (ab_nmC C) = some cellB.cls := by
  by_cases e12 : C = 12
  · subst e12
    have hlt : b < 4 := by
      by_cases h32 : 29 ≤ b
      · have h9 := (hR.cell h32 (by omega)).2.2.2.2
        omega
      · exact ab_ty0_22 ((hR.2.2.2.2.1 b (by omega)).1.symm.trans ht)
    obtain ⟨cell, h1, h2, h3, h4⟩ := (B.2.2.2.2.2.2.2.2.2.2.2.1.1 b hlt).1
    dsimp only at h1 h4
    rw [ab_ad_sp (by omega)]
    exact ⟨cell, by rw [hR.2.2.2.1 _ (by omega)]; exact h1, h2, h3⟩
  · have h32 : 29 ≤ b := Nat.not_lt.mp fun q => ab_ty0_no ((hR.2.2.2.2.1 b q).1.symm.trans ht) (by omega)
    obtain ⟨cell, q1, q2, q3, -⟩ := (hR.cell h32 (by omega)).2.2.2.1 C (by omega) ht
    rw [ab_ad_own h32]
    refine ⟨cell, q1, by rw [q3]; rfl, ?_⟩
    rw [q2]
    exact (B.2.2.2.2.1.1 C _ (ab_cls_at (by omega))).2.1
theorem ab_so_virtual (B : ab_Bd p s m args c base H0 sp D cA SL xs cc own) {d : Nat} (hok : ab_Ok l base H0 sp D cA SL xs d) {mc ms rt pc ln r1 r2 : Nat} {rs : List Nat} {L : ab_L} {st : List ab_V} {ce sl : Nat} {g : ab_G} {I : ab_I} {J : ab_J} {Q : ab_Q} {i : Nat} (hd : decode cc pc = .ok (.invokevirtual i, ln)) (hfr : d + 1 ≤ R.frames) (hlo : 64 * (d + 1) ≤ R.locals) (hrc : mc ≤ R.cells) (hrs : ms ≤ R.slots) (hln : ln = 3)
    (h6 : r1 < 259) (hmk : ab_hasC r1 ∧ ab_mok r1 = true) (hnm : ab_isMath r1 = false) (hkd : (ab_mpN r1).1 = 1) (hnp : r2 = (ab_mpN r1).2.1) (hC : rs.getD 2 0 ≤ 12) (hcl : (ab_yN r1).cls = ab_nmC (rs.getD 2 0)) (hw : ab_wd (rs.getD 1 0) (.methodLink own i (ab_yN r1)) = true)
    (h : ab_st (ab_run d) ab_bud mc ms rt (pc, .invokevirtual i, ln, r1, r2, rs) L st ce sl g I J Q (ab_Pk p l e R s m args below meth c base H0 sp D cA SL xs Qm)) : ab_Pk p l e R s m args below meth c base H0 sp D cA SL xs Qm pc L st ce sl g I J := by
  subst hln
  obtain ⟨hlen, h⟩ := h
  generalize hAs : (st.take (r2 + 1)).reverse = As at h
  generalize hrest : st.drop (r2 + 1) = rest at h
  have hst : st = As.reverse ++ rest := by rw [← hAs, ← hrest]; exact ab_take_eq
  have hAl : As.length = r2 + 1 := by rw [← hAs, List.length_reverse, List.length_take]; omega
  subst hst
  obtain ⟨⟨b, hb, htb⟩, h⟩ := h
  cases As with
  | nil => cases hb
  | cons a0 As =>
  cases hb
  intro hL H locs ls hR hl hq
  obtain ⟨-, -, -, -, -, -, hf, -⟩ := ab_mok_f hmk
  obtain ⟨hin, hsel⟩ := hf hkd
  have hM := hok r1 _ g I J _ h6 hnm h.2.2.2
  refine ab_call_end h hL hl hq ?_
  have hS : CallFix p m c cc c.maxLocals s args ab_ws own := ⟨B.1, B.2.1, rfl, B.2.2.1, B.2.2.2.1⟩
  have hsz : (F0 m pc ls (((vR (some b) :: As).reverse ++ rest).map (ab_cv base sp))).locals.size = c.maxLocals := by show ls.size = _; rw [hl.1]; exact hL
  have hstk : (F0 m pc ls (((vR (some b) :: As).reverse ++ rest).map (ab_cv base sp))).stack = (As.map (ab_cv base sp)).reverse ++ .ref (ab_ad base sp b) :: rest.map (ab_cv base sp) := by
    show ((vR (some b) :: As).reverse ++ rest).map (ab_cv base sp) = _
    rw [List.reverse_cons, List.append_assoc, List.map_append, List.map_reverse]
    rfl
  have hn : (As.map (ab_cv base sp)).length = (ab_mpN r1).2.1 := by rw [List.length_map, ← hnp]; simp at hAl; omega
  have hrv := ab_recv B hR hC htb
  rw [← hcl] at hrv
  exact W.runV hS hM ⟨ab_CallB B hmk hfr hlo (ab_wd_use B hw), B.2.2.2.1 _ hin, B.2.2.2.1 _ hsel⟩ ⟨ab_blind, hrv, (ab_PreS B hR).2⟩ rfl hn hsz hstk (ab_room8 h.1) hd ⟨by have := h.2.1; omega, by have := h.2.2.1; omega⟩
end CALL
