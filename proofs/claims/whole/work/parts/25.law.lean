/-! THE CLAIM OUT OF ONE WALK OF THE LAW'S BODY. Your part is whole_start (and what it stands on); all else here is the same for every law, but numbers. -/
def R_law : String := "CareRulesLaw"
def lw_P (b : Addr) (xs : List Int32) (args : Array Value) (s : State) : Prop := args = #[.ref b] ∧ s.IntsAt b xs ∧ xs.length ≤ 384 ∧ (Jvm.Cond.and given_1 narrow_1).before args s = true
def lw_Q (_ : Array Value) (s : State) (o : Outcome) (t : State) : Prop := o = .returned (some (.int 1)) ∧ Framed s o t [] 600000 7302250
def lw_Z (below : List Frame) (a : Array Value) (s : State) : State → Prop := fun t => ∃ o, t.status = .running ∧ Ended t below o ∧ lw_Q a s o t
/-- the law's own end, with 1 on the stack, nothing written that was there before, its room as the claim has it -/
theorem lw_ret {p : Program} {l : Launch} {e : Env} {s : State} {m : MethodId} {below : List Frame} {meth : Method} {c : Code} {b : Nat} (hx : p.tables.exec = Jvm.exec) (hb : c.code = code) (hr : meth.sig.returnType = ret) (hlocks : meth.locks = false) {pc : Nat} {H : Heap} {ls : Array Slot} (hdg : decode code pc = .ok (.ireturn, 1)) : W p l e room_1 s m #[Value.ref b] below meth c H [] 600000 7302250 (lw_Z below #[Value.ref b] s) (F0 m pc ls [.int 1]) := by
  intro T hT X
  obtain ⟨fs, hret, hrun, hended, hW, hframe⟩ := X.leave (v := some (.int 1)) (hlocks := hlocks) (fun h => by rw [hr] at h; cases h)
  have hmeth' : T.vm.method? m = some meth := X.method'
  refine ⟨T.setFrames fs, ?_, .returned (some (.int 1)), hrun, hended, rfl, ⟨_, rfl⟩, hW, hframe⟩
  jvm_step X.here [X.here.top, hx, hb, hdg, hmeth', hr, ret, narrow_b1]
  (try refine ⟨rfl, ?_⟩); (try refine ⟨rfl, ?_⟩)
  first | (intro acts; rw [hret _ acts rfl rfl rfl]) | rw [hret _ _ rfl rfl rfl]
  exact Steps.refl _
/-- what holds at the law's entry: the machine, the code, the tables' words (any of lw_tbl by 'hts w (by decide +kernel)'), the script of L ints xs at the cell b, what the Statement gives of the start (any of its parts by flat_of_before) -/
def lw_At (p : Program) (s : State) (m : MethodId) (meth : Method) (c : Code) (b L : Nat) (xs : Nat → Int32) : Prop :=
  p.tables.exec = Jvm.exec ∧ c.code = code ∧ meth.sig.returnType = ret ∧ c.maxLocals = 4 ∧ s.vm.findClass R_law = some m.cls ∧ (∀ w ∈ lw_tbl, w.before #[Value.ref b] s = true) ∧ va_X b L xs s s.heap ∧ b < s.heap.size ∧ meth.locks = false ∧ (Jvm.Cond.and given_1 narrow_1).before #[Value.ref b] s = true
/-! ===== the law's start, out of the abstract machine's run of it ===== -/
def ab_g0 (SL : Nat) : ab_G := (29, ab_ty0, ab_ln0 SL, ab_R0)
theorem ab_ty0_big {k : Nat} (h : 29 ≤ k) : ab_ty0 k = 0 := by
  unfold ab_ty0
  rw [if_neg (by omega), if_neg (by omega), if_neg (by omega), if_neg (by omega)]
theorem ab_fl {args : Array Value} {s : State} (h : (Jvm.Cond.and given_1 narrow_1).before args s = true) {w : Cond} (hw : w ∈ flatC (Jvm.Cond.and given_1 narrow_1)) : w.before args s = true := flat_of_before _ h w hw
theorem ab_five {P : Nat → Prop} (h0 : P 0) (h1 : P 1) (h2 : P 2) (h3 : P 3) (h4 : P 4) : ∀ j, j < 5 → P j := by
  intro j hj
  have : j = 0 ∨ j = 1 ∨ j = 2 ∨ j = 3 ∨ j = 4 := by omega
  rcases this with rfl | rfl | rfl | rfl | rfl
  · exact h0
  · exact h1
  · exact h2
  · exact h3
  · exact h4
/-- the two arrays of settings -/
theorem ab_least {args : Array Value} {s : State} {A : Nat → Prop} (hgv : (Jvm.Cond.and given_1 narrow_1).before args s = true) (hts : ∀ w ∈ lw_tbl, w.before args s = true) (hA : ∀ a : Nat, a < s.heap.size → ¬ A a) : ∃ t, va_Z "CareRules" "LEAST_SETTINGS" "[I" (.ref t) A s s.heap ∧ va_T .int t 5 (fun j => .int (([0, 0, 0, 0, -64] : List Int32).getD j 0)) A s s.heap := by
  obtain ⟨t, ht, hT⟩ := va_Tof (args := args) (s := s) (tm := .static "CareRules" "LEAST_SETTINGS" "[I") (ty := .int) (N := 5) (f := fun j => .int (([0, 0, 0, 0, -64] : List Int32).getD j 0)) (A := A) (by decide) (ab_fl hgv (by decide +kernel)) (va_eqt (ab_fl hgv (by decide +kernel)))
    (ab_five (va_eqt (ab_fl hgv (by decide +kernel))) (va_eqt (ab_fl hgv (by decide +kernel))) (va_eqt (ab_fl hgv (by decide +kernel))) (va_eqt (ab_fl hgv (by decide +kernel))) (va_eqt (ab_fl hgv (by decide +kernel)))) hA
  exact ⟨t, va_Zof (hts _ (List.mem_append_right _ (by decide +kernel))) (hts _ (List.mem_append_right _ (by decide +kernel))) ht hA, hT⟩
theorem ab_most {args : Array Value} {s : State} {A : Nat → Prop} (hgv : (Jvm.Cond.and given_1 narrow_1).before args s = true) (hts : ∀ w ∈ lw_tbl, w.before args s = true) (hA : ∀ a : Nat, a < s.heap.size → ¬ A a) : ∃ t, va_Z "CareRules" "MOST_SETTINGS" "[I" (.ref t) A s s.heap ∧ va_T .int t 5 (fun j => .int (([8, 9999, 9999, 9999, 64] : List Int32).getD j 0)) A s s.heap := by
  obtain ⟨t, ht, hT⟩ := va_Tof (args := args) (s := s) (tm := .static "CareRules" "MOST_SETTINGS" "[I") (ty := .int) (N := 5) (f := fun j => .int (([8, 9999, 9999, 9999, 64] : List Int32).getD j 0)) (A := A) (by decide) (ab_fl hgv (by decide +kernel)) (va_eqt (ab_fl hgv (by decide +kernel)))
    (ab_five (va_eqt (ab_fl hgv (by decide +kernel))) (va_eqt (ab_fl hgv (by decide +kernel))) (va_eqt (ab_fl hgv (by decide +kernel))) (va_eqt (ab_fl hgv (by decide +kernel))) (va_eqt (ab_fl hgv (by decide +kernel)))) hA
  exact ⟨t, va_Zof (hts _ (List.mem_append_right _ (by decide +kernel))) (hts _ (List.mem_append_right _ (by decide +kernel))) ht hA, hT⟩
theorem ab_str_eval {args : Array Value} {s : State} {own : String} {k : Nat} {v : Value} (h : (Term.string own k).eval args s none [] s = some v) : (Term.string own k).eval #[] s none [] s = some v := by
  rw [Term.string_eval_of_vm (args := args) (rfl : s.vm = s.vm)] at h ⊢
  exact h
def ab_tm (i : Nat) : Term := .string "CareRules$TextReader" (ab_six.getD i 0)
theorem ab_strs {args : Array Value} {s : State} {A : Nat → Prop} (hgv : (Jvm.Cond.and given_1 narrow_1).before args s = true) (hA : ∀ a : Nat, a < s.heap.size → ¬ A a) : ∃ adK adV : Nat → Nat, vk_S 4 ab_len ab_byt adK adV A s s.heap ∧ ∀ i : Nat, i < 4 → (ab_tm i).eval args s none [] s = some (.ref (adK i)) := by
  have h1 : ∀ i, i < 4 → Cond.exactly (ab_tm i) "java/lang/String" ∈ flatC (Jvm.Cond.and given_1 narrow_1) := by decide +kernel
  have h2 : ∀ i, i < 4 → Cond.eq (.field (ab_tm i) "java/lang/String" "coder" "B") (.int 0) ∈ flatC (Jvm.Cond.and given_1 narrow_1) := by decide +kernel
  have h3 : ∀ i, i < 4 → Cond.arrayOf (.field (ab_tm i) "java/lang/String" "value" "[B") .byte ∈ flatC (Jvm.Cond.and given_1 narrow_1) := by decide +kernel
  have h4 : ∀ i, i < 4 → Cond.eq (.length (.field (ab_tm i) "java/lang/String" "value" "[B")) (.int (Int32.ofNat (ab_len.getD i 0))) ∈ flatC (Jvm.Cond.and given_1 narrow_1) := by decide +kernel
  have h5 : ∀ i, i < 4 → ∀ j, j < ab_len.getD i 0 → Cond.eq (.elem (.field (ab_tm i) "java/lang/String" "value" "[B") (.int (Int32.ofNat j))) (.int ((ab_byt.getD i []).getD j 0)) ∈ flatC (Jvm.Cond.and given_1 narrow_1) := by decide +kernel
  have h6 : ∀ i, i < 4 → ∀ j, j < 4 → i ≠ j → (Cond.not (Cond.eq (ab_tm i) (ab_tm j)) ∈ flatC (Jvm.Cond.and given_1 narrow_1) ∨ Cond.not (Cond.eq (ab_tm j) (ab_tm i)) ∈ flatC (Jvm.Cond.and given_1 narrow_1)) := by decide +kernel
  have h7 : ∀ i, i < 4 → ab_len.getD i 0 < 2 ^ 31 := by decide +kernel
  exact vk_Sof h7 (fun i hi => ab_fl hgv (h1 i hi)) (fun i hi => ab_fl hgv (h2 i hi)) (fun i hi => ab_fl hgv (h3 i hi)) (fun i hi => ab_fl hgv (h4 i hi)) (fun i hi j hj => ab_fl hgv (h5 i hi j hj)) (fun i j hi hj hij => (h6 i hi j hj hij).imp (ab_fl hgv) (ab_fl hgv)) hA
theorem ab_arrP {args : Array Value} {s : State} {ty : FieldType} (h : (Cond.arrayClass ty).before args s = true) (hra : ∀ c, va_RA s c ty = (s.vm.findClass ("[" ++ ty.toString) = some c)) : ∃ cl : ClassId, ArrOfT s cl ty ∧ va_RA s cl ty := by
  obtain ⟨cl, k, comp, h1, h2, h3⟩ := Cond.arrayClass_spec h
  exact ⟨cl, fun n z => ⟨(fun _ h => (by cases h)), k, h2, comp, h3⟩, by rw [hra]; exact h1⟩
theorem ab_arrO {s : State} {C : String} (h : va_AO C s) : ∃ cl : ClassId, ArrOfT s cl (.object C) ∧ va_RA s cl (.object C) := by
  obtain ⟨comp, cl, k, h1, h2, h3, h4, h5⟩ := Cond.arrayOver_spec h
  exact ⟨cl, fun n z => ⟨(fun _ h => (by cases h)), k, h3, comp, h4⟩, k, comp, h3, h4, h1, h5⟩
theorem ab_arrA {s : State} {t : FieldType} (h : (Cond.arrayOver (.array t)).before #[] s = true) : ∃ cl : ClassId, ArrOfT s cl (.array t) ∧ va_RA s cl (.array t) := by
  obtain ⟨comp, cl, k, h1, h2, h3, h4, h5⟩ := arrayOverA_spec h
  exact ⟨cl, fun n z => ⟨(fun _ h => (by cases h)), k, h3, comp, h4⟩, h5⟩
/-- all that the law's start knows, put together -/
theorem ab_start {p : Program} {s : State} {m : MethodId} {meth : Method} {c : Code} {b L : Nat} {xs : Nat → Int32} (hL : L ≤ 384) (C0 : lw_At p s m meth c b L xs) :
    ∃ (sp : Nat → Nat) (D : va_G) (cA : Nat → ClassId), sp 10 = b ∧ ab_Kn s.heap.size s.heap sp D cA L xs s ∧ ab_Rep s.heap.size s.heap sp D cA L xs (ab_g0 L) (ab_I0 xs) (fun _ _ => 0) s.heap := by
  obtain ⟨hx, hb, hr, hml, hown, hts, hX, hbl, hlocks, hgv⟩ := C0
  have hA : ∀ a : Nat, a < s.heap.size → ¬ (fun q => s.heap.size ≤ q) a := fun a ha h => by dsimp only at h; omega
  obtain ⟨t8, z8, T8⟩ := ab_least hgv hts hA
  obtain ⟨t9, z9, T9⟩ := ab_most hgv hts hA
  obtain ⟨adK, adV, hS, hKe⟩ := ab_strs hgv hA
  have hcs : va_Z "java/lang/String" "COMPACT_STRINGS" "Z" (.int 1) (fun q => s.heap.size ≤ q) s s.heap := va_Zof (hts _ (List.mem_append_right _ (by decide +kernel))) (hts _ (List.mem_append_right _ (by decide +kernel))) (va_eqt (ab_fl hgv (by decide +kernel))) hA
  have hfm : va_Zq "jdk/internal/util/Preconditions" "SIOOBE_FORMATTER" "Ljava/util/function/BiFunction;" (fun q => s.heap.size ≤ q) s s.heap := va_Zqof (hts _ (List.mem_append_right _ (by decide +kernel))) (hts _ (List.mem_append_right _ (by decide +kernel))) (ab_fl hgv (by decide +kernel)) hA
  have hTX : va_T .int b L (fun j => .int (xs j)) (fun q => s.heap.size ≤ q) s s.heap := by
    obtain ⟨scr, x1, x2, x3, x4, x5⟩ := hX
    exact ⟨scr, x1, x2, x3, by omega, by rw [x4], x5, hA b hbl⟩
  have hfm2 : ∃ (q : Nat) (o : Option Nat), (o = none ∨ o = some 19) ∧ va_Z "jdk/internal/util/Preconditions" "SIOOBE_FORMATTER" "Ljava/util/function/BiFunction;" (va_rf (o.map (fun _ => q))) (fun q => s.heap.size ≤ q) s s.heap := by
    rcases hfm with h | ⟨t, h⟩
    · exact ⟨0, none, Or.inl rfl, h⟩
    · exact ⟨t, some 19, Or.inr rfl, h⟩
  obtain ⟨fq, fo, hfo, hfz⟩ := hfm2
  -- classes
  have hcl : ∀ k : Nat, ∃ q : ClassId × (Nat → Nat), k < 12 → u_Kn s (ab_nmC k) (ab_fld k) (ab_nf k) q.1 q.2 := by
    intro k
    by_cases hk : k < 12
    · obtain ⟨f1, -, -, -, -, -, f7, -⟩ := ab_cls_f hk
      obtain ⟨cC, iS, h⟩ := u_known (ws := ab_ws) (fun w hw => hts w (List.mem_filter.mp hw).1) f1 (hts _ (List.mem_filter.mp f7).1)
      exact ⟨(cC, iS), fun _ => h⟩
    · exact ⟨(0, fun _ => 0), fun h => absurd h hk⟩
  obtain ⟨dd, hdd⟩ := Classical.axiomOfChoice hcl
  have ao1 : va_AO "CareRules$Rule" s := va_AO.of (hts _ (List.mem_append_right _ (by decide +kernel)))
  have ao2 : va_AO "CareRules$Sheet" s := va_AO.of (hts _ (List.mem_append_right _ (by decide +kernel)))
  have aa1 : (Cond.arrayOver (.array .int)).before #[] s = true := over_moved (Vm.Alike.refl s.vm) (hts _ (List.mem_append_right _ (by decide +kernel)))
  have aa2 : (Cond.arrayOver (.array .long)).before #[] s = true := over_moved (Vm.Alike.refl s.vm) (hts _ (List.mem_append_right _ (by decide +kernel)))
  obtain ⟨a1, b1⟩ := ab_arrP (ty := .int) (hts _ (List.mem_append_right _ (by decide +kernel))) (fun _ => rfl)
  obtain ⟨a2, b2⟩ := ab_arrP (ty := .long) (hts _ (List.mem_append_right _ (by decide +kernel))) (fun _ => rfl)
  obtain ⟨a3, b3⟩ := ab_arrO ao1
  obtain ⟨a4, b4⟩ := ab_arrO ao2
  obtain ⟨a5, b5⟩ := ab_arrA aa1
  obtain ⟨a6, b6⟩ := ab_arrA aa2
  let sp : Nat → Nat := fun k => if k < 8 then adK k else if k = 8 then t8 else if k = 9 then t9 else if k = 10 then b else if k < 19 then adV (k - 11) else fq
  let cA : Nat → ClassId := fun t => if t = 1 then a1 else if t = 2 then a2 else if t = 3 then a3 else if t = 4 then a4 else if t = 5 then a5 else a6
  have sK : ∀ i, i < 4 → sp i = adK i := fun i hi => by show (if i < 8 then _ else _) = _; rw [if_pos (by omega)]
  have sV : ∀ i, i < 4 → sp (i + 11) = adV i := fun i hi => by
    show (if i + 11 < 8 then _ else if i + 11 = 8 then _ else if i + 11 = 9 then _ else if i + 11 = 10 then _ else if i + 11 < 19 then adV (i + 11 - 11) else _) = _
    rw [if_neg (by omega), if_neg (by omega), if_neg (by omega), if_neg (by omega), if_pos (by omega), Nat.add_sub_cancel]
  refine ⟨sp, (fun k => (dd k).1, fun k => (dd k).2), cA, rfl, ⟨⟨fun k q hq => ?_, fun k q hq => ?_⟩, fun w hw => ?_, ao1, ao2, aa1, aa2, fun i hi => ?_, ⟨fun i hi => ?_, fun i j hi hj he => ?_⟩, ⟨z8, T8⟩, ⟨z9, T9⟩, hTX, hcs, fo, hfo, ?_⟩, ?_⟩
  · have hk : k < 12 := (List.getElem?_eq_some_iff.mp hq).1
    rw [ab_cls_at hk] at hq
    cases hq
    exact hdd k hk
  · have hk : k < 6 := (List.getElem?_eq_some_iff.mp hq).1
    have : k = 0 ∨ k = 1 ∨ k = 2 ∨ k = 3 ∨ k = 4 ∨ k = 5 := by omega
    rcases this with rfl | rfl | rfl | rfl | rfl | rfl <;> cases hq
    · exact b1
    · exact b2
    · exact b3
    · exact b4
    · exact b5
    · exact b6
  · have h9 := (List.mem_filter.mp hw).2
    have hz := hts w (List.mem_append_right _ (List.mem_filter.mp hw).1)
    cases w <;> first | exact absurd h9 Bool.false_ne_true | exact va_Nw.of rfl hz
  · have hsr : ∀ i, i < 4 → Cond.stringRef "CareRules$TextReader" (ab_six.getD i 0) (ab_txt.getD i "") ∈ tables_1 := by decide +kernel
    rw [sK i hi]
    exact vk_R.of (hts _ (List.mem_append_right _ (hsr i hi))) (by have := hKe i hi; exact (ab_str_eval this))
  · have h9 := hS.1 i hi
    dsimp only
    rw [sK i hi, sV i hi]
    exact h9
  · dsimp only at he
    rw [sK i hi, sK j hj] at he
    exact hS.2 i j hi hj he
  · have e : fo.map sp = fo.map (fun _ => fq) := by
      rcases hfo with rfl | rfl
      · rfl
      · rfl
    rw [e]
    exact hfz
  · refine ⟨Nat.le_refl _, by show s.heap.size = s.heap.size + (29 - 29); omega, rfl, fun _ _ => rfl, fun k _ => ⟨rfl, rfl, fun _ => rfl, fun _ => rfl⟩, fun k hk => ab_ty0_big hk, fun k h1 h2 => ?_⟩
    have : k < 29 := h2
    omega
/-- the law's walk, out of the abstract machine's run of the law -/
theorem ab_whole {p : Program} {e : Env} {s : State} {m : MethodId} {below : List Frame} {meth : Method} {c : Code} (l : Launch) {b L : Nat} {xs : Nat → Int32} (hL : L ≤ 384) (C0 : lw_At p s m meth c b L xs) (hlaw : ab_run 101 259 [vR (some 10)] (ab_g0 L) (ab_I0 xs) (fun _ _ => 0) (fun r _ _ _ => r = some (vI 1))) :
    W p l e room_1 s m #[Value.ref b] below meth c s.heap [] 0 0 (lw_Z below #[Value.ref b] s) (entryFrame m ([Value.ref b] : List Value).toArray 4) := by
  obtain ⟨sp, D, cA, h10, hKn, hRep⟩ := ab_start hL C0
  obtain ⟨hx, hb, hr, hml, hown, hts, hX, hbl, hlocks, hgv⟩ := C0
  have Bd : ab_Bd p s m #[Value.ref b] c s.heap.size s.heap sp D cA L xs (ab_meth 259).2.1 (ab_yN 259).cls := ⟨hx, hb, hown, fun w hw => hts w (List.mem_filter.mp hw).1, hKn⟩
  obtain ⟨-, hlen, hE⟩ := hlaw
  have eA : ([Value.ref b] : List Value) = [vR (some 10)].map (ab_cv s.heap.size sp) := by
    show [Value.ref b] = [Value.ref (ab_ad s.heap.size sp 10)]
    rw [ab_ad_sp (by decide), h10]
  have eF : entryFrame m ([Value.ref b] : List Value).toArray 4 = F0 m 0 ((lg_sl ([vR (some 10)].map (ab_cv s.heap.size sp)) ++ List.replicate (4 - (lg_sl ([vR (some 10)].map (ab_cv s.heap.size sp))).length) Slot.unset).toArray) [] := by rw [lg_entry_eq, eA]
  rw [eF]
  have hml2 : (ab_meth 259).2.2.1 = 4 := rfl
  rw [hml2] at hlen hE
  refine ab_sound (R := room_1) (N := 259) (d := 100) ab_moks (ab_ok_all ab_moks ab_oks ab_shorts 100) Bd ab_okL (by show 101 ≤ 2048; decide) (by show 64 * 101 ≤ 84000; decide) (Nat.le_refl _) (by show 7302249 ≤ 7302250; decide) (fun z => absurd z (by decide)) ?_ hE (by rw [hml]; exact ab_ent_len hlen) s.heap [] _ hRep (ab_ent_lv hlen) (fun q hq => absurd hq List.not_mem_nil)
  intro ins r pc g' I' J' H locs ls ce sl hrok hd hQ hR' hq hc hs
  subst hQ
  rcases hrok with ⟨rfl, x, hx1, hx⟩ | ⟨rfl, x, hx1, hx⟩ | ⟨rfl, x, hx1, hx⟩ | ⟨rfl, hx1, hx⟩
  · cases hx1
    refine W.widen (k := 600000) (n := 7302250) hc (Nat.le_trans hs (by show 7302249 ≤ 7302250; decide)) ?_
    exact va_forget hq (lw_ret Bd.1 hb hr hlocks hd)
  · cases hx1
  · cases hx1
  · cases hx1
