/-! ===== soundness: new cells, arraycopy ===== -/
section NEW
variable {p : Program} {l : Launch} {e : Env} {R : Room} {s : State} {m : MethodId} {args : Array Value} {below : List Frame} {meth : Method} {c : Code} {Qm : State → Prop}
variable {base : Nat} {H0 : Heap} {sp : Nat → Nat} {D : va_G} {cA : Nat → ClassId} {SL : Nat} {xs : Nat → Int32} {cc : ByteArray} {own : String}
theorem ab_z_out {α : Type} {f : Nat → Nat → α} {a b x y : Nat} {z : α} (h : ¬ (a ≤ x ∧ x < b)) : ab_z f a b z x y = f x y := by unfold ab_z; rw [if_neg h]
theorem ab_z_in {α : Type} {f : Nat → Nat → α} {a b x y : Nat} {z : α} (h : a ≤ x ∧ x < b) : ab_z f a b z x y = z := by unfold ab_z; rw [if_pos h]
/-- n new cells -/
theorem ab_Rep.grow {g g' : ab_G} {I I' : ab_I} {J J' : ab_J} {H H' : Heap} {n : Nat} (hR : ab_Rep base H0 sp D cA SL xs g I J H) (hn : ab_n g' = ab_n g + n) (ht : ∀ k, k < ab_n g ∨ ab_n g + n ≤ k → ab_ty g' k = ab_ty g k) (hl : ∀ k, k < ab_n g → ab_ln g' k = ab_ln g k) (hr : ∀ k j, k < ab_n g → ab_R g' k j = ab_R g k j) (hI : ∀ k j, k < ab_n g → I' k j = I k j) (hJ : ∀ k j, k < ab_n g → J' k j = J k j)
    (hz : H'.size = H.size + n) (ho : ∀ q, q < H.size → H'[q]? = H[q]?) (hc : ∀ k, ab_n g ≤ k → k < ab_n g + n → ab_cell base sp D cA g' I' J' H' k) : ab_Rep base H0 sp D cA SL xs g' I' J' H' := by
  obtain ⟨r1, r2, r3, r4, r5, r6, r7⟩ := hR
  refine ⟨by omega, by omega, r3, fun q hq => by rw [ho q (by omega)]; exact r4 q hq, fun k hk => ?_, fun k hk => by rw [ht k (Or.inr (by omega))]; exact r6 k (by omega), fun k h1 h2 => ?_⟩
  · obtain ⟨q1, q2, q3, q4⟩ := r5 k hk
    exact ⟨by rw [ht k (Or.inl (by omega))]; exact q1, by rw [hl k (by omega)]; exact q2, fun j => by rw [hr k j (by omega)]; exact q3 j, fun j => by rw [hI k j (by omega)]; exact q4 j⟩
  · by_cases e : k < ab_n g
    · exact ab_cell_congr (r7 k h1 e) (ht k (Or.inl e)) (hl k e) (fun j => hr k j e) (fun j => hI k j e) (fun j => hJ k j e) (ho _ (by omega))
    · exact hc k (by omega) (by omega)
theorem ab_Rep.mk1 {g : ab_G} {I : ab_I} {J : ab_J} {H H' : Heap} {t len : Nat} (hR : ab_Rep base H0 sp D cA SL xs g I J H) (hz : H'.size = H.size + 1) (ho : ∀ q, q < H.size → H'[q]? = H[q]?) (hc : ab_cell base sp D cA (ab_mk g t len) (ab_z I (ab_n g) (ab_n g + 1) 0) (ab_z J (ab_n g) (ab_n g + 1) 0) H' (ab_n g)) :
    ab_Rep base H0 sp D cA SL xs (ab_mk g t len) (ab_z I (ab_n g) (ab_n g + 1) 0) (ab_z J (ab_n g) (ab_n g + 1) 0) H' := by
  refine hR.grow (n := 1) rfl (fun k hk => ?_) (fun k hk => ?_) (fun k j hk => ?_) (fun k j hk => ab_z_out (by omega)) (fun k j hk => ab_z_out (by omega)) hz ho (fun k h1 h2 => ?_)
  · show (if k = g.1 then t else g.2.1 k) = g.2.1 k
    rw [if_neg (by unfold ab_n at hk; omega)]
  · show (if k = g.1 then len else g.2.2.1 k) = g.2.2.1 k
    rw [if_neg (by unfold ab_n at hk; omega)]
  · show (if k = g.1 then none else g.2.2.2 k j) = g.2.2.2 k j
    rw [if_neg (by unfold ab_n at hk; omega)]
  · rw [show k = ab_n g by omega]; exact hc
theorem ab_mk_ty {g : ab_G} {t len : Nat} : ab_ty (ab_mk g t len) (ab_n g) = t := by show (if g.1 = g.1 then t else _) = t; rw [if_pos rfl]
theorem ab_mk_ln {g : ab_G} {t len : Nat} : ab_ln (ab_mk g t len) (ab_n g) = len := by show (if g.1 = g.1 then len else _) = len; rw [if_pos rfl]
theorem ab_mk_R {g : ab_G} {t len j : Nat} : ab_R (ab_mk g t len) (ab_n g) j = none := by show (if g.1 = g.1 then none else _) = none; rw [if_pos rfl]
theorem ab_def {ty : FieldType} : (ab_kd ty = 0 → defaultValue ty = .int 0) ∧ (ab_kd ty = 1 → defaultValue ty = .long 0) ∧ (ab_kd ty = 2 → defaultValue ty = .null) := by
  cases ty <;> refine ⟨fun h => ?_, fun h => ?_, fun h => ?_⟩ <;> first | rfl | (simp [ab_kd] at h; done)
theorem ab_so_new (B : ab_Bd p s m args c base H0 sp D cA SL xs cc own) {run : ab_Run} {bud : Nat → Nat × Nat} {mc ms rt pc ln r1 r2 : Nat} {rs : List Nat} {L : ab_L} {st : List ab_V} {ce sl : Nat} {g : ab_G} {I : ab_I} {J : ab_J} {Q : ab_Q} {i : Nat} (hd : decode cc pc = .ok (.new i, ln)) (hln : ln = 3) (hrc : mc ≤ R.cells) (hrs : ms ≤ R.slots) (h12 : r1 < 12) (h2 : r2 = ab_nf r1) (hw : ab_wd (rs.getD 1 0) (.classLink own i (ab_nmC r1)) = true) (h : ab_st run bud mc ms rt (pc, .new i, ln, r1, r2, rs) L st ce sl g I J Q (ab_Pk p l e R s m args below meth c base H0 sp D cA SL xs Qm)) : ab_Pk p l e R s m args below meth c base H0 sp D cA SL xs Qm pc L st ce sl g I J := by
  subst hln
  subst h2
  obtain ⟨hb1, hb2, hk⟩ := h
  obtain ⟨f1, f2, f3, f4, f5, f6, f7, f8⟩ := ab_cls_f h12
  intro hL H locs ls hR hl hq
  have hKn := B.2.2.2.2.1.1 r1 _ (ab_cls_at h12)
  have hsz : H.size = base + (ab_n g - 29) := hR.2.1
  have e0 : ab_cv base sp (vR (some (ab_n g))) = .ref H.size := by show Value.ref (ab_ad base sp (ab_n g)) = _; rw [ab_ad_own hR.1, hsz]
  refine W.newcK B.1 B.2.1 B.2.2.1 (ab_wd_use B hw) (B.2.2.2.1 _ f7) (B.2.2.2.1 _ f8) rfl hd (by omega) (by omega) hKn.2.1 rfl fun H1 kC hkC e1 z1 o1 => ?_
  have h9 := hk hL H1 locs ls (hR.mk1 z1 o1 ?_) hl hq
  · simp only [List.map_cons, e0] at h9
    exact h9
  · have ob := u_born (ab_tyf r1) B.2.2.2.1 f1 hKn hkC e1 f2
    rw [hsz] at ob
    unfold ab_cell
    rw [ab_mk_ty]
    refine ⟨fun z => by omega, fun z => by omega, fun _ z => by omega, fun c0 hc z => ?_, Or.inr (by omega)⟩
    have ec : c0 = r1 := by omega
    subst ec
    refine ob.to (fun k hk2 => ?_)
    obtain ⟨d1, d2, d3⟩ := ab_def (ty := ab_tyf c0 k)
    rw [f4 k hk2] at d1 d2 d3
    unfold ab_fv
    split
    · rename_i hz; rw [d1 hz, ab_z_in (by omega)]
    · rename_i hz; rw [d2 hz, ab_z_in (by omega)]
    · rename_i hz1 hz2
      rw [ab_mk_R]
      refine d3 ?_
      have hy : k < 42 := by
        have hz : c0 = 0 ∨ c0 = 1 ∨ c0 = 2 ∨ c0 = 3 ∨ c0 = 4 ∨ c0 = 5 ∨ c0 = 6 ∨ c0 = 7 ∨ c0 = 8 ∨ c0 = 9 ∨ c0 = 10 ∨ c0 = 11 := by omega
        rcases hz with rfl | rfl | rfl | rfl | rfl | rfl | rfl | rfl | rfl | rfl | rfl | rfl <;> exact Nat.lt_of_lt_of_le hk2 (by decide)
      have hx : ∀ c, c < 12 → ∀ k, k < 42 → ab_ft c k ≤ 2 := by decide +kernel
      have hw2 := hx c0 h12 k hy
      have hne0 : ab_ft c0 k ≠ 0 := hz1
      have hne1 : ab_ft c0 k ≠ 1 := hz2
      omega
theorem ab_arr_ws {t : FieldType} (h : t = .int ∨ t = .long) (B : ab_Bd p s m args c base H0 sp D cA SL xs cc own) : (Cond.arrayClass t).before args s = true := by
  rcases h with rfl | rfl
  · exact B.2.2.2.1 _ (ab_t1_ws (by decide +kernel) rfl)
  · exact B.2.2.2.1 _ (ab_t1_ws (by decide +kernel) rfl)
theorem ab_push_facts {H : Heap} {x : Cell} : (H.push x)[H.size]? = some x ∧ (H.push x).size = H.size + 1 ∧ ∀ q, q < H.size → (H.push x)[q]? = H[q]? := by
  refine ⟨by simp, by simp, fun q hq => ?_⟩
  rw [Array.getElem?_push, if_neg (Nat.ne_of_lt hq)]
theorem ab_so_newI (B : ab_Bd p s m args c base H0 sp D cA SL xs cc own) {run : ab_Run} {bud : Nat → Nat × Nat} {mc ms rt pc ln r1 r2 : Nat} {rs : List Nat} {L : ab_L} {st : List ab_V} {ce sl : Nat} {g : ab_G} {I : ab_I} {J : ab_J} {Q : ab_Q}  (hd : decode cc pc = .ok (.newarray .int, ln)) (hln : ln = 2) (hrc : mc ≤ R.cells) (hrs : ms ≤ R.slots) (h : ab_st run bud mc ms rt (pc, .newarray .int, ln, r1, r2, rs) L st ce sl g I J Q (ab_Pk p l e R s m args below meth c base H0 sp D cA SL xs Qm)) : ab_Pk p l e R s m args below meth c base H0 sp D cA SL xs Qm pc L st ce sl g I J := by
  subst hln
  obtain ⟨x, r, rfl, h0, h1, hb1, hb2, hk⟩ := ab_1i_e h
  intro hL H locs ls hR hl hq
  have hsz : H.size = base + (ab_n g - 29) := hR.2.1
  have e0 : ab_cv base sp (vR (some (ab_n g))) = .ref H.size := by show Value.ref (ab_ad base sp (ab_n g)) = _; rw [ab_ad_own hR.1, hsz]
  refine W.newa (atype := .int) B.1 B.2.1 (ab_arr_ws (t := .int) (Or.inl rfl) B) rfl hd rfl h0 (by show _ * 4 ≤ _; omega) (by omega) (by omega) fun cB kA comp q1 q2 q3 => ?_
  have hra : s.vm.findClass ("[" ++ (FieldType.int).toString) = some (cA 1) := (B.2.2.2.2.1.2 0 _ (ab_tys_at (cA := cA) (t := 1) (by decide) (by decide))).2
  have hcl : cB = cA 1 := Option.some.inj (q1.symm.trans hra)
  subst hcl
  obtain ⟨e1, z1, o1⟩ := ab_push_facts (H := H) (x := { cls := cA 1, slots := Array.replicate x.toNatClampNeg (defaultValue (newarray.typeOf .int)), vm := .none })
  have h9 := hk hL _ locs ls (hR.mk1 z1 o1 ?_) hl hq
  · simp only [List.map_cons, e0] at h9
    exact h9
  · unfold ab_cell
    rw [ab_mk_ty, ab_mk_ln]
    refine ⟨fun _ => ?_, fun z => by omega, fun z _ => by omega, fun c0 hc z => by omega, Or.inl (by omega)⟩
    rw [← hsz, e1, arrV_new]
    congr 2
    funext j
    rw [ab_z_in (by omega)]
    rfl
theorem ab_so_newL (B : ab_Bd p s m args c base H0 sp D cA SL xs cc own) {run : ab_Run} {bud : Nat → Nat × Nat} {mc ms rt pc ln r1 r2 : Nat} {rs : List Nat} {L : ab_L} {st : List ab_V} {ce sl : Nat} {g : ab_G} {I : ab_I} {J : ab_J} {Q : ab_Q}  (hd : decode cc pc = .ok (.newarray .long, ln)) (hln : ln = 2) (hrc : mc ≤ R.cells) (hrs : ms ≤ R.slots) (h : ab_st run bud mc ms rt (pc, .newarray .long, ln, r1, r2, rs) L st ce sl g I J Q (ab_Pk p l e R s m args below meth c base H0 sp D cA SL xs Qm)) : ab_Pk p l e R s m args below meth c base H0 sp D cA SL xs Qm pc L st ce sl g I J := by
  subst hln
  obtain ⟨x, r, rfl, h0, h1, hb1, hb2, hk⟩ := ab_1i_e h
  intro hL H locs ls hR hl hq
  have hsz : H.size = base + (ab_n g - 29) := hR.2.1
  have e0 : ab_cv base sp (vR (some (ab_n g))) = .ref H.size := by show Value.ref (ab_ad base sp (ab_n g)) = _; rw [ab_ad_own hR.1, hsz]
  refine W.newa (atype := .long) B.1 B.2.1 (ab_arr_ws (t := .long) (Or.inr rfl) B) rfl hd rfl h0 (by show _ * 8 ≤ _; omega) (by omega) (by omega) fun cB kA comp q1 q2 q3 => ?_
  have hra : s.vm.findClass ("[" ++ (FieldType.long).toString) = some (cA 2) := (B.2.2.2.2.1.2 1 _ (ab_tys_at (cA := cA) (t := 2) (by decide) (by decide))).2
  have hcl : cB = cA 2 := Option.some.inj (q1.symm.trans hra)
  subst hcl
  obtain ⟨e1, z1, o1⟩ := ab_push_facts (H := H) (x := { cls := cA 2, slots := Array.replicate x.toNatClampNeg (defaultValue (newarray.typeOf .long)), vm := .none })
  have h9 := hk hL _ locs ls (hR.mk1 z1 o1 ?_) hl hq
  · simp only [List.map_cons, e0] at h9
    exact h9
  · unfold ab_cell
    rw [ab_mk_ty, ab_mk_ln]
    refine ⟨fun z => by omega, fun _ => ?_, fun z _ => by omega, fun c0 hc z => by omega, Or.inl (by omega)⟩
    rw [← hsz, e1, arrV_new]
    congr 2
    funext j
    rw [ab_z_in (by omega)]
    rfl
theorem ab_so_anew (B : ab_Bd p s m args c base H0 sp D cA SL xs cc own) {run : ab_Run} {bud : Nat → Nat × Nat} {mc ms rt pc ln r1 r2 : Nat} {rs : List Nat} {L : ab_L} {st : List ab_V} {ce sl : Nat} {g : ab_G} {I : ab_I} {J : ab_J} {Q : ab_Q} {i : Nat} (hd : decode cc pc = .ok (.anewarray i, ln)) (hln : ln = 3) (hrc : mc ≤ R.cells) (hrs : ms ≤ R.slots) (h34 : r1 = 3 ∨ r1 = 4) (hw : ab_wd (rs.getD 1 0) (.classLink own i (if r1 = 3 then "CareRules$Rule" else "CareRules$Sheet")) = true) (h : ab_st run bud mc ms rt (pc, .anewarray i, ln, r1, r2, rs) L st ce sl g I J Q (ab_Pk p l e R s m args below meth c base H0 sp D cA SL xs Qm)) : ab_Pk p l e R s m args below meth c base H0 sp D cA SL xs Qm pc L st ce sl g I J := by
  subst hln
  have hlink := ab_wd_use B hw
  obtain ⟨x, r, rfl, h0, h1, hb1, hb2, hk⟩ := ab_1i_e h
  intro hL H locs ls hR hl hq
  have hsz : H.size = base + (ab_n g - 29) := hR.2.1
  have e0 : ab_cv base sp (vR (some (ab_n g))) = .ref H.size := by show Value.ref (ab_ad base sp (ab_n g)) = _; rw [ab_ad_own hR.1, hsz]
  have go : ∀ C : String, ab_aty r1 = .object C → (Cond.classLink own i C).before args s = true → va_AO C s → W p l e R s m args below meth c H locs ce sl Qm (F0 m pc ls (.int x :: r.map (ab_cv base sp))) := by
    intro C hC hcl hao
    refine W.anew B.1 B.2.1 B.2.2.1 hcl hao rfl hd rfl h0 (by omega) (by omega) (by omega) fun cB kA comp q1 q2 q3 q4 => ?_
    have hra := (B.2.2.2.2.1.2 (r1 - 1) _ (ab_tys_at (cA := cA) (t := r1) (by omega) (by omega))).2
    rw [hC] at hra
    obtain ⟨_, _, -, -, -, k4⟩ := hra
    have hcc : cB = cA r1 := Option.some.inj (q1.symm.trans k4)
    subst hcc
    obtain ⟨e1, z1, o1⟩ := ab_push_facts (H := H) (x := { cls := cA r1, slots := Array.replicate x.toNatClampNeg .null, vm := .none })
    have h9 := hk hL _ locs ls (hR.mk1 z1 o1 ?_) hl hq
    · simp only [List.map_cons, e0] at h9
      exact h9
    · unfold ab_cell
      rw [ab_mk_ty, ab_mk_ln]
      refine ⟨fun z => by omega, fun z => by omega, fun _ _ => ?_, fun c0 hc z => by omega, Or.inl (by omega)⟩
      rw [← hsz, e1, arrV_new]
      congr 2
      funext j
      rw [ab_mk_R]
      rfl
  rcases h34 with rfl | rfl
  · exact go _ rfl hlink B.2.2.2.2.2.2.1
  · exact go _ rfl hlink B.2.2.2.2.2.2.2.1
theorem ab_acp_e {st : List ab_V} {f : Nat → Int32 → Nat → Int32 → Int32 → List ab_V → Prop} (h : ab_acp st f) : ∃ a0 sp a1 dp n r, st = vI n :: vI dp :: vR (some a1) :: vI sp :: vR (some a0) :: r ∧ f a0 sp a1 dp n r := by
  unfold ab_acp at h; split at h
  · exact ⟨_, _, _, _, _, _, rfl, h⟩
  · exact h.elim
theorem ab_nn {z : Int32} (hz : ¬ z < 0) : z.toInt = (z.toNatClampNeg : Int) := by
  have hz0 : (0 : Int) ≤ z.toInt := by
    have := Int32.not_lt.mp hz
    simpa using Int32.le_iff_toInt_le.mp this
  show z.toInt = ((z.toInt.toNat : Nat) : Int)
  omega
/-- arraycopy between own arrays of one type of numbers -/
theorem ab_copyO (B : ab_Bd p s m args c base H0 sp D cA SL xs cc own) {H : Heap} {locs : List Loc} {cells slots pc i a0 a1 n0 n1 t : Nat} {f f1 : Nat → Value} {ls : Array Slot} {rest : List Value} {sP dP n : Int32} (hml : c.maxLocals = ls.size) (ht : t = 1 ∨ t = 2) (hc0 : H[base + (a0 - 29)]? = some (arrV (cA t) n0 f)) (hc1 : H[base + (a1 - 29)]? = some (arrV (cA t) n1 f1))
    (hfit : ∀ j, fits (ab_aty t) (f j) = true ∧ ∀ (T : State) (d : ClassId), T.takes d (f j)) (h1 : ¬ sP < 0) (h2 : ¬ dP < 0) (h3 : ¬ n < 0) (h4 : sP.toNatClampNeg + n.toNatClampNeg ≤ n0) (h5 : dP.toNatClampNeg + n.toNatClampNeg ≤ n1) (hlink : (Cond.methodLink own i arraycopyName).before args s = true)
    (hfr : 1 ≤ R.frames) (hlo : (rest.map fun v => v.category).sum + (nativeFrameWords "java/lang/System" "arraycopy" 5 + 11) ≤ R.locals) (hd : decode cc pc = .ok (.invokestatic i, 3))
    (kk : ∀ (H1 : Heap) (L1 : List Loc), H1[base + (a1 - 29)]? = some (arrV (cA t) n1 (va_cpy f f1 sP.toNatClampNeg dP.toNatClampNeg n.toNatClampNeg)) → H1.size = H.size → (∀ q, q ≠ base + (a1 - 29) → H1[q]? = H[q]?) → (∀ q ∈ L1, q.base = base + (a1 - 29)) → W p l e R s m args below meth c H1 (locs ++ L1) cells slots Qm (F0 m (pc + 3) ls rest)) :
    W p l e R s m args below meth c H locs cells slots Qm (F0 m pc ls (.int n :: .int dP :: .ref (base + (a1 - 29)) :: .int sP :: .ref (base + (a0 - 29)) :: rest)) := by
  have hnat : (Cond.native arraycopyName).before args s = true := B.2.2.2.1 _ (ab_t1_ws (by decide +kernel) rfl)
  have hstat : (Cond.static arraycopyName).before args s = true := B.2.2.2.1 _ (ab_t1_ws (by decide +kernel) rfl)
  have hini : (Cond.initialized "java/lang/System").before args s = true := B.2.2.2.1 _ (ab_t1_ws (by decide +kernel) rfl)
  intro T hT X
  obtain ⟨-, k0, hk0, cm0, hkk0⟩ := ab_arrOf (cA := cA) B.2.2.2.2.1 (t := t) (by omega) (by omega) n0 f
  obtain ⟨-, k1, hk1, cm1, hkk1⟩ := ab_arrOf (cA := cA) B.2.2.2.2.1 (t := t) (by omega) (by omega) n1 f1
  have hprim : refKind (ab_aty t) = false := by rcases ht with rfl | rfl <;> rfl
  obtain ⟨vm', X', step⟩ := X.arraycopy B.1 B.2.2.1 hlink hnat hstat hini (src := base + (a0 - 29)) (dst := base + (a1 - 29)) (cs := arrV (cA t) n0 f) (cd := arrV (cA t) n1 f1) (srcPos := sP) (destPos := dP) (n := n) (by rw [hT]; exact hc0) (by rw [hT]; exact hc1)
    (fun _ h => by cases h) (fun _ h => by cases h) (fun h => by cases h) (fun h => by cases h) hk0 hk1 hkk0 hkk1 (by simp [hprim]) h1 h2 h3
    (by rw [ab_nn h1, ab_nn h3, arrV_size]; omega) (by rw [ab_nn h2, ab_nn h3, arrV_size]; omega)
    (fun vm₁ _ j hj => by
      have e : (arrV (cA t) n0 f).slots.getD (sP.toNatClampNeg + j) .null = f (sP.toNatClampNeg + j) := by
        rw [Array.getD_eq_getD_getElem?, arrV_read _ _ (by omega)]
        rfl
      rw [e]
      exact ⟨(hfit _).1, (hfit _).2 _ _⟩)
    (g := F0 m pc ls (.int n :: .int dP :: .ref (base + (a1 - 29)) :: .int sP :: .ref (base + (a0 - 29)) :: rest)) rfl (by rw [hml]) (rest := rest) rfl (by rw [B.2.1]; exact hd) hfr (by show 2 * 0 + _ + _ ≤ _; omega)
  have e1 : copied (arrV (cA t) n0 f) (arrV (cA t) n1 f1) sP dP n = arrV (cA t) n1 (va_cpy f f1 sP.toNatClampNeg dP.toNatClampNeg n.toNatClampNeg) := va_copied (fun z => z) (cA t) (cA t) f f1 h4
  rw [e1] at X' step
  have hl1 : base + (a1 - 29) < H.size := (Array.getElem?_eq_some_iff.mp hc1).1
  have hheap : ((T.setVm vm').setCell (base + (a1 - 29)) (arrV (cA t) n1 (va_cpy f f1 sP.toNatClampNeg dP.toNatClampNeg n.toNatClampNeg))).heap = H.setIfInBounds (base + (a1 - 29)) (arrV (cA t) n1 (va_cpy f f1 sP.toNatClampNeg dP.toNatClampNeg n.toNatClampNeg)) := by rw [← hT]; rfl
  obtain ⟨t2, b1, b2⟩ := kk _ _ (by simp [Array.getElem?_setIfInBounds, hl1]) (by simp) (fun q hq => by simp [Array.getElem?_setIfInBounds, Ne.symm hq]) (fun q hq => by
    obtain ⟨z, -, hz⟩ := List.mem_map.mp hq
    rw [← hz]) _ hheap X'
  exact ⟨t2, step t2 b1, b2⟩
theorem ab_locsL {locs L1 : List Loc} (hq : ∀ q ∈ locs, base ≤ q.base) {a : Nat} (h : ∀ q ∈ L1, q.base = base + (a - 29)) : ∀ q ∈ locs ++ L1, base ≤ q.base := by
  intro q h2
  rcases List.mem_append.mp h2 with h3 | h3
  · exact hq q h3
  · rw [h q h3]; exact Nat.le_add_right _ _
theorem ab_so_arraycopy (B : ab_Bd p s m args c base H0 sp D cA SL xs cc own) {run : ab_Run} {bud : Nat → Nat × Nat} {mc ms rt pc ln r1 r2 : Nat} {rs : List Nat} {L : ab_L} {st : List ab_V} {ce sl : Nat} {g : ab_G} {I : ab_I} {J : ab_J} {Q : ab_Q} {i : Nat} (hd : decode cc pc = .ok (.invokestatic i, ln)) (hfr : 1 ≤ R.frames) (hlo : 60 ≤ R.locals) (h3 : rs.getD 0 0 = 3) (hln : ln = 3) (hw : ab_wd (rs.getD 1 0) (.methodLink own i arraycopyName) = true) (h : ab_st run bud mc ms rt (pc, .invokestatic i, ln, r1, r2, rs) L st ce sl g I J Q (ab_Pk p l e R s m args below meth c base H0 sp D cA SL xs Qm)) : ab_Pk p l e R s m args below meth c base H0 sp D cA SL xs Qm pc L st ce sl g I J := by
  subst hln
  change (if rs.getD 0 0 = 3 then _ else _) at h
  rw [if_pos h3] at h
  obtain ⟨a0, sP, a1, dP, n, r, rfl, hcs, h0, h1, i1, i2, i3, i4, i5, h⟩ := ab_acp_e h
  intro hL H locs ls hR hl hq
  have hml : c.maxLocals = ls.size := by rw [hl.1]; exact hL.symm
  have e0 : ab_cv base sp (vR (some a0)) = .ref (base + (a0 - 29)) := by show Value.ref (ab_ad base sp a0) = _; rw [ab_ad_own h0]
  have e1 : ab_cv base sp (vR (some a1)) = .ref (base + (a1 - 29)) := by show Value.ref (ab_ad base sp a1) = _; rw [ab_ad_own h1]
  have hl2 : ((r.map (ab_cv base sp)).map fun v => v.category).sum + (nativeFrameWords "java/lang/System" "arraycopy" 5 + 11) ≤ R.locals := by
    rw [ab_cs_cv]
    have e5 : nativeFrameWords "java/lang/System" "arraycopy" 5 ≤ 41 := by decide +kernel
    omega
  simp only [List.map_cons, e0, e1]
  rcases h with ⟨t0, t1, hk⟩ | ⟨t0, t1, hk⟩
  · have c0 := (hR.cell h0 (by omega)).1 t0
    have c1 := (hR.cell h1 (by omega)).1 t1
    refine ab_copyO B hml (Or.inl rfl) c0 c1 (fun j => ⟨rfl, fun _ _ => trivial⟩) i1 i2 i3 i4 i5 (ab_wd_use B hw) hfr hl2 hd fun H1 L1 q1 q2 q3 q4 => ?_
    refine hk hL H1 _ ls (hR.put h1 rfl (fun _ => rfl) (fun _ => rfl) (fun _ _ _ => rfl) (fun k y h => ?_) (fun _ _ _ => rfl) q2 q3 ⟨fun _ => ?_, fun z => by omega, fun z _ => by omega, fun c0 _ z => by omega, Or.inl (by omega)⟩) hl (ab_locsL hq q4)
    · unfold ab_cp; rw [if_neg (fun q => h q.1)]
    · rw [q1]
      congr 2
      funext y
      unfold va_cpy ab_cp
      by_cases hy : dP.toNatClampNeg ≤ y ∧ y < dP.toNatClampNeg + n.toNatClampNeg
      · rw [if_pos hy, if_pos ⟨rfl, hy⟩]
      · rw [if_neg hy, if_neg (fun q => hy q.2)]
  · have c0 := (hR.cell h0 (by omega)).2.1 t0
    have c1 := (hR.cell h1 (by omega)).2.1 t1
    refine ab_copyO B hml (Or.inr rfl) c0 c1 (fun j => ⟨rfl, fun _ _ => trivial⟩) i1 i2 i3 i4 i5 (ab_wd_use B hw) hfr hl2 hd fun H1 L1 q1 q2 q3 q4 => ?_
    refine hk hL H1 _ ls (hR.put h1 rfl (fun _ => rfl) (fun _ => rfl) (fun _ _ _ => rfl) (fun _ _ _ => rfl) (fun k y h => ?_) q2 q3 ⟨fun z => by omega, fun _ => ?_, fun z _ => by omega, fun c0 _ z => by omega, Or.inl (by omega)⟩) hl (ab_locsL hq q4)
    · unfold ab_cp; rw [if_neg (fun q => h q.1)]
    · rw [q1]
      congr 2
      funext y
      unfold va_cpy ab_cp
      by_cases hy : dP.toNatClampNeg ≤ y ∧ y < dP.toNatClampNeg + n.toNatClampNeg
      · rw [if_pos hy, if_pos ⟨rfl, hy⟩]
      · rw [if_neg hy, if_neg (fun q => hy q.2)]
theorem ab_so_objInit (B : ab_Bd p s m args c base H0 sp D cA SL xs cc own) {run : ab_Run} {bud : Nat → Nat × Nat} {mc ms rt pc ln r1 r2 : Nat} {rs : List Nat} {L : ab_L} {st : List ab_V} {ce sl : Nat} {g : ab_G} {I : ab_I} {J : ab_J} {Q : ab_Q} {i : Nat} (hd : decode cc pc = .ok (.invokespecial i, ln)) (hfr : 1 ≤ R.frames) (hlo : 60 ≤ R.locals) (h2 : rs.getD 0 0 = 2) (hln : ln = 3) (hw : ab_wd (rs.getD 1 0) (.methodLink own i objectInit) = true) (h : ab_st run bud mc ms rt (pc, .invokespecial i, ln, r1, r2, rs) L st ce sl g I J Q (ab_Pk p l e R s m args below meth c base H0 sp D cA SL xs Qm)) : ab_Pk p l e R s m args below meth c base H0 sp D cA SL xs Qm pc L st ce sl g I J := by
  subst hln
  change (if rs.getD 0 0 = 2 then _ else _) at h
  rw [if_pos h2] at h
  obtain ⟨a, r, rfl, hcs, hk⟩ := ab_1a_e h
  intro hL H locs ls hR hl hq
  have hcode : (Cond.code objectInit ⟨#[0xb1]⟩ 1 none).before args s = true := B.2.2.2.1 _ (ab_t1_ws (by decide +kernel) rfl)
  have hinst : (Cond.instanceMethod objectInit).before args s = true := B.2.2.2.1 _ (ab_t1_ws (by decide +kernel) rfl)
  refine W.objInit B.1 B.2.1 B.2.2.1 (ab_wd_use B hw) hinst hcode rfl (by rw [hl.1]; exact hL) rfl hd hfr ?_ (hk hL H locs ls hR hl hq)
  show 2 * 0 + ((r.map (ab_cv base sp)).map fun v => v.category).sum + 12 ≤ R.locals
  rw [ab_cs_cv]
  omega
end NEW
