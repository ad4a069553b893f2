/-! ===== soundness: fields ===== -/
section FLD
variable {p : Program} {l : Launch} {e : Env} {R : Room} {s : State} {m : MethodId} {args : Array Value} {below : List Frame} {meth : Method} {c : Code} {Qm : State → Prop}
variable {base : Nat} {H0 : Heap} {sp : Nat → Nat} {D : va_G} {cA : Nat → ClassId} {SL : Nat} {xs : Nat → Int32} {cc : ByteArray} {own : String}
theorem ab_sel_e {n : Nat} {a b c : Prop} (h : ab_sel n a b c) : n = 0 ∧ a ∨ n = 1 ∧ b ∨ 2 ≤ n ∧ c := by
  match n, h with
  | 0, h => exact Or.inl ⟨rfl, h⟩
  | 1, h => exact Or.inr (Or.inl ⟨rfl, h⟩)
  | n + 2, h => exact Or.inr (Or.inr ⟨by omega, h⟩)
theorem ab_ty0_22 {a : Nat} (h : ab_ty0 a = 22) : a < 4 := by
  unfold ab_ty0 at h
  by_cases z0 : a < 4
  · exact z0
  rw [if_neg z0] at h
  by_cases z1 : a < 8
  · rw [if_pos z1] at h; omega
  · rw [if_neg z1] at h
    by_cases z2 : a < 11
    · rw [if_pos z2] at h; omega
    · rw [if_neg z2] at h
      by_cases z3 : a < 15
      · rw [if_pos z3] at h; omega
      · rw [if_neg z3] at h; omega
theorem ab_ty0_no {a k : Nat} (h : ab_ty0 a = 10 + k) (hk : k < 12) : False := by
  unfold ab_ty0 at h
  by_cases z0 : a < 4
  · rw [if_pos z0] at h; omega
  rw [if_neg z0] at h
  by_cases z1 : a < 8
  · rw [if_pos z1] at h; omega
  · rw [if_neg z1] at h
    by_cases z2 : a < 11
    · rw [if_pos z2] at h; omega
    · rw [if_neg z2] at h
      by_cases z3 : a < 15
      · rw [if_pos z3] at h; omega
      · rw [if_neg z3] at h; omega
/-- an own object's field is read -/
theorem ab_getO (B : ab_Bd p s m args c base H0 sp D cA SL xs cc own) {g : ab_G} {I : ab_I} {J : ab_J} {H : Heap} {locs : List Loc} {cells slots pc i ci k a : Nat} {ls : Array Slot} {rest : List Value} (hR : ab_Rep base H0 sp D cA SL xs g I J H) (hci : ci < 12) (hk : k < ab_nf ci) (ht : ab_ty g a = 10 + ci)
    (hlink : (Cond.fieldLink own i (ab_nmC ci) (ab_fld ci k).2.1 (ab_fld ci k).2.2.1).before args s = true) (hd : decode cc pc = .ok (.getfield i, 3))
    (kk : W p l e R s m args below meth c H locs cells slots Qm (F0 m (pc + 3) ls (ab_fv base sp g I J ci a k :: rest))) : W p l e R s m args below meth c H locs cells slots Qm (F0 m pc ls (ab_cv base sp (vR (some a)) :: rest)) := by
  have h32 : 29 ≤ a := Nat.not_lt.mp fun q => ab_ty0_no ((hR.2.2.2.2.1 a q).1.symm.trans ht) hci
  have e0 : ab_cv base sp (vR (some a)) = .ref (base + (a - 29)) := by show Value.ref (ab_ad base sp a) = _; rw [ab_ad_own h32]
  rw [e0]
  obtain ⟨cell, q1, q2, q3, q4⟩ := (hR.cell h32 (by omega)).2.2.2.1 ci hci ht
  obtain ⟨f1, f2, f3, f4, f5, f6, f7, f8⟩ := ab_cls_f hci
  obtain ⟨hS, hfc, kC, hkC, hkind⟩ := B.2.2.2.2.1.1 ci _ (ab_cls_at hci)
  obtain ⟨cf, kf, fi, f, hi, hsl⟩ := hS k hk
  dsimp only at hi hfc
  have hi2 := hi
  rw [f3 k hk] at hi2
  refine W.getf B.1 B.2.1 B.2.2.1 hlink hi2 (u_facts hfc hkC (u_lays B.2.2.2.1 f1 hk) hi).1 q1 (by rw [q3]; exact fun h => by cases h) (v := ab_fv base sp g I J ci a k) ?_ rfl rfl hd kk
  rw [hsl, q4 k hk]
theorem ab_so_getfield (B : ab_Bd p s m args c base H0 sp D cA SL xs cc own) {run : ab_Run} {bud : Nat → Nat × Nat} {mc ms rt pc ln r1 r2 : Nat} {rs : List Nat} {L : ab_L} {st : List ab_V} {ce sl : Nat} {g : ab_G} {I : ab_I} {J : ab_J} {Q : ab_Q} {i : Nat} (hd : decode cc pc = .ok (.getfield i, ln)) (hln : ln = 3) (h12 : r1 ≤ 12) (hw : ab_wd (rs.getD 1 0) (.fieldLink own i (ab_nmC r1) (ab_fld r1 r2).2.1 (ab_fld r1 r2).2.2.1) = true) (hck : (if r1 = 12 then decide (r2 = 0 ∧ rs.getD 0 0 = 2 ∨ r2 = 1 ∧ rs.getD 0 0 = 0) else decide (r2 < ab_nf r1) && decide (rs.getD 0 0 = ab_ft r1 r2)) = true) (h : ab_st run bud mc ms rt (pc, .getfield i, ln, r1, r2, rs) L st ce sl g I J Q (ab_Pk p l e R s m args below meth c base H0 sp D cA SL xs Qm)) : ab_Pk p l e R s m args below meth c base H0 sp D cA SL xs Qm pc L st ce sl g I J := by
  subst hln
  have hlink := ab_wd_use B hw
  obtain ⟨a, r, rfl, ht, hs⟩ := ab_1a_e h
  clear h
  intro hL H locs ls hR hl hq
  by_cases e12 : r1 = 12
  · rw [if_pos e12, decide_eq_true_eq] at hck
    subst e12
    have hlt : a < 4 := by
      by_cases h32 : 29 ≤ a
      · have h9 := (hR.cell h32 (by omega)).2.2.2.2
        omega
      · exact ab_ty0_22 ((hR.2.2.2.2.1 a (by omega)).1.symm.trans ht)
    obtain ⟨q1, q2, q3, q4⟩ := hR.2.2.2.2.1 a (by omega)
    have hS := B.2.2.2.2.2.2.2.2.2.2.2.1.1 a hlt
    have e0 : ab_cv base sp (vR (some a)) = .ref (sp a) := by show Value.ref (ab_ad base sp a) = _; rw [ab_ad_sp (by omega)]
    have hHq : ∀ q, q < base → H[q]? = H0[q]? := hR.2.2.2.1
    rcases hck with ⟨e2, e3⟩ | ⟨e2, e3⟩
    · subst e2
      rw [e3] at hs
      obtain ⟨cf, k, fi, f, cell, h1, h2, h3, h4, h5, h6⟩ := hS.2.2.1
      dsimp only at h3 h6
      have h9 := hs hL H locs ls hR hl hq
      have e5 : ab_cv base sp (vR (ab_R g a 0)) = .ref (sp (a + 11)) := by
        rw [q3]
        unfold ab_R0
        rw [if_pos ⟨hlt, rfl⟩]
        show Value.ref (ab_ad base sp (a + 11)) = _
        rw [ab_ad_sp (by omega)]
      simp only [List.map_cons, e0, e5] at h9 ⊢
      exact W.getf B.1 B.2.1 B.2.2.1 hlink h1 h2 (by rw [hHq _ (by omega)]; exact h3) h4 h5 rfl rfl hd h9
    · subst e2
      rw [e3] at hs
      obtain ⟨cf, k, fi, f, cell, h1, h2, h3, h4, h5, h6⟩ := hS.2.1
      dsimp only at h3 h6
      have h9 := hs hL H locs ls hR hl hq
      have e5 : ab_cv base sp (vI (I a 1)) = .int 0 := by
        rw [q4]
        unfold ab_I0
        rw [if_pos (by omega)]
        rfl
      simp only [List.map_cons, e0, e5] at h9 ⊢
      exact W.getf B.1 B.2.1 B.2.2.1 hlink h1 h2 (by rw [hHq _ (by omega)]; exact h3) h4 h5 rfl rfl hd h9
  · rw [if_neg e12, Bool.and_eq_true, decide_eq_true_eq, decide_eq_true_eq] at hck
    obtain ⟨hk, htag⟩ := hck
    refine ab_getO B hR (by omega) hk ht hlink hd ?_
    unfold ab_fv
    rw [← htag]
    rcases ab_sel_e hs with ⟨e1, h⟩ | ⟨e1, h⟩ | ⟨e1, h⟩
    · rw [e1]; exact h hL H locs ls hR hl hq
    · rw [e1]; exact h hL H locs ls hR hl hq
    · have h9 := h hL H locs ls hR hl hq
      split
      · omega
      · omega
      · exact h9
theorem ab_nar {ty : FieldType} {v : Value} (h : ab_kd ty = 0 ∧ (∃ x, v = .int x ∧ (ty = .boolean → ab_bit x)) ∨ ab_kd ty = 1 ∧ (∃ x, v = .long x) ∨ ab_kd ty = 2 ∧ (v = .null ∨ ∃ a, v = .ref a)) : narrow ty v = v ∧ fits ty v = true := by
  rcases h with ⟨h1, x, rfl, h2⟩ | ⟨h1, x, rfl⟩ | ⟨h1, h2⟩
  · cases ty <;> first | (simp [ab_kd] at h1; done) | exact ⟨rfl, rfl⟩ | (rcases h2 rfl with rfl | rfl <;> exact ⟨by decide, by decide⟩)
  · cases ty <;> first | (simp [ab_kd] at h1; done) | exact ⟨rfl, rfl⟩
  · rcases h2 with rfl | ⟨a, rfl⟩ <;> cases ty <;> first | (simp [ab_kd] at h1; done) | exact ⟨rfl, rfl⟩
/-- an own object's field is written -/
theorem ab_putO (B : ab_Bd p s m args c base H0 sp D cA SL xs cc own) (hini : own = ab_nmC 0 ∨ True) {g : ab_G} {I : ab_I} {J : ab_J} {H : Heap} {locs : List Loc} {cells slots pc i ci k a : Nat} {ls : Array Slot} {rest : List Value} {v : Value} (hR : ab_Rep base H0 sp D cA SL xs g I J H) (h32 : 29 ≤ a) (hci : ci < 12) (hk : k < ab_nf ci) (ht : ab_ty g a = 10 + ci)
    (hlink : (Cond.fieldLink own i (ab_nmC ci) (ab_fld ci k).2.1 (ab_fld ci k).2.2.1).before args s = true) (hfin : (ab_fld ci k).2.2.2 = true → own = ab_nmC ci ∧ meth.name = "<init>") (hv : narrow (ab_tyf ci k) v = v ∧ fits (ab_tyf ci k) v = true) (hd : decode cc pc = .ok (.putfield i, 3))
    (kk : ∀ (H' : Heap) (y : Nat), t_OB (base + (a - 29)) (D.1 ci) (ab_nf ci) (D.2 ci) H' (updV (ab_fv base sp g I J ci a) k v) → H'.size = H.size → (∀ q, q ≠ base + (a - 29) → H'[q]? = H[q]?) → W p l e R s m args below meth c H' (locs ++ [⟨base + (a - 29), y⟩]) cells slots Qm (F0 m (pc + 3) ls rest)) : W p l e R s m args below meth c H locs cells slots Qm (F0 m pc ls (v :: ab_cv base sp (vR (some a)) :: rest)) := by
  have e0 : ab_cv base sp (vR (some a)) = .ref (base + (a - 29)) := by show Value.ref (ab_ad base sp a) = _; rw [ab_ad_own h32]
  rw [e0]
  obtain ⟨cell, q1, q2, q3, q4⟩ := (hR.cell h32 (by omega)).2.2.2.1 ci hci ht
  obtain ⟨f1, f2, f3, f4, f5, f6, f7, f8⟩ := ab_cls_f hci
  have hap := va_apart (own := own) B.2.2.2.1 f1 (ab_tyf ci) f2 f6 B.2.2.2.2.1 (ab_cls_at hci)
  obtain ⟨hS, hfc, kC, hkC, hkind⟩ := B.2.2.2.2.1.1 ci _ (ab_cls_at hci)
  obtain ⟨cf, kf, fi, f, hi, hsl⟩ := hS k hk
  dsimp only at hi hfc
  have hlay := B.2.2.2.1 _ (f1 _ (u_in_lay hk))
  have hst := (u_facts hfc hkC (u_lays B.2.2.2.1 f1 hk) hi).1
  have hi2 := hi
  rw [f3 k hk] at hi2
  unfold u_lay at hlay
  by_cases hf : (ab_fld ci k).2.2.2 = true
  · rw [if_pos hf] at hlay
    obtain ⟨ho, hin⟩ := hfin hf
    have hcf : m.cls = cf := by
      obtain ⟨_, _, c', _, _, _, -, -, hf', -, -, -, hown2, -⟩ := Cond.laysFinal_spec hlay
      have e1 : c' = cf := by have := hi.symm.trans hf'; simp at this; exact this.1.symm
      rw [f3 k hk, ← ho] at hown2
      rw [← e1]; exact Option.some.inj (B.2.2.1.symm.trans hown2)
    have h6 := u_fits hfc hkC hkind (Or.inr hlay) hi (f2 k hk) hv.1 hv.2
    refine W.putFinK B.1 B.2.1 B.2.2.1 hlink hi2 hst hcf hin (by rw [q2]; exact h6) q1 q3 (by rw [hsl]; exact k2_hasslot (q4 k hk)) rfl rfl hd fun H' e1 e2 e3 => ?_
    rw [hsl] at e1
    exact kk H' _ ⟨_, e1, q2, q3, t_set q4 hap hk v⟩ e2 e3
  · rw [if_neg hf] at hlay
    have h6 := u_store hfc hkC hkind hlay hi (f2 k hk) hv.1 hv.2
    refine W.putK B.1 B.2.1 (f := f) ⟨B.2.2.1, hlink, ⟨_, _, _, hi2⟩, hst⟩ (by rw [q2]; exact h6) q1 q3 (by rw [hsl]; exact k2_hasslot (q4 k hk)) rfl rfl hd fun H' e1 e2 e3 => ?_
    rw [hsl] at e1
    exact kk H' _ ⟨_, e1, q2, q3, t_set q4 hap hk v⟩ e2 e3
theorem ab_cv_nr (o : Option Nat) : ab_cv base sp (vR o) = .null ∨ ∃ a, ab_cv base sp (vR o) = .ref a := by
  cases o
  · exact Or.inl rfl
  · exact Or.inr ⟨_, rfl⟩
theorem ab_so_putfield (B : ab_Bd p s m args c base H0 sp D cA SL xs cc own) {run : ab_Run} {bud : Nat → Nat × Nat} {mc ms rt pc ln r1 r2 : Nat} {rs : List Nat} {L : ab_L} {st : List ab_V} {ce sl : Nat} {g : ab_G} {I : ab_I} {J : ab_J} {Q : ab_Q} {i : Nat} (hd : decode cc pc = .ok (.putfield i, ln)) (hln : ln = 3) (h12 : r1 < 12) (hk : r2 < ab_nf r1) (hw : ab_wd (rs.getD 1 0) (.fieldLink own i (ab_nmC r1) (ab_fld r1 r2).2.1 (ab_fld r1 r2).2.2.1) = true) (htag : rs.getD 0 0 = ab_ft r1 r2) (hfin : (ab_fld r1 r2).2.2.2 = true → own = ab_nmC r1 ∧ meth.name = "<init>") (hZ : ((ab_fld r1 r2).2.2.1 = "Z") = (rs.getD 3 0 = 1)) (h : ab_st run bud mc ms rt (pc, .putfield i, ln, r1, r2, rs) L st ce sl g I J Q (ab_Pk p l e R s m args below meth c base H0 sp D cA SL xs Qm)) : ab_Pk p l e R s m args below meth c base H0 sp D cA SL xs Qm pc L st ce sl g I J := by
  subst hln
  have hlink := ab_wd_use B hw
  obtain ⟨f1, f2, f3, f4, f5, f6, f7, f8⟩ := ab_cls_f h12
  have hkd := f4 r2 hk
  have hzb := f5 r2 hk
  intro hL H locs ls hR hl hq
  rcases ab_sel_e h with ⟨e1, h⟩ | ⟨e1, h⟩ | ⟨e1, h⟩
  · obtain ⟨x, r0, rfl, h⟩ := ab_1i_e h
    obtain ⟨a, r, rfl, h32, ht, hb, h⟩ := ab_1a_e h
    have hft : ab_ft r1 r2 = 0 := by rw [← htag]; exact e1
    refine ab_putO B (Or.inr trivial) hR h32 h12 hk ht hlink hfin (ab_nar (Or.inl ⟨by rw [hkd]; exact hft, x, rfl, fun z => hb (by rw [← hZ]; exact hzb.mpr z)⟩)) hd fun H' y e1 e2 e3 => ?_
    refine h hL H' _ ls (hR.put h32 rfl (fun _ => rfl) (fun _ => rfl) (fun _ _ _ => rfl) (fun k y h => ab_up_ne h) (fun _ _ _ => rfl) e2 e3 ⟨fun z => by omega, fun z => by omega, fun _ z => by omega, fun c0 hc z => ?_, Or.inr (by omega)⟩) hl (ab_locs hq)
    have ec : c0 = r1 := by omega
    subst ec
    refine e1.to (fun f hf => ?_)
    unfold updV ab_fv
    by_cases ef : f = r2
    · subst ef
      rw [if_pos rfl, hft]
      show _ = Value.int (ab_up I a f x a f)
      rw [ab_up_eq, if_pos rfl]
      rfl
    · rw [if_neg ef]
      split
      · rw [ab_up_eq, if_neg ef]
      · rfl
      · rfl
  · obtain ⟨x, r0, rfl, h⟩ := ab_1l_e h
    obtain ⟨a, r, rfl, h32, ht, h⟩ := ab_1a_e h
    have hft : ab_ft r1 r2 = 1 := by rw [← htag]; exact e1
    refine ab_putO B (Or.inr trivial) hR h32 h12 hk ht hlink hfin (ab_nar (Or.inr (Or.inl ⟨by rw [hkd]; exact hft, x, rfl⟩))) hd fun H' y e1 e2 e3 => ?_
    refine h hL H' _ ls (hR.put h32 rfl (fun _ => rfl) (fun _ => rfl) (fun _ _ _ => rfl) (fun _ _ _ => rfl) (fun k y h => ab_up_ne h) e2 e3 ⟨fun z => by omega, fun z => by omega, fun _ z => by omega, fun c0 hc z => ?_, Or.inr (by omega)⟩) hl (ab_locs hq)
    have ec : c0 = r1 := by omega
    subst ec
    refine e1.to (fun f hf => ?_)
    unfold updV ab_fv
    by_cases ef : f = r2
    · subst ef
      rw [if_pos rfl, hft]
      show _ = Value.long (ab_up J a f x a f)
      rw [ab_up_eq, if_pos rfl]
      rfl
    · rw [if_neg ef]
      split
      · rfl
      · rw [ab_up_eq, if_neg ef]
      · rfl
  · obtain ⟨x, r0, rfl, h⟩ := ab_1r_e h
    obtain ⟨a, r, rfl, h32, ht, h⟩ := ab_1a_e h
    have hft : 2 ≤ ab_ft r1 r2 := by rw [← htag]; exact e1
    have hkd2 : ab_kd (ab_tyf r1 r2) = 2 := by
      rw [hkd]
      have h8 : ab_ft r1 r2 ≤ 2 := by
        have hz : r1 = 0 ∨ r1 = 1 ∨ r1 = 2 ∨ r1 = 3 ∨ r1 = 4 ∨ r1 = 5 ∨ r1 = 6 ∨ r1 = 7 ∨ r1 = 8 ∨ r1 = 9 ∨ r1 = 10 ∨ r1 = 11 := by omega
        have hy : r2 < 42 := by
          rcases hz with rfl | rfl | rfl | rfl | rfl | rfl | rfl | rfl | rfl | rfl | rfl | rfl <;> exact Nat.lt_of_lt_of_le hk (by decide)
        have hx : ∀ c, c < 12 → ∀ k, k < 42 → ab_ft c k ≤ 2 := by decide +kernel
        exact hx r1 h12 r2 hy
      omega
    refine ab_putO B (Or.inr trivial) hR h32 h12 hk ht hlink hfin (ab_nar (Or.inr (Or.inr ⟨hkd2, ab_cv_nr x⟩))) hd fun H' y e1 e2 e3 => ?_
    refine h hL H' _ ls (hR.put h32 rfl (fun _ => rfl) (fun _ => rfl) (fun k y h => ab_setR_ne h) (fun _ _ _ => rfl) (fun _ _ _ => rfl) e2 e3 ⟨fun z => by have : ab_ty g a = 1 := z; omega, fun z => by have : ab_ty g a = 2 := z; omega, fun _ z => by have : ab_ty g a ≤ 6 := z; omega, fun c0 hc z => ?_, Or.inr (by show 10 ≤ ab_ty g a ∧ ab_ty g a < 22; omega)⟩) hl (ab_locs hq)
    have z2 : ab_ty g a = 10 + c0 := z
    have ec : c0 = r1 := by omega
    subst ec
    refine e1.to (fun f hf => ?_)
    unfold updV ab_fv
    by_cases ef : f = r2
    · subst ef
      rw [if_pos rfl]
      split
      · omega
      · omega
      · rw [ab_setR_eq, if_pos rfl]
        rfl
    · rw [if_neg ef]
      split
      · rfl
      · rfl
      · rw [ab_setR_eq, if_neg ef]
theorem ab_so_getstatic (B : ab_Bd p s m args c base H0 sp D cA SL xs cc own) {run : ab_Run} {bud : Nat → Nat × Nat} {mc ms rt pc ln r1 r2 : Nat} {rs : List Nat} {L : ab_L} {st : List ab_V} {ce sl : Nat} {g : ab_G} {I : ab_I} {J : ab_J} {Q : ab_Q} {i : Nat} (hd : decode cc pc = .ok (.getstatic i, ln)) (hln : ln = 3) (hck : ab_ckO own pc (.getstatic i) r1 r2 rs = true) (h : ab_st run bud mc ms rt (pc, .getstatic i, ln, r1, r2, rs) L st ce sl g I J Q (ab_Pk p l e R s m args below meth c base H0 sp D cA SL xs Qm)) : ab_Pk p l e R s m args below meth c base H0 sp D cA SL xs Qm pc L st ce sl g I J := by
  subst hln
  intro hL H locs ls hR hl hq
  have hHq : ∀ q, q < base → H[q]? = H0[q]? := hR.2.2.2.1
  have hSp := B.2.2.2.2.2.2.2.2.2.2.2
  have use : ∀ {C nn dd : String} {v : Value}, va_Z C nn dd v (fun q => base ≤ q) s H0 → ((Cond.fieldLink own i C nn dd).before args s = true ∨ (Cond.fieldLinkNest own i C nn dd "CareRules").before args s = true) → W p l e R s m args below meth c H locs ce sl Qm (F0 m (pc + 3) ls (v :: st.map (ab_cv base sp))) → W p l e R s m args below meth c H locs ce sl Qm (F0 m pc ls (st.map (ab_cv base sp))) := by
    intro C nn dd v hZ hlink hk
    obtain ⟨cf, kf, fi, f, a, cell, h1, h2, h3, h4, h5, h6, h7, h8⟩ := hZ
    rcases hlink with hlink | hlink
    · exact W.gets B.1 B.2.1 B.2.2.1 hlink h1 h2 h3 h4 (by rw [hHq a (by omega)]; exact h5) (fun e => by rw [e] at h6; cases h6) h7 rfl hd hk
    · exact va_WgetsN B.1 B.2.1 B.2.2.1 hlink h1 h2 h3 h4 (by rw [hHq a (by omega)]; exact h5) (fun e => by rw [e] at h6; cases h6) h7 rfl hd hk
  have e89 : ∀ a, a < 29 → ab_cv base sp (vR (some a)) = .ref (sp a) := fun a ha => by show Value.ref (ab_ad base sp a) = _; rw [ab_ad_sp ha]
  unfold ab_ckO at hck
  dsimp only at hck
  rcases ab_sel_e h with ⟨e1, h⟩ | ⟨e1, h⟩ | ⟨e1, h⟩
  · rw [e1] at hck
    change (decide (r1 = 8 ∨ r1 = 9) && _) = true at hck
    rw [Bool.and_eq_true, decide_eq_true_eq] at hck
    obtain ⟨hr, hck⟩ := hck
    have h9 := h hL H locs ls hR hl hq
    rcases hr with rfl | rfl
    · simp only [List.map_cons, e89 8 (by decide)] at h9
      refine use hSp.2.1.1 ?_ h9
      by_cases e2 : rs.getD 2 0 = 1
      · rw [if_pos e2] at hck; exact Or.inr (va_Nw.use rfl (ab_nd_use B hck))
      · rw [if_neg e2] at hck; exact Or.inl (ab_wd_use B hck)
    · simp only [List.map_cons, e89 9 (by decide)] at h9
      refine use hSp.2.2.1.1 ?_ h9
      by_cases e2 : rs.getD 2 0 = 1
      · rw [if_pos e2] at hck; exact Or.inr (va_Nw.use rfl (ab_nd_use B hck))
      · rw [if_neg e2] at hck; exact Or.inl (ab_wd_use B hck)
  · rw [e1] at hck
    change (decide (r1 = 1) && _) = true at hck
    rw [Bool.and_eq_true, decide_eq_true_eq] at hck
    obtain ⟨rfl, hck⟩ := hck
    exact use hSp.2.2.2.2.1 (Or.inl (ab_wd_use B hck)) (h hL H locs ls hR hl hq)
  · have hck2 : ab_wd (rs.getD 1 0) (.fieldLink own i "jdk/internal/util/Preconditions" "SIOOBE_FORMATTER" "Ljava/util/function/BiFunction;") = true := by
      split at hck
      · omega
      · omega
      · exact hck
    obtain ⟨o, ho, hZ⟩ := hSp.2.2.2.2.2
    have h9 := h o hL H locs ls hR hl hq
    refine use hZ (Or.inl (ab_wd_use B hck2)) ?_
    have e5 : ab_cv base sp (vR o) = va_rf (o.map sp) := by
      rcases ho with rfl | rfl
      · rfl
      · show Value.ref (ab_ad base sp 19) = _
        rw [ab_ad_sp (by decide)]
        rfl
    simp only [List.map_cons, e5] at h9
    exact h9
end FLD
