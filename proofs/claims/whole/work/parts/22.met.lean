/-! ===== every method meets its contract at every depth ===== -/
section ENT
variable {base : Nat} {sp : Nat → Nat}
theorem ab_sl_len : ∀ As : List ab_V, (lg_sl (As.map (ab_cv base sp))).length = (ab_sl As).length
  | [] => rfl
  | v :: As => by
    have ih := ab_sl_len As
    unfold lg_sl at ih ⊢
    rw [List.map_cons, List.flatMap_cons, List.length_append, ih, ab_cat_cv]
    rcases v with x | x | x
    · show 1 + _ = (some (vI x) :: ab_sl As).length; simp; omega
    · show 2 + _ = (some (vL x) :: none :: ab_sl As).length; simp; omega
    · show 1 + _ = (some (vR x) :: ab_sl As).length; simp; omega
theorem ab_sl_get : ∀ (As : List ab_V) (k i : Nat) (v : ab_V), (ab_sl As)[i]? = some (some v) → (k + i, ab_cv base sp v) ∈ lv_args k (As.map (ab_cv base sp))
  | [], k, i, v, h => by simp [ab_sl] at h
  | w :: As, k, i, v, h => by
    have one : ∀ (h2 : (some w :: ab_sl As)[i]? = some (some v)) (hc : ab_cat w = 1), (k + i, ab_cv base sp v) ∈ lv_args k ((w :: As).map (ab_cv base sp)) := by
      intro h2 hc
      show _ ∈ (k, ab_cv base sp w) :: lv_args (if (ab_cv base sp w).category = 2 then k + 2 else k + 1) (As.map (ab_cv base sp))
      rw [ab_cat_cv, hc, if_neg (by decide)]
      cases i with
      | zero => cases h2; exact List.mem_cons_self
      | succ i =>
        rw [List.getElem?_cons_succ] at h2
        have := ab_sl_get As (k + 1) i v h2
        rw [show k + 1 + i = k + (i + 1) by omega] at this
        exact List.mem_cons_of_mem _ this
    rcases w with x | x | x
    · exact one h rfl
    · show _ ∈ (k, ab_cv base sp (vL x)) :: lv_args (k + 2) (As.map (ab_cv base sp))
      have h2 : (some (vL x) :: none :: ab_sl As)[i]? = some (some v) := h
      cases i with
      | zero => cases h2; exact List.mem_cons_self
      | succ i =>
        cases i with
        | zero => cases h2
        | succ i =>
          rw [List.getElem?_cons_succ, List.getElem?_cons_succ] at h2
          have := ab_sl_get As (k + 2) i v h2
          rw [show k + 2 + i = k + (i + 1 + 1) by omega] at this
          exact List.mem_cons_of_mem _ this
    · exact one h rfl
theorem ab_ent_len {As : List ab_V} {n : Nat} (h : (ab_sl As).length ≤ n) : (ab_ent As n).length = n := by
  unfold ab_ent
  simp
  omega
theorem ab_ent_lv {As : List ab_V} {n : Nat} (h : (ab_sl As).length ≤ n) : ab_lv base sp ((lg_sl (As.map (ab_cv base sp)) ++ List.replicate (n - (lg_sl (As.map (ab_cv base sp))).length) Slot.unset).toArray) (ab_ent As n) := by
  refine ab_lv_of (lv_entry (As.map (ab_cv base sp)) (n := n) (by rw [ab_sl_len]; exact h)) (ab_ent_len h) fun i v hi => ?_
  unfold ab_ent at hi
  by_cases hlt : i < (ab_sl As).length
  · rw [List.getElem?_append_left hlt] at hi
    have := ab_sl_get (base := base) (sp := sp) As 0 i v hi
    rwa [Nat.zero_add] at this
  · rw [List.getElem?_append_right (by omega), List.getElem?_replicate] at hi
    split at hi
    · cases hi
    · cases hi
end ENT
theorem ab_rt_inv {r : Option FieldType} : (ab_rt r = 0 → r = none) ∧ (ab_rt r = 1 → r = some .int) ∧ (ab_rt r = 2 → r = some .long) ∧ (ab_rt r = 4 → r = some .boolean) ∧ (ab_rt r = 5 → r = some .char) ∧ (ab_rt r = 6 → r = some .byte) := by
  cases r with
  | none => refine ⟨fun _ => rfl, fun h => ?_, fun h => ?_, fun h => ?_, fun h => ?_, fun h => ?_⟩ <;> cases h
  | some t => cases t <;> refine ⟨fun h => ?_, fun h => ?_, fun h => ?_, fun h => ?_, fun h => ?_, fun h => ?_⟩ <;> first | rfl | cases h
theorem ab_rt3 {r : Option FieldType} (h : ab_rt r = 3) (hn : r ≠ some .short ∧ r ≠ some .float ∧ r ≠ some .double) : ∃ t, r = some t ∧ ((∃ n, t = .object n) ∨ ∃ u, t = .array u) := by
  cases r with
  | none => cases h
  | some t => cases t <;> first | exact ⟨_, rfl, Or.inl ⟨_, rfl⟩⟩ | exact ⟨_, rfl, Or.inr ⟨_, rfl⟩⟩ | exact absurd rfl hn.1 | exact absurd rfl hn.2.1 | exact absurd rfl hn.2.2 | cases h
theorem ab_ok_all {l : Launch} {base : Nat} {H0 : Heap} {sp : Nat → Nat} {D : va_G} {cA : Nat → ClassId} {SL : Nat} {xs : Nat → Int32} (hmoks : ∀ N, N < 259 → ab_isMath N = false → ab_hasC N ∧ ab_mok N = true) (hoks : ∀ N, N < 259 → ab_okM N = true) (hshort : ∀ N, N < 259 → (ab_meth N).2.2.2.1 ≠ some .short ∧ (ab_meth N).2.2.2.1 ≠ some .float ∧ (ab_meth N).2.2.2.1 ≠ some .double) : ∀ d, ab_Ok l base H0 sp D cA SL xs d
  | 0 => fun N As g I J Q _ _ h => h.elim
  | d + 1 => by
    intro N As g I J Q hN hnm h
    obtain ⟨-, hlen, hE⟩ := h
    have ih := ab_ok_all (l := l) (base := base) (H0 := H0) (sp := sp) (D := D) (cA := cA) (SL := SL) (xs := xs) hmoks hoks hshort d
    have hmk := hmoks N hN hnm
    obtain ⟨-, -, f3, -, -, -, -, f8⟩ := ab_mok_f hmk
    refine Met.ofW (cc := (ab_meth N).2.1) (maxL := (ab_meth N).2.2.1) (ret := (ab_meth N).2.2.2.1) f3 rfl ?_
    intro p e s m args below meth c s₁ B hml hv
    obtain ⟨rfl, hR, hK⟩ := hv
    have hts := atoms_spec (ws := ab_wsN N) B.pre
    have hown : s.vm.findClass (ab_yN N).cls = some m.cls := findClass_of_methodNamed B.named
    have hr := B.returns
    have hlocks := B.notSynchronized
    have Bd : ab_Bd p s m (As.map (ab_cv base sp)).toArray c base H0 sp D cA SL xs (ab_meth N).2.1 (ab_yN N).cls := ⟨B.exec, B.bytes, hown, fun w hw => hts w (List.mem_cons_of_mem _ hw), hK⟩
    rw [lg_entry_eq]
    refine ab_sound hmoks ih Bd (hoks N hN) (R := (headSpec (ab_wsN N) (ab_rm (d + 1) N)).room) (Nat.le_refl (d + 1)) (Nat.le_refl (64 * (d + 1))) (Nat.le_refl _) (Nat.le_refl _) (fun z => ((name_of_methodNamed B.named B.method).1).trans (f8 z).2.1) ?_ hE (by rw [hml]; exact ab_ent_len hlen) s.heap [] _ hR (ab_ent_lv hlen) (fun q hq => absurd hq List.not_mem_nil)
    intro ins r pc g' I' J' H locs ls ce sl hrok hd hQ hR' hq hc hs
    obtain ⟨i0, i1, i2, i4, i5, i6⟩ := ab_rt_inv (r := (ab_meth N).2.2.2.1)
    refine W.widen hc hs ?_
    rcases hrok with ⟨rfl, x, rfl, hx⟩ | ⟨rfl, x, rfl, hx⟩ | ⟨rfl, x, rfl, hx⟩ | ⟨rfl, rfl, hx⟩
    · have hq2 : ∀ t : State, t.heap = H → s.WarmedH t.vm → ab_Qc base H0 sp D cA SL xs Q (As.map (ab_cv base sp)).toArray s (.returned (some (.int x))) t := fun t ht _ => ⟨some (vI x), g', I', J', rfl, hQ, by rw [ht]; exact hR'⟩
      rcases hx with e | ⟨e, hb⟩ | ⟨e, hb⟩ | ⟨e, hb⟩
      · exact W.iret Bd.1 Bd.2.1 (by rw [hr]; exact i1 e) hq2 hq hd
      · exact W.zret (ty := .boolean) Bd.1 Bd.2.1 (by rw [hr]; exact i4 e) (by rcases hb with rfl | rfl <;> decide) hq2 hq hd
      · exact W.zret (ty := .char) Bd.1 Bd.2.1 (by rw [hr]; exact i5 e) hb hq2 hq hd
      · exact W.zret (ty := .byte) Bd.1 Bd.2.1 (by rw [hr]; exact i6 e) hb hq2 hq hd
    · exact W.lret Bd.1 Bd.2.1 (by rw [hr]; exact i2 hx) (fun t ht _ => ⟨some (vL x), g', I', J', rfl, hQ, by rw [ht]; exact hR'⟩) hq hd
    · obtain ⟨ty, ht, hty⟩ := ab_rt3 hx (hshort N hN)
      exact W.aret (rt := ty) Bd.1 Bd.2.1 (by rw [hr]; exact ht) hty (ab_cv_nr x) (fun t ht _ => ⟨some (vR x), g', I', J', rfl, hQ, by rw [ht]; exact hR'⟩) hq hd
    · exact W.vret Bd.1 Bd.2.1 (by rw [hr]; exact i0 hx) (fun t ht _ => ⟨none, g', I', J', rfl, hQ, by rw [ht]; exact hR'⟩) hq hd
