/-! ===== soundness of the instructions that read and write cells ===== -/
section HEAP
variable {p : Program} {l : Launch} {e : Env} {R : Room} {s : State} {m : MethodId} {args : Array Value} {below : List Frame} {meth : Method} {c : Code} {Qm : State → Prop}
variable {base : Nat} {H0 : Heap} {sp : Nat → Nat} {D : va_G} {cA : Nat → ClassId} {SL : Nat} {xs : Nat → Int32} {cc : ByteArray} {own : String}
variable {g : ab_G} {I : ab_I} {J : ab_J} {H : Heap}
theorem ab_Rep.lt (hR : ab_Rep base H0 sp D cA SL xs g I J H) {a : Nat} (h : ab_ty g a ≠ 0) : a < ab_n g := by
  obtain ⟨-, -, -, -, -, h6, -⟩ := hR
  exact Nat.not_le.mp fun q => h (h6 a q)
theorem ab_ad_own {a : Nat} (h : 29 ≤ a) : ab_ad base sp a = base + (a - 29) := by unfold ab_ad; rw [if_neg (by omega)]
theorem ab_ad_sp {a : Nat} (h : a < 29) : ab_ad base sp a = sp a := by unfold ab_ad; rw [if_pos h]
theorem ab_Rep.cell (hR : ab_Rep base H0 sp D cA SL xs g I J H) {a : Nat} (h32 : 29 ≤ a) (h : ab_ty g a ≠ 0) : ab_cell base sp D cA g I J H a := hR.2.2.2.2.2.2 a h32 (hR.lt h)
/-- the value at a place of an array -/
def ab_av (base : Nat) (sp : Nat → Nat) (g : ab_G) (I : ab_I) (J : ab_J) (t a j : Nat) : Value := if t = 1 ∨ t = 7 then .int (I a j) else if t = 2 then .long (J a j) else ab_rf base sp (ab_R g a j)
theorem ab_tys_at {t : Nat} (h1 : 1 ≤ t) (h6 : t ≤ 6) : (ab_tys cA)[t - 1]? = some (cA t, ab_aty t) := by
  have : t = 1 ∨ t = 2 ∨ t = 3 ∨ t = 4 ∨ t = 5 ∨ t = 6 := by omega
  rcases this with rfl | rfl | rfl | rfl | rfl | rfl <;> rfl
theorem ab_arrOf (hK : va_K D ab_cls (ab_tys cA) s) {t : Nat} (h1 : 1 ≤ t) (h6 : t ≤ 6) (n : Nat) (f : Nat → Value) : s.isArrayOf (arrV (cA t) n f) (ab_aty t) := (hK.2 (t - 1) _ (ab_tys_at h1 h6)).1 n f
/-- an own array cell -/
theorem ab_Rep.arr (hR : ab_Rep base H0 sp D cA SL xs g I J H) {a : Nat} (h32 : 29 ≤ a) (h1 : 1 ≤ ab_ty g a) (h6 : ab_ty g a ≤ 6) : H[base + (a - 29)]? = some (arrV (cA (ab_ty g a)) (ab_ln g a) (ab_av base sp g I J (ab_ty g a) a)) := by
  obtain ⟨c1, c2, c3, -⟩ := hR.cell h32 (by omega)
  by_cases e1 : ab_ty g a = 1
  · rw [c1 e1, e1]; congr 2
  · by_cases e2 : ab_ty g a = 2
    · rw [c2 e2, e2]; congr 2
    · rw [c3 (by omega) h6]
      congr 2
      funext j
      unfold ab_av
      rw [if_neg (by omega), if_neg e2]
theorem ab_read (hKn : ab_Kn base H0 sp D cA SL xs s) (hR : ab_Rep base H0 sp D cA SL xs g I J H) {a : Nat} (h1 : 1 ≤ ab_ty g a) (h7 : ab_ty g a ≤ 7) :
    ∃ cell : Cell, H[ab_ad base sp a]? = some cell ∧ s.isArrayOf cell (ab_aty (ab_ty g a)) ∧ cell.vm ≠ .unknown ∧ ab_ln g a ≤ cell.slots.size ∧ cell.slots.size.toInt32 = nI (ab_ln g a) ∧ ∀ j, j < ab_ln g a → cell.slots[j]? = some (ab_av base sp g I J (ab_ty g a) a j) := by
  by_cases h32 : 29 ≤ a
  · have h6 : ab_ty g a ≤ 6 := by
      have h9 := (hR.cell h32 (by omega)).2.2.2.2
      omega
    rw [ab_ad_own h32]
    refine ⟨_, hR.arr h32 h1 h6, ab_arrOf hKn.1 h1 h6 _ _, fun h => (by cases h), by rw [arrV_size]; exact Nat.le_refl _, by rw [arrV_size]; rfl, fun j hj => arrV_read _ _ hj⟩
  · have hlt : a < 29 := by omega
    rw [ab_ad_sp hlt]
    obtain ⟨q1, q2, q3, q4⟩ := hR.2.2.2.2.1 a hlt
    have hH : ∀ q, q < base → H[q]? = H0[q]? := hR.2.2.2.1
    have hSp := hKn.2.2.2.2.2.2.2
    have use : ∀ (ty : FieldType) (N : Nat) (f : Nat → Value), va_T ty (sp a) N f (fun q => base ≤ q) s H0 → ab_aty (ab_ty g a) = ty → ab_ln g a = N → (∀ j, ab_av base sp g I J (ab_ty g a) a j = f j) →
        ∃ cell : Cell, H[sp a]? = some cell ∧ s.isArrayOf cell (ab_aty (ab_ty g a)) ∧ cell.vm ≠ .unknown ∧ ab_ln g a ≤ cell.slots.size ∧ cell.slots.size.toInt32 = nI (ab_ln g a) ∧ ∀ j, j < ab_ln g a → cell.slots[j]? = some (ab_av base sp g I J (ab_ty g a) a j) := by
      intro ty N f hT e1 e2 e3
      obtain ⟨cell, t1, t2, t3, t4, t5, t6, t7⟩ := hT
      refine ⟨cell, by rw [hH _ (by omega)]; exact t1, by rw [e1]; exact t2, t3, by rw [e2]; exact t4, by rw [e2]; exact t5, fun j hj => by rw [e3]; exact t6 j (by rw [← e2]; exact hj)⟩
    have hz : ab_ty g a = ab_ty0 a := q1
    by_cases e8 : a = 8
    · subst e8
      exact use .int 5 _ hSp.2.1.2 (by rw [hz]; rfl) (by rw [q2]; rfl) (fun j => by rw [hz]; show Value.int (I 8 j) = _; rw [q4])
    · by_cases e9 : a = 9
      · subst e9
        exact use .int 5 _ hSp.2.2.1.2 (by rw [hz]; rfl) (by rw [q2]; rfl) (fun j => by rw [hz]; show Value.int (I 9 j) = _; rw [q4])
      · by_cases e10 : a = 10
        · subst e10
          exact use .int SL _ hSp.2.2.2.1 (by rw [hz]; rfl) (by rw [q2]; rfl) (fun j => by rw [hz]; show Value.int (I 10 j) = _; rw [q4]; rfl)
        · have hr : 11 ≤ a ∧ a < 15 := by
            rw [hz] at h1 h7
            unfold ab_ty0 at h1 h7
            by_cases z0 : a < 4
            · rw [if_pos z0] at h7; omega
            rw [if_neg z0] at h1
            by_cases z1 : a < 8
            · rw [if_pos z1] at h1; omega
            · rw [if_neg z1, if_neg (by omega)] at h1
              by_cases z2 : a < 15
              · omega
              · rw [if_neg z2] at h1; omega
          have hty : ab_ty g a = 7 := by rw [hz]; unfold ab_ty0; rw [if_neg (by omega), if_neg (by omega), if_neg (by omega), if_pos hr.2]
          have hv := (hSp.1.1 (a - 11) (by omega)).2.2.2
          dsimp only at hv
          rw [show a - 11 + 11 = a by omega] at hv
          refine use .byte _ _ hv (by rw [hty]; rfl) ?_ (fun j => ?_)
          · rw [q2]; unfold ab_ln0; rw [if_neg (by omega), if_neg (by omega), if_neg e10, if_pos hr.2]
          · rw [hty]
            show Value.int (I a j) = _
            rw [q4]
            unfold ab_I0
            rw [if_neg (by omega), if_neg e8, if_neg e9, if_neg e10, if_pos hr.2]
theorem ab_vp_in {j : Int32} {n : Nat} (h : vp_in j n) : ¬ j < 0 ∧ j.toNatClampNeg < n := ⟨fun q => h (Or.inl q), Nat.not_le.mp fun q => h (Or.inr q)⟩
theorem ab_so_arraylength (B : ab_Bd p s m args c base H0 sp D cA SL xs cc own) {run : ab_Run} {bud : Nat → Nat × Nat} {mc ms rt pc ln r1 r2 : Nat} {rs : List Nat} {L : ab_L} {st : List ab_V} {ce sl : Nat} {g : ab_G} {I : ab_I} {J : ab_J} {Q : ab_Q} (hd : decode cc pc = .ok (.arraylength, ln)) (hln : ln = 1) (h : ab_st run bud mc ms rt (pc, .arraylength, ln, r1, r2, rs) L st ce sl g I J Q (ab_Pk p l e R s m args below meth c base H0 sp D cA SL xs Qm)) : ab_Pk p l e R s m args below meth c base H0 sp D cA SL xs Qm pc L st ce sl g I J := by
  subst hln
  obtain ⟨a, r, rfl, h1, h10, hk⟩ := ab_1a_e h
  intro hL H locs ls hR hl hq
  have h7 : ab_ty g a ≤ 7 := by
    by_cases h32 : 29 ≤ a
    · have h9 := (hR.cell h32 (by omega)).2.2.2.2
      omega
    · have h9 := (hR.2.2.2.2.1 a (by omega)).1
      unfold ab_ty0 at h9
      by_cases z0 : a < 4
      · rw [if_pos z0] at h9; omega
      rw [if_neg z0] at h9
      by_cases z1 : a < 8
      · rw [if_pos z1] at h9; omega
      · rw [if_neg z1] at h9
        by_cases z2 : a < 11
        · rw [if_pos z2] at h9; omega
        · rw [if_neg z2] at h9
          by_cases z3 : a < 15
          · rw [if_pos z3] at h9; omega
          · rw [if_neg z3] at h9; omega
  obtain ⟨cell, c1, c2, c3, c4, c5, c6⟩ := ab_read B.2.2.2.2 hR h1 h7
  exact W.alen B.1 B.2.1 c1 c2 c5 rfl rfl hd (hk hL H locs ls hR hl hq)
theorem ab_so_iaload (B : ab_Bd p s m args c base H0 sp D cA SL xs cc own) {run : ab_Run} {bud : Nat → Nat × Nat} {mc ms rt pc ln r1 r2 : Nat} {rs : List Nat} {L : ab_L} {st : List ab_V} {ce sl : Nat} {g : ab_G} {I : ab_I} {J : ab_J} {Q : ab_Q} (hd : decode cc pc = .ok (.iaload, ln)) (hln : ln = 1) (h : ab_st run bud mc ms rt (pc, .iaload, ln, r1, r2, rs) L st ce sl g I J Q (ab_Pk p l e R s m args below meth c base H0 sp D cA SL xs Qm)) : ab_Pk p l e R s m args below meth c base H0 sp D cA SL xs Qm pc L st ce sl g I J := by
  subst hln
  obtain ⟨a, j, r, rfl, h1, hin, hk⟩ := ab_ai_e h
  obtain ⟨i1, i2⟩ := ab_vp_in hin
  intro hL H locs ls hR hl hq
  obtain ⟨cell, c1, c2, c3, c4, c5, c6⟩ := ab_read B.2.2.2.2 hR (a := a) (by omega) (by omega)
  rw [h1] at c2
  exact W.iald B.1 B.2.1 c1 c2 c3 (fun q => q.elim i1 (fun q => by omega)) (by rw [c6 _ i2, h1]; rfl) rfl rfl hd (hk hL H locs ls hR hl hq)
theorem ab_so_baload (B : ab_Bd p s m args c base H0 sp D cA SL xs cc own) {run : ab_Run} {bud : Nat → Nat × Nat} {mc ms rt pc ln r1 r2 : Nat} {rs : List Nat} {L : ab_L} {st : List ab_V} {ce sl : Nat} {g : ab_G} {I : ab_I} {J : ab_J} {Q : ab_Q} (hd : decode cc pc = .ok (.baload, ln)) (hln : ln = 1) (h : ab_st run bud mc ms rt (pc, .baload, ln, r1, r2, rs) L st ce sl g I J Q (ab_Pk p l e R s m args below meth c base H0 sp D cA SL xs Qm)) : ab_Pk p l e R s m args below meth c base H0 sp D cA SL xs Qm pc L st ce sl g I J := by
  subst hln
  obtain ⟨a, j, r, rfl, h1, hin, hk⟩ := ab_ai_e h
  obtain ⟨i1, i2⟩ := ab_vp_in hin
  intro hL H locs ls hR hl hq
  obtain ⟨cell, c1, c2, c3, c4, c5, c6⟩ := ab_read B.2.2.2.2 hR (a := a) (by omega) (by omega)
  rw [h1] at c2
  exact W.bald B.1 B.2.1 c1 c2 c3 (fun q => q.elim i1 (fun q => by omega)) (by rw [c6 _ i2, h1]; rfl) rfl rfl hd (hk hL H locs ls hR hl hq)
theorem ab_so_laload (B : ab_Bd p s m args c base H0 sp D cA SL xs cc own) {run : ab_Run} {bud : Nat → Nat × Nat} {mc ms rt pc ln r1 r2 : Nat} {rs : List Nat} {L : ab_L} {st : List ab_V} {ce sl : Nat} {g : ab_G} {I : ab_I} {J : ab_J} {Q : ab_Q} (hd : decode cc pc = .ok (.laload, ln)) (hln : ln = 1) (h : ab_st run bud mc ms rt (pc, .laload, ln, r1, r2, rs) L st ce sl g I J Q (ab_Pk p l e R s m args below meth c base H0 sp D cA SL xs Qm)) : ab_Pk p l e R s m args below meth c base H0 sp D cA SL xs Qm pc L st ce sl g I J := by
  subst hln
  obtain ⟨a, j, r, rfl, h1, hin, hk⟩ := ab_ai_e h
  obtain ⟨i1, i2⟩ := ab_vp_in hin
  intro hL H locs ls hR hl hq
  obtain ⟨cell, c1, c2, c3, c4, c5, c6⟩ := ab_read B.2.2.2.2 hR (a := a) (by omega) (by omega)
  rw [h1] at c2
  exact W.lald B.1 B.2.1 c1 c2 c3 (fun q => q.elim i1 (fun q => by omega)) (by rw [c6 _ i2, h1]; rfl) rfl rfl hd (hk hL H locs ls hR hl hq)
theorem ab_so_aaload (B : ab_Bd p s m args c base H0 sp D cA SL xs cc own) {run : ab_Run} {bud : Nat → Nat × Nat} {mc ms rt pc ln r1 r2 : Nat} {rs : List Nat} {L : ab_L} {st : List ab_V} {ce sl : Nat} {g : ab_G} {I : ab_I} {J : ab_J} {Q : ab_Q} (hd : decode cc pc = .ok (.aaload, ln)) (hln : ln = 1) (h : ab_st run bud mc ms rt (pc, .aaload, ln, r1, r2, rs) L st ce sl g I J Q (ab_Pk p l e R s m args below meth c base H0 sp D cA SL xs Qm)) : ab_Pk p l e R s m args below meth c base H0 sp D cA SL xs Qm pc L st ce sl g I J := by
  subst hln
  obtain ⟨a, j, r, rfl, h1, h6, hin, hk⟩ := ab_ai_e h
  obtain ⟨i1, i2⟩ := ab_vp_in hin
  intro hL H locs ls hR hl hq
  obtain ⟨cell, c1, c2, c3, c4, c5, c6⟩ := ab_read B.2.2.2.2 hR (a := a) (by omega) (by omega)
  have hty : (ab_aty (ab_ty g a)).isReference = true := by
    have : ab_ty g a = 3 ∨ ab_ty g a = 4 ∨ ab_ty g a = 5 ∨ ab_ty g a = 6 := by omega
    rcases this with e | e | e | e <;> rw [e] <;> rfl
  refine W.aald B.1 B.2.1 c1 c2 hty c3 (fun q => q.elim i1 (fun q => by omega)) (v := ab_rf base sp (ab_R g a j.toNatClampNeg)) ?_ rfl rfl hd (hk hL H locs ls hR hl hq)
  rw [c6 _ i2]
  unfold ab_av
  rw [if_neg (by omega), if_neg (by omega)]
/-! stores -/
theorem ab_cell_congr {g' : ab_G} {I' : ab_I} {J' : ab_J} {H' : Heap} {k : Nat} (h : ab_cell base sp D cA g I J H k) (e1 : ab_ty g' k = ab_ty g k) (e2 : ab_ln g' k = ab_ln g k) (e3 : ∀ j, ab_R g' k j = ab_R g k j) (e4 : ∀ j, I' k j = I k j) (e5 : ∀ j, J' k j = J k j) (e6 : H'[base + (k - 29)]? = H[base + (k - 29)]?) : ab_cell base sp D cA g' I' J' H' k := by
  obtain ⟨c1, c2, c3, c4, c5⟩ := h
  unfold ab_cell
  rw [e1, e2, e6]
  refine ⟨fun z => ?_, fun z => ?_, fun z1 z2 => ?_, fun c0 hc z => ?_, c5⟩
  · rw [c1 z]; congr 2; funext j; rw [e4]
  · rw [c2 z]; congr 2; funext j; rw [e5]
  · rw [c3 z1 z2]; congr 2; funext j; rw [e3]
  · refine ((c4 c0 hc z).kept e6).to (fun f hf => ?_)
    unfold ab_fv
    split
    · rw [e4]
    · rw [e5]
    · rw [e3]
/-- a store into one own cell -/
theorem ab_Rep.put {g' : ab_G} {I' : ab_I} {J' : ab_J} {H' : Heap} {a : Nat} (hR : ab_Rep base H0 sp D cA SL xs g I J H) (h32 : 29 ≤ a) (hn : ab_n g' = ab_n g) (ht : ∀ k, ab_ty g' k = ab_ty g k) (hl : ∀ k, ab_ln g' k = ab_ln g k) (hr : ∀ k j, k ≠ a → ab_R g' k j = ab_R g k j) (hI : ∀ k j, k ≠ a → I' k j = I k j) (hJ : ∀ k j, k ≠ a → J' k j = J k j)
    (hz : H'.size = H.size) (ho : ∀ q, q ≠ base + (a - 29) → H'[q]? = H[q]?) (hc : ab_cell base sp D cA g' I' J' H' a) : ab_Rep base H0 sp D cA SL xs g' I' J' H' := by
  obtain ⟨r1, r2, r3, r4, r5, r6, r7⟩ := hR
  refine ⟨by rw [hn]; exact r1, by rw [hn, hz]; exact r2, r3, fun q hq => by rw [ho q (by omega)]; exact r4 q hq, fun k hk => ?_, fun k hk => by rw [ht]; exact r6 k (by rw [← hn]; exact hk), fun k h1 h2 => ?_⟩
  · obtain ⟨q1, q2, q3, q4⟩ := r5 k hk
    exact ⟨by rw [ht]; exact q1, by rw [hl]; exact q2, fun j => by rw [hr k j (by omega)]; exact q3 j, fun j => by rw [hI k j (by omega)]; exact q4 j⟩
  · by_cases e : k = a
    · subst e; exact hc
    · exact ab_cell_congr (r7 k h1 (by rw [← hn]; exact h2)) (ht k) (hl k) (fun j => hr k j e) (fun j => hI k j e) (fun j => hJ k j e) (ho _ (by omega))
theorem ab_up_ne {α : Type} {f : Nat → Nat → α} {a k x y : Nat} {v : α} (h : x ≠ a) : ab_up f a k v x y = f x y := by unfold ab_up; rw [if_neg (fun q => h q.1)]
theorem ab_up_eq {α : Type} {f : Nat → Nat → α} {a k y : Nat} {v : α} : ab_up f a k v a y = if y = k then v else f a y := by unfold ab_up; simp
theorem ab_locs {locs : List Loc} (hq : ∀ q ∈ locs, base ≤ q.base) {a k : Nat} : ∀ q ∈ locs ++ [(⟨base + (a - 29), k⟩ : Loc)], base ≤ q.base := by
  intro q h
  rcases List.mem_append.mp h with h | h
  · exact hq q h
  · rw [List.mem_singleton.mp h]; exact Nat.le_add_right _ _
theorem ab_so_iastore (B : ab_Bd p s m args c base H0 sp D cA SL xs cc own) {run : ab_Run} {bud : Nat → Nat × Nat} {mc ms rt pc ln r1 r2 : Nat} {rs : List Nat} {L : ab_L} {st : List ab_V} {ce sl : Nat} {g : ab_G} {I : ab_I} {J : ab_J} {Q : ab_Q} (hd : decode cc pc = .ok (.iastore, ln)) (hln : ln = 1) (h : ab_st run bud mc ms rt (pc, .iastore, ln, r1, r2, rs) L st ce sl g I J Q (ab_Pk p l e R s m args below meth c base H0 sp D cA SL xs Qm)) : ab_Pk p l e R s m args below meth c base H0 sp D cA SL xs Qm pc L st ce sl g I J := by
  subst hln
  obtain ⟨x, r0, rfl, h⟩ := ab_1i_e h
  obtain ⟨a, j, r, rfl, h32, h1, hin, hk⟩ := ab_ai_e h
  obtain ⟨i1, i2⟩ := ab_vp_in hin
  intro hL H locs ls hR hl hq
  have hc := (hR.cell h32 (by omega)).1 h1
  have e0 : ab_cv base sp (vR (some a)) = .ref (base + (a - 29)) := by show Value.ref (ab_ad base sp a) = _; rw [ab_ad_own h32]
  simp only [List.map_cons, e0]
  refine W.iast B.1 B.2.1 hc (ab_arrOf B.2.2.2.2.1 (t := 1) (by decide) (by decide) _ _) (fun h => by cases h) (fun q => q.elim i1 (fun q => by rw [arrV_size] at q; omega)) rfl rfl hd fun H' e1 e2 e3 => ?_
  refine hk hL H' _ ls (hR.put h32 rfl (fun _ => rfl) (fun _ => rfl) (fun _ _ _ => rfl) (fun k y h => ab_up_ne h) (fun _ _ _ => rfl) e2 e3 ?_) hl (ab_locs hq)
  refine ⟨fun _ => ?_, fun z => by omega, fun z _ => by omega, fun c0 _ z => by omega, Or.inl (by omega)⟩
  rw [e1, arrV_store]
  congr 2
  funext y
  unfold updV
  rw [ab_up_eq]
  by_cases hy : y = j.toNatClampNeg <;> simp [hy]
theorem ab_so_lastore (B : ab_Bd p s m args c base H0 sp D cA SL xs cc own) {run : ab_Run} {bud : Nat → Nat × Nat} {mc ms rt pc ln r1 r2 : Nat} {rs : List Nat} {L : ab_L} {st : List ab_V} {ce sl : Nat} {g : ab_G} {I : ab_I} {J : ab_J} {Q : ab_Q} (hd : decode cc pc = .ok (.lastore, ln)) (hln : ln = 1) (h : ab_st run bud mc ms rt (pc, .lastore, ln, r1, r2, rs) L st ce sl g I J Q (ab_Pk p l e R s m args below meth c base H0 sp D cA SL xs Qm)) : ab_Pk p l e R s m args below meth c base H0 sp D cA SL xs Qm pc L st ce sl g I J := by
  subst hln
  obtain ⟨x, r0, rfl, h⟩ := ab_1l_e h
  obtain ⟨a, j, r, rfl, h32, h1, hin, hk⟩ := ab_ai_e h
  obtain ⟨i1, i2⟩ := ab_vp_in hin
  intro hL H locs ls hR hl hq
  have hc := (hR.cell h32 (by omega)).2.1 h1
  have e0 : ab_cv base sp (vR (some a)) = .ref (base + (a - 29)) := by show Value.ref (ab_ad base sp a) = _; rw [ab_ad_own h32]
  simp only [List.map_cons, e0]
  refine W.last B.1 B.2.1 hc (ab_arrOf B.2.2.2.2.1 (t := 2) (by decide) (by decide) _ _) (fun h => by cases h) (fun q => q.elim i1 (fun q => by rw [arrV_size] at q; omega)) rfl rfl hd fun H' e1 e2 e3 => ?_
  refine hk hL H' _ ls (hR.put h32 rfl (fun _ => rfl) (fun _ => rfl) (fun _ _ _ => rfl) (fun _ _ _ => rfl) (fun k y h => ab_up_ne h) e2 e3 ?_) hl (ab_locs hq)
  refine ⟨fun z => by omega, fun _ => ?_, fun z _ => by omega, fun c0 _ z => by omega, Or.inl (by omega)⟩
  rw [e1, arrV_store]
  congr 2
  funext y
  unfold updV
  rw [ab_up_eq]
  by_cases hy : y = j.toNatClampNeg <;> simp [hy]
theorem ab_setR_ne {a k x y : Nat} {o : Option Nat} (h : x ≠ a) : ab_R (ab_setR g a k o) x y = ab_R g x y := ab_up_ne h
theorem ab_setR_eq {a k y : Nat} {o : Option Nat} : ab_R (ab_setR g a k o) a y = if y = k then o else ab_R g a y := ab_up_eq
theorem ab_so_aastore (B : ab_Bd p s m args c base H0 sp D cA SL xs cc own) {run : ab_Run} {bud : Nat → Nat × Nat} {mc ms rt pc ln r1 r2 : Nat} {rs : List Nat} {L : ab_L} {st : List ab_V} {ce sl : Nat} {g : ab_G} {I : ab_I} {J : ab_J} {Q : ab_Q} (hd : decode cc pc = .ok (.aastore, ln)) (hln : ln = 1) (h : ab_st run bud mc ms rt (pc, .aastore, ln, r1, r2, rs) L st ce sl g I J Q (ab_Pk p l e R s m args below meth c base H0 sp D cA SL xs Qm)) : ab_Pk p l e R s m args below meth c base H0 sp D cA SL xs Qm pc L st ce sl g I J := by
  subst hln
  obtain ⟨x, r0, rfl, h⟩ := ab_1r_e h
  obtain ⟨a, j, r, rfl, h32, hin, hty, hk⟩ := ab_ai_e h
  obtain ⟨i1, i2⟩ := ab_vp_in hin
  intro hL H locs ls hR hl hq
  have t34 : ab_ty g a = 3 ∨ ab_ty g a = 4 := by
    rcases hty with ⟨-, h⟩ | ⟨b, -, h⟩
    · exact h
    · rcases h with h | h
      · exact Or.inl h.1
      · exact Or.inr h.1
  have hc := (hR.cell h32 (by omega)).2.2.1 (by omega) (by omega)
  have e0 : ab_cv base sp (vR (some a)) = .ref (base + (a - 29)) := by show Value.ref (ab_ad base sp a) = _; rw [ab_ad_own h32]
  have fin : ∀ (H' : Heap), H'[base + (a - 29)]? = some ((arrV (cA (ab_ty g a)) (ab_ln g a) (fun j => ab_rf base sp (ab_R g a j))).setSlot j.toNatClampNeg (ab_rf base sp x)) → H'.size = H.size → (∀ q, q ≠ base + (a - 29) → H'[q]? = H[q]?) →
      W p l e R s m args below meth c H' (locs ++ [⟨base + (a - 29), j.toNatClampNeg⟩]) ce sl Qm (F0 m (pc + 1) ls (r.map (ab_cv base sp))) := by
    intro H' e1 e2 e3
    refine hk hL H' _ ls (hR.put h32 rfl (fun _ => rfl) (fun _ => rfl) (fun k y h => ab_setR_ne h) (fun _ _ _ => rfl) (fun _ _ _ => rfl) e2 e3 ?_) hl (ab_locs hq)
    have ety : ab_ty (ab_setR g a j.toNatClampNeg x) a = ab_ty g a := rfl
    refine ⟨fun z => by omega, fun z => by omega, fun _ _ => ?_, fun c0 _ z => by omega, Or.inl (by omega)⟩
    rw [e1, arrV_store, ety]
    congr 2
    funext y
    unfold updV
    rw [ab_setR_eq]
    by_cases hy : y = j.toNatClampNeg <;> simp [hy]
  cases x with
  | none =>
    simp only [List.map_cons, e0]
    have harr := ab_arrOf (cA := cA) B.2.2.2.2.1 (t := ab_ty g a) (by omega) (by omega) (ab_ln g a) (fun j => ab_rf base sp (ab_R g a j))
    have hC : ∃ C, ab_aty (ab_ty g a) = .object C := by
      rcases t34 with e | e <;> rw [e]
      · exact ⟨_, rfl⟩
      · exact ⟨_, rfl⟩
    obtain ⟨C, hC⟩ := hC
    rw [hC] at harr
    exact va_WaastN B.1 B.2.1 hc harr (fun h => by cases h) (fun q => q.elim i1 (fun q => by rw [arrV_size] at q; omega)) rfl rfl hd fin
  | some b =>
    obtain ⟨b', hb', hbt⟩ : ∃ b', some b = some b' ∧ (ab_ty g a = 3 ∧ ab_ty g b' = 17 ∨ ab_ty g a = 4 ∧ ab_ty g b' = 18) := by
      rcases hty with ⟨h, -⟩ | h
      · cases h
      · exact h
    cases hb'
    have hb32 : 29 ≤ b := by
      refine Nat.not_lt.mp fun hlt => ?_
      have h9 := (hR.2.2.2.2.1 b hlt).1
      unfold ab_ty0 at h9
      by_cases z0 : b < 4
      · rw [if_pos z0] at h9; omega
      rw [if_neg z0] at h9
      by_cases z1 : b < 8
      · rw [if_pos z1] at h9; omega
      · rw [if_neg z1] at h9
        by_cases z2 : b < 11
        · rw [if_pos z2] at h9; omega
        · rw [if_neg z2] at h9
          by_cases z3 : b < 15
          · rw [if_pos z3] at h9; omega
          · rw [if_neg z3] at h9; omega
    have e0b : ab_cv base sp (vR (some b)) = .ref (base + (b - 29)) := by show Value.ref (ab_ad base sp b) = _; rw [ab_ad_own hb32]
    have erb : ab_rf base sp (some b) = .ref (base + (b - 29)) := e0b
    simp only [List.map_cons, e0, e0b]
    rw [erb] at fin
    have go : ∀ (ci : Nat), ci < 12 → ab_ty g b = 10 + ci → ab_aty (ab_ty g a) = .object (ab_nmC ci) → W p l e R s m args below meth c H locs ce sl Qm (F0 m pc ls (.ref (base + (b - 29)) :: .int j :: .ref (base + (a - 29)) :: r.map (ab_cv base sp))) := by
      intro ci hci htb haty
      obtain ⟨cellV, g1, g2, g3, -⟩ := (hR.cell hb32 (by omega)).2.2.2.1 ci hci htb
      have hcls := (B.2.2.2.2.1.1 ci _ (ab_cls_at hci)).2
      have hra := (B.2.2.2.2.1.2 (ab_ty g a - 1) _ (ab_tys_at (by omega) (by omega))).2
      rw [haty] at hra
      obtain ⟨kA, comp, k1, k2, k3, -⟩ := hra
      have hcomp : comp = D.1 ci := Option.some.inj (k3.symm.trans hcls.1)
      subst hcomp
      obtain ⟨kC, hkC, -⟩ := hcls.2
      exact W.aast B.1 B.2.1 hc (fun q h => by cases h) (fun h => by cases h) k1 k2 rfl hkC ⟨i1, by rw [arrV_size]; exact i2⟩ g1 (fun q h => by rw [g3] at h; cases h) (by rw [g2]; exact hkC) (by rw [g2]; exact va_assign hcls) rfl rfl hd fin
    rcases hbt with ⟨ha, hb⟩ | ⟨ha, hb⟩
    · exact go 7 (by decide) hb (by rw [ha]; rfl)
    · exact go 8 (by decide) hb (by rw [ha]; rfl)
end HEAP
