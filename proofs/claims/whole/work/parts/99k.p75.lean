/-! ===== what constructors make ===== -/
def lk (l : List (Nat × Int32)) (y : Nat) : Int32 := match l with | [] => 0 | e :: r => if y = e.1 then e.2 else lk r y
def lkR (l : List (Nat × Nat)) (y : Nat) : Option Nat := match l with | [] => none | e :: r => if y = e.1 then some e.2 else lkR r y
/-- cells N .. n were made: their types and lengths, their references, their ints, which hold no long -/
def al (N n : Nat) (tb : List (Nat × Nat × Nat)) (rv : List (Nat × List (Nat × Nat))) (iv : List (Nat × List (Nat × Int32))) (jz : List Nat) (g g' : ab_G) (I I' : ab_I) (J J' : ab_J) : Prop :=
  (ab_n g' = n ∧ N ≤ n) ∧ (∀ k, k < N → ab_ty g' k = ab_ty g k ∧ ab_ln g' k = ab_ln g k ∧ ab_R g' k = ab_R g k ∧ I' k = I k ∧ J' k = J k) ∧ (∀ k, n ≤ k → ab_ty g' k = ab_ty g k) ∧ (∀ q, q ∈ tb → q.1 < n ∧ ab_ty g' q.1 = q.2.1 ∧ ab_ln g' q.1 = q.2.2) ∧ (∀ q, q ∈ rv → q.1 < n ∧ ∀ f, ab_R g' q.1 f = lkR q.2 f) ∧ (∀ q, q ∈ iv → q.1 < n ∧ ∀ y, I' q.1 y = lk q.2 y) ∧ ∀ q, q ∈ jz → q < n ∧ ∀ y, J' q y = 0
section P75
variable {N n : Nat} {tb : List (Nat × Nat × Nat)} {rv : List (Nat × List (Nat × Nat))} {iv : List (Nat × List (Nat × Int32))} {jz : List Nat} {g g' : ab_G} {I I' : ab_I} {J J' : ab_J}
theorem al_refl (h : ab_n g = N) : al N N [] [] [] [] g g I I J J := ⟨⟨h, Nat.le_refl _⟩, fun _ _ => ⟨rfl, rfl, rfl, rfl, rfl⟩, fun _ _ => rfl, fun _ h => absurd h List.not_mem_nil, fun _ h => absurd h List.not_mem_nil, fun _ h => absurd h List.not_mem_nil, fun _ h => absurd h List.not_mem_nil⟩
theorem al_mk {t l : Nat} (h : al N n tb rv iv jz g g' I I' J J') : al N (n + 1) ((n, t, l) :: tb) ((n, []) :: rv) ((n, []) :: iv) (n :: jz) g (ab_mk g' t l) I (ab_z I' (ab_n g') (ab_n g' + 1) 0) J (ab_z J' (ab_n g') (ab_n g' + 1) 0) := by
  obtain ⟨⟨h1, h2⟩, h3, h4, h5, h6, h7, h8⟩ := h
  refine ⟨⟨by rw [n_mk, h1], by omega⟩, fun k hk => ⟨?_, ?_, ?_, ?_, ?_⟩, fun k hk => ?_, fun q hq => ?_, fun q hq => ?_, fun q hq => ?_, fun q hq => ?_⟩
  · rw [ty_mk, if_neg (by omega)]; exact (h3 k hk).1
  · rw [ln_mk, if_neg (by omega)]; exact (h3 k hk).2.1
  · rw [R_mk_ne (by omega)]; exact (h3 k hk).2.2.1
  · rw [z_ne (by omega)]; exact (h3 k hk).2.2.2.1
  · rw [z_ne (by omega)]; exact (h3 k hk).2.2.2.2
  · rw [ty_mk, if_neg (by omega)]; exact h4 k (by omega)
  · rcases List.mem_cons.mp hq with rfl | hq
    · exact ⟨by simp, by rw [ty_mk, if_pos h1.symm], by rw [ln_mk, if_pos h1.symm]⟩
    · have := h5 q hq
      exact ⟨by omega, by rw [ty_mk, if_neg (by omega)]; exact this.2.1, by rw [ln_mk, if_neg (by omega)]; exact this.2.2⟩
  · rcases List.mem_cons.mp hq with rfl | hq
    · refine ⟨by simp, fun f => ?_⟩
      show (if n = g'.1 then none else g'.2.2.2 n f) = _
      exact if_pos h1.symm
    · have := h6 q hq
      exact ⟨by omega, fun f => by rw [R_mk_ne (by omega)]; exact this.2 f⟩
  · rcases List.mem_cons.mp hq with rfl | hq
    · refine ⟨by simp, fun y => ?_⟩
      unfold ab_z; rw [if_pos (by simp only []; omega)]; rfl
    · have := h7 q hq
      exact ⟨by omega, fun y => by rw [z_ne (by omega)]; exact this.2 y⟩
  · rcases List.mem_cons.mp hq with rfl | hq
    · refine ⟨by omega, fun y => ?_⟩
      unfold ab_z; rw [if_pos (by omega)]
    · have := h8 q hq
      exact ⟨by omega, fun y => by rw [z_ne (by omega)]; exact this.2 y⟩
theorem al_mk2 {t t1 a m : Nat} {rw' : List (Nat × Nat)} {tn : List (Nat × Nat × Nat)} {rn : List (Nat × List (Nat × Nat))} {jn' : List Nat} {vn : List (Nat × List (Nat × Int32))} (h : al N n tb rv iv jz g g' I I' J J') (hr : ∀ f, lkR rw' f = if f < a then some (n + 1 + f) else none) (ht : ∀ q, q ∈ tn → n < q.1 ∧ q.1 < n + 1 + a ∧ q.2.1 = t1 ∧ q.2.2 = m) (hrn : ∀ q, q ∈ rn → n < q.1 ∧ q.1 < n + 1 + a ∧ q.2 = []) (hvn : ∀ q, q ∈ vn → n ≤ q.1 ∧ q.1 < n + 1 + a ∧ q.2 = []) (hjn : ∀ q, q ∈ jn' → n ≤ q ∧ q < n + 1 + a) : al N (n + 1 + a) ((n, t, a) :: tn ++ tb) ((n, rw') :: rn ++ rv) (vn ++ iv) (jn' ++ jz) g (ab_mk2 g' t t1 a m) I (ab_z I' (ab_n g') (ab_n g' + 1 + a) 0) J (ab_z J' (ab_n g') (ab_n g' + 1 + a) 0) := by
  obtain ⟨⟨h1, h2⟩, h3, h4, h5, h6, h7, h8⟩ := h
  have e1 : g'.1 = n := h1
  have T : ∀ k, ab_ty (ab_mk2 g' t t1 a m) k = if k = n then t else if n < k ∧ k < n + 1 + a then t1 else ab_ty g' k := fun k => by rw [← e1]; rfl
  have LN : ∀ k, ab_ln (ab_mk2 g' t t1 a m) k = if k = n then a else if n < k ∧ k < n + 1 + a then m else ab_ln g' k := fun k => by rw [← e1]; rfl
  have RR : ∀ k f, ab_R (ab_mk2 g' t t1 a m) k f = if k = n then (if f < a then some (n + 1 + f) else none) else if n < k ∧ k < n + 1 + a then none else ab_R g' k f := fun k f => by rw [← e1]; rfl
  refine ⟨⟨by show g'.1 + 1 + a = _; rw [e1], by omega⟩, fun k hk => ⟨?_, ?_, ?_, ?_, ?_⟩, fun k hk => ?_, fun q hq => ?_, fun q hq => ?_, fun q hq => ?_, fun q hq => ?_⟩
  · rw [T, if_neg (by omega), if_neg (by omega)]; exact (h3 k hk).1
  · rw [LN, if_neg (by omega), if_neg (by omega)]; exact (h3 k hk).2.1
  · funext f; rw [RR, if_neg (by omega), if_neg (by omega), (h3 k hk).2.2.1]
  · rw [z_ne (by omega)]; exact (h3 k hk).2.2.2.1
  · rw [z_ne (by omega)]; exact (h3 k hk).2.2.2.2
  · rw [T, if_neg (by omega), if_neg (by omega)]; exact h4 k (by omega)
  · rcases List.mem_append.mp hq with hq | hq
    · rcases List.mem_cons.mp hq with rfl | hq
      · exact ⟨by show n < n + 1 + a; omega, by rw [T, if_pos rfl], by rw [LN, if_pos rfl]⟩
      · have := ht q hq
        exact ⟨by omega, by rw [T, if_neg (by omega), if_pos (by omega)]; exact this.2.2.1.symm, by rw [LN, if_neg (by omega), if_pos (by omega)]; exact this.2.2.2.symm⟩
    · have := h5 q hq
      exact ⟨by omega, by rw [T, if_neg (by omega), if_neg (by omega)]; exact this.2.1, by rw [LN, if_neg (by omega), if_neg (by omega)]; exact this.2.2⟩
  · rcases List.mem_append.mp hq with hq | hq
    · rcases List.mem_cons.mp hq with rfl | hq
      · exact ⟨by show n < n + 1 + a; omega, fun f => by rw [RR, if_pos rfl]; exact (hr f).symm⟩
      · have := hrn q hq
        exact ⟨by omega, fun f => by rw [RR, if_neg (by omega), if_pos (by omega), this.2.2]; rfl⟩
    · have := h6 q hq
      exact ⟨by omega, fun f => by rw [RR, if_neg (by omega), if_neg (by omega)]; exact this.2 f⟩
  · rcases List.mem_append.mp hq with hq | hq
    · have := hvn q hq
      refine ⟨by omega, fun y => ?_⟩
      unfold ab_z; rw [if_pos (by omega), this.2.2]; rfl
    · have := h7 q hq
      exact ⟨by omega, fun y => by rw [z_ne (by omega)]; exact this.2 y⟩
  · rcases List.mem_append.mp hq with hq | hq
    · have := hjn q hq
      refine ⟨by omega, fun y => ?_⟩
      unfold ab_z; rw [if_pos (by omega)]
    · have := h8 q hq
      exact ⟨by omega, fun y => by rw [z_ne (by omega)]; exact this.2 y⟩
theorem al_set {a f o : Nat} {l : List (Nat × Nat)} (h : al N n tb rv iv jz g g' I I' J J') (ha : N ≤ a) (hm : (a, l) ∈ rv) : al N n tb ((a, (f, o) :: l) :: rv.filter (fun q => decide (q.1 ≠ a))) iv jz g (ab_setR g' a f (some o)) I I' J J' := by
  obtain ⟨⟨h1, h2⟩, h3, h4, h5, h6, h7, h8⟩ := h
  refine ⟨⟨by rw [n_set]; exact h1, h2⟩, fun k hk => ⟨?_, ?_, ?_, (h3 k hk).2.2.2⟩, fun k hk => ?_, fun q hq => ?_, fun q hq => ?_, h7, h8⟩
  · exact (h3 k hk).1
  · exact (h3 k hk).2.1
  · rw [R_set_ne (by omega)]; exact (h3 k hk).2.2.1
  · exact h4 k hk
  · exact h5 q hq
  · rcases List.mem_cons.mp hq with rfl | hq
    · have := h6 _ hm
      refine ⟨this.1, fun y => ?_⟩
      rw [R_set_row]
      show fr _ _ _ _ = if y = f then some o else lkR l y
      unfold fr
      by_cases e : y = f
      · rw [if_pos e, if_pos e]
      · rw [if_neg e, if_neg e]; exact this.2 y
    · obtain ⟨q1, q2⟩ := List.mem_filter.mp hq
      have e : q.1 ≠ a := of_decide_eq_true q2
      exact ⟨(h6 q q1).1, fun y => by rw [R_set_ne e]; exact (h6 q q1).2 y⟩
/-- nothing is put where nothing is -/
theorem al_set0 {a f : Nat} {l : List (Nat × Nat)} (h : al N n tb rv iv jz g g' I I' J J') (ha : N ≤ a) (hm : (a, l) ∈ rv) (hl : lkR l f = none) : al N n tb rv iv jz g (ab_setR g' a f none) I I' J J' := by
  have hz : ab_setR g' a f none = g' := by
    obtain ⟨m, T, LN, R⟩ := g'
    have e := (h.2.2.2.2.1 _ hm).2 f
    rw [hl] at e
    have e : R a f = none := e
    show (m, T, LN, ab_up R a f none) = _
    congr 3
    funext x y
    unfold ab_up
    by_cases k : x = a ∧ y = f
    · rw [if_pos k, k.1, k.2]; exact e.symm
    · rw [if_neg k]
  rw [hz]; exact h
theorem al_up {a k : Nat} {v : Int32} {l : List (Nat × Int32)} (h : al N n tb rv iv jz g g' I I' J J') (ha : N ≤ a) (hm : (a, l) ∈ iv) : al N n tb rv ((a, (k, v) :: l) :: iv.filter (fun q => decide (q.1 ≠ a))) jz g g' I (ab_up I' a k v) J J' := by
  obtain ⟨⟨h1, h2⟩, h3, h4, h5, h6, h7, h8⟩ := h
  refine ⟨⟨h1, h2⟩, fun k hk => ⟨(h3 k hk).1, (h3 k hk).2.1, (h3 k hk).2.2.1, ?_, (h3 k hk).2.2.2.2⟩, h4, h5, h6, fun q hq => ?_, h8⟩
  · rw [up_ne (by omega)]; exact (h3 k hk).2.2.2.1
  · rcases List.mem_cons.mp hq with rfl | hq
    · have := h7 _ hm
      refine ⟨this.1, fun y => ?_⟩
      rw [up_row]
      show fr _ _ _ _ = if y = k then v else lk l y
      unfold fr
      by_cases e : y = k
      · rw [if_pos e, if_pos e]
      · rw [if_neg e, if_neg e]; exact this.2 y
    · obtain ⟨q1, q2⟩ := List.mem_filter.mp hq
      have e : q.1 ≠ a := of_decide_eq_true q2
      exact ⟨(h7 q q1).1, fun y => by rw [up_ne e]; exact (h7 q q1).2 y⟩
theorem al_upJ {a k : Nat} {v : Int64} (h : al N n tb rv iv jz g g' I I' J J') (ha : N ≤ a) : al N n tb rv iv (jz.filter (fun q => decide (q ≠ a))) g g' I I' J (ab_up J' a k v) := by
  obtain ⟨⟨h1, h2⟩, h3, h4, h5, h6, h7, h8⟩ := h
  refine ⟨⟨h1, h2⟩, fun k hk => ⟨(h3 k hk).1, (h3 k hk).2.1, (h3 k hk).2.2.1, (h3 k hk).2.2.2.1, ?_⟩, h4, h5, h6, h7, fun q hq => ?_⟩
  · rw [up_ne (by omega)]; exact (h3 k hk).2.2.2.2
  · obtain ⟨q1, q2⟩ := List.mem_filter.mp hq
    have e : q ≠ a := of_decide_eq_true q2
    exact ⟨(h8 q q1).1, fun y => by rw [up_ne e]; exact (h8 q q1).2 y⟩
theorem al_trans {m : Nat} {tb' : List (Nat × Nat × Nat)} {rv' : List (Nat × List (Nat × Nat))} {iv' : List (Nat × List (Nat × Int32))} {jz' : List Nat} {g'' : ab_G} {I'' : ab_I} {J'' : ab_J} (h : al N n tb rv iv jz g g' I I' J J') (k : al n m tb' rv' iv' jz' g' g'' I' I'' J' J'') : al N m (tb' ++ tb) (rv' ++ rv) (iv' ++ iv) (jz' ++ jz) g g'' I I'' J J'' := by
  obtain ⟨⟨h1, h2⟩, h3, h4, h5, h6, h7, h8⟩ := h
  obtain ⟨⟨k1, k2⟩, k3, k4, k5, k6, k7, k8⟩ := k
  refine ⟨⟨k1, by omega⟩, fun q hq => ?_, fun q hq => ?_, fun q hq => ?_, fun q hq => ?_, fun q hq => ?_, fun q hq => ?_⟩
  · have a := h3 q hq
    have c := k3 q (by omega)
    exact ⟨c.1.trans a.1, c.2.1.trans a.2.1, c.2.2.1.trans a.2.2.1, c.2.2.2.1.trans a.2.2.2.1, c.2.2.2.2.trans a.2.2.2.2⟩
  · rw [k4 q hq]; exact h4 q (by omega)
  · rcases List.mem_append.mp hq with hq | hq
    · exact k5 q hq
    · have a := h5 q hq
      exact ⟨by omega, (k3 q.1 a.1).1.trans a.2.1, (k3 q.1 a.1).2.1.trans a.2.2⟩
  · rcases List.mem_append.mp hq with hq | hq
    · exact k6 q hq
    · have a := h6 q hq
      exact ⟨by omega, fun f => by rw [(k3 q.1 a.1).2.2.1]; exact a.2 f⟩
  · rcases List.mem_append.mp hq with hq | hq
    · exact k7 q hq
    · have a := h7 q hq
      exact ⟨by omega, fun f => by rw [(k3 q.1 a.1).2.2.2.1]; exact a.2 f⟩
  · rcases List.mem_append.mp hq with hq | hq
    · exact k8 q hq
    · have a := h8 q hq
      exact ⟨by omega, fun f => by rw [(k3 q a.1).2.2.2.2]; exact a.2 f⟩
theorem al_ty {a t l : Nat} (h : al N n tb rv iv jz g g' I I' J J') (hm : (a, t, l) ∈ tb) : ab_ty g' a = t ∧ ab_ln g' a = l := (h.2.2.2.1 _ hm).2
theorem al_R {a f o : Nat} {l : List (Nat × Nat)} (h : al N n tb rv iv jz g g' I I' J J') (hm : (a, l) ∈ rv) (e : lkR l f = some o) : ab_R g' a f = some o := ((h.2.2.2.2.1 _ hm).2 f).trans e
/-- the same facts, in another order -/
theorem al_sub {tb' : List (Nat × Nat × Nat)} {rv' : List (Nat × List (Nat × Nat))} {iv' : List (Nat × List (Nat × Int32))} {jz' : List Nat} (h : al N n tb rv iv jz g g' I I' J J') (a : ∀ q, q ∈ tb' → q ∈ tb) (b : ∀ q, q ∈ rv' → q ∈ rv) (c : ∀ q, q ∈ iv' → q ∈ iv) (d : ∀ q, q ∈ jz' → q ∈ jz) : al N n tb' rv' iv' jz' g g' I I' J J' := ⟨h.1, h.2.1, h.2.2.1, fun q hq => h.2.2.2.1 q (a q hq), fun q hq => h.2.2.2.2.1 q (b q hq), fun q hq => h.2.2.2.2.2.1 q (c q hq), fun q hq => h.2.2.2.2.2.2 q (d q hq)⟩
end P75
