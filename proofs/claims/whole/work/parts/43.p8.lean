/-! ===== rows of steps and of rules that agree where it counts ===== -/
theorem hg_ext {f f' : Nat → Int32} {n : Nat} (h : ∀ i, i < n → f' i = f i) : hg_ f' n = hg_ f n := by
  induction n with
  | zero => rfl
  | succ n ih =>
    show (hg_ f' n).bind (hs (f' n)) = (hg_ f n).bind (hs (f n))
    rw [ih fun i hi => h i (by omega), h n (by omega)]
theorem pl_ext {a b c e : Int32} {f f' : Nat → Int32} {n : Nat} (h : ∀ i, i < n → f' i = f i) : pl a b c e f' n = pl a b c e f n := by
  induction n with
  | zero => rfl
  | succ n ih =>
    show ps a b c e (f' n) (pl a b c e f' n) = ps a b c e (f n) (pl a b c e f n)
    rw [ih fun i hi => h i (by omega), h n (by omega)]
theorem ev_ext {a b c e : Int32} {f f' : Nat → Int32} {n : Nat} (h : ∀ i, i < n → f' i = f i) : ev a b c e f' n = ev a b c e f n := by
  unfold ev; rw [pl_ext h]
theorem gd_ext {f f' : Nat → Int32} {n : Nat} (h : ∀ i, i < n → f' i = f i) (q : gd f n) : gd f' n := by
  refine ⟨(hg_ext h).trans q.1, q.2.1, fun i hi => ?_⟩
  rw [h i hi]; exact q.2.2 i hi
theorem txOK_ext {g : ab_G} {I : ab_I} {t : Nat} {f f' : Nat → Int32} {n : Nat} (h : ∀ i, i < n → f' i = f i) (q : txOK g I t f n) : txOK g I t f' n := by
  obtain ⟨q1, q2, s, q3, q4, q5, q6, q7, q8⟩ := q
  refine ⟨q1, q2, s, q3, q4, q5, q6, gd_ext h q7, fun i hi => ?_⟩
  rw [h i hi]; exact q8 i hi
theorem txOK_n {g : ab_G} {I : ab_I} {t : Nat} {f : Nat → Int32} {n : Nat} (q : txOK g I t f n) : n ≤ 120 := by
  obtain ⟨q1, q2, s, q3, q4, q5, q6, q7, q8⟩ := q
  exact q7.2.1
theorem hmOK_ext {g : ab_G} {I : ab_I} {t : Nat} {co co' : Nat → Int32} (h : ∀ y, y < 250 → co' (2500 + y) = co (2500 + y)) (q : hmOK g I t co) : hmOK g I t co' := by
  obtain ⟨q1, q2, ⟨t1, q3, q4⟩, t2, q5, q6⟩ := q
  have n1 : cn co' 20 = cn co 20 := by unfold cn; rw [show 125 * 20 = 2500 + 0 from rfl, h 0 (by decide)]
  have n2 : cn co' 21 = cn co 21 := by unfold cn; rw [show 125 * 21 = 2500 + 125 from rfl, h 125 (by decide)]
  have m1 := txOK_n q4
  have m2 := txOK_n q6
  refine ⟨q1, q2, ⟨t1, q3, ?_⟩, t2, q5, ?_⟩
  · rw [n1]; exact txOK_ext (fun i hi => by unfold cr; rw [show 125 * 20 + 1 + i = 2500 + (1 + i) by omega, h _ (by omega)]) q4
  · rw [n2]; exact txOK_ext (fun i hi => by unfold cr; rw [show 125 * 21 + 1 + i = 2500 + (126 + i) by omega, h _ (by omega)]) q6
/-- rules and rows of steps agree up to rule i -/
def ag (ru co ru' co' : Nat → Int32) (i : Nat) : Prop := (∀ y, y < 4 * (i + 1) → ru' y = ru y) ∧ ∀ y, y < 125 * (i + 1) → co' y = co y
theorem ag_le {ru co ru' co' : Nat → Int32} {i j : Nat} (h : ag ru co ru' co' i) (hj : j ≤ i) : ag ru co ru' co' j := ⟨fun y hy => h.1 y (by omega), fun y hy => h.2 y (by omega)⟩
theorem cn_ag {ru co ru' co' : Nat → Int32} {i : Nat} (h : ag ru co ru' co' i) : cn co' i = cn co i := by
  unfold cn; rw [h.2 _ (by omega)]
theorem pdu_ext {ru co ru' co' : Nat → Int32} {i : Nat} (h : ag ru co ru' co' i) (w : rwOK ru co i) (s o : Int32) : pdu ru' co' i s o = pdu ru co i s o := by
  unfold pdu
  rw [h.1 (4 * i) (by omega), h.1 (4 * i + 1) (by omega), h.1 (4 * i + 2) (by omega), h.1 (4 * i + 3) (by omega)]
  by_cases k : ru (4 * i) = 6
  · have hg := (w.2.2.2.2 k).1
    rw [cn_ag h, ev_ext (f := cr co i) (f' := cr co' i) (fun j hj => by unfold cr; exact h.2 _ (by have := hg.2.1; omega))]
  · simp only [k, if_false]
theorem rwOK_ext {ru co ru' co' : Nat → Int32} {i : Nat} (h : ag ru co ru' co' i) (w : rwOK ru co i) : rwOK ru' co' i := by
  obtain ⟨w1, w2, w3, w4, w5⟩ := w
  unfold rwOK
  rw [h.1 (4 * i) (by omega), h.1 (4 * i + 1) (by omega), h.1 (4 * i + 2) (by omega), h.1 (4 * i + 3) (by omega)]
  refine ⟨w1, w2, w3, w4, fun k => ?_⟩
  have hg := w5 k
  rw [cn_ag h, h.2 (125 * i) (by omega)]
  exact ⟨gd_ext (fun j hj => by unfold cr; exact h.2 _ (by have := hg.1.2.1; omega)) hg.1, hg.2⟩
theorem du_ext {ru co ru' co' : Nat → Int32} (s o : Int32) (f : Nat) : ∀ i, ag ru co ru' co' i → (∀ j, j ≤ i → rwOK ru co j) → du ru' co' s o f i = du ru co s o f i := by
  induction f with
  | zero => intro i _ _; rfl
  | succ f ih =>
    intro i h w
    unfold du
    rw [h.1 (4 * i) (by omega), h.1 (4 * i + 1) (by omega), h.1 (4 * i + 2) (by omega), pdu_ext h (w i (Nat.le_refl i))]
    by_cases k : ru (4 * i) = 5
    · have hl := ((w i (Nat.le_refl i)).2.2.2.1 k).2.1
      rw [ih _ (ag_le h (Nat.le_of_lt hl)) fun j hj => w j (by omega)]
    · simp only [k, if_false]
theorem due_ext {ru co ru' co' : Nat → Int32} {i : Nat} (h : ag ru co ru' co' i) (w : ∀ j, j ≤ i → rwOK ru co j) (s o : Int32) : due ru' co' s o i = due ru co s o i := du_ext s o _ i h w
theorem rlOK_ext {g : ab_G} {I : ab_I} {r i : Nat} {ru co ru' co' : Nat → Int32} (h : ag ru co ru' co' i) (w : ∀ j, j ≤ i → rwOK ru co j) (q : rlOK g I r i ru co) : rlOK g I r i ru' co' := by
  obtain ⟨q1, q2, q3, ⟨a, q4, q5, q6, q7, q8⟩, ⟨b, r4, r5, r6, r7, r8⟩, q9⟩ := q
  refine ⟨q1, q2, rwOK_ext h q3, ⟨a, q4, q5, q6, q7, fun y hy => by rw [due_ext h w]; exact q8 y hy⟩, ⟨b, r4, r5, r6, r7, fun y hy => by rw [due_ext h w]; exact r8 y hy⟩, ?_⟩
  rw [h.1 (4 * i) (by omega), h.1 (4 * i + 1) (by omega), h.1 (4 * i + 2) (by omega), h.1 (4 * i + 3) (by omega)]
  exact q9
theorem stR_rw {g : ab_G} {I : ab_I} {R : Nat → Option Nat} {k : Int32} {ru co : Nat → Int32} (q : stR g I R k ru co) {i : Nat} (hi : i < k.toNatClampNeg) : rwOK ru co i := by
  obtain ⟨r, _, q2⟩ := q i hi
  exact q2.2.2.1
theorem stR_ext {g : ab_G} {I : ab_I} {R R' : Nat → Option Nat} {k : Int32} {ru co ru' co' : Nat → Int32} (hR : ∀ i, i < k.toNatClampNeg → R' i = R i) (h : ∀ i, i < k.toNatClampNeg → ag ru co ru' co' i) (q : stR g I R k ru co) : stR g I R' k ru' co' := by
  intro i hi
  obtain ⟨r, q1, q2⟩ := q i hi
  exact ⟨r, (hR i hi).trans q1, rlOK_ext (h i hi) (fun j hj => stR_rw q (by omega)) q2⟩
theorem stH_ext {g : ab_G} {I : ab_I} {o : Option Nat} {k : Int32} {co co' : Nat → Int32} (h : ∀ y, y < 250 → co' (2500 + y) = co (2500 + y)) (q : stH g I o k co) : stH g I o k co' := by
  rcases q with q | ⟨t, q1, q2, q3⟩
  · exact Or.inl q
  · exact Or.inr ⟨t, q1, q2, hmOK_ext h q3⟩
theorem stA_ext {c p q o x y e w c' p' q' o' x' y' e' w' : Nat → Int32} {k k' : Int32} {nu pr ga nu' pr' ga' : Nat → Int32} (hc : ∀ i, i < 2 → c' i = c i) (hp : ∀ i, i < 8 → p' i = p i) (hq : ∀ i, i < 8 → q' i = q i) (ho : ∀ i, i < 2 → o' i = o i) (hx : ∀ i, i < 4 → x' i = x i) (hy : ∀ i, i < 4 → y' i = y i) (he : ∀ i, i < 5 → e' i = e i) (hw : ∀ i, i < 8 → w' i = w i) (hk : k' = k) (hn : ∀ i, i < 19 → nu' i = nu i) (hpr : ∀ i, i < 16 → pr' i = pr i) (hga : ∀ i, i < 8 → ga' i = ga i)
    (h : stA c p q o x y e w k nu pr ga) : stA c' p' q' o' x' y' e' w' k' nu' pr' ga' := by
  obtain ⟨⟨⟨a1, a2, a3, a4, a5⟩, a6, a7, a8, a9, a10⟩, ⟨c1, c2, c3, c4⟩, ⟨b1, b2, b3, b4, b5, b6⟩, b7, b8⟩ := h
  refine ⟨⟨⟨?_, ?_, ?_, ?_, ?_⟩, ?_, ?_, ?_, ?_, ?_⟩, ⟨fun i hi => ⟨?_, ?_⟩, fun i hi => ?_, fun i hi => ⟨?_, ?_⟩, fun i hi => ?_⟩, ⟨fun j hj => ?_, ?_, ?_, ?_, ?_, ?_⟩, fun k hk => ?_, fun k hk => ?_⟩
  · rw [hc 0 (by decide), hn 0 (by decide)]; exact a1
  · rw [hc 1 (by decide), hn 1 (by decide)]; exact a2
  · rw [ho 0 (by decide), hn 2 (by decide)]; exact a3
  · rw [ho 1 (by decide), hn 3 (by decide)]; exact a4
  · rw [hk, hn 4 (by decide)]; exact a5
  · rw [hn 0 (by decide)]; exact a6
  · rw [hn 1 (by decide)]; exact a7
  · rw [hn 2 (by decide)]; exact a8
  · rw [hn 3 (by decide)]; exact a9
  · rw [hn 4 (by decide)]; exact a10
  · rw [hp i hi, hpr i (by omega)]; exact (c1 i hi).1
  · rw [hq i hi, hpr (8 + i) (by omega)]; exact (c1 i hi).2
  · rw [hpr i hi]; exact c2 i hi
  · rw [hx i hi, hga i (by omega)]; exact (c3 i hi).1
  · rw [hy i hi, hga (4 + i) (by omega)]; exact (c3 i hi).2
  · rw [hga i hi]; exact c4 i hi
  · rw [he j hj, hn (5 + j) (by omega)]; exact b1 j hj
  · rw [hn 5 (by decide)]; exact b2
  · rw [hn 6 (by decide)]; exact b3
  · rw [hn 7 (by decide)]; exact b4
  · rw [hn 8 (by decide)]; exact b5
  · rw [hn 9 (by decide)]; exact b6
  · rw [hw k hk, hn (11 + k) (by omega)]; exact b7 k hk
  · rw [hn (11 + k) (by omega)]; exact b8 k hk
