/-! ===== texts read: what stands afterwards ===== -/
theorem stA_10 {c p q o x y e w nu pr ga nu' : Nat → Int32} {k : Int32} (h : stA c p q o x y e w k nu pr ga) (hn : ∀ i, i ≠ 10 → nu' i = nu i) : stA c p q o x y e w k nu' pr ga := by
  obtain ⟨⟨⟨a1, a2, a3, a4, a5⟩, a6, a7, a8, a9, a10⟩, b, ⟨c1, c2, c3, c4, c5, c6⟩, d1, d2⟩ := h
  refine ⟨⟨⟨?_, ?_, ?_, ?_, ?_⟩, ?_, ?_, ?_, ?_, ?_⟩, b, ⟨fun j hj => ?_, ?_, ?_, ?_, ?_, ?_⟩, fun j hj => ?_, fun j hj => ?_⟩
  iterate 10 (rw [hn _ (by decide)]; assumption)
  · rw [hn _ (by omega)]; exact c1 j hj
  iterate 5 (rw [hn _ (by decide)]; assumption)
  · rw [hn _ (by omega)]; exact d1 j hj
  · rw [hn _ (by omega)]; exact d2 j hj
theorem REL_gen {SL : Nat} {xs : Nat → Int32} {g g' : ab_G} {I I' : ab_I} {J J' : ab_J} (hR : REL SL xs g I J) (hgx : gx g') (h0 : ∀ k, ab_n g' ≤ k → ab_ty g' k = 0) (hty : ∀ k, k < ab_n g → ab_ty g' k = ab_ty g k ∧ ab_ln g' k = ab_ln g k) (hRR : ∀ k f, k < ab_n g → ¬ (k = 30 ∧ f = 8) → ab_R g' k f = ab_R g k f) (hI : ∀ k, k < ab_n g → k ∉ scI → k ≠ 54 → k ≠ 101 → k ≠ 103 → k ≠ 107 → I' k = I k) (h1 : ∀ y, y ∉ scF → y ≠ 13 → I' 101 y = I 101 y) (htp : (I' 54 1 = I 54 1 ∧ I' 101 13 = I 101 13) ∨ (I' 54 1 = 0 ∧ I' 101 13 = 0)) (h103 : ∀ y, y ≠ 10 → I' 103 y = I 103 y) (h107 : ∀ y, y < 125 * (I 103 4).toNatClampNeg → I' 107 y = I 107 y) (hH : stH g' I' (ab_R g' 30 8) (I' 103 10) (I' 107)) (hJ : ∀ k, k < ab_n g → k ∉ scJ → J' k = J k) : REL SL xs g' I' J' := by
  have hn : 128 ≤ ab_n g := hR.1.1.2.2
  obtain ⟨⟨a1, a2, a3, a4, a5⟩, ⟨b1, b2, b3⟩, ⟨c1, c2, c3⟩, ⟨d1, d2⟩, e1, f1⟩ := hR
  have hrow : ∀ k, k < ab_n g → k ≠ 30 → ab_R g' k = ab_R g k := fun k hk h => funext fun f => hRR k f hk (fun e => h e.1)
  have hx : ∀ a : Nat, 128 ≤ a → a ∉ scI := fun a ha => by unfold scI; simp only [List.mem_cons, List.not_mem_nil, or_false]; omega
  have he : ex g g' I I' := fun k hk ht => by
    have hl : k < ab_n g := Nat.lt_of_not_le fun z => ht (a2 k z)
    exact ⟨(hty k hl).1, (hty k hl).2, fun f => hRR k f hl (by omega), hI k hl (hx k hk) (by omega) (by omega) (by omega) (by omega)⟩
  have hi : ∀ k, k < 128 → k ∉ scI → k ≠ 54 → k ≠ 101 → k ≠ 103 → k ≠ 107 → I' k = I k := fun k hk => hI k (by omega)
  unfold REL
  rw [hrow 41 (by omega) (by decide), hrow 53 (by omega) (by decide), hrow 42 (by omega) (by decide), hrow 61 (by omega) (by decide)]
  rw [hi 31 (by decide) (by decide) (by decide) (by decide) (by decide) (by decide), hi 33 (by decide) (by decide) (by decide) (by decide) (by decide) (by decide), hi 34 (by decide) (by decide) (by decide) (by decide) (by decide) (by decide), hi 35 (by decide) (by decide) (by decide) (by decide) (by decide) (by decide), hi 37 (by decide) (by decide) (by decide) (by decide) (by decide) (by decide), hi 38 (by decide) (by decide) (by decide) (by decide) (by decide) (by decide), hi 39 (by decide) (by decide) (by decide) (by decide) (by decide) (by decide), hi 40 (by decide) (by decide) (by decide) (by decide) (by decide) (by decide), hi 30 (by decide) (by decide) (by decide) (by decide) (by decide) (by decide), hi 104 (by decide) (by decide) (by decide) (by decide) (by decide) (by decide), hi 105 (by decide) (by decide) (by decide) (by decide) (by decide) (by decide), hi 106 (by decide) (by decide) (by decide) (by decide) (by decide) (by decide), hi 29 (by decide) (by decide) (by decide) (by decide) (by decide) (by decide), hi 43 (by decide) (by decide) (by decide) (by decide) (by decide) (by decide), hi 45 (by decide) (by decide) (by decide) (by decide) (by decide) (by decide), hi 46 (by decide) (by decide) (by decide) (by decide) (by decide) (by decide), hi 47 (by decide) (by decide) (by decide) (by decide) (by decide) (by decide), hi 49 (by decide) (by decide) (by decide) (by decide) (by decide) (by decide), hi 50 (by decide) (by decide) (by decide) (by decide) (by decide) (by decide), hi 51 (by decide) (by decide) (by decide) (by decide) (by decide) (by decide), hi 52 (by decide) (by decide) (by decide) (by decide) (by decide) (by decide), hi 42 (by decide) (by decide) (by decide) (by decide) (by decide) (by decide), hi 108 (by decide) (by decide) (by decide) (by decide) (by decide) (by decide), hi 109 (by decide) (by decide) (by decide) (by decide) (by decide) (by decide), hi 110 (by decide) (by decide) (by decide) (by decide) (by decide) (by decide), hi 111 (by decide) (by decide) (by decide) (by decide) (by decide) (by decide), hi 112 (by decide) (by decide) (by decide) (by decide) (by decide) (by decide), hi 55 (by decide) (by decide) (by decide) (by decide) (by decide) (by decide), hi 113 (by decide) (by decide) (by decide) (by decide) (by decide) (by decide), hi 100 (by decide) (by decide) (by decide) (by decide) (by decide) (by decide), hi 102 (by decide) (by decide) (by decide) (by decide) (by decide) (by decide), hi 92 (by decide) (by decide) (by decide) (by decide) (by decide) (by decide), hi 94 (by decide) (by decide) (by decide) (by decide) (by decide) (by decide), hi 96 (by decide) (by decide) (by decide) (by decide) (by decide) (by decide), hi 98 (by decide) (by decide) (by decide) (by decide) (by decide) (by decide), hi 125 (by decide) (by decide) (by decide) (by decide) (by decide) (by decide), hi 126 (by decide) (by decide) (by decide) (by decide) (by decide) (by decide), hi 61 (by decide) (by decide) (by decide) (by decide) (by decide) (by decide), hi 62 (by decide) (by decide) (by decide) (by decide) (by decide) (by decide), hi 63 (by decide) (by decide) (by decide) (by decide) (by decide) (by decide), hi 64 (by decide) (by decide) (by decide) (by decide) (by decide) (by decide), hi 65 (by decide) (by decide) (by decide) (by decide) (by decide) (by decide), h1 11 (by decide) (by decide), hJ 93 (by omega) (by decide), hJ 95 (by omega) (by decide), hJ 97 (by omega) (by decide), hJ 99 (by omega) (by decide), hJ 127 (by omega) (by decide)]
  refine ⟨⟨hgx, h0, fun k hk => ?_, ex_roK he a4, ex_roK he a5⟩, ⟨stA_10 b1 h103, ?_, hH⟩, ⟨c1, c2, fun q => ⟨(c3 q).1, ex_stR he (c3 q).2.1, ex_stH he (c3 q).2.2⟩⟩, ⟨?_, d2⟩, e1, ex_caOK he f1⟩
  · rw [hi k (by omega) (by unfold scI; simp only [List.mem_cons, List.not_mem_nil, or_false]; omega) (by omega) (by omega) (by omega) (by omega), hrow k (by omega) (by omega), (hty k (by omega)).1, (hty k (by omega)).2]
    exact a3 k hk
  · rw [h103 4 (by decide)]
    exact stR_ext (fun _ _ => rfl) (fun i hi => ⟨fun y _ => rfl, fun y hy => h107 y (by omega)⟩) (ex_stR he b2)
  · rcases htp with ⟨q1, q2⟩ | ⟨q1, q2⟩
    · rw [q1, q2]; exact d1
    · rw [q1, q2]; exact ⟨rfl, ⟨by decide, by decide⟩, d1.2.2⟩
theorem tk_pays {n : Nat} {x : Nat × Nat × Int32 × Int32} (h : tOK n x) : (tkT x.2.2.1 x.2.2.2 = -7) = (x.2.2.1 = 1 ∧ x.2.2.2 = 316351) := by
  apply propext
  unfold tkT
  rcases h.2.2.2 with ⟨q, _⟩ | ⟨_, q | ⟨q, _⟩ | ⟨q, q2⟩⟩
  · rw [if_pos q, q]; exact ⟨fun e => absurd e (by decide), fun e => absurd e.1 (by decide)⟩
  · rw [q, if_neg (by decide), if_pos rfl]
    constructor
    · intro e; revert e
      split
      · intro e; exact absurd e (by decide)
      · split
        · intro e; exact absurd e (by decide)
        · split
          · intro e; exact absurd e (by decide)
          · split
            · rename_i k; intro _; exact ⟨rfl, k⟩
            · intro e; exact absurd e (by decide)
    · intro e; rw [e.2]; decide
  · rw [q, if_neg (by decide), if_neg (by decide), if_pos rfl]
    refine ⟨fun e => ?_, fun e => absurd e.1 (by decide)⟩
    exfalso; revert e
    split <;> decide
  · rw [q, if_neg (by decide), if_neg (by decide), if_neg (by decide)]
    exact ⟨fun e => absurd (sg_ne q2 (-7) (by decide) e) (by decide), fun e => absurd e.1 (by decide)⟩
theorem tk_chance {n : Nat} {x : Nat × Nat × Int32 × Int32} (h : tOK n x) : (tkT x.2.2.1 x.2.2.2 = -5) = (x.2.2.1 = 1 ∧ x.2.2.2 = 47328224) := by
  apply propext
  unfold tkT
  rcases h.2.2.2 with ⟨q, _⟩ | ⟨_, q | ⟨q, _⟩ | ⟨q, q2⟩⟩
  · rw [if_pos q, q]; exact ⟨fun e => absurd e (by decide), fun e => absurd e.1 (by decide)⟩
  · rw [q, if_neg (by decide), if_pos rfl]
    constructor
    · intro e; revert e
      split
      · intro e; exact absurd e (by decide)
      · split
        · rename_i k; intro _; exact ⟨rfl, k⟩
        · split
          · intro e; exact absurd e (by decide)
          · split
            · intro e; exact absurd e (by decide)
            · intro e; exact absurd e (by decide)
    · intro e; rw [e.2]; decide
  · rw [q, if_neg (by decide), if_neg (by decide), if_pos rfl]
    refine ⟨fun e => ?_, fun e => absurd e.1 (by decide)⟩
    exfalso; revert e
    split <;> decide
  · rw [q, if_neg (by decide), if_neg (by decide), if_neg (by decide)]
    exact ⟨fun e => absurd (sg_ne q2 (-5) (by decide) e) (by decide), fun e => absurd e.1 (by decide)⟩
theorem tk_size {n : Nat} {x : Nat × Nat × Int32 × Int32} (h : tOK n x) : (tkT x.2.2.1 x.2.2.2 = -6) = (x.2.2.1 = 1 ∧ x.2.2.2 = 381245) := by
  apply propext
  unfold tkT
  rcases h.2.2.2 with ⟨q, _⟩ | ⟨_, q | ⟨q, _⟩ | ⟨q, q2⟩⟩
  · rw [if_pos q, q]; exact ⟨fun e => absurd e (by decide), fun e => absurd e.1 (by decide)⟩
  · rw [q, if_neg (by decide), if_pos rfl]
    constructor
    · intro e; revert e
      split
      · intro e; exact absurd e (by decide)
      · split
        · intro e; exact absurd e (by decide)
        · split
          · rename_i k; intro _; exact ⟨rfl, k⟩
          · split
            · intro e; exact absurd e (by decide)
            · intro e; exact absurd e (by decide)
    · intro e; rw [e.2]; decide
  · rw [q, if_neg (by decide), if_neg (by decide), if_pos rfl]
    refine ⟨fun e => ?_, fun e => absurd e.1 (by decide)⟩
    exfalso; revert e
    split <;> decide
  · rw [q, if_neg (by decide), if_neg (by decide), if_neg (by decide)]
    exact ⟨fun e => absurd (sg_ne q2 (-6) (by decide) e) (by decide), fun e => absurd e.1 (by decide)⟩
/-- heights behind a row of steps, by the row -/
theorem hg_hL {f : Nat → Int32} (l : List Int32) (h : ∀ j, j < l.length → f j = tr (l.getD j 0)) : ∀ k, k ≤ l.length → hg_ f k = hL (l.take k) (some 0) := by
  intro k
  induction k with
  | zero => intro _; rfl
  | succ k ih =>
    intro hk
    show (hg_ f k).bind (hs (f k)) = _
    rw [ih (by omega), h k (by omega)]
    have e : l.take (k + 1) = l.take k ++ [l.getD k 0] := by
      rw [List.take_succ_eq_append_getElem (by omega), List.getD_eq_getElem?_getD, List.getElem?_eq_getElem (by omega)]; rfl
    rw [e, hL_app]
    rfl
/-- a text that was taken is a good row of steps -/
theorem gd_lev {b : Nat → Int32} {n : Nat} (hn : n ≤ 120) {x : Nat × Nat × Int32 × Int32} (hx : tOK n x) (ok : ((lev b n 8).1 x).1 = true) {f : Nat → Int32} (h : ∀ j, j < ((lev b n 8).1 x).2.2.length → f j = tr (((lev b n 8).1 x).2.2.getD j 0)) : gd f ((lev b n 8).1 x).2.2.length := by
  have g1 := (GD_lev (b := b) hn 8).1 x hx
  refine ⟨?_, ?_, fun i hi => ?_⟩
  · rw [hg_hL _ h _ (Nat.le_refl _), List.take_length]
    exact (g1.2 ok).2 0
  · have := g1.1.2.1; have := g1.1.1.1; omega
  · rw [h i hi]
    have hc := g1.1.2.2 _ (show ((lev b n 8).1 x).2.2.getD i 0 ∈ ((lev b n 8).1 x).2.2 by rw [List.getD_eq_getElem?_getD, List.getElem?_eq_getElem hi]; exact List.getElem_mem hi)
    generalize ((lev b n 8).1 x).2.2.getD i 0 = c at hc
    by_cases c4 : c < -4
    · by_cases c5 : c = -5
      · rw [c5]; decide
      · rcases sg6 c4 c5 hc with rfl | rfl | rfl | rfl | rfl | rfl <;> decide
    · have c4' : -4 ≤ c := Int32.not_lt.mp c4
      rw [tr_ge c4']; exact Or.inl c4'
