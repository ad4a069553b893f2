/-! ===== rows with one place changed; what single changes leave of the relation ===== -/
def fr {α : Type} (f : Nat → α) (k : Nat) (v : α) : Nat → α := fun y => if y = k then v else f y
theorem up_row {α : Type} {f : Nat → Nat → α} {a k : Nat} {v : α} : ab_up f a k v a = fr (f a) k v := by
  funext y; unfold ab_up fr; simp
theorem fr_ne {α : Type} {f : Nat → α} {k y : Nat} {v : α} (h : y ≠ k) : fr f k v y = f y := if_neg h
theorem fr_eq {α : Type} {f : Nat → α} {k : Nat} {v : α} : fr f k v k = v := if_pos rfl
theorem REL_no {SL : Nat} {xs : Nat → Int32} {g : ab_G} {I : ab_I} {J : ab_J} (h : REL SL xs g I J) {k : Nat} : REL SL xs g (ab_up (ab_up I 100 k (I 100 k + 1)) 102 k (I 102 k + 1)) J := by
  unfold REL at h ⊢
  simp (disch := decide) only [up_ne, up_row, stR_up, stH_up, caOK_up, low_up]
  obtain ⟨h1, h2, h3, ⟨h4, h5⟩, h6⟩ := h
  refine ⟨h1, h2, h3, ⟨h4, ?_⟩, h6⟩
  intro j hj
  unfold fr
  by_cases q : j = k
  · subst q; simp [h5 j hj]
  · simp [q, h5 j hj]
theorem rg_nI {x : Int32} {n : Nat} (h : rg x 0 n) : ∃ j : Nat, j ≤ n ∧ x = nI j := by
  obtain ⟨h1, h2⟩ := h
  obtain ⟨j, hj, rfl⟩ := nI_of (x := x) (by rw [Int32.lt_iff_toInt_lt]; simpa using h1)
  rw [nI_toInt hj] at h2
  exact ⟨j, by omega, rfl⟩
theorem nI_rg {j : Nat} {n : Int} (h : (j : Int) ≤ n) (h2 : j < 2 ^ 31) : rg (nI j) 0 n := by
  unfold rg; rw [nI_toInt h2]; exact ⟨by omega, h⟩
theorem rg_of {v a b : Int32} (h1 : ¬ v < a) (h2 : ¬ b < v) {x y : Int} (hx : a.toInt = x) (hy : b.toInt = y) : rg v x y := by
  rw [Int32.not_lt, Int32.le_iff_toInt_le] at h1 h2
  exact ⟨hx ▸ h1, hy ▸ h2⟩
theorem nIp {n : Nat} : nI n + 1 = nI (n + 1) := nI_1 n
theorem nIm {n : Nat} : nI (n + 1) - 1 = nI n := nI_pred n
theorem stA_care0 {c p q o x y e w : Nat → Int32} {k : Int32} {nu pr ga : Nat → Int32} (h : stA c p q o x y e w k nu pr ga) {n : Nat} (hn : n < 8) {v : Int32} (hv : rg v 0 999) : stA (fr c 0 (nI (n + 1))) (fr p n v) q o x y e w k (fr nu 0 (nI (n + 1))) (fr pr n v) ga := by
  obtain ⟨⟨⟨h1, h2, h3, h4, h5⟩, h6, h7, h8, h9, h10⟩, ⟨h11, h12, h13, h14⟩, h15, h16⟩ := h
  refine ⟨⟨⟨rfl, h2, h3, h4, h5⟩, nI_rg (by omega) (by omega), h7, h8, h9, h10⟩, ⟨fun i hi => ⟨?_, ?_⟩, fun i hi => ?_, h13, h14⟩, ⟨fun j hj => ?_, h15.2⟩, fun k hk => ?_, fun k hk => ?_⟩
  · unfold fr; rw [(h11 i hi).1]
  · rw [fr_ne (by omega)]; exact (h11 i hi).2
  · unfold fr; by_cases q : i = n <;> simp [q, hv, h12 i hi]
  · rw [fr_ne (by omega)]; exact h15.1 j hj
  · rw [fr_ne (by omega)]; exact h16.1 k hk
  · rw [fr_ne (by omega)]; exact h16.2 k hk
theorem stA_care1 {c p q o x y e w : Nat → Int32} {k : Int32} {nu pr ga : Nat → Int32} (h : stA c p q o x y e w k nu pr ga) {n : Nat} (hn : n < 8) {v : Int32} (hv : rg v 0 999) : stA (fr c 1 (nI (n + 1))) p (fr q n v) o x y e w k (fr nu 1 (nI (n + 1))) (fr pr (8 + n) v) ga := by
  obtain ⟨⟨⟨h1, h2, h3, h4, h5⟩, h6, h7, h8, h9, h10⟩, ⟨h11, h12, h13, h14⟩, h15, h16⟩ := h
  refine ⟨⟨⟨h1, rfl, h3, h4, h5⟩, h6, nI_rg (by omega) (by omega), h8, h9, h10⟩, ⟨fun i hi => ⟨?_, ?_⟩, fun i hi => ?_, h13, h14⟩, ⟨fun j hj => ?_, h15.2⟩, fun k hk => ?_, fun k hk => ?_⟩
  · rw [fr_ne (by omega)]; exact (h11 i hi).1
  · unfold fr; by_cases q : i = n
    · subst q; simp
    · rw [if_neg q, if_neg (by omega)]; exact (h11 i hi).2
  · unfold fr; by_cases q : i = 8 + n <;> simp [q, hv, h12 i hi]
  · rw [fr_ne (by omega)]; exact h15.1 j hj
  · rw [fr_ne (by omega)]; exact h16.1 k hk
  · rw [fr_ne (by omega)]; exact h16.2 k hk
theorem stA_going0 {c p q o x y e w : Nat → Int32} {k : Int32} {nu pr ga : Nat → Int32} (h : stA c p q o x y e w k nu pr ga) {n : Nat} (hn : n < 4) {v : Int32} (hv : rg v 0 9999) : stA c p q (fr o 0 (nI (n + 1))) (fr x n v) y e w k (fr nu 2 (nI (n + 1))) pr (fr ga n v) := by
  obtain ⟨⟨⟨h1, h2, h3, h4, h5⟩, h6, h7, h8, h9, h10⟩, ⟨h11, h12, h13, h14⟩, h15, h16⟩ := h
  refine ⟨⟨⟨h1, h2, rfl, h4, h5⟩, h6, h7, ⟨by rw [fr_eq, nI_toInt (by omega)]; omega, by rw [fr_eq, nI_toInt (by omega)]; omega⟩, h9, h10⟩, ⟨h11, h12, fun i hi => ⟨?_, ?_⟩, fun i hi => ?_⟩, ⟨fun j hj => ?_, h15.2⟩, fun k hk => ?_, fun k hk => ?_⟩
  · unfold fr; rw [(h13 i hi).1]
  · rw [fr_ne (by omega)]; exact (h13 i hi).2
  · unfold fr; by_cases q : i = n <;> simp [q, hv, h14 i hi]
  · rw [fr_ne (by omega)]; exact h15.1 j hj
  · rw [fr_ne (by omega)]; exact h16.1 k hk
  · rw [fr_ne (by omega)]; exact h16.2 k hk
theorem stA_going1 {c p q o x y e w : Nat → Int32} {k : Int32} {nu pr ga : Nat → Int32} (h : stA c p q o x y e w k nu pr ga) {n : Nat} (hn : n < 4) {v : Int32} (hv : rg v 0 9999) : stA c p q (fr o 1 (nI (n + 1))) x (fr y n v) e w k (fr nu 3 (nI (n + 1))) pr (fr ga (4 + n) v) := by
  obtain ⟨⟨⟨h1, h2, h3, h4, h5⟩, h6, h7, h8, h9, h10⟩, ⟨h11, h12, h13, h14⟩, h15, h16⟩ := h
  refine ⟨⟨⟨h1, h2, h3, rfl, h5⟩, h6, h7, h8, ⟨by rw [fr_eq, nI_toInt (by omega)]; omega, by rw [fr_eq, nI_toInt (by omega)]; omega⟩, h10⟩, ⟨h11, h12, fun i hi => ⟨?_, ?_⟩, fun i hi => ?_⟩, ⟨fun j hj => ?_, h15.2⟩, fun k hk => ?_, fun k hk => ?_⟩
  · rw [fr_ne (by omega)]; exact (h13 i hi).1
  · unfold fr; by_cases q : i = n
    · subst q; simp
    · rw [if_neg q, if_neg (by omega)]; exact (h13 i hi).2
  · unfold fr; by_cases q : i = 4 + n <;> simp [q, hv, h14 i hi]
  · rw [fr_ne (by omega)]; exact h15.1 j hj
  · rw [fr_ne (by omega)]; exact h16.1 k hk
  · rw [fr_ne (by omega)]; exact h16.2 k hk
