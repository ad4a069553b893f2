/-! ===== what both parsers take: the texts ===== -/
def nx (b : Nat → Int32) (n : Nat) (x : Nat × Nat × Int32 × Int32) : Nat × Nat × Int32 × Int32 := aM b n x.2.1
def sB (x : Nat × Nat × Int32 × Int32) (s : Int32) : Bool := decide (x.2.2.1 = 3) && decide (x.2.2.2 = s)
theorem sB_iff {x : Nat × Nat × Int32 × Int32} {s : Int32} : sB x s = true ↔ x.2.2.1 = 3 ∧ x.2.2.2 = s := by unfold sB; simp
def oneF (b : Nat → Int32) (n : Nat) (l : Option ((Nat × Nat × Int32 × Int32 → Bool × (Nat × Nat × Int32 × Int32) × List Int32) × (Nat × Nat × Int32 × Int32 → Bool × (Nat × Nat × Int32 × Int32) × List Int32))) (x : Nat × Nat × Int32 × Int32) : Bool × (Nat × Nat × Int32 × Int32) × List Int32 :=
  if sB x 40 = true then (match l with | none => (false, x, []) | some p => if (p.1 (nx b n x)).1 = true then (if sB (p.1 (nx b n x)).2.1 41 = true then (true, nx b n (p.1 (nx b n x)).2.1, (p.1 (nx b n x)).2.2) else (false, (p.1 (nx b n x)).2.1, (p.1 (nx b n x)).2.2)) else (false, (p.1 (nx b n x)).2.1, (p.1 (nx b n x)).2.2))
  else if sB x 45 = true then (match l with | none => (false, x, []) | some p => ((p.2 (nx b n x)).1, (p.2 (nx b n x)).2.1, (p.2 (nx b n x)).2.2 ++ [-5]))
  else if x.2.2.1 = 2 ∧ ¬ 9999 < x.2.2.2 then (true, nx b n x, [x.2.2.2])
  else if x.2.2.1 = 1 ∧ nmO x.2.2.2 < 0 then (true, nx b n x, [nmO x.2.2.2])
  else (false, x, [])
def loopF (b : Nat → Int32) (n : Nat) (O : Nat × Nat × Int32 × Int32 → Bool × (Nat × Nat × Int32 × Int32) × List Int32) (s1 s2 c1 c2 : Int32) : Nat → Bool × (Nat × Nat × Int32 × Int32) × List Int32 → Bool × (Nat × Nat × Int32 × Int32) × List Int32
  | 0, r => r
  | f + 1, r => if r.1 = true ∧ (sB r.2.1 s1 = true ∨ sB r.2.1 s2 = true) then loopF b n O s1 s2 c1 c2 f ((O (nx b n r.2.1)).1, (O (nx b n r.2.1)).2.1, r.2.2 ++ (O (nx b n r.2.1)).2.2 ++ [if sB r.2.1 s1 = true then c1 else c2]) else r
def termF (b : Nat → Int32) (n : Nat) (O : Nat × Nat × Int32 × Int32 → Bool × (Nat × Nat × Int32 × Int32) × List Int32) (x : Nat × Nat × Int32 × Int32) : Bool × (Nat × Nat × Int32 × Int32) × List Int32 := loopF b n O 42 47 (-8) (-9) 200 (O x)
def sumF (b : Nat → Int32) (n : Nat) (O : Nat × Nat × Int32 × Int32 → Bool × (Nat × Nat × Int32 × Int32) × List Int32) (x : Nat × Nat × Int32 × Int32) : Bool × (Nat × Nat × Int32 × Int32) × List Int32 := loopF b n O 43 45 (-6) (-7) 200 (O x)
def wholeF (b : Nat → Int32) (n : Nat) (S : Nat × Nat × Int32 × Int32 → Bool × (Nat × Nat × Int32 × Int32) × List Int32) (x : Nat × Nat × Int32 × Int32) : Bool × (Nat × Nat × Int32 × Int32) × List Int32 :=
  if (S x).1 = true ∧ (sB (S x).2.1 60 = true ∨ sB (S x).2.1 61 = true) then ((S (nx b n (S x).2.1)).1, (S (nx b n (S x).2.1)).2.1, (S x).2.2 ++ (S (nx b n (S x).2.1)).2.2 ++ [if sB (S x).2.1 60 = true then -10 else -11]) else S x
def lev (b : Nat → Int32) (n : Nat) : Nat → (Nat × Nat × Int32 × Int32 → Bool × (Nat × Nat × Int32 × Int32) × List Int32) × (Nat × Nat × Int32 × Int32 → Bool × (Nat × Nat × Int32 × Int32) × List Int32)
  | 0 => (wholeF b n (sumF b n (termF b n (oneF b n none))), oneF b n none)
  | r + 1 => (wholeF b n (sumF b n (termF b n (oneF b n (some (lev b n r))))), oneF b n (some (lev b n r)))
/-- a token as advance makes it -/
def tOK (n : Nat) (x : Nat × Nat × Int32 × Int32) : Prop := x.1 ≤ n ∧ x.2.1 ≤ n ∧ x.1 ≤ x.2.1 ∧ ((x.2.2.1 = 0 ∧ x.1 = n) ∨ (x.1 < x.2.1 ∧ (x.2.2.1 = 1 ∨ (x.2.2.1 = 2 ∧ 0 ≤ x.2.2.2) ∨ (x.2.2.1 = 3 ∧ (x.2.2.2 = 0 ∨ isSg x.2.2.2 = true)))))
theorem aM_OK {b : Nat → Int32} {n p : Nat} (hn : n ≤ 120) (hp : p ≤ n) : tOK n (aM b n p) ∧ p ≤ (aM b n p).1 := by
  have h1 := rn_ge (b := b) (n := n) (P := isSp) 200 p
  have h2 := rn_le (b := b) (n := n) (P := isSp) 200 p hp
  unfold aM
  generalize rn b n isSp 200 p = a at *
  by_cases c1 : a = n
  · rw [if_pos c1]; exact ⟨⟨h2, h2, Nat.le_refl _, Or.inl ⟨rfl, c1⟩⟩, h1⟩
  · rw [if_neg c1]
    have ha : a < n := by omega
    by_cases c2 : isLe (b a) = true
    · rw [if_pos c2]
      have h3 := rn_first (b := b) (P := isLe) hn ha c2
      have h4 := rn_le (b := b) (n := n) (P := isLe) 200 a (by omega)
      exact ⟨⟨h2, h4, Nat.le_of_lt h3, Or.inr ⟨h3, Or.inl rfl⟩⟩, h1⟩
    · rw [if_neg c2]
      by_cases c3 : isDi (b a) = true
      · rw [if_pos c3]
        have h3 := rn_first (b := b) (P := isDi) hn ha c3
        have h4 := rn_le (b := b) (n := n) (P := isDi) 200 a (by omega)
        have hx : ∀ i, i < rn b n isDi 200 a - a → 0 ≤ (b (a + i)).toInt - 48 ∧ (b (a + i)).toInt - 48 ≤ 9 := fun i hi => di_in (rn_all (n := n) 200 a (a + i) (by omega) (by omega))
        obtain ⟨z, z1, z2, z3, _⟩ := mn_nm _ hx _ (Nat.le_refl _)
        refine ⟨⟨h2, h4, Nat.le_of_lt h3, Or.inr ⟨h3, Or.inr (Or.inl ⟨rfl, ?_⟩)⟩⟩, h1⟩
        show 0 ≤ nmf b a _
        rw [z1, Int32.le_iff_toInt_le, iK_toInt (by omega)]
        exact z2
      · rw [if_neg c3]
        refine ⟨⟨h2, by show a + 1 ≤ n; omega, by show a ≤ a + 1; omega, Or.inr ⟨by show a < a + 1; omega, Or.inr (Or.inr ⟨rfl, ?_⟩)⟩⟩, h1⟩
        by_cases c4 : isSg (b a) = true
        · rw [if_pos c4]; exact Or.inr c4
        · rw [if_neg c4]; exact Or.inl rfl
theorem nx_OK {b : Nat → Int32} {n : Nat} {x : Nat × Nat × Int32 × Int32} (hn : n ≤ 120) (h : tOK n x) : tOK n (nx b n x) ∧ x.2.1 ≤ (nx b n x).1 := aM_OK hn h.2.1
theorem tOK_s {n : Nat} {x : Nat × Nat × Int32 × Int32} (h : tOK n x) (k : x.2.2.1 ≠ 0) : x.1 < x.2.1 ∧ x.1 < n := by
  rcases h.2.2.2 with q | q
  · exact absurd q.1 k
  · exact ⟨q.1, by have := h.2.1; omega⟩
/-- heights behind a row of steps -/
def hL (l : List Int32) (o : Option Nat) : Option Nat := l.foldl (fun o x => o.bind (hs (tr x))) o
theorem hL_app {l m : List Int32} {o : Option Nat} : hL (l ++ m) o = hL m (hL l o) := by unfold hL; rw [List.foldl_append]
/-- a good taker of texts -/
def GD (n : Nat) (O : Nat × Nat × Int32 × Int32 → Bool × (Nat × Nat × Int32 × Int32) × List Int32) : Prop := ∀ x, tOK n x → (tOK n (O x).2.1 ∧ x.1 + (O x).2.2.length ≤ (O x).2.1.1 ∧ (∀ c, c ∈ (O x).2.2 → -11 ≤ c)) ∧ ((O x).1 = true → x.1 < (O x).2.1.1 ∧ ∀ h, hL (O x).2.2 (some h) = some (h + 1))
theorem nmO_in {v : Int32} : -4 ≤ nmO v ∧ (nmO v < 0 → -4 ≤ nmO v ∧ nmO v < 0) := by
  have h : nmO v = -1 ∨ nmO v = -2 ∨ nmO v = -3 ∨ nmO v = -4 ∨ nmO v = 0 := by
    unfold nmO
    split
    · exact Or.inl rfl
    · split
      · exact Or.inr (Or.inl rfl)
      · split
        · exact Or.inr (Or.inr (Or.inl rfl))
        · split
          · exact Or.inr (Or.inr (Or.inr (Or.inl rfl)))
          · exact Or.inr (Or.inr (Or.inr (Or.inr rfl)))
  rcases h with h | h | h | h | h <;> rw [h] <;> decide
theorem hs_val {v : Int32} (h : -4 ≤ v) (k : Nat) : hL [v] (some k) = some (k + 1) := by
  show hs (tr v) k = _
  rw [tr_ge h]; unfold hs; rw [if_pos h]
theorem hs_neg (k : Nat) : hL [-5] (some (k + 1)) = some (k + 1) := by
  show hs (tr (-5)) (k + 1) = _
  have : tr (-5) = -10 := rfl
  rw [this]; unfold hs; rw [if_neg (by decide), if_pos rfl, if_pos (by omega)]
theorem hs_bin {c : Int32} (h : c = -6 ∨ c = -7 ∨ c = -8 ∨ c = -9 ∨ c = -10 ∨ c = -11) (k : Nat) : hL [c] (some (k + 2)) = some (k + 1) := by
  show hs (tr c) (k + 2) = _
  have q : ¬ -4 ≤ tr c ∧ ¬ tr c = -10 := by rcases h with rfl | rfl | rfl | rfl | rfl | rfl <;> decide
  unfold hs; rw [if_neg q.1, if_neg q.2, if_pos (by omega)]; rfl
theorem GD_one {b : Nat → Int32} {n : Nat} (hn : n ≤ 120) {l : Option ((Nat × Nat × Int32 × Int32 → Bool × (Nat × Nat × Int32 × Int32) × List Int32) × (Nat × Nat × Int32 × Int32 → Bool × (Nat × Nat × Int32 × Int32) × List Int32))} (h : ∀ p, l = some p → GD n p.1 ∧ GD n p.2) : GD n (oneF b n l) := by
  intro x hx
  have hnx := nx_OK (b := b) hn hx
  have fail : (tOK n x ∧ x.1 + ([] : List Int32).length ≤ x.1 ∧ (∀ c, c ∈ ([] : List Int32) → -11 ≤ c)) ∧ (false = true → x.1 < x.1 ∧ ∀ h, hL [] (some h) = some (h + 1)) := ⟨⟨hx, by simp, fun c hc => by simp at hc⟩, fun h => by simp at h⟩
  unfold oneF
  by_cases c1 : sB x 40 = true
  · rw [if_pos c1]
    have hk := tOK_s hx (by rw [(sB_iff.mp c1).1]; decide)
    cases l with
    | none => exact fail
    | some p =>
      have g := (h p rfl).1 (nx b n x) hnx.1
      dsimp only
      generalize p.1 (nx b n x) = r at *
      by_cases c2 : r.1 = true
      · rw [if_pos c2]
        have g2 := g.2 c2
        by_cases c3 : sB r.2.1 41 = true
        · rw [if_pos c3]
          have h3 := nx_OK (b := b) hn g.1.1
          have h4 := tOK_s g.1.1 (by rw [(sB_iff.mp c3).1]; decide)
          refine ⟨⟨h3.1, ?_, g.1.2.2⟩, fun _ => ⟨?_, g2.2⟩⟩
          · have := g.1.2.1; show x.1 + r.2.2.length ≤ (nx b n r.2.1).1; omega
          · have := g.1.2.1; show x.1 < (nx b n r.2.1).1; omega
        · rw [if_neg c3]
          refine ⟨⟨g.1.1, ?_, g.1.2.2⟩, fun h => by simp at h⟩
          have := g.1.2.1; show x.1 + r.2.2.length ≤ r.2.1.1; omega
      · rw [if_neg c2]
        refine ⟨⟨g.1.1, ?_, g.1.2.2⟩, fun h => by simp at h⟩
        have := g.1.2.1; show x.1 + r.2.2.length ≤ r.2.1.1; omega
  · rw [if_neg c1]
    by_cases c2 : sB x 45 = true
    · rw [if_pos c2]
      have hk := tOK_s hx (by rw [(sB_iff.mp c2).1]; decide)
      cases l with
      | none => exact fail
      | some p =>
        have g := (h p rfl).2 (nx b n x) hnx.1
        dsimp only
        generalize p.2 (nx b n x) = r at *
        refine ⟨⟨g.1.1, ?_, fun c hc => ?_⟩, fun h => ⟨?_, fun k => ?_⟩⟩
        · have := g.1.2.1; show x.1 + (r.2.2 ++ [-5]).length ≤ r.2.1.1; simp only [List.length_append, List.length_singleton]; omega
        · rcases List.mem_append.mp hc with hc | hc
          · exact g.1.2.2 c hc
          · rw [List.mem_singleton.mp hc]; decide
        · have := g.1.2.1; show x.1 < r.2.1.1; omega
        · show hL (r.2.2 ++ [-5]) (some k) = _
          rw [hL_app, (g.2 h).2 k, hs_neg]
    · rw [if_neg c2]
      by_cases c3 : x.2.2.1 = 2 ∧ ¬ 9999 < x.2.2.2
      · rw [if_pos c3]
        have hk := tOK_s hx (by rw [c3.1]; decide)
        have hv : 0 ≤ x.2.2.2 := by
          rcases hx.2.2.2 with q | q
          · rw [c3.1] at q; exact absurd q.1 (by decide)
          · rcases q.2 with q | q | q
            · rw [c3.1] at q; exact absurd q (by decide)
            · exact q.2
            · rw [c3.1] at q; exact absurd q.1 (by decide)
        have hv4 : -4 ≤ x.2.2.2 := Int32.le_trans (by decide) hv
        refine ⟨⟨hnx.1, ?_, fun c hc => ?_⟩, fun _ => ⟨?_, fun k => hs_val hv4 k⟩⟩
        · show x.1 + 1 ≤ (nx b n x).1; omega
        · rw [List.mem_singleton.mp hc]; exact Int32.le_trans (by decide) hv
        · show x.1 < (nx b n x).1; omega
      · rw [if_neg c3]
        by_cases c4 : x.2.2.1 = 1 ∧ nmO x.2.2.2 < 0
        · rw [if_pos c4]
          have hk := tOK_s hx (by rw [c4.1]; decide)
          have hv4 := (nmO_in (v := x.2.2.2)).1
          refine ⟨⟨hnx.1, ?_, fun c hc => ?_⟩, fun _ => ⟨?_, fun k => hs_val hv4 k⟩⟩
          · show x.1 + 1 ≤ (nx b n x).1; omega
          · rw [List.mem_singleton.mp hc]; exact Int32.le_trans (by decide) hv4
          · show x.1 < (nx b n x).1; omega
        · rw [if_neg c4]; exact fail
theorem GD_loop {b : Nat → Int32} {n : Nat} (hn : n ≤ 120) {O : Nat × Nat × Int32 × Int32 → Bool × (Nat × Nat × Int32 × Int32) × List Int32} (h : GD n O) {s1 s2 c1 c2 : Int32} (hc1 : c1 = -6 ∨ c1 = -7 ∨ c1 = -8 ∨ c1 = -9 ∨ c1 = -10 ∨ c1 = -11) (hc2 : c2 = -6 ∨ c2 = -7 ∨ c2 = -8 ∨ c2 = -9 ∨ c2 = -10 ∨ c2 = -11) (a : Nat) (f : Nat) : ∀ r : Bool × (Nat × Nat × Int32 × Int32) × List Int32, ((tOK n r.2.1 ∧ a + r.2.2.length ≤ r.2.1.1 ∧ (∀ c, c ∈ r.2.2 → -11 ≤ c)) ∧ (r.1 = true → a < r.2.1.1 ∧ ∀ h, hL r.2.2 (some h) = some (h + 1))) → ((tOK n (loopF b n O s1 s2 c1 c2 f r).2.1 ∧ a + (loopF b n O s1 s2 c1 c2 f r).2.2.length ≤ (loopF b n O s1 s2 c1 c2 f r).2.1.1 ∧ (∀ c, c ∈ (loopF b n O s1 s2 c1 c2 f r).2.2 → -11 ≤ c)) ∧ ((loopF b n O s1 s2 c1 c2 f r).1 = true → a < (loopF b n O s1 s2 c1 c2 f r).2.1.1 ∧ ∀ h, hL (loopF b n O s1 s2 c1 c2 f r).2.2 (some h) = some (h + 1))) := by
  induction f with
  | zero => intro r hr; exact hr
  | succ f ih =>
    intro r hr
    unfold loopF
    by_cases k : r.1 = true ∧ (sB r.2.1 s1 = true ∨ sB r.2.1 s2 = true)
    · rw [if_pos k]
      have h3 : r.2.1.2.2.1 = 3 := by rcases k.2 with q | q <;> exact (sB_iff.mp q).1
      have h4 := tOK_s hr.1.1 (by rw [h3]; decide)
      have h5 := nx_OK (b := b) hn hr.1.1
      have g := h (nx b n r.2.1) h5.1
      generalize O (nx b n r.2.1) = q at *
      have hcc : (if sB r.2.1 s1 = true then c1 else c2) = -6 ∨ (if sB r.2.1 s1 = true then c1 else c2) = -7 ∨ (if sB r.2.1 s1 = true then c1 else c2) = -8 ∨ (if sB r.2.1 s1 = true then c1 else c2) = -9 ∨ (if sB r.2.1 s1 = true then c1 else c2) = -10 ∨ (if sB r.2.1 s1 = true then c1 else c2) = -11 := by
        split
        · exact hc1
        · exact hc2
      generalize (if sB r.2.1 s1 = true then c1 else c2) = cc at hcc ⊢
      refine ih _ ⟨⟨g.1.1, ?_, fun c hc => ?_⟩, fun hq => ⟨?_, fun m => ?_⟩⟩
      · have e1 := hr.1.2.1; have e2 := g.1.2.1
        show a + (r.2.2 ++ q.2.2 ++ [cc]).length ≤ q.2.1.1
        simp only [List.length_append, List.length_singleton]; omega
      · rcases List.mem_append.mp hc with hc | hc
        · rcases List.mem_append.mp hc with hc | hc
          · exact hr.1.2.2 c hc
          · exact g.1.2.2 c hc
        · rw [List.mem_singleton.mp hc]; rcases hcc with e | e | e | e | e | e <;> rw [e] <;> decide
      · have e1 := hr.1.2.1; have e2 := g.1.2.1
        show a < q.2.1.1; omega
      · show hL (r.2.2 ++ q.2.2 ++ [cc]) (some m) = _
        rw [hL_app, hL_app, (hr.2 k.1).2 m, (g.2 hq).2 (m + 1), hs_bin hcc]
    · rw [if_neg k]; exact hr
theorem GD_whole {b : Nat → Int32} {n : Nat} (hn : n ≤ 120) {S : Nat × Nat × Int32 × Int32 → Bool × (Nat × Nat × Int32 × Int32) × List Int32} (h : GD n S) : GD n (wholeF b n S) := by
  intro x hx
  have hr := h x hx
  unfold wholeF
  by_cases k : (S x).1 = true ∧ (sB (S x).2.1 60 = true ∨ sB (S x).2.1 61 = true)
  · rw [if_pos k]
    have g := GD_loop (b := b) hn h (s1 := 60) (s2 := 61) (c1 := -10) (c2 := -11) (by decide) (by decide) x.1 1 (S x) hr
    unfold loopF at g
    rw [if_pos k] at g
    exact g
  · rw [if_neg k]; exact hr
theorem GD_lev {b : Nat → Int32} {n : Nat} (hn : n ≤ 120) (r : Nat) : GD n (lev b n r).1 ∧ GD n (lev b n r).2 := by
  have up : ∀ O, GD n O → GD n (wholeF b n (sumF b n (termF b n O))) := fun O hO => GD_whole hn fun x hx => GD_loop hn (fun y hy => GD_loop hn hO (by decide) (by decide) y.1 200 (O y) (hO y hy)) (by decide) (by decide) x.1 200 _ (GD_loop hn hO (by decide) (by decide) x.1 200 (O x) (hO x hx))
  induction r with
  | zero =>
    have h : GD n (oneF b n none) := GD_one hn fun p hp => by simp at hp
    exact ⟨up _ h, h⟩
  | succ r ih =>
    have h : GD n (oneF b n (some (lev b n r))) := GD_one hn fun p hp => by rw [← Option.some.inj hp]; exact ih
    exact ⟨up _ h, h⟩
