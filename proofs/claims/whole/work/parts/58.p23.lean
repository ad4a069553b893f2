/-! ===== piles ===== -/
/-- a row holds a pile (top first) -/
def pk (P : Nat → Int32) : List Int32 → Prop
  | [] => True
  | y :: r => P r.length = y ∧ pk P r
theorem pk_ext {P P' : Nat → Int32} {l : List Int32} (h : ∀ i, i < l.length → P' i = P i) (q : pk P l) : pk P' l := by
  induction l with
  | nil => trivial
  | cons y r ih => exact ⟨(h r.length (by simp)).trans q.1, ih (fun i hi => h i (by simp; omega)) q.2⟩
theorem pk_fr {P : Nat → Int32} {l : List Int32} {k : Nat} {v : Int32} (h : l.length ≤ k) (q : pk P l) : pk (fr P k v) l := pk_ext (fun i hi => fr_ne (by omega)) q
/-- a step of which the pile's height allows: what it makes of the height -/
theorem hs_ps {a b g h x : Int32} {l : List Int32} {n : Nat} (q : hs x l.length = some n) : (ps a b g h x l).length = n := by
  unfold hs at q
  unfold ps
  by_cases h1 : -4 ≤ x
  · rw [if_pos h1] at q
    by_cases h0 : 0 ≤ x
    · rw [if_pos h0]; simpa using q
    · rw [if_neg h0, if_pos h1]; simpa using q
  · rw [if_neg h1] at q
    have h0 : ¬ 0 ≤ x := fun z => h1 (Int32.le_trans (by decide) z)
    rw [if_neg h0, if_neg h1]
    by_cases h2 : x = -10
    · rw [if_pos h2] at q ⊢
      cases l with
      | nil => simp at q
      | cons y r => simpa using q
    · rw [if_neg h2] at q ⊢
      cases l with
      | nil => simp at q
      | cons y r =>
        cases r with
        | nil => simp at q
        | cons z r => simpa using q
theorem hg_len {a b g h : Int32} {f : Nat → Int32} {m n : Nat} (q : hg_ f m = some n) : (pl a b g h f m).length = n := by
  induction m generalizing n with
  | zero => simp [hg_] at q; subst q; rfl
  | succ m ih =>
    unfold hg_ at q
    cases e : hg_ f m with
    | none => rw [e] at q; simp at q
    | some k =>
      rw [e] at q
      have := ih e
      subst this
      exact hs_ps q
theorem hg_pre {f : Nat → Int32} {m N n : Nat} (hm : m ≤ N) (q : hg_ f N = some n) : ∃ k, hg_ f m = some k := by
  induction N generalizing n with
  | zero => have : m = 0 := by omega
            subst this; exact ⟨_, q⟩
  | succ N ih =>
    by_cases e : m = N + 1
    · subst e; exact ⟨_, q⟩
    · unfold hg_ at q
      cases e2 : hg_ f N with
      | none => rw [e2] at q; simp at q
      | some k => exact ih (by omega) e2
theorem hg_le {f : Nat → Int32} {m n : Nat} (q : hg_ f m = some n) : n ≤ m := by
  induction m generalizing n with
  | zero => simp [hg_] at q; omega
  | succ m ih =>
    unfold hg_ at q
    cases e : hg_ f m with
    | none => rw [e] at q; simp at q
    | some k =>
      rw [e] at q
      have h1 := ih e
      simp only [Option.bind_some] at q
      unfold hs at q
      split at q
      · simp at q; omega
      · split at q
        · split at q
          · simp at q; omega
          · simp at q
        · split at q
          · simp at q; omega
          · simp at q
