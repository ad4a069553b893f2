/-! ===== tokens: words and numbers ===== -/
/-- k letters in whole numbers -/
def wI (x : Nat → Int) : Nat → Int
  | 0 => 0
  | k + 1 => 27 * wI x k + x k
theorem wI_b {x : Nat → Int} (n : Nat) (hx : ∀ i, i < n → 1 ≤ x i ∧ x i ≤ 26) : ∀ k, k ≤ n → 0 ≤ wI x k ∧ wI x k < 27 ^ k := by
  intro k
  induction k with
  | zero => intro _; exact ⟨Int.le_refl _, by simp [wI]⟩
  | succ k ih =>
    intro hk
    have h1 := ih (by omega)
    have h2 := hx k (by omega)
    refine ⟨by unfold wI; omega, ?_⟩
    unfold wI
    rw [Int.pow_succ]
    omega
theorem wvf_K {b : Nat → Int32} {a : Nat} (n : Nat) (hx : ∀ i, i < n → 1 ≤ (b (a + i)).toInt - 96 ∧ (b (a + i)).toInt - 96 ≤ 26) : ∀ k, k ≤ n → k ≤ 6 → wvf b a k = iK (wI (fun i => (b (a + i)).toInt - 96) k) := by
  intro k
  induction k with
  | zero => intro _ _; rfl
  | succ k ih =>
    intro h1 h2
    have e : wvf b a (k + 1) = 27 * wvf b a k + b (a + k) - 96 := by
      show (if k < 6 then 27 * wvf b a k + b (a + k) - 96 else -1) = _
      rw [if_pos (by omega)]
    rw [e, ih (by omega) (by omega)]
    have e2 : (27 : Int32) * iK (wI (fun i => (b (a + i)).toInt - 96) k) + b (a + k) - 96 = iK (27 * wI (fun i => (b (a + i)).toInt - 96) k + (b (a + k)).toInt - 96) := by
      rw [← iK_sub, ← iK_add, ← iK_mul, iK_self]; rfl
    rw [e2]
    congr 1
    show _ = 27 * wI (fun i => (b (a + i)).toInt - 96) k + ((b (a + k)).toInt - 96)
    omega
theorem wvf_7 {b : Nat → Int32} {a k : Nat} (h : 7 ≤ k) : wvf b a k = -1 := by
  cases k with
  | zero => omega
  | succ k => show (if k < 6 then 27 * wvf b a k + b (a + k) - 96 else -1) = _; rw [if_neg (by omega)]
theorem ch_eq {x : Int32} {c : Int} (h : (iK c).toInt = c) : x = iK c ↔ x.toInt = c := by
  rw [← Int32.toInt_inj, h]
theorem word0 {b : Nat → Int32} {a e : Nat} (hae : a < e) (hx : ∀ i, i < e - a → 1 ≤ (b (a + i)).toInt - 96 ∧ (b (a + i)).toInt - 96 ≤ 26) : sp0 b a e ↔ wvf b a (e - a) = 1 := by
  have hc : ∀ (x : Int32) (c : Int), -2147483648 ≤ c ∧ c < 2147483648 → (x = iK c ↔ x.toInt = c) := fun x c h => ch_eq (iK_toInt h)
  generalize hk : e - a = k at hx
  have he : e = a + k := by omega
  subst he
  unfold sp0
  by_cases h7 : 7 ≤ k
  · rw [wvf_7 h7]
    constructor
    · intro h; omega
    · intro h; exact absurd h (by decide)
  · rw [wvf_K k hx k (Nat.le_refl _) (by omega)]
    have hb := wI_b (x := fun i => (b (a + i)).toInt - 96) k hx k (Nat.le_refl _)
    have p6 : (27 : Int) ^ k ≤ 27 ^ 6 := by
      have : k = 0 ∨ k = 1 ∨ k = 2 ∨ k = 3 ∨ k = 4 ∨ k = 5 ∨ k = 6 := by omega
      rcases this with rfl | rfl | rfl | rfl | rfl | rfl | rfl <;> decide
    have eH : (iK (wI (fun i => (b (a + i)).toInt - 96) k) = 1) = (wI (fun i => (b (a + i)).toInt - 96) k = 1) := iK_eq (b := 1) (by omega) (by omega)
    rw [eH]
    have cases : k = 1 ∨ k = 2 ∨ k = 3 ∨ k = 4 ∨ k = 5 ∨ k = 6 := by omega
    rcases cases with rfl | rfl | rfl | rfl | rfl | rfl
    · have x0 := hx 0 (by omega)
      simp only [wI] at *
      have c0 := hc (b (a + 0)) 97 (by omega)
      constructor
      · intro h
        obtain ⟨_, y0⟩ := h
        have z0 := c0.mp y0
        omega
      · intro h
        refine ⟨by first | trivial | rfl, ?_⟩
        · exact c0.mpr (by omega)
    · have x0 := hx 0 (by omega)
      have x1 := hx 1 (by omega)
      simp only [wI] at *
      constructor
      · intro h; omega
      · intro h; omega
    · have x0 := hx 0 (by omega)
      have x1 := hx 1 (by omega)
      have x2 := hx 2 (by omega)
      simp only [wI] at *
      constructor
      · intro h; omega
      · intro h; omega
    · have x0 := hx 0 (by omega)
      have x1 := hx 1 (by omega)
      have x2 := hx 2 (by omega)
      have x3 := hx 3 (by omega)
      simp only [wI] at *
      constructor
      · intro h; omega
      · intro h; omega
    · have x0 := hx 0 (by omega)
      have x1 := hx 1 (by omega)
      have x2 := hx 2 (by omega)
      have x3 := hx 3 (by omega)
      have x4 := hx 4 (by omega)
      simp only [wI] at *
      constructor
      · intro h; omega
      · intro h; omega
    · have x0 := hx 0 (by omega)
      have x1 := hx 1 (by omega)
      have x2 := hx 2 (by omega)
      have x3 := hx 3 (by omega)
      have x4 := hx 4 (by omega)
      have x5 := hx 5 (by omega)
      simp only [wI] at *
      constructor
      · intro h; omega
      · intro h; omega
theorem word1 {b : Nat → Int32} {a e : Nat} (hae : a < e) (hx : ∀ i, i < e - a → 1 ≤ (b (a + i)).toInt - 96 ∧ (b (a + i)).toInt - 96 ≤ 26) : sp1 b a e ↔ wvf b a (e - a) = 2 := by
  have hc : ∀ (x : Int32) (c : Int), -2147483648 ≤ c ∧ c < 2147483648 → (x = iK c ↔ x.toInt = c) := fun x c h => ch_eq (iK_toInt h)
  generalize hk : e - a = k at hx
  have he : e = a + k := by omega
  subst he
  unfold sp1
  by_cases h7 : 7 ≤ k
  · rw [wvf_7 h7]
    constructor
    · intro h; omega
    · intro h; exact absurd h (by decide)
  · rw [wvf_K k hx k (Nat.le_refl _) (by omega)]
    have hb := wI_b (x := fun i => (b (a + i)).toInt - 96) k hx k (Nat.le_refl _)
    have p6 : (27 : Int) ^ k ≤ 27 ^ 6 := by
      have : k = 0 ∨ k = 1 ∨ k = 2 ∨ k = 3 ∨ k = 4 ∨ k = 5 ∨ k = 6 := by omega
      rcases this with rfl | rfl | rfl | rfl | rfl | rfl | rfl <;> decide
    have eH : (iK (wI (fun i => (b (a + i)).toInt - 96) k) = 2) = (wI (fun i => (b (a + i)).toInt - 96) k = 2) := iK_eq (b := 2) (by omega) (by omega)
    rw [eH]
    have cases : k = 1 ∨ k = 2 ∨ k = 3 ∨ k = 4 ∨ k = 5 ∨ k = 6 := by omega
    rcases cases with rfl | rfl | rfl | rfl | rfl | rfl
    · have x0 := hx 0 (by omega)
      simp only [wI] at *
      have c0 := hc (b (a + 0)) 98 (by omega)
      constructor
      · intro h
        obtain ⟨_, y0⟩ := h
        have z0 := c0.mp y0
        omega
      · intro h
        refine ⟨by first | trivial | rfl, ?_⟩
        · exact c0.mpr (by omega)
    · have x0 := hx 0 (by omega)
      have x1 := hx 1 (by omega)
      simp only [wI] at *
      constructor
      · intro h; omega
      · intro h; omega
    · have x0 := hx 0 (by omega)
      have x1 := hx 1 (by omega)
      have x2 := hx 2 (by omega)
      simp only [wI] at *
      constructor
      · intro h; omega
      · intro h; omega
    · have x0 := hx 0 (by omega)
      have x1 := hx 1 (by omega)
      have x2 := hx 2 (by omega)
      have x3 := hx 3 (by omega)
      simp only [wI] at *
      constructor
      · intro h; omega
      · intro h; omega
    · have x0 := hx 0 (by omega)
      have x1 := hx 1 (by omega)
      have x2 := hx 2 (by omega)
      have x3 := hx 3 (by omega)
      have x4 := hx 4 (by omega)
      simp only [wI] at *
      constructor
      · intro h; omega
      · intro h; omega
    · have x0 := hx 0 (by omega)
      have x1 := hx 1 (by omega)
      have x2 := hx 2 (by omega)
      have x3 := hx 3 (by omega)
      have x4 := hx 4 (by omega)
      have x5 := hx 5 (by omega)
      simp only [wI] at *
      constructor
      · intro h; omega
      · intro h; omega
theorem word2 {b : Nat → Int32} {a e : Nat} (hae : a < e) (hx : ∀ i, i < e - a → 1 ≤ (b (a + i)).toInt - 96 ∧ (b (a + i)).toInt - 96 ≤ 26) : sp2 b a e ↔ wvf b a (e - a) = 7 := by
  have hc : ∀ (x : Int32) (c : Int), -2147483648 ≤ c ∧ c < 2147483648 → (x = iK c ↔ x.toInt = c) := fun x c h => ch_eq (iK_toInt h)
  generalize hk : e - a = k at hx
  have he : e = a + k := by omega
  subst he
  unfold sp2
  by_cases h7 : 7 ≤ k
  · rw [wvf_7 h7]
    constructor
    · intro h; omega
    · intro h; exact absurd h (by decide)
  · rw [wvf_K k hx k (Nat.le_refl _) (by omega)]
    have hb := wI_b (x := fun i => (b (a + i)).toInt - 96) k hx k (Nat.le_refl _)
    have p6 : (27 : Int) ^ k ≤ 27 ^ 6 := by
      have : k = 0 ∨ k = 1 ∨ k = 2 ∨ k = 3 ∨ k = 4 ∨ k = 5 ∨ k = 6 := by omega
      rcases this with rfl | rfl | rfl | rfl | rfl | rfl | rfl <;> decide
    have eH : (iK (wI (fun i => (b (a + i)).toInt - 96) k) = 7) = (wI (fun i => (b (a + i)).toInt - 96) k = 7) := iK_eq (b := 7) (by omega) (by omega)
    rw [eH]
    have cases : k = 1 ∨ k = 2 ∨ k = 3 ∨ k = 4 ∨ k = 5 ∨ k = 6 := by omega
    rcases cases with rfl | rfl | rfl | rfl | rfl | rfl
    · have x0 := hx 0 (by omega)
      simp only [wI] at *
      have c0 := hc (b (a + 0)) 103 (by omega)
      constructor
      · intro h
        obtain ⟨_, y0⟩ := h
        have z0 := c0.mp y0
        omega
      · intro h
        refine ⟨by first | trivial | rfl, ?_⟩
        · exact c0.mpr (by omega)
    · have x0 := hx 0 (by omega)
      have x1 := hx 1 (by omega)
      simp only [wI] at *
      constructor
      · intro h; omega
      · intro h; omega
    · have x0 := hx 0 (by omega)
      have x1 := hx 1 (by omega)
      have x2 := hx 2 (by omega)
      simp only [wI] at *
      constructor
      · intro h; omega
      · intro h; omega
    · have x0 := hx 0 (by omega)
      have x1 := hx 1 (by omega)
      have x2 := hx 2 (by omega)
      have x3 := hx 3 (by omega)
      simp only [wI] at *
      constructor
      · intro h; omega
      · intro h; omega
    · have x0 := hx 0 (by omega)
      have x1 := hx 1 (by omega)
      have x2 := hx 2 (by omega)
      have x3 := hx 3 (by omega)
      have x4 := hx 4 (by omega)
      simp only [wI] at *
      constructor
      · intro h; omega
      · intro h; omega
    · have x0 := hx 0 (by omega)
      have x1 := hx 1 (by omega)
      have x2 := hx 2 (by omega)
      have x3 := hx 3 (by omega)
      have x4 := hx 4 (by omega)
      have x5 := hx 5 (by omega)
      simp only [wI] at *
      constructor
      · intro h; omega
      · intro h; omega
theorem word3 {b : Nat → Int32} {a e : Nat} (hae : a < e) (hx : ∀ i, i < e - a → 1 ≤ (b (a + i)).toInt - 96 ∧ (b (a + i)).toInt - 96 ≤ 26) : sp3 b a e ↔ wvf b a (e - a) = 8 := by
  have hc : ∀ (x : Int32) (c : Int), -2147483648 ≤ c ∧ c < 2147483648 → (x = iK c ↔ x.toInt = c) := fun x c h => ch_eq (iK_toInt h)
  generalize hk : e - a = k at hx
  have he : e = a + k := by omega
  subst he
  unfold sp3
  by_cases h7 : 7 ≤ k
  · rw [wvf_7 h7]
    constructor
    · intro h; omega
    · intro h; exact absurd h (by decide)
  · rw [wvf_K k hx k (Nat.le_refl _) (by omega)]
    have hb := wI_b (x := fun i => (b (a + i)).toInt - 96) k hx k (Nat.le_refl _)
    have p6 : (27 : Int) ^ k ≤ 27 ^ 6 := by
      have : k = 0 ∨ k = 1 ∨ k = 2 ∨ k = 3 ∨ k = 4 ∨ k = 5 ∨ k = 6 := by omega
      rcases this with rfl | rfl | rfl | rfl | rfl | rfl | rfl <;> decide
    have eH : (iK (wI (fun i => (b (a + i)).toInt - 96) k) = 8) = (wI (fun i => (b (a + i)).toInt - 96) k = 8) := iK_eq (b := 8) (by omega) (by omega)
    rw [eH]
    have cases : k = 1 ∨ k = 2 ∨ k = 3 ∨ k = 4 ∨ k = 5 ∨ k = 6 := by omega
    rcases cases with rfl | rfl | rfl | rfl | rfl | rfl
    · have x0 := hx 0 (by omega)
      simp only [wI] at *
      have c0 := hc (b (a + 0)) 104 (by omega)
      constructor
      · intro h
        obtain ⟨_, y0⟩ := h
        have z0 := c0.mp y0
        omega
      · intro h
        refine ⟨by first | trivial | rfl, ?_⟩
        · exact c0.mpr (by omega)
    · have x0 := hx 0 (by omega)
      have x1 := hx 1 (by omega)
      simp only [wI] at *
      constructor
      · intro h; omega
      · intro h; omega
    · have x0 := hx 0 (by omega)
      have x1 := hx 1 (by omega)
      have x2 := hx 2 (by omega)
      simp only [wI] at *
      constructor
      · intro h; omega
      · intro h; omega
    · have x0 := hx 0 (by omega)
      have x1 := hx 1 (by omega)
      have x2 := hx 2 (by omega)
      have x3 := hx 3 (by omega)
      simp only [wI] at *
      constructor
      · intro h; omega
      · intro h; omega
    · have x0 := hx 0 (by omega)
      have x1 := hx 1 (by omega)
      have x2 := hx 2 (by omega)
      have x3 := hx 3 (by omega)
      have x4 := hx 4 (by omega)
      simp only [wI] at *
      constructor
      · intro h; omega
      · intro h; omega
    · have x0 := hx 0 (by omega)
      have x1 := hx 1 (by omega)
      have x2 := hx 2 (by omega)
      have x3 := hx 3 (by omega)
      have x4 := hx 4 (by omega)
      have x5 := hx 5 (by omega)
      simp only [wI] at *
      constructor
      · intro h; omega
      · intro h; omega
theorem word4 {b : Nat → Int32} {a e : Nat} (hae : a < e) (hx : ∀ i, i < e - a → 1 ≤ (b (a + i)).toInt - 96 ∧ (b (a + i)).toInt - 96 ≤ 26) : sp4 b a e ↔ wvf b a (e - a) = 47328224 := by
  have hc : ∀ (x : Int32) (c : Int), -2147483648 ≤ c ∧ c < 2147483648 → (x = iK c ↔ x.toInt = c) := fun x c h => ch_eq (iK_toInt h)
  generalize hk : e - a = k at hx
  have he : e = a + k := by omega
  subst he
  unfold sp4
  by_cases h7 : 7 ≤ k
  · rw [wvf_7 h7]
    constructor
    · intro h; omega
    · intro h; exact absurd h (by decide)
  · rw [wvf_K k hx k (Nat.le_refl _) (by omega)]
    have hb := wI_b (x := fun i => (b (a + i)).toInt - 96) k hx k (Nat.le_refl _)
    have p6 : (27 : Int) ^ k ≤ 27 ^ 6 := by
      have : k = 0 ∨ k = 1 ∨ k = 2 ∨ k = 3 ∨ k = 4 ∨ k = 5 ∨ k = 6 := by omega
      rcases this with rfl | rfl | rfl | rfl | rfl | rfl | rfl <;> decide
    have eH : (iK (wI (fun i => (b (a + i)).toInt - 96) k) = 47328224) = (wI (fun i => (b (a + i)).toInt - 96) k = 47328224) := iK_eq (b := 47328224) (by omega) (by omega)
    rw [eH]
    have cases : k = 1 ∨ k = 2 ∨ k = 3 ∨ k = 4 ∨ k = 5 ∨ k = 6 := by omega
    rcases cases with rfl | rfl | rfl | rfl | rfl | rfl
    · have x0 := hx 0 (by omega)
      simp only [wI] at *
      constructor
      · intro h; omega
      · intro h; omega
    · have x0 := hx 0 (by omega)
      have x1 := hx 1 (by omega)
      simp only [wI] at *
      constructor
      · intro h; omega
      · intro h; omega
    · have x0 := hx 0 (by omega)
      have x1 := hx 1 (by omega)
      have x2 := hx 2 (by omega)
      simp only [wI] at *
      constructor
      · intro h; omega
      · intro h; omega
    · have x0 := hx 0 (by omega)
      have x1 := hx 1 (by omega)
      have x2 := hx 2 (by omega)
      have x3 := hx 3 (by omega)
      simp only [wI] at *
      constructor
      · intro h; omega
      · intro h; omega
    · have x0 := hx 0 (by omega)
      have x1 := hx 1 (by omega)
      have x2 := hx 2 (by omega)
      have x3 := hx 3 (by omega)
      have x4 := hx 4 (by omega)
      simp only [wI] at *
      constructor
      · intro h; omega
      · intro h; omega
    · have x0 := hx 0 (by omega)
      have x1 := hx 1 (by omega)
      have x2 := hx 2 (by omega)
      have x3 := hx 3 (by omega)
      have x4 := hx 4 (by omega)
      have x5 := hx 5 (by omega)
      simp only [wI] at *
      have c0 := hc (b (a + 0)) 99 (by omega)
      have c1 := hc (b (a + 1)) 104 (by omega)
      have c2 := hc (b (a + 2)) 97 (by omega)
      have c3 := hc (b (a + 3)) 110 (by omega)
      have c4 := hc (b (a + 4)) 99 (by omega)
      have c5 := hc (b (a + 5)) 101 (by omega)
      constructor
      · intro h
        obtain ⟨_, y0, y1, y2, y3, y4, y5⟩ := h
        have z0 := c0.mp y0
        have z1 := c1.mp y1
        have z2 := c2.mp y2
        have z3 := c3.mp y3
        have z4 := c4.mp y4
        have z5 := c5.mp y5
        omega
      · intro h
        refine ⟨by first | trivial | rfl, ?_, ?_, ?_, ?_, ?_, ?_⟩
        · exact c0.mpr (by omega)
        · exact c1.mpr (by omega)
        · exact c2.mpr (by omega)
        · exact c3.mpr (by omega)
        · exact c4.mpr (by omega)
        · exact c5.mpr (by omega)
theorem word5 {b : Nat → Int32} {a e : Nat} (hae : a < e) (hx : ∀ i, i < e - a → 1 ≤ (b (a + i)).toInt - 96 ∧ (b (a + i)).toInt - 96 ≤ 26) : sp5 b a e ↔ wvf b a (e - a) = 381245 := by
  have hc : ∀ (x : Int32) (c : Int), -2147483648 ≤ c ∧ c < 2147483648 → (x = iK c ↔ x.toInt = c) := fun x c h => ch_eq (iK_toInt h)
  generalize hk : e - a = k at hx
  have he : e = a + k := by omega
  subst he
  unfold sp5
  by_cases h7 : 7 ≤ k
  · rw [wvf_7 h7]
    constructor
    · intro h; omega
    · intro h; exact absurd h (by decide)
  · rw [wvf_K k hx k (Nat.le_refl _) (by omega)]
    have hb := wI_b (x := fun i => (b (a + i)).toInt - 96) k hx k (Nat.le_refl _)
    have p6 : (27 : Int) ^ k ≤ 27 ^ 6 := by
      have : k = 0 ∨ k = 1 ∨ k = 2 ∨ k = 3 ∨ k = 4 ∨ k = 5 ∨ k = 6 := by omega
      rcases this with rfl | rfl | rfl | rfl | rfl | rfl | rfl <;> decide
    have eH : (iK (wI (fun i => (b (a + i)).toInt - 96) k) = 381245) = (wI (fun i => (b (a + i)).toInt - 96) k = 381245) := iK_eq (b := 381245) (by omega) (by omega)
    rw [eH]
    have cases : k = 1 ∨ k = 2 ∨ k = 3 ∨ k = 4 ∨ k = 5 ∨ k = 6 := by omega
    rcases cases with rfl | rfl | rfl | rfl | rfl | rfl
    · have x0 := hx 0 (by omega)
      simp only [wI] at *
      constructor
      · intro h; omega
      · intro h; omega
    · have x0 := hx 0 (by omega)
      have x1 := hx 1 (by omega)
      simp only [wI] at *
      constructor
      · intro h; omega
      · intro h; omega
    · have x0 := hx 0 (by omega)
      have x1 := hx 1 (by omega)
      have x2 := hx 2 (by omega)
      simp only [wI] at *
      constructor
      · intro h; omega
      · intro h; omega
    · have x0 := hx 0 (by omega)
      have x1 := hx 1 (by omega)
      have x2 := hx 2 (by omega)
      have x3 := hx 3 (by omega)
      simp only [wI] at *
      have c0 := hc (b (a + 0)) 115 (by omega)
      have c1 := hc (b (a + 1)) 105 (by omega)
      have c2 := hc (b (a + 2)) 122 (by omega)
      have c3 := hc (b (a + 3)) 101 (by omega)
      constructor
      · intro h
        obtain ⟨_, y0, y1, y2, y3⟩ := h
        have z0 := c0.mp y0
        have z1 := c1.mp y1
        have z2 := c2.mp y2
        have z3 := c3.mp y3
        omega
      · intro h
        refine ⟨by first | trivial | rfl, ?_, ?_, ?_, ?_⟩
        · exact c0.mpr (by omega)
        · exact c1.mpr (by omega)
        · exact c2.mpr (by omega)
        · exact c3.mpr (by omega)
    · have x0 := hx 0 (by omega)
      have x1 := hx 1 (by omega)
      have x2 := hx 2 (by omega)
      have x3 := hx 3 (by omega)
      have x4 := hx 4 (by omega)
      simp only [wI] at *
      constructor
      · intro h; omega
      · intro h; omega
    · have x0 := hx 0 (by omega)
      have x1 := hx 1 (by omega)
      have x2 := hx 2 (by omega)
      have x3 := hx 3 (by omega)
      have x4 := hx 4 (by omega)
      have x5 := hx 5 (by omega)
      simp only [wI] at *
      constructor
      · intro h; omega
      · intro h; omega
theorem word6 {b : Nat → Int32} {a e : Nat} (hae : a < e) (hx : ∀ i, i < e - a → 1 ≤ (b (a + i)).toInt - 96 ∧ (b (a + i)).toInt - 96 ≤ 26) : sp6 b a e ↔ wvf b a (e - a) = 316351 := by
  have hc : ∀ (x : Int32) (c : Int), -2147483648 ≤ c ∧ c < 2147483648 → (x = iK c ↔ x.toInt = c) := fun x c h => ch_eq (iK_toInt h)
  generalize hk : e - a = k at hx
  have he : e = a + k := by omega
  subst he
  unfold sp6
  by_cases h7 : 7 ≤ k
  · rw [wvf_7 h7]
    constructor
    · intro h; omega
    · intro h; exact absurd h (by decide)
  · rw [wvf_K k hx k (Nat.le_refl _) (by omega)]
    have hb := wI_b (x := fun i => (b (a + i)).toInt - 96) k hx k (Nat.le_refl _)
    have p6 : (27 : Int) ^ k ≤ 27 ^ 6 := by
      have : k = 0 ∨ k = 1 ∨ k = 2 ∨ k = 3 ∨ k = 4 ∨ k = 5 ∨ k = 6 := by omega
      rcases this with rfl | rfl | rfl | rfl | rfl | rfl | rfl <;> decide
    have eH : (iK (wI (fun i => (b (a + i)).toInt - 96) k) = 316351) = (wI (fun i => (b (a + i)).toInt - 96) k = 316351) := iK_eq (b := 316351) (by omega) (by omega)
    rw [eH]
    have cases : k = 1 ∨ k = 2 ∨ k = 3 ∨ k = 4 ∨ k = 5 ∨ k = 6 := by omega
    rcases cases with rfl | rfl | rfl | rfl | rfl | rfl
    · have x0 := hx 0 (by omega)
      simp only [wI] at *
      constructor
      · intro h; omega
      · intro h; omega
    · have x0 := hx 0 (by omega)
      have x1 := hx 1 (by omega)
      simp only [wI] at *
      constructor
      · intro h; omega
      · intro h; omega
    · have x0 := hx 0 (by omega)
      have x1 := hx 1 (by omega)
      have x2 := hx 2 (by omega)
      simp only [wI] at *
      constructor
      · intro h; omega
      · intro h; omega
    · have x0 := hx 0 (by omega)
      have x1 := hx 1 (by omega)
      have x2 := hx 2 (by omega)
      have x3 := hx 3 (by omega)
      simp only [wI] at *
      have c0 := hc (b (a + 0)) 112 (by omega)
      have c1 := hc (b (a + 1)) 97 (by omega)
      have c2 := hc (b (a + 2)) 121 (by omega)
      have c3 := hc (b (a + 3)) 115 (by omega)
      constructor
      · intro h
        obtain ⟨_, y0, y1, y2, y3⟩ := h
        have z0 := c0.mp y0
        have z1 := c1.mp y1
        have z2 := c2.mp y2
        have z3 := c3.mp y3
        omega
      · intro h
        refine ⟨by first | trivial | rfl, ?_, ?_, ?_, ?_⟩
        · exact c0.mpr (by omega)
        · exact c1.mpr (by omega)
        · exact c2.mpr (by omega)
        · exact c3.mpr (by omega)
    · have x0 := hx 0 (by omega)
      have x1 := hx 1 (by omega)
      have x2 := hx 2 (by omega)
      have x3 := hx 3 (by omega)
      have x4 := hx 4 (by omega)
      simp only [wI] at *
      constructor
      · intro h; omega
      · intro h; omega
    · have x0 := hx 0 (by omega)
      have x1 := hx 1 (by omega)
      have x2 := hx 2 (by omega)
      have x3 := hx 3 (by omega)
      have x4 := hx 4 (by omega)
      have x5 := hx 5 (by omega)
      simp only [wI] at *
      constructor
      · intro h; omega
      · intro h; omega
/-- a name's step by the reference's value -/
def nmO (v : Int32) : Int32 := if v = 1 then -1 else if v = 2 then -2 else if v = 7 then -3 else if v = 8 then -4 else 0
/-- the class's token, and what it means, by the reference's kind and value -/
def tkT (k v : Int32) : Int32 := if k = 0 then -1 else if k = 1 then (if nmO v < 0 then -4 else if v = 47328224 then -5 else if v = 381245 then -6 else if v = 316351 then -7 else -2) else if k = 2 then (if 9999 < v then -2 else -3) else (if v = 0 then -2 else v)
def tkV (k v : Int32) : Int32 := if k = 1 then nmO v else v
theorem le_in {x : Int32} (h : isLe x = true) : 1 ≤ x.toInt - 96 ∧ x.toInt - 96 ≤ 26 := by
  unfold isLe at h
  have h2 := of_decide_eq_true h
  rw [Int32.lt_iff_toInt_lt, Int32.lt_iff_toInt_lt] at h2
  have e1 : (97 : Int32).toInt = 97 := rfl
  have e2 : (122 : Int32).toInt = 122 := rfl
  omega
theorem di_in {x : Int32} (h : isDi x = true) : 0 ≤ x.toInt - 48 ∧ x.toInt - 48 ≤ 9 := by
  unfold isDi at h
  have h2 := of_decide_eq_true h
  rw [Int32.lt_iff_toInt_lt, Int32.lt_iff_toInt_lt] at h2
  have e1 : (48 : Int32).toInt = 48 := rfl
  have e2 : (57 : Int32).toInt = 57 := rfl
  omega
/-- k figures, held just above the most -/
def mnf (b : Nat → Int32) (a : Nat) : Nat → Int32
  | 0 => 0
  | k + 1 => if 10000 < 10 * mnf b a k + b (a + k) - 48 then 10000 else 10 * mnf b a k + b (a + k) - 48
theorem mn_nm {b : Nat → Int32} {a : Nat} (n : Nat) (hx : ∀ i, i < n → 0 ≤ (b (a + i)).toInt - 48 ∧ (b (a + i)).toInt - 48 ≤ 9) : ∀ k, k ≤ n → ∃ z : Int, nmf b a k = iK z ∧ 0 ≤ z ∧ z ≤ 99999 ∧ mnf b a k = iK (min z 10000) := by
  intro k
  induction k with
  | zero => intro _; exact ⟨0, rfl, by omega, by omega, rfl⟩
  | succ k ih =>
    intro hk
    obtain ⟨z, z1, z2, z3, z4⟩ := ih (by omega)
    have h := hx k (by omega)
    have e1 : nmf b a (k + 1) = if 9999 < nmf b a k then nmf b a k else 10 * nmf b a k + b (a + k) - 48 := rfl
    have e2 : mnf b a (k + 1) = if 10000 < 10 * mnf b a k + b (a + k) - 48 then 10000 else 10 * mnf b a k + b (a + k) - 48 := rfl
    have k1 : ∀ y : Int, 10 * iK y + b (a + k) - 48 = iK (10 * y + (b (a + k)).toInt - 48) := fun y => by rw [← iK_sub, ← iK_add, ← iK_mul, iK_self]; rfl
    have k2 : (9999 < iK z) = (9999 < z) := iK_lt (a := 9999) (by omega) (by omega)
    have k3 : ((10000 : Int32) < iK (10 * min z 10000 + (b (a + k)).toInt - 48)) = (10000 < 10 * min z 10000 + (b (a + k)).toInt - 48) := iK_lt (a := 10000) (by omega) (by omega)
    rw [e1, e2, z1, z4, k1, k1]
    simp only [k2, k3]
    by_cases c : 9999 < z
    · rw [if_pos c, if_pos (by omega)]
      exact ⟨z, rfl, by omega, by omega, by rw [show min z 10000 = 10000 by omega]; rfl⟩
    · rw [if_neg c]
      refine ⟨10 * z + (b (a + k)).toInt - 48, rfl, by omega, by omega, ?_⟩
      by_cases c2 : 10000 < 10 * min z 10000 + (b (a + k)).toInt - 48
      · rw [if_pos c2]; rw [show min (10 * z + (b (a + k)).toInt - 48) 10000 = 10000 by omega]; rfl
      · rw [if_neg c2]; congr 1; omega
theorem sg_b : ∀ k : Fin 256, (((nI k.val).toUInt32 % 65536).toInt32 = nI k.val ∧ (¬ nI k.val < 0 ∧ ¬ 255 < nI k.val)) ∧ ((59 = (nI k.val).toInt8.toInt32 ↔ nI k.val = 59) ∧ (60 = (nI k.val).toInt8.toInt32 ↔ nI k.val = 60) ∧ (61 = (nI k.val).toInt8.toInt32 ↔ nI k.val = 61) ∧ (43 = (nI k.val).toInt8.toInt32 ↔ nI k.val = 43) ∧ (45 = (nI k.val).toInt8.toInt32 ↔ nI k.val = 45) ∧ (42 = (nI k.val).toInt8.toInt32 ↔ nI k.val = 42) ∧ (47 = (nI k.val).toInt8.toInt32 ↔ nI k.val = 47) ∧ (40 = (nI k.val).toInt8.toInt32 ↔ nI k.val = 40) ∧ (41 = (nI k.val).toInt8.toInt32 ↔ nI k.val = 41)) := by decide +kernel
section P60
variable {d SL : Nat} {xs : Nat → Int32} {g : ab_G} {I : ab_I} {J : ab_J} {Q : ab_Q} {b : Nat → Int32} {n a : Nat}
set_option maxRecDepth 20000 in
theorem c_indexOf {k : Nat} (hl : low SL xs g I) (hk : k < 256) : (∀ v, ((isSg (nI k) = true → ¬ v < 0) ∧ (¬ isSg (nI k) = true → v < 0)) → Q (some (vI v)) g I J) → ab_run (d + 5) 36 [vR (some 3), vI (nI k)] g I J Q := by
  intro hQ
  have t1 : ab_ty g 3 = 22 := (hl 3 (by decide)).1
  have t2 : ab_R g 3 0 = some 14 := (hl 3 (by decide)).2.2.1 0
  have t3 : ab_ty g 14 = 7 := (hl 14 (by decide)).1
  have t4 : ab_ln g 14 = 9 := (hl 14 (by decide)).2.1
  have t5 : I 3 1 = 0 := by rw [(hl 3 (by decide)).2.2.2]; rfl
  have t6 : 0 < 7 := by decide
  have t7 : 7 < 10 := by decide
  obtain ⟨⟨_, m0, m1⟩, s0, s1, s2', s3', s4', s5', s6, s7', s8⟩ := sg_b ⟨k, hk⟩
  simp only [] at m0 m1 s0 s1 s2' s3' s4' s5' s6 s7' s8
  have m2 : (if (0 : Int32) < 0 then (0 : Int32) else 0) = 0 := by decide
  have m3 : (if nI 9 < (9 : Int32) then nI 9 else 9) = 9 := by decide
  have v0 : vp_in 0 9 := vi 0 9 rfl
  have y0 : I 14 0 = 59 := by rw [(hl 14 (by decide)).2.2.2]; rfl
  have v1 : vp_in 1 9 := vi 1 9 rfl
  have y1 : I 14 1 = 60 := by rw [(hl 14 (by decide)).2.2.2]; rfl
  have v2 : vp_in 2 9 := vi 2 9 rfl
  have y2 : I 14 2 = 61 := by rw [(hl 14 (by decide)).2.2.2]; rfl
  have v3 : vp_in 3 9 := vi 3 9 rfl
  have y3 : I 14 3 = 43 := by rw [(hl 14 (by decide)).2.2.2]; rfl
  have v4 : vp_in 4 9 := vi 4 9 rfl
  have y4 : I 14 4 = 45 := by rw [(hl 14 (by decide)).2.2.2]; rfl
  have v5 : vp_in 5 9 := vi 5 9 rfl
  have y5 : I 14 5 = 42 := by rw [(hl 14 (by decide)).2.2.2]; rfl
  have v6 : vp_in 6 9 := vi 6 9 rfl
  have y6 : I 14 6 = 47 := by rw [(hl 14 (by decide)).2.2.2]; rfl
  have v7 : vp_in 7 9 := vi 7 9 rfl
  have y7 : I 14 7 = 40 := by rw [(hl 14 (by decide)).2.2.2]; rfl
  have v8 : vp_in 8 9 := vi 8 9 rfl
  have y8 : I 14 8 = 41 := by rw [(hl 14 (by decide)).2.2.2]; rfl
  by_cases q0 : nI k = 59
  · have r0 : (59 = (nI k).toInt8.toInt32) = True := eq_true (s0.mpr q0)
    have hs : isSg (nI k) = true := by rw [q0]; decide
    rw [e36]
    simp (disch := decide) only [e36, k36_0, k36_1, k36_2, k36_3, k36_6, e37, k37_0, k37_1, k37_4, k37_7, k37_8, k37_11, k37_12, k37_13, k37_14, k37_17, k37_20, k37_23, k37_24, k37_27, k37_28, k37_29, k37_30, k37_36, e38, k38_0, k38_1, k38_4, k38_7, k38_8, k38_9, k38_10, k38_11, k38_14, k38_15, k38_16, k38_17, k38_18, k38_21, k38_22, k38_23, k38_24, k38_27, k38_28, k38_29, k38_30, k38_31, k38_32, k38_33, k38_36, e39, k39_0, k39_1, k39_4, k39_5, k39_8, k39_11, k39_12, k39_15, k39_16, e41, k41_0, k41_1, k41_2, k41_4, k41_5, k41_7, k41_9, k41_10, k41_13, k41_14, k41_16, k41_17, k41_19, k41_22, k41_24, k41_25, k41_28, k41_31, k41_32, e29, k29_0, k29_3, k29_6, k29_7, k29_10, k29_13, k29_14, k29_17, k29_18, c_len7 hl, c_Math_max, c_Math_min, nb0, n1z, z31, t1, t2, t3, t4, t5, t6, t7, m0, m1, m2, m3, v0, y0, v1, y1, v2, y2, v3, y3, v4, y4, v5, y5, v6, y6, v7, y7, v8, y8, ab_inv_I, ab_inv_R, ab_inv_L, ab_inv_0, ab_push_some, ab_push_none, ab_E_sw, ab_E_sw0, true_and, and_true, not_false_eq_true, bit_ite, s2, s3, s4, s5, s7, qi_ite2, ab_bit0, ab_bit1, qi_ite, ql_ite, Nat.reduceLeDiff, d128, d16, d8, d4, d1000, d100, d10, if_true, if_false, ite_self, tn0, tn1, tn2, tn3, tn4, tn5, tn6, tn7, tn8, tn9, tn10, tn11, tn12, tn13, tn14, tn15, tn16, tn17, tn18, tn19, Int32.reduceAdd, Int32.reduceMul, Int32.reduceSub, Int32.reduceDiv, Int32.reduceLT, Int32.reduceLE, Int32.reduceToNatClampNeg, i10, i01, ↓reduceIte, if_true, if_false, r0]
    exact hQ 0 ⟨fun _ => by decide, fun h => absurd hs h⟩
  have r0 : (59 = (nI k).toInt8.toInt32) = False := eq_false (fun h => q0 (s0.mp h))
  by_cases q1 : nI k = 60
  · have r1 : (60 = (nI k).toInt8.toInt32) = True := eq_true (s1.mpr q1)
    have hs : isSg (nI k) = true := by rw [q1]; decide
    rw [e36]
    simp (disch := decide) only [e36, k36_0, k36_1, k36_2, k36_3, k36_6, e37, k37_0, k37_1, k37_4, k37_7, k37_8, k37_11, k37_12, k37_13, k37_14, k37_17, k37_20, k37_23, k37_24, k37_27, k37_28, k37_29, k37_30, k37_36, e38, k38_0, k38_1, k38_4, k38_7, k38_8, k38_9, k38_10, k38_11, k38_14, k38_15, k38_16, k38_17, k38_18, k38_21, k38_22, k38_23, k38_24, k38_27, k38_28, k38_29, k38_30, k38_31, k38_32, k38_33, k38_36, e39, k39_0, k39_1, k39_4, k39_5, k39_8, k39_11, k39_12, k39_15, k39_16, e41, k41_0, k41_1, k41_2, k41_4, k41_5, k41_7, k41_9, k41_10, k41_13, k41_14, k41_16, k41_17, k41_19, k41_22, k41_24, k41_25, k41_28, k41_31, k41_32, e29, k29_0, k29_3, k29_6, k29_7, k29_10, k29_13, k29_14, k29_17, k29_18, c_len7 hl, c_Math_max, c_Math_min, nb0, n1z, z31, t1, t2, t3, t4, t5, t6, t7, m0, m1, m2, m3, v0, y0, v1, y1, v2, y2, v3, y3, v4, y4, v5, y5, v6, y6, v7, y7, v8, y8, ab_inv_I, ab_inv_R, ab_inv_L, ab_inv_0, ab_push_some, ab_push_none, ab_E_sw, ab_E_sw0, true_and, and_true, not_false_eq_true, bit_ite, s2, s3, s4, s5, s7, qi_ite2, ab_bit0, ab_bit1, qi_ite, ql_ite, Nat.reduceLeDiff, d128, d16, d8, d4, d1000, d100, d10, if_true, if_false, ite_self, tn0, tn1, tn2, tn3, tn4, tn5, tn6, tn7, tn8, tn9, tn10, tn11, tn12, tn13, tn14, tn15, tn16, tn17, tn18, tn19, Int32.reduceAdd, Int32.reduceMul, Int32.reduceSub, Int32.reduceDiv, Int32.reduceLT, Int32.reduceLE, Int32.reduceToNatClampNeg, i10, i01, ↓reduceIte, if_true, if_false, r0, r1]
    exact hQ 1 ⟨fun _ => by decide, fun h => absurd hs h⟩
  have r1 : (60 = (nI k).toInt8.toInt32) = False := eq_false (fun h => q1 (s1.mp h))
  by_cases q2 : nI k = 61
  · have r2 : (61 = (nI k).toInt8.toInt32) = True := eq_true (s2'.mpr q2)
    have hs : isSg (nI k) = true := by rw [q2]; decide
    rw [e36]
    simp (disch := decide) only [e36, k36_0, k36_1, k36_2, k36_3, k36_6, e37, k37_0, k37_1, k37_4, k37_7, k37_8, k37_11, k37_12, k37_13, k37_14, k37_17, k37_20, k37_23, k37_24, k37_27, k37_28, k37_29, k37_30, k37_36, e38, k38_0, k38_1, k38_4, k38_7, k38_8, k38_9, k38_10, k38_11, k38_14, k38_15, k38_16, k38_17, k38_18, k38_21, k38_22, k38_23, k38_24, k38_27, k38_28, k38_29, k38_30, k38_31, k38_32, k38_33, k38_36, e39, k39_0, k39_1, k39_4, k39_5, k39_8, k39_11, k39_12, k39_15, k39_16, e41, k41_0, k41_1, k41_2, k41_4, k41_5, k41_7, k41_9, k41_10, k41_13, k41_14, k41_16, k41_17, k41_19, k41_22, k41_24, k41_25, k41_28, k41_31, k41_32, e29, k29_0, k29_3, k29_6, k29_7, k29_10, k29_13, k29_14, k29_17, k29_18, c_len7 hl, c_Math_max, c_Math_min, nb0, n1z, z31, t1, t2, t3, t4, t5, t6, t7, m0, m1, m2, m3, v0, y0, v1, y1, v2, y2, v3, y3, v4, y4, v5, y5, v6, y6, v7, y7, v8, y8, ab_inv_I, ab_inv_R, ab_inv_L, ab_inv_0, ab_push_some, ab_push_none, ab_E_sw, ab_E_sw0, true_and, and_true, not_false_eq_true, bit_ite, s2, s3, s4, s5, s7, qi_ite2, ab_bit0, ab_bit1, qi_ite, ql_ite, Nat.reduceLeDiff, d128, d16, d8, d4, d1000, d100, d10, if_true, if_false, ite_self, tn0, tn1, tn2, tn3, tn4, tn5, tn6, tn7, tn8, tn9, tn10, tn11, tn12, tn13, tn14, tn15, tn16, tn17, tn18, tn19, Int32.reduceAdd, Int32.reduceMul, Int32.reduceSub, Int32.reduceDiv, Int32.reduceLT, Int32.reduceLE, Int32.reduceToNatClampNeg, i10, i01, ↓reduceIte, if_true, if_false, r0, r1, r2]
    exact hQ 2 ⟨fun _ => by decide, fun h => absurd hs h⟩
  have r2 : (61 = (nI k).toInt8.toInt32) = False := eq_false (fun h => q2 (s2'.mp h))
  by_cases q3 : nI k = 43
  · have r3 : (43 = (nI k).toInt8.toInt32) = True := eq_true (s3'.mpr q3)
    have hs : isSg (nI k) = true := by rw [q3]; decide
    rw [e36]
    simp (disch := decide) only [e36, k36_0, k36_1, k36_2, k36_3, k36_6, e37, k37_0, k37_1, k37_4, k37_7, k37_8, k37_11, k37_12, k37_13, k37_14, k37_17, k37_20, k37_23, k37_24, k37_27, k37_28, k37_29, k37_30, k37_36, e38, k38_0, k38_1, k38_4, k38_7, k38_8, k38_9, k38_10, k38_11, k38_14, k38_15, k38_16, k38_17, k38_18, k38_21, k38_22, k38_23, k38_24, k38_27, k38_28, k38_29, k38_30, k38_31, k38_32, k38_33, k38_36, e39, k39_0, k39_1, k39_4, k39_5, k39_8, k39_11, k39_12, k39_15, k39_16, e41, k41_0, k41_1, k41_2, k41_4, k41_5, k41_7, k41_9, k41_10, k41_13, k41_14, k41_16, k41_17, k41_19, k41_22, k41_24, k41_25, k41_28, k41_31, k41_32, e29, k29_0, k29_3, k29_6, k29_7, k29_10, k29_13, k29_14, k29_17, k29_18, c_len7 hl, c_Math_max, c_Math_min, nb0, n1z, z31, t1, t2, t3, t4, t5, t6, t7, m0, m1, m2, m3, v0, y0, v1, y1, v2, y2, v3, y3, v4, y4, v5, y5, v6, y6, v7, y7, v8, y8, ab_inv_I, ab_inv_R, ab_inv_L, ab_inv_0, ab_push_some, ab_push_none, ab_E_sw, ab_E_sw0, true_and, and_true, not_false_eq_true, bit_ite, s2, s3, s4, s5, s7, qi_ite2, ab_bit0, ab_bit1, qi_ite, ql_ite, Nat.reduceLeDiff, d128, d16, d8, d4, d1000, d100, d10, if_true, if_false, ite_self, tn0, tn1, tn2, tn3, tn4, tn5, tn6, tn7, tn8, tn9, tn10, tn11, tn12, tn13, tn14, tn15, tn16, tn17, tn18, tn19, Int32.reduceAdd, Int32.reduceMul, Int32.reduceSub, Int32.reduceDiv, Int32.reduceLT, Int32.reduceLE, Int32.reduceToNatClampNeg, i10, i01, ↓reduceIte, if_true, if_false, r0, r1, r2, r3]
    exact hQ 3 ⟨fun _ => by decide, fun h => absurd hs h⟩
  have r3 : (43 = (nI k).toInt8.toInt32) = False := eq_false (fun h => q3 (s3'.mp h))
  by_cases q4 : nI k = 45
  · have r4 : (45 = (nI k).toInt8.toInt32) = True := eq_true (s4'.mpr q4)
    have hs : isSg (nI k) = true := by rw [q4]; decide
    rw [e36]
    simp (disch := decide) only [e36, k36_0, k36_1, k36_2, k36_3, k36_6, e37, k37_0, k37_1, k37_4, k37_7, k37_8, k37_11, k37_12, k37_13, k37_14, k37_17, k37_20, k37_23, k37_24, k37_27, k37_28, k37_29, k37_30, k37_36, e38, k38_0, k38_1, k38_4, k38_7, k38_8, k38_9, k38_10, k38_11, k38_14, k38_15, k38_16, k38_17, k38_18, k38_21, k38_22, k38_23, k38_24, k38_27, k38_28, k38_29, k38_30, k38_31, k38_32, k38_33, k38_36, e39, k39_0, k39_1, k39_4, k39_5, k39_8, k39_11, k39_12, k39_15, k39_16, e41, k41_0, k41_1, k41_2, k41_4, k41_5, k41_7, k41_9, k41_10, k41_13, k41_14, k41_16, k41_17, k41_19, k41_22, k41_24, k41_25, k41_28, k41_31, k41_32, e29, k29_0, k29_3, k29_6, k29_7, k29_10, k29_13, k29_14, k29_17, k29_18, c_len7 hl, c_Math_max, c_Math_min, nb0, n1z, z31, t1, t2, t3, t4, t5, t6, t7, m0, m1, m2, m3, v0, y0, v1, y1, v2, y2, v3, y3, v4, y4, v5, y5, v6, y6, v7, y7, v8, y8, ab_inv_I, ab_inv_R, ab_inv_L, ab_inv_0, ab_push_some, ab_push_none, ab_E_sw, ab_E_sw0, true_and, and_true, not_false_eq_true, bit_ite, s2, s3, s4, s5, s7, qi_ite2, ab_bit0, ab_bit1, qi_ite, ql_ite, Nat.reduceLeDiff, d128, d16, d8, d4, d1000, d100, d10, if_true, if_false, ite_self, tn0, tn1, tn2, tn3, tn4, tn5, tn6, tn7, tn8, tn9, tn10, tn11, tn12, tn13, tn14, tn15, tn16, tn17, tn18, tn19, Int32.reduceAdd, Int32.reduceMul, Int32.reduceSub, Int32.reduceDiv, Int32.reduceLT, Int32.reduceLE, Int32.reduceToNatClampNeg, i10, i01, ↓reduceIte, if_true, if_false, r0, r1, r2, r3, r4]
    exact hQ 4 ⟨fun _ => by decide, fun h => absurd hs h⟩
  have r4 : (45 = (nI k).toInt8.toInt32) = False := eq_false (fun h => q4 (s4'.mp h))
  by_cases q5 : nI k = 42
  · have r5 : (42 = (nI k).toInt8.toInt32) = True := eq_true (s5'.mpr q5)
    have hs : isSg (nI k) = true := by rw [q5]; decide
    rw [e36]
    simp (disch := decide) only [e36, k36_0, k36_1, k36_2, k36_3, k36_6, e37, k37_0, k37_1, k37_4, k37_7, k37_8, k37_11, k37_12, k37_13, k37_14, k37_17, k37_20, k37_23, k37_24, k37_27, k37_28, k37_29, k37_30, k37_36, e38, k38_0, k38_1, k38_4, k38_7, k38_8, k38_9, k38_10, k38_11, k38_14, k38_15, k38_16, k38_17, k38_18, k38_21, k38_22, k38_23, k38_24, k38_27, k38_28, k38_29, k38_30, k38_31, k38_32, k38_33, k38_36, e39, k39_0, k39_1, k39_4, k39_5, k39_8, k39_11, k39_12, k39_15, k39_16, e41, k41_0, k41_1, k41_2, k41_4, k41_5, k41_7, k41_9, k41_10, k41_13, k41_14, k41_16, k41_17, k41_19, k41_22, k41_24, k41_25, k41_28, k41_31, k41_32, e29, k29_0, k29_3, k29_6, k29_7, k29_10, k29_13, k29_14, k29_17, k29_18, c_len7 hl, c_Math_max, c_Math_min, nb0, n1z, z31, t1, t2, t3, t4, t5, t6, t7, m0, m1, m2, m3, v0, y0, v1, y1, v2, y2, v3, y3, v4, y4, v5, y5, v6, y6, v7, y7, v8, y8, ab_inv_I, ab_inv_R, ab_inv_L, ab_inv_0, ab_push_some, ab_push_none, ab_E_sw, ab_E_sw0, true_and, and_true, not_false_eq_true, bit_ite, s2, s3, s4, s5, s7, qi_ite2, ab_bit0, ab_bit1, qi_ite, ql_ite, Nat.reduceLeDiff, d128, d16, d8, d4, d1000, d100, d10, if_true, if_false, ite_self, tn0, tn1, tn2, tn3, tn4, tn5, tn6, tn7, tn8, tn9, tn10, tn11, tn12, tn13, tn14, tn15, tn16, tn17, tn18, tn19, Int32.reduceAdd, Int32.reduceMul, Int32.reduceSub, Int32.reduceDiv, Int32.reduceLT, Int32.reduceLE, Int32.reduceToNatClampNeg, i10, i01, ↓reduceIte, if_true, if_false, r0, r1, r2, r3, r4, r5]
    exact hQ 5 ⟨fun _ => by decide, fun h => absurd hs h⟩
  have r5 : (42 = (nI k).toInt8.toInt32) = False := eq_false (fun h => q5 (s5'.mp h))
  by_cases q6 : nI k = 47
  · have r6 : (47 = (nI k).toInt8.toInt32) = True := eq_true (s6.mpr q6)
    have hs : isSg (nI k) = true := by rw [q6]; decide
    rw [e36]
    simp (disch := decide) only [e36, k36_0, k36_1, k36_2, k36_3, k36_6, e37, k37_0, k37_1, k37_4, k37_7, k37_8, k37_11, k37_12, k37_13, k37_14, k37_17, k37_20, k37_23, k37_24, k37_27, k37_28, k37_29, k37_30, k37_36, e38, k38_0, k38_1, k38_4, k38_7, k38_8, k38_9, k38_10, k38_11, k38_14, k38_15, k38_16, k38_17, k38_18, k38_21, k38_22, k38_23, k38_24, k38_27, k38_28, k38_29, k38_30, k38_31, k38_32, k38_33, k38_36, e39, k39_0, k39_1, k39_4, k39_5, k39_8, k39_11, k39_12, k39_15, k39_16, e41, k41_0, k41_1, k41_2, k41_4, k41_5, k41_7, k41_9, k41_10, k41_13, k41_14, k41_16, k41_17, k41_19, k41_22, k41_24, k41_25, k41_28, k41_31, k41_32, e29, k29_0, k29_3, k29_6, k29_7, k29_10, k29_13, k29_14, k29_17, k29_18, c_len7 hl, c_Math_max, c_Math_min, nb0, n1z, z31, t1, t2, t3, t4, t5, t6, t7, m0, m1, m2, m3, v0, y0, v1, y1, v2, y2, v3, y3, v4, y4, v5, y5, v6, y6, v7, y7, v8, y8, ab_inv_I, ab_inv_R, ab_inv_L, ab_inv_0, ab_push_some, ab_push_none, ab_E_sw, ab_E_sw0, true_and, and_true, not_false_eq_true, bit_ite, s2, s3, s4, s5, s7, qi_ite2, ab_bit0, ab_bit1, qi_ite, ql_ite, Nat.reduceLeDiff, d128, d16, d8, d4, d1000, d100, d10, if_true, if_false, ite_self, tn0, tn1, tn2, tn3, tn4, tn5, tn6, tn7, tn8, tn9, tn10, tn11, tn12, tn13, tn14, tn15, tn16, tn17, tn18, tn19, Int32.reduceAdd, Int32.reduceMul, Int32.reduceSub, Int32.reduceDiv, Int32.reduceLT, Int32.reduceLE, Int32.reduceToNatClampNeg, i10, i01, ↓reduceIte, if_true, if_false, r0, r1, r2, r3, r4, r5, r6]
    exact hQ 6 ⟨fun _ => by decide, fun h => absurd hs h⟩
  have r6 : (47 = (nI k).toInt8.toInt32) = False := eq_false (fun h => q6 (s6.mp h))
  by_cases q7 : nI k = 40
  · have r7 : (40 = (nI k).toInt8.toInt32) = True := eq_true (s7'.mpr q7)
    have hs : isSg (nI k) = true := by rw [q7]; decide
    rw [e36]
    simp (disch := decide) only [e36, k36_0, k36_1, k36_2, k36_3, k36_6, e37, k37_0, k37_1, k37_4, k37_7, k37_8, k37_11, k37_12, k37_13, k37_14, k37_17, k37_20, k37_23, k37_24, k37_27, k37_28, k37_29, k37_30, k37_36, e38, k38_0, k38_1, k38_4, k38_7, k38_8, k38_9, k38_10, k38_11, k38_14, k38_15, k38_16, k38_17, k38_18, k38_21, k38_22, k38_23, k38_24, k38_27, k38_28, k38_29, k38_30, k38_31, k38_32, k38_33, k38_36, e39, k39_0, k39_1, k39_4, k39_5, k39_8, k39_11, k39_12, k39_15, k39_16, e41, k41_0, k41_1, k41_2, k41_4, k41_5, k41_7, k41_9, k41_10, k41_13, k41_14, k41_16, k41_17, k41_19, k41_22, k41_24, k41_25, k41_28, k41_31, k41_32, e29, k29_0, k29_3, k29_6, k29_7, k29_10, k29_13, k29_14, k29_17, k29_18, c_len7 hl, c_Math_max, c_Math_min, nb0, n1z, z31, t1, t2, t3, t4, t5, t6, t7, m0, m1, m2, m3, v0, y0, v1, y1, v2, y2, v3, y3, v4, y4, v5, y5, v6, y6, v7, y7, v8, y8, ab_inv_I, ab_inv_R, ab_inv_L, ab_inv_0, ab_push_some, ab_push_none, ab_E_sw, ab_E_sw0, true_and, and_true, not_false_eq_true, bit_ite, s2, s3, s4, s5, s7, qi_ite2, ab_bit0, ab_bit1, qi_ite, ql_ite, Nat.reduceLeDiff, d128, d16, d8, d4, d1000, d100, d10, if_true, if_false, ite_self, tn0, tn1, tn2, tn3, tn4, tn5, tn6, tn7, tn8, tn9, tn10, tn11, tn12, tn13, tn14, tn15, tn16, tn17, tn18, tn19, Int32.reduceAdd, Int32.reduceMul, Int32.reduceSub, Int32.reduceDiv, Int32.reduceLT, Int32.reduceLE, Int32.reduceToNatClampNeg, i10, i01, ↓reduceIte, if_true, if_false, r0, r1, r2, r3, r4, r5, r6, r7]
    exact hQ 7 ⟨fun _ => by decide, fun h => absurd hs h⟩
  have r7 : (40 = (nI k).toInt8.toInt32) = False := eq_false (fun h => q7 (s7'.mp h))
  by_cases q8 : nI k = 41
  · have r8 : (41 = (nI k).toInt8.toInt32) = True := eq_true (s8.mpr q8)
    have hs : isSg (nI k) = true := by rw [q8]; decide
    rw [e36]
    simp (disch := decide) only [e36, k36_0, k36_1, k36_2, k36_3, k36_6, e37, k37_0, k37_1, k37_4, k37_7, k37_8, k37_11, k37_12, k37_13, k37_14, k37_17, k37_20, k37_23, k37_24, k37_27, k37_28, k37_29, k37_30, k37_36, e38, k38_0, k38_1, k38_4, k38_7, k38_8, k38_9, k38_10, k38_11, k38_14, k38_15, k38_16, k38_17, k38_18, k38_21, k38_22, k38_23, k38_24, k38_27, k38_28, k38_29, k38_30, k38_31, k38_32, k38_33, k38_36, e39, k39_0, k39_1, k39_4, k39_5, k39_8, k39_11, k39_12, k39_15, k39_16, e41, k41_0, k41_1, k41_2, k41_4, k41_5, k41_7, k41_9, k41_10, k41_13, k41_14, k41_16, k41_17, k41_19, k41_22, k41_24, k41_25, k41_28, k41_31, k41_32, e29, k29_0, k29_3, k29_6, k29_7, k29_10, k29_13, k29_14, k29_17, k29_18, c_len7 hl, c_Math_max, c_Math_min, nb0, n1z, z31, t1, t2, t3, t4, t5, t6, t7, m0, m1, m2, m3, v0, y0, v1, y1, v2, y2, v3, y3, v4, y4, v5, y5, v6, y6, v7, y7, v8, y8, ab_inv_I, ab_inv_R, ab_inv_L, ab_inv_0, ab_push_some, ab_push_none, ab_E_sw, ab_E_sw0, true_and, and_true, not_false_eq_true, bit_ite, s2, s3, s4, s5, s7, qi_ite2, ab_bit0, ab_bit1, qi_ite, ql_ite, Nat.reduceLeDiff, d128, d16, d8, d4, d1000, d100, d10, if_true, if_false, ite_self, tn0, tn1, tn2, tn3, tn4, tn5, tn6, tn7, tn8, tn9, tn10, tn11, tn12, tn13, tn14, tn15, tn16, tn17, tn18, tn19, Int32.reduceAdd, Int32.reduceMul, Int32.reduceSub, Int32.reduceDiv, Int32.reduceLT, Int32.reduceLE, Int32.reduceToNatClampNeg, i10, i01, ↓reduceIte, if_true, if_false, r0, r1, r2, r3, r4, r5, r6, r7, r8]
    exact hQ 8 ⟨fun _ => by decide, fun h => absurd hs h⟩
  have r8 : (41 = (nI k).toInt8.toInt32) = False := eq_false (fun h => q8 (s8.mp h))
  have hs : ¬ isSg (nI k) = true := by
    unfold isSg
    simp only [decide_eq_true_eq, not_or]
    exact ⟨q0, q1, q2, q3, q4, q5, q6, q7, q8⟩
  rw [e36]
  simp (disch := decide) only [e36, k36_0, k36_1, k36_2, k36_3, k36_6, e37, k37_0, k37_1, k37_4, k37_7, k37_8, k37_11, k37_12, k37_13, k37_14, k37_17, k37_20, k37_23, k37_24, k37_27, k37_28, k37_29, k37_30, k37_36, e38, k38_0, k38_1, k38_4, k38_7, k38_8, k38_9, k38_10, k38_11, k38_14, k38_15, k38_16, k38_17, k38_18, k38_21, k38_22, k38_23, k38_24, k38_27, k38_28, k38_29, k38_30, k38_31, k38_32, k38_33, k38_36, e39, k39_0, k39_1, k39_4, k39_5, k39_8, k39_11, k39_12, k39_15, k39_16, e41, k41_0, k41_1, k41_2, k41_4, k41_5, k41_7, k41_9, k41_10, k41_13, k41_14, k41_16, k41_17, k41_19, k41_22, k41_24, k41_25, k41_28, k41_31, k41_32, e29, k29_0, k29_3, k29_6, k29_7, k29_10, k29_13, k29_14, k29_17, k29_18, c_len7 hl, c_Math_max, c_Math_min, nb0, n1z, z31, t1, t2, t3, t4, t5, t6, t7, m0, m1, m2, m3, v0, y0, v1, y1, v2, y2, v3, y3, v4, y4, v5, y5, v6, y6, v7, y7, v8, y8, ab_inv_I, ab_inv_R, ab_inv_L, ab_inv_0, ab_push_some, ab_push_none, ab_E_sw, ab_E_sw0, true_and, and_true, not_false_eq_true, bit_ite, s2, s3, s4, s5, s7, qi_ite2, ab_bit0, ab_bit1, qi_ite, ql_ite, Nat.reduceLeDiff, d128, d16, d8, d4, d1000, d100, d10, if_true, if_false, ite_self, tn0, tn1, tn2, tn3, tn4, tn5, tn6, tn7, tn8, tn9, tn10, tn11, tn12, tn13, tn14, tn15, tn16, tn17, tn18, tn19, Int32.reduceAdd, Int32.reduceMul, Int32.reduceSub, Int32.reduceDiv, Int32.reduceLT, Int32.reduceLE, Int32.reduceToNatClampNeg, i10, i01, ↓reduceIte, if_true, if_false, r0, r1, r2, r3, r4, r5, r6, r7, r8]
  exact hQ (-1) ⟨fun h => absurd h hs, fun _ => by decide⟩
set_option maxRecDepth 20000 in
theorem c_Tr_isLetter {x : Int32} : ab_run (d + 1) 22 [vI x] g I J Q ↔ Q (some (vI (if x < 97 then 0 else if 122 < x then 0 else 1))) g I J := by
  rw [e22]
  simp only [k22_0, k22_1, k22_3, k22_6, k22_7, k22_9, k22_12, k22_13, k22_16, k22_17, ab_inv_I, ab_inv_R, ab_inv_L, ab_inv_0, ab_push_some, ab_push_none, ab_E_sw, ab_E_sw0, true_and, and_true, not_false_eq_true, bit_ite, s2, s3, s4, s5, s7, qi_ite2, ab_bit0, ab_bit1, qi_ite, ql_ite, Nat.reduceLeDiff, d128, d16, d8, d4, d1000, d100, d10, if_true, if_false, ite_self, tn0, tn1, tn2, tn3, tn4, tn5, tn6, tn7, tn8, tn9, tn10, tn11, tn12, tn13, tn14, tn15, tn16, tn17, tn18, tn19]
set_option maxRecDepth 20000 in
theorem c_Tr_isDigit {x : Int32} : ab_run (d + 1) 33 [vI x] g I J Q ↔ Q (some (vI (if x < 48 then 0 else if 57 < x then 0 else 1))) g I J := by
  rw [e33]
  simp only [k33_0, k33_1, k33_3, k33_6, k33_7, k33_9, k33_12, k33_13, k33_16, k33_17, ab_inv_I, ab_inv_R, ab_inv_L, ab_inv_0, ab_push_some, ab_push_none, ab_E_sw, ab_E_sw0, true_and, and_true, not_false_eq_true, bit_ite, s2, s3, s4, s5, s7, qi_ite2, ab_bit0, ab_bit1, qi_ite, ql_ite, Nat.reduceLeDiff, d128, d16, d8, d4, d1000, d100, d10, if_true, if_false, ite_self, tn0, tn1, tn2, tn3, tn4, tn5, tn6, tn7, tn8, tn9, tn10, tn11, tn12, tn13, tn14, tn15, tn16, tn17, tn18, tn19]
theorem isLe_1 {x : Int32} (h : isLe x = true) : (if x < 97 then (0 : Int32) else if 122 < x then 0 else 1) = 1 := by
  unfold isLe at h
  have := of_decide_eq_true h
  rw [if_neg this.1, if_neg this.2]
theorem isLe_0 {x : Int32} (h : ¬ isLe x = true) : (if x < 97 then (0 : Int32) else if 122 < x then 0 else 1) = 0 := by
  unfold isLe at h
  simp only [decide_eq_true_eq] at h
  by_cases q : x < 97
  · rw [if_pos q]
  · rw [if_neg q, if_pos (Classical.byContradiction fun k => h ⟨q, k⟩)]
theorem isDi_1 {x : Int32} (h : isDi x = true) : (if x < 48 then (0 : Int32) else if 57 < x then 0 else 1) = 1 := by
  unfold isDi at h
  have := of_decide_eq_true h
  rw [if_neg this.1, if_neg this.2]
theorem isDi_0 {x : Int32} (h : ¬ isDi x = true) : (if x < 48 then (0 : Int32) else if 57 < x then 0 else 1) = 0 := by
  unfold isDi at h
  simp only [decide_eq_true_eq] at h
  by_cases q : x < 48
  · rw [if_pos q]
  · rw [if_neg q, if_pos (Classical.byContradiction fun k => h ⟨q, k⟩)]
end P60
