/-! ===== tokens: words and numbers ===== -/
/-- k letters in whole numbers -/
def wI (x : Nat → Int) : Nat → Int
  | 0 => 0
  | k + 1 => 27 * wI x k + x k
theorem wI_b {x : Nat → Int} (n : Nat) (hx : ∀ i, i < n → 1 ≤ x i ∧ x i ≤ 26) : ∀ k, k ≤ n → 0 ≤ wI x k ∧ wI x k < 27 ^ k := by
  intro k
  induction k with
  | zero => intro _; exact ⟨Int.le_refl _, by simp [wI]⟩
  | succ k ih =>
    intro hk
    have h1 := ih (by omega)
    have h2 := hx k (by omega)
    refine ⟨by unfold wI; omega, ?_⟩
    unfold wI
    rw [Int.pow_succ]
    omega
theorem wvf_K {b : Nat → Int32} {a : Nat} (n : Nat) (hx : ∀ i, i < n → 1 ≤ (b (a + i)).toInt - 96 ∧ (b (a + i)).toInt - 96 ≤ 26) : ∀ k, k ≤ n → k ≤ 6 → wvf b a k = iK (wI (fun i => (b (a + i)).toInt - 96) k) := by
  intro k
  induction k with
  | zero => intro _ _; rfl
  | succ k ih =>
    intro h1 h2
    have e : wvf b a (k + 1) = 27 * wvf b a k + b (a + k) - 96 := by
      show (if k < 6 then 27 * wvf b a k + b (a + k) - 96 else -1) = _
      rw [if_pos (by omega)]
    rw [e, ih (by omega) (by omega)]
    have e2 : (27 : Int32) * iK (wI (fun i => (b (a + i)).toInt - 96) k) + b (a + k) - 96 = iK (27 * wI (fun i => (b (a + i)).toInt - 96) k + (b (a + k)).toInt - 96) := by
      rw [← iK_sub, ← iK_add, ← iK_mul, iK_self]; rfl
    rw [e2]
    congr 1
    show _ = 27 * wI (fun i => (b (a + i)).toInt - 96) k + ((b (a + k)).toInt - 96)
    omega
theorem wvf_7 {b : Nat → Int32} {a k : Nat} (h : 7 ≤ k) : wvf b a k = -1 := by
  cases k with
  | zero => omega
  | succ k => show (if k < 6 then 27 * wvf b a k + b (a + k) - 96 else -1) = _; rw [if_neg (by omega)]
theorem ch_eq {x : Int32} {c : Int} (h : (iK c).toInt = c) : x = iK c ↔ x.toInt = c := by
  rw [← Int32.toInt_inj, h]
theorem word0 {b : Nat → Int32} {a e : Nat} (hae : a < e) (hx : ∀ i, i < e - a → 1 ≤ (b (a + i)).toInt - 96 ∧ (b (a + i)).toInt - 96 ≤ 26) : sp0 b a e ↔ wvf b a (e - a) = 1 := by
  have hc : ∀ (x : Int32) (c : Int), -2147483648 ≤ c ∧ c < 2147483648 → (x = iK c ↔ x.toInt = c) := fun x c h => ch_eq (iK_toInt h)
  generalize hk : e - a = k at hx
  have he : e = a + k := by omega
  subst he
  unfold sp0
  by_cases h7 : 7 ≤ k
  · rw [wvf_7 h7]
    constructor
    · intro h; omega
    · intro h; exact absurd h (by decide)
  · rw [wvf_K k hx k (Nat.le_refl _) (by omega)]
    have hb := wI_b (x := fun i => (b (a + i)).toInt - 96) k hx k (Nat.le_refl _)
    have p6 : (27 : Int) ^ k ≤ 27 ^ 6 := by
      have : k = 0 ∨ k = 1 ∨ k = 2 ∨ k = 3 ∨ k = 4 ∨ k = 5 ∨ k = 6 := by omega
      rcases this with rfl | rfl | rfl | rfl | rfl | rfl | rfl <;> decide
    have eH : (iK (wI (fun i => (b (a + i)).toInt - 96) k) = 1) = (wI (fun i => (b (a + i)).toInt - 96) k = 1) := iK_eq (b := 1) (by omega) (by omega)
    rw [eH]
    have cases : k = 1 ∨ k = 2 ∨ k = 3 ∨ k = 4 ∨ k = 5 ∨ k = 6 := by omega
    rcases cases with rfl | rfl | rfl | rfl | rfl | rfl
    · have x0 := hx 0 (by omega)
      simp only [wI] at *
      have c0 := hc (b (a + 0)) 97 (by omega)
      constructor
      · intro h
        obtain ⟨_, y0⟩ := h
        have z0 := c0.mp y0
        omega
      · intro h
        refine ⟨by first | trivial | rfl, ?_⟩
        · exact c0.mpr (by omega)
    · have x0 := hx 0 (by omega)
      have x1 := hx 1 (by omega)
      simp only [wI] at *
      constructor
      · intro h; omega
      · intro h; omega
    · have x0 := hx 0 (by omega)
      have x1 := hx 1 (by omega)
      have x2 := hx 2 (by omega)
      simp only [wI] at *
      constructor
      · intro h; omega
      · intro h; omega
    · have x0 := hx 0 (by omega)
      have x1 := hx 1 (by omega)
      have x2 := hx 2 (by omega)
      have x3 := hx 3 (by omega)
      simp only [wI] at *
      constructor
      · intro h; omega
      · intro h; omega
    · have x0 := hx 0 (by omega)
      have x1 := hx 1 (by omega)
      have x2 := hx 2 (by omega)
      have x3 := hx 3 (by omega)
      have x4 := hx 4 (by omega)
      simp only [wI] at *
      constructor
      · intro h; omega
      · intro h; omega
    · have x0 := hx 0 (by omega)
      have x1 := hx 1 (by omega)
      have x2 := hx 2 (by omega)
      have x3 := hx 3 (by omega)
      have x4 := hx 4 (by omega)
      have x5 := hx 5 (by omega)
      simp only [wI] at *
      constructor
      · intro h; omega
      · intro h; omega
theorem word1 {b : Nat → Int32} {a e : Nat} (hae : a < e) (hx : ∀ i, i < e - a → 1 ≤ (b (a + i)).toInt - 96 ∧ (b (a + i)).toInt - 96 ≤ 26) : sp1 b a e ↔ wvf b a (e - a) = 2 := by
  have hc : ∀ (x : Int32) (c : Int), -2147483648 ≤ c ∧ c < 2147483648 → (x = iK c ↔ x.toInt = c) := fun x c h => ch_eq (iK_toInt h)
  generalize hk : e - a = k at hx
  have he : e = a + k := by omega
  subst he
  unfold sp1
  by_cases h7 : 7 ≤ k
  · rw [wvf_7 h7]
    constructor
    · intro h; omega
    · intro h; exact absurd h (by decide)
  · rw [wvf_K k hx k (Nat.le_refl _) (by omega)]
    have hb := wI_b (x := fun i => (b (a + i)).toInt - 96) k hx k (Nat.le_refl _)
    have p6 : (27 : Int) ^ k ≤ 27 ^ 6 := by
      have : k = 0 ∨ k = 1 ∨ k = 2 ∨ k = 3 ∨ k = 4 ∨ k = 5 ∨ k = 6 := by omega
      rcases this with rfl | rfl | rfl | rfl | rfl | rfl | rfl <;> decide
    have eH : (iK (wI (fun i => (b (a + i)).toInt - 96) k) = 2) = (wI (fun i => (b (a + i)).toInt - 96) k = 2) := iK_eq (b := 2) (by omega) (by omega)
    rw [eH]
    have cases : k = 1 ∨ k = 2 ∨ k = 3 ∨ k = 4 ∨ k = 5 ∨ k = 6 := by omega
    rcases cases with rfl | rfl | rfl | rfl | rfl | rfl
    · have x0 := hx 0 (by omega)
      simp only [wI] at *
      have c0 := hc (b (a + 0)) 98 (by omega)
      constructor
      · intro h
        obtain ⟨_, y0⟩ := h
        have z0 := c0.mp y0
        omega
      · intro h
        refine ⟨by first | trivial | rfl, ?_⟩
        · exact c0.mpr (by omega)
    · have x0 := hx 0 (by omega)
      have x1 := hx 1 (by omega)
      simp only [wI] at *
      constructor
      · intro h; omega
      · intro h; omega
    · have x0 := hx 0 (by omega)
      have x1 := hx 1 (by omega)
      have x2 := hx 2 (by omega)
      simp only [wI] at *
      constructor
      · intro h; omega
      · intro h; omega
    · have x0 := hx 0 (by omega)
      have x1 := hx 1 (by omega)
      have x2 := hx 2 (by omega)
      have x3 := hx 3 (by omega)
      simp only [wI] at *
      constructor
      · intro h; omega
      · intro h; omega
    · have x0 := hx 0 (by omega)
      have x1 := hx 1 (by omega)
      have x2 := hx 2 (by omega)
      have x3 := hx 3 (by omega)
      have x4 := hx 4 (by omega)
      simp only [wI] at *
      constructor
      · intro h; omega
      · intro h; omega
    · have x0 := hx 0 (by omega)
      have x1 := hx 1 (by omega)
      have x2 := hx 2 (by omega)
      have x3 := hx 3 (by omega)
      have x4 := hx 4 (by omega)
      have x5 := hx 5 (by omega)
      simp only [wI] at *
      constructor
      · intro h; omega
      · intro h; omega
theorem word2 {b : Nat → Int32} {a e : Nat} (hae : a < e) (hx : ∀ i, i < e - a → 1 ≤ (b (a + i)).toInt - 96 ∧ (b (a + i)).toInt - 96 ≤ 26) : sp2 b a e ↔ wvf b a (e - a) = 7 := by
  have hc : ∀ (x : Int32) (c : Int), -2147483648 ≤ c ∧ c < 2147483648 → (x = iK c ↔ x.toInt = c) := fun x c h => ch_eq (iK_toInt h)
  generalize hk : e - a = k at hx
  have he : e = a + k := by omega
  subst he
  unfold sp2
  by_cases h7 : 7 ≤ k
  · rw [wvf_7 h7]
    constructor
    · intro h; omega
    · intro h; exact absurd h (by decide)
  · rw [wvf_K k hx k (Nat.le_refl _) (by omega)]
    have hb := wI_b (x := fun i => (b (a + i)).toInt - 96) k hx k (Nat.le_refl _)
    have p6 : (27 : Int) ^ k ≤ 27 ^ 6 := by
      have : k = 0 ∨ k = 1 ∨ k = 2 ∨ k = 3 ∨ k = 4 ∨ k = 5 ∨ k = 6 := by omega
      rcases this with rfl | rfl | rfl | rfl | rfl | rfl | rfl <;> decide
    have eH : (iK (wI (fun i => (b (a + i)).toInt - 96) k) = 7) = (wI (fun i => (b (a + i)).toInt - 96) k = 7) := iK_eq (b := 7) (by omega) (by omega)
    rw [eH]
    have cases : k = 1 ∨ k = 2 ∨ k = 3 ∨ k = 4 ∨ k = 5 ∨ k = 6 := by omega
    rcases cases with rfl | rfl | rfl | rfl | rfl | rfl
    · have x0 := hx 0 (by omega)
      simp only [wI] at *
      have c0 := hc (b (a + 0)) 103 (by omega)
      constructor
      · intro h
        obtain ⟨_, y0⟩ := h
        have z0 := c0.mp y0
        omega
      · intro h
        refine ⟨by first | trivial | rfl, ?_⟩
        · exact c0.mpr (by omega)
    · have x0 := hx 0 (by omega)
      have x1 := hx 1 (by omega)
      simp only [wI] at *
      constructor
      · intro h; omega
      · intro h; omega
    · have x0 := hx 0 (by omega)
      have x1 := hx 1 (by omega)
      have x2 := hx 2 (by omega)
      simp only [wI] at *
      constructor
      · intro h; omega
      · intro h; omega
    · have x0 := hx 0 (by omega)
      have x1 := hx 1 (by omega)
      have x2 := hx 2 (by omega)
      have x3 := hx 3 (by omega)
      simp only [wI] at *
      constructor
      · intro h; omega
      · intro h; omega
    · have x0 := hx 0 (by omega)
      have x1 := hx 1 (by omega)
      have x2 := hx 2 (by omega)
      have x3 := hx 3 (by omega)
      have x4 := hx 4 (by omega)
      simp only [wI] at *
      constructor
      · intro h; omega
      · intro h; omega
    · have x0 := hx 0 (by omega)
      have x1 := hx 1 (by omega)
      have x2 := hx 2 (by omega)
      have x3 := hx 3 (by omega)
      have x4 := hx 4 (by omega)
      have x5 := hx 5 (by omega)
      simp only [wI] at *
      constructor
      · intro h; omega
      · intro h; omega
theorem word3 {b : Nat → Int32} {a e : Nat} (hae : a < e) (hx : ∀ i, i < e - a → 1 ≤ (b (a + i)).toInt - 96 ∧ (b (a + i)).toInt - 96 ≤ 26) : sp3 b a e ↔ wvf b a (e - a) = 8 := by
  have hc : ∀ (x : Int32) (c : Int), -2147483648 ≤ c ∧ c < 2147483648 → (x = iK c ↔ x.toInt = c) := fun x c h => ch_eq (iK_toInt h)
  generalize hk : e - a = k at hx
  have he : e = a + k := by omega
  subst he
  unfold sp3
  by_cases h7 : 7 ≤ k
  · rw [wvf_7 h7]
    constructor
    · intro h; omega
    · intro h; exact absurd h (by decide)
  · rw [wvf_K k hx k (Nat.le_refl _) (by omega)]
    have hb := wI_b (x := fun i => (b (a + i)).toInt - 96) k hx k (Nat.le_refl _)
    have p6 : (27 : Int) ^ k ≤ 27 ^ 6 := by
      have : k = 0 ∨ k = 1 ∨ k = 2 ∨ k = 3 ∨ k = 4 ∨ k = 5 ∨ k = 6 := by omega
      rcases this with rfl | rfl | rfl | rfl | rfl | rfl | rfl <;> decide
    have eH : (iK (wI (fun i => (b (a + i)).toInt - 96) k) = 8) = (wI (fun i => (b (a + i)).toInt - 96) k = 8) := iK_eq (b := 8) (by omega) (by omega)
    rw [eH]
    have cases : k = 1 ∨ k = 2 ∨ k = 3 ∨ k = 4 ∨ k = 5 ∨ k = 6 := by omega
    rcases cases with rfl | rfl | rfl | rfl | rfl | rfl
    · have x0 := hx 0 (by omega)
      simp only [wI] at *
      have c0 := hc (b (a + 0)) 104 (by omega)
      constructor
      · intro h
        obtain ⟨_, y0⟩ := h
        have z0 := c0.mp y0
        omega
      · intro h
        refine ⟨by first | trivial | rfl, ?_⟩
        · exact c0.mpr (by omega)
    · have x0 := hx 0 (by omega)
      have x1 := hx 1 (by omega)
      simp only [wI] at *
      constructor
      · intro h; omega
      · intro h; omega
    · have x0 := hx 0 (by omega)
      have x1 := hx 1 (by omega)
      have x2 := hx 2 (by omega)
      simp only [wI] at *
      constructor
      · intro h; omega
      · intro h; omega
    · have x0 := hx 0 (by omega)
      have x1 := hx 1 (by omega)
      have x2 := hx 2 (by omega)
      have x3 := hx 3 (by omega)
      simp only [wI] at *
      constructor
      · intro h; omega
      · intro h; omega
    · have x0 := hx 0 (by omega)
      have x1 := hx 1 (by omega)
      have x2 := hx 2 (by omega)
      have x3 := hx 3 (by omega)
      have x4 := hx 4 (by omega)
      simp only [wI] at *
      constructor
      · intro h; omega
      · intro h; omega
    · have x0 := hx 0 (by omega)
      have x1 := hx 1 (by omega)
      have x2 := hx 2 (by omega)
      have x3 := hx 3 (by omega)
      have x4 := hx 4 (by omega)
      have x5 := hx 5 (by omega)
      simp only [wI] at *
      constructor
      · intro h; omega
      · intro h; omega
theorem word4 {b : Nat → Int32} {a e : Nat} (hae : a < e) (hx : ∀ i, i < e - a → 1 ≤ (b (a + i)).toInt - 96 ∧ (b (a + i)).toInt - 96 ≤ 26) : sp4 b a e ↔ wvf b a (e - a) = 47328224 := by
  have hc : ∀ (x : Int32) (c : Int), -2147483648 ≤ c ∧ c < 2147483648 → (x = iK c ↔ x.toInt = c) := fun x c h => ch_eq (iK_toInt h)
  generalize hk : e - a = k at hx
  have he : e = a + k := by omega
  subst he
  unfold sp4
  by_cases h7 : 7 ≤ k
  · rw [wvf_7 h7]
    constructor
    · intro h; omega
    · intro h; exact absurd h (by decide)
  · rw [wvf_K k hx k (Nat.le_refl _) (by omega)]
    have hb := wI_b (x := fun i => (b (a + i)).toInt - 96) k hx k (Nat.le_refl _)
    have p6 : (27 : Int) ^ k ≤ 27 ^ 6 := by
      have : k = 0 ∨ k = 1 ∨ k = 2 ∨ k = 3 ∨ k = 4 ∨ k = 5 ∨ k = 6 := by omega
      rcases this with rfl | rfl | rfl | rfl | rfl | rfl | rfl <;> decide
    have eH : (iK (wI (fun i => (b (a + i)).toInt - 96) k) = 47328224) = (wI (fun i => (b (a + i)).toInt - 96) k = 47328224) := iK_eq (b := 47328224) (by omega) (by omega)
    rw [eH]
    have cases : k = 1 ∨ k = 2 ∨ k = 3 ∨ k = 4 ∨ k = 5 ∨ k = 6 := by omega
    rcases cases with rfl | rfl | rfl | rfl | rfl | rfl
    · have x0 := hx 0 (by omega)
      simp only [wI] at *
      constructor
      · intro h; omega
      · intro h; omega
    · have x0 := hx 0 (by omega)
      have x1 := hx 1 (by omega)
      simp only [wI] at *
      constructor
      · intro h; omega
      · intro h; omega
    · have x0 := hx 0 (by omega)
      have x1 := hx 1 (by omega)
      have x2 := hx 2 (by omega)
      simp only [wI] at *
      constructor
      · intro h; omega
      · intro h; omega
    · have x0 := hx 0 (by omega)
      have x1 := hx 1 (by omega)
      have x2 := hx 2 (by omega)
      have x3 := hx 3 (by omega)
      simp only [wI] at *
      constructor
      · intro h; omega
      · intro h; omega
    · have x0 := hx 0 (by omega)
      have x1 := hx 1 (by omega)
      have x2 := hx 2 (by omega)
      have x3 := hx 3 (by omega)
      have x4 := hx 4 (by omega)
      simp only [wI] at *
      constructor
      · intro h; omega
      · intro h; omega
    · have x0 := hx 0 (by omega)
      have x1 := hx 1 (by omega)
      have x2 := hx 2 (by omega)
      have x3 := hx 3 (by omega)
      have x4 := hx 4 (by omega)
      have x5 := hx 5 (by omega)
      simp only [wI] at *
      have c0 := hc (b (a + 0)) 99 (by omega)
      have c1 := hc (b (a + 1)) 104 (by omega)
      have c2 := hc (b (a + 2)) 97 (by omega)
      have c3 := hc (b (a + 3)) 110 (by omega)
      have c4 := hc (b (a + 4)) 99 (by omega)
      have c5 := hc (b (a + 5)) 101 (by omega)
      constructor
      · intro h
        obtain ⟨_, y0, y1, y2, y3, y4, y5⟩ := h
        have z0 := c0.mp y0
        have z1 := c1.mp y1
        have z2 := c2.mp y2
        have z3 := c3.mp y3
        have z4 := c4.mp y4
        have z5 := c5.mp y5
        omega
      · intro h
        refine ⟨by first | trivial | rfl, ?_, ?_, ?_, ?_, ?_, ?_⟩
        · exact c0.mpr (by omega)
        · exact c1.mpr (by omega)
        · exact c2.mpr (by omega)
        · exact c3.mpr (by omega)
        · exact c4.mpr (by omega)
        · exact c5.mpr (by omega)
theorem word5 {b : Nat → Int32} {a e : Nat} (hae : a < e) (hx : ∀ i, i < e - a → 1 ≤ (b (a + i)).toInt - 96 ∧ (b (a + i)).toInt - 96 ≤ 26) : sp5 b a e ↔ wvf b a (e - a) = 381245 := by
  have hc : ∀ (x : Int32) (c : Int), -2147483648 ≤ c ∧ c < 2147483648 → (x = iK c ↔ x.toInt = c) := fun x c h => ch_eq (iK_toInt h)
  generalize hk : e - a = k at hx
  have he : e = a + k := by omega
  subst he
  unfold sp5
  by_cases h7 : 7 ≤ k
  · rw [wvf_7 h7]
    constructor
    · intro h; omega
    · intro h; exact absurd h (by decide)
  · rw [wvf_K k hx k (Nat.le_refl _) (by omega)]
    have hb := wI_b (x := fun i => (b (a + i)).toInt - 96) k hx k (Nat.le_refl _)
    have p6 : (27 : Int) ^ k ≤ 27 ^ 6 := by
      have : k = 0 ∨ k = 1 ∨ k = 2 ∨ k = 3 ∨ k = 4 ∨ k = 5 ∨ k = 6 := by omega
      rcases this with rfl | rfl | rfl | rfl | rfl | rfl | rfl <;> decide
    have eH : (iK (wI (fun i => (b (a + i)).toInt - 96) k) = 381245) = (wI (fun i => (b (a + i)).toInt - 96) k = 381245) := iK_eq (b := 381245) (by omega) (by omega)
    rw [eH]
    have cases : k = 1 ∨ k = 2 ∨ k = 3 ∨ k = 4 ∨ k = 5 ∨ k = 6 := by omega
    rcases cases with rfl | rfl | rfl | rfl | rfl | rfl
    · have x0 := hx 0 (by omega)
      simp only [wI] at *
      constructor
      · intro h; omega
      · intro h; omega
    · have x0 := hx 0 (by omega)
      have x1 := hx 1 (by omega)
      simp only [wI] at *
      constructor
      · intro h; omega
      · intro h; omega
    · have x0 := hx 0 (by omega)
      have x1 := hx 1 (by omega)
      have x2 := hx 2 (by omega)
      simp only [wI] at *
      constructor
      · intro h; omega
      · intro h; omega
    · have x0 := hx 0 (by omega)
      have x1 := hx 1 (by omega)
      have x2 := hx 2 (by omega)
      have x3 := hx 3 (by omega)
      simp only [wI] at *
      have c0 := hc (b (a + 0)) 115 (by omega)
      have c1 := hc (b (a + 1)) 105 (by omega)
      have c2 := hc (b (a + 2)) 122 (by omega)
      have c3 := hc (b (a + 3)) 101 (by omega)
      constructor
      · intro h
        obtain ⟨_, y0, y1, y2, y3⟩ := h
        have z0 := c0.mp y0
        have z1 := c1.mp y1
        have z2 := c2.mp y2
        have z3 := c3.mp y3
        omega
      · intro h
        refine ⟨by first | trivial | rfl, ?_, ?_, ?_, ?_⟩
        · exact c0.mpr (by omega)
        · exact c1.mpr (by omega)
        · exact c2.mpr (by omega)
        · exact c3.mpr (by omega)
    · have x0 := hx 0 (by omega)
      have x1 := hx 1 (by omega)
      have x2 := hx 2 (by omega)
      have x3 := hx 3 (by omega)
      have x4 := hx 4 (by omega)
      simp only [wI] at *
      constructor
      · intro h; omega
      · intro h; omega
    · have x0 := hx 0 (by omega)
      have x1 := hx 1 (by omega)
      have x2 := hx 2 (by omega)
      have x3 := hx 3 (by omega)
      have x4 := hx 4 (by omega)
      have x5 := hx 5 (by omega)
      simp only [wI] at *
      constructor
      · intro h; omega
      · intro h; omega
theorem word6 {b : Nat → Int32} {a e : Nat} (hae : a < e) (hx : ∀ i, i < e - a → 1 ≤ (b (a + i)).toInt - 96 ∧ (b (a + i)).toInt - 96 ≤ 26) : sp6 b a e ↔ wvf b a (e - a) = 316351 := by
  have hc : ∀ (x : Int32) (c : Int), -2147483648 ≤ c ∧ c < 2147483648 → (x = iK c ↔ x.toInt = c) := fun x c h => ch_eq (iK_toInt h)
  generalize hk : e - a = k at hx
  have he : e = a + k := by omega
  subst he
  unfold sp6
  by_cases h7 : 7 ≤ k
  · rw [wvf_7 h7]
    constructor
    · intro h; omega
    · intro h; exact absurd h (by decide)
  · rw [wvf_K k hx k (Nat.le_refl _) (by omega)]
    have hb := wI_b (x := fun i => (b (a + i)).toInt - 96) k hx k (Nat.le_refl _)
    have p6 : (27 : Int) ^ k ≤ 27 ^ 6 := by
      have : k = 0 ∨ k = 1 ∨ k = 2 ∨ k = 3 ∨ k = 4 ∨ k = 5 ∨ k = 6 := by omega
      rcases this with rfl | rfl | rfl | rfl | rfl | rfl | rfl <;> decide
    have eH : (iK (wI (fun i => (b (a + i)).toInt - 96) k) = 316351) = (wI (fun i => (b (a + i)).toInt - 96) k = 316351) := iK_eq (b := 316351) (by omega) (by omega)
    rw [eH]
    have cases : k = 1 ∨ k = 2 ∨ k = 3 ∨ k = 4 ∨ k = 5 ∨ k = 6 := by omega
    rcases cases with rfl | rfl | rfl | rfl | rfl | rfl
    · have x0 := hx 0 (by omega)
      simp only [wI] at *
      constructor
      · intro h; omega
      · intro h; omega
    · have x0 := hx 0 (by omega)
      have x1 := hx 1 (by omega)
      simp only [wI] at *
      constructor
      · intro h; omega
      · intro h; omega
    · have x0 := hx 0 (by omega)
      have x1 := hx 1 (by omega)
      have x2 := hx 2 (by omega)
      simp only [wI] at *
      constructor
      · intro h; omega
      · intro h; omega
    · have x0 := hx 0 (by omega)
      have x1 := hx 1 (by omega)
      have x2 := hx 2 (by omega)
      have x3 := hx 3 (by omega)
      simp only [wI] at *
      have c0 := hc (b (a + 0)) 112 (by omega)
      have c1 := hc (b (a + 1)) 97 (by omega)
      have c2 := hc (b (a + 2)) 121 (by omega)
      have c3 := hc (b (a + 3)) 115 (by omega)
      constructor
      · intro h
        obtain ⟨_, y0, y1, y2, y3⟩ := h
        have z0 := c0.mp y0
        have z1 := c1.mp y1
        have z2 := c2.mp y2
        have z3 := c3.mp y3
        omega
      · intro h
        refine ⟨by first | trivial | rfl, ?_, ?_, ?_, ?_⟩
        · exact c0.mpr (by omega)
        · exact c1.mpr (by omega)
        · exact c2.mpr (by omega)
        · exact c3.mpr (by omega)
    · have x0 := hx 0 (by omega)
      have x1 := hx 1 (by omega)
      have x2 := hx 2 (by omega)
      have x3 := hx 3 (by omega)
      have x4 := hx 4 (by omega)
      simp only [wI] at *
      constructor
      · intro h; omega
      · intro h; omega
    · have x0 := hx 0 (by omega)
      have x1 := hx 1 (by omega)
      have x2 := hx 2 (by omega)
      have x3 := hx 3 (by omega)
      have x4 := hx 4 (by omega)
      have x5 := hx 5 (by omega)
      simp only [wI] at *
      constructor
      · intro h; omega
      · intro h; omega
/-- a name's step by the reference's value -/
def nmO (v : Int32) : Int32 := if v = 1 then -1 else if v = 2 then -2 else if v = 7 then -3 else if v = 8 then -4 else 0
/-- the class's token, and what it means, by the reference's kind and value -/
def tkT (k v : Int32) : Int32 := if k = 0 then -1 else if k = 1 then (if nmO v < 0 then -4 else if v = 47328224 then -5 else if v = 381245 then -6 else if v = 316351 then -7 else -2) else if k = 2 then (if 9999 < v then -2 else -3) else (if v = 0 then -2 else v)
def tkV (k v : Int32) : Int32 := if k = 1 then nmO v else v
/-- the class's token stands in its fields -/
def CT (I : ab_I) (x : Nat × Nat × Int32 × Int32) : Prop := (I 59 3 = nI x.1 ∧ I 59 4 = nI x.2.1) ∧ I 59 5 = tkT x.2.2.1 x.2.2.2 ∧ (tkT x.2.2.1 x.2.2.2 = -3 ∨ tkT x.2.2.1 x.2.2.2 = -4 → I 59 6 = tkV x.2.2.1 x.2.2.2)
theorem le_in {x : Int32} (h : isLe x = true) : 1 ≤ x.toInt - 96 ∧ x.toInt - 96 ≤ 26 := by
  unfold isLe at h
  have h2 := of_decide_eq_true h
  rw [Int32.lt_iff_toInt_lt, Int32.lt_iff_toInt_lt] at h2
  have e1 : (97 : Int32).toInt = 97 := rfl
  have e2 : (122 : Int32).toInt = 122 := rfl
  omega
theorem di_in {x : Int32} (h : isDi x = true) : 0 ≤ x.toInt - 48 ∧ x.toInt - 48 ≤ 9 := by
  unfold isDi at h
  have h2 := of_decide_eq_true h
  rw [Int32.lt_iff_toInt_lt, Int32.lt_iff_toInt_lt] at h2
  have e1 : (48 : Int32).toInt = 48 := rfl
  have e2 : (57 : Int32).toInt = 57 := rfl
  omega
/-- k figures, held just above the most -/
def mnf (b : Nat → Int32) (a : Nat) : Nat → Int32
  | 0 => 0
  | k + 1 => if 10000 < 10 * mnf b a k + b (a + k) - 48 then 10000 else 10 * mnf b a k + b (a + k) - 48
theorem mn_nm {b : Nat → Int32} {a : Nat} (n : Nat) (hx : ∀ i, i < n → 0 ≤ (b (a + i)).toInt - 48 ∧ (b (a + i)).toInt - 48 ≤ 9) : ∀ k, k ≤ n → ∃ z : Int, nmf b a k = iK z ∧ 0 ≤ z ∧ z ≤ 99999 ∧ mnf b a k = iK (min z 10000) := by
  intro k
  induction k with
  | zero => intro _; exact ⟨0, rfl, by omega, by omega, rfl⟩
  | succ k ih =>
    intro hk
    obtain ⟨z, z1, z2, z3, z4⟩ := ih (by omega)
    have h := hx k (by omega)
    have e1 : nmf b a (k + 1) = if 9999 < nmf b a k then nmf b a k else 10 * nmf b a k + b (a + k) - 48 := rfl
    have e2 : mnf b a (k + 1) = if 10000 < 10 * mnf b a k + b (a + k) - 48 then 10000 else 10 * mnf b a k + b (a + k) - 48 := rfl
    have k1 : ∀ y : Int, 10 * iK y + b (a + k) - 48 = iK (10 * y + (b (a + k)).toInt - 48) := fun y => by rw [← iK_sub, ← iK_add, ← iK_mul, iK_self]; rfl
    have k2 : (9999 < iK z) = (9999 < z) := iK_lt (a := 9999) (by omega) (by omega)
    have k3 : ((10000 : Int32) < iK (10 * min z 10000 + (b (a + k)).toInt - 48)) = (10000 < 10 * min z 10000 + (b (a + k)).toInt - 48) := iK_lt (a := 10000) (by omega) (by omega)
    rw [e1, e2, z1, z4, k1, k1]
    simp only [k2, k3]
    by_cases c : 9999 < z
    · rw [if_pos c, if_pos (by omega)]
      exact ⟨z, rfl, by omega, by omega, by rw [show min z 10000 = 10000 by omega]; rfl⟩
    · rw [if_neg c]
      refine ⟨10 * z + (b (a + k)).toInt - 48, rfl, by omega, by omega, ?_⟩
      by_cases c2 : 10000 < 10 * min z 10000 + (b (a + k)).toInt - 48
      · rw [if_pos c2]; rw [show min (10 * z + (b (a + k)).toInt - 48) 10000 = 10000 by omega]; rfl
      · rw [if_neg c2]; congr 1; omega
theorem sg_b : ∀ k : Fin 256, (((nI k.val).toUInt32 % 65536).toInt32 = nI k.val ∧ (¬ nI k.val < 0 ∧ ¬ 255 < nI k.val)) ∧ ((59 = (nI k.val).toInt8.toInt32 ↔ nI k.val = 59) ∧ (60 = (nI k.val).toInt8.toInt32 ↔ nI k.val = 60) ∧ (61 = (nI k.val).toInt8.toInt32 ↔ nI k.val = 61) ∧ (43 = (nI k.val).toInt8.toInt32 ↔ nI k.val = 43) ∧ (45 = (nI k.val).toInt8.toInt32 ↔ nI k.val = 45) ∧ (42 = (nI k.val).toInt8.toInt32 ↔ nI k.val = 42) ∧ (47 = (nI k.val).toInt8.toInt32 ↔ nI k.val = 47) ∧ (40 = (nI k.val).toInt8.toInt32 ↔ nI k.val = 40) ∧ (41 = (nI k.val).toInt8.toInt32 ↔ nI k.val = 41)) := by decide +kernel
section P60
variable {d SL : Nat} {xs : Nat → Int32} {g : ab_G} {I : ab_I} {J : ab_J} {Q : ab_Q} {b : Nat → Int32} {n a : Nat}
set_option maxRecDepth 20000 in
theorem c_indexOf {k : Nat} (hl : low SL xs g I) (hk : k < 256) : (∀ v, ((isSg (nI k) = true → ¬ v < 0) ∧ (¬ isSg (nI k) = true → v < 0)) → Q (some (vI v)) g I J) → ab_run (d + 5) 36 [vR (some 3), vI (nI k)] g I J Q := by
  intro hQ
  have t1 : ab_ty g 3 = 22 := (hl 3 (by decide)).1
  have t2 : ab_R g 3 0 = some 14 := (hl 3 (by decide)).2.2.1 0
  have t3 : ab_ty g 14 = 7 := (hl 14 (by decide)).1
  have t4 : ab_ln g 14 = 9 := (hl 14 (by decide)).2.1
  have t5 : I 3 1 = 0 := by rw [(hl 3 (by decide)).2.2.2]; rfl
  have t6 : 0 < 7 := by decide
  have t7 : 7 < 10 := by decide
  obtain ⟨⟨_, m0, m1⟩, s0, s1, s2', s3', s4', s5', s6, s7', s8⟩ := sg_b ⟨k, hk⟩
  simp only [] at m0 m1 s0 s1 s2' s3' s4' s5' s6 s7' s8
  have m2 : (if (0 : Int32) < 0 then (0 : Int32) else 0) = 0 := by decide
  have m3 : (if nI 9 < (9 : Int32) then nI 9 else 9) = 9 := by decide
  have v0 : vp_in 0 9 := vi 0 9 rfl
  have y0 : I 14 0 = 59 := by rw [(hl 14 (by decide)).2.2.2]; rfl
  have v1 : vp_in 1 9 := vi 1 9 rfl
  have y1 : I 14 1 = 60 := by rw [(hl 14 (by decide)).2.2.2]; rfl
  have v2 : vp_in 2 9 := vi 2 9 rfl
  have y2 : I 14 2 = 61 := by rw [(hl 14 (by decide)).2.2.2]; rfl
  have v3 : vp_in 3 9 := vi 3 9 rfl
  have y3 : I 14 3 = 43 := by rw [(hl 14 (by decide)).2.2.2]; rfl
  have v4 : vp_in 4 9 := vi 4 9 rfl
  have y4 : I 14 4 = 45 := by rw [(hl 14 (by decide)).2.2.2]; rfl
  have v5 : vp_in 5 9 := vi 5 9 rfl
  have y5 : I 14 5 = 42 := by rw [(hl 14 (by decide)).2.2.2]; rfl
  have v6 : vp_in 6 9 := vi 6 9 rfl
  have y6 : I 14 6 = 47 := by rw [(hl 14 (by decide)).2.2.2]; rfl
  have v7 : vp_in 7 9 := vi 7 9 rfl
  have y7 : I 14 7 = 40 := by rw [(hl 14 (by decide)).2.2.2]; rfl
  have v8 : vp_in 8 9 := vi 8 9 rfl
  have y8 : I 14 8 = 41 := by rw [(hl 14 (by decide)).2.2.2]; rfl
  by_cases q0 : nI k = 59
  · have r0 : (59 = (nI k).toInt8.toInt32) = True := eq_true (s0.mpr q0)
    have hs : isSg (nI k) = true := by rw [q0]; decide
    rw [e36]
    simp (disch := decide) only [e36, k36_0, k36_1, k36_2, k36_3, k36_6, e37, k37_0, k37_1, k37_4, k37_7, k37_8, k37_11, k37_12, k37_13, k37_14, k37_17, k37_20, k37_23, k37_24, k37_27, k37_28, k37_29, k37_30, k37_36, e38, k38_0, k38_1, k38_4, k38_7, k38_8, k38_9, k38_10, k38_11, k38_14, k38_15, k38_16, k38_17, k38_18, k38_21, k38_22, k38_23, k38_24, k38_27, k38_28, k38_29, k38_30, k38_31, k38_32, k38_33, k38_36, e39, k39_0, k39_1, k39_4, k39_5, k39_8, k39_11, k39_12, k39_15, k39_16, e41, k41_0, k41_1, k41_2, k41_4, k41_5, k41_7, k41_9, k41_10, k41_13, k41_14, k41_16, k41_17, k41_19, k41_22, k41_24, k41_25, k41_28, k41_31, k41_32, e29, k29_0, k29_3, k29_6, k29_7, k29_10, k29_13, k29_14, k29_17, k29_18, c_len7 hl, c_Math_max, c_Math_min, nb0, n1z, z31, t1, t2, t3, t4, t5, t6, t7, m0, m1, m2, m3, v0, y0, v1, y1, v2, y2, v3, y3, v4, y4, v5, y5, v6, y6, v7, y7, v8, y8, ab_inv_I, ab_inv_R, ab_inv_L, ab_inv_0, ab_push_some, ab_push_none, ab_E_sw, ab_E_sw0, true_and, and_true, not_false_eq_true, bit_ite, s2, s3, s4, s5, s7, qi_ite2, ab_bit0, ab_bit1, qi_ite, ql_ite, Nat.reduceLeDiff, d128, d16, d8, d4, d1000, d100, d10, if_true, if_false, ite_self, tn0, tn1, tn2, tn3, tn4, tn5, tn6, tn7, tn8, tn9, tn10, tn11, tn12, tn13, tn14, tn15, tn16, tn17, tn18, tn19, Int32.reduceAdd, Int32.reduceMul, Int32.reduceSub, Int32.reduceDiv, Int32.reduceLT, Int32.reduceLE, Int32.reduceToNatClampNeg, i10, i01, ↓reduceIte, if_true, if_false, r0]
    exact hQ 0 ⟨fun _ => by decide, fun h => absurd hs h⟩
  have r0 : (59 = (nI k).toInt8.toInt32) = False := eq_false (fun h => q0 (s0.mp h))
  by_cases q1 : nI k = 60
  · have r1 : (60 = (nI k).toInt8.toInt32) = True := eq_true (s1.mpr q1)
    have hs : isSg (nI k) = true := by rw [q1]; decide
    rw [e36]
    simp (disch := decide) only [e36, k36_0, k36_1, k36_2, k36_3, k36_6, e37, k37_0, k37_1, k37_4, k37_7, k37_8, k37_11, k37_12, k37_13, k37_14, k37_17, k37_20, k37_23, k37_24, k37_27, k37_28, k37_29, k37_30, k37_36, e38, k38_0, k38_1, k38_4, k38_7, k38_8, k38_9, k38_10, k38_11, k38_14, k38_15, k38_16, k38_17, k38_18, k38_21, k38_22, k38_23, k38_24, k38_27, k38_28, k38_29, k38_30, k38_31, k38_32, k38_33, k38_36, e39, k39_0, k39_1, k39_4, k39_5, k39_8, k39_11, k39_12, k39_15, k39_16, e41, k41_0, k41_1, k41_2, k41_4, k41_5, k41_7, k41_9, k41_10, k41_13, k41_14, k41_16, k41_17, k41_19, k41_22, k41_24, k41_25, k41_28, k41_31, k41_32, e29, k29_0, k29_3, k29_6, k29_7, k29_10, k29_13, k29_14, k29_17, k29_18, c_len7 hl, c_Math_max, c_Math_min, nb0, n1z, z31, t1, t2, t3, t4, t5, t6, t7, m0, m1, m2, m3, v0, y0, v1, y1, v2, y2, v3, y3, v4, y4, v5, y5, v6, y6, v7, y7, v8, y8, ab_inv_I, ab_inv_R, ab_inv_L, ab_inv_0, ab_push_some, ab_push_none, ab_E_sw, ab_E_sw0, true_and, and_true, not_false_eq_true, bit_ite, s2, s3, s4, s5, s7, qi_ite2, ab_bit0, ab_bit1, qi_ite, ql_ite, Nat.reduceLeDiff, d128, d16, d8, d4, d1000, d100, d10, if_true, if_false, ite_self, tn0, tn1, tn2, tn3, tn4, tn5, tn6, tn7, tn8, tn9, tn10, tn11, tn12, tn13, tn14, tn15, tn16, tn17, tn18, tn19, Int32.reduceAdd, Int32.reduceMul, Int32.reduceSub, Int32.reduceDiv, Int32.reduceLT, Int32.reduceLE, Int32.reduceToNatClampNeg, i10, i01, ↓reduceIte, if_true, if_false, r0, r1]
    exact hQ 1 ⟨fun _ => by decide, fun h => absurd hs h⟩
  have r1 : (60 = (nI k).toInt8.toInt32) = False := eq_false (fun h => q1 (s1.mp h))
  by_cases q2 : nI k = 61
  · have r2 : (61 = (nI k).toInt8.toInt32) = True := eq_true (s2'.mpr q2)
    have hs : isSg (nI k) = true := by rw [q2]; decide
    rw [e36]
    simp (disch := decide) only [e36, k36_0, k36_1, k36_2, k36_3, k36_6, e37, k37_0, k37_1, k37_4, k37_7, k37_8, k37_11, k37_12, k37_13, k37_14, k37_17, k37_20, k37_23, k37_24, k37_27, k37_28, k37_29, k37_30, k37_36, e38, k38_0, k38_1, k38_4, k38_7, k38_8, k38_9, k38_10, k38_11, k38_14, k38_15, k38_16, k38_17, k38_18, k38_21, k38_22, k38_23, k38_24, k38_27, k38_28, k38_29, k38_30, k38_31, k38_32, k38_33, k38_36, e39, k39_0, k39_1, k39_4, k39_5, k39_8, k39_11, k39_12, k39_15, k39_16, e41, k41_0, k41_1, k41_2, k41_4, k41_5, k41_7, k41_9, k41_10, k41_13, k41_14, k41_16, k41_17, k41_19, k41_22, k41_24, k41_25, k41_28, k41_31, k41_32, e29, k29_0, k29_3, k29_6, k29_7, k29_10, k29_13, k29_14, k29_17, k29_18, c_len7 hl, c_Math_max, c_Math_min, nb0, n1z, z31, t1, t2, t3, t4, t5, t6, t7, m0, m1, m2, m3, v0, y0, v1, y1, v2, y2, v3, y3, v4, y4, v5, y5, v6, y6, v7, y7, v8, y8, ab_inv_I, ab_inv_R, ab_inv_L, ab_inv_0, ab_push_some, ab_push_none, ab_E_sw, ab_E_sw0, true_and, and_true, not_false_eq_true, bit_ite, s2, s3, s4, s5, s7, qi_ite2, ab_bit0, ab_bit1, qi_ite, ql_ite, Nat.reduceLeDiff, d128, d16, d8, d4, d1000, d100, d10, if_true, if_false, ite_self, tn0, tn1, tn2, tn3, tn4, tn5, tn6, tn7, tn8, tn9, tn10, tn11, tn12, tn13, tn14, tn15, tn16, tn17, tn18, tn19, Int32.reduceAdd, Int32.reduceMul, Int32.reduceSub, Int32.reduceDiv, Int32.reduceLT, Int32.reduceLE, Int32.reduceToNatClampNeg, i10, i01, ↓reduceIte, if_true, if_false, r0, r1, r2]
    exact hQ 2 ⟨fun _ => by decide, fun h => absurd hs h⟩
  have r2 : (61 = (nI k).toInt8.toInt32) = False := eq_false (fun h => q2 (s2'.mp h))
  by_cases q3 : nI k = 43
  · have r3 : (43 = (nI k).toInt8.toInt32) = True := eq_true (s3'.mpr q3)
    have hs : isSg (nI k) = true := by rw [q3]; decide
    rw [e36]
    simp (disch := decide) only [e36, k36_0, k36_1, k36_2, k36_3, k36_6, e37, k37_0, k37_1, k37_4, k37_7, k37_8, k37_11, k37_12, k37_13, k37_14, k37_17, k37_20, k37_23, k37_24, k37_27, k37_28, k37_29, k37_30, k37_36, e38, k38_0, k38_1, k38_4, k38_7, k38_8, k38_9, k38_10, k38_11, k38_14, k38_15, k38_16, k38_17, k38_18, k38_21, k38_22, k38_23, k38_24, k38_27, k38_28, k38_29, k38_30, k38_31, k38_32, k38_33, k38_36, e39, k39_0, k39_1, k39_4, k39_5, k39_8, k39_11, k39_12, k39_15, k39_16, e41, k41_0, k41_1, k41_2, k41_4, k41_5, k41_7, k41_9, k41_10, k41_13, k41_14, k41_16, k41_17, k41_19, k41_22, k41_24, k41_25, k41_28, k41_31, k41_32, e29, k29_0, k29_3, k29_6, k29_7, k29_10, k29_13, k29_14, k29_17, k29_18, c_len7 hl, c_Math_max, c_Math_min, nb0, n1z, z31, t1, t2, t3, t4, t5, t6, t7, m0, m1, m2, m3, v0, y0, v1, y1, v2, y2, v3, y3, v4, y4, v5, y5, v6, y6, v7, y7, v8, y8, ab_inv_I, ab_inv_R, ab_inv_L, ab_inv_0, ab_push_some, ab_push_none, ab_E_sw, ab_E_sw0, true_and, and_true, not_false_eq_true, bit_ite, s2, s3, s4, s5, s7, qi_ite2, ab_bit0, ab_bit1, qi_ite, ql_ite, Nat.reduceLeDiff, d128, d16, d8, d4, d1000, d100, d10, if_true, if_false, ite_self, tn0, tn1, tn2, tn3, tn4, tn5, tn6, tn7, tn8, tn9, tn10, tn11, tn12, tn13, tn14, tn15, tn16, tn17, tn18, tn19, Int32.reduceAdd, Int32.reduceMul, Int32.reduceSub, Int32.reduceDiv, Int32.reduceLT, Int32.reduceLE, Int32.reduceToNatClampNeg, i10, i01, ↓reduceIte, if_true, if_false, r0, r1, r2, r3]
    exact hQ 3 ⟨fun _ => by decide, fun h => absurd hs h⟩
  have r3 : (43 = (nI k).toInt8.toInt32) = False := eq_false (fun h => q3 (s3'.mp h))
  by_cases q4 : nI k = 45
  · have r4 : (45 = (nI k).toInt8.toInt32) = True := eq_true (s4'.mpr q4)
    have hs : isSg (nI k) = true := by rw [q4]; decide
    rw [e36]
    simp (disch := decide) only [e36, k36_0, k36_1, k36_2, k36_3, k36_6, e37, k37_0, k37_1, k37_4, k37_7, k37_8, k37_11, k37_12, k37_13, k37_14, k37_17, k37_20, k37_23, k37_24, k37_27, k37_28, k37_29, k37_30, k37_36, e38, k38_0, k38_1, k38_4, k38_7, k38_8, k38_9, k38_10, k38_11, k38_14, k38_15, k38_16, k38_17, k38_18, k38_21, k38_22, k38_23, k38_24, k38_27, k38_28, k38_29, k38_30, k38_31, k38_32, k38_33, k38_36, e39, k39_0, k39_1, k39_4, k39_5, k39_8, k39_11, k39_12, k39_15, k39_16, e41, k41_0, k41_1, k41_2, k41_4, k41_5, k41_7, k41_9, k41_10, k41_13, k41_14, k41_16, k41_17, k41_19, k41_22, k41_24, k41_25, k41_28, k41_31, k41_32, e29, k29_0, k29_3, k29_6, k29_7, k29_10, k29_13, k29_14, k29_17, k29_18, c_len7 hl, c_Math_max, c_Math_min, nb0, n1z, z31, t1, t2, t3, t4, t5, t6, t7, m0, m1, m2, m3, v0, y0, v1, y1, v2, y2, v3, y3, v4, y4, v5, y5, v6, y6, v7, y7, v8, y8, ab_inv_I, ab_inv_R, ab_inv_L, ab_inv_0, ab_push_some, ab_push_none, ab_E_sw, ab_E_sw0, true_and, and_true, not_false_eq_true, bit_ite, s2, s3, s4, s5, s7, qi_ite2, ab_bit0, ab_bit1, qi_ite, ql_ite, Nat.reduceLeDiff, d128, d16, d8, d4, d1000, d100, d10, if_true, if_false, ite_self, tn0, tn1, tn2, tn3, tn4, tn5, tn6, tn7, tn8, tn9, tn10, tn11, tn12, tn13, tn14, tn15, tn16, tn17, tn18, tn19, Int32.reduceAdd, Int32.reduceMul, Int32.reduceSub, Int32.reduceDiv, Int32.reduceLT, Int32.reduceLE, Int32.reduceToNatClampNeg, i10, i01, ↓reduceIte, if_true, if_false, r0, r1, r2, r3, r4]
    exact hQ 4 ⟨fun _ => by decide, fun h => absurd hs h⟩
  have r4 : (45 = (nI k).toInt8.toInt32) = False := eq_false (fun h => q4 (s4'.mp h))
  by_cases q5 : nI k = 42
  · have r5 : (42 = (nI k).toInt8.toInt32) = True := eq_true (s5'.mpr q5)
    have hs : isSg (nI k) = true := by rw [q5]; decide
    rw [e36]
    simp (disch := decide) only [e36, k36_0, k36_1, k36_2, k36_3, k36_6, e37, k37_0, k37_1, k37_4, k37_7, k37_8, k37_11, k37_12, k37_13, k37_14, k37_17, k37_20, k37_23, k37_24, k37_27, k37_28, k37_29, k37_30, k37_36, e38, k38_0, k38_1, k38_4, k38_7, k38_8, k38_9, k38_10, k38_11, k38_14, k38_15, k38_16, k38_17, k38_18, k38_21, k38_22, k38_23, k38_24, k38_27, k38_28, k38_29, k38_30, k38_31, k38_32, k38_33, k38_36, e39, k39_0, k39_1, k39_4, k39_5, k39_8, k39_11, k39_12, k39_15, k39_16, e41, k41_0, k41_1, k41_2, k41_4, k41_5, k41_7, k41_9, k41_10, k41_13, k41_14, k41_16, k41_17, k41_19, k41_22, k41_24, k41_25, k41_28, k41_31, k41_32, e29, k29_0, k29_3, k29_6, k29_7, k29_10, k29_13, k29_14, k29_17, k29_18, c_len7 hl, c_Math_max, c_Math_min, nb0, n1z, z31, t1, t2, t3, t4, t5, t6, t7, m0, m1, m2, m3, v0, y0, v1, y1, v2, y2, v3, y3, v4, y4, v5, y5, v6, y6, v7, y7, v8, y8, ab_inv_I, ab_inv_R, ab_inv_L, ab_inv_0, ab_push_some, ab_push_none, ab_E_sw, ab_E_sw0, true_and, and_true, not_false_eq_true, bit_ite, s2, s3, s4, s5, s7, qi_ite2, ab_bit0, ab_bit1, qi_ite, ql_ite, Nat.reduceLeDiff, d128, d16, d8, d4, d1000, d100, d10, if_true, if_false, ite_self, tn0, tn1, tn2, tn3, tn4, tn5, tn6, tn7, tn8, tn9, tn10, tn11, tn12, tn13, tn14, tn15, tn16, tn17, tn18, tn19, Int32.reduceAdd, Int32.reduceMul, Int32.reduceSub, Int32.reduceDiv, Int32.reduceLT, Int32.reduceLE, Int32.reduceToNatClampNeg, i10, i01, ↓reduceIte, if_true, if_false, r0, r1, r2, r3, r4, r5]
    exact hQ 5 ⟨fun _ => by decide, fun h => absurd hs h⟩
  have r5 : (42 = (nI k).toInt8.toInt32) = False := eq_false (fun h => q5 (s5'.mp h))
  by_cases q6 : nI k = 47
  · have r6 : (47 = (nI k).toInt8.toInt32) = True := eq_true (s6.mpr q6)
    have hs : isSg (nI k) = true := by rw [q6]; decide
    rw [e36]
    simp (disch := decide) only [e36, k36_0, k36_1, k36_2, k36_3, k36_6, e37, k37_0, k37_1, k37_4, k37_7, k37_8, k37_11, k37_12, k37_13, k37_14, k37_17, k37_20, k37_23, k37_24, k37_27, k37_28, k37_29, k37_30, k37_36, e38, k38_0, k38_1, k38_4, k38_7, k38_8, k38_9, k38_10, k38_11, k38_14, k38_15, k38_16, k38_17, k38_18, k38_21, k38_22, k38_23, k38_24, k38_27, k38_28, k38_29, k38_30, k38_31, k38_32, k38_33, k38_36, e39, k39_0, k39_1, k39_4, k39_5, k39_8, k39_11, k39_12, k39_15, k39_16, e41, k41_0, k41_1, k41_2, k41_4, k41_5, k41_7, k41_9, k41_10, k41_13, k41_14, k41_16, k41_17, k41_19, k41_22, k41_24, k41_25, k41_28, k41_31, k41_32, e29, k29_0, k29_3, k29_6, k29_7, k29_10, k29_13, k29_14, k29_17, k29_18, c_len7 hl, c_Math_max, c_Math_min, nb0, n1z, z31, t1, t2, t3, t4, t5, t6, t7, m0, m1, m2, m3, v0, y0, v1, y1, v2, y2, v3, y3, v4, y4, v5, y5, v6, y6, v7, y7, v8, y8, ab_inv_I, ab_inv_R, ab_inv_L, ab_inv_0, ab_push_some, ab_push_none, ab_E_sw, ab_E_sw0, true_and, and_true, not_false_eq_true, bit_ite, s2, s3, s4, s5, s7, qi_ite2, ab_bit0, ab_bit1, qi_ite, ql_ite, Nat.reduceLeDiff, d128, d16, d8, d4, d1000, d100, d10, if_true, if_false, ite_self, tn0, tn1, tn2, tn3, tn4, tn5, tn6, tn7, tn8, tn9, tn10, tn11, tn12, tn13, tn14, tn15, tn16, tn17, tn18, tn19, Int32.reduceAdd, Int32.reduceMul, Int32.reduceSub, Int32.reduceDiv, Int32.reduceLT, Int32.reduceLE, Int32.reduceToNatClampNeg, i10, i01, ↓reduceIte, if_true, if_false, r0, r1, r2, r3, r4, r5, r6]
    exact hQ 6 ⟨fun _ => by decide, fun h => absurd hs h⟩
  have r6 : (47 = (nI k).toInt8.toInt32) = False := eq_false (fun h => q6 (s6.mp h))
  by_cases q7 : nI k = 40
  · have r7 : (40 = (nI k).toInt8.toInt32) = True := eq_true (s7'.mpr q7)
    have hs : isSg (nI k) = true := by rw [q7]; decide
    rw [e36]
    simp (disch := decide) only [e36, k36_0, k36_1, k36_2, k36_3, k36_6, e37, k37_0, k37_1, k37_4, k37_7, k37_8, k37_11, k37_12, k37_13, k37_14, k37_17, k37_20, k37_23, k37_24, k37_27, k37_28, k37_29, k37_30, k37_36, e38, k38_0, k38_1, k38_4, k38_7, k38_8, k38_9, k38_10, k38_11, k38_14, k38_15, k38_16, k38_17, k38_18, k38_21, k38_22, k38_23, k38_24, k38_27, k38_28, k38_29, k38_30, k38_31, k38_32, k38_33, k38_36, e39, k39_0, k39_1, k39_4, k39_5, k39_8, k39_11, k39_12, k39_15, k39_16, e41, k41_0, k41_1, k41_2, k41_4, k41_5, k41_7, k41_9, k41_10, k41_13, k41_14, k41_16, k41_17, k41_19, k41_22, k41_24, k41_25, k41_28, k41_31, k41_32, e29, k29_0, k29_3, k29_6, k29_7, k29_10, k29_13, k29_14, k29_17, k29_18, c_len7 hl, c_Math_max, c_Math_min, nb0, n1z, z31, t1, t2, t3, t4, t5, t6, t7, m0, m1, m2, m3, v0, y0, v1, y1, v2, y2, v3, y3, v4, y4, v5, y5, v6, y6, v7, y7, v8, y8, ab_inv_I, ab_inv_R, ab_inv_L, ab_inv_0, ab_push_some, ab_push_none, ab_E_sw, ab_E_sw0, true_and, and_true, not_false_eq_true, bit_ite, s2, s3, s4, s5, s7, qi_ite2, ab_bit0, ab_bit1, qi_ite, ql_ite, Nat.reduceLeDiff, d128, d16, d8, d4, d1000, d100, d10, if_true, if_false, ite_self, tn0, tn1, tn2, tn3, tn4, tn5, tn6, tn7, tn8, tn9, tn10, tn11, tn12, tn13, tn14, tn15, tn16, tn17, tn18, tn19, Int32.reduceAdd, Int32.reduceMul, Int32.reduceSub, Int32.reduceDiv, Int32.reduceLT, Int32.reduceLE, Int32.reduceToNatClampNeg, i10, i01, ↓reduceIte, if_true, if_false, r0, r1, r2, r3, r4, r5, r6, r7]
    exact hQ 7 ⟨fun _ => by decide, fun h => absurd hs h⟩
  have r7 : (40 = (nI k).toInt8.toInt32) = False := eq_false (fun h => q7 (s7'.mp h))
  by_cases q8 : nI k = 41
  · have r8 : (41 = (nI k).toInt8.toInt32) = True := eq_true (s8.mpr q8)
    have hs : isSg (nI k) = true := by rw [q8]; decide
    rw [e36]
    simp (disch := decide) only [e36, k36_0, k36_1, k36_2, k36_3, k36_6, e37, k37_0, k37_1, k37_4, k37_7, k37_8, k37_11, k37_12, k37_13, k37_14, k37_17, k37_20, k37_23, k37_24, k37_27, k37_28, k37_29, k37_30, k37_36, e38, k38_0, k38_1, k38_4, k38_7, k38_8, k38_9, k38_10, k38_11, k38_14, k38_15, k38_16, k38_17, k38_18, k38_21, k38_22, k38_23, k38_24, k38_27, k38_28, k38_29, k38_30, k38_31, k38_32, k38_33, k38_36, e39, k39_0, k39_1, k39_4, k39_5, k39_8, k39_11, k39_12, k39_15, k39_16, e41, k41_0, k41_1, k41_2, k41_4, k41_5, k41_7, k41_9, k41_10, k41_13, k41_14, k41_16, k41_17, k41_19, k41_22, k41_24, k41_25, k41_28, k41_31, k41_32, e29, k29_0, k29_3, k29_6, k29_7, k29_10, k29_13, k29_14, k29_17, k29_18, c_len7 hl, c_Math_max, c_Math_min, nb0, n1z, z31, t1, t2, t3, t4, t5, t6, t7, m0, m1, m2, m3, v0, y0, v1, y1, v2, y2, v3, y3, v4, y4, v5, y5, v6, y6, v7, y7, v8, y8, ab_inv_I, ab_inv_R, ab_inv_L, ab_inv_0, ab_push_some, ab_push_none, ab_E_sw, ab_E_sw0, true_and, and_true, not_false_eq_true, bit_ite, s2, s3, s4, s5, s7, qi_ite2, ab_bit0, ab_bit1, qi_ite, ql_ite, Nat.reduceLeDiff, d128, d16, d8, d4, d1000, d100, d10, if_true, if_false, ite_self, tn0, tn1, tn2, tn3, tn4, tn5, tn6, tn7, tn8, tn9, tn10, tn11, tn12, tn13, tn14, tn15, tn16, tn17, tn18, tn19, Int32.reduceAdd, Int32.reduceMul, Int32.reduceSub, Int32.reduceDiv, Int32.reduceLT, Int32.reduceLE, Int32.reduceToNatClampNeg, i10, i01, ↓reduceIte, if_true, if_false, r0, r1, r2, r3, r4, r5, r6, r7, r8]
    exact hQ 8 ⟨fun _ => by decide, fun h => absurd hs h⟩
  have r8 : (41 = (nI k).toInt8.toInt32) = False := eq_false (fun h => q8 (s8.mp h))
  have hs : ¬ isSg (nI k) = true := by
    unfold isSg
    simp only [decide_eq_true_eq, not_or]
    exact ⟨q0, q1, q2, q3, q4, q5, q6, q7, q8⟩
  rw [e36]
  simp (disch := decide) only [e36, k36_0, k36_1, k36_2, k36_3, k36_6, e37, k37_0, k37_1, k37_4, k37_7, k37_8, k37_11, k37_12, k37_13, k37_14, k37_17, k37_20, k37_23, k37_24, k37_27, k37_28, k37_29, k37_30, k37_36, e38, k38_0, k38_1, k38_4, k38_7, k38_8, k38_9, k38_10, k38_11, k38_14, k38_15, k38_16, k38_17, k38_18, k38_21, k38_22, k38_23, k38_24, k38_27, k38_28, k38_29, k38_30, k38_31, k38_32, k38_33, k38_36, e39, k39_0, k39_1, k39_4, k39_5, k39_8, k39_11, k39_12, k39_15, k39_16, e41, k41_0, k41_1, k41_2, k41_4, k41_5, k41_7, k41_9, k41_10, k41_13, k41_14, k41_16, k41_17, k41_19, k41_22, k41_24, k41_25, k41_28, k41_31, k41_32, e29, k29_0, k29_3, k29_6, k29_7, k29_10, k29_13, k29_14, k29_17, k29_18, c_len7 hl, c_Math_max, c_Math_min, nb0, n1z, z31, t1, t2, t3, t4, t5, t6, t7, m0, m1, m2, m3, v0, y0, v1, y1, v2, y2, v3, y3, v4, y4, v5, y5, v6, y6, v7, y7, v8, y8, ab_inv_I, ab_inv_R, ab_inv_L, ab_inv_0, ab_push_some, ab_push_none, ab_E_sw, ab_E_sw0, true_and, and_true, not_false_eq_true, bit_ite, s2, s3, s4, s5, s7, qi_ite2, ab_bit0, ab_bit1, qi_ite, ql_ite, Nat.reduceLeDiff, d128, d16, d8, d4, d1000, d100, d10, if_true, if_false, ite_self, tn0, tn1, tn2, tn3, tn4, tn5, tn6, tn7, tn8, tn9, tn10, tn11, tn12, tn13, tn14, tn15, tn16, tn17, tn18, tn19, Int32.reduceAdd, Int32.reduceMul, Int32.reduceSub, Int32.reduceDiv, Int32.reduceLT, Int32.reduceLE, Int32.reduceToNatClampNeg, i10, i01, ↓reduceIte, if_true, if_false, r0, r1, r2, r3, r4, r5, r6, r7, r8]
  exact hQ (-1) ⟨fun h => absurd h hs, fun _ => by decide⟩
set_option maxRecDepth 20000 in
theorem c_nameStep {e : Nat} (hg : gx g) (hl : low SL xs g I) (hb : ∀ i, i < 120 → I 58 i = b i) (h3 : I 59 3 = nI a) (h4 : I 59 4 = nI e) (hae : a < e) (he : e ≤ 120) (hx : ∀ i, i < e - a → 1 ≤ (b (a + i)).toInt - 96 ∧ (b (a + i)).toInt - 96 ≤ 26) (hQ : Q (some (vI (nmO (wvf b a (e - a))))) g I J) : ab_run (d + 6) 24 [vR (some 59)] g I J Q := by
  rw [e24]
  have s0 : nI e - nI a = nI (e - a) := nIsub (by omega)
  by_cases hL : e = a + 1
  · have k0 : (nI (e - a) = 1) = True := by rw [show e - a = 1 by omega]; exact eq_true rfl
    have v0 : vp_in (nI a) 120 := vp_in_nI (by omega) (by decide)
    have w0 : (nI a).toNatClampNeg = a := nI_clamp (by omega)
    have x0 : I 58 a = b a := hb a (by omega)
    by_cases q0 : b a = 97
    · have u : wvf b a (e - a) = 1 := (word0 hae hx).mp ⟨hL, q0⟩
      have hn : nmO 1 = -1 := by decide
      rw [u, hn] at hQ
      have y97 : (b a = 97) = True := eq_true q0
      simp (disch := decide) only [k24_0, k24_1, k24_4, k24_5, k24_8, k24_9, k24_10, k24_13, k24_14, k24_15, k24_16, k24_19, k24_22, k24_23, k24_26, k24_27, k24_72, k24_73, k24_74, k24_76, k24_77, k24_79, k24_80, k24_82, k24_83, k24_84, gl100 hg, gl34 hg, gl35 hg, gl36 hg, gl37 hg, gl38 hg, gl39 hg, gl40 hg, gl41 hg, gl42 hg, gl43 hg, gl44 hg, gl46 hg, gl47 hg, gl48 hg, gl49 hg, gl50 hg, gl51 hg, gl52 hg, gl53 hg, gl54 hg, gl55 hg, gl56 hg, gl58 hg, gl60 hg, gl62 hg, gl63 hg, gl64 hg, gl65 hg, gl66 hg, gl68 hg, gl69 hg, gl70 hg, gl71 hg, gl73 hg, gl74 hg, gl75 hg, gl76 hg, gl78 hg, gl79 hg, gl80 hg, gl81 hg, gl82 hg, gl83 hg, gl84 hg, gl85 hg, gl86 hg, gl87 hg, gl89 hg, gl90 hg, gl91 hg, gl93 hg, gl95 hg, gl97 hg, gl99 hg, gr32_0 hg, gr32_1 hg, gr32_10 hg, gr32_11 hg, gr32_3 hg, gr32_4 hg, gr32_5 hg, gr32_6 hg, gr32_7 hg, gr32_8 hg, gr32_9 hg, gr33_0 hg, gr33_1 hg, gr33_2 hg, gr33_3 hg, gr33_4 hg, gr33_5 hg, gr33_6 hg, gr35_0 hg, gr35_1 hg, gr39_0 hg, gr39_1 hg, gr45_0 hg, gr45_1 hg, gr45_2 hg, gr45_3 hg, gr45_4 hg, gr45_5 hg, gr45_6 hg, gr47_0 hg, gr47_1 hg, gr51_0 hg, gr51_1 hg, gr57_0 hg, gr59_0 hg, gr59_1 hg, gr61_0 hg, gr61_1 hg, gr61_2 hg, gr61_3 hg, gr61_4 hg, gr67_0 hg, gr68_0 hg, gr68_1 hg, gr68_2 hg, gr72_0 hg, gr73_0 hg, gr73_1 hg, gr73_2 hg, gr77_0 hg, gr77_1 hg, gr77_4 hg, gr77_5 hg, gr78_0 hg, gr78_1 hg, gr82_0 hg, gr82_1 hg, gr85_0 hg, gr85_1 hg, gr88_0 hg, gr88_1 hg, gr91_0 hg, gr91_1 hg, gr91_2 hg, gr91_3 hg, gr92_0 hg, gr94_0 hg, gr96_0 hg, gr98_0 hg, gt100 hg, gt32 hg, gt33 hg, gt34 hg, gt35 hg, gt36 hg, gt37 hg, gt38 hg, gt39 hg, gt40 hg, gt41 hg, gt42 hg, gt43 hg, gt44 hg, gt45 hg, gt46 hg, gt47 hg, gt48 hg, gt49 hg, gt50 hg, gt51 hg, gt52 hg, gt53 hg, gt54 hg, gt55 hg, gt56 hg, gt57 hg, gt58 hg, gt59 hg, gt60 hg, gt61 hg, gt62 hg, gt63 hg, gt64 hg, gt65 hg, gt66 hg, gt67 hg, gt68 hg, gt69 hg, gt70 hg, gt71 hg, gt72 hg, gt73 hg, gt74 hg, gt75 hg, gt76 hg, gt77 hg, gt78 hg, gt79 hg, gt80 hg, gt81 hg, gt82 hg, gt83 hg, gt84 hg, gt85 hg, gt86 hg, gt87 hg, gt88 hg, gt89 hg, gt90 hg, gt91 hg, gt92 hg, gt93 hg, gt94 hg, gt95 hg, gt96 hg, gt97 hg, gt98 hg, gt99 hg, ab_inv_I, ab_inv_R, ab_inv_L, ab_inv_0, ab_push_some, ab_push_none, ab_E_sw, ab_E_sw0, true_and, and_true, not_false_eq_true, bit_ite, s2, s3, s4, s5, s7, qi_ite2, ab_bit0, ab_bit1, qi_ite, ql_ite, Nat.reduceLeDiff, d128, d16, d8, d4, d1000, d100, d10, if_true, if_false, ite_self, tn0, tn1, tn2, tn3, tn4, tn5, tn6, tn7, tn8, tn9, tn10, tn11, tn12, tn13, tn14, tn15, tn16, tn17, tn18, tn19, up_ne, up_row, fr_ne, fr_eq, Int32.reduceAdd, Int32.reduceMul, Int32.reduceSub, Int32.reduceDiv, Int32.reduceLT, Int32.reduceLE, Int32.reduceToNatClampNeg, i10, i01, ↓reduceIte, if_true, if_false, h3, h4, s0, k0, v0, w0, x0, y97]
      exact hQ
    by_cases q1 : b a = 98
    · have u : wvf b a (e - a) = 2 := (word1 hae hx).mp ⟨hL, q1⟩
      have hn : nmO 2 = -2 := by decide
      rw [u, hn] at hQ
      have n97 : (b a = 97) = False := eq_false (fun h => by rw [h] at q1; exact absurd q1 (by decide))
      have y98 : (b a = 98) = True := eq_true q1
      simp (disch := decide) only [k24_0, k24_1, k24_4, k24_5, k24_8, k24_9, k24_10, k24_13, k24_14, k24_15, k24_16, k24_19, k24_22, k24_23, k24_26, k24_27, k24_72, k24_73, k24_74, k24_76, k24_77, k24_79, k24_80, k24_82, k24_83, k24_84, gl100 hg, gl34 hg, gl35 hg, gl36 hg, gl37 hg, gl38 hg, gl39 hg, gl40 hg, gl41 hg, gl42 hg, gl43 hg, gl44 hg, gl46 hg, gl47 hg, gl48 hg, gl49 hg, gl50 hg, gl51 hg, gl52 hg, gl53 hg, gl54 hg, gl55 hg, gl56 hg, gl58 hg, gl60 hg, gl62 hg, gl63 hg, gl64 hg, gl65 hg, gl66 hg, gl68 hg, gl69 hg, gl70 hg, gl71 hg, gl73 hg, gl74 hg, gl75 hg, gl76 hg, gl78 hg, gl79 hg, gl80 hg, gl81 hg, gl82 hg, gl83 hg, gl84 hg, gl85 hg, gl86 hg, gl87 hg, gl89 hg, gl90 hg, gl91 hg, gl93 hg, gl95 hg, gl97 hg, gl99 hg, gr32_0 hg, gr32_1 hg, gr32_10 hg, gr32_11 hg, gr32_3 hg, gr32_4 hg, gr32_5 hg, gr32_6 hg, gr32_7 hg, gr32_8 hg, gr32_9 hg, gr33_0 hg, gr33_1 hg, gr33_2 hg, gr33_3 hg, gr33_4 hg, gr33_5 hg, gr33_6 hg, gr35_0 hg, gr35_1 hg, gr39_0 hg, gr39_1 hg, gr45_0 hg, gr45_1 hg, gr45_2 hg, gr45_3 hg, gr45_4 hg, gr45_5 hg, gr45_6 hg, gr47_0 hg, gr47_1 hg, gr51_0 hg, gr51_1 hg, gr57_0 hg, gr59_0 hg, gr59_1 hg, gr61_0 hg, gr61_1 hg, gr61_2 hg, gr61_3 hg, gr61_4 hg, gr67_0 hg, gr68_0 hg, gr68_1 hg, gr68_2 hg, gr72_0 hg, gr73_0 hg, gr73_1 hg, gr73_2 hg, gr77_0 hg, gr77_1 hg, gr77_4 hg, gr77_5 hg, gr78_0 hg, gr78_1 hg, gr82_0 hg, gr82_1 hg, gr85_0 hg, gr85_1 hg, gr88_0 hg, gr88_1 hg, gr91_0 hg, gr91_1 hg, gr91_2 hg, gr91_3 hg, gr92_0 hg, gr94_0 hg, gr96_0 hg, gr98_0 hg, gt100 hg, gt32 hg, gt33 hg, gt34 hg, gt35 hg, gt36 hg, gt37 hg, gt38 hg, gt39 hg, gt40 hg, gt41 hg, gt42 hg, gt43 hg, gt44 hg, gt45 hg, gt46 hg, gt47 hg, gt48 hg, gt49 hg, gt50 hg, gt51 hg, gt52 hg, gt53 hg, gt54 hg, gt55 hg, gt56 hg, gt57 hg, gt58 hg, gt59 hg, gt60 hg, gt61 hg, gt62 hg, gt63 hg, gt64 hg, gt65 hg, gt66 hg, gt67 hg, gt68 hg, gt69 hg, gt70 hg, gt71 hg, gt72 hg, gt73 hg, gt74 hg, gt75 hg, gt76 hg, gt77 hg, gt78 hg, gt79 hg, gt80 hg, gt81 hg, gt82 hg, gt83 hg, gt84 hg, gt85 hg, gt86 hg, gt87 hg, gt88 hg, gt89 hg, gt90 hg, gt91 hg, gt92 hg, gt93 hg, gt94 hg, gt95 hg, gt96 hg, gt97 hg, gt98 hg, gt99 hg, ab_inv_I, ab_inv_R, ab_inv_L, ab_inv_0, ab_push_some, ab_push_none, ab_E_sw, ab_E_sw0, true_and, and_true, not_false_eq_true, bit_ite, s2, s3, s4, s5, s7, qi_ite2, ab_bit0, ab_bit1, qi_ite, ql_ite, Nat.reduceLeDiff, d128, d16, d8, d4, d1000, d100, d10, if_true, if_false, ite_self, tn0, tn1, tn2, tn3, tn4, tn5, tn6, tn7, tn8, tn9, tn10, tn11, tn12, tn13, tn14, tn15, tn16, tn17, tn18, tn19, up_ne, up_row, fr_ne, fr_eq, Int32.reduceAdd, Int32.reduceMul, Int32.reduceSub, Int32.reduceDiv, Int32.reduceLT, Int32.reduceLE, Int32.reduceToNatClampNeg, i10, i01, ↓reduceIte, if_true, if_false, h3, h4, s0, k0, v0, w0, x0, n97, y98]
      exact hQ
    by_cases q2 : b a = 103
    · have u : wvf b a (e - a) = 7 := (word2 hae hx).mp ⟨hL, q2⟩
      have hn : nmO 7 = -3 := by decide
      rw [u, hn] at hQ
      have n97 : (b a = 97) = False := eq_false (fun h => by rw [h] at q2; exact absurd q2 (by decide))
      have n98 : (b a = 98) = False := eq_false (fun h => by rw [h] at q2; exact absurd q2 (by decide))
      have n99 : (b a = 99) = False := eq_false (fun h => by rw [h] at q2; exact absurd q2 (by decide))
      have n100 : (b a = 100) = False := eq_false (fun h => by rw [h] at q2; exact absurd q2 (by decide))
      have n101 : (b a = 101) = False := eq_false (fun h => by rw [h] at q2; exact absurd q2 (by decide))
      have n102 : (b a = 102) = False := eq_false (fun h => by rw [h] at q2; exact absurd q2 (by decide))
      have y103 : (b a = 103) = True := eq_true q2
      simp (disch := decide) only [k24_0, k24_1, k24_4, k24_5, k24_8, k24_9, k24_10, k24_13, k24_14, k24_15, k24_16, k24_19, k24_22, k24_23, k24_26, k24_27, k24_72, k24_73, k24_74, k24_76, k24_77, k24_79, k24_80, k24_82, k24_83, k24_84, gl100 hg, gl34 hg, gl35 hg, gl36 hg, gl37 hg, gl38 hg, gl39 hg, gl40 hg, gl41 hg, gl42 hg, gl43 hg, gl44 hg, gl46 hg, gl47 hg, gl48 hg, gl49 hg, gl50 hg, gl51 hg, gl52 hg, gl53 hg, gl54 hg, gl55 hg, gl56 hg, gl58 hg, gl60 hg, gl62 hg, gl63 hg, gl64 hg, gl65 hg, gl66 hg, gl68 hg, gl69 hg, gl70 hg, gl71 hg, gl73 hg, gl74 hg, gl75 hg, gl76 hg, gl78 hg, gl79 hg, gl80 hg, gl81 hg, gl82 hg, gl83 hg, gl84 hg, gl85 hg, gl86 hg, gl87 hg, gl89 hg, gl90 hg, gl91 hg, gl93 hg, gl95 hg, gl97 hg, gl99 hg, gr32_0 hg, gr32_1 hg, gr32_10 hg, gr32_11 hg, gr32_3 hg, gr32_4 hg, gr32_5 hg, gr32_6 hg, gr32_7 hg, gr32_8 hg, gr32_9 hg, gr33_0 hg, gr33_1 hg, gr33_2 hg, gr33_3 hg, gr33_4 hg, gr33_5 hg, gr33_6 hg, gr35_0 hg, gr35_1 hg, gr39_0 hg, gr39_1 hg, gr45_0 hg, gr45_1 hg, gr45_2 hg, gr45_3 hg, gr45_4 hg, gr45_5 hg, gr45_6 hg, gr47_0 hg, gr47_1 hg, gr51_0 hg, gr51_1 hg, gr57_0 hg, gr59_0 hg, gr59_1 hg, gr61_0 hg, gr61_1 hg, gr61_2 hg, gr61_3 hg, gr61_4 hg, gr67_0 hg, gr68_0 hg, gr68_1 hg, gr68_2 hg, gr72_0 hg, gr73_0 hg, gr73_1 hg, gr73_2 hg, gr77_0 hg, gr77_1 hg, gr77_4 hg, gr77_5 hg, gr78_0 hg, gr78_1 hg, gr82_0 hg, gr82_1 hg, gr85_0 hg, gr85_1 hg, gr88_0 hg, gr88_1 hg, gr91_0 hg, gr91_1 hg, gr91_2 hg, gr91_3 hg, gr92_0 hg, gr94_0 hg, gr96_0 hg, gr98_0 hg, gt100 hg, gt32 hg, gt33 hg, gt34 hg, gt35 hg, gt36 hg, gt37 hg, gt38 hg, gt39 hg, gt40 hg, gt41 hg, gt42 hg, gt43 hg, gt44 hg, gt45 hg, gt46 hg, gt47 hg, gt48 hg, gt49 hg, gt50 hg, gt51 hg, gt52 hg, gt53 hg, gt54 hg, gt55 hg, gt56 hg, gt57 hg, gt58 hg, gt59 hg, gt60 hg, gt61 hg, gt62 hg, gt63 hg, gt64 hg, gt65 hg, gt66 hg, gt67 hg, gt68 hg, gt69 hg, gt70 hg, gt71 hg, gt72 hg, gt73 hg, gt74 hg, gt75 hg, gt76 hg, gt77 hg, gt78 hg, gt79 hg, gt80 hg, gt81 hg, gt82 hg, gt83 hg, gt84 hg, gt85 hg, gt86 hg, gt87 hg, gt88 hg, gt89 hg, gt90 hg, gt91 hg, gt92 hg, gt93 hg, gt94 hg, gt95 hg, gt96 hg, gt97 hg, gt98 hg, gt99 hg, ab_inv_I, ab_inv_R, ab_inv_L, ab_inv_0, ab_push_some, ab_push_none, ab_E_sw, ab_E_sw0, true_and, and_true, not_false_eq_true, bit_ite, s2, s3, s4, s5, s7, qi_ite2, ab_bit0, ab_bit1, qi_ite, ql_ite, Nat.reduceLeDiff, d128, d16, d8, d4, d1000, d100, d10, if_true, if_false, ite_self, tn0, tn1, tn2, tn3, tn4, tn5, tn6, tn7, tn8, tn9, tn10, tn11, tn12, tn13, tn14, tn15, tn16, tn17, tn18, tn19, up_ne, up_row, fr_ne, fr_eq, Int32.reduceAdd, Int32.reduceMul, Int32.reduceSub, Int32.reduceDiv, Int32.reduceLT, Int32.reduceLE, Int32.reduceToNatClampNeg, i10, i01, ↓reduceIte, if_true, if_false, h3, h4, s0, k0, v0, w0, x0, n97, n98, n99, n100, n101, n102, y103]
      exact hQ
    by_cases q3 : b a = 104
    · have u : wvf b a (e - a) = 8 := (word3 hae hx).mp ⟨hL, q3⟩
      have hn : nmO 8 = -4 := by decide
      rw [u, hn] at hQ
      have n97 : (b a = 97) = False := eq_false (fun h => by rw [h] at q3; exact absurd q3 (by decide))
      have n98 : (b a = 98) = False := eq_false (fun h => by rw [h] at q3; exact absurd q3 (by decide))
      have n99 : (b a = 99) = False := eq_false (fun h => by rw [h] at q3; exact absurd q3 (by decide))
      have n100 : (b a = 100) = False := eq_false (fun h => by rw [h] at q3; exact absurd q3 (by decide))
      have n101 : (b a = 101) = False := eq_false (fun h => by rw [h] at q3; exact absurd q3 (by decide))
      have n102 : (b a = 102) = False := eq_false (fun h => by rw [h] at q3; exact absurd q3 (by decide))
      have n103 : (b a = 103) = False := eq_false (fun h => by rw [h] at q3; exact absurd q3 (by decide))
      have y104 : (b a = 104) = True := eq_true q3
      simp (disch := decide) only [k24_0, k24_1, k24_4, k24_5, k24_8, k24_9, k24_10, k24_13, k24_14, k24_15, k24_16, k24_19, k24_22, k24_23, k24_26, k24_27, k24_72, k24_73, k24_74, k24_76, k24_77, k24_79, k24_80, k24_82, k24_83, k24_84, gl100 hg, gl34 hg, gl35 hg, gl36 hg, gl37 hg, gl38 hg, gl39 hg, gl40 hg, gl41 hg, gl42 hg, gl43 hg, gl44 hg, gl46 hg, gl47 hg, gl48 hg, gl49 hg, gl50 hg, gl51 hg, gl52 hg, gl53 hg, gl54 hg, gl55 hg, gl56 hg, gl58 hg, gl60 hg, gl62 hg, gl63 hg, gl64 hg, gl65 hg, gl66 hg, gl68 hg, gl69 hg, gl70 hg, gl71 hg, gl73 hg, gl74 hg, gl75 hg, gl76 hg, gl78 hg, gl79 hg, gl80 hg, gl81 hg, gl82 hg, gl83 hg, gl84 hg, gl85 hg, gl86 hg, gl87 hg, gl89 hg, gl90 hg, gl91 hg, gl93 hg, gl95 hg, gl97 hg, gl99 hg, gr32_0 hg, gr32_1 hg, gr32_10 hg, gr32_11 hg, gr32_3 hg, gr32_4 hg, gr32_5 hg, gr32_6 hg, gr32_7 hg, gr32_8 hg, gr32_9 hg, gr33_0 hg, gr33_1 hg, gr33_2 hg, gr33_3 hg, gr33_4 hg, gr33_5 hg, gr33_6 hg, gr35_0 hg, gr35_1 hg, gr39_0 hg, gr39_1 hg, gr45_0 hg, gr45_1 hg, gr45_2 hg, gr45_3 hg, gr45_4 hg, gr45_5 hg, gr45_6 hg, gr47_0 hg, gr47_1 hg, gr51_0 hg, gr51_1 hg, gr57_0 hg, gr59_0 hg, gr59_1 hg, gr61_0 hg, gr61_1 hg, gr61_2 hg, gr61_3 hg, gr61_4 hg, gr67_0 hg, gr68_0 hg, gr68_1 hg, gr68_2 hg, gr72_0 hg, gr73_0 hg, gr73_1 hg, gr73_2 hg, gr77_0 hg, gr77_1 hg, gr77_4 hg, gr77_5 hg, gr78_0 hg, gr78_1 hg, gr82_0 hg, gr82_1 hg, gr85_0 hg, gr85_1 hg, gr88_0 hg, gr88_1 hg, gr91_0 hg, gr91_1 hg, gr91_2 hg, gr91_3 hg, gr92_0 hg, gr94_0 hg, gr96_0 hg, gr98_0 hg, gt100 hg, gt32 hg, gt33 hg, gt34 hg, gt35 hg, gt36 hg, gt37 hg, gt38 hg, gt39 hg, gt40 hg, gt41 hg, gt42 hg, gt43 hg, gt44 hg, gt45 hg, gt46 hg, gt47 hg, gt48 hg, gt49 hg, gt50 hg, gt51 hg, gt52 hg, gt53 hg, gt54 hg, gt55 hg, gt56 hg, gt57 hg, gt58 hg, gt59 hg, gt60 hg, gt61 hg, gt62 hg, gt63 hg, gt64 hg, gt65 hg, gt66 hg, gt67 hg, gt68 hg, gt69 hg, gt70 hg, gt71 hg, gt72 hg, gt73 hg, gt74 hg, gt75 hg, gt76 hg, gt77 hg, gt78 hg, gt79 hg, gt80 hg, gt81 hg, gt82 hg, gt83 hg, gt84 hg, gt85 hg, gt86 hg, gt87 hg, gt88 hg, gt89 hg, gt90 hg, gt91 hg, gt92 hg, gt93 hg, gt94 hg, gt95 hg, gt96 hg, gt97 hg, gt98 hg, gt99 hg, ab_inv_I, ab_inv_R, ab_inv_L, ab_inv_0, ab_push_some, ab_push_none, ab_E_sw, ab_E_sw0, true_and, and_true, not_false_eq_true, bit_ite, s2, s3, s4, s5, s7, qi_ite2, ab_bit0, ab_bit1, qi_ite, ql_ite, Nat.reduceLeDiff, d128, d16, d8, d4, d1000, d100, d10, if_true, if_false, ite_self, tn0, tn1, tn2, tn3, tn4, tn5, tn6, tn7, tn8, tn9, tn10, tn11, tn12, tn13, tn14, tn15, tn16, tn17, tn18, tn19, up_ne, up_row, fr_ne, fr_eq, Int32.reduceAdd, Int32.reduceMul, Int32.reduceSub, Int32.reduceDiv, Int32.reduceLT, Int32.reduceLE, Int32.reduceToNatClampNeg, i10, i01, ↓reduceIte, if_true, if_false, h3, h4, s0, k0, v0, w0, x0, n97, n98, n99, n100, n101, n102, n103, y104]
      exact hQ
    have u0 : ¬ wvf b a (e - a) = 1 := fun h => q0 ((word0 hae hx).mpr h).2
    have n97 : (b a = 97) = False := eq_false q0
    have u1 : ¬ wvf b a (e - a) = 2 := fun h => q1 ((word1 hae hx).mpr h).2
    have n98 : (b a = 98) = False := eq_false q1
    have u2 : ¬ wvf b a (e - a) = 7 := fun h => q2 ((word2 hae hx).mpr h).2
    have n103 : (b a = 103) = False := eq_false q2
    have u3 : ¬ wvf b a (e - a) = 8 := fun h => q3 ((word3 hae hx).mpr h).2
    have n104 : (b a = 104) = False := eq_false q3
    unfold nmO at hQ
    rw [if_neg u0, if_neg u1, if_neg u2, if_neg u3] at hQ
    simp (disch := decide) only [k24_0, k24_1, k24_4, k24_5, k24_8, k24_9, k24_10, k24_13, k24_14, k24_15, k24_16, k24_19, k24_22, k24_23, k24_26, k24_27, k24_72, k24_73, k24_74, k24_76, k24_77, k24_79, k24_80, k24_82, k24_83, k24_84, gl100 hg, gl34 hg, gl35 hg, gl36 hg, gl37 hg, gl38 hg, gl39 hg, gl40 hg, gl41 hg, gl42 hg, gl43 hg, gl44 hg, gl46 hg, gl47 hg, gl48 hg, gl49 hg, gl50 hg, gl51 hg, gl52 hg, gl53 hg, gl54 hg, gl55 hg, gl56 hg, gl58 hg, gl60 hg, gl62 hg, gl63 hg, gl64 hg, gl65 hg, gl66 hg, gl68 hg, gl69 hg, gl70 hg, gl71 hg, gl73 hg, gl74 hg, gl75 hg, gl76 hg, gl78 hg, gl79 hg, gl80 hg, gl81 hg, gl82 hg, gl83 hg, gl84 hg, gl85 hg, gl86 hg, gl87 hg, gl89 hg, gl90 hg, gl91 hg, gl93 hg, gl95 hg, gl97 hg, gl99 hg, gr32_0 hg, gr32_1 hg, gr32_10 hg, gr32_11 hg, gr32_3 hg, gr32_4 hg, gr32_5 hg, gr32_6 hg, gr32_7 hg, gr32_8 hg, gr32_9 hg, gr33_0 hg, gr33_1 hg, gr33_2 hg, gr33_3 hg, gr33_4 hg, gr33_5 hg, gr33_6 hg, gr35_0 hg, gr35_1 hg, gr39_0 hg, gr39_1 hg, gr45_0 hg, gr45_1 hg, gr45_2 hg, gr45_3 hg, gr45_4 hg, gr45_5 hg, gr45_6 hg, gr47_0 hg, gr47_1 hg, gr51_0 hg, gr51_1 hg, gr57_0 hg, gr59_0 hg, gr59_1 hg, gr61_0 hg, gr61_1 hg, gr61_2 hg, gr61_3 hg, gr61_4 hg, gr67_0 hg, gr68_0 hg, gr68_1 hg, gr68_2 hg, gr72_0 hg, gr73_0 hg, gr73_1 hg, gr73_2 hg, gr77_0 hg, gr77_1 hg, gr77_4 hg, gr77_5 hg, gr78_0 hg, gr78_1 hg, gr82_0 hg, gr82_1 hg, gr85_0 hg, gr85_1 hg, gr88_0 hg, gr88_1 hg, gr91_0 hg, gr91_1 hg, gr91_2 hg, gr91_3 hg, gr92_0 hg, gr94_0 hg, gr96_0 hg, gr98_0 hg, gt100 hg, gt32 hg, gt33 hg, gt34 hg, gt35 hg, gt36 hg, gt37 hg, gt38 hg, gt39 hg, gt40 hg, gt41 hg, gt42 hg, gt43 hg, gt44 hg, gt45 hg, gt46 hg, gt47 hg, gt48 hg, gt49 hg, gt50 hg, gt51 hg, gt52 hg, gt53 hg, gt54 hg, gt55 hg, gt56 hg, gt57 hg, gt58 hg, gt59 hg, gt60 hg, gt61 hg, gt62 hg, gt63 hg, gt64 hg, gt65 hg, gt66 hg, gt67 hg, gt68 hg, gt69 hg, gt70 hg, gt71 hg, gt72 hg, gt73 hg, gt74 hg, gt75 hg, gt76 hg, gt77 hg, gt78 hg, gt79 hg, gt80 hg, gt81 hg, gt82 hg, gt83 hg, gt84 hg, gt85 hg, gt86 hg, gt87 hg, gt88 hg, gt89 hg, gt90 hg, gt91 hg, gt92 hg, gt93 hg, gt94 hg, gt95 hg, gt96 hg, gt97 hg, gt98 hg, gt99 hg, ab_inv_I, ab_inv_R, ab_inv_L, ab_inv_0, ab_push_some, ab_push_none, ab_E_sw, ab_E_sw0, true_and, and_true, not_false_eq_true, bit_ite, s2, s3, s4, s5, s7, qi_ite2, ab_bit0, ab_bit1, qi_ite, ql_ite, Nat.reduceLeDiff, d128, d16, d8, d4, d1000, d100, d10, if_true, if_false, ite_self, tn0, tn1, tn2, tn3, tn4, tn5, tn6, tn7, tn8, tn9, tn10, tn11, tn12, tn13, tn14, tn15, tn16, tn17, tn18, tn19, up_ne, up_row, fr_ne, fr_eq, Int32.reduceAdd, Int32.reduceMul, Int32.reduceSub, Int32.reduceDiv, Int32.reduceLT, Int32.reduceLE, Int32.reduceToNatClampNeg, i10, i01, ↓reduceIte, if_true, if_false, h3, h4, s0, k0, v0, w0, x0, n97, n98, n103, n104, ite_self]
    exact hQ
  · have k0 : (nI (e - a) = 1) = False := eq_false fun h => by
      have := (nI_eq (b := 1) (by omega) (by decide)).mp h
      omega
    have u0 : ¬ wvf b a (e - a) = 1 := fun h => hL ((word0 hae hx).mpr h).1
    have u1 : ¬ wvf b a (e - a) = 2 := fun h => hL ((word1 hae hx).mpr h).1
    have u2 : ¬ wvf b a (e - a) = 7 := fun h => hL ((word2 hae hx).mpr h).1
    have u3 : ¬ wvf b a (e - a) = 8 := fun h => hL ((word3 hae hx).mpr h).1
    unfold nmO at hQ
    rw [if_neg u0, if_neg u1, if_neg u2, if_neg u3] at hQ
    simp (disch := decide) only [k24_0, k24_1, k24_4, k24_5, k24_8, k24_9, k24_10, k24_13, k24_14, k24_15, k24_16, k24_19, k24_22, k24_23, k24_26, k24_27, k24_72, k24_73, k24_74, k24_76, k24_77, k24_79, k24_80, k24_82, k24_83, k24_84, gl100 hg, gl34 hg, gl35 hg, gl36 hg, gl37 hg, gl38 hg, gl39 hg, gl40 hg, gl41 hg, gl42 hg, gl43 hg, gl44 hg, gl46 hg, gl47 hg, gl48 hg, gl49 hg, gl50 hg, gl51 hg, gl52 hg, gl53 hg, gl54 hg, gl55 hg, gl56 hg, gl58 hg, gl60 hg, gl62 hg, gl63 hg, gl64 hg, gl65 hg, gl66 hg, gl68 hg, gl69 hg, gl70 hg, gl71 hg, gl73 hg, gl74 hg, gl75 hg, gl76 hg, gl78 hg, gl79 hg, gl80 hg, gl81 hg, gl82 hg, gl83 hg, gl84 hg, gl85 hg, gl86 hg, gl87 hg, gl89 hg, gl90 hg, gl91 hg, gl93 hg, gl95 hg, gl97 hg, gl99 hg, gr32_0 hg, gr32_1 hg, gr32_10 hg, gr32_11 hg, gr32_3 hg, gr32_4 hg, gr32_5 hg, gr32_6 hg, gr32_7 hg, gr32_8 hg, gr32_9 hg, gr33_0 hg, gr33_1 hg, gr33_2 hg, gr33_3 hg, gr33_4 hg, gr33_5 hg, gr33_6 hg, gr35_0 hg, gr35_1 hg, gr39_0 hg, gr39_1 hg, gr45_0 hg, gr45_1 hg, gr45_2 hg, gr45_3 hg, gr45_4 hg, gr45_5 hg, gr45_6 hg, gr47_0 hg, gr47_1 hg, gr51_0 hg, gr51_1 hg, gr57_0 hg, gr59_0 hg, gr59_1 hg, gr61_0 hg, gr61_1 hg, gr61_2 hg, gr61_3 hg, gr61_4 hg, gr67_0 hg, gr68_0 hg, gr68_1 hg, gr68_2 hg, gr72_0 hg, gr73_0 hg, gr73_1 hg, gr73_2 hg, gr77_0 hg, gr77_1 hg, gr77_4 hg, gr77_5 hg, gr78_0 hg, gr78_1 hg, gr82_0 hg, gr82_1 hg, gr85_0 hg, gr85_1 hg, gr88_0 hg, gr88_1 hg, gr91_0 hg, gr91_1 hg, gr91_2 hg, gr91_3 hg, gr92_0 hg, gr94_0 hg, gr96_0 hg, gr98_0 hg, gt100 hg, gt32 hg, gt33 hg, gt34 hg, gt35 hg, gt36 hg, gt37 hg, gt38 hg, gt39 hg, gt40 hg, gt41 hg, gt42 hg, gt43 hg, gt44 hg, gt45 hg, gt46 hg, gt47 hg, gt48 hg, gt49 hg, gt50 hg, gt51 hg, gt52 hg, gt53 hg, gt54 hg, gt55 hg, gt56 hg, gt57 hg, gt58 hg, gt59 hg, gt60 hg, gt61 hg, gt62 hg, gt63 hg, gt64 hg, gt65 hg, gt66 hg, gt67 hg, gt68 hg, gt69 hg, gt70 hg, gt71 hg, gt72 hg, gt73 hg, gt74 hg, gt75 hg, gt76 hg, gt77 hg, gt78 hg, gt79 hg, gt80 hg, gt81 hg, gt82 hg, gt83 hg, gt84 hg, gt85 hg, gt86 hg, gt87 hg, gt88 hg, gt89 hg, gt90 hg, gt91 hg, gt92 hg, gt93 hg, gt94 hg, gt95 hg, gt96 hg, gt97 hg, gt98 hg, gt99 hg, ab_inv_I, ab_inv_R, ab_inv_L, ab_inv_0, ab_push_some, ab_push_none, ab_E_sw, ab_E_sw0, true_and, and_true, not_false_eq_true, bit_ite, s2, s3, s4, s5, s7, qi_ite2, ab_bit0, ab_bit1, qi_ite, ql_ite, Nat.reduceLeDiff, d128, d16, d8, d4, d1000, d100, d10, if_true, if_false, ite_self, tn0, tn1, tn2, tn3, tn4, tn5, tn6, tn7, tn8, tn9, tn10, tn11, tn12, tn13, tn14, tn15, tn16, tn17, tn18, tn19, up_ne, up_row, fr_ne, fr_eq, Int32.reduceAdd, Int32.reduceMul, Int32.reduceSub, Int32.reduceDiv, Int32.reduceLT, Int32.reduceLE, Int32.reduceToNatClampNeg, i10, i01, ↓reduceIte, if_true, if_false, h3, h4, s0, k0]
    exact hQ
set_option maxRecDepth 20000 in
theorem c_Tr_isLetter {x : Int32} : ab_run (d + 1) 22 [vI x] g I J Q ↔ Q (some (vI (if x < 97 then 0 else if 122 < x then 0 else 1))) g I J := by
  rw [e22]
  simp only [k22_0, k22_1, k22_3, k22_6, k22_7, k22_9, k22_12, k22_13, k22_16, k22_17, ab_inv_I, ab_inv_R, ab_inv_L, ab_inv_0, ab_push_some, ab_push_none, ab_E_sw, ab_E_sw0, true_and, and_true, not_false_eq_true, bit_ite, s2, s3, s4, s5, s7, qi_ite2, ab_bit0, ab_bit1, qi_ite, ql_ite, Nat.reduceLeDiff, d128, d16, d8, d4, d1000, d100, d10, if_true, if_false, ite_self, tn0, tn1, tn2, tn3, tn4, tn5, tn6, tn7, tn8, tn9, tn10, tn11, tn12, tn13, tn14, tn15, tn16, tn17, tn18, tn19]
set_option maxRecDepth 20000 in
theorem c_Tr_isDigit {x : Int32} : ab_run (d + 1) 33 [vI x] g I J Q ↔ Q (some (vI (if x < 48 then 0 else if 57 < x then 0 else 1))) g I J := by
  rw [e33]
  simp only [k33_0, k33_1, k33_3, k33_6, k33_7, k33_9, k33_12, k33_13, k33_16, k33_17, ab_inv_I, ab_inv_R, ab_inv_L, ab_inv_0, ab_push_some, ab_push_none, ab_E_sw, ab_E_sw0, true_and, and_true, not_false_eq_true, bit_ite, s2, s3, s4, s5, s7, qi_ite2, ab_bit0, ab_bit1, qi_ite, ql_ite, Nat.reduceLeDiff, d128, d16, d8, d4, d1000, d100, d10, if_true, if_false, ite_self, tn0, tn1, tn2, tn3, tn4, tn5, tn6, tn7, tn8, tn9, tn10, tn11, tn12, tn13, tn14, tn15, tn16, tn17, tn18, tn19]
theorem isLe_1 {x : Int32} (h : isLe x = true) : (if x < 97 then (0 : Int32) else if 122 < x then 0 else 1) = 1 := by
  unfold isLe at h
  have := of_decide_eq_true h
  rw [if_neg this.1, if_neg this.2]
theorem isLe_0 {x : Int32} (h : ¬ isLe x = true) : (if x < 97 then (0 : Int32) else if 122 < x then 0 else 1) = 0 := by
  unfold isLe at h
  simp only [decide_eq_true_eq] at h
  by_cases q : x < 97
  · rw [if_pos q]
  · rw [if_neg q, if_pos (Classical.byContradiction fun k => h ⟨q, k⟩)]
theorem isDi_1 {x : Int32} (h : isDi x = true) : (if x < 48 then (0 : Int32) else if 57 < x then 0 else 1) = 1 := by
  unfold isDi at h
  have := of_decide_eq_true h
  rw [if_neg this.1, if_neg this.2]
theorem isDi_0 {x : Int32} (h : ¬ isDi x = true) : (if x < 48 then (0 : Int32) else if 57 < x then 0 else 1) = 0 := by
  unfold isDi at h
  simp only [decide_eq_true_eq] at h
  by_cases q : x < 48
  · rw [if_pos q]
  · rw [if_neg q, if_pos (Classical.byContradiction fun k => h ⟨q, k⟩)]
set_option maxRecDepth 20000 in
theorem lp_tw (hg : gx g) (hn : n ≤ 120) (k : Nat) : ∀ p I, p + k = n → I 57 1 = nI n → (∀ i, i < 120 → I 58 i = b i) → I 59 4 = nI p → (∀ I', I' = ab_up I 59 4 (nI (rn b n isLe 200 p)) → ab_E (d + 6) 23 45 [some (vR (some 59))] [] 0 0 g I' J Q) → ab_E (d + 6) 23 0 [some (vR (some 59))] [] 0 0 g I J Q := by
  induction k with
  | zero =>
    intro p I hk h1 hb h4 hQ
    have g1 : ¬ nI p < nI n := nI_nlt (by omega) (by omega)
    have hr : rn b n isLe 200 p = p := rn_at (fun h => by omega)
    rw [hr] at hQ
    rw [k23_0]
    simp (disch := decide) only [k23_1, k23_4, k23_5, k23_8, k23_11, k23_14, k23_15, k23_18, k23_21, k23_22, k23_25, k23_26, k23_29, k23_32, k23_33, k23_34, k23_37, k23_38, k23_39, k23_42, k23_46, k23_47, k23_50, k23_53, k23_54, k23_57, k23_60, k23_61, k23_63, k23_66, k23_69, k23_70, k23_72, k23_75, k23_78, k23_79, k23_81, k23_84, k23_87, k23_88, k23_90, k23_93, k23_96, k23_97, k23_99, k23_102, k23_105, k23_106, k23_108, k23_111, k23_114, k23_115, k23_117, k23_120, k23_123, k23_124, k23_126, k23_129, gl100 hg, gl34 hg, gl35 hg, gl36 hg, gl37 hg, gl38 hg, gl39 hg, gl40 hg, gl41 hg, gl42 hg, gl43 hg, gl44 hg, gl46 hg, gl47 hg, gl48 hg, gl49 hg, gl50 hg, gl51 hg, gl52 hg, gl53 hg, gl54 hg, gl55 hg, gl56 hg, gl58 hg, gl60 hg, gl62 hg, gl63 hg, gl64 hg, gl65 hg, gl66 hg, gl68 hg, gl69 hg, gl70 hg, gl71 hg, gl73 hg, gl74 hg, gl75 hg, gl76 hg, gl78 hg, gl79 hg, gl80 hg, gl81 hg, gl82 hg, gl83 hg, gl84 hg, gl85 hg, gl86 hg, gl87 hg, gl89 hg, gl90 hg, gl91 hg, gl93 hg, gl95 hg, gl97 hg, gl99 hg, gr32_0 hg, gr32_1 hg, gr32_10 hg, gr32_11 hg, gr32_3 hg, gr32_4 hg, gr32_5 hg, gr32_6 hg, gr32_7 hg, gr32_8 hg, gr32_9 hg, gr33_0 hg, gr33_1 hg, gr33_2 hg, gr33_3 hg, gr33_4 hg, gr33_5 hg, gr33_6 hg, gr35_0 hg, gr35_1 hg, gr39_0 hg, gr39_1 hg, gr45_0 hg, gr45_1 hg, gr45_2 hg, gr45_3 hg, gr45_4 hg, gr45_5 hg, gr45_6 hg, gr47_0 hg, gr47_1 hg, gr51_0 hg, gr51_1 hg, gr57_0 hg, gr59_0 hg, gr59_1 hg, gr61_0 hg, gr61_1 hg, gr61_2 hg, gr61_3 hg, gr61_4 hg, gr67_0 hg, gr68_0 hg, gr68_1 hg, gr68_2 hg, gr72_0 hg, gr73_0 hg, gr73_1 hg, gr73_2 hg, gr77_0 hg, gr77_1 hg, gr77_4 hg, gr77_5 hg, gr78_0 hg, gr78_1 hg, gr82_0 hg, gr82_1 hg, gr85_0 hg, gr85_1 hg, gr88_0 hg, gr88_1 hg, gr91_0 hg, gr91_1 hg, gr91_2 hg, gr91_3 hg, gr92_0 hg, gr94_0 hg, gr96_0 hg, gr98_0 hg, gt100 hg, gt32 hg, gt33 hg, gt34 hg, gt35 hg, gt36 hg, gt37 hg, gt38 hg, gt39 hg, gt40 hg, gt41 hg, gt42 hg, gt43 hg, gt44 hg, gt45 hg, gt46 hg, gt47 hg, gt48 hg, gt49 hg, gt50 hg, gt51 hg, gt52 hg, gt53 hg, gt54 hg, gt55 hg, gt56 hg, gt57 hg, gt58 hg, gt59 hg, gt60 hg, gt61 hg, gt62 hg, gt63 hg, gt64 hg, gt65 hg, gt66 hg, gt67 hg, gt68 hg, gt69 hg, gt70 hg, gt71 hg, gt72 hg, gt73 hg, gt74 hg, gt75 hg, gt76 hg, gt77 hg, gt78 hg, gt79 hg, gt80 hg, gt81 hg, gt82 hg, gt83 hg, gt84 hg, gt85 hg, gt86 hg, gt87 hg, gt88 hg, gt89 hg, gt90 hg, gt91 hg, gt92 hg, gt93 hg, gt94 hg, gt95 hg, gt96 hg, gt97 hg, gt98 hg, gt99 hg, ab_inv_I, ab_inv_R, ab_inv_L, ab_inv_0, ab_push_some, ab_push_none, ab_E_sw, ab_E_sw0, true_and, and_true, not_false_eq_true, bit_ite, s2, s3, s4, s5, s7, qi_ite2, ab_bit0, ab_bit1, qi_ite, ql_ite, Nat.reduceLeDiff, d128, d16, d8, d4, d1000, d100, d10, if_true, if_false, ite_self, tn0, tn1, tn2, tn3, tn4, tn5, tn6, tn7, tn8, tn9, tn10, tn11, tn12, tn13, tn14, tn15, tn16, tn17, tn18, tn19, up_ne, up_row, fr_ne, fr_eq, Int32.reduceAdd, Int32.reduceMul, Int32.reduceSub, Int32.reduceDiv, Int32.reduceLT, Int32.reduceLE, Int32.reduceToNatClampNeg, i10, i01, ↓reduceIte, if_true, if_false, g1, h1, h4]
    exact hQ I (up_self h4).symm
  | succ k ih =>
    intro p I hk h1 hb h4 hQ
    have hp : p < n := by omega
    have g1 : nI p < nI n := nI_lt hp (by omega)
    have f1 : vp_in (nI p) 120 := vp_in_nI (by omega) (by decide)
    have f2 : (nI p).toNatClampNeg = p := nI_clamp (by omega)
    have hbp := hb p (by omega)
    rw [k23_0]
    by_cases hl : isLe (b p) = true
    · have hl' := isLe_1 hl
      rw [rn_go hn hp hl] at hQ
      simp (disch := decide) only [k23_1, k23_4, k23_5, k23_8, k23_11, k23_14, k23_15, k23_18, k23_21, k23_22, k23_25, k23_26, k23_29, k23_32, k23_33, k23_34, k23_37, k23_38, k23_39, k23_42, k23_46, k23_47, k23_50, k23_53, k23_54, k23_57, k23_60, k23_61, k23_63, k23_66, k23_69, k23_70, k23_72, k23_75, k23_78, k23_79, k23_81, k23_84, k23_87, k23_88, k23_90, k23_93, k23_96, k23_97, k23_99, k23_102, k23_105, k23_106, k23_108, k23_111, k23_114, k23_115, k23_117, k23_120, k23_123, k23_124, k23_126, k23_129, gl100 hg, gl34 hg, gl35 hg, gl36 hg, gl37 hg, gl38 hg, gl39 hg, gl40 hg, gl41 hg, gl42 hg, gl43 hg, gl44 hg, gl46 hg, gl47 hg, gl48 hg, gl49 hg, gl50 hg, gl51 hg, gl52 hg, gl53 hg, gl54 hg, gl55 hg, gl56 hg, gl58 hg, gl60 hg, gl62 hg, gl63 hg, gl64 hg, gl65 hg, gl66 hg, gl68 hg, gl69 hg, gl70 hg, gl71 hg, gl73 hg, gl74 hg, gl75 hg, gl76 hg, gl78 hg, gl79 hg, gl80 hg, gl81 hg, gl82 hg, gl83 hg, gl84 hg, gl85 hg, gl86 hg, gl87 hg, gl89 hg, gl90 hg, gl91 hg, gl93 hg, gl95 hg, gl97 hg, gl99 hg, gr32_0 hg, gr32_1 hg, gr32_10 hg, gr32_11 hg, gr32_3 hg, gr32_4 hg, gr32_5 hg, gr32_6 hg, gr32_7 hg, gr32_8 hg, gr32_9 hg, gr33_0 hg, gr33_1 hg, gr33_2 hg, gr33_3 hg, gr33_4 hg, gr33_5 hg, gr33_6 hg, gr35_0 hg, gr35_1 hg, gr39_0 hg, gr39_1 hg, gr45_0 hg, gr45_1 hg, gr45_2 hg, gr45_3 hg, gr45_4 hg, gr45_5 hg, gr45_6 hg, gr47_0 hg, gr47_1 hg, gr51_0 hg, gr51_1 hg, gr57_0 hg, gr59_0 hg, gr59_1 hg, gr61_0 hg, gr61_1 hg, gr61_2 hg, gr61_3 hg, gr61_4 hg, gr67_0 hg, gr68_0 hg, gr68_1 hg, gr68_2 hg, gr72_0 hg, gr73_0 hg, gr73_1 hg, gr73_2 hg, gr77_0 hg, gr77_1 hg, gr77_4 hg, gr77_5 hg, gr78_0 hg, gr78_1 hg, gr82_0 hg, gr82_1 hg, gr85_0 hg, gr85_1 hg, gr88_0 hg, gr88_1 hg, gr91_0 hg, gr91_1 hg, gr91_2 hg, gr91_3 hg, gr92_0 hg, gr94_0 hg, gr96_0 hg, gr98_0 hg, gt100 hg, gt32 hg, gt33 hg, gt34 hg, gt35 hg, gt36 hg, gt37 hg, gt38 hg, gt39 hg, gt40 hg, gt41 hg, gt42 hg, gt43 hg, gt44 hg, gt45 hg, gt46 hg, gt47 hg, gt48 hg, gt49 hg, gt50 hg, gt51 hg, gt52 hg, gt53 hg, gt54 hg, gt55 hg, gt56 hg, gt57 hg, gt58 hg, gt59 hg, gt60 hg, gt61 hg, gt62 hg, gt63 hg, gt64 hg, gt65 hg, gt66 hg, gt67 hg, gt68 hg, gt69 hg, gt70 hg, gt71 hg, gt72 hg, gt73 hg, gt74 hg, gt75 hg, gt76 hg, gt77 hg, gt78 hg, gt79 hg, gt80 hg, gt81 hg, gt82 hg, gt83 hg, gt84 hg, gt85 hg, gt86 hg, gt87 hg, gt88 hg, gt89 hg, gt90 hg, gt91 hg, gt92 hg, gt93 hg, gt94 hg, gt95 hg, gt96 hg, gt97 hg, gt98 hg, gt99 hg, ab_inv_I, ab_inv_R, ab_inv_L, ab_inv_0, ab_push_some, ab_push_none, ab_E_sw, ab_E_sw0, true_and, and_true, not_false_eq_true, bit_ite, s2, s3, s4, s5, s7, qi_ite2, ab_bit0, ab_bit1, qi_ite, ql_ite, Nat.reduceLeDiff, d128, d16, d8, d4, d1000, d100, d10, if_true, if_false, ite_self, tn0, tn1, tn2, tn3, tn4, tn5, tn6, tn7, tn8, tn9, tn10, tn11, tn12, tn13, tn14, tn15, tn16, tn17, tn18, tn19, up_ne, up_row, fr_ne, fr_eq, Int32.reduceAdd, Int32.reduceMul, Int32.reduceSub, Int32.reduceDiv, Int32.reduceLT, Int32.reduceLE, Int32.reduceToNatClampNeg, i10, i01, ↓reduceIte, if_true, if_false, g1, h1, h4, f1, f2, hbp, c_Tr_isLetter, hl', nIp, i02, i03, i04, i05, i06, i07, i12, i13, i14, i15, i16, i17, i20, i21, i23, i24, i25, i26, i27, i30, i31, i32, i34, i35, i36, i37, i40, i41, i42, i43, i45, i46, i47, i50, i51, i52, i53, i54, i56, i57, i60, i61, i62, i63, i64, i65, i67, i70, i71, i72, i73, i74, i75, i76, i10, i01]
      refine ih (p + 1) _ (by omega) (by rw [up_ne (by decide)]; exact h1) (fun i hi => by rw [up_ne (by decide)]; exact hb i hi) (by rw [up_row, fr_eq]) fun I' e => hQ I' ?_
      rw [e]
      funext x y; unfold ab_up; split
      · rfl
      · rfl
    · have hl' := isLe_0 hl
      rw [rn_at (P := isLe) (fun h => hl h.2)] at hQ
      simp (disch := decide) only [k23_1, k23_4, k23_5, k23_8, k23_11, k23_14, k23_15, k23_18, k23_21, k23_22, k23_25, k23_26, k23_29, k23_32, k23_33, k23_34, k23_37, k23_38, k23_39, k23_42, k23_46, k23_47, k23_50, k23_53, k23_54, k23_57, k23_60, k23_61, k23_63, k23_66, k23_69, k23_70, k23_72, k23_75, k23_78, k23_79, k23_81, k23_84, k23_87, k23_88, k23_90, k23_93, k23_96, k23_97, k23_99, k23_102, k23_105, k23_106, k23_108, k23_111, k23_114, k23_115, k23_117, k23_120, k23_123, k23_124, k23_126, k23_129, gl100 hg, gl34 hg, gl35 hg, gl36 hg, gl37 hg, gl38 hg, gl39 hg, gl40 hg, gl41 hg, gl42 hg, gl43 hg, gl44 hg, gl46 hg, gl47 hg, gl48 hg, gl49 hg, gl50 hg, gl51 hg, gl52 hg, gl53 hg, gl54 hg, gl55 hg, gl56 hg, gl58 hg, gl60 hg, gl62 hg, gl63 hg, gl64 hg, gl65 hg, gl66 hg, gl68 hg, gl69 hg, gl70 hg, gl71 hg, gl73 hg, gl74 hg, gl75 hg, gl76 hg, gl78 hg, gl79 hg, gl80 hg, gl81 hg, gl82 hg, gl83 hg, gl84 hg, gl85 hg, gl86 hg, gl87 hg, gl89 hg, gl90 hg, gl91 hg, gl93 hg, gl95 hg, gl97 hg, gl99 hg, gr32_0 hg, gr32_1 hg, gr32_10 hg, gr32_11 hg, gr32_3 hg, gr32_4 hg, gr32_5 hg, gr32_6 hg, gr32_7 hg, gr32_8 hg, gr32_9 hg, gr33_0 hg, gr33_1 hg, gr33_2 hg, gr33_3 hg, gr33_4 hg, gr33_5 hg, gr33_6 hg, gr35_0 hg, gr35_1 hg, gr39_0 hg, gr39_1 hg, gr45_0 hg, gr45_1 hg, gr45_2 hg, gr45_3 hg, gr45_4 hg, gr45_5 hg, gr45_6 hg, gr47_0 hg, gr47_1 hg, gr51_0 hg, gr51_1 hg, gr57_0 hg, gr59_0 hg, gr59_1 hg, gr61_0 hg, gr61_1 hg, gr61_2 hg, gr61_3 hg, gr61_4 hg, gr67_0 hg, gr68_0 hg, gr68_1 hg, gr68_2 hg, gr72_0 hg, gr73_0 hg, gr73_1 hg, gr73_2 hg, gr77_0 hg, gr77_1 hg, gr77_4 hg, gr77_5 hg, gr78_0 hg, gr78_1 hg, gr82_0 hg, gr82_1 hg, gr85_0 hg, gr85_1 hg, gr88_0 hg, gr88_1 hg, gr91_0 hg, gr91_1 hg, gr91_2 hg, gr91_3 hg, gr92_0 hg, gr94_0 hg, gr96_0 hg, gr98_0 hg, gt100 hg, gt32 hg, gt33 hg, gt34 hg, gt35 hg, gt36 hg, gt37 hg, gt38 hg, gt39 hg, gt40 hg, gt41 hg, gt42 hg, gt43 hg, gt44 hg, gt45 hg, gt46 hg, gt47 hg, gt48 hg, gt49 hg, gt50 hg, gt51 hg, gt52 hg, gt53 hg, gt54 hg, gt55 hg, gt56 hg, gt57 hg, gt58 hg, gt59 hg, gt60 hg, gt61 hg, gt62 hg, gt63 hg, gt64 hg, gt65 hg, gt66 hg, gt67 hg, gt68 hg, gt69 hg, gt70 hg, gt71 hg, gt72 hg, gt73 hg, gt74 hg, gt75 hg, gt76 hg, gt77 hg, gt78 hg, gt79 hg, gt80 hg, gt81 hg, gt82 hg, gt83 hg, gt84 hg, gt85 hg, gt86 hg, gt87 hg, gt88 hg, gt89 hg, gt90 hg, gt91 hg, gt92 hg, gt93 hg, gt94 hg, gt95 hg, gt96 hg, gt97 hg, gt98 hg, gt99 hg, ab_inv_I, ab_inv_R, ab_inv_L, ab_inv_0, ab_push_some, ab_push_none, ab_E_sw, ab_E_sw0, true_and, and_true, not_false_eq_true, bit_ite, s2, s3, s4, s5, s7, qi_ite2, ab_bit0, ab_bit1, qi_ite, ql_ite, Nat.reduceLeDiff, d128, d16, d8, d4, d1000, d100, d10, if_true, if_false, ite_self, tn0, tn1, tn2, tn3, tn4, tn5, tn6, tn7, tn8, tn9, tn10, tn11, tn12, tn13, tn14, tn15, tn16, tn17, tn18, tn19, up_ne, up_row, fr_ne, fr_eq, Int32.reduceAdd, Int32.reduceMul, Int32.reduceSub, Int32.reduceDiv, Int32.reduceLT, Int32.reduceLE, Int32.reduceToNatClampNeg, i10, i01, ↓reduceIte, if_true, if_false, g1, h1, h4, f1, f2, hbp, c_Tr_isLetter, hl', i02, i03, i04, i05, i06, i07, i12, i13, i14, i15, i16, i17, i20, i21, i23, i24, i25, i26, i27, i30, i31, i32, i34, i35, i36, i37, i40, i41, i42, i43, i45, i46, i47, i50, i51, i52, i53, i54, i56, i57, i60, i61, i62, i63, i64, i65, i67, i70, i71, i72, i73, i74, i75, i76, i10, i01]
      exact hQ I (up_self h4).symm
set_option maxRecDepth 20000 in
theorem c_takeWord (hg : gx g) (hl : low SL xs g I) (hn : n ≤ 120) (ha : a < n) (h1 : I 57 1 = nI n) (hb : ∀ i, i < 120 → I 58 i = b i) (h3 : I 59 3 = nI a) (h4 : I 59 4 = nI a) (hle : isLe (b a) = true) (hQ : ∀ I', dfr [59] [] I I' → I' 59 2 = I 59 2 → CT I' (a, rn b n isLe 200 a, 1, wvf b a (rn b n isLe 200 a - a)) → Q none g I' J) : ab_run (d + 7) 23 [vR (some 59)] g I J Q := by
  have hae := rn_first (b := b) (P := isLe) hn ha hle
  have hen := rn_le (b := b) (n := n) (P := isLe) 200 a (by omega)
  have hx : ∀ i, i < rn b n isLe 200 a - a → 1 ≤ (b (a + i)).toInt - 96 ∧ (b (a + i)).toInt - 96 ≤ 26 := fun i hi => le_in (rn_all (n := n) 200 a (a + i) (by omega) (by omega))
  rw [e23]
  refine lp_tw (b := b) hg hn (n - a) a I (by omega) h1 hb h4 fun I1 e1 => ?_
  generalize rn b n isLe 200 a = e at *
  have D1 : dfr [59] [] I I1 := by rw [e1]; exact dfr_up (by decide) (by decide)
  have b1 : ∀ i, i < 120 → I1 58 i = b i := fun i hi => by rw [D1.1 58 (by decide) (by decide)]; exact hb i hi
  have c3 : I1 59 3 = nI a := by rw [e1, up_row, fr_ne (by decide)]; exact h3
  have c4 : I1 59 4 = nI e := by rw [e1, up_row, fr_eq]
  have c2 : I1 59 2 = I 59 2 := by rw [e1, up_row, fr_ne (by decide)]
  have hl1 : low SL xs g I1 := by rw [e1]; exact (low_up (by decide)).mpr hl
  rw [k23_45]
  simp (disch := decide) only [k23_1, k23_4, k23_5, k23_8, k23_11, k23_14, k23_15, k23_18, k23_21, k23_22, k23_25, k23_26, k23_29, k23_32, k23_33, k23_34, k23_37, k23_38, k23_39, k23_42, k23_46, k23_47, k23_50, k23_53, k23_54, k23_57, k23_60, k23_61, k23_63, k23_66, k23_69, k23_70, k23_72, k23_75, k23_78, k23_79, k23_81, k23_84, k23_87, k23_88, k23_90, k23_93, k23_96, k23_97, k23_99, k23_102, k23_105, k23_106, k23_108, k23_111, k23_114, k23_115, k23_117, k23_120, k23_123, k23_124, k23_126, k23_129, gl100 hg, gl34 hg, gl35 hg, gl36 hg, gl37 hg, gl38 hg, gl39 hg, gl40 hg, gl41 hg, gl42 hg, gl43 hg, gl44 hg, gl46 hg, gl47 hg, gl48 hg, gl49 hg, gl50 hg, gl51 hg, gl52 hg, gl53 hg, gl54 hg, gl55 hg, gl56 hg, gl58 hg, gl60 hg, gl62 hg, gl63 hg, gl64 hg, gl65 hg, gl66 hg, gl68 hg, gl69 hg, gl70 hg, gl71 hg, gl73 hg, gl74 hg, gl75 hg, gl76 hg, gl78 hg, gl79 hg, gl80 hg, gl81 hg, gl82 hg, gl83 hg, gl84 hg, gl85 hg, gl86 hg, gl87 hg, gl89 hg, gl90 hg, gl91 hg, gl93 hg, gl95 hg, gl97 hg, gl99 hg, gr32_0 hg, gr32_1 hg, gr32_10 hg, gr32_11 hg, gr32_3 hg, gr32_4 hg, gr32_5 hg, gr32_6 hg, gr32_7 hg, gr32_8 hg, gr32_9 hg, gr33_0 hg, gr33_1 hg, gr33_2 hg, gr33_3 hg, gr33_4 hg, gr33_5 hg, gr33_6 hg, gr35_0 hg, gr35_1 hg, gr39_0 hg, gr39_1 hg, gr45_0 hg, gr45_1 hg, gr45_2 hg, gr45_3 hg, gr45_4 hg, gr45_5 hg, gr45_6 hg, gr47_0 hg, gr47_1 hg, gr51_0 hg, gr51_1 hg, gr57_0 hg, gr59_0 hg, gr59_1 hg, gr61_0 hg, gr61_1 hg, gr61_2 hg, gr61_3 hg, gr61_4 hg, gr67_0 hg, gr68_0 hg, gr68_1 hg, gr68_2 hg, gr72_0 hg, gr73_0 hg, gr73_1 hg, gr73_2 hg, gr77_0 hg, gr77_1 hg, gr77_4 hg, gr77_5 hg, gr78_0 hg, gr78_1 hg, gr82_0 hg, gr82_1 hg, gr85_0 hg, gr85_1 hg, gr88_0 hg, gr88_1 hg, gr91_0 hg, gr91_1 hg, gr91_2 hg, gr91_3 hg, gr92_0 hg, gr94_0 hg, gr96_0 hg, gr98_0 hg, gt100 hg, gt32 hg, gt33 hg, gt34 hg, gt35 hg, gt36 hg, gt37 hg, gt38 hg, gt39 hg, gt40 hg, gt41 hg, gt42 hg, gt43 hg, gt44 hg, gt45 hg, gt46 hg, gt47 hg, gt48 hg, gt49 hg, gt50 hg, gt51 hg, gt52 hg, gt53 hg, gt54 hg, gt55 hg, gt56 hg, gt57 hg, gt58 hg, gt59 hg, gt60 hg, gt61 hg, gt62 hg, gt63 hg, gt64 hg, gt65 hg, gt66 hg, gt67 hg, gt68 hg, gt69 hg, gt70 hg, gt71 hg, gt72 hg, gt73 hg, gt74 hg, gt75 hg, gt76 hg, gt77 hg, gt78 hg, gt79 hg, gt80 hg, gt81 hg, gt82 hg, gt83 hg, gt84 hg, gt85 hg, gt86 hg, gt87 hg, gt88 hg, gt89 hg, gt90 hg, gt91 hg, gt92 hg, gt93 hg, gt94 hg, gt95 hg, gt96 hg, gt97 hg, gt98 hg, gt99 hg, ab_inv_I, ab_inv_R, ab_inv_L, ab_inv_0, ab_push_some, ab_push_none, ab_E_sw, ab_E_sw0, true_and, and_true, not_false_eq_true, bit_ite, s2, s3, s4, s5, s7, qi_ite2, ab_bit0, ab_bit1, qi_ite, ql_ite, Nat.reduceLeDiff, d128, d16, d8, d4, d1000, d100, d10, if_true, if_false, ite_self, tn0, tn1, tn2, tn3, tn4, tn5, tn6, tn7, tn8, tn9, tn10, tn11, tn12, tn13, tn14, tn15, tn16, tn17, tn18, tn19, up_ne, up_row, fr_ne, fr_eq, Int32.reduceAdd, Int32.reduceMul, Int32.reduceSub, Int32.reduceDiv, Int32.reduceLT, Int32.reduceLE, Int32.reduceToNatClampNeg, i10, i01, ↓reduceIte, if_true, if_false]
  refine c_nameStep hg hl1 b1 c3 c4 hae (by omega) hx ?_
  have fin : ∀ tk, tkT 1 (wvf b a (e - a)) = tk → Q none g (ab_up (ab_up I1 59 6 (nmO (wvf b a (e - a)))) 59 5 tk) J := by
    intro tk ht
    refine hQ _ (dfr_trans D1 (dfr_trans (dfr_up (by decide) (by decide)) (dfr_up (by decide) (by decide)))) ?_ ⟨⟨?_, ?_⟩, ?_, fun _ => ?_⟩
    · simp (disch := decide) only [up_row, fr_ne]; exact c2
    · simp (disch := decide) only [up_row, fr_ne]; exact c3
    · simp (disch := decide) only [up_row, fr_ne]; exact c4
    · simp (disch := decide) only [up_row, fr_eq]; exact ht.symm
    · simp (disch := decide) only [up_row, fr_ne, fr_eq]; unfold tkV; rw [if_pos rfl]
  have t1 : tkT 1 (wvf b a (e - a)) = if nmO (wvf b a (e - a)) < 0 then -4 else if wvf b a (e - a) = 47328224 then -5 else if wvf b a (e - a) = 381245 then -6 else if wvf b a (e - a) = 316351 then -7 else -2 := by unfold tkT; rw [if_neg (by decide), if_pos rfl]
  have hl2 : low SL xs g (ab_up I1 59 6 (nmO (wvf b a (e - a)))) := (low_up (by decide)).mpr hl1
  have b2 : ∀ i, i < 120 → (ab_up I1 59 6 (nmO (wvf b a (e - a)))) 58 i = b i := fun i hi => by rw [up_ne (by decide)]; exact b1 i hi
  have c3' : (ab_up I1 59 6 (nmO (wvf b a (e - a)))) 59 3 = nI a := by rw [up_row, fr_ne (by decide)]; exact c3
  have c4' : (ab_up I1 59 6 (nmO (wvf b a (e - a)))) 59 4 = nI e := by rw [up_row, fr_ne (by decide)]; exact c4
  by_cases u0 : nmO (wvf b a (e - a)) < 0
  · rw [if_pos u0] at t1
    simp (disch := decide) only [k23_1, k23_4, k23_5, k23_8, k23_11, k23_14, k23_15, k23_18, k23_21, k23_22, k23_25, k23_26, k23_29, k23_32, k23_33, k23_34, k23_37, k23_38, k23_39, k23_42, k23_46, k23_47, k23_50, k23_53, k23_54, k23_57, k23_60, k23_61, k23_63, k23_66, k23_69, k23_70, k23_72, k23_75, k23_78, k23_79, k23_81, k23_84, k23_87, k23_88, k23_90, k23_93, k23_96, k23_97, k23_99, k23_102, k23_105, k23_106, k23_108, k23_111, k23_114, k23_115, k23_117, k23_120, k23_123, k23_124, k23_126, k23_129, gl100 hg, gl34 hg, gl35 hg, gl36 hg, gl37 hg, gl38 hg, gl39 hg, gl40 hg, gl41 hg, gl42 hg, gl43 hg, gl44 hg, gl46 hg, gl47 hg, gl48 hg, gl49 hg, gl50 hg, gl51 hg, gl52 hg, gl53 hg, gl54 hg, gl55 hg, gl56 hg, gl58 hg, gl60 hg, gl62 hg, gl63 hg, gl64 hg, gl65 hg, gl66 hg, gl68 hg, gl69 hg, gl70 hg, gl71 hg, gl73 hg, gl74 hg, gl75 hg, gl76 hg, gl78 hg, gl79 hg, gl80 hg, gl81 hg, gl82 hg, gl83 hg, gl84 hg, gl85 hg, gl86 hg, gl87 hg, gl89 hg, gl90 hg, gl91 hg, gl93 hg, gl95 hg, gl97 hg, gl99 hg, gr32_0 hg, gr32_1 hg, gr32_10 hg, gr32_11 hg, gr32_3 hg, gr32_4 hg, gr32_5 hg, gr32_6 hg, gr32_7 hg, gr32_8 hg, gr32_9 hg, gr33_0 hg, gr33_1 hg, gr33_2 hg, gr33_3 hg, gr33_4 hg, gr33_5 hg, gr33_6 hg, gr35_0 hg, gr35_1 hg, gr39_0 hg, gr39_1 hg, gr45_0 hg, gr45_1 hg, gr45_2 hg, gr45_3 hg, gr45_4 hg, gr45_5 hg, gr45_6 hg, gr47_0 hg, gr47_1 hg, gr51_0 hg, gr51_1 hg, gr57_0 hg, gr59_0 hg, gr59_1 hg, gr61_0 hg, gr61_1 hg, gr61_2 hg, gr61_3 hg, gr61_4 hg, gr67_0 hg, gr68_0 hg, gr68_1 hg, gr68_2 hg, gr72_0 hg, gr73_0 hg, gr73_1 hg, gr73_2 hg, gr77_0 hg, gr77_1 hg, gr77_4 hg, gr77_5 hg, gr78_0 hg, gr78_1 hg, gr82_0 hg, gr82_1 hg, gr85_0 hg, gr85_1 hg, gr88_0 hg, gr88_1 hg, gr91_0 hg, gr91_1 hg, gr91_2 hg, gr91_3 hg, gr92_0 hg, gr94_0 hg, gr96_0 hg, gr98_0 hg, gt100 hg, gt32 hg, gt33 hg, gt34 hg, gt35 hg, gt36 hg, gt37 hg, gt38 hg, gt39 hg, gt40 hg, gt41 hg, gt42 hg, gt43 hg, gt44 hg, gt45 hg, gt46 hg, gt47 hg, gt48 hg, gt49 hg, gt50 hg, gt51 hg, gt52 hg, gt53 hg, gt54 hg, gt55 hg, gt56 hg, gt57 hg, gt58 hg, gt59 hg, gt60 hg, gt61 hg, gt62 hg, gt63 hg, gt64 hg, gt65 hg, gt66 hg, gt67 hg, gt68 hg, gt69 hg, gt70 hg, gt71 hg, gt72 hg, gt73 hg, gt74 hg, gt75 hg, gt76 hg, gt77 hg, gt78 hg, gt79 hg, gt80 hg, gt81 hg, gt82 hg, gt83 hg, gt84 hg, gt85 hg, gt86 hg, gt87 hg, gt88 hg, gt89 hg, gt90 hg, gt91 hg, gt92 hg, gt93 hg, gt94 hg, gt95 hg, gt96 hg, gt97 hg, gt98 hg, gt99 hg, ab_inv_I, ab_inv_R, ab_inv_L, ab_inv_0, ab_push_some, ab_push_none, ab_E_sw, ab_E_sw0, true_and, and_true, not_false_eq_true, bit_ite, s2, s3, s4, s5, s7, qi_ite2, ab_bit0, ab_bit1, qi_ite, ql_ite, Nat.reduceLeDiff, d128, d16, d8, d4, d1000, d100, d10, if_true, if_false, ite_self, tn0, tn1, tn2, tn3, tn4, tn5, tn6, tn7, tn8, tn9, tn10, tn11, tn12, tn13, tn14, tn15, tn16, tn17, tn18, tn19, up_ne, up_row, fr_ne, fr_eq, Int32.reduceAdd, Int32.reduceMul, Int32.reduceSub, Int32.reduceDiv, Int32.reduceLT, Int32.reduceLE, Int32.reduceToNatClampNeg, i10, i01, ↓reduceIte, if_true, if_false, u0]
    exact fin _ t1
  rw [if_neg u0] at t1
  simp (disch := decide) only [k23_1, k23_4, k23_5, k23_8, k23_11, k23_14, k23_15, k23_18, k23_21, k23_22, k23_25, k23_26, k23_29, k23_32, k23_33, k23_34, k23_37, k23_38, k23_39, k23_42, k23_46, k23_47, k23_50, k23_53, k23_54, k23_57, k23_60, k23_61, k23_63, k23_66, k23_69, k23_70, k23_72, k23_75, k23_78, k23_79, k23_81, k23_84, k23_87, k23_88, k23_90, k23_93, k23_96, k23_97, k23_99, k23_102, k23_105, k23_106, k23_108, k23_111, k23_114, k23_115, k23_117, k23_120, k23_123, k23_124, k23_126, k23_129, gl100 hg, gl34 hg, gl35 hg, gl36 hg, gl37 hg, gl38 hg, gl39 hg, gl40 hg, gl41 hg, gl42 hg, gl43 hg, gl44 hg, gl46 hg, gl47 hg, gl48 hg, gl49 hg, gl50 hg, gl51 hg, gl52 hg, gl53 hg, gl54 hg, gl55 hg, gl56 hg, gl58 hg, gl60 hg, gl62 hg, gl63 hg, gl64 hg, gl65 hg, gl66 hg, gl68 hg, gl69 hg, gl70 hg, gl71 hg, gl73 hg, gl74 hg, gl75 hg, gl76 hg, gl78 hg, gl79 hg, gl80 hg, gl81 hg, gl82 hg, gl83 hg, gl84 hg, gl85 hg, gl86 hg, gl87 hg, gl89 hg, gl90 hg, gl91 hg, gl93 hg, gl95 hg, gl97 hg, gl99 hg, gr32_0 hg, gr32_1 hg, gr32_10 hg, gr32_11 hg, gr32_3 hg, gr32_4 hg, gr32_5 hg, gr32_6 hg, gr32_7 hg, gr32_8 hg, gr32_9 hg, gr33_0 hg, gr33_1 hg, gr33_2 hg, gr33_3 hg, gr33_4 hg, gr33_5 hg, gr33_6 hg, gr35_0 hg, gr35_1 hg, gr39_0 hg, gr39_1 hg, gr45_0 hg, gr45_1 hg, gr45_2 hg, gr45_3 hg, gr45_4 hg, gr45_5 hg, gr45_6 hg, gr47_0 hg, gr47_1 hg, gr51_0 hg, gr51_1 hg, gr57_0 hg, gr59_0 hg, gr59_1 hg, gr61_0 hg, gr61_1 hg, gr61_2 hg, gr61_3 hg, gr61_4 hg, gr67_0 hg, gr68_0 hg, gr68_1 hg, gr68_2 hg, gr72_0 hg, gr73_0 hg, gr73_1 hg, gr73_2 hg, gr77_0 hg, gr77_1 hg, gr77_4 hg, gr77_5 hg, gr78_0 hg, gr78_1 hg, gr82_0 hg, gr82_1 hg, gr85_0 hg, gr85_1 hg, gr88_0 hg, gr88_1 hg, gr91_0 hg, gr91_1 hg, gr91_2 hg, gr91_3 hg, gr92_0 hg, gr94_0 hg, gr96_0 hg, gr98_0 hg, gt100 hg, gt32 hg, gt33 hg, gt34 hg, gt35 hg, gt36 hg, gt37 hg, gt38 hg, gt39 hg, gt40 hg, gt41 hg, gt42 hg, gt43 hg, gt44 hg, gt45 hg, gt46 hg, gt47 hg, gt48 hg, gt49 hg, gt50 hg, gt51 hg, gt52 hg, gt53 hg, gt54 hg, gt55 hg, gt56 hg, gt57 hg, gt58 hg, gt59 hg, gt60 hg, gt61 hg, gt62 hg, gt63 hg, gt64 hg, gt65 hg, gt66 hg, gt67 hg, gt68 hg, gt69 hg, gt70 hg, gt71 hg, gt72 hg, gt73 hg, gt74 hg, gt75 hg, gt76 hg, gt77 hg, gt78 hg, gt79 hg, gt80 hg, gt81 hg, gt82 hg, gt83 hg, gt84 hg, gt85 hg, gt86 hg, gt87 hg, gt88 hg, gt89 hg, gt90 hg, gt91 hg, gt92 hg, gt93 hg, gt94 hg, gt95 hg, gt96 hg, gt97 hg, gt98 hg, gt99 hg, ab_inv_I, ab_inv_R, ab_inv_L, ab_inv_0, ab_push_some, ab_push_none, ab_E_sw, ab_E_sw0, true_and, and_true, not_false_eq_true, bit_ite, s2, s3, s4, s5, s7, qi_ite2, ab_bit0, ab_bit1, qi_ite, ql_ite, Nat.reduceLeDiff, d128, d16, d8, d4, d1000, d100, d10, if_true, if_false, ite_self, tn0, tn1, tn2, tn3, tn4, tn5, tn6, tn7, tn8, tn9, tn10, tn11, tn12, tn13, tn14, tn15, tn16, tn17, tn18, tn19, up_ne, up_row, fr_ne, fr_eq, Int32.reduceAdd, Int32.reduceMul, Int32.reduceSub, Int32.reduceDiv, Int32.reduceLT, Int32.reduceLE, Int32.reduceToNatClampNeg, i10, i01, ↓reduceIte, if_true, if_false, u0, i02, i03, i04, i05, i06, i07, i12, i13, i14, i15, i16, i17, i20, i21, i23, i24, i25, i26, i27, i30, i31, i32, i34, i35, i36, i37, i40, i41, i42, i43, i45, i46, i47, i50, i51, i52, i53, i54, i56, i57, i60, i61, i62, i63, i64, i65, i67, i70, i71, i72, i73, i74, i75, i76, i10, i01]
  by_cases u4 : wvf b a (e - a) = 47328224
  · refine c_spells4 (v := 1) hg hl2 b2 c3' c4' (by omega) (by omega) ⟨fun _ => rfl, fun h => absurd ((word4 hae hx).mpr u4) h⟩ ?_
    rw [if_pos u4] at t1
    simp (disch := decide) only [k23_1, k23_4, k23_5, k23_8, k23_11, k23_14, k23_15, k23_18, k23_21, k23_22, k23_25, k23_26, k23_29, k23_32, k23_33, k23_34, k23_37, k23_38, k23_39, k23_42, k23_46, k23_47, k23_50, k23_53, k23_54, k23_57, k23_60, k23_61, k23_63, k23_66, k23_69, k23_70, k23_72, k23_75, k23_78, k23_79, k23_81, k23_84, k23_87, k23_88, k23_90, k23_93, k23_96, k23_97, k23_99, k23_102, k23_105, k23_106, k23_108, k23_111, k23_114, k23_115, k23_117, k23_120, k23_123, k23_124, k23_126, k23_129, gl100 hg, gl34 hg, gl35 hg, gl36 hg, gl37 hg, gl38 hg, gl39 hg, gl40 hg, gl41 hg, gl42 hg, gl43 hg, gl44 hg, gl46 hg, gl47 hg, gl48 hg, gl49 hg, gl50 hg, gl51 hg, gl52 hg, gl53 hg, gl54 hg, gl55 hg, gl56 hg, gl58 hg, gl60 hg, gl62 hg, gl63 hg, gl64 hg, gl65 hg, gl66 hg, gl68 hg, gl69 hg, gl70 hg, gl71 hg, gl73 hg, gl74 hg, gl75 hg, gl76 hg, gl78 hg, gl79 hg, gl80 hg, gl81 hg, gl82 hg, gl83 hg, gl84 hg, gl85 hg, gl86 hg, gl87 hg, gl89 hg, gl90 hg, gl91 hg, gl93 hg, gl95 hg, gl97 hg, gl99 hg, gr32_0 hg, gr32_1 hg, gr32_10 hg, gr32_11 hg, gr32_3 hg, gr32_4 hg, gr32_5 hg, gr32_6 hg, gr32_7 hg, gr32_8 hg, gr32_9 hg, gr33_0 hg, gr33_1 hg, gr33_2 hg, gr33_3 hg, gr33_4 hg, gr33_5 hg, gr33_6 hg, gr35_0 hg, gr35_1 hg, gr39_0 hg, gr39_1 hg, gr45_0 hg, gr45_1 hg, gr45_2 hg, gr45_3 hg, gr45_4 hg, gr45_5 hg, gr45_6 hg, gr47_0 hg, gr47_1 hg, gr51_0 hg, gr51_1 hg, gr57_0 hg, gr59_0 hg, gr59_1 hg, gr61_0 hg, gr61_1 hg, gr61_2 hg, gr61_3 hg, gr61_4 hg, gr67_0 hg, gr68_0 hg, gr68_1 hg, gr68_2 hg, gr72_0 hg, gr73_0 hg, gr73_1 hg, gr73_2 hg, gr77_0 hg, gr77_1 hg, gr77_4 hg, gr77_5 hg, gr78_0 hg, gr78_1 hg, gr82_0 hg, gr82_1 hg, gr85_0 hg, gr85_1 hg, gr88_0 hg, gr88_1 hg, gr91_0 hg, gr91_1 hg, gr91_2 hg, gr91_3 hg, gr92_0 hg, gr94_0 hg, gr96_0 hg, gr98_0 hg, gt100 hg, gt32 hg, gt33 hg, gt34 hg, gt35 hg, gt36 hg, gt37 hg, gt38 hg, gt39 hg, gt40 hg, gt41 hg, gt42 hg, gt43 hg, gt44 hg, gt45 hg, gt46 hg, gt47 hg, gt48 hg, gt49 hg, gt50 hg, gt51 hg, gt52 hg, gt53 hg, gt54 hg, gt55 hg, gt56 hg, gt57 hg, gt58 hg, gt59 hg, gt60 hg, gt61 hg, gt62 hg, gt63 hg, gt64 hg, gt65 hg, gt66 hg, gt67 hg, gt68 hg, gt69 hg, gt70 hg, gt71 hg, gt72 hg, gt73 hg, gt74 hg, gt75 hg, gt76 hg, gt77 hg, gt78 hg, gt79 hg, gt80 hg, gt81 hg, gt82 hg, gt83 hg, gt84 hg, gt85 hg, gt86 hg, gt87 hg, gt88 hg, gt89 hg, gt90 hg, gt91 hg, gt92 hg, gt93 hg, gt94 hg, gt95 hg, gt96 hg, gt97 hg, gt98 hg, gt99 hg, ab_inv_I, ab_inv_R, ab_inv_L, ab_inv_0, ab_push_some, ab_push_none, ab_E_sw, ab_E_sw0, true_and, and_true, not_false_eq_true, bit_ite, s2, s3, s4, s5, s7, qi_ite2, ab_bit0, ab_bit1, qi_ite, ql_ite, Nat.reduceLeDiff, d128, d16, d8, d4, d1000, d100, d10, if_true, if_false, ite_self, tn0, tn1, tn2, tn3, tn4, tn5, tn6, tn7, tn8, tn9, tn10, tn11, tn12, tn13, tn14, tn15, tn16, tn17, tn18, tn19, up_ne, up_row, fr_ne, fr_eq, Int32.reduceAdd, Int32.reduceMul, Int32.reduceSub, Int32.reduceDiv, Int32.reduceLT, Int32.reduceLE, Int32.reduceToNatClampNeg, i10, i01, ↓reduceIte, if_true, if_false, i02, i03, i04, i05, i06, i07, i12, i13, i14, i15, i16, i17, i20, i21, i23, i24, i25, i26, i27, i30, i31, i32, i34, i35, i36, i37, i40, i41, i42, i43, i45, i46, i47, i50, i51, i52, i53, i54, i56, i57, i60, i61, i62, i63, i64, i65, i67, i70, i71, i72, i73, i74, i75, i76, i10, i01]
    exact fin _ t1
  rw [if_neg u4] at t1
  refine c_spells4 (v := 0) hg hl2 b2 c3' c4' (by omega) (by omega) ⟨fun h => absurd ((word4 hae hx).mp h) u4, fun _ => rfl⟩ ?_
  simp (disch := decide) only [k23_1, k23_4, k23_5, k23_8, k23_11, k23_14, k23_15, k23_18, k23_21, k23_22, k23_25, k23_26, k23_29, k23_32, k23_33, k23_34, k23_37, k23_38, k23_39, k23_42, k23_46, k23_47, k23_50, k23_53, k23_54, k23_57, k23_60, k23_61, k23_63, k23_66, k23_69, k23_70, k23_72, k23_75, k23_78, k23_79, k23_81, k23_84, k23_87, k23_88, k23_90, k23_93, k23_96, k23_97, k23_99, k23_102, k23_105, k23_106, k23_108, k23_111, k23_114, k23_115, k23_117, k23_120, k23_123, k23_124, k23_126, k23_129, gl100 hg, gl34 hg, gl35 hg, gl36 hg, gl37 hg, gl38 hg, gl39 hg, gl40 hg, gl41 hg, gl42 hg, gl43 hg, gl44 hg, gl46 hg, gl47 hg, gl48 hg, gl49 hg, gl50 hg, gl51 hg, gl52 hg, gl53 hg, gl54 hg, gl55 hg, gl56 hg, gl58 hg, gl60 hg, gl62 hg, gl63 hg, gl64 hg, gl65 hg, gl66 hg, gl68 hg, gl69 hg, gl70 hg, gl71 hg, gl73 hg, gl74 hg, gl75 hg, gl76 hg, gl78 hg, gl79 hg, gl80 hg, gl81 hg, gl82 hg, gl83 hg, gl84 hg, gl85 hg, gl86 hg, gl87 hg, gl89 hg, gl90 hg, gl91 hg, gl93 hg, gl95 hg, gl97 hg, gl99 hg, gr32_0 hg, gr32_1 hg, gr32_10 hg, gr32_11 hg, gr32_3 hg, gr32_4 hg, gr32_5 hg, gr32_6 hg, gr32_7 hg, gr32_8 hg, gr32_9 hg, gr33_0 hg, gr33_1 hg, gr33_2 hg, gr33_3 hg, gr33_4 hg, gr33_5 hg, gr33_6 hg, gr35_0 hg, gr35_1 hg, gr39_0 hg, gr39_1 hg, gr45_0 hg, gr45_1 hg, gr45_2 hg, gr45_3 hg, gr45_4 hg, gr45_5 hg, gr45_6 hg, gr47_0 hg, gr47_1 hg, gr51_0 hg, gr51_1 hg, gr57_0 hg, gr59_0 hg, gr59_1 hg, gr61_0 hg, gr61_1 hg, gr61_2 hg, gr61_3 hg, gr61_4 hg, gr67_0 hg, gr68_0 hg, gr68_1 hg, gr68_2 hg, gr72_0 hg, gr73_0 hg, gr73_1 hg, gr73_2 hg, gr77_0 hg, gr77_1 hg, gr77_4 hg, gr77_5 hg, gr78_0 hg, gr78_1 hg, gr82_0 hg, gr82_1 hg, gr85_0 hg, gr85_1 hg, gr88_0 hg, gr88_1 hg, gr91_0 hg, gr91_1 hg, gr91_2 hg, gr91_3 hg, gr92_0 hg, gr94_0 hg, gr96_0 hg, gr98_0 hg, gt100 hg, gt32 hg, gt33 hg, gt34 hg, gt35 hg, gt36 hg, gt37 hg, gt38 hg, gt39 hg, gt40 hg, gt41 hg, gt42 hg, gt43 hg, gt44 hg, gt45 hg, gt46 hg, gt47 hg, gt48 hg, gt49 hg, gt50 hg, gt51 hg, gt52 hg, gt53 hg, gt54 hg, gt55 hg, gt56 hg, gt57 hg, gt58 hg, gt59 hg, gt60 hg, gt61 hg, gt62 hg, gt63 hg, gt64 hg, gt65 hg, gt66 hg, gt67 hg, gt68 hg, gt69 hg, gt70 hg, gt71 hg, gt72 hg, gt73 hg, gt74 hg, gt75 hg, gt76 hg, gt77 hg, gt78 hg, gt79 hg, gt80 hg, gt81 hg, gt82 hg, gt83 hg, gt84 hg, gt85 hg, gt86 hg, gt87 hg, gt88 hg, gt89 hg, gt90 hg, gt91 hg, gt92 hg, gt93 hg, gt94 hg, gt95 hg, gt96 hg, gt97 hg, gt98 hg, gt99 hg, ab_inv_I, ab_inv_R, ab_inv_L, ab_inv_0, ab_push_some, ab_push_none, ab_E_sw, ab_E_sw0, true_and, and_true, not_false_eq_true, bit_ite, s2, s3, s4, s5, s7, qi_ite2, ab_bit0, ab_bit1, qi_ite, ql_ite, Nat.reduceLeDiff, d128, d16, d8, d4, d1000, d100, d10, if_true, if_false, ite_self, tn0, tn1, tn2, tn3, tn4, tn5, tn6, tn7, tn8, tn9, tn10, tn11, tn12, tn13, tn14, tn15, tn16, tn17, tn18, tn19, up_ne, up_row, fr_ne, fr_eq, Int32.reduceAdd, Int32.reduceMul, Int32.reduceSub, Int32.reduceDiv, Int32.reduceLT, Int32.reduceLE, Int32.reduceToNatClampNeg, i10, i01, ↓reduceIte, if_true, if_false, u0, i02, i03, i04, i05, i06, i07, i12, i13, i14, i15, i16, i17, i20, i21, i23, i24, i25, i26, i27, i30, i31, i32, i34, i35, i36, i37, i40, i41, i42, i43, i45, i46, i47, i50, i51, i52, i53, i54, i56, i57, i60, i61, i62, i63, i64, i65, i67, i70, i71, i72, i73, i74, i75, i76, i10, i01]
  by_cases u5 : wvf b a (e - a) = 381245
  · refine c_spells5 (v := 1) hg hl2 b2 c3' c4' (by omega) (by omega) ⟨fun _ => rfl, fun h => absurd ((word5 hae hx).mpr u5) h⟩ ?_
    rw [if_pos u5] at t1
    simp (disch := decide) only [k23_1, k23_4, k23_5, k23_8, k23_11, k23_14, k23_15, k23_18, k23_21, k23_22, k23_25, k23_26, k23_29, k23_32, k23_33, k23_34, k23_37, k23_38, k23_39, k23_42, k23_46, k23_47, k23_50, k23_53, k23_54, k23_57, k23_60, k23_61, k23_63, k23_66, k23_69, k23_70, k23_72, k23_75, k23_78, k23_79, k23_81, k23_84, k23_87, k23_88, k23_90, k23_93, k23_96, k23_97, k23_99, k23_102, k23_105, k23_106, k23_108, k23_111, k23_114, k23_115, k23_117, k23_120, k23_123, k23_124, k23_126, k23_129, gl100 hg, gl34 hg, gl35 hg, gl36 hg, gl37 hg, gl38 hg, gl39 hg, gl40 hg, gl41 hg, gl42 hg, gl43 hg, gl44 hg, gl46 hg, gl47 hg, gl48 hg, gl49 hg, gl50 hg, gl51 hg, gl52 hg, gl53 hg, gl54 hg, gl55 hg, gl56 hg, gl58 hg, gl60 hg, gl62 hg, gl63 hg, gl64 hg, gl65 hg, gl66 hg, gl68 hg, gl69 hg, gl70 hg, gl71 hg, gl73 hg, gl74 hg, gl75 hg, gl76 hg, gl78 hg, gl79 hg, gl80 hg, gl81 hg, gl82 hg, gl83 hg, gl84 hg, gl85 hg, gl86 hg, gl87 hg, gl89 hg, gl90 hg, gl91 hg, gl93 hg, gl95 hg, gl97 hg, gl99 hg, gr32_0 hg, gr32_1 hg, gr32_10 hg, gr32_11 hg, gr32_3 hg, gr32_4 hg, gr32_5 hg, gr32_6 hg, gr32_7 hg, gr32_8 hg, gr32_9 hg, gr33_0 hg, gr33_1 hg, gr33_2 hg, gr33_3 hg, gr33_4 hg, gr33_5 hg, gr33_6 hg, gr35_0 hg, gr35_1 hg, gr39_0 hg, gr39_1 hg, gr45_0 hg, gr45_1 hg, gr45_2 hg, gr45_3 hg, gr45_4 hg, gr45_5 hg, gr45_6 hg, gr47_0 hg, gr47_1 hg, gr51_0 hg, gr51_1 hg, gr57_0 hg, gr59_0 hg, gr59_1 hg, gr61_0 hg, gr61_1 hg, gr61_2 hg, gr61_3 hg, gr61_4 hg, gr67_0 hg, gr68_0 hg, gr68_1 hg, gr68_2 hg, gr72_0 hg, gr73_0 hg, gr73_1 hg, gr73_2 hg, gr77_0 hg, gr77_1 hg, gr77_4 hg, gr77_5 hg, gr78_0 hg, gr78_1 hg, gr82_0 hg, gr82_1 hg, gr85_0 hg, gr85_1 hg, gr88_0 hg, gr88_1 hg, gr91_0 hg, gr91_1 hg, gr91_2 hg, gr91_3 hg, gr92_0 hg, gr94_0 hg, gr96_0 hg, gr98_0 hg, gt100 hg, gt32 hg, gt33 hg, gt34 hg, gt35 hg, gt36 hg, gt37 hg, gt38 hg, gt39 hg, gt40 hg, gt41 hg, gt42 hg, gt43 hg, gt44 hg, gt45 hg, gt46 hg, gt47 hg, gt48 hg, gt49 hg, gt50 hg, gt51 hg, gt52 hg, gt53 hg, gt54 hg, gt55 hg, gt56 hg, gt57 hg, gt58 hg, gt59 hg, gt60 hg, gt61 hg, gt62 hg, gt63 hg, gt64 hg, gt65 hg, gt66 hg, gt67 hg, gt68 hg, gt69 hg, gt70 hg, gt71 hg, gt72 hg, gt73 hg, gt74 hg, gt75 hg, gt76 hg, gt77 hg, gt78 hg, gt79 hg, gt80 hg, gt81 hg, gt82 hg, gt83 hg, gt84 hg, gt85 hg, gt86 hg, gt87 hg, gt88 hg, gt89 hg, gt90 hg, gt91 hg, gt92 hg, gt93 hg, gt94 hg, gt95 hg, gt96 hg, gt97 hg, gt98 hg, gt99 hg, ab_inv_I, ab_inv_R, ab_inv_L, ab_inv_0, ab_push_some, ab_push_none, ab_E_sw, ab_E_sw0, true_and, and_true, not_false_eq_true, bit_ite, s2, s3, s4, s5, s7, qi_ite2, ab_bit0, ab_bit1, qi_ite, ql_ite, Nat.reduceLeDiff, d128, d16, d8, d4, d1000, d100, d10, if_true, if_false, ite_self, tn0, tn1, tn2, tn3, tn4, tn5, tn6, tn7, tn8, tn9, tn10, tn11, tn12, tn13, tn14, tn15, tn16, tn17, tn18, tn19, up_ne, up_row, fr_ne, fr_eq, Int32.reduceAdd, Int32.reduceMul, Int32.reduceSub, Int32.reduceDiv, Int32.reduceLT, Int32.reduceLE, Int32.reduceToNatClampNeg, i10, i01, ↓reduceIte, if_true, if_false, i02, i03, i04, i05, i06, i07, i12, i13, i14, i15, i16, i17, i20, i21, i23, i24, i25, i26, i27, i30, i31, i32, i34, i35, i36, i37, i40, i41, i42, i43, i45, i46, i47, i50, i51, i52, i53, i54, i56, i57, i60, i61, i62, i63, i64, i65, i67, i70, i71, i72, i73, i74, i75, i76, i10, i01]
    exact fin _ t1
  rw [if_neg u5] at t1
  refine c_spells5 (v := 0) hg hl2 b2 c3' c4' (by omega) (by omega) ⟨fun h => absurd ((word5 hae hx).mp h) u5, fun _ => rfl⟩ ?_
  simp (disch := decide) only [k23_1, k23_4, k23_5, k23_8, k23_11, k23_14, k23_15, k23_18, k23_21, k23_22, k23_25, k23_26, k23_29, k23_32, k23_33, k23_34, k23_37, k23_38, k23_39, k23_42, k23_46, k23_47, k23_50, k23_53, k23_54, k23_57, k23_60, k23_61, k23_63, k23_66, k23_69, k23_70, k23_72, k23_75, k23_78, k23_79, k23_81, k23_84, k23_87, k23_88, k23_90, k23_93, k23_96, k23_97, k23_99, k23_102, k23_105, k23_106, k23_108, k23_111, k23_114, k23_115, k23_117, k23_120, k23_123, k23_124, k23_126, k23_129, gl100 hg, gl34 hg, gl35 hg, gl36 hg, gl37 hg, gl38 hg, gl39 hg, gl40 hg, gl41 hg, gl42 hg, gl43 hg, gl44 hg, gl46 hg, gl47 hg, gl48 hg, gl49 hg, gl50 hg, gl51 hg, gl52 hg, gl53 hg, gl54 hg, gl55 hg, gl56 hg, gl58 hg, gl60 hg, gl62 hg, gl63 hg, gl64 hg, gl65 hg, gl66 hg, gl68 hg, gl69 hg, gl70 hg, gl71 hg, gl73 hg, gl74 hg, gl75 hg, gl76 hg, gl78 hg, gl79 hg, gl80 hg, gl81 hg, gl82 hg, gl83 hg, gl84 hg, gl85 hg, gl86 hg, gl87 hg, gl89 hg, gl90 hg, gl91 hg, gl93 hg, gl95 hg, gl97 hg, gl99 hg, gr32_0 hg, gr32_1 hg, gr32_10 hg, gr32_11 hg, gr32_3 hg, gr32_4 hg, gr32_5 hg, gr32_6 hg, gr32_7 hg, gr32_8 hg, gr32_9 hg, gr33_0 hg, gr33_1 hg, gr33_2 hg, gr33_3 hg, gr33_4 hg, gr33_5 hg, gr33_6 hg, gr35_0 hg, gr35_1 hg, gr39_0 hg, gr39_1 hg, gr45_0 hg, gr45_1 hg, gr45_2 hg, gr45_3 hg, gr45_4 hg, gr45_5 hg, gr45_6 hg, gr47_0 hg, gr47_1 hg, gr51_0 hg, gr51_1 hg, gr57_0 hg, gr59_0 hg, gr59_1 hg, gr61_0 hg, gr61_1 hg, gr61_2 hg, gr61_3 hg, gr61_4 hg, gr67_0 hg, gr68_0 hg, gr68_1 hg, gr68_2 hg, gr72_0 hg, gr73_0 hg, gr73_1 hg, gr73_2 hg, gr77_0 hg, gr77_1 hg, gr77_4 hg, gr77_5 hg, gr78_0 hg, gr78_1 hg, gr82_0 hg, gr82_1 hg, gr85_0 hg, gr85_1 hg, gr88_0 hg, gr88_1 hg, gr91_0 hg, gr91_1 hg, gr91_2 hg, gr91_3 hg, gr92_0 hg, gr94_0 hg, gr96_0 hg, gr98_0 hg, gt100 hg, gt32 hg, gt33 hg, gt34 hg, gt35 hg, gt36 hg, gt37 hg, gt38 hg, gt39 hg, gt40 hg, gt41 hg, gt42 hg, gt43 hg, gt44 hg, gt45 hg, gt46 hg, gt47 hg, gt48 hg, gt49 hg, gt50 hg, gt51 hg, gt52 hg, gt53 hg, gt54 hg, gt55 hg, gt56 hg, gt57 hg, gt58 hg, gt59 hg, gt60 hg, gt61 hg, gt62 hg, gt63 hg, gt64 hg, gt65 hg, gt66 hg, gt67 hg, gt68 hg, gt69 hg, gt70 hg, gt71 hg, gt72 hg, gt73 hg, gt74 hg, gt75 hg, gt76 hg, gt77 hg, gt78 hg, gt79 hg, gt80 hg, gt81 hg, gt82 hg, gt83 hg, gt84 hg, gt85 hg, gt86 hg, gt87 hg, gt88 hg, gt89 hg, gt90 hg, gt91 hg, gt92 hg, gt93 hg, gt94 hg, gt95 hg, gt96 hg, gt97 hg, gt98 hg, gt99 hg, ab_inv_I, ab_inv_R, ab_inv_L, ab_inv_0, ab_push_some, ab_push_none, ab_E_sw, ab_E_sw0, true_and, and_true, not_false_eq_true, bit_ite, s2, s3, s4, s5, s7, qi_ite2, ab_bit0, ab_bit1, qi_ite, ql_ite, Nat.reduceLeDiff, d128, d16, d8, d4, d1000, d100, d10, if_true, if_false, ite_self, tn0, tn1, tn2, tn3, tn4, tn5, tn6, tn7, tn8, tn9, tn10, tn11, tn12, tn13, tn14, tn15, tn16, tn17, tn18, tn19, up_ne, up_row, fr_ne, fr_eq, Int32.reduceAdd, Int32.reduceMul, Int32.reduceSub, Int32.reduceDiv, Int32.reduceLT, Int32.reduceLE, Int32.reduceToNatClampNeg, i10, i01, ↓reduceIte, if_true, if_false, u0, i02, i03, i04, i05, i06, i07, i12, i13, i14, i15, i16, i17, i20, i21, i23, i24, i25, i26, i27, i30, i31, i32, i34, i35, i36, i37, i40, i41, i42, i43, i45, i46, i47, i50, i51, i52, i53, i54, i56, i57, i60, i61, i62, i63, i64, i65, i67, i70, i71, i72, i73, i74, i75, i76, i10, i01]
  by_cases u6 : wvf b a (e - a) = 316351
  · refine c_spells6 (v := 1) hg hl2 b2 c3' c4' (by omega) (by omega) ⟨fun _ => rfl, fun h => absurd ((word6 hae hx).mpr u6) h⟩ ?_
    rw [if_pos u6] at t1
    simp (disch := decide) only [k23_1, k23_4, k23_5, k23_8, k23_11, k23_14, k23_15, k23_18, k23_21, k23_22, k23_25, k23_26, k23_29, k23_32, k23_33, k23_34, k23_37, k23_38, k23_39, k23_42, k23_46, k23_47, k23_50, k23_53, k23_54, k23_57, k23_60, k23_61, k23_63, k23_66, k23_69, k23_70, k23_72, k23_75, k23_78, k23_79, k23_81, k23_84, k23_87, k23_88, k23_90, k23_93, k23_96, k23_97, k23_99, k23_102, k23_105, k23_106, k23_108, k23_111, k23_114, k23_115, k23_117, k23_120, k23_123, k23_124, k23_126, k23_129, gl100 hg, gl34 hg, gl35 hg, gl36 hg, gl37 hg, gl38 hg, gl39 hg, gl40 hg, gl41 hg, gl42 hg, gl43 hg, gl44 hg, gl46 hg, gl47 hg, gl48 hg, gl49 hg, gl50 hg, gl51 hg, gl52 hg, gl53 hg, gl54 hg, gl55 hg, gl56 hg, gl58 hg, gl60 hg, gl62 hg, gl63 hg, gl64 hg, gl65 hg, gl66 hg, gl68 hg, gl69 hg, gl70 hg, gl71 hg, gl73 hg, gl74 hg, gl75 hg, gl76 hg, gl78 hg, gl79 hg, gl80 hg, gl81 hg, gl82 hg, gl83 hg, gl84 hg, gl85 hg, gl86 hg, gl87 hg, gl89 hg, gl90 hg, gl91 hg, gl93 hg, gl95 hg, gl97 hg, gl99 hg, gr32_0 hg, gr32_1 hg, gr32_10 hg, gr32_11 hg, gr32_3 hg, gr32_4 hg, gr32_5 hg, gr32_6 hg, gr32_7 hg, gr32_8 hg, gr32_9 hg, gr33_0 hg, gr33_1 hg, gr33_2 hg, gr33_3 hg, gr33_4 hg, gr33_5 hg, gr33_6 hg, gr35_0 hg, gr35_1 hg, gr39_0 hg, gr39_1 hg, gr45_0 hg, gr45_1 hg, gr45_2 hg, gr45_3 hg, gr45_4 hg, gr45_5 hg, gr45_6 hg, gr47_0 hg, gr47_1 hg, gr51_0 hg, gr51_1 hg, gr57_0 hg, gr59_0 hg, gr59_1 hg, gr61_0 hg, gr61_1 hg, gr61_2 hg, gr61_3 hg, gr61_4 hg, gr67_0 hg, gr68_0 hg, gr68_1 hg, gr68_2 hg, gr72_0 hg, gr73_0 hg, gr73_1 hg, gr73_2 hg, gr77_0 hg, gr77_1 hg, gr77_4 hg, gr77_5 hg, gr78_0 hg, gr78_1 hg, gr82_0 hg, gr82_1 hg, gr85_0 hg, gr85_1 hg, gr88_0 hg, gr88_1 hg, gr91_0 hg, gr91_1 hg, gr91_2 hg, gr91_3 hg, gr92_0 hg, gr94_0 hg, gr96_0 hg, gr98_0 hg, gt100 hg, gt32 hg, gt33 hg, gt34 hg, gt35 hg, gt36 hg, gt37 hg, gt38 hg, gt39 hg, gt40 hg, gt41 hg, gt42 hg, gt43 hg, gt44 hg, gt45 hg, gt46 hg, gt47 hg, gt48 hg, gt49 hg, gt50 hg, gt51 hg, gt52 hg, gt53 hg, gt54 hg, gt55 hg, gt56 hg, gt57 hg, gt58 hg, gt59 hg, gt60 hg, gt61 hg, gt62 hg, gt63 hg, gt64 hg, gt65 hg, gt66 hg, gt67 hg, gt68 hg, gt69 hg, gt70 hg, gt71 hg, gt72 hg, gt73 hg, gt74 hg, gt75 hg, gt76 hg, gt77 hg, gt78 hg, gt79 hg, gt80 hg, gt81 hg, gt82 hg, gt83 hg, gt84 hg, gt85 hg, gt86 hg, gt87 hg, gt88 hg, gt89 hg, gt90 hg, gt91 hg, gt92 hg, gt93 hg, gt94 hg, gt95 hg, gt96 hg, gt97 hg, gt98 hg, gt99 hg, ab_inv_I, ab_inv_R, ab_inv_L, ab_inv_0, ab_push_some, ab_push_none, ab_E_sw, ab_E_sw0, true_and, and_true, not_false_eq_true, bit_ite, s2, s3, s4, s5, s7, qi_ite2, ab_bit0, ab_bit1, qi_ite, ql_ite, Nat.reduceLeDiff, d128, d16, d8, d4, d1000, d100, d10, if_true, if_false, ite_self, tn0, tn1, tn2, tn3, tn4, tn5, tn6, tn7, tn8, tn9, tn10, tn11, tn12, tn13, tn14, tn15, tn16, tn17, tn18, tn19, up_ne, up_row, fr_ne, fr_eq, Int32.reduceAdd, Int32.reduceMul, Int32.reduceSub, Int32.reduceDiv, Int32.reduceLT, Int32.reduceLE, Int32.reduceToNatClampNeg, i10, i01, ↓reduceIte, if_true, if_false, i02, i03, i04, i05, i06, i07, i12, i13, i14, i15, i16, i17, i20, i21, i23, i24, i25, i26, i27, i30, i31, i32, i34, i35, i36, i37, i40, i41, i42, i43, i45, i46, i47, i50, i51, i52, i53, i54, i56, i57, i60, i61, i62, i63, i64, i65, i67, i70, i71, i72, i73, i74, i75, i76, i10, i01]
    exact fin _ t1
  rw [if_neg u6] at t1
  refine c_spells6 (v := 0) hg hl2 b2 c3' c4' (by omega) (by omega) ⟨fun h => absurd ((word6 hae hx).mp h) u6, fun _ => rfl⟩ ?_
  simp (disch := decide) only [k23_1, k23_4, k23_5, k23_8, k23_11, k23_14, k23_15, k23_18, k23_21, k23_22, k23_25, k23_26, k23_29, k23_32, k23_33, k23_34, k23_37, k23_38, k23_39, k23_42, k23_46, k23_47, k23_50, k23_53, k23_54, k23_57, k23_60, k23_61, k23_63, k23_66, k23_69, k23_70, k23_72, k23_75, k23_78, k23_79, k23_81, k23_84, k23_87, k23_88, k23_90, k23_93, k23_96, k23_97, k23_99, k23_102, k23_105, k23_106, k23_108, k23_111, k23_114, k23_115, k23_117, k23_120, k23_123, k23_124, k23_126, k23_129, gl100 hg, gl34 hg, gl35 hg, gl36 hg, gl37 hg, gl38 hg, gl39 hg, gl40 hg, gl41 hg, gl42 hg, gl43 hg, gl44 hg, gl46 hg, gl47 hg, gl48 hg, gl49 hg, gl50 hg, gl51 hg, gl52 hg, gl53 hg, gl54 hg, gl55 hg, gl56 hg, gl58 hg, gl60 hg, gl62 hg, gl63 hg, gl64 hg, gl65 hg, gl66 hg, gl68 hg, gl69 hg, gl70 hg, gl71 hg, gl73 hg, gl74 hg, gl75 hg, gl76 hg, gl78 hg, gl79 hg, gl80 hg, gl81 hg, gl82 hg, gl83 hg, gl84 hg, gl85 hg, gl86 hg, gl87 hg, gl89 hg, gl90 hg, gl91 hg, gl93 hg, gl95 hg, gl97 hg, gl99 hg, gr32_0 hg, gr32_1 hg, gr32_10 hg, gr32_11 hg, gr32_3 hg, gr32_4 hg, gr32_5 hg, gr32_6 hg, gr32_7 hg, gr32_8 hg, gr32_9 hg, gr33_0 hg, gr33_1 hg, gr33_2 hg, gr33_3 hg, gr33_4 hg, gr33_5 hg, gr33_6 hg, gr35_0 hg, gr35_1 hg, gr39_0 hg, gr39_1 hg, gr45_0 hg, gr45_1 hg, gr45_2 hg, gr45_3 hg, gr45_4 hg, gr45_5 hg, gr45_6 hg, gr47_0 hg, gr47_1 hg, gr51_0 hg, gr51_1 hg, gr57_0 hg, gr59_0 hg, gr59_1 hg, gr61_0 hg, gr61_1 hg, gr61_2 hg, gr61_3 hg, gr61_4 hg, gr67_0 hg, gr68_0 hg, gr68_1 hg, gr68_2 hg, gr72_0 hg, gr73_0 hg, gr73_1 hg, gr73_2 hg, gr77_0 hg, gr77_1 hg, gr77_4 hg, gr77_5 hg, gr78_0 hg, gr78_1 hg, gr82_0 hg, gr82_1 hg, gr85_0 hg, gr85_1 hg, gr88_0 hg, gr88_1 hg, gr91_0 hg, gr91_1 hg, gr91_2 hg, gr91_3 hg, gr92_0 hg, gr94_0 hg, gr96_0 hg, gr98_0 hg, gt100 hg, gt32 hg, gt33 hg, gt34 hg, gt35 hg, gt36 hg, gt37 hg, gt38 hg, gt39 hg, gt40 hg, gt41 hg, gt42 hg, gt43 hg, gt44 hg, gt45 hg, gt46 hg, gt47 hg, gt48 hg, gt49 hg, gt50 hg, gt51 hg, gt52 hg, gt53 hg, gt54 hg, gt55 hg, gt56 hg, gt57 hg, gt58 hg, gt59 hg, gt60 hg, gt61 hg, gt62 hg, gt63 hg, gt64 hg, gt65 hg, gt66 hg, gt67 hg, gt68 hg, gt69 hg, gt70 hg, gt71 hg, gt72 hg, gt73 hg, gt74 hg, gt75 hg, gt76 hg, gt77 hg, gt78 hg, gt79 hg, gt80 hg, gt81 hg, gt82 hg, gt83 hg, gt84 hg, gt85 hg, gt86 hg, gt87 hg, gt88 hg, gt89 hg, gt90 hg, gt91 hg, gt92 hg, gt93 hg, gt94 hg, gt95 hg, gt96 hg, gt97 hg, gt98 hg, gt99 hg, ab_inv_I, ab_inv_R, ab_inv_L, ab_inv_0, ab_push_some, ab_push_none, ab_E_sw, ab_E_sw0, true_and, and_true, not_false_eq_true, bit_ite, s2, s3, s4, s5, s7, qi_ite2, ab_bit0, ab_bit1, qi_ite, ql_ite, Nat.reduceLeDiff, d128, d16, d8, d4, d1000, d100, d10, if_true, if_false, ite_self, tn0, tn1, tn2, tn3, tn4, tn5, tn6, tn7, tn8, tn9, tn10, tn11, tn12, tn13, tn14, tn15, tn16, tn17, tn18, tn19, up_ne, up_row, fr_ne, fr_eq, Int32.reduceAdd, Int32.reduceMul, Int32.reduceSub, Int32.reduceDiv, Int32.reduceLT, Int32.reduceLE, Int32.reduceToNatClampNeg, i10, i01, ↓reduceIte, if_true, if_false, i02, i03, i04, i05, i06, i07, i12, i13, i14, i15, i16, i17, i20, i21, i23, i24, i25, i26, i27, i30, i31, i32, i34, i35, i36, i37, i40, i41, i42, i43, i45, i46, i47, i50, i51, i52, i53, i54, i56, i57, i60, i61, i62, i63, i64, i65, i67, i70, i71, i72, i73, i74, i75, i76, i10, i01]
  exact fin _ t1
set_option maxRecDepth 20000 in
theorem lp_tn (hg : gx g) (hn : n ≤ 120) (k : Nat) : ∀ p I, p + k = n → a ≤ p → I 57 1 = nI n → (∀ i, i < 120 → I 58 i = b i) → I 59 4 = nI p → I 59 6 = mnf b a (p - a) → (∀ I', dfr [59] [] I I' → (∀ y, y ≠ 4 → y ≠ 6 → I' 59 y = I 59 y) → I' 59 4 = nI (rn b n isDi 200 p) → I' 59 6 = mnf b a (rn b n isDi 200 p - a) → ab_E (d + 6) 34 83 [some (vR (some 59))] [] 0 0 g I' J Q) → ab_E (d + 6) 34 5 [some (vR (some 59))] [] 0 0 g I J Q := by
  induction k with
  | zero =>
    intro p I hk hap h1 hb h4 h6 hQ
    have g1 : ¬ nI p < nI n := nI_nlt (by omega) (by omega)
    have hr : rn b n isDi 200 p = p := rn_at (fun h => by omega)
    rw [hr] at hQ
    rw [k34_5]
    simp (disch := decide) only [k34_0, k34_1, k34_2, k34_6, k34_9, k34_10, k34_13, k34_16, k34_19, k34_20, k34_23, k34_26, k34_27, k34_30, k34_31, k34_34, k34_37, k34_38, k34_40, k34_41, k34_44, k34_45, k34_46, k34_49, k34_52, k34_53, k34_56, k34_57, k34_58, k34_60, k34_61, k34_64, k34_67, k34_70, k34_71, k34_72, k34_75, k34_76, k34_77, k34_80, k34_84, k34_85, k34_88, k34_91, k34_94, k34_96, k34_99, k34_101, k34_104, gl100 hg, gl34 hg, gl35 hg, gl36 hg, gl37 hg, gl38 hg, gl39 hg, gl40 hg, gl41 hg, gl42 hg, gl43 hg, gl44 hg, gl46 hg, gl47 hg, gl48 hg, gl49 hg, gl50 hg, gl51 hg, gl52 hg, gl53 hg, gl54 hg, gl55 hg, gl56 hg, gl58 hg, gl60 hg, gl62 hg, gl63 hg, gl64 hg, gl65 hg, gl66 hg, gl68 hg, gl69 hg, gl70 hg, gl71 hg, gl73 hg, gl74 hg, gl75 hg, gl76 hg, gl78 hg, gl79 hg, gl80 hg, gl81 hg, gl82 hg, gl83 hg, gl84 hg, gl85 hg, gl86 hg, gl87 hg, gl89 hg, gl90 hg, gl91 hg, gl93 hg, gl95 hg, gl97 hg, gl99 hg, gr32_0 hg, gr32_1 hg, gr32_10 hg, gr32_11 hg, gr32_3 hg, gr32_4 hg, gr32_5 hg, gr32_6 hg, gr32_7 hg, gr32_8 hg, gr32_9 hg, gr33_0 hg, gr33_1 hg, gr33_2 hg, gr33_3 hg, gr33_4 hg, gr33_5 hg, gr33_6 hg, gr35_0 hg, gr35_1 hg, gr39_0 hg, gr39_1 hg, gr45_0 hg, gr45_1 hg, gr45_2 hg, gr45_3 hg, gr45_4 hg, gr45_5 hg, gr45_6 hg, gr47_0 hg, gr47_1 hg, gr51_0 hg, gr51_1 hg, gr57_0 hg, gr59_0 hg, gr59_1 hg, gr61_0 hg, gr61_1 hg, gr61_2 hg, gr61_3 hg, gr61_4 hg, gr67_0 hg, gr68_0 hg, gr68_1 hg, gr68_2 hg, gr72_0 hg, gr73_0 hg, gr73_1 hg, gr73_2 hg, gr77_0 hg, gr77_1 hg, gr77_4 hg, gr77_5 hg, gr78_0 hg, gr78_1 hg, gr82_0 hg, gr82_1 hg, gr85_0 hg, gr85_1 hg, gr88_0 hg, gr88_1 hg, gr91_0 hg, gr91_1 hg, gr91_2 hg, gr91_3 hg, gr92_0 hg, gr94_0 hg, gr96_0 hg, gr98_0 hg, gt100 hg, gt32 hg, gt33 hg, gt34 hg, gt35 hg, gt36 hg, gt37 hg, gt38 hg, gt39 hg, gt40 hg, gt41 hg, gt42 hg, gt43 hg, gt44 hg, gt45 hg, gt46 hg, gt47 hg, gt48 hg, gt49 hg, gt50 hg, gt51 hg, gt52 hg, gt53 hg, gt54 hg, gt55 hg, gt56 hg, gt57 hg, gt58 hg, gt59 hg, gt60 hg, gt61 hg, gt62 hg, gt63 hg, gt64 hg, gt65 hg, gt66 hg, gt67 hg, gt68 hg, gt69 hg, gt70 hg, gt71 hg, gt72 hg, gt73 hg, gt74 hg, gt75 hg, gt76 hg, gt77 hg, gt78 hg, gt79 hg, gt80 hg, gt81 hg, gt82 hg, gt83 hg, gt84 hg, gt85 hg, gt86 hg, gt87 hg, gt88 hg, gt89 hg, gt90 hg, gt91 hg, gt92 hg, gt93 hg, gt94 hg, gt95 hg, gt96 hg, gt97 hg, gt98 hg, gt99 hg, ab_inv_I, ab_inv_R, ab_inv_L, ab_inv_0, ab_push_some, ab_push_none, ab_E_sw, ab_E_sw0, true_and, and_true, not_false_eq_true, bit_ite, s2, s3, s4, s5, s7, qi_ite2, ab_bit0, ab_bit1, qi_ite, ql_ite, Nat.reduceLeDiff, d128, d16, d8, d4, d1000, d100, d10, if_true, if_false, ite_self, tn0, tn1, tn2, tn3, tn4, tn5, tn6, tn7, tn8, tn9, tn10, tn11, tn12, tn13, tn14, tn15, tn16, tn17, tn18, tn19, up_ne, up_row, fr_ne, fr_eq, Int32.reduceAdd, Int32.reduceMul, Int32.reduceSub, Int32.reduceDiv, Int32.reduceLT, Int32.reduceLE, Int32.reduceToNatClampNeg, i10, i01, ↓reduceIte, if_true, if_false, g1, h1, h4]
    exact hQ I dfr_refl (fun _ _ _ => rfl) h4 h6
  | succ k ih =>
    intro p I hk hap h1 hb h4 h6 hQ
    have hp : p < n := by omega
    have g1 : nI p < nI n := nI_lt hp (by omega)
    have f1 : vp_in (nI p) 120 := vp_in_nI (by omega) (by decide)
    have f2 : (nI p).toNatClampNeg = p := nI_clamp (by omega)
    have hbp := hb p (by omega)
    rw [k34_5]
    by_cases hl : isDi (b p) = true
    · have hl' := isDi_1 hl
      rw [rn_go hn hp hl] at hQ
      have ev : (if (10000 : Int32) < 10 * mnf b a (p - a) + b p - 48 then 10000 else 10 * mnf b a (p - a) + b p - 48) = mnf b a (p + 1 - a) := by
        rw [show p + 1 - a = (p - a) + 1 by omega]
        show _ = (if (10000 : Int32) < 10 * mnf b a (p - a) + b (a + (p - a)) - 48 then 10000 else 10 * mnf b a (p - a) + b (a + (p - a)) - 48)
        rw [show a + (p - a) = p by omega]
      simp (disch := decide) only [k34_0, k34_1, k34_2, k34_6, k34_9, k34_10, k34_13, k34_16, k34_19, k34_20, k34_23, k34_26, k34_27, k34_30, k34_31, k34_34, k34_37, k34_38, k34_40, k34_41, k34_44, k34_45, k34_46, k34_49, k34_52, k34_53, k34_56, k34_57, k34_58, k34_60, k34_61, k34_64, k34_67, k34_70, k34_71, k34_72, k34_75, k34_76, k34_77, k34_80, k34_84, k34_85, k34_88, k34_91, k34_94, k34_96, k34_99, k34_101, k34_104, gl100 hg, gl34 hg, gl35 hg, gl36 hg, gl37 hg, gl38 hg, gl39 hg, gl40 hg, gl41 hg, gl42 hg, gl43 hg, gl44 hg, gl46 hg, gl47 hg, gl48 hg, gl49 hg, gl50 hg, gl51 hg, gl52 hg, gl53 hg, gl54 hg, gl55 hg, gl56 hg, gl58 hg, gl60 hg, gl62 hg, gl63 hg, gl64 hg, gl65 hg, gl66 hg, gl68 hg, gl69 hg, gl70 hg, gl71 hg, gl73 hg, gl74 hg, gl75 hg, gl76 hg, gl78 hg, gl79 hg, gl80 hg, gl81 hg, gl82 hg, gl83 hg, gl84 hg, gl85 hg, gl86 hg, gl87 hg, gl89 hg, gl90 hg, gl91 hg, gl93 hg, gl95 hg, gl97 hg, gl99 hg, gr32_0 hg, gr32_1 hg, gr32_10 hg, gr32_11 hg, gr32_3 hg, gr32_4 hg, gr32_5 hg, gr32_6 hg, gr32_7 hg, gr32_8 hg, gr32_9 hg, gr33_0 hg, gr33_1 hg, gr33_2 hg, gr33_3 hg, gr33_4 hg, gr33_5 hg, gr33_6 hg, gr35_0 hg, gr35_1 hg, gr39_0 hg, gr39_1 hg, gr45_0 hg, gr45_1 hg, gr45_2 hg, gr45_3 hg, gr45_4 hg, gr45_5 hg, gr45_6 hg, gr47_0 hg, gr47_1 hg, gr51_0 hg, gr51_1 hg, gr57_0 hg, gr59_0 hg, gr59_1 hg, gr61_0 hg, gr61_1 hg, gr61_2 hg, gr61_3 hg, gr61_4 hg, gr67_0 hg, gr68_0 hg, gr68_1 hg, gr68_2 hg, gr72_0 hg, gr73_0 hg, gr73_1 hg, gr73_2 hg, gr77_0 hg, gr77_1 hg, gr77_4 hg, gr77_5 hg, gr78_0 hg, gr78_1 hg, gr82_0 hg, gr82_1 hg, gr85_0 hg, gr85_1 hg, gr88_0 hg, gr88_1 hg, gr91_0 hg, gr91_1 hg, gr91_2 hg, gr91_3 hg, gr92_0 hg, gr94_0 hg, gr96_0 hg, gr98_0 hg, gt100 hg, gt32 hg, gt33 hg, gt34 hg, gt35 hg, gt36 hg, gt37 hg, gt38 hg, gt39 hg, gt40 hg, gt41 hg, gt42 hg, gt43 hg, gt44 hg, gt45 hg, gt46 hg, gt47 hg, gt48 hg, gt49 hg, gt50 hg, gt51 hg, gt52 hg, gt53 hg, gt54 hg, gt55 hg, gt56 hg, gt57 hg, gt58 hg, gt59 hg, gt60 hg, gt61 hg, gt62 hg, gt63 hg, gt64 hg, gt65 hg, gt66 hg, gt67 hg, gt68 hg, gt69 hg, gt70 hg, gt71 hg, gt72 hg, gt73 hg, gt74 hg, gt75 hg, gt76 hg, gt77 hg, gt78 hg, gt79 hg, gt80 hg, gt81 hg, gt82 hg, gt83 hg, gt84 hg, gt85 hg, gt86 hg, gt87 hg, gt88 hg, gt89 hg, gt90 hg, gt91 hg, gt92 hg, gt93 hg, gt94 hg, gt95 hg, gt96 hg, gt97 hg, gt98 hg, gt99 hg, ab_inv_I, ab_inv_R, ab_inv_L, ab_inv_0, ab_push_some, ab_push_none, ab_E_sw, ab_E_sw0, true_and, and_true, not_false_eq_true, bit_ite, s2, s3, s4, s5, s7, qi_ite2, ab_bit0, ab_bit1, qi_ite, ql_ite, Nat.reduceLeDiff, d128, d16, d8, d4, d1000, d100, d10, if_true, if_false, ite_self, tn0, tn1, tn2, tn3, tn4, tn5, tn6, tn7, tn8, tn9, tn10, tn11, tn12, tn13, tn14, tn15, tn16, tn17, tn18, tn19, up_ne, up_row, fr_ne, fr_eq, Int32.reduceAdd, Int32.reduceMul, Int32.reduceSub, Int32.reduceDiv, Int32.reduceLT, Int32.reduceLE, Int32.reduceToNatClampNeg, i10, i01, ↓reduceIte, if_true, if_false, g1, h1, h4, h6, f1, f2, hbp, c_Tr_isDigit, hl', c_Math_min, ev, nIp, i02, i03, i04, i05, i06, i07, i12, i13, i14, i15, i16, i17, i20, i21, i23, i24, i25, i26, i27, i30, i31, i32, i34, i35, i36, i37, i40, i41, i42, i43, i45, i46, i47, i50, i51, i52, i53, i54, i56, i57, i60, i61, i62, i63, i64, i65, i67, i70, i71, i72, i73, i74, i75, i76, i10, i01]
      refine ih (p + 1) _ (by omega) (by omega) (by simp (disch := decide) only [up_ne]; exact h1) (fun i hi => by simp (disch := decide) only [up_ne]; exact hb i hi) (by rw [up_row, fr_eq]) (by rw [up_row, fr_ne (by decide), up_row, fr_eq]) fun I' e0 e1 e2 e3 => hQ I' (dfr_trans (dfr_trans (dfr_up (by decide) (by decide)) (dfr_up (by decide) (by decide))) e0) (fun y y1 y2 => ?_) e2 e3
      rw [e1 y y1 y2, up_row, fr_ne y1, up_row, fr_ne y2]
    · have hl' := isDi_0 hl
      rw [rn_at (P := isDi) (fun h => hl h.2)] at hQ
      simp (disch := decide) only [k34_0, k34_1, k34_2, k34_6, k34_9, k34_10, k34_13, k34_16, k34_19, k34_20, k34_23, k34_26, k34_27, k34_30, k34_31, k34_34, k34_37, k34_38, k34_40, k34_41, k34_44, k34_45, k34_46, k34_49, k34_52, k34_53, k34_56, k34_57, k34_58, k34_60, k34_61, k34_64, k34_67, k34_70, k34_71, k34_72, k34_75, k34_76, k34_77, k34_80, k34_84, k34_85, k34_88, k34_91, k34_94, k34_96, k34_99, k34_101, k34_104, gl100 hg, gl34 hg, gl35 hg, gl36 hg, gl37 hg, gl38 hg, gl39 hg, gl40 hg, gl41 hg, gl42 hg, gl43 hg, gl44 hg, gl46 hg, gl47 hg, gl48 hg, gl49 hg, gl50 hg, gl51 hg, gl52 hg, gl53 hg, gl54 hg, gl55 hg, gl56 hg, gl58 hg, gl60 hg, gl62 hg, gl63 hg, gl64 hg, gl65 hg, gl66 hg, gl68 hg, gl69 hg, gl70 hg, gl71 hg, gl73 hg, gl74 hg, gl75 hg, gl76 hg, gl78 hg, gl79 hg, gl80 hg, gl81 hg, gl82 hg, gl83 hg, gl84 hg, gl85 hg, gl86 hg, gl87 hg, gl89 hg, gl90 hg, gl91 hg, gl93 hg, gl95 hg, gl97 hg, gl99 hg, gr32_0 hg, gr32_1 hg, gr32_10 hg, gr32_11 hg, gr32_3 hg, gr32_4 hg, gr32_5 hg, gr32_6 hg, gr32_7 hg, gr32_8 hg, gr32_9 hg, gr33_0 hg, gr33_1 hg, gr33_2 hg, gr33_3 hg, gr33_4 hg, gr33_5 hg, gr33_6 hg, gr35_0 hg, gr35_1 hg, gr39_0 hg, gr39_1 hg, gr45_0 hg, gr45_1 hg, gr45_2 hg, gr45_3 hg, gr45_4 hg, gr45_5 hg, gr45_6 hg, gr47_0 hg, gr47_1 hg, gr51_0 hg, gr51_1 hg, gr57_0 hg, gr59_0 hg, gr59_1 hg, gr61_0 hg, gr61_1 hg, gr61_2 hg, gr61_3 hg, gr61_4 hg, gr67_0 hg, gr68_0 hg, gr68_1 hg, gr68_2 hg, gr72_0 hg, gr73_0 hg, gr73_1 hg, gr73_2 hg, gr77_0 hg, gr77_1 hg, gr77_4 hg, gr77_5 hg, gr78_0 hg, gr78_1 hg, gr82_0 hg, gr82_1 hg, gr85_0 hg, gr85_1 hg, gr88_0 hg, gr88_1 hg, gr91_0 hg, gr91_1 hg, gr91_2 hg, gr91_3 hg, gr92_0 hg, gr94_0 hg, gr96_0 hg, gr98_0 hg, gt100 hg, gt32 hg, gt33 hg, gt34 hg, gt35 hg, gt36 hg, gt37 hg, gt38 hg, gt39 hg, gt40 hg, gt41 hg, gt42 hg, gt43 hg, gt44 hg, gt45 hg, gt46 hg, gt47 hg, gt48 hg, gt49 hg, gt50 hg, gt51 hg, gt52 hg, gt53 hg, gt54 hg, gt55 hg, gt56 hg, gt57 hg, gt58 hg, gt59 hg, gt60 hg, gt61 hg, gt62 hg, gt63 hg, gt64 hg, gt65 hg, gt66 hg, gt67 hg, gt68 hg, gt69 hg, gt70 hg, gt71 hg, gt72 hg, gt73 hg, gt74 hg, gt75 hg, gt76 hg, gt77 hg, gt78 hg, gt79 hg, gt80 hg, gt81 hg, gt82 hg, gt83 hg, gt84 hg, gt85 hg, gt86 hg, gt87 hg, gt88 hg, gt89 hg, gt90 hg, gt91 hg, gt92 hg, gt93 hg, gt94 hg, gt95 hg, gt96 hg, gt97 hg, gt98 hg, gt99 hg, ab_inv_I, ab_inv_R, ab_inv_L, ab_inv_0, ab_push_some, ab_push_none, ab_E_sw, ab_E_sw0, true_and, and_true, not_false_eq_true, bit_ite, s2, s3, s4, s5, s7, qi_ite2, ab_bit0, ab_bit1, qi_ite, ql_ite, Nat.reduceLeDiff, d128, d16, d8, d4, d1000, d100, d10, if_true, if_false, ite_self, tn0, tn1, tn2, tn3, tn4, tn5, tn6, tn7, tn8, tn9, tn10, tn11, tn12, tn13, tn14, tn15, tn16, tn17, tn18, tn19, up_ne, up_row, fr_ne, fr_eq, Int32.reduceAdd, Int32.reduceMul, Int32.reduceSub, Int32.reduceDiv, Int32.reduceLT, Int32.reduceLE, Int32.reduceToNatClampNeg, i10, i01, ↓reduceIte, if_true, if_false, g1, h1, h4, f1, f2, hbp, c_Tr_isDigit, hl', i02, i03, i04, i05, i06, i07, i12, i13, i14, i15, i16, i17, i20, i21, i23, i24, i25, i26, i27, i30, i31, i32, i34, i35, i36, i37, i40, i41, i42, i43, i45, i46, i47, i50, i51, i52, i53, i54, i56, i57, i60, i61, i62, i63, i64, i65, i67, i70, i71, i72, i73, i74, i75, i76, i10, i01]
      exact hQ I dfr_refl (fun _ _ _ => rfl) h4 h6
set_option maxRecDepth 20000 in
theorem c_takeNumber (hg : gx g) (hn : n ≤ 120) (ha : a < n) (h1 : I 57 1 = nI n) (hb : ∀ i, i < 120 → I 58 i = b i) (h3 : I 59 3 = nI a) (h4 : I 59 4 = nI a) (hQ : ∀ I', dfr [59] [] I I' → I' 59 2 = I 59 2 → CT I' (a, rn b n isDi 200 a, 2, nmf b a (rn b n isDi 200 a - a)) → Q none g I' J) : ab_run (d + 7) 34 [vR (some 59)] g I J Q := by
  have hen := rn_le (b := b) (n := n) (P := isDi) 200 a (by omega)
  have hge := rn_ge (b := b) (n := n) (P := isDi) 200 a
  have hx : ∀ i, i < rn b n isDi 200 a - a → 0 ≤ (b (a + i)).toInt - 48 ∧ (b (a + i)).toInt - 48 ≤ 9 := fun i hi => di_in (rn_all (n := n) 200 a (a + i) (by omega) (by omega))
  obtain ⟨z, z1, z2, z3, z4⟩ := mn_nm _ hx _ (Nat.le_refl _)
  rw [e34]
  simp (disch := decide) only [k34_0, k34_1, k34_2, k34_6, k34_9, k34_10, k34_13, k34_16, k34_19, k34_20, k34_23, k34_26, k34_27, k34_30, k34_31, k34_34, k34_37, k34_38, k34_40, k34_41, k34_44, k34_45, k34_46, k34_49, k34_52, k34_53, k34_56, k34_57, k34_58, k34_60, k34_61, k34_64, k34_67, k34_70, k34_71, k34_72, k34_75, k34_76, k34_77, k34_80, k34_84, k34_85, k34_88, k34_91, k34_94, k34_96, k34_99, k34_101, k34_104, gl100 hg, gl34 hg, gl35 hg, gl36 hg, gl37 hg, gl38 hg, gl39 hg, gl40 hg, gl41 hg, gl42 hg, gl43 hg, gl44 hg, gl46 hg, gl47 hg, gl48 hg, gl49 hg, gl50 hg, gl51 hg, gl52 hg, gl53 hg, gl54 hg, gl55 hg, gl56 hg, gl58 hg, gl60 hg, gl62 hg, gl63 hg, gl64 hg, gl65 hg, gl66 hg, gl68 hg, gl69 hg, gl70 hg, gl71 hg, gl73 hg, gl74 hg, gl75 hg, gl76 hg, gl78 hg, gl79 hg, gl80 hg, gl81 hg, gl82 hg, gl83 hg, gl84 hg, gl85 hg, gl86 hg, gl87 hg, gl89 hg, gl90 hg, gl91 hg, gl93 hg, gl95 hg, gl97 hg, gl99 hg, gr32_0 hg, gr32_1 hg, gr32_10 hg, gr32_11 hg, gr32_3 hg, gr32_4 hg, gr32_5 hg, gr32_6 hg, gr32_7 hg, gr32_8 hg, gr32_9 hg, gr33_0 hg, gr33_1 hg, gr33_2 hg, gr33_3 hg, gr33_4 hg, gr33_5 hg, gr33_6 hg, gr35_0 hg, gr35_1 hg, gr39_0 hg, gr39_1 hg, gr45_0 hg, gr45_1 hg, gr45_2 hg, gr45_3 hg, gr45_4 hg, gr45_5 hg, gr45_6 hg, gr47_0 hg, gr47_1 hg, gr51_0 hg, gr51_1 hg, gr57_0 hg, gr59_0 hg, gr59_1 hg, gr61_0 hg, gr61_1 hg, gr61_2 hg, gr61_3 hg, gr61_4 hg, gr67_0 hg, gr68_0 hg, gr68_1 hg, gr68_2 hg, gr72_0 hg, gr73_0 hg, gr73_1 hg, gr73_2 hg, gr77_0 hg, gr77_1 hg, gr77_4 hg, gr77_5 hg, gr78_0 hg, gr78_1 hg, gr82_0 hg, gr82_1 hg, gr85_0 hg, gr85_1 hg, gr88_0 hg, gr88_1 hg, gr91_0 hg, gr91_1 hg, gr91_2 hg, gr91_3 hg, gr92_0 hg, gr94_0 hg, gr96_0 hg, gr98_0 hg, gt100 hg, gt32 hg, gt33 hg, gt34 hg, gt35 hg, gt36 hg, gt37 hg, gt38 hg, gt39 hg, gt40 hg, gt41 hg, gt42 hg, gt43 hg, gt44 hg, gt45 hg, gt46 hg, gt47 hg, gt48 hg, gt49 hg, gt50 hg, gt51 hg, gt52 hg, gt53 hg, gt54 hg, gt55 hg, gt56 hg, gt57 hg, gt58 hg, gt59 hg, gt60 hg, gt61 hg, gt62 hg, gt63 hg, gt64 hg, gt65 hg, gt66 hg, gt67 hg, gt68 hg, gt69 hg, gt70 hg, gt71 hg, gt72 hg, gt73 hg, gt74 hg, gt75 hg, gt76 hg, gt77 hg, gt78 hg, gt79 hg, gt80 hg, gt81 hg, gt82 hg, gt83 hg, gt84 hg, gt85 hg, gt86 hg, gt87 hg, gt88 hg, gt89 hg, gt90 hg, gt91 hg, gt92 hg, gt93 hg, gt94 hg, gt95 hg, gt96 hg, gt97 hg, gt98 hg, gt99 hg, ab_inv_I, ab_inv_R, ab_inv_L, ab_inv_0, ab_push_some, ab_push_none, ab_E_sw, ab_E_sw0, true_and, and_true, not_false_eq_true, bit_ite, s2, s3, s4, s5, s7, qi_ite2, ab_bit0, ab_bit1, qi_ite, ql_ite, Nat.reduceLeDiff, d128, d16, d8, d4, d1000, d100, d10, if_true, if_false, ite_self, tn0, tn1, tn2, tn3, tn4, tn5, tn6, tn7, tn8, tn9, tn10, tn11, tn12, tn13, tn14, tn15, tn16, tn17, tn18, tn19, up_ne, up_row, fr_ne, fr_eq, Int32.reduceAdd, Int32.reduceMul, Int32.reduceSub, Int32.reduceDiv, Int32.reduceLT, Int32.reduceLE, Int32.reduceToNatClampNeg, i10, i01, ↓reduceIte, if_true, if_false]
  refine lp_tn (b := b) (a := a) hg hn (n - a) a _ (by omega) (Nat.le_refl _) (by rw [up_ne (by decide)]; exact h1) (fun i hi => by rw [up_ne (by decide)]; exact hb i hi) (by rw [up_row, fr_ne (by decide)]; exact h4) (by rw [up_row, fr_eq, Nat.sub_self]; rfl) fun I1 D1 k1 c4 c6 => ?_
  have D0 : dfr [59] [] I I1 := dfr_trans (dfr_up (by decide) (by decide)) D1
  have c3 : I1 59 3 = nI a := by rw [k1 3 (by decide) (by decide), up_row, fr_ne (by decide)]; exact h3
  have c2 : I1 59 2 = I 59 2 := by rw [k1 2 (by decide) (by decide), up_row, fr_ne (by decide)]
  rw [k34_83]
  rw [z4] at c6
  have ht : tkT 2 (nmf b a (rn b n isDi 200 a - a)) = if 9999 < z then -2 else -3 := by
    unfold tkT
    rw [if_neg (by decide), if_neg (by decide), if_pos rfl, z1]
    have k2 : (9999 < iK z) = (9999 < z) := iK_lt (a := 9999) (by omega) (by omega)
    simp only [k2]
  have k3 : ((9999 : Int32) < iK (min z 10000)) = (9999 < min z 10000) := iK_lt (a := 9999) (by omega) (by omega)
  by_cases c : 9999 < z
  · have k4 := k3.trans (eq_true (show 9999 < min z 10000 by omega))
    rw [if_pos c] at ht
    simp (disch := decide) only [k34_0, k34_1, k34_2, k34_6, k34_9, k34_10, k34_13, k34_16, k34_19, k34_20, k34_23, k34_26, k34_27, k34_30, k34_31, k34_34, k34_37, k34_38, k34_40, k34_41, k34_44, k34_45, k34_46, k34_49, k34_52, k34_53, k34_56, k34_57, k34_58, k34_60, k34_61, k34_64, k34_67, k34_70, k34_71, k34_72, k34_75, k34_76, k34_77, k34_80, k34_84, k34_85, k34_88, k34_91, k34_94, k34_96, k34_99, k34_101, k34_104, gl100 hg, gl34 hg, gl35 hg, gl36 hg, gl37 hg, gl38 hg, gl39 hg, gl40 hg, gl41 hg, gl42 hg, gl43 hg, gl44 hg, gl46 hg, gl47 hg, gl48 hg, gl49 hg, gl50 hg, gl51 hg, gl52 hg, gl53 hg, gl54 hg, gl55 hg, gl56 hg, gl58 hg, gl60 hg, gl62 hg, gl63 hg, gl64 hg, gl65 hg, gl66 hg, gl68 hg, gl69 hg, gl70 hg, gl71 hg, gl73 hg, gl74 hg, gl75 hg, gl76 hg, gl78 hg, gl79 hg, gl80 hg, gl81 hg, gl82 hg, gl83 hg, gl84 hg, gl85 hg, gl86 hg, gl87 hg, gl89 hg, gl90 hg, gl91 hg, gl93 hg, gl95 hg, gl97 hg, gl99 hg, gr32_0 hg, gr32_1 hg, gr32_10 hg, gr32_11 hg, gr32_3 hg, gr32_4 hg, gr32_5 hg, gr32_6 hg, gr32_7 hg, gr32_8 hg, gr32_9 hg, gr33_0 hg, gr33_1 hg, gr33_2 hg, gr33_3 hg, gr33_4 hg, gr33_5 hg, gr33_6 hg, gr35_0 hg, gr35_1 hg, gr39_0 hg, gr39_1 hg, gr45_0 hg, gr45_1 hg, gr45_2 hg, gr45_3 hg, gr45_4 hg, gr45_5 hg, gr45_6 hg, gr47_0 hg, gr47_1 hg, gr51_0 hg, gr51_1 hg, gr57_0 hg, gr59_0 hg, gr59_1 hg, gr61_0 hg, gr61_1 hg, gr61_2 hg, gr61_3 hg, gr61_4 hg, gr67_0 hg, gr68_0 hg, gr68_1 hg, gr68_2 hg, gr72_0 hg, gr73_0 hg, gr73_1 hg, gr73_2 hg, gr77_0 hg, gr77_1 hg, gr77_4 hg, gr77_5 hg, gr78_0 hg, gr78_1 hg, gr82_0 hg, gr82_1 hg, gr85_0 hg, gr85_1 hg, gr88_0 hg, gr88_1 hg, gr91_0 hg, gr91_1 hg, gr91_2 hg, gr91_3 hg, gr92_0 hg, gr94_0 hg, gr96_0 hg, gr98_0 hg, gt100 hg, gt32 hg, gt33 hg, gt34 hg, gt35 hg, gt36 hg, gt37 hg, gt38 hg, gt39 hg, gt40 hg, gt41 hg, gt42 hg, gt43 hg, gt44 hg, gt45 hg, gt46 hg, gt47 hg, gt48 hg, gt49 hg, gt50 hg, gt51 hg, gt52 hg, gt53 hg, gt54 hg, gt55 hg, gt56 hg, gt57 hg, gt58 hg, gt59 hg, gt60 hg, gt61 hg, gt62 hg, gt63 hg, gt64 hg, gt65 hg, gt66 hg, gt67 hg, gt68 hg, gt69 hg, gt70 hg, gt71 hg, gt72 hg, gt73 hg, gt74 hg, gt75 hg, gt76 hg, gt77 hg, gt78 hg, gt79 hg, gt80 hg, gt81 hg, gt82 hg, gt83 hg, gt84 hg, gt85 hg, gt86 hg, gt87 hg, gt88 hg, gt89 hg, gt90 hg, gt91 hg, gt92 hg, gt93 hg, gt94 hg, gt95 hg, gt96 hg, gt97 hg, gt98 hg, gt99 hg, ab_inv_I, ab_inv_R, ab_inv_L, ab_inv_0, ab_push_some, ab_push_none, ab_E_sw, ab_E_sw0, true_and, and_true, not_false_eq_true, bit_ite, s2, s3, s4, s5, s7, qi_ite2, ab_bit0, ab_bit1, qi_ite, ql_ite, Nat.reduceLeDiff, d128, d16, d8, d4, d1000, d100, d10, if_true, if_false, ite_self, tn0, tn1, tn2, tn3, tn4, tn5, tn6, tn7, tn8, tn9, tn10, tn11, tn12, tn13, tn14, tn15, tn16, tn17, tn18, tn19, up_ne, up_row, fr_ne, fr_eq, Int32.reduceAdd, Int32.reduceMul, Int32.reduceSub, Int32.reduceDiv, Int32.reduceLT, Int32.reduceLE, Int32.reduceToNatClampNeg, i10, i01, ↓reduceIte, if_true, if_false, c6, k4]
    refine hQ _ (dfr_trans D0 (dfr_up (by decide) (by decide))) ?_ ⟨⟨?_, ?_⟩, ?_, fun h => ?_⟩
    · simp (disch := decide) only [up_row, fr_ne]; exact c2
    · simp (disch := decide) only [up_row, fr_ne]; exact c3
    · simp (disch := decide) only [up_row, fr_ne]; exact c4
    · simp (disch := decide) only [up_row, fr_eq]; exact ht.symm
    · exact absurd h (by show ¬ (tkT 2 _ = -3 ∨ tkT 2 _ = -4); rw [ht]; decide)
  · have k4 := k3.trans (eq_false (show ¬ 9999 < min z 10000 by omega))
    rw [if_neg c] at ht
    simp (disch := decide) only [k34_0, k34_1, k34_2, k34_6, k34_9, k34_10, k34_13, k34_16, k34_19, k34_20, k34_23, k34_26, k34_27, k34_30, k34_31, k34_34, k34_37, k34_38, k34_40, k34_41, k34_44, k34_45, k34_46, k34_49, k34_52, k34_53, k34_56, k34_57, k34_58, k34_60, k34_61, k34_64, k34_67, k34_70, k34_71, k34_72, k34_75, k34_76, k34_77, k34_80, k34_84, k34_85, k34_88, k34_91, k34_94, k34_96, k34_99, k34_101, k34_104, gl100 hg, gl34 hg, gl35 hg, gl36 hg, gl37 hg, gl38 hg, gl39 hg, gl40 hg, gl41 hg, gl42 hg, gl43 hg, gl44 hg, gl46 hg, gl47 hg, gl48 hg, gl49 hg, gl50 hg, gl51 hg, gl52 hg, gl53 hg, gl54 hg, gl55 hg, gl56 hg, gl58 hg, gl60 hg, gl62 hg, gl63 hg, gl64 hg, gl65 hg, gl66 hg, gl68 hg, gl69 hg, gl70 hg, gl71 hg, gl73 hg, gl74 hg, gl75 hg, gl76 hg, gl78 hg, gl79 hg, gl80 hg, gl81 hg, gl82 hg, gl83 hg, gl84 hg, gl85 hg, gl86 hg, gl87 hg, gl89 hg, gl90 hg, gl91 hg, gl93 hg, gl95 hg, gl97 hg, gl99 hg, gr32_0 hg, gr32_1 hg, gr32_10 hg, gr32_11 hg, gr32_3 hg, gr32_4 hg, gr32_5 hg, gr32_6 hg, gr32_7 hg, gr32_8 hg, gr32_9 hg, gr33_0 hg, gr33_1 hg, gr33_2 hg, gr33_3 hg, gr33_4 hg, gr33_5 hg, gr33_6 hg, gr35_0 hg, gr35_1 hg, gr39_0 hg, gr39_1 hg, gr45_0 hg, gr45_1 hg, gr45_2 hg, gr45_3 hg, gr45_4 hg, gr45_5 hg, gr45_6 hg, gr47_0 hg, gr47_1 hg, gr51_0 hg, gr51_1 hg, gr57_0 hg, gr59_0 hg, gr59_1 hg, gr61_0 hg, gr61_1 hg, gr61_2 hg, gr61_3 hg, gr61_4 hg, gr67_0 hg, gr68_0 hg, gr68_1 hg, gr68_2 hg, gr72_0 hg, gr73_0 hg, gr73_1 hg, gr73_2 hg, gr77_0 hg, gr77_1 hg, gr77_4 hg, gr77_5 hg, gr78_0 hg, gr78_1 hg, gr82_0 hg, gr82_1 hg, gr85_0 hg, gr85_1 hg, gr88_0 hg, gr88_1 hg, gr91_0 hg, gr91_1 hg, gr91_2 hg, gr91_3 hg, gr92_0 hg, gr94_0 hg, gr96_0 hg, gr98_0 hg, gt100 hg, gt32 hg, gt33 hg, gt34 hg, gt35 hg, gt36 hg, gt37 hg, gt38 hg, gt39 hg, gt40 hg, gt41 hg, gt42 hg, gt43 hg, gt44 hg, gt45 hg, gt46 hg, gt47 hg, gt48 hg, gt49 hg, gt50 hg, gt51 hg, gt52 hg, gt53 hg, gt54 hg, gt55 hg, gt56 hg, gt57 hg, gt58 hg, gt59 hg, gt60 hg, gt61 hg, gt62 hg, gt63 hg, gt64 hg, gt65 hg, gt66 hg, gt67 hg, gt68 hg, gt69 hg, gt70 hg, gt71 hg, gt72 hg, gt73 hg, gt74 hg, gt75 hg, gt76 hg, gt77 hg, gt78 hg, gt79 hg, gt80 hg, gt81 hg, gt82 hg, gt83 hg, gt84 hg, gt85 hg, gt86 hg, gt87 hg, gt88 hg, gt89 hg, gt90 hg, gt91 hg, gt92 hg, gt93 hg, gt94 hg, gt95 hg, gt96 hg, gt97 hg, gt98 hg, gt99 hg, ab_inv_I, ab_inv_R, ab_inv_L, ab_inv_0, ab_push_some, ab_push_none, ab_E_sw, ab_E_sw0, true_and, and_true, not_false_eq_true, bit_ite, s2, s3, s4, s5, s7, qi_ite2, ab_bit0, ab_bit1, qi_ite, ql_ite, Nat.reduceLeDiff, d128, d16, d8, d4, d1000, d100, d10, if_true, if_false, ite_self, tn0, tn1, tn2, tn3, tn4, tn5, tn6, tn7, tn8, tn9, tn10, tn11, tn12, tn13, tn14, tn15, tn16, tn17, tn18, tn19, up_ne, up_row, fr_ne, fr_eq, Int32.reduceAdd, Int32.reduceMul, Int32.reduceSub, Int32.reduceDiv, Int32.reduceLT, Int32.reduceLE, Int32.reduceToNatClampNeg, i10, i01, ↓reduceIte, if_true, if_false, c6, k4]
    refine hQ _ (dfr_trans D0 (dfr_up (by decide) (by decide))) ?_ ⟨⟨?_, ?_⟩, ?_, fun h => ?_⟩
    · simp (disch := decide) only [up_row, fr_ne]; exact c2
    · simp (disch := decide) only [up_row, fr_ne]; exact c3
    · simp (disch := decide) only [up_row, fr_ne]; exact c4
    · simp (disch := decide) only [up_row, fr_eq]; exact ht.symm
    · simp (disch := decide) only [up_row, fr_ne]
      rw [c6, z1, show min z 10000 = z by omega]
      unfold tkV; rw [if_neg (by decide)]
set_option maxRecDepth 20000 in
theorem lp_adv (hg : gx g) (hl : low SL xs g I) (hn : n ≤ 120) (k : Nat) : ∀ p I, p + k = n → low SL xs g I → I 57 1 = nI n → (∀ i, i < 120 → I 58 i = b i ∧ rg (b i) 0 255) → I 59 3 = nI p → (∀ I', dfr [59] [] I I' → I' 59 2 = I 59 2 → CT I' (aM b n p) → Q none g I' J) → ab_E (d + 7) 21 8 [some (vR (some 59))] [] 0 0 g I J Q := by
  induction k with
  | zero =>
    intro p I hk hl h1 hb h3 hQ
    have g1 : ¬ nI p < nI n := nI_nlt (by omega) (by omega)
    have hr : rn b n isSp 200 p = p := rn_at (fun h => by omega)
    have ha : aM b n p = (p, p, 0, 0) := by unfold aM; rw [hr, if_pos (by omega)]
    rw [ha] at hQ
    rw [k21_8]
    simp (disch := decide) only [k21_0, k21_1, k21_2, k21_5, k21_9, k21_12, k21_13, k21_16, k21_19, k21_22, k21_23, k21_26, k21_29, k21_30, k21_33, k21_34, k21_36, k21_39, k21_40, k21_41, k21_44, k21_45, k21_46, k21_49, k21_52, k21_53, k21_54, k21_57, k21_60, k21_61, k21_64, k21_65, k21_68, k21_71, k21_74, k21_75, k21_76, k21_79, k21_82, k21_83, k21_86, k21_89, k21_90, k21_93, k21_94, k21_97, k21_100, k21_101, k21_104, k21_107, k21_108, k21_111, k21_114, k21_115, k21_118, k21_119, k21_122, k21_125, k21_126, k21_129, k21_132, k21_133, k21_134, k21_137, k21_138, k21_139, k21_142, k21_143, k21_145, k21_146, k21_149, k21_152, k21_153, k21_156, k21_157, k21_158, k21_161, k21_164, k21_165, k21_168, k21_171, k21_172, k21_175, k21_176, k21_179, k21_181, k21_184, gl100 hg, gl34 hg, gl35 hg, gl36 hg, gl37 hg, gl38 hg, gl39 hg, gl40 hg, gl41 hg, gl42 hg, gl43 hg, gl44 hg, gl46 hg, gl47 hg, gl48 hg, gl49 hg, gl50 hg, gl51 hg, gl52 hg, gl53 hg, gl54 hg, gl55 hg, gl56 hg, gl58 hg, gl60 hg, gl62 hg, gl63 hg, gl64 hg, gl65 hg, gl66 hg, gl68 hg, gl69 hg, gl70 hg, gl71 hg, gl73 hg, gl74 hg, gl75 hg, gl76 hg, gl78 hg, gl79 hg, gl80 hg, gl81 hg, gl82 hg, gl83 hg, gl84 hg, gl85 hg, gl86 hg, gl87 hg, gl89 hg, gl90 hg, gl91 hg, gl93 hg, gl95 hg, gl97 hg, gl99 hg, gr32_0 hg, gr32_1 hg, gr32_10 hg, gr32_11 hg, gr32_3 hg, gr32_4 hg, gr32_5 hg, gr32_6 hg, gr32_7 hg, gr32_8 hg, gr32_9 hg, gr33_0 hg, gr33_1 hg, gr33_2 hg, gr33_3 hg, gr33_4 hg, gr33_5 hg, gr33_6 hg, gr35_0 hg, gr35_1 hg, gr39_0 hg, gr39_1 hg, gr45_0 hg, gr45_1 hg, gr45_2 hg, gr45_3 hg, gr45_4 hg, gr45_5 hg, gr45_6 hg, gr47_0 hg, gr47_1 hg, gr51_0 hg, gr51_1 hg, gr57_0 hg, gr59_0 hg, gr59_1 hg, gr61_0 hg, gr61_1 hg, gr61_2 hg, gr61_3 hg, gr61_4 hg, gr67_0 hg, gr68_0 hg, gr68_1 hg, gr68_2 hg, gr72_0 hg, gr73_0 hg, gr73_1 hg, gr73_2 hg, gr77_0 hg, gr77_1 hg, gr77_4 hg, gr77_5 hg, gr78_0 hg, gr78_1 hg, gr82_0 hg, gr82_1 hg, gr85_0 hg, gr85_1 hg, gr88_0 hg, gr88_1 hg, gr91_0 hg, gr91_1 hg, gr91_2 hg, gr91_3 hg, gr92_0 hg, gr94_0 hg, gr96_0 hg, gr98_0 hg, gt100 hg, gt32 hg, gt33 hg, gt34 hg, gt35 hg, gt36 hg, gt37 hg, gt38 hg, gt39 hg, gt40 hg, gt41 hg, gt42 hg, gt43 hg, gt44 hg, gt45 hg, gt46 hg, gt47 hg, gt48 hg, gt49 hg, gt50 hg, gt51 hg, gt52 hg, gt53 hg, gt54 hg, gt55 hg, gt56 hg, gt57 hg, gt58 hg, gt59 hg, gt60 hg, gt61 hg, gt62 hg, gt63 hg, gt64 hg, gt65 hg, gt66 hg, gt67 hg, gt68 hg, gt69 hg, gt70 hg, gt71 hg, gt72 hg, gt73 hg, gt74 hg, gt75 hg, gt76 hg, gt77 hg, gt78 hg, gt79 hg, gt80 hg, gt81 hg, gt82 hg, gt83 hg, gt84 hg, gt85 hg, gt86 hg, gt87 hg, gt88 hg, gt89 hg, gt90 hg, gt91 hg, gt92 hg, gt93 hg, gt94 hg, gt95 hg, gt96 hg, gt97 hg, gt98 hg, gt99 hg, ab_inv_I, ab_inv_R, ab_inv_L, ab_inv_0, ab_push_some, ab_push_none, ab_E_sw, ab_E_sw0, true_and, and_true, not_false_eq_true, bit_ite, s2, s3, s4, s5, s7, qi_ite2, ab_bit0, ab_bit1, qi_ite, ql_ite, Nat.reduceLeDiff, d128, d16, d8, d4, d1000, d100, d10, if_true, if_false, ite_self, tn0, tn1, tn2, tn3, tn4, tn5, tn6, tn7, tn8, tn9, tn10, tn11, tn12, tn13, tn14, tn15, tn16, tn17, tn18, tn19, up_ne, up_row, fr_ne, fr_eq, Int32.reduceAdd, Int32.reduceMul, Int32.reduceSub, Int32.reduceDiv, Int32.reduceLT, Int32.reduceLE, Int32.reduceToNatClampNeg, i10, i01, ↓reduceIte, if_true, if_false, g1, h1, h3]
    refine hQ _ (dfr_trans (dfr_up (by decide) (by decide)) (dfr_up (by decide) (by decide))) ?_ ⟨⟨?_, ?_⟩, ?_, fun h => absurd h (show ¬ (tkT 0 0 = -3 ∨ tkT 0 0 = -4) by decide)⟩
    · simp (disch := decide) only [up_row, fr_ne]
    · simp (disch := decide) only [up_row, fr_ne]; exact h3
    · simp (disch := decide) only [up_row, fr_ne, fr_eq]
    · simp (disch := decide) only [up_row, fr_eq]; rfl
  | succ k ih =>
    intro p I hk hl h1 hb h3 hQ
    have hp : p < n := by omega
    have g1 : nI p < nI n := nI_lt hp (by omega)
    have f1 : vp_in (nI p) 120 := vp_in_nI (by omega) (by decide)
    have f2 : (nI p).toNatClampNeg = p := nI_clamp (by omega)
    have hbp := (hb p (by omega)).1
    rw [k21_8]
    by_cases hs : b p = 32
    · have hr : rn b n isSp 200 p = rn b n isSp 200 (p + 1) := rn_go hn hp (by unfold isSp; simp [hs])
      have ha : aM b n p = aM b n (p + 1) := by unfold aM; rw [hr]
      rw [ha] at hQ
      simp (disch := decide) only [k21_0, k21_1, k21_2, k21_5, k21_9, k21_12, k21_13, k21_16, k21_19, k21_22, k21_23, k21_26, k21_29, k21_30, k21_33, k21_34, k21_36, k21_39, k21_40, k21_41, k21_44, k21_45, k21_46, k21_49, k21_52, k21_53, k21_54, k21_57, k21_60, k21_61, k21_64, k21_65, k21_68, k21_71, k21_74, k21_75, k21_76, k21_79, k21_82, k21_83, k21_86, k21_89, k21_90, k21_93, k21_94, k21_97, k21_100, k21_101, k21_104, k21_107, k21_108, k21_111, k21_114, k21_115, k21_118, k21_119, k21_122, k21_125, k21_126, k21_129, k21_132, k21_133, k21_134, k21_137, k21_138, k21_139, k21_142, k21_143, k21_145, k21_146, k21_149, k21_152, k21_153, k21_156, k21_157, k21_158, k21_161, k21_164, k21_165, k21_168, k21_171, k21_172, k21_175, k21_176, k21_179, k21_181, k21_184, gl100 hg, gl34 hg, gl35 hg, gl36 hg, gl37 hg, gl38 hg, gl39 hg, gl40 hg, gl41 hg, gl42 hg, gl43 hg, gl44 hg, gl46 hg, gl47 hg, gl48 hg, gl49 hg, gl50 hg, gl51 hg, gl52 hg, gl53 hg, gl54 hg, gl55 hg, gl56 hg, gl58 hg, gl60 hg, gl62 hg, gl63 hg, gl64 hg, gl65 hg, gl66 hg, gl68 hg, gl69 hg, gl70 hg, gl71 hg, gl73 hg, gl74 hg, gl75 hg, gl76 hg, gl78 hg, gl79 hg, gl80 hg, gl81 hg, gl82 hg, gl83 hg, gl84 hg, gl85 hg, gl86 hg, gl87 hg, gl89 hg, gl90 hg, gl91 hg, gl93 hg, gl95 hg, gl97 hg, gl99 hg, gr32_0 hg, gr32_1 hg, gr32_10 hg, gr32_11 hg, gr32_3 hg, gr32_4 hg, gr32_5 hg, gr32_6 hg, gr32_7 hg, gr32_8 hg, gr32_9 hg, gr33_0 hg, gr33_1 hg, gr33_2 hg, gr33_3 hg, gr33_4 hg, gr33_5 hg, gr33_6 hg, gr35_0 hg, gr35_1 hg, gr39_0 hg, gr39_1 hg, gr45_0 hg, gr45_1 hg, gr45_2 hg, gr45_3 hg, gr45_4 hg, gr45_5 hg, gr45_6 hg, gr47_0 hg, gr47_1 hg, gr51_0 hg, gr51_1 hg, gr57_0 hg, gr59_0 hg, gr59_1 hg, gr61_0 hg, gr61_1 hg, gr61_2 hg, gr61_3 hg, gr61_4 hg, gr67_0 hg, gr68_0 hg, gr68_1 hg, gr68_2 hg, gr72_0 hg, gr73_0 hg, gr73_1 hg, gr73_2 hg, gr77_0 hg, gr77_1 hg, gr77_4 hg, gr77_5 hg, gr78_0 hg, gr78_1 hg, gr82_0 hg, gr82_1 hg, gr85_0 hg, gr85_1 hg, gr88_0 hg, gr88_1 hg, gr91_0 hg, gr91_1 hg, gr91_2 hg, gr91_3 hg, gr92_0 hg, gr94_0 hg, gr96_0 hg, gr98_0 hg, gt100 hg, gt32 hg, gt33 hg, gt34 hg, gt35 hg, gt36 hg, gt37 hg, gt38 hg, gt39 hg, gt40 hg, gt41 hg, gt42 hg, gt43 hg, gt44 hg, gt45 hg, gt46 hg, gt47 hg, gt48 hg, gt49 hg, gt50 hg, gt51 hg, gt52 hg, gt53 hg, gt54 hg, gt55 hg, gt56 hg, gt57 hg, gt58 hg, gt59 hg, gt60 hg, gt61 hg, gt62 hg, gt63 hg, gt64 hg, gt65 hg, gt66 hg, gt67 hg, gt68 hg, gt69 hg, gt70 hg, gt71 hg, gt72 hg, gt73 hg, gt74 hg, gt75 hg, gt76 hg, gt77 hg, gt78 hg, gt79 hg, gt80 hg, gt81 hg, gt82 hg, gt83 hg, gt84 hg, gt85 hg, gt86 hg, gt87 hg, gt88 hg, gt89 hg, gt90 hg, gt91 hg, gt92 hg, gt93 hg, gt94 hg, gt95 hg, gt96 hg, gt97 hg, gt98 hg, gt99 hg, ab_inv_I, ab_inv_R, ab_inv_L, ab_inv_0, ab_push_some, ab_push_none, ab_E_sw, ab_E_sw0, true_and, and_true, not_false_eq_true, bit_ite, s2, s3, s4, s5, s7, qi_ite2, ab_bit0, ab_bit1, qi_ite, ql_ite, Nat.reduceLeDiff, d128, d16, d8, d4, d1000, d100, d10, if_true, if_false, ite_self, tn0, tn1, tn2, tn3, tn4, tn5, tn6, tn7, tn8, tn9, tn10, tn11, tn12, tn13, tn14, tn15, tn16, tn17, tn18, tn19, up_ne, up_row, fr_ne, fr_eq, Int32.reduceAdd, Int32.reduceMul, Int32.reduceSub, Int32.reduceDiv, Int32.reduceLT, Int32.reduceLE, Int32.reduceToNatClampNeg, i10, i01, ↓reduceIte, if_true, if_false, g1, h1, h3, f1, f2, hbp, hs, nIp]
      refine ih (p + 1) _ (by omega) ((low_up (by decide)).mpr hl) (by rw [up_ne (by decide)]; exact h1) (fun i hi => by rw [up_ne (by decide)]; exact hb i hi) (by rw [up_row, fr_eq]) fun I' e1 e2 e3 => hQ I' (dfr_trans (dfr_up (by decide) (by decide)) e1) ?_ e3
      rw [e2, up_row, fr_ne (by decide)]
    · have hr : rn b n isSp 200 p = p := rn_at (fun h => by have := h.2; unfold isSp at this; simp [hs] at this)
      by_cases hle : isLe (b p) = true
      · have hl' := isLe_1 hle
        have ha : aM b n p = (p, rn b n isLe 200 p, 1, wvf b p (rn b n isLe 200 p - p)) := by unfold aM; rw [hr, if_neg (by omega), if_pos hle]
        rw [ha] at hQ
        simp (disch := decide) only [k21_0, k21_1, k21_2, k21_5, k21_9, k21_12, k21_13, k21_16, k21_19, k21_22, k21_23, k21_26, k21_29, k21_30, k21_33, k21_34, k21_36, k21_39, k21_40, k21_41, k21_44, k21_45, k21_46, k21_49, k21_52, k21_53, k21_54, k21_57, k21_60, k21_61, k21_64, k21_65, k21_68, k21_71, k21_74, k21_75, k21_76, k21_79, k21_82, k21_83, k21_86, k21_89, k21_90, k21_93, k21_94, k21_97, k21_100, k21_101, k21_104, k21_107, k21_108, k21_111, k21_114, k21_115, k21_118, k21_119, k21_122, k21_125, k21_126, k21_129, k21_132, k21_133, k21_134, k21_137, k21_138, k21_139, k21_142, k21_143, k21_145, k21_146, k21_149, k21_152, k21_153, k21_156, k21_157, k21_158, k21_161, k21_164, k21_165, k21_168, k21_171, k21_172, k21_175, k21_176, k21_179, k21_181, k21_184, gl100 hg, gl34 hg, gl35 hg, gl36 hg, gl37 hg, gl38 hg, gl39 hg, gl40 hg, gl41 hg, gl42 hg, gl43 hg, gl44 hg, gl46 hg, gl47 hg, gl48 hg, gl49 hg, gl50 hg, gl51 hg, gl52 hg, gl53 hg, gl54 hg, gl55 hg, gl56 hg, gl58 hg, gl60 hg, gl62 hg, gl63 hg, gl64 hg, gl65 hg, gl66 hg, gl68 hg, gl69 hg, gl70 hg, gl71 hg, gl73 hg, gl74 hg, gl75 hg, gl76 hg, gl78 hg, gl79 hg, gl80 hg, gl81 hg, gl82 hg, gl83 hg, gl84 hg, gl85 hg, gl86 hg, gl87 hg, gl89 hg, gl90 hg, gl91 hg, gl93 hg, gl95 hg, gl97 hg, gl99 hg, gr32_0 hg, gr32_1 hg, gr32_10 hg, gr32_11 hg, gr32_3 hg, gr32_4 hg, gr32_5 hg, gr32_6 hg, gr32_7 hg, gr32_8 hg, gr32_9 hg, gr33_0 hg, gr33_1 hg, gr33_2 hg, gr33_3 hg, gr33_4 hg, gr33_5 hg, gr33_6 hg, gr35_0 hg, gr35_1 hg, gr39_0 hg, gr39_1 hg, gr45_0 hg, gr45_1 hg, gr45_2 hg, gr45_3 hg, gr45_4 hg, gr45_5 hg, gr45_6 hg, gr47_0 hg, gr47_1 hg, gr51_0 hg, gr51_1 hg, gr57_0 hg, gr59_0 hg, gr59_1 hg, gr61_0 hg, gr61_1 hg, gr61_2 hg, gr61_3 hg, gr61_4 hg, gr67_0 hg, gr68_0 hg, gr68_1 hg, gr68_2 hg, gr72_0 hg, gr73_0 hg, gr73_1 hg, gr73_2 hg, gr77_0 hg, gr77_1 hg, gr77_4 hg, gr77_5 hg, gr78_0 hg, gr78_1 hg, gr82_0 hg, gr82_1 hg, gr85_0 hg, gr85_1 hg, gr88_0 hg, gr88_1 hg, gr91_0 hg, gr91_1 hg, gr91_2 hg, gr91_3 hg, gr92_0 hg, gr94_0 hg, gr96_0 hg, gr98_0 hg, gt100 hg, gt32 hg, gt33 hg, gt34 hg, gt35 hg, gt36 hg, gt37 hg, gt38 hg, gt39 hg, gt40 hg, gt41 hg, gt42 hg, gt43 hg, gt44 hg, gt45 hg, gt46 hg, gt47 hg, gt48 hg, gt49 hg, gt50 hg, gt51 hg, gt52 hg, gt53 hg, gt54 hg, gt55 hg, gt56 hg, gt57 hg, gt58 hg, gt59 hg, gt60 hg, gt61 hg, gt62 hg, gt63 hg, gt64 hg, gt65 hg, gt66 hg, gt67 hg, gt68 hg, gt69 hg, gt70 hg, gt71 hg, gt72 hg, gt73 hg, gt74 hg, gt75 hg, gt76 hg, gt77 hg, gt78 hg, gt79 hg, gt80 hg, gt81 hg, gt82 hg, gt83 hg, gt84 hg, gt85 hg, gt86 hg, gt87 hg, gt88 hg, gt89 hg, gt90 hg, gt91 hg, gt92 hg, gt93 hg, gt94 hg, gt95 hg, gt96 hg, gt97 hg, gt98 hg, gt99 hg, ab_inv_I, ab_inv_R, ab_inv_L, ab_inv_0, ab_push_some, ab_push_none, ab_E_sw, ab_E_sw0, true_and, and_true, not_false_eq_true, bit_ite, s2, s3, s4, s5, s7, qi_ite2, ab_bit0, ab_bit1, qi_ite, ql_ite, Nat.reduceLeDiff, d128, d16, d8, d4, d1000, d100, d10, if_true, if_false, ite_self, tn0, tn1, tn2, tn3, tn4, tn5, tn6, tn7, tn8, tn9, tn10, tn11, tn12, tn13, tn14, tn15, tn16, tn17, tn18, tn19, up_ne, up_row, fr_ne, fr_eq, Int32.reduceAdd, Int32.reduceMul, Int32.reduceSub, Int32.reduceDiv, Int32.reduceLT, Int32.reduceLE, Int32.reduceToNatClampNeg, i10, i01, ↓reduceIte, if_true, if_false, g1, h1, h3, f1, f2, hbp, hs, c_Tr_isLetter, hl', i02, i03, i04, i05, i06, i07, i12, i13, i14, i15, i16, i17, i20, i21, i23, i24, i25, i26, i27, i30, i31, i32, i34, i35, i36, i37, i40, i41, i42, i43, i45, i46, i47, i50, i51, i52, i53, i54, i56, i57, i60, i61, i62, i63, i64, i65, i67, i70, i71, i72, i73, i74, i75, i76, i10, i01]
        refine c_takeWord (b := b) hg ((low_up (by decide)).mpr hl) hn hp (by rw [up_ne (by decide)]; exact h1) (fun i hi => by rw [up_ne (by decide)]; exact (hb i hi).1) (by rw [up_row, fr_ne (by decide)]; exact h3) (by rw [up_row, fr_eq]) hle fun I1 e1 e2 e3 => ?_
        simp (disch := decide) only [k21_0, k21_1, k21_2, k21_5, k21_9, k21_12, k21_13, k21_16, k21_19, k21_22, k21_23, k21_26, k21_29, k21_30, k21_33, k21_34, k21_36, k21_39, k21_40, k21_41, k21_44, k21_45, k21_46, k21_49, k21_52, k21_53, k21_54, k21_57, k21_60, k21_61, k21_64, k21_65, k21_68, k21_71, k21_74, k21_75, k21_76, k21_79, k21_82, k21_83, k21_86, k21_89, k21_90, k21_93, k21_94, k21_97, k21_100, k21_101, k21_104, k21_107, k21_108, k21_111, k21_114, k21_115, k21_118, k21_119, k21_122, k21_125, k21_126, k21_129, k21_132, k21_133, k21_134, k21_137, k21_138, k21_139, k21_142, k21_143, k21_145, k21_146, k21_149, k21_152, k21_153, k21_156, k21_157, k21_158, k21_161, k21_164, k21_165, k21_168, k21_171, k21_172, k21_175, k21_176, k21_179, k21_181, k21_184, gl100 hg, gl34 hg, gl35 hg, gl36 hg, gl37 hg, gl38 hg, gl39 hg, gl40 hg, gl41 hg, gl42 hg, gl43 hg, gl44 hg, gl46 hg, gl47 hg, gl48 hg, gl49 hg, gl50 hg, gl51 hg, gl52 hg, gl53 hg, gl54 hg, gl55 hg, gl56 hg, gl58 hg, gl60 hg, gl62 hg, gl63 hg, gl64 hg, gl65 hg, gl66 hg, gl68 hg, gl69 hg, gl70 hg, gl71 hg, gl73 hg, gl74 hg, gl75 hg, gl76 hg, gl78 hg, gl79 hg, gl80 hg, gl81 hg, gl82 hg, gl83 hg, gl84 hg, gl85 hg, gl86 hg, gl87 hg, gl89 hg, gl90 hg, gl91 hg, gl93 hg, gl95 hg, gl97 hg, gl99 hg, gr32_0 hg, gr32_1 hg, gr32_10 hg, gr32_11 hg, gr32_3 hg, gr32_4 hg, gr32_5 hg, gr32_6 hg, gr32_7 hg, gr32_8 hg, gr32_9 hg, gr33_0 hg, gr33_1 hg, gr33_2 hg, gr33_3 hg, gr33_4 hg, gr33_5 hg, gr33_6 hg, gr35_0 hg, gr35_1 hg, gr39_0 hg, gr39_1 hg, gr45_0 hg, gr45_1 hg, gr45_2 hg, gr45_3 hg, gr45_4 hg, gr45_5 hg, gr45_6 hg, gr47_0 hg, gr47_1 hg, gr51_0 hg, gr51_1 hg, gr57_0 hg, gr59_0 hg, gr59_1 hg, gr61_0 hg, gr61_1 hg, gr61_2 hg, gr61_3 hg, gr61_4 hg, gr67_0 hg, gr68_0 hg, gr68_1 hg, gr68_2 hg, gr72_0 hg, gr73_0 hg, gr73_1 hg, gr73_2 hg, gr77_0 hg, gr77_1 hg, gr77_4 hg, gr77_5 hg, gr78_0 hg, gr78_1 hg, gr82_0 hg, gr82_1 hg, gr85_0 hg, gr85_1 hg, gr88_0 hg, gr88_1 hg, gr91_0 hg, gr91_1 hg, gr91_2 hg, gr91_3 hg, gr92_0 hg, gr94_0 hg, gr96_0 hg, gr98_0 hg, gt100 hg, gt32 hg, gt33 hg, gt34 hg, gt35 hg, gt36 hg, gt37 hg, gt38 hg, gt39 hg, gt40 hg, gt41 hg, gt42 hg, gt43 hg, gt44 hg, gt45 hg, gt46 hg, gt47 hg, gt48 hg, gt49 hg, gt50 hg, gt51 hg, gt52 hg, gt53 hg, gt54 hg, gt55 hg, gt56 hg, gt57 hg, gt58 hg, gt59 hg, gt60 hg, gt61 hg, gt62 hg, gt63 hg, gt64 hg, gt65 hg, gt66 hg, gt67 hg, gt68 hg, gt69 hg, gt70 hg, gt71 hg, gt72 hg, gt73 hg, gt74 hg, gt75 hg, gt76 hg, gt77 hg, gt78 hg, gt79 hg, gt80 hg, gt81 hg, gt82 hg, gt83 hg, gt84 hg, gt85 hg, gt86 hg, gt87 hg, gt88 hg, gt89 hg, gt90 hg, gt91 hg, gt92 hg, gt93 hg, gt94 hg, gt95 hg, gt96 hg, gt97 hg, gt98 hg, gt99 hg, ab_inv_I, ab_inv_R, ab_inv_L, ab_inv_0, ab_push_some, ab_push_none, ab_E_sw, ab_E_sw0, true_and, and_true, not_false_eq_true, bit_ite, s2, s3, s4, s5, s7, qi_ite2, ab_bit0, ab_bit1, qi_ite, ql_ite, Nat.reduceLeDiff, d128, d16, d8, d4, d1000, d100, d10, if_true, if_false, ite_self, tn0, tn1, tn2, tn3, tn4, tn5, tn6, tn7, tn8, tn9, tn10, tn11, tn12, tn13, tn14, tn15, tn16, tn17, tn18, tn19, up_ne, up_row, fr_ne, fr_eq, Int32.reduceAdd, Int32.reduceMul, Int32.reduceSub, Int32.reduceDiv, Int32.reduceLT, Int32.reduceLE, Int32.reduceToNatClampNeg, i10, i01, ↓reduceIte, if_true, if_false]
        exact hQ I1 (dfr_trans (dfr_up (by decide) (by decide)) e1) (by rw [e2, up_row, fr_ne (by decide)]) e3
      · have hl' := isLe_0 hle
        by_cases hd : isDi (b p) = true
        · have hd' := isDi_1 hd
          have ha : aM b n p = (p, rn b n isDi 200 p, 2, nmf b p (rn b n isDi 200 p - p)) := by unfold aM; rw [hr, if_neg (by omega), if_neg hle, if_pos hd]
          rw [ha] at hQ
          simp (disch := decide) only [k21_0, k21_1, k21_2, k21_5, k21_9, k21_12, k21_13, k21_16, k21_19, k21_22, k21_23, k21_26, k21_29, k21_30, k21_33, k21_34, k21_36, k21_39, k21_40, k21_41, k21_44, k21_45, k21_46, k21_49, k21_52, k21_53, k21_54, k21_57, k21_60, k21_61, k21_64, k21_65, k21_68, k21_71, k21_74, k21_75, k21_76, k21_79, k21_82, k21_83, k21_86, k21_89, k21_90, k21_93, k21_94, k21_97, k21_100, k21_101, k21_104, k21_107, k21_108, k21_111, k21_114, k21_115, k21_118, k21_119, k21_122, k21_125, k21_126, k21_129, k21_132, k21_133, k21_134, k21_137, k21_138, k21_139, k21_142, k21_143, k21_145, k21_146, k21_149, k21_152, k21_153, k21_156, k21_157, k21_158, k21_161, k21_164, k21_165, k21_168, k21_171, k21_172, k21_175, k21_176, k21_179, k21_181, k21_184, gl100 hg, gl34 hg, gl35 hg, gl36 hg, gl37 hg, gl38 hg, gl39 hg, gl40 hg, gl41 hg, gl42 hg, gl43 hg, gl44 hg, gl46 hg, gl47 hg, gl48 hg, gl49 hg, gl50 hg, gl51 hg, gl52 hg, gl53 hg, gl54 hg, gl55 hg, gl56 hg, gl58 hg, gl60 hg, gl62 hg, gl63 hg, gl64 hg, gl65 hg, gl66 hg, gl68 hg, gl69 hg, gl70 hg, gl71 hg, gl73 hg, gl74 hg, gl75 hg, gl76 hg, gl78 hg, gl79 hg, gl80 hg, gl81 hg, gl82 hg, gl83 hg, gl84 hg, gl85 hg, gl86 hg, gl87 hg, gl89 hg, gl90 hg, gl91 hg, gl93 hg, gl95 hg, gl97 hg, gl99 hg, gr32_0 hg, gr32_1 hg, gr32_10 hg, gr32_11 hg, gr32_3 hg, gr32_4 hg, gr32_5 hg, gr32_6 hg, gr32_7 hg, gr32_8 hg, gr32_9 hg, gr33_0 hg, gr33_1 hg, gr33_2 hg, gr33_3 hg, gr33_4 hg, gr33_5 hg, gr33_6 hg, gr35_0 hg, gr35_1 hg, gr39_0 hg, gr39_1 hg, gr45_0 hg, gr45_1 hg, gr45_2 hg, gr45_3 hg, gr45_4 hg, gr45_5 hg, gr45_6 hg, gr47_0 hg, gr47_1 hg, gr51_0 hg, gr51_1 hg, gr57_0 hg, gr59_0 hg, gr59_1 hg, gr61_0 hg, gr61_1 hg, gr61_2 hg, gr61_3 hg, gr61_4 hg, gr67_0 hg, gr68_0 hg, gr68_1 hg, gr68_2 hg, gr72_0 hg, gr73_0 hg, gr73_1 hg, gr73_2 hg, gr77_0 hg, gr77_1 hg, gr77_4 hg, gr77_5 hg, gr78_0 hg, gr78_1 hg, gr82_0 hg, gr82_1 hg, gr85_0 hg, gr85_1 hg, gr88_0 hg, gr88_1 hg, gr91_0 hg, gr91_1 hg, gr91_2 hg, gr91_3 hg, gr92_0 hg, gr94_0 hg, gr96_0 hg, gr98_0 hg, gt100 hg, gt32 hg, gt33 hg, gt34 hg, gt35 hg, gt36 hg, gt37 hg, gt38 hg, gt39 hg, gt40 hg, gt41 hg, gt42 hg, gt43 hg, gt44 hg, gt45 hg, gt46 hg, gt47 hg, gt48 hg, gt49 hg, gt50 hg, gt51 hg, gt52 hg, gt53 hg, gt54 hg, gt55 hg, gt56 hg, gt57 hg, gt58 hg, gt59 hg, gt60 hg, gt61 hg, gt62 hg, gt63 hg, gt64 hg, gt65 hg, gt66 hg, gt67 hg, gt68 hg, gt69 hg, gt70 hg, gt71 hg, gt72 hg, gt73 hg, gt74 hg, gt75 hg, gt76 hg, gt77 hg, gt78 hg, gt79 hg, gt80 hg, gt81 hg, gt82 hg, gt83 hg, gt84 hg, gt85 hg, gt86 hg, gt87 hg, gt88 hg, gt89 hg, gt90 hg, gt91 hg, gt92 hg, gt93 hg, gt94 hg, gt95 hg, gt96 hg, gt97 hg, gt98 hg, gt99 hg, ab_inv_I, ab_inv_R, ab_inv_L, ab_inv_0, ab_push_some, ab_push_none, ab_E_sw, ab_E_sw0, true_and, and_true, not_false_eq_true, bit_ite, s2, s3, s4, s5, s7, qi_ite2, ab_bit0, ab_bit1, qi_ite, ql_ite, Nat.reduceLeDiff, d128, d16, d8, d4, d1000, d100, d10, if_true, if_false, ite_self, tn0, tn1, tn2, tn3, tn4, tn5, tn6, tn7, tn8, tn9, tn10, tn11, tn12, tn13, tn14, tn15, tn16, tn17, tn18, tn19, up_ne, up_row, fr_ne, fr_eq, Int32.reduceAdd, Int32.reduceMul, Int32.reduceSub, Int32.reduceDiv, Int32.reduceLT, Int32.reduceLE, Int32.reduceToNatClampNeg, i10, i01, ↓reduceIte, if_true, if_false, g1, h1, h3, f1, f2, hbp, hs, c_Tr_isLetter, hl', c_Tr_isDigit, hd', i02, i03, i04, i05, i06, i07, i12, i13, i14, i15, i16, i17, i20, i21, i23, i24, i25, i26, i27, i30, i31, i32, i34, i35, i36, i37, i40, i41, i42, i43, i45, i46, i47, i50, i51, i52, i53, i54, i56, i57, i60, i61, i62, i63, i64, i65, i67, i70, i71, i72, i73, i74, i75, i76, i10, i01]
          refine c_takeNumber (b := b) hg hn hp (by rw [up_ne (by decide)]; exact h1) (fun i hi => by rw [up_ne (by decide)]; exact (hb i hi).1) (by rw [up_row, fr_ne (by decide)]; exact h3) (by rw [up_row, fr_eq]) fun I1 e1 e2 e3 => ?_
          simp (disch := decide) only [k21_0, k21_1, k21_2, k21_5, k21_9, k21_12, k21_13, k21_16, k21_19, k21_22, k21_23, k21_26, k21_29, k21_30, k21_33, k21_34, k21_36, k21_39, k21_40, k21_41, k21_44, k21_45, k21_46, k21_49, k21_52, k21_53, k21_54, k21_57, k21_60, k21_61, k21_64, k21_65, k21_68, k21_71, k21_74, k21_75, k21_76, k21_79, k21_82, k21_83, k21_86, k21_89, k21_90, k21_93, k21_94, k21_97, k21_100, k21_101, k21_104, k21_107, k21_108, k21_111, k21_114, k21_115, k21_118, k21_119, k21_122, k21_125, k21_126, k21_129, k21_132, k21_133, k21_134, k21_137, k21_138, k21_139, k21_142, k21_143, k21_145, k21_146, k21_149, k21_152, k21_153, k21_156, k21_157, k21_158, k21_161, k21_164, k21_165, k21_168, k21_171, k21_172, k21_175, k21_176, k21_179, k21_181, k21_184, gl100 hg, gl34 hg, gl35 hg, gl36 hg, gl37 hg, gl38 hg, gl39 hg, gl40 hg, gl41 hg, gl42 hg, gl43 hg, gl44 hg, gl46 hg, gl47 hg, gl48 hg, gl49 hg, gl50 hg, gl51 hg, gl52 hg, gl53 hg, gl54 hg, gl55 hg, gl56 hg, gl58 hg, gl60 hg, gl62 hg, gl63 hg, gl64 hg, gl65 hg, gl66 hg, gl68 hg, gl69 hg, gl70 hg, gl71 hg, gl73 hg, gl74 hg, gl75 hg, gl76 hg, gl78 hg, gl79 hg, gl80 hg, gl81 hg, gl82 hg, gl83 hg, gl84 hg, gl85 hg, gl86 hg, gl87 hg, gl89 hg, gl90 hg, gl91 hg, gl93 hg, gl95 hg, gl97 hg, gl99 hg, gr32_0 hg, gr32_1 hg, gr32_10 hg, gr32_11 hg, gr32_3 hg, gr32_4 hg, gr32_5 hg, gr32_6 hg, gr32_7 hg, gr32_8 hg, gr32_9 hg, gr33_0 hg, gr33_1 hg, gr33_2 hg, gr33_3 hg, gr33_4 hg, gr33_5 hg, gr33_6 hg, gr35_0 hg, gr35_1 hg, gr39_0 hg, gr39_1 hg, gr45_0 hg, gr45_1 hg, gr45_2 hg, gr45_3 hg, gr45_4 hg, gr45_5 hg, gr45_6 hg, gr47_0 hg, gr47_1 hg, gr51_0 hg, gr51_1 hg, gr57_0 hg, gr59_0 hg, gr59_1 hg, gr61_0 hg, gr61_1 hg, gr61_2 hg, gr61_3 hg, gr61_4 hg, gr67_0 hg, gr68_0 hg, gr68_1 hg, gr68_2 hg, gr72_0 hg, gr73_0 hg, gr73_1 hg, gr73_2 hg, gr77_0 hg, gr77_1 hg, gr77_4 hg, gr77_5 hg, gr78_0 hg, gr78_1 hg, gr82_0 hg, gr82_1 hg, gr85_0 hg, gr85_1 hg, gr88_0 hg, gr88_1 hg, gr91_0 hg, gr91_1 hg, gr91_2 hg, gr91_3 hg, gr92_0 hg, gr94_0 hg, gr96_0 hg, gr98_0 hg, gt100 hg, gt32 hg, gt33 hg, gt34 hg, gt35 hg, gt36 hg, gt37 hg, gt38 hg, gt39 hg, gt40 hg, gt41 hg, gt42 hg, gt43 hg, gt44 hg, gt45 hg, gt46 hg, gt47 hg, gt48 hg, gt49 hg, gt50 hg, gt51 hg, gt52 hg, gt53 hg, gt54 hg, gt55 hg, gt56 hg, gt57 hg, gt58 hg, gt59 hg, gt60 hg, gt61 hg, gt62 hg, gt63 hg, gt64 hg, gt65 hg, gt66 hg, gt67 hg, gt68 hg, gt69 hg, gt70 hg, gt71 hg, gt72 hg, gt73 hg, gt74 hg, gt75 hg, gt76 hg, gt77 hg, gt78 hg, gt79 hg, gt80 hg, gt81 hg, gt82 hg, gt83 hg, gt84 hg, gt85 hg, gt86 hg, gt87 hg, gt88 hg, gt89 hg, gt90 hg, gt91 hg, gt92 hg, gt93 hg, gt94 hg, gt95 hg, gt96 hg, gt97 hg, gt98 hg, gt99 hg, ab_inv_I, ab_inv_R, ab_inv_L, ab_inv_0, ab_push_some, ab_push_none, ab_E_sw, ab_E_sw0, true_and, and_true, not_false_eq_true, bit_ite, s2, s3, s4, s5, s7, qi_ite2, ab_bit0, ab_bit1, qi_ite, ql_ite, Nat.reduceLeDiff, d128, d16, d8, d4, d1000, d100, d10, if_true, if_false, ite_self, tn0, tn1, tn2, tn3, tn4, tn5, tn6, tn7, tn8, tn9, tn10, tn11, tn12, tn13, tn14, tn15, tn16, tn17, tn18, tn19, up_ne, up_row, fr_ne, fr_eq, Int32.reduceAdd, Int32.reduceMul, Int32.reduceSub, Int32.reduceDiv, Int32.reduceLT, Int32.reduceLE, Int32.reduceToNatClampNeg, i10, i01, ↓reduceIte, if_true, if_false]
          exact hQ I1 (dfr_trans (dfr_up (by decide) (by decide)) e1) (by rw [e2, up_row, fr_ne (by decide)]) e3
        · have hd' := isDi_0 hd
          have ha : aM b n p = (p, p + 1, 3, if isSg (b p) = true then b p else 0) := by unfold aM; rw [hr, if_neg (by omega), if_neg hle, if_neg hd]
          rw [ha] at hQ
          obtain ⟨w, hw, ew⟩ := rg_nI (n := 255) (hb p (by omega)).2
          have hc := (sg_b ⟨w, by omega⟩).1.1
          simp only [] at hc
          have tt : ab_ty g 3 = 22 := (hl 3 (by decide)).1
          rw [ew] at hbp hs hl' hd' hQ
          simp (disch := decide) only [k21_0, k21_1, k21_2, k21_5, k21_9, k21_12, k21_13, k21_16, k21_19, k21_22, k21_23, k21_26, k21_29, k21_30, k21_33, k21_34, k21_36, k21_39, k21_40, k21_41, k21_44, k21_45, k21_46, k21_49, k21_52, k21_53, k21_54, k21_57, k21_60, k21_61, k21_64, k21_65, k21_68, k21_71, k21_74, k21_75, k21_76, k21_79, k21_82, k21_83, k21_86, k21_89, k21_90, k21_93, k21_94, k21_97, k21_100, k21_101, k21_104, k21_107, k21_108, k21_111, k21_114, k21_115, k21_118, k21_119, k21_122, k21_125, k21_126, k21_129, k21_132, k21_133, k21_134, k21_137, k21_138, k21_139, k21_142, k21_143, k21_145, k21_146, k21_149, k21_152, k21_153, k21_156, k21_157, k21_158, k21_161, k21_164, k21_165, k21_168, k21_171, k21_172, k21_175, k21_176, k21_179, k21_181, k21_184, gl100 hg, gl34 hg, gl35 hg, gl36 hg, gl37 hg, gl38 hg, gl39 hg, gl40 hg, gl41 hg, gl42 hg, gl43 hg, gl44 hg, gl46 hg, gl47 hg, gl48 hg, gl49 hg, gl50 hg, gl51 hg, gl52 hg, gl53 hg, gl54 hg, gl55 hg, gl56 hg, gl58 hg, gl60 hg, gl62 hg, gl63 hg, gl64 hg, gl65 hg, gl66 hg, gl68 hg, gl69 hg, gl70 hg, gl71 hg, gl73 hg, gl74 hg, gl75 hg, gl76 hg, gl78 hg, gl79 hg, gl80 hg, gl81 hg, gl82 hg, gl83 hg, gl84 hg, gl85 hg, gl86 hg, gl87 hg, gl89 hg, gl90 hg, gl91 hg, gl93 hg, gl95 hg, gl97 hg, gl99 hg, gr32_0 hg, gr32_1 hg, gr32_10 hg, gr32_11 hg, gr32_3 hg, gr32_4 hg, gr32_5 hg, gr32_6 hg, gr32_7 hg, gr32_8 hg, gr32_9 hg, gr33_0 hg, gr33_1 hg, gr33_2 hg, gr33_3 hg, gr33_4 hg, gr33_5 hg, gr33_6 hg, gr35_0 hg, gr35_1 hg, gr39_0 hg, gr39_1 hg, gr45_0 hg, gr45_1 hg, gr45_2 hg, gr45_3 hg, gr45_4 hg, gr45_5 hg, gr45_6 hg, gr47_0 hg, gr47_1 hg, gr51_0 hg, gr51_1 hg, gr57_0 hg, gr59_0 hg, gr59_1 hg, gr61_0 hg, gr61_1 hg, gr61_2 hg, gr61_3 hg, gr61_4 hg, gr67_0 hg, gr68_0 hg, gr68_1 hg, gr68_2 hg, gr72_0 hg, gr73_0 hg, gr73_1 hg, gr73_2 hg, gr77_0 hg, gr77_1 hg, gr77_4 hg, gr77_5 hg, gr78_0 hg, gr78_1 hg, gr82_0 hg, gr82_1 hg, gr85_0 hg, gr85_1 hg, gr88_0 hg, gr88_1 hg, gr91_0 hg, gr91_1 hg, gr91_2 hg, gr91_3 hg, gr92_0 hg, gr94_0 hg, gr96_0 hg, gr98_0 hg, gt100 hg, gt32 hg, gt33 hg, gt34 hg, gt35 hg, gt36 hg, gt37 hg, gt38 hg, gt39 hg, gt40 hg, gt41 hg, gt42 hg, gt43 hg, gt44 hg, gt45 hg, gt46 hg, gt47 hg, gt48 hg, gt49 hg, gt50 hg, gt51 hg, gt52 hg, gt53 hg, gt54 hg, gt55 hg, gt56 hg, gt57 hg, gt58 hg, gt59 hg, gt60 hg, gt61 hg, gt62 hg, gt63 hg, gt64 hg, gt65 hg, gt66 hg, gt67 hg, gt68 hg, gt69 hg, gt70 hg, gt71 hg, gt72 hg, gt73 hg, gt74 hg, gt75 hg, gt76 hg, gt77 hg, gt78 hg, gt79 hg, gt80 hg, gt81 hg, gt82 hg, gt83 hg, gt84 hg, gt85 hg, gt86 hg, gt87 hg, gt88 hg, gt89 hg, gt90 hg, gt91 hg, gt92 hg, gt93 hg, gt94 hg, gt95 hg, gt96 hg, gt97 hg, gt98 hg, gt99 hg, ab_inv_I, ab_inv_R, ab_inv_L, ab_inv_0, ab_push_some, ab_push_none, ab_E_sw, ab_E_sw0, true_and, and_true, not_false_eq_true, bit_ite, s2, s3, s4, s5, s7, qi_ite2, ab_bit0, ab_bit1, qi_ite, ql_ite, Nat.reduceLeDiff, d128, d16, d8, d4, d1000, d100, d10, if_true, if_false, ite_self, tn0, tn1, tn2, tn3, tn4, tn5, tn6, tn7, tn8, tn9, tn10, tn11, tn12, tn13, tn14, tn15, tn16, tn17, tn18, tn19, up_ne, up_row, fr_ne, fr_eq, Int32.reduceAdd, Int32.reduceMul, Int32.reduceSub, Int32.reduceDiv, Int32.reduceLT, Int32.reduceLE, Int32.reduceToNatClampNeg, i10, i01, ↓reduceIte, if_true, if_false, g1, h1, h3, f1, f2, hbp, hs, c_Tr_isLetter, hl', c_Tr_isDigit, hd', nIp, hc, tt, i02, i03, i04, i05, i06, i07, i12, i13, i14, i15, i16, i17, i20, i21, i23, i24, i25, i26, i27, i30, i31, i32, i34, i35, i36, i37, i40, i41, i42, i43, i45, i46, i47, i50, i51, i52, i53, i54, i56, i57, i60, i61, i62, i63, i64, i65, i67, i70, i71, i72, i73, i74, i75, i76, i10, i01]
          refine c_indexOf ((low_up (by decide)).mpr ((low_up (by decide)).mpr hl)) (by omega) fun v hv => ?_
          have D1 : ∀ tk, dfr [59] [] I (ab_up (ab_up (ab_up I 59 4 (nI p)) 59 4 (nI (p + 1))) 59 5 tk) := fun tk => dfr_trans (dfr_up (by decide) (by decide)) (dfr_trans (dfr_up (by decide) (by decide)) (dfr_up (by decide) (by decide)))
          by_cases hg2 : isSg (nI w) = true
          · have hv' := hv.1 hg2
            rw [if_pos hg2] at hQ
            have nz : ¬ nI w = 0 := fun h => by rw [h] at hg2; exact absurd hg2 (by decide)
            have n34 : ¬ (nI w = -3 ∨ nI w = -4) := fun h => by
              rcases h with h | h <;> (rw [h] at hg2; exact absurd hg2 (by decide))
            have ht : tkT 3 (nI w) = nI w := by unfold tkT; rw [if_neg (by decide), if_neg (by decide), if_neg (by decide), if_neg nz]
            simp (disch := decide) only [k21_0, k21_1, k21_2, k21_5, k21_9, k21_12, k21_13, k21_16, k21_19, k21_22, k21_23, k21_26, k21_29, k21_30, k21_33, k21_34, k21_36, k21_39, k21_40, k21_41, k21_44, k21_45, k21_46, k21_49, k21_52, k21_53, k21_54, k21_57, k21_60, k21_61, k21_64, k21_65, k21_68, k21_71, k21_74, k21_75, k21_76, k21_79, k21_82, k21_83, k21_86, k21_89, k21_90, k21_93, k21_94, k21_97, k21_100, k21_101, k21_104, k21_107, k21_108, k21_111, k21_114, k21_115, k21_118, k21_119, k21_122, k21_125, k21_126, k21_129, k21_132, k21_133, k21_134, k21_137, k21_138, k21_139, k21_142, k21_143, k21_145, k21_146, k21_149, k21_152, k21_153, k21_156, k21_157, k21_158, k21_161, k21_164, k21_165, k21_168, k21_171, k21_172, k21_175, k21_176, k21_179, k21_181, k21_184, gl100 hg, gl34 hg, gl35 hg, gl36 hg, gl37 hg, gl38 hg, gl39 hg, gl40 hg, gl41 hg, gl42 hg, gl43 hg, gl44 hg, gl46 hg, gl47 hg, gl48 hg, gl49 hg, gl50 hg, gl51 hg, gl52 hg, gl53 hg, gl54 hg, gl55 hg, gl56 hg, gl58 hg, gl60 hg, gl62 hg, gl63 hg, gl64 hg, gl65 hg, gl66 hg, gl68 hg, gl69 hg, gl70 hg, gl71 hg, gl73 hg, gl74 hg, gl75 hg, gl76 hg, gl78 hg, gl79 hg, gl80 hg, gl81 hg, gl82 hg, gl83 hg, gl84 hg, gl85 hg, gl86 hg, gl87 hg, gl89 hg, gl90 hg, gl91 hg, gl93 hg, gl95 hg, gl97 hg, gl99 hg, gr32_0 hg, gr32_1 hg, gr32_10 hg, gr32_11 hg, gr32_3 hg, gr32_4 hg, gr32_5 hg, gr32_6 hg, gr32_7 hg, gr32_8 hg, gr32_9 hg, gr33_0 hg, gr33_1 hg, gr33_2 hg, gr33_3 hg, gr33_4 hg, gr33_5 hg, gr33_6 hg, gr35_0 hg, gr35_1 hg, gr39_0 hg, gr39_1 hg, gr45_0 hg, gr45_1 hg, gr45_2 hg, gr45_3 hg, gr45_4 hg, gr45_5 hg, gr45_6 hg, gr47_0 hg, gr47_1 hg, gr51_0 hg, gr51_1 hg, gr57_0 hg, gr59_0 hg, gr59_1 hg, gr61_0 hg, gr61_1 hg, gr61_2 hg, gr61_3 hg, gr61_4 hg, gr67_0 hg, gr68_0 hg, gr68_1 hg, gr68_2 hg, gr72_0 hg, gr73_0 hg, gr73_1 hg, gr73_2 hg, gr77_0 hg, gr77_1 hg, gr77_4 hg, gr77_5 hg, gr78_0 hg, gr78_1 hg, gr82_0 hg, gr82_1 hg, gr85_0 hg, gr85_1 hg, gr88_0 hg, gr88_1 hg, gr91_0 hg, gr91_1 hg, gr91_2 hg, gr91_3 hg, gr92_0 hg, gr94_0 hg, gr96_0 hg, gr98_0 hg, gt100 hg, gt32 hg, gt33 hg, gt34 hg, gt35 hg, gt36 hg, gt37 hg, gt38 hg, gt39 hg, gt40 hg, gt41 hg, gt42 hg, gt43 hg, gt44 hg, gt45 hg, gt46 hg, gt47 hg, gt48 hg, gt49 hg, gt50 hg, gt51 hg, gt52 hg, gt53 hg, gt54 hg, gt55 hg, gt56 hg, gt57 hg, gt58 hg, gt59 hg, gt60 hg, gt61 hg, gt62 hg, gt63 hg, gt64 hg, gt65 hg, gt66 hg, gt67 hg, gt68 hg, gt69 hg, gt70 hg, gt71 hg, gt72 hg, gt73 hg, gt74 hg, gt75 hg, gt76 hg, gt77 hg, gt78 hg, gt79 hg, gt80 hg, gt81 hg, gt82 hg, gt83 hg, gt84 hg, gt85 hg, gt86 hg, gt87 hg, gt88 hg, gt89 hg, gt90 hg, gt91 hg, gt92 hg, gt93 hg, gt94 hg, gt95 hg, gt96 hg, gt97 hg, gt98 hg, gt99 hg, ab_inv_I, ab_inv_R, ab_inv_L, ab_inv_0, ab_push_some, ab_push_none, ab_E_sw, ab_E_sw0, true_and, and_true, not_false_eq_true, bit_ite, s2, s3, s4, s5, s7, qi_ite2, ab_bit0, ab_bit1, qi_ite, ql_ite, Nat.reduceLeDiff, d128, d16, d8, d4, d1000, d100, d10, if_true, if_false, ite_self, tn0, tn1, tn2, tn3, tn4, tn5, tn6, tn7, tn8, tn9, tn10, tn11, tn12, tn13, tn14, tn15, tn16, tn17, tn18, tn19, up_ne, up_row, fr_ne, fr_eq, Int32.reduceAdd, Int32.reduceMul, Int32.reduceSub, Int32.reduceDiv, Int32.reduceLT, Int32.reduceLE, Int32.reduceToNatClampNeg, i10, i01, ↓reduceIte, if_true, if_false, hv', h3, f1, f2, hbp]
            refine hQ _ (D1 _) ?_ ⟨⟨?_, ?_⟩, ?_, fun h => ?_⟩
            · simp (disch := decide) only [up_row, fr_ne]
            · simp (disch := decide) only [up_row, fr_ne]; exact h3
            · simp (disch := decide) only [up_row, fr_ne, fr_eq]
            · simp (disch := decide) only [up_row, fr_eq]; exact ht.symm
            · simp only [ht] at h; exact absurd h n34
          · have hv' := hv.2 hg2
            rw [if_neg hg2] at hQ
            have ht : tkT 3 0 = -2 := by decide
            simp (disch := decide) only [k21_0, k21_1, k21_2, k21_5, k21_9, k21_12, k21_13, k21_16, k21_19, k21_22, k21_23, k21_26, k21_29, k21_30, k21_33, k21_34, k21_36, k21_39, k21_40, k21_41, k21_44, k21_45, k21_46, k21_49, k21_52, k21_53, k21_54, k21_57, k21_60, k21_61, k21_64, k21_65, k21_68, k21_71, k21_74, k21_75, k21_76, k21_79, k21_82, k21_83, k21_86, k21_89, k21_90, k21_93, k21_94, k21_97, k21_100, k21_101, k21_104, k21_107, k21_108, k21_111, k21_114, k21_115, k21_118, k21_119, k21_122, k21_125, k21_126, k21_129, k21_132, k21_133, k21_134, k21_137, k21_138, k21_139, k21_142, k21_143, k21_145, k21_146, k21_149, k21_152, k21_153, k21_156, k21_157, k21_158, k21_161, k21_164, k21_165, k21_168, k21_171, k21_172, k21_175, k21_176, k21_179, k21_181, k21_184, gl100 hg, gl34 hg, gl35 hg, gl36 hg, gl37 hg, gl38 hg, gl39 hg, gl40 hg, gl41 hg, gl42 hg, gl43 hg, gl44 hg, gl46 hg, gl47 hg, gl48 hg, gl49 hg, gl50 hg, gl51 hg, gl52 hg, gl53 hg, gl54 hg, gl55 hg, gl56 hg, gl58 hg, gl60 hg, gl62 hg, gl63 hg, gl64 hg, gl65 hg, gl66 hg, gl68 hg, gl69 hg, gl70 hg, gl71 hg, gl73 hg, gl74 hg, gl75 hg, gl76 hg, gl78 hg, gl79 hg, gl80 hg, gl81 hg, gl82 hg, gl83 hg, gl84 hg, gl85 hg, gl86 hg, gl87 hg, gl89 hg, gl90 hg, gl91 hg, gl93 hg, gl95 hg, gl97 hg, gl99 hg, gr32_0 hg, gr32_1 hg, gr32_10 hg, gr32_11 hg, gr32_3 hg, gr32_4 hg, gr32_5 hg, gr32_6 hg, gr32_7 hg, gr32_8 hg, gr32_9 hg, gr33_0 hg, gr33_1 hg, gr33_2 hg, gr33_3 hg, gr33_4 hg, gr33_5 hg, gr33_6 hg, gr35_0 hg, gr35_1 hg, gr39_0 hg, gr39_1 hg, gr45_0 hg, gr45_1 hg, gr45_2 hg, gr45_3 hg, gr45_4 hg, gr45_5 hg, gr45_6 hg, gr47_0 hg, gr47_1 hg, gr51_0 hg, gr51_1 hg, gr57_0 hg, gr59_0 hg, gr59_1 hg, gr61_0 hg, gr61_1 hg, gr61_2 hg, gr61_3 hg, gr61_4 hg, gr67_0 hg, gr68_0 hg, gr68_1 hg, gr68_2 hg, gr72_0 hg, gr73_0 hg, gr73_1 hg, gr73_2 hg, gr77_0 hg, gr77_1 hg, gr77_4 hg, gr77_5 hg, gr78_0 hg, gr78_1 hg, gr82_0 hg, gr82_1 hg, gr85_0 hg, gr85_1 hg, gr88_0 hg, gr88_1 hg, gr91_0 hg, gr91_1 hg, gr91_2 hg, gr91_3 hg, gr92_0 hg, gr94_0 hg, gr96_0 hg, gr98_0 hg, gt100 hg, gt32 hg, gt33 hg, gt34 hg, gt35 hg, gt36 hg, gt37 hg, gt38 hg, gt39 hg, gt40 hg, gt41 hg, gt42 hg, gt43 hg, gt44 hg, gt45 hg, gt46 hg, gt47 hg, gt48 hg, gt49 hg, gt50 hg, gt51 hg, gt52 hg, gt53 hg, gt54 hg, gt55 hg, gt56 hg, gt57 hg, gt58 hg, gt59 hg, gt60 hg, gt61 hg, gt62 hg, gt63 hg, gt64 hg, gt65 hg, gt66 hg, gt67 hg, gt68 hg, gt69 hg, gt70 hg, gt71 hg, gt72 hg, gt73 hg, gt74 hg, gt75 hg, gt76 hg, gt77 hg, gt78 hg, gt79 hg, gt80 hg, gt81 hg, gt82 hg, gt83 hg, gt84 hg, gt85 hg, gt86 hg, gt87 hg, gt88 hg, gt89 hg, gt90 hg, gt91 hg, gt92 hg, gt93 hg, gt94 hg, gt95 hg, gt96 hg, gt97 hg, gt98 hg, gt99 hg, ab_inv_I, ab_inv_R, ab_inv_L, ab_inv_0, ab_push_some, ab_push_none, ab_E_sw, ab_E_sw0, true_and, and_true, not_false_eq_true, bit_ite, s2, s3, s4, s5, s7, qi_ite2, ab_bit0, ab_bit1, qi_ite, ql_ite, Nat.reduceLeDiff, d128, d16, d8, d4, d1000, d100, d10, if_true, if_false, ite_self, tn0, tn1, tn2, tn3, tn4, tn5, tn6, tn7, tn8, tn9, tn10, tn11, tn12, tn13, tn14, tn15, tn16, tn17, tn18, tn19, up_ne, up_row, fr_ne, fr_eq, Int32.reduceAdd, Int32.reduceMul, Int32.reduceSub, Int32.reduceDiv, Int32.reduceLT, Int32.reduceLE, Int32.reduceToNatClampNeg, i10, i01, ↓reduceIte, if_true, if_false, hv', h3, f1, f2, hbp]
            refine hQ _ (D1 _) ?_ ⟨⟨?_, ?_⟩, ?_, fun h => ?_⟩
            · simp (disch := decide) only [up_row, fr_ne]
            · simp (disch := decide) only [up_row, fr_ne]; exact h3
            · simp (disch := decide) only [up_row, fr_ne, fr_eq]
            · simp (disch := decide) only [up_row, fr_eq]; exact ht.symm
            · simp only [ht] at h; exact absurd h (by decide)
set_option maxRecDepth 20000 in
theorem c_Tr_advance {p : Nat} (hg : gx g) (hl : low SL xs g I) (hn : n ≤ 120) (hp : p ≤ n) (h1 : I 57 1 = nI n) (hb : ∀ i, i < 120 → I 58 i = b i ∧ rg (b i) 0 255) (h4 : I 59 4 = nI p) (hQ : ∀ I', dfr [59] [] I I' → I' 59 2 = I 59 2 → CT I' (aM b n p) → Q none g I' J) : ab_run (d + 8) 21 [vR (some 59)] g I J Q := by
  rw [e21]
  simp (disch := decide) only [k21_0, k21_1, k21_2, k21_5, k21_9, k21_12, k21_13, k21_16, k21_19, k21_22, k21_23, k21_26, k21_29, k21_30, k21_33, k21_34, k21_36, k21_39, k21_40, k21_41, k21_44, k21_45, k21_46, k21_49, k21_52, k21_53, k21_54, k21_57, k21_60, k21_61, k21_64, k21_65, k21_68, k21_71, k21_74, k21_75, k21_76, k21_79, k21_82, k21_83, k21_86, k21_89, k21_90, k21_93, k21_94, k21_97, k21_100, k21_101, k21_104, k21_107, k21_108, k21_111, k21_114, k21_115, k21_118, k21_119, k21_122, k21_125, k21_126, k21_129, k21_132, k21_133, k21_134, k21_137, k21_138, k21_139, k21_142, k21_143, k21_145, k21_146, k21_149, k21_152, k21_153, k21_156, k21_157, k21_158, k21_161, k21_164, k21_165, k21_168, k21_171, k21_172, k21_175, k21_176, k21_179, k21_181, k21_184, gl100 hg, gl34 hg, gl35 hg, gl36 hg, gl37 hg, gl38 hg, gl39 hg, gl40 hg, gl41 hg, gl42 hg, gl43 hg, gl44 hg, gl46 hg, gl47 hg, gl48 hg, gl49 hg, gl50 hg, gl51 hg, gl52 hg, gl53 hg, gl54 hg, gl55 hg, gl56 hg, gl58 hg, gl60 hg, gl62 hg, gl63 hg, gl64 hg, gl65 hg, gl66 hg, gl68 hg, gl69 hg, gl70 hg, gl71 hg, gl73 hg, gl74 hg, gl75 hg, gl76 hg, gl78 hg, gl79 hg, gl80 hg, gl81 hg, gl82 hg, gl83 hg, gl84 hg, gl85 hg, gl86 hg, gl87 hg, gl89 hg, gl90 hg, gl91 hg, gl93 hg, gl95 hg, gl97 hg, gl99 hg, gr32_0 hg, gr32_1 hg, gr32_10 hg, gr32_11 hg, gr32_3 hg, gr32_4 hg, gr32_5 hg, gr32_6 hg, gr32_7 hg, gr32_8 hg, gr32_9 hg, gr33_0 hg, gr33_1 hg, gr33_2 hg, gr33_3 hg, gr33_4 hg, gr33_5 hg, gr33_6 hg, gr35_0 hg, gr35_1 hg, gr39_0 hg, gr39_1 hg, gr45_0 hg, gr45_1 hg, gr45_2 hg, gr45_3 hg, gr45_4 hg, gr45_5 hg, gr45_6 hg, gr47_0 hg, gr47_1 hg, gr51_0 hg, gr51_1 hg, gr57_0 hg, gr59_0 hg, gr59_1 hg, gr61_0 hg, gr61_1 hg, gr61_2 hg, gr61_3 hg, gr61_4 hg, gr67_0 hg, gr68_0 hg, gr68_1 hg, gr68_2 hg, gr72_0 hg, gr73_0 hg, gr73_1 hg, gr73_2 hg, gr77_0 hg, gr77_1 hg, gr77_4 hg, gr77_5 hg, gr78_0 hg, gr78_1 hg, gr82_0 hg, gr82_1 hg, gr85_0 hg, gr85_1 hg, gr88_0 hg, gr88_1 hg, gr91_0 hg, gr91_1 hg, gr91_2 hg, gr91_3 hg, gr92_0 hg, gr94_0 hg, gr96_0 hg, gr98_0 hg, gt100 hg, gt32 hg, gt33 hg, gt34 hg, gt35 hg, gt36 hg, gt37 hg, gt38 hg, gt39 hg, gt40 hg, gt41 hg, gt42 hg, gt43 hg, gt44 hg, gt45 hg, gt46 hg, gt47 hg, gt48 hg, gt49 hg, gt50 hg, gt51 hg, gt52 hg, gt53 hg, gt54 hg, gt55 hg, gt56 hg, gt57 hg, gt58 hg, gt59 hg, gt60 hg, gt61 hg, gt62 hg, gt63 hg, gt64 hg, gt65 hg, gt66 hg, gt67 hg, gt68 hg, gt69 hg, gt70 hg, gt71 hg, gt72 hg, gt73 hg, gt74 hg, gt75 hg, gt76 hg, gt77 hg, gt78 hg, gt79 hg, gt80 hg, gt81 hg, gt82 hg, gt83 hg, gt84 hg, gt85 hg, gt86 hg, gt87 hg, gt88 hg, gt89 hg, gt90 hg, gt91 hg, gt92 hg, gt93 hg, gt94 hg, gt95 hg, gt96 hg, gt97 hg, gt98 hg, gt99 hg, ab_inv_I, ab_inv_R, ab_inv_L, ab_inv_0, ab_push_some, ab_push_none, ab_E_sw, ab_E_sw0, true_and, and_true, not_false_eq_true, bit_ite, s2, s3, s4, s5, s7, qi_ite2, ab_bit0, ab_bit1, qi_ite, ql_ite, Nat.reduceLeDiff, d128, d16, d8, d4, d1000, d100, d10, if_true, if_false, ite_self, tn0, tn1, tn2, tn3, tn4, tn5, tn6, tn7, tn8, tn9, tn10, tn11, tn12, tn13, tn14, tn15, tn16, tn17, tn18, tn19, up_ne, up_row, fr_ne, fr_eq, Int32.reduceAdd, Int32.reduceMul, Int32.reduceSub, Int32.reduceDiv, Int32.reduceLT, Int32.reduceLE, Int32.reduceToNatClampNeg, i10, i01, ↓reduceIte, if_true, if_false, h4]
  refine lp_adv hg hl hn (n - p) p _ (by omega) ((low_up (by decide)).mpr hl) (by rw [up_ne (by decide)]; exact h1) (fun i hi => by rw [up_ne (by decide)]; exact hb i hi) (by rw [up_row, fr_eq]) fun I' e1 e2 e3 => hQ I' (dfr_trans (dfr_up (by decide) (by decide)) e1) ?_ e3
  rw [e2, up_row, fr_ne (by decide)]
end P60
