/-! ===== rows of doings ===== -/
/-- the doings that there are, in their order -/
def tpq (a b c e q : Nat) : Bool := decide (q / 128 < a) && (decide (q / 16 % 8 < b) && (decide (q / 4 % 4 < c) && decide (q % 4 < e)))
def tl (a b c e n : Nat) : List Nat := (List.range n).filter (tpq a b c e)
theorem tl_succ {a b c e n : Nat} : tl a b c e (n + 1) = if tpq a b c e n = true then tl a b c e n ++ [n] else tl a b c e n := by
  unfold tl
  rw [List.range_succ, List.filter_append]
  by_cases h : tpq a b c e n = true
  · rw [if_pos h]; simp [h]
  · rw [if_neg h]; simp [h]
theorem tl_mem {a b c e n q : Nat} : q ∈ tl a b c e n ↔ q < n ∧ tpq a b c e q = true := by unfold tl; simp
theorem tpq_iff {a b c e q : Nat} : tpq a b c e q = true ↔ q / 128 < a ∧ q / 16 % 8 < b ∧ q / 4 % 4 < c ∧ q % 4 < e := by unfold tpq; simp
theorem tl_len {a b c e n : Nat} : (tl a b c e n).length ≤ n := by unfold tl; exact Nat.le_trans (List.length_filter_le _ _) (by simp)
theorem tl_0 {a b c e : Nat} (h1 : 0 < a) (h2 : 0 < b) (h3 : 0 < c) (h4 : 0 < e) : 0 ∈ tl a b c e 1024 := tl_mem.mpr ⟨by decide, tpq_iff.mpr ⟨by omega, by omega, by omega, by omega⟩⟩
/-- the first of a row at which a number is least -/
def fsq (f : Nat → Int) (o : Option Nat) (q : Nat) : Option Nat := match o with | none => some q | some b => if f q < f b then some q else some b
def fmq (f : Nat → Int) (l : List Nat) : Option Nat := l.foldl (fsq f) none
theorem fmq_app {f : Nat → Int} {l : List Nat} {q : Nat} : fmq f (l ++ [q]) = fsq f (fmq f l) q := by unfold fmq; rw [List.foldl_append]; rfl
theorem rev_ind {P : List Nat → Prop} (l : List Nat) (h0 : P []) (h1 : ∀ l q, P l → P (l ++ [q])) : P l := by
  have k : ∀ n, ∀ l : List Nat, l.length = n → P l := by
    intro n
    induction n with
    | zero => intro l hl; rw [List.eq_nil_of_length_eq_zero hl]; exact h0
    | succ n ih =>
      intro l hl
      have hne : l ≠ [] := fun e => by rw [e] at hl; simp at hl
      rw [← List.dropLast_concat_getLast hne]
      exact h1 _ _ (ih _ (by simp [hl]))
  exact k _ l rfl
theorem fmq_none {f : Nat → Int} (l : List Nat) : fmq f l = none → l = [] := by
  refine rev_ind (P := fun l => fmq f l = none → l = []) l (fun _ => rfl) fun l q _ h => ?_
  rw [fmq_app] at h
  unfold fsq at h
  split at h
  · simp at h
  · split at h <;> simp at h
theorem fmq_some {f : Nat → Int} (l : List Nat) : ∀ b, fmq f l = some b → b ∈ l ∧ ∀ p, p ∈ l → f b ≤ f p := by
  refine rev_ind (P := fun l => ∀ b, fmq f l = some b → b ∈ l ∧ ∀ p, p ∈ l → f b ≤ f p) l (fun b h => by simp [fmq] at h) fun l q ih b h => ?_
  rw [fmq_app] at h
  cases e : fmq f l with
  | none =>
    rw [e] at h
    have := fmq_none l e
    subst this
    simp only [fsq, Option.some.injEq] at h
    subst h
    exact ⟨by simp, fun p hp => by simp at hp; subst hp; exact Int.le_refl _⟩
  | some b0 =>
    rw [e] at h
    obtain ⟨i1, i2⟩ := ih b0 e
    simp only [fsq] at h
    split at h
    · rename_i hlt
      simp only [Option.some.injEq] at h
      subst h
      refine ⟨by simp, fun p hp => ?_⟩
      rcases List.mem_append.mp hp with hp | hp
      · have := i2 p hp; omega
      · simp at hp; subst hp; exact Int.le_refl _
    · rename_i hlt
      simp only [Option.some.injEq] at h
      subst h
      refine ⟨List.mem_append.mpr (Or.inl i1), fun p hp => ?_⟩
      rcases List.mem_append.mp hp with hp | hp
      · exact i2 p hp
      · simp at hp; subst hp; omega
theorem fmq_ex {f : Nat → Int} {l : List Nat} {q : Nat} (h : q ∈ l) : ∃ b, fmq f l = some b := by
  cases e : fmq f l with
  | none => rw [fmq_none l e] at h; simp at h
  | some b => exact ⟨b, rfl⟩
/-- the greatest of a row -/
def msq (f : Nat → Int) (o : Option Int) (q : Nat) : Option Int := match o with | none => some (f q) | some m => some (if m < f q then f q else m)
def mx (f : Nat → Int) (l : List Nat) : Option Int := l.foldl (msq f) none
theorem mx_app {f : Nat → Int} {l : List Nat} {q : Nat} : mx f (l ++ [q]) = msq f (mx f l) q := by unfold mx; rw [List.foldl_append]; rfl
theorem mx_in {f : Nat → Int} {a b : Int} (l : List Nat) : (∀ q, q ∈ l → a ≤ f q ∧ f q ≤ b) → ∀ m, mx f l = some m → a ≤ m ∧ m ≤ b := by
  refine rev_ind (P := fun l => (∀ q, q ∈ l → a ≤ f q ∧ f q ≤ b) → ∀ m, mx f l = some m → a ≤ m ∧ m ≤ b) l (fun _ m h => by simp [mx] at h) fun l q ih h m hm => ?_
  rw [mx_app] at hm
  have hq := h q (by simp)
  cases e : mx f l with
  | none => rw [e] at hm; simp only [msq, Option.some.injEq] at hm; subst hm; exact hq
  | some k =>
    have := ih (fun p hp => h p (List.mem_append.mpr (Or.inl hp))) k e
    rw [e] at hm
    simp only [msq, Option.some.injEq] at hm
    split at hm <;> omega
theorem mx_none {f : Nat → Int} (l : List Nat) : mx f l = none ↔ l = [] := by
  refine rev_ind (P := fun l => mx f l = none ↔ l = []) l ⟨fun _ => rfl, fun _ => rfl⟩ fun l q ih => ?_
  rw [mx_app]
  cases e : mx f l <;> simp [msq]
theorem mx_sub {f : Nat → Int} {c : Int} (l : List Nat) : mx (fun q => f q - c) l = (mx f l).map (fun m => m - c) := by
  refine rev_ind (P := fun l => mx (fun q => f q - c) l = (mx f l).map (fun m => m - c)) l rfl fun l q ih => ?_
  rw [mx_app, mx_app, ih]
  cases e : mx f l with
  | none => rfl
  | some k =>
    simp only [msq, Option.map_some, Option.some.injEq]
    split <;> split <;> omega
/-- CARE and GOING of one, as the class numbers them -/
def onq (w q : Nat) : Nat := if w = 0 then q / 128 * 4 + q / 4 % 4 else q / 16 % 8 * 4 + q % 4
/-- one's own doings changed -/
def wo (w q c g : Nat) : Nat := if w = 0 then 128 * c + 16 * (q / 16 % 8) + 4 * g + q % 4 else 128 * (q / 128) + 16 * c + 4 * (q / 4 % 4) + g
/-- all own doings of one: n cares done, then m goings of the next -/
def ol (w q m n : Nat) : List Nat := (List.range n).flatMap (fun c => (List.range m).map (fun g => wo w q c g))
theorem ol_succ {w q m n : Nat} : ol w q m (n + 1) = ol w q m n ++ (List.range m).map (fun g => wo w q n g) := by
  unfold ol; rw [List.range_succ, List.flatMap_append]; simp
theorem ol_mem {w q m n p : Nat} : p ∈ ol w q m n ↔ ∃ c, c < n ∧ ∃ g, g < m ∧ wo w q c g = p := by unfold ol; simp
theorem ol0_iff {a b c e q p : Nat} (ha : a ≤ 8) (hc : c ≤ 4) (hq : q ∈ tl a b c e 1024) : p ∈ ol 0 q c a ↔ p ∈ tl a b c e 1024 ∧ onq 1 p = onq 1 q := by
  rw [tl_mem, tpq_iff] at hq
  rw [ol_mem, tl_mem, tpq_iff]
  unfold wo onq
  simp only [if_true, Nat.one_ne_zero, if_false]
  constructor
  · rintro ⟨c', h1, g', h2, rfl⟩
    refine ⟨⟨?_, ?_, ?_, ?_, ?_⟩, ?_⟩ <;> omega
  · rintro ⟨⟨h1, h2, h3, h4, h5⟩, h6⟩
    exact ⟨p / 128, h2, p / 4 % 4, h4, by omega⟩
theorem ol1_iff {a b c e q p : Nat} (hb : b ≤ 8) (he : e ≤ 4) (hq : q ∈ tl a b c e 1024) : p ∈ ol 1 q e b ↔ p ∈ tl a b c e 1024 ∧ onq 0 p = onq 0 q := by
  rw [tl_mem, tpq_iff] at hq
  rw [ol_mem, tl_mem, tpq_iff]
  unfold wo onq
  simp only [if_true, Nat.one_ne_zero, if_false]
  constructor
  · rintro ⟨c', h1, g', h2, rfl⟩
    refine ⟨⟨?_, ?_, ?_, ?_, ?_⟩, ?_⟩ <;> omega
  · rintro ⟨⟨h1, h2, h3, h4, h5⟩, h6⟩
    exact ⟨p / 16 % 8, h3, p % 4, h5, by omega⟩
/-- neither could do better alone -/
def isR (f0 f1 : Nat → Int) (T : List Nat) (q : Nat) : Bool := T.all (fun p => decide (onq 1 p = onq 1 q → f0 q ≤ f0 p)) && T.all (fun p => decide (onq 0 p = onq 0 q → f1 q ≤ f1 p))
theorem isR_iff {f0 f1 : Nat → Int} {T : List Nat} {q : Nat} : isR f0 f1 T q = true ↔ (∀ p, p ∈ T → onq 1 p = onq 1 q → f0 q ≤ f0 p) ∧ (∀ p, p ∈ T → onq 0 p = onq 0 q → f1 q ≤ f1 p) := by
  unfold isR; simp only [Bool.and_eq_true, List.all_eq_true, decide_eq_true_eq]
/-- the least of a row -/
def nsq (f : Nat → Int) (o : Option Int) (q : Nat) : Option Int := match o with | none => some (f q) | some m => some (if f q < m then f q else m)
def mn (f : Nat → Int) (l : List Nat) : Option Int := l.foldl (nsq f) none
theorem mn_app {f : Nat → Int} {l : List Nat} {q : Nat} : mn f (l ++ [q]) = nsq f (mn f l) q := by unfold mn; rw [List.foldl_append]; rfl
theorem mn_none {f : Nat → Int} (l : List Nat) : mn f l = none → l = [] := by
  refine rev_ind (P := fun l => mn f l = none → l = []) l (fun _ => rfl) fun l q _ h => ?_
  rw [mn_app] at h
  unfold nsq at h
  split at h <;> simp at h
theorem mn_some {f : Nat → Int} (l : List Nat) : ∀ m, mn f l = some m → (∃ b, b ∈ l ∧ f b = m) ∧ ∀ p, p ∈ l → m ≤ f p := by
  refine rev_ind (P := fun l => ∀ m, mn f l = some m → (∃ b, b ∈ l ∧ f b = m) ∧ ∀ p, p ∈ l → m ≤ f p) l (fun b h => by simp [mn] at h) fun l q ih m h => ?_
  rw [mn_app] at h
  cases e : mn f l with
  | none =>
    rw [e] at h
    have := mn_none l e
    subst this
    simp only [nsq, Option.some.injEq] at h
    subst h
    exact ⟨⟨q, by simp, rfl⟩, fun p hp => by simp at hp; subst hp; exact Int.le_refl _⟩
  | some b0 =>
    rw [e] at h
    obtain ⟨⟨b, i0, i1⟩, i2⟩ := ih b0 e
    simp only [nsq, Option.some.injEq] at h
    split at h
    · subst h
      refine ⟨⟨q, by simp, rfl⟩, fun p hp => ?_⟩
      rcases List.mem_append.mp hp with hp | hp
      · have := i2 p hp; omega
      · simp at hp; subst hp; exact Int.le_refl _
    · subst h
      refine ⟨⟨b, List.mem_append.mpr (Or.inl i0), i1⟩, fun p hp => ?_⟩
      rcases List.mem_append.mp hp with hp | hp
      · exact i2 p hp
      · simp at hp; subst hp; omega
/-- the least by what the other does -/
def lsq (f : Nat → Int) (k o : Nat) (l : List Nat) : Option Int := mn f (l.filter (fun p => decide (onq k p = o)))
theorem lsq_app {f : Nat → Int} {k o q : Nat} {l : List Nat} : lsq f k o (l ++ [q]) = if onq k q = o then nsq f (lsq f k o l) q else lsq f k o l := by
  unfold lsq
  rw [List.filter_append]
  by_cases h : onq k q = o
  · rw [if_pos h]; simp only [h, List.filter_cons, decide_true, List.filter_nil, if_true]; rw [mn_app]
  · rw [if_neg h]; simp [h]
theorem lsq_eq {f : Nat → Int} {k q : Nat} {l : List Nat} (h : q ∈ l) : ∃ m, lsq f k (onq k q) l = some m ∧ (∃ b, b ∈ l ∧ f b = m) ∧ (f q = m ↔ ∀ p, p ∈ l → onq k p = onq k q → f q ≤ f p) := by
  have hm : q ∈ l.filter (fun p => decide (onq k p = onq k q)) := by simp [h]
  cases e : lsq f k (onq k q) l with
  | none => unfold lsq at e; rw [mn_none _ e] at hm; simp at hm
  | some m =>
    obtain ⟨⟨b, i0, i1⟩, i2⟩ := mn_some _ m e
    have i0' := List.mem_filter.mp i0
    refine ⟨m, rfl, ⟨b, i0'.1, i1⟩, fun h0 p hp ho => ?_, fun h0 => ?_⟩
    · rw [h0]; exact i2 p (by simp [hp, ho])
    · have h1 := i2 q hm
      have h2 := h0 b i0'.1 (by simpa using i0'.2)
      omega
theorem cbb0 {a b c e q z : Nat} {f : Nat → Int} (ha : a ≤ 8) (hc : c ≤ 4) (hq : q ∈ tl a b c e 1024) (hz : fmq f (ol 0 q c a) = some z) : ¬ f z < f q ↔ ∀ p, p ∈ tl a b c e 1024 → onq 1 p = onq 1 q → f q ≤ f p := by
  obtain ⟨h1, h2⟩ := fmq_some _ z hz
  constructor
  · intro h p hp ho
    have := h2 p ((ol0_iff ha hc hq).mpr ⟨hp, ho⟩)
    omega
  · intro h
    obtain ⟨h3, h4⟩ := (ol0_iff ha hc hq).mp h1
    have := h z h3 h4
    omega
theorem cbb1 {a b c e q z : Nat} {f : Nat → Int} (hb : b ≤ 8) (he : e ≤ 4) (hq : q ∈ tl a b c e 1024) (hz : fmq f (ol 1 q e b) = some z) : ¬ f z < f q ↔ ∀ p, p ∈ tl a b c e 1024 → onq 0 p = onq 0 q → f q ≤ f p := by
  obtain ⟨h1, h2⟩ := fmq_some _ z hz
  constructor
  · intro h p hp ho
    have := h2 p ((ol1_iff hb he hq).mpr ⟨hp, ho⟩)
    omega
  · intro h
    obtain ⟨h3, h4⟩ := (ol1_iff hb he hq).mp h1
    have := h z h3 h4
    omega
theorem ol0_ex {a b c e q : Nat} {f : Nat → Int} (ha : a ≤ 8) (hc : c ≤ 4) (hq : q ∈ tl a b c e 1024) : ∃ z, fmq f (ol 0 q c a) = some z ∧ z ∈ tl a b c e 1024 := by
  obtain ⟨z, hz⟩ := fmq_ex (f := f) ((ol0_iff (p := q) ha hc hq).mpr ⟨hq, rfl⟩)
  exact ⟨z, hz, ((ol0_iff ha hc hq).mp (fmq_some _ z hz).1).1⟩
theorem ol1_ex {a b c e q : Nat} {f : Nat → Int} (hb : b ≤ 8) (he : e ≤ 4) (hq : q ∈ tl a b c e 1024) : ∃ z, fmq f (ol 1 q e b) = some z ∧ z ∈ tl a b c e 1024 := by
  obtain ⟨z, hz⟩ := fmq_ex (f := f) ((ol1_iff (p := q) hb he hq).mpr ⟨hq, rfl⟩)
  exact ⟨z, hz, ((ol1_iff hb he hq).mp (fmq_some _ z hz).1).1⟩
theorem l_32768 : (32768 : Int64) = lK 32768 := rfl
theorem l_512 : (512 : Int64) = lK 512 := rfl
theorem l_64 : (64 : Int64) = lK 64 := rfl
theorem l_0 : (0 : Int64) = lK 0 := rfl
theorem i_8 : (8 : Int32) = iK 8 := rfl
theorem i_64 : (64 : Int32) = iK 64 := rfl
theorem held_K {v b : Int} (hv : -9223372036854775808 ≤ v ∧ v < 9223372036854775808) (hb : 0 ≤ b ∧ b < 2147483648) : (if lK v < 0 then (0 : Int32) else if (iK b).toInt64 < lK v then iK b else (lK v).toInt32) = iK (cI v 0 b) := by
  have e1 : (lK v < 0) = (v < 0) := lK_lt (b := 0) hv (by omega)
  have e2 : ((iK b).toInt64 < lK v) = (b < v) := by rw [iK_l (by omega), lK_lt (by omega) hv]
  unfold cI
  simp only [e1, e2]
  split
  · rfl
  · split
    · rfl
    · exact lK_i (by omega)
theorem own_K {p x : Int32} {g : Nat} (hg : g ≤ 3) (hp : rg p 0 999) (hx : rg x 0 9999) : (32768 : Int64) * (nI g * p - x).toInt64 = lK (32768 * ((g : Int) * p.toInt - x.toInt)) := by
  have m := own_in (g := (g : Int)) (by omega) (by omega) hp.1 hp.2 hx.1 hx.2
  have e : nI g * p - x = iK ((g : Int) * p.toInt - x.toInt) := by rw [← iK_sub, ← iK_mul, iK_self, iK_self, nI_K]
  rw [e, iK_l (by omega), l_32768, lK_mul]
theorem plain_K {nu pr ga : Nat → Int32} (hn : nOK nu pr ga) {q : Nat} (hq : q < 1024) {c h : Int} (hc : 0 ≤ c ∧ c ≤ 64) (hh : 0 ≤ h ∧ h ≤ 9999) : (32768 : Int64) * (nI (q / 4 % 4) * pr (q / 128) - ga (q / 4 % 4) + nI (q % 4) * pr (8 + q / 16 % 8) - ga (4 + q % 4)).toInt64 + 512 * (iK c).toInt64 * (nI (q / 4 % 4)).toInt64 * (nI (q % 4)).toInt64 * (iK h).toInt64 = lK (owq pr ga 0 q + owq pr ga 1 q + 512 * (c * (((q / 4 % 4 : Nat) : Int) * ((q % 4 : Nat) : Int)) * h)) := by
  have a1 := hn.2.1 (q / 128) (by omega)
  have a2 := hn.2.1 (8 + q / 16 % 8) (by omega)
  have b1 := hn.2.2.1 (q / 4 % 4) (by omega)
  have b2 := hn.2.2.1 (4 + q % 4) (by omega)
  have m1 := own_in (g := ((q / 4 % 4 : Nat) : Int)) (by omega) (by omega) a1.1 a1.2 b1.1 b1.2
  have m2 := own_in (g := ((q % 4 : Nat) : Int)) (by omega) (by omega) a2.1 a2.2 b2.1 b2.2
  unfold owq
  simp only [if_true, Nat.one_ne_zero, if_false]
  generalize pr (q / 128) = P1 at *
  generalize pr (8 + q / 16 % 8) = P2 at *
  generalize ga (q / 4 % 4) = G1 at *
  generalize ga (4 + q % 4) = G2 at *
  have e : nI (q / 4 % 4) * P1 - G1 + nI (q % 4) * P2 - G2 = iK (((q / 4 % 4 : Nat) : Int) * P1.toInt - G1.toInt + ((q % 4 : Nat) : Int) * P2.toInt - G2.toInt) := by
    rw [← iK_sub, ← iK_add, ← iK_sub, ← iK_mul, ← iK_mul, iK_self, iK_self, iK_self, iK_self, nI_K, nI_K]
  rw [e, iK_l (by omega), iK_l (by omega), iK_l (by omega), nI_K, nI_K, iK_l (by omega), iK_l (by omega), l_32768, l_512, lK_mul, lK_mul, lK_mul, lK_mul, lK_mul, lK_add]
  congr 1
  grind
theorem nI_ltK {a b : Nat} (ha : a < 2147483648) (hb : b < 2147483648) : (nI a < nI b) = (a < b) := by
  rw [nI_K, nI_K, iK_lt (by omega) (by omega)]; simp
