/-! ===== the relation between the class's cells and the reference's ===== -/
/-- a number from a to b -/
def rg (x : Int32) (a b : Int) : Prop := a ≤ x.toInt ∧ x.toInt ≤ b
/-- a step of the class's texts, in the reference's words -/
def tr (x : Int32) : Int32 := if x = -5 then -10 else if x = -6 then -43 else if x = -7 then -45 else if x = -8 then -42 else if x = -9 then -47 else if x = -10 then -60 else if x = -11 then -61 else x
/-- what a step asks of the pile's height, and leaves of it (reference's words) -/
def hs (x : Int32) (n : Nat) : Option Nat := if -4 ≤ x then some (n + 1) else if x = -10 then (if 1 ≤ n then some n else none) else (if 2 ≤ n then some (n - 1) else none)
/-- the height behind k steps of a row -/
def hg_ (f : Nat → Int32) : Nat → Option Nat
  | 0 => some 0
  | k + 1 => (hg_ f k).bind (hs (f k))
/-- a binary sign's work -/
def wk (s a b : Int32) : Int32 := if s = 43 then a + b else if s = 45 then a - b else if s = 42 then a * b else if s = 47 then (if b = 0 then 0 else a / b) else if s = 60 then (if a < b then 1 else 0) else (if a = b then 1 else 0)
/-- one step on a pile (top first), reference's words -/
def ps (a b g h : Int32) (x : Int32) (st : List Int32) : List Int32 := if 0 ≤ x then x :: st else if -4 ≤ x then (if x = -1 then a else if x = -2 then b else if x = -3 then g else h) :: st else if x = -10 then (match st with | y :: r => -y :: r | [] => []) else (match st with | y :: z :: r => wk (-x) z y :: r | r => r)
def pl (a b g h : Int32) (f : Nat → Int32) : Nat → List Int32
  | 0 => []
  | k + 1 => ps a b g h (f k) (pl a b g h f k)
/-- what n steps come to -/
def ev (a b g h : Int32) (f : Nat → Int32) (n : Nat) : Int32 := (pl a b g h f n).headD 0
/-- a good row of n steps: from an empty pile to one number -/
def gd (f : Nat → Int32) (n : Nat) : Prop := hg_ f n = some 1 ∧ n ≤ 120 ∧ ∀ i, i < n → (-4 ≤ f i ∨ f i = -10 ∨ f i = -43 ∨ f i = -45 ∨ f i = -42 ∨ f i = -47 ∨ f i = -60 ∨ f i = -61)
/-- the reference's row r of steps -/
def cr (co : Nat → Int32) (r : Nat) : Nat → Int32 := fun i => co (125 * r + 1 + i)
def cn (co : Nat → Int32) (r : Nat) : Nat := (co (125 * r)).toNatClampNeg
def cl_ (x : Int32) (a b : Int32) : Int32 := if x < a then a else if b < x then b else x
/-- what a rule that covers nothing lets 0 owe -/
def pdu (ru co : Nat → Int32) (r : Nat) (s o : Int32) : Int32 :=
  if ru (4 * r) = 1 then 64 else if ru (4 * r) = 2 then (if s < ru (4 * r + 1) then 64 else 0) else if ru (4 * r) = 3 then (if s < ru (4 * r + 1) then (if o < ru (4 * r + 2) then 8 * ru (4 * r + 3) else 64) else 0) else if ru (4 * r) = 4 then (if o < ru (4 * r + 1) then 0 else 64) else if ru (4 * r) = 6 then cl_ (ev s o 0 0 (cr co r) (cn co r)) 0 64 else 0
/-- dues of 0 and of the third, by a number that is above the rule's -/
def du (ru co : Nat → Int32) (s o : Int32) : Nat → Nat → Int32 × Int32
  | 0, _ => (0, 0)
  | f + 1, r => if ru (4 * r) = 5 then ((du ru co s o f (ru (4 * r + 1)).toNatClampNeg).1 - ru (4 * r + 2) * (du ru co s o f (ru (4 * r + 1)).toNatClampNeg).1 / 8, (du ru co s o f (ru (4 * r + 1)).toNatClampNeg).2 + ru (4 * r + 2) * (du ru co s o f (ru (4 * r + 1)).toNatClampNeg).1 / 8) else (pdu ru co r s o, 0)
def due (ru co : Nat → Int32) (s o : Int32) (r : Nat) : Int32 × Int32 := du ru co s o (r + 1) r
/-- a text object against a row of steps -/
def txOK (g : ab_G) (I : ab_I) (t : Nat) (f : Nat → Int32) (n : Nat) : Prop := ab_ty g t = 19 ∧ 128 ≤ t ∧ ∃ s, ab_R g t 0 = some s ∧ ab_ty g s = 1 ∧ 128 ≤ s ∧ ab_ln g s = n ∧ gd f n ∧ ∀ i, i < n → f i = tr (I s i) ∧ -11 ≤ I s i
def hmOK (g : ab_G) (I : ab_I) (h : Nat) (co : Nat → Int32) : Prop := ab_ty g h = 20 ∧ 128 ≤ h ∧ (∃ t, ab_R g h 0 = some t ∧ txOK g I t (cr co 20) (cn co 20)) ∧ ∃ t, ab_R g h 1 = some t ∧ txOK g I t (cr co 21) (cn co 21)
/-- a rule of the reference is well made -/
def rwOK (ru co : Nat → Int32) (i : Nat) : Prop := rg (ru (4 * i)) 0 6 ∧
  ((ru (4 * i) = 2 ∨ ru (4 * i) = 3 ∨ ru (4 * i) = 4) → rg (ru (4 * i + 1)) 0 8) ∧ (ru (4 * i) = 3 → rg (ru (4 * i + 2)) 0 8 ∧ rg (ru (4 * i + 3)) 0 8) ∧ (ru (4 * i) = 5 → rg (ru (4 * i + 1)) 0 19 ∧ (ru (4 * i + 1)).toNatClampNeg < i ∧ rg (ru (4 * i + 2)) 0 8) ∧ (ru (4 * i) = 6 → gd (cr co i) (cn co i) ∧ co (125 * i) = nI (cn co i))
def rlOK (g : ab_G) (I : ab_I) (r i : Nat) (ru co : Nat → Int32) : Prop := ab_ty g r = 17 ∧ 128 ≤ r ∧ rwOK ru co i ∧ (∃ a, ab_R g r 0 = some a ∧ ab_ty g a = 1 ∧ ab_ln g a = 64 ∧ 128 ≤ a ∧ ∀ q, q < 64 → I a q = (due ru co (nI (q / 8)) (nI (q % 8)) i).1) ∧ (∃ a, ab_R g r 1 = some a ∧ ab_ty g a = 1 ∧ ab_ln g a = 64 ∧ 128 ≤ a ∧ ∀ q, q < 64 → I a q = (due ru co (nI (q / 8)) (nI (q % 8)) i).2) ∧
  I r 2 = ru (4 * i) ∧ ((ru (4 * i) = 2 ∨ ru (4 * i) = 3 ∨ ru (4 * i) = 4) → I r 3 = ru (4 * i + 1)) ∧ (ru (4 * i) = 3 → I r 4 = ru (4 * i + 2) ∧ I r 5 = ru (4 * i + 3)) ∧ (ru (4 * i) = 5 → I r 6 = ru (4 * i + 1) ∧ I r 7 = ru (4 * i + 2))
/-- a State's numbers against the reference's rows: cares, rows of prices, goings, rows of gains, settings, weights, how many rules -/
def stA (c p q o x y e w : Nat → Int32) (k : Int32) (nu pr ga : Nat → Int32) : Prop :=
  ((c 0 = nu 0 ∧ c 1 = nu 1 ∧ o 0 = nu 2 ∧ o 1 = nu 3 ∧ k = nu 4) ∧ (rg (nu 0) 0 8 ∧ rg (nu 1) 0 8 ∧ rg (nu 2) 1 4 ∧ rg (nu 3) 1 4 ∧ rg (nu 4) 0 20)) ∧
  ((∀ i, i < 8 → p i = pr i ∧ q i = pr (8 + i)) ∧ (∀ i, i < 16 → rg (pr i) 0 999) ∧ (∀ i, i < 4 → x i = ga i ∧ y i = ga (4 + i)) ∧ (∀ i, i < 8 → rg (ga i) 0 9999)) ∧
  ((∀ j, j < 5 → e j = nu (5 + j)) ∧ rg (nu 5) 0 8 ∧ rg (nu 6) 0 9999 ∧ rg (nu 7) 0 9999 ∧ rg (nu 8) 0 9999 ∧ rg (nu 9) (-64) 64) ∧
  ((∀ k, k < 8 → w k = nu (11 + k)) ∧ ∀ k, k < 8 → rg (nu (11 + k)) 0 99)
/-- a State's rules (a row of references, how many), its harm -/
def stR (g : ab_G) (I : ab_I) (R : Nat → Option Nat) (k : Int32) (ru co : Nat → Int32) : Prop := ∀ i, i < k.toNatClampNeg → ∃ r, R i = some r ∧ rlOK g I r i ru co
def stH (g : ab_G) (I : ab_I) (o : Option Nat) (k : Int32) (co : Nat → Int32) : Prop := (o = none ∧ k = 0) ∨ ∃ h, o = some h ∧ k = 1 ∧ hmOK g I h co
/-- the tape, the findings, the sheets -/
def tpOK (n : Int32) (b : Nat → Int32) (m : Int32) (c : Nat → Int32) : Prop := n = m ∧ rg n 0 120 ∧ ∀ i, i < 120 → b i = c i ∧ rg (b i) 0 255
def fdOK (a b : Nat → Int32) : Prop := ∀ k, k < 7 → a k = b k
def shOK (b n b' n' : Int32) (J : Nat → Int64) (J' : Nat → Int64) (s : Nat) : Prop := b = b' ∧ n = n' ∧ (b' = 0 ∨ b' = 8 ∨ b' = 16 ∨ b' = 64) ∧ rg n' 0 40 ∧ ∀ i, i < 40 → J i = J' (40 * s + i)
/-- the steps of a text object of the class, as the reference would write them -/
def tf (I : ab_I) (s : Nat) : Nat → Int32 := fun i => tr (I s i)
/-- CHANCE (held) and HURT at a cell by a HARM object or none -/
def fvOK (g : ab_G) (I : ab_I) (o : Option Nat) (q : Nat) (ch hu : Int32) : Prop :=
  (o = none ∧ ch = -64 ∧ hu = 0) ∨ ∃ h t u s v, o = some h ∧ 128 ≤ h ∧ ab_ty g h = 20 ∧ ab_R g h 0 = some t ∧ ab_R g h 1 = some u ∧ 128 ≤ t ∧ 128 ≤ u ∧ ab_ty g t = 19 ∧ ab_ty g u = 19 ∧ ab_R g t 0 = some s ∧ ab_R g u 0 = some v ∧ 128 ≤ s ∧ 128 ≤ v ∧ ab_ty g s = 1 ∧ ab_ty g v = 1 ∧
    ch = cl_ (ev (nI (q / 128)) (nI (q / 16 % 8)) (nI (q / 4 % 4)) (nI (q % 4)) (tf I s) (ab_ln g s)) (-64) 128 ∧ hu = cl_ (ev (nI (q / 128)) (nI (q / 16 % 8)) (nI (q / 4 % 4)) (nI (q % 4)) (tf I v) (ab_ln g v)) 0 9999
/-- a place is there -/
def thr (a b c e q : Nat) : Prop := q / 128 < a ∧ q / 16 % 8 < b ∧ q / 4 % 4 < c ∧ q % 4 < e
/-- the Field (shape, count, cells, both, chances, hurts) is right for what it was made for -/
def caOK (g : ab_G) (I : ab_I) (o : Option Nat) (sh n : Int32) (ce bo ch hu : Nat → Int32) : Prop :=
  ab_own o ∧ (sh = 0 ∨ ∃ a b c e m : Nat, a ≤ 8 ∧ b ≤ 8 ∧ c ≤ 4 ∧ e ≤ 4 ∧ sh = nI ((a * 16 + b) * 64 + c * 8 + e) ∧ n = nI m ∧ (∃ l : List Nat, l.length = m ∧ l = (List.range 1024).filter (fun q => decide (q / 128 < a) && (decide (q / 16 % 8 < b) && (decide (q / 4 % 4 < c) && decide (q % 4 < e)))) ∧ ∀ i, i < m → ce i = nI (l.getD i 0)) ∧
    ∀ q, q < 1024 → thr a b c e q → bo q = nI ((q / 4 % 4) * (q % 4)) ∧ fvOK g I o q (ch q) (hu q))
/-- the cells that stood there before the law -/
def low (SL : Nat) (xs : Nat → Int32) (g : ab_G) (I : ab_I) : Prop := ∀ k, k < 29 → ab_ty g k = ab_ty (ab_g0 SL) k ∧ ab_ln g k = ab_ln (ab_g0 SL) k ∧ (∀ f, ab_R g k f = ab_R (ab_g0 SL) k f) ∧ I k = ab_I0 xs k
/-- a row of Rules or of nothing -/
def roK (g : ab_G) (R : Nat → Option Nat) : Prop := ∀ i, i < 20 → R i = none ∨ ∃ b, R i = some b ∧ 128 ≤ b ∧ ab_ty g b = 17
/-- THE RELATION -/
def REL (SL : Nat) (xs : Nat → Int32) (g : ab_G) (I : ab_I) (J : ab_J) : Prop :=
  (gx g ∧ (∀ k, ab_n g ≤ k → ab_ty g k = 0) ∧ low SL xs g I ∧ roK g (ab_R g 41) ∧ roK g (ab_R g 53)) ∧
  (stA (I 31) (I 33) (I 34) (I 35) (I 37) (I 38) (I 39) (I 40) (I 30 7) (I 103) (I 104) (I 105) ∧ stR g I (ab_R g 41) (I 103 4) (I 106) (I 107) ∧ stH g I (ab_R g 30 8) (I 103 10) (I 107)) ∧
  (I 29 2 = I 101 11 ∧ (I 101 11 = 0 ∨ I 101 11 = 1) ∧ (I 101 11 = 1 → stA (I 43) (I 45) (I 46) (I 47) (I 49) (I 50) (I 51) (I 52) (I 42 7) (I 108) (I 109) (I 110) ∧ stR g I (ab_R g 53) (I 108 4) (I 111) (I 112) ∧ stH g I (ab_R g 42 8) (I 108 10) (I 112))) ∧
  (tpOK (I 54 1) (I 55) (I 101 13) (I 113) ∧ fdOK (I 100) (I 102)) ∧
  (shOK (I 92 2) (I 92 1) (I 125 0) (I 126 0) (J 93) (J 127) 0 ∧ shOK (I 94 2) (I 94 1) (I 125 1) (I 126 1) (J 95) (J 127) 1 ∧ shOK (I 96 2) (I 96 1) (I 125 2) (I 126 2) (J 97) (J 127) 2 ∧ shOK (I 98 2) (I 98 1) (I 125 3) (I 126 3) (J 99) (J 127) 3) ∧
  caOK g I (ab_R g 61 6) (I 61 7) (I 61 5) (I 64) (I 65) (I 62) (I 63)
/-- what stands in cells from 128 on stands there still -/
def ex (g g' : ab_G) (I I' : ab_I) : Prop := ∀ k, 128 ≤ k → ab_ty g k ≠ 0 → ab_ty g' k = ab_ty g k ∧ ab_ln g' k = ab_ln g k ∧ (∀ f, ab_R g' k f = ab_R g k f) ∧ I' k = I k
theorem ex_txOK {g g' : ab_G} {I I' : ab_I} (h : ex g g' I I') {t : Nat} {f : Nat → Int32} {n : Nat} (q : txOK g I t f n) : txOK g' I' t f n := by
  obtain ⟨q1, q2, s, q3, q4, q5, q6, q7, q8⟩ := q
  obtain ⟨a1, a2, a3, a4⟩ := h t q2 (by rw [q1]; decide)
  obtain ⟨b1, b2, b3, b4⟩ := h s q5 (by rw [q4]; decide)
  exact ⟨a1.trans q1, q2, s, (a3 0).trans q3, b1.trans q4, q5, b2.trans q6, q7, by rw [b4]; exact q8⟩
theorem ex_hmOK {g g' : ab_G} {I I' : ab_I} (h : ex g g' I I') {t : Nat} {co : Nat → Int32} (q : hmOK g I t co) : hmOK g' I' t co := by
  obtain ⟨q1, q2, ⟨t1, q3, q4⟩, t2, q5, q6⟩ := q
  obtain ⟨a1, a2, a3, a4⟩ := h t q2 (by rw [q1]; decide)
  exact ⟨a1.trans q1, q2, ⟨t1, (a3 0).trans q3, ex_txOK h q4⟩, t2, (a3 1).trans q5, ex_txOK h q6⟩
theorem ex_rlOK {g g' : ab_G} {I I' : ab_I} (h : ex g g' I I') {r i : Nat} {ru co : Nat → Int32} (q : rlOK g I r i ru co) : rlOK g' I' r i ru co := by
  obtain ⟨q1, q2, q3, ⟨a, q4, q5, q6, q7, q8⟩, ⟨b, r4, r5, r6, r7, r8⟩, q9⟩ := q
  obtain ⟨a1, a2, a3, a4⟩ := h r q2 (by rw [q1]; decide)
  obtain ⟨b1, b2, b3, b4⟩ := h a q7 (by rw [q5]; decide)
  obtain ⟨c1, c2, c3, c4⟩ := h b r7 (by rw [r5]; decide)
  exact ⟨a1.trans q1, q2, q3, ⟨a, (a3 0).trans q4, b1.trans q5, b2.trans q6, q7, by rw [b4]; exact q8⟩, ⟨b, (a3 1).trans r4, c1.trans r5, c2.trans r6, r7, by rw [c4]; exact r8⟩, by rw [a4]; exact q9⟩
theorem ex_stR {g g' : ab_G} {I I' : ab_I} (h : ex g g' I I') {R : Nat → Option Nat} {k : Int32} {ru co : Nat → Int32} (q : stR g I R k ru co) : stR g' I' R k ru co := by
  intro i hi
  obtain ⟨r, q1, q2⟩ := q i hi
  exact ⟨r, q1, ex_rlOK h q2⟩
theorem ex_stH {g g' : ab_G} {I I' : ab_I} (h : ex g g' I I') {o : Option Nat} {k : Int32} {co : Nat → Int32} (q : stH g I o k co) : stH g' I' o k co := by
  rcases q with q | ⟨t, q1, q2, q3⟩
  · exact Or.inl q
  · exact Or.inr ⟨t, q1, q2, ex_hmOK h q3⟩
theorem ex_roK {g g' : ab_G} {I I' : ab_I} (h : ex g g' I I') {R : Nat → Option Nat} (q : roK g R) : roK g' R := by
  intro i hi
  rcases q i hi with q | ⟨b, q1, q2, q3⟩
  · exact Or.inl q
  · exact Or.inr ⟨b, q1, q2, (h b q2 (by rw [q3]; decide)).1.trans q3⟩
theorem ex_fvOK {g g' : ab_G} {I I' : ab_I} (h : ex g g' I I') {o : Option Nat} {q : Nat} {ch hu : Int32} (p : fvOK g I o q ch hu) : fvOK g' I' o q ch hu := by
  rcases p with p | ⟨t, a, b, s, v, p1, p2, p3, p4, p5, p6, p7, p8, p9, p10, p11, p12, p13, p14, p15, p16, p17⟩
  · exact Or.inl p
  · obtain ⟨a1, a2, a3, a4⟩ := h t p2 (by rw [p3]; decide)
    obtain ⟨b1, b2, b3, b4⟩ := h a p6 (by rw [p8]; decide)
    obtain ⟨c1, c2, c3, c4⟩ := h b p7 (by rw [p9]; decide)
    obtain ⟨d1, d2, d3, d4⟩ := h s p12 (by rw [p14]; decide)
    obtain ⟨e1, e2, e3, e4⟩ := h v p13 (by rw [p15]; decide)
    refine Or.inr ⟨t, a, b, s, v, p1, p2, a1.trans p3, (a3 0).trans p4, (a3 1).trans p5, p6, p7, b1.trans p8, c1.trans p9, (b3 0).trans p10, (c3 0).trans p11, p12, p13, d1.trans p14, e1.trans p15, ?_, ?_⟩
    · rw [p16, d2]; unfold tf; rw [d4]
    · rw [p17, e2]; unfold tf; rw [e4]
theorem ex_caOK {g g' : ab_G} {I I' : ab_I} (h : ex g g' I I') {o : Option Nat} {sh n : Int32} {ce bo ch hu : Nat → Int32} (p : caOK g I o sh n ce bo ch hu) : caOK g' I' o sh n ce bo ch hu := by
  obtain ⟨p0, p⟩ := p
  refine ⟨p0, ?_⟩
  rcases p with p | ⟨a, b, c, e, m, p1, p2, p3, p4, p5, p6, p7, p8⟩
  · exact Or.inl p
  · exact Or.inr ⟨a, b, c, e, m, p1, p2, p3, p4, p5, p6, p7, fun q hq ht => ⟨(p8 q hq ht).1, ex_fvOK h (p8 q hq ht).2⟩⟩
theorem ex_iff {g g' : ab_G} {I I' : ab_I} (h : ∀ k, 128 ≤ k → ab_ty g' k = ab_ty g k ∧ ab_ln g' k = ab_ln g k ∧ (∀ f, ab_R g' k f = ab_R g k f) ∧ I' k = I k) : ex g g' I I' ∧ ex g' g I' I :=
  ⟨fun k hk _ => h k hk, fun k hk _ => ⟨(h k hk).1.symm, (h k hk).2.1.symm, fun f => ((h k hk).2.2.1 f).symm, (h k hk).2.2.2.symm⟩⟩
theorem up_ne {α : Type} {f : Nat → Nat → α} {a k b : Nat} {v : α} (h : b ≠ a) : ab_up f a k v b = f b := by
  funext y; unfold ab_up; simp [h]
theorem up_eq {α : Type} {f : Nat → Nat → α} {a k : Nat} {v : α} : ab_up f a k v a k = v := by unfold ab_up; simp
theorem up_at {α : Type} {f : Nat → Nat → α} {a k y : Nat} {v : α} (h : y ≠ k) : ab_up f a k v a y = f a y := by unfold ab_up; simp [h]
theorem up_if {α : Type} {f : Nat → Nat → α} {a k y : Nat} {v : α} : ab_up f a k v a y = if y = k then v else f a y := by unfold ab_up; simp
theorem up_ex {g : ab_G} {I : ab_I} {a k : Nat} {v : Int32} (ha : a < 128) : ex g g I (ab_up I a k v) ∧ ex g g (ab_up I a k v) I :=
  ex_iff fun b hb => ⟨rfl, rfl, fun _ => rfl, up_ne (by omega)⟩
theorem low_up {SL : Nat} {xs : Nat → Int32} {g : ab_G} {I : ab_I} {a k : Nat} {v : Int32} (ha : 29 ≤ a) : low SL xs g (ab_up I a k v) ↔ low SL xs g I := by
  unfold low
  have : ∀ b, b < 29 → ab_up I a k v b = I b := fun b hb => up_ne (by omega)
  exact ⟨fun h b hb => by have := h b hb; rw [up_ne (by omega)] at this; exact this, fun h b hb => by rw [up_ne (by omega)]; exact h b hb⟩
theorem lt8 {SL : Nat} {xs : Nat → Int32} {g : ab_G} {I : ab_I} (h : low SL xs g I) : ab_ty g 8 = 1 := (h 8 (by decide)).1
theorem ll8 {SL : Nat} {xs : Nat → Int32} {g : ab_G} {I : ab_I} (h : low SL xs g I) : ab_ln g 8 = 5 := (h 8 (by decide)).2.1
theorem lt9 {SL : Nat} {xs : Nat → Int32} {g : ab_G} {I : ab_I} (h : low SL xs g I) : ab_ty g 9 = 1 := (h 9 (by decide)).1
theorem ll9 {SL : Nat} {xs : Nat → Int32} {g : ab_G} {I : ab_I} (h : low SL xs g I) : ab_ln g 9 = 5 := (h 9 (by decide)).2.1
theorem li8 {SL : Nat} {xs : Nat → Int32} {g : ab_G} {I : ab_I} (h : low SL xs g I) : I 8 0 = 0 ∧ I 8 1 = 0 ∧ I 8 2 = 0 ∧ I 8 3 = 0 ∧ I 8 4 = -64 := by
  rw [(h 8 (by decide)).2.2.2]; exact ⟨rfl, rfl, rfl, rfl, rfl⟩
theorem li9 {SL : Nat} {xs : Nat → Int32} {g : ab_G} {I : ab_I} (h : low SL xs g I) : I 9 0 = 8 ∧ I 9 1 = 9999 ∧ I 9 2 = 9999 ∧ I 9 3 = 9999 ∧ I 9 4 = 64 := by
  rw [(h 9 (by decide)).2.2.2]; exact ⟨rfl, rfl, rfl, rfl, rfl⟩
theorem stR_up {g : ab_G} {I : ab_I} {R : Nat → Option Nat} {n : Int32} {ru co : Nat → Int32} {a k : Nat} {v : Int32} (ha : a < 128) : stR g (ab_up I a k v) R n ru co ↔ stR g I R n ru co := ⟨ex_stR (up_ex ha).2, ex_stR (up_ex ha).1⟩
theorem stH_up {g : ab_G} {I : ab_I} {o : Option Nat} {n : Int32} {co : Nat → Int32} {a k : Nat} {v : Int32} (ha : a < 128) : stH g (ab_up I a k v) o n co ↔ stH g I o n co := ⟨ex_stH (up_ex ha).2, ex_stH (up_ex ha).1⟩
theorem caOK_up {g : ab_G} {I : ab_I} {o : Option Nat} {sh n : Int32} {ce bo ch hu : Nat → Int32} {a k : Nat} {v : Int32} (ha : a < 128) : caOK g (ab_up I a k v) o sh n ce bo ch hu ↔ caOK g I o sh n ce bo ch hu := ⟨ex_caOK (up_ex ha).2, ex_caOK (up_ex ha).1⟩
