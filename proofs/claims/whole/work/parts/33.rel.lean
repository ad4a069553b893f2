/-! ===== the relation between the class's cells and the reference's ===== -/
/-- a number from a to b -/
def rg (x : Int32) (a b : Int) : Prop := a ≤ x.toInt ∧ x.toInt ≤ b
/-- a step of the class's texts, in the reference's words -/
def tr (x : Int32) : Int32 := if x = -5 then -10 else if x = -6 then -43 else if x = -7 then -45 else if x = -8 then -42 else if x = -9 then -47 else if x = -10 then -60 else if x = -11 then -61 else x
/-- what a step asks of the pile's height, and leaves of it (reference's words) -/
def hs (x : Int32) (n : Nat) : Option Nat := if -4 ≤ x then some (n + 1) else if x = -10 then (if 1 ≤ n then some n else none) else (if 2 ≤ n then some (n - 1) else none)
/-- the height behind k steps of a row -/
def hg_ (f : Nat → Int32) : Nat → Option Nat
  | 0 => some 0
  | k + 1 => (hg_ f k).bind (hs (f k))
/-- a binary sign's work -/
def wk (s a b : Int32) : Int32 := if s = 43 then a + b else if s = 45 then a - b else if s = 42 then a * b else if s = 47 then (if b = 0 then 0 else a / b) else if s = 60 then (if a < b then 1 else 0) else (if a = b then 1 else 0)
/-- one step on a pile (top first), reference's words -/
def ps (a b g h : Int32) (x : Int32) (st : List Int32) : List Int32 := if 0 ≤ x then x :: st else if -4 ≤ x then (if x = -1 then a else if x = -2 then b else if x = -3 then g else h) :: st else if x = -10 then (match st with | y :: r => -y :: r | [] => []) else (match st with | y :: z :: r => wk (-x) z y :: r | r => r)
def pl (a b g h : Int32) (f : Nat → Int32) : Nat → List Int32
  | 0 => []
  | k + 1 => ps a b g h (f k) (pl a b g h f k)
/-- what n steps come to -/
def ev (a b g h : Int32) (f : Nat → Int32) (n : Nat) : Int32 := (pl a b g h f n).headD 0
/-- a good row of n steps: from an empty pile to one number -/
def gd (f : Nat → Int32) (n : Nat) : Prop := hg_ f n = some 1 ∧ n ≤ 120 ∧ ∀ i, i < n → (-4 ≤ f i ∨ f i = -10 ∨ f i = -43 ∨ f i = -45 ∨ f i = -42 ∨ f i = -47 ∨ f i = -60 ∨ f i = -61)
/-- the reference's row r of steps -/
def cr (co : Nat → Int32) (r : Nat) : Nat → Int32 := fun i => co (125 * r + 1 + i)
def cn (co : Nat → Int32) (r : Nat) : Nat := (co (125 * r)).toNatClampNeg
def cl_ (x : Int32) (a b : Int32) : Int32 := if x < a then a else if b < x then b else x
/-- what a rule that covers nothing lets 0 owe -/
def pdu (ru co : Nat → Int32) (r : Nat) (s o : Int32) : Int32 :=
  if ru (4 * r) = 1 then 64 else if ru (4 * r) = 2 then (if s < ru (4 * r + 1) then 64 else 0) else if ru (4 * r) = 3 then (if s < ru (4 * r + 1) then (if o < ru (4 * r + 2) then 8 * ru (4 * r + 3) else 64) else 0) else if ru (4 * r) = 4 then (if o < ru (4 * r + 1) then 0 else 64) else if ru (4 * r) = 6 then cl_ (ev s o 0 0 (cr co r) (cn co r)) 0 64 else 0
/-- dues of 0 and of the third, by a number that is above the rule's -/
def du (ru co : Nat → Int32) (s o : Int32) : Nat → Nat → Int32 × Int32
  | 0, _ => (0, 0)
  | f + 1, r => if ru (4 * r) = 5 then ((du ru co s o f (ru (4 * r + 1)).toNatClampNeg).1 - ru (4 * r + 2) * (du ru co s o f (ru (4 * r + 1)).toNatClampNeg).1 / 8, (du ru co s o f (ru (4 * r + 1)).toNatClampNeg).2 + ru (4 * r + 2) * (du ru co s o f (ru (4 * r + 1)).toNatClampNeg).1 / 8) else (pdu ru co r s o, 0)
def due (ru co : Nat → Int32) (s o : Int32) (r : Nat) : Int32 × Int32 := du ru co s o (r + 1) r
/-- a text object against a row of steps -/
def txOK (g : ab_G) (I : ab_I) (t : Nat) (f : Nat → Int32) (n : Nat) : Prop := ab_ty g t = 19 ∧ 128 ≤ t ∧ ∃ s, ab_R g t 0 = some s ∧ ab_ty g s = 1 ∧ 128 ≤ s ∧ ab_ln g s = n ∧ gd f n ∧ ∀ i, i < n → f i = tr (I s i) ∧ -11 ≤ I s i
def hmOK (g : ab_G) (I : ab_I) (h : Nat) (co : Nat → Int32) : Prop := ab_ty g h = 20 ∧ 128 ≤ h ∧ (∃ t, ab_R g h 0 = some t ∧ txOK g I t (cr co 20) (cn co 20)) ∧ ∃ t, ab_R g h 1 = some t ∧ txOK g I t (cr co 21) (cn co 21)
/-- a rule of the reference is well made -/
def rwOK (ru co : Nat → Int32) (i : Nat) : Prop := rg (ru (4 * i)) 0 6 ∧
  ((ru (4 * i) = 2 ∨ ru (4 * i) = 3 ∨ ru (4 * i) = 4) → rg (ru (4 * i + 1)) 0 8) ∧ (ru (4 * i) = 3 → rg (ru (4 * i + 2)) 0 8 ∧ rg (ru (4 * i + 3)) 0 8) ∧ (ru (4 * i) = 5 → rg (ru (4 * i + 1)) 0 19 ∧ (ru (4 * i + 1)).toNatClampNeg < i ∧ rg (ru (4 * i + 2)) 0 8) ∧ (ru (4 * i) = 6 → gd (cr co i) (cn co i) ∧ co (125 * i) = nI (cn co i))
def rlOK (g : ab_G) (I : ab_I) (r i : Nat) (ru co : Nat → Int32) : Prop := ab_ty g r = 17 ∧ 128 ≤ r ∧ rwOK ru co i ∧ (∃ a, ab_R g r 0 = some a ∧ ab_ty g a = 1 ∧ ab_ln g a = 64 ∧ 128 ≤ a ∧ ∀ q, q < 64 → I a q = (due ru co (nI (q / 8)) (nI (q % 8)) i).1) ∧ (∃ a, ab_R g r 1 = some a ∧ ab_ty g a = 1 ∧ ab_ln g a = 64 ∧ 128 ≤ a ∧ ∀ q, q < 64 → I a q = (due ru co (nI (q / 8)) (nI (q % 8)) i).2) ∧
  I r 2 = ru (4 * i) ∧ ((ru (4 * i) = 2 ∨ ru (4 * i) = 3 ∨ ru (4 * i) = 4) → I r 3 = ru (4 * i + 1)) ∧ (ru (4 * i) = 3 → I r 4 = ru (4 * i + 2) ∧ I r 5 = ru (4 * i + 3)) ∧ (ru (4 * i) = 5 → I r 6 = ru (4 * i + 1) ∧ I r 7 = ru (4 * i + 2))
/-- a State (its cells s, s + 1 ..) against the reference's rows -/
def stOK (g : ab_G) (I : ab_I) (s : Nat) (nu pr ga ru co : Nat → Int32) : Prop :=
  ((I (s + 1) 0 = nu 0 ∧ I (s + 1) 1 = nu 1 ∧ I (s + 5) 0 = nu 2 ∧ I (s + 5) 1 = nu 3) ∧ (rg (nu 0) 0 8 ∧ rg (nu 1) 0 8 ∧ rg (nu 2) 1 4 ∧ rg (nu 3) 1 4)) ∧
  ((∀ i, i < 8 → I (s + 3) i = pr i ∧ I (s + 4) i = pr (8 + i)) ∧ (∀ i, i < 16 → rg (pr i) 0 999) ∧ (∀ i, i < 4 → I (s + 7) i = ga i ∧ I (s + 8) i = ga (4 + i)) ∧ (∀ i, i < 8 → rg (ga i) 0 9999)) ∧
  ((∀ j, j < 5 → I (s + 9) j = nu (5 + j)) ∧ rg (nu 5) 0 8 ∧ rg (nu 6) 0 9999 ∧ rg (nu 7) 0 9999 ∧ rg (nu 8) 0 9999 ∧ rg (nu 9) (-64) 64) ∧
  ((∀ k, k < 8 → I (s + 10) k = nu (11 + k)) ∧ ∀ k, k < 8 → rg (nu (11 + k)) 0 99) ∧
  (I s 7 = nu 4 ∧ rg (nu 4) 0 20 ∧ ∀ i, i < (nu 4).toNatClampNeg → ∃ r, ab_R g (s + 11) i = some r ∧ rlOK g I r i ru co) ∧
  ((ab_R g s 8 = none ∧ nu 10 = 0) ∨ ∃ h, ab_R g s 8 = some h ∧ nu 10 = 1 ∧ hmOK g I h co)
/-- the tape, the findings, the sheets -/
def tpOK (I : ab_I) : Prop := I 57 1 = I 101 13 ∧ rg (I 57 1) 0 120 ∧ ∀ i, i < 120 → I 58 i = I 113 i ∧ rg (I 58 i) 0 255
def fdOK (I : ab_I) : Prop := ∀ k, k < 7 → I 100 k = I 102 k
def shOK (I : ab_I) (J : ab_J) : Prop := ∀ s, s < 4 → I (92 + 2 * s) 2 = I 125 s ∧ I (92 + 2 * s) 1 = I 126 s ∧ (I 125 s = 0 ∨ I 125 s = 8 ∨ I 125 s = 16 ∨ I 125 s = 64) ∧ rg (I 126 s) 0 40 ∧ ∀ i, i < 40 → J (93 + 2 * s) i = J 127 (40 * s + i)
