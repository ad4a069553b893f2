/-! ===== numbers: what both sides reckon, in whole numbers ===== -/
def iK (x : Int) : Int32 := Int32.ofInt x
def lK (x : Int) : Int64 := Int64.ofInt x
theorem iK_add (a b : Int) : iK a + iK b = iK (a + b) := (Int32.ofInt_add a b).symm
theorem iK_sub (a b : Int) : iK a - iK b = iK (a - b) := (Int32.ofInt_sub a b).symm
theorem iK_mul (a b : Int) : iK a * iK b = iK (a * b) := (Int32.ofInt_mul a b).symm
theorem lK_add (a b : Int) : lK a + lK b = lK (a + b) := (Int64.ofInt_add a b).symm
theorem lK_sub (a b : Int) : lK a - lK b = lK (a - b) := (Int64.ofInt_sub a b).symm
theorem lK_mul (a b : Int) : lK a * lK b = lK (a * b) := (Int64.ofInt_mul a b).symm
theorem iK_self (x : Int32) : iK x.toInt = x := Int32.ofInt_toInt x
theorem iK_toInt {x : Int} (h : -2147483648 ≤ x ∧ x < 2147483648) : (iK x).toInt = x := Int32.toInt_ofInt_of_le h.1 h.2
theorem lK_toInt {x : Int} (h : -9223372036854775808 ≤ x ∧ x < 9223372036854775808) : (lK x).toInt = x := Int64.toInt_ofInt_of_le h.1 h.2
theorem i2lK (x : Int32) : x.toInt64 = lK x.toInt := by
  apply Int64.toInt_inj.mp
  rw [Int32.toInt_toInt64, lK_toInt]
  have := Int32.le_toInt x; have := Int32.toInt_lt x; omega
theorem iK_l {x : Int} (h : -2147483648 ≤ x ∧ x < 2147483648) : (iK x).toInt64 = lK x := by rw [i2lK, iK_toInt h]
theorem lK_lt {a b : Int} (h : -9223372036854775808 ≤ a ∧ a < 9223372036854775808) (h3 : -9223372036854775808 ≤ b ∧ b < 9223372036854775808) : (lK a < lK b) = (a < b) := by rw [Int64.lt_iff_toInt_lt, lK_toInt h, lK_toInt h3]
theorem lK_eq {a b : Int} (h : -9223372036854775808 ≤ a ∧ a < 9223372036854775808) (h3 : -9223372036854775808 ≤ b ∧ b < 9223372036854775808) : (lK a = lK b) = (a = b) := by rw [← Int64.toInt_inj, lK_toInt h, lK_toInt h3]
theorem iK_lt {a b : Int} (h : -2147483648 ≤ a ∧ a < 2147483648) (h3 : -2147483648 ≤ b ∧ b < 2147483648) : (iK a < iK b) = (a < b) := by rw [Int32.lt_iff_toInt_lt, iK_toInt h, iK_toInt h3]
theorem iK_eq {a b : Int} (h : -2147483648 ≤ a ∧ a < 2147483648) (h3 : -2147483648 ≤ b ∧ b < 2147483648) : (iK a = iK b) = (a = b) := by rw [← Int32.toInt_inj, iK_toInt h, iK_toInt h3]
theorem lK_i {x : Int} (h : -2147483648 ≤ x ∧ x < 2147483648) : (lK x).toInt32 = iK x := by rw [← iK_l h, Int32.toInt32_toInt64]
theorem nI_K (n : Nat) : nI n = iK n := by unfold nI iK; exact (Int32.ofInt_eq_ofNat (n := n)).symm
def cI (x a b : Int) : Int := if x < a then a else if b < x then b else x
theorem cI_in {x a b : Int} (h : a ≤ b) : a ≤ cI x a b ∧ cI x a b ≤ b := by unfold cI; split <;> (try split) <;> omega
theorem cl_K {x a b : Int32} : (cl_ x a b).toInt = cI x.toInt a.toInt b.toInt := by
  unfold cl_ cI
  simp only [Int32.lt_iff_toInt_lt]
  split
  · rfl
  · split <;> rfl
/-- CHANCE by the class: held twice; by the reference: once -/
theorem cI_twice {x s : Int} (h1 : -64 ≤ s) (h2 : s ≤ 64) : cI (cI x (-64) 128 + s) 0 64 = cI (x + s) 0 64 := by
  unfold cI; split <;> (try split) <;> (try split) <;> (try split) <;> (try split) <;> (try split) <;> omega
theorem mb {x y X Y : Int} (h1 : 0 ≤ x) (h2 : x ≤ X) (h3 : 0 ≤ y) (h4 : y ≤ Y) : 0 ≤ x * y ∧ x * y ≤ X * Y :=
  ⟨Int.mul_nonneg h1 h3, Int.mul_le_mul h2 h4 h3 (Int.le_trans h1 h2)⟩
/-- raw CHANCE, raw size by the reference's row of steps -/
def rcq (co : Nat → Int32) (q : Nat) : Int32 := ev (nI (q / 128)) (nI (q / 16 % 8)) (nI (q / 4 % 4)) (nI (q % 4)) (cr co 20) (cn co 20)
def rzq (co : Nat → Int32) (q : Nat) : Int32 := ev (nI (q / 128)) (nI (q / 16 % 8)) (nI (q / 4 % 4)) (nI (q % 4)) (cr co 21) (cn co 21)
def chn (nu co : Nat → Int32) (sh : Int) (q : Nat) : Int := if nu 10 = 0 then 0 else cI ((rcq co q).toInt + sh) 0 64
def hut (nu co : Nat → Int32) (q : Nat) : Int := if nu 10 = 0 then 0 else cI (rzq co q).toInt 0 9999
def tms (nu co : Nat → Int32) (sh : Int) (q : Nat) : Int := chn nu co sh q * (((q / 4 % 4 : Nat) : Int) * ((q % 4 : Nat) : Int))
/-- what one's own doings cost it -/
def owq (pr ga : Nat → Int32) (w q : Nat) : Int := if w = 0 then 32768 * (((q / 4 % 4 : Nat) : Int) * (pr (q / 128)).toInt - (ga (q / 4 % 4)).toInt) else if w = 1 then 32768 * (((q % 4 : Nat) : Int) * (pr (8 + q / 16 % 8)).toInt - (ga (4 + q % 4)).toInt) else 0
def pln (nu pr ga co : Nat → Int32) (sh : Int) (q : Nat) : Int := owq pr ga 0 q + owq pr ga 1 q + 512 * (tms nu co sh q * hut nu co q)
/-- what each bears of a HARM, by DUES a and b -/
def brs (nu : Nat → Int32) (w : Nat) (a b h : Int) : Int := if 64 * (nu 8).toInt < (a + b) * h then (if w = 0 then min (a * h) (64 * (nu 6).toInt) + 64 * (nu 7).toInt else if w = 1 then 64 * h - min (a * h) (64 * (nu 6).toInt) - b * h + 64 * (nu 8).toInt else b * h) else (if w = 1 then 64 * h else 0)
def shq (nu D : Nat → Int32) (w : Nat) (h : Int) (q : Nat) : Int := (8 - (nu 5).toInt) * brs nu w (D (8 * (q / 128) + q / 16 % 8)).toInt (D (64 + (8 * (q / 128) + q / 16 % 8))).toInt h + (nu 5).toInt * brs nu w (D (8 * (q / 128 - 1) + q / 16 % 8)).toInt (D (64 + (8 * (q / 128 - 1) + q / 16 % 8))).toInt h
def cst (nu pr ga co D : Nat → Int32) (sh : Int) (w q : Nat) : Int := owq pr ga w q + tms nu co sh q * shq nu D w (hut nu co q) q
def ttl (nu pr ga co D : Nat → Int32) (sh : Int) (q : Nat) : Int := cst nu pr ga co D sh 0 q + cst nu pr ga co D sh 1 q + cst nu pr ga co D sh 2 q
/-- the ranges of the reference's numbers, prices, gains -/
def nOK (nu pr ga : Nat → Int32) : Prop := (rg (nu 0) 0 8 ∧ rg (nu 1) 0 8 ∧ rg (nu 2) 1 4 ∧ rg (nu 3) 1 4 ∧ rg (nu 4) 0 20) ∧ (∀ i, i < 16 → rg (pr i) 0 999) ∧ (∀ i, i < 8 → rg (ga i) 0 9999) ∧ rg (nu 5) 0 8 ∧ rg (nu 6) 0 9999 ∧ rg (nu 7) 0 9999 ∧ rg (nu 8) 0 9999 ∧ rg (nu 9) (-64) 64
/-- the ranges of a row of DUES -/
def dOK (D : Nat → Int32) : Prop := ∀ k, k < 64 → 0 ≤ (D k).toInt ∧ 0 ≤ (D (64 + k)).toInt ∧ (D k).toInt + (D (64 + k)).toInt ≤ 64
theorem chn_in {nu co : Nat → Int32} {sh : Int} {q : Nat} : 0 ≤ chn nu co sh q ∧ chn nu co sh q ≤ 64 := by
  unfold chn; split
  · omega
  · exact cI_in (by decide)
theorem hut_in {nu co : Nat → Int32} {q : Nat} : 0 ≤ hut nu co q ∧ hut nu co q ≤ 9999 := by
  unfold hut; split
  · omega
  · exact cI_in (by decide)
theorem gg_in (q : Nat) : 0 ≤ (((q / 4 % 4 : Nat) : Int) * ((q % 4 : Nat) : Int)) ∧ (((q / 4 % 4 : Nat) : Int) * ((q % 4 : Nat) : Int)) ≤ 3 * 3 := mb (by omega) (by omega) (by omega) (by omega)
theorem tms_in {nu co : Nat → Int32} {sh : Int} {q : Nat} : 0 ≤ tms nu co sh q ∧ tms nu co sh q ≤ 576 := by
  unfold tms
  have h := chn_in (nu := nu) (co := co) (sh := sh) (q := q)
  have k := gg_in q
  have m := mb h.1 h.2 k.1 k.2
  omega
theorem own_in {g p x : Int} (h1 : 0 ≤ g) (h2 : g ≤ 3) (p1 : 0 ≤ p) (p2 : p ≤ 999) (x1 : 0 ≤ x) (x2 : x ≤ 9999) : -9999 ≤ g * p - x ∧ g * p - x ≤ 2997 := by
  have m := mb h1 h2 p1 p2
  omega
theorem owq_in {nu pr ga : Nat → Int32} (hn : nOK nu pr ga) {w q : Nat} (hq : q < 1024) : -327647232 ≤ owq pr ga w q ∧ owq pr ga w q ≤ 98205696 := by
  unfold owq
  obtain ⟨_, hp, hg, _⟩ := hn
  split
  · have a := hp (q / 128) (by omega)
    have b := hg (q / 4 % 4) (by omega)
    have m := own_in (g := ((q / 4 % 4 : Nat) : Int)) (by omega) (by omega) a.1 a.2 b.1 b.2
    omega
  · split
    · have a := hp (8 + q / 16 % 8) (by omega)
      have b := hg (4 + q % 4) (by omega)
      have m := own_in (g := ((q % 4 : Nat) : Int)) (by omega) (by omega) a.1 a.2 b.1 b.2
      omega
    · omega
theorem pln_in {nu pr ga co : Nat → Int32} (hn : nOK nu pr ga) {sh : Int} {q : Nat} (hq : q < 1024) : -655294464 ≤ pln nu pr ga co sh q ∧ pln nu pr ga co sh q ≤ 4000000000 := by
  unfold pln
  have a := owq_in hn (w := 0) hq
  have b := owq_in hn (w := 1) hq
  have c := tms_in (nu := nu) (co := co) (sh := sh) (q := q)
  have e := hut_in (nu := nu) (co := co) (q := q)
  have m := mb c.1 c.2 e.1 e.2
  omega
theorem brs_in {nu pr ga : Nat → Int32} (hn : nOK nu pr ga) {w : Nat} {a b h : Int} (ha : 0 ≤ a) (hb : 0 ≤ b) (hab : a + b ≤ 64) (h1 : 0 ≤ h) (h2 : h ≤ 9999) : 0 ≤ brs nu w a b h ∧ brs nu w a b h ≤ 1279872 := by
  obtain ⟨_, _, _, _, n6, n7, n8, _⟩ := hn
  unfold rg at n6 n7 n8
  have m1 := mb ha (Y := 9999) (X := 64) (by omega) h1 h2
  have m2 := mb hb (Y := 9999) (X := 64) (by omega) h1 h2
  have m3 := mb (x := a + b) (y := h) (X := 64) (Y := 9999) (by omega) (by omega) h1 h2
  have m4 : (a + b) * h = a * h + b * h := Int.add_mul a b h
  have m5 : (64 - (a + b)) * h = 64 * h - (a + b) * h := Int.sub_mul 64 (a + b) h
  have m6 := mb (x := 64 - (a + b)) (y := h) (X := 64) (Y := 9999) (by omega) (by omega) h1 h2
  unfold brs
  split
  · split
    · omega
    · split
      · omega
      · omega
  · split
    · omega
    · omega
theorem shq_in {nu pr ga D : Nat → Int32} (hn : nOK nu pr ga) (hD : dOK D) {w q : Nat} {h : Int} (hq : q < 1024) (h1 : 0 ≤ h) (h2 : h ≤ 9999) : 0 ≤ shq nu D w h q ∧ shq nu D w h q ≤ 10238976 := by
  have n5 := hn.2.2.2.1
  unfold rg at n5
  have d1 := hD (8 * (q / 128) + q / 16 % 8) (by omega)
  have d2 := hD (8 * (q / 128 - 1) + q / 16 % 8) (by omega)
  have b1 := brs_in hn (w := w) d1.1 d1.2.1 d1.2.2 h1 h2
  have b2 := brs_in hn (w := w) d2.1 d2.2.1 d2.2.2 h1 h2
  unfold shq
  generalize brs nu w (D (8 * (q / 128) + q / 16 % 8)).toInt (D (64 + (8 * (q / 128) + q / 16 % 8))).toInt h = B1 at b1 ⊢
  generalize brs nu w (D (8 * (q / 128 - 1) + q / 16 % 8)).toInt (D (64 + (8 * (q / 128 - 1) + q / 16 % 8))).toInt h = B2 at b2 ⊢
  have m1 := mb (x := 8 - (nu 5).toInt) (y := 1279872 - B1) (X := 8) (Y := 1279872) (by omega) (by omega) (by omega) (by omega)
  have m2 := mb (x := (nu 5).toInt) (y := 1279872 - B2) (X := 8) (Y := 1279872) (by omega) (by omega) (by omega) (by omega)
  have m3 := mb (x := 8 - (nu 5).toInt) (y := B1) (X := 8) (Y := 1279872) (by omega) (by omega) (by omega) (by omega)
  have m4 := mb (x := (nu 5).toInt) (y := B2) (X := 8) (Y := 1279872) (by omega) (by omega) (by omega) (by omega)
  rw [Int.mul_sub] at m1 m2
  omega
theorem cst_in {nu pr ga co D : Nat → Int32} (hn : nOK nu pr ga) (hD : dOK D) {sh : Int} {w q : Nat} (hq : q < 1024) : -327647232 ≤ cst nu pr ga co D sh w q ∧ cst nu pr ga co D sh w q ≤ 5995855872 := by
  unfold cst
  have a := owq_in hn (w := w) hq
  have c := tms_in (nu := nu) (co := co) (sh := sh) (q := q)
  have e := hut_in (nu := nu) (co := co) (q := q)
  have s := shq_in hn hD (w := w) hq e.1 e.2
  have m := mb c.1 c.2 s.1 s.2
  omega
theorem ttl_in {nu pr ga co D : Nat → Int32} (hn : nOK nu pr ga) (hD : dOK D) {sh : Int} {q : Nat} (hq : q < 1024) : -982941696 ≤ ttl nu pr ga co D sh q ∧ ttl nu pr ga co D sh q ≤ 17987567616 := by
  unfold ttl
  have a := cst_in hn hD (co := co) (sh := sh) (w := 0) hq
  have b := cst_in hn hD (co := co) (sh := sh) (w := 1) hq
  have c := cst_in hn hD (co := co) (sh := sh) (w := 2) hq
  omega
theorem iK_div {a b : Int} (h1 : 0 ≤ a) (h2 : a < 2147483648) (h3 : 0 < b) (h4 : b < 2147483648) : iK a / iK b = iK (a / b) := by
  apply Int32.toInt_inj.mp
  have k1 : 0 ≤ a / b := Int.ediv_nonneg h1 (Int.le_of_lt h3)
  have k2 : a / b ≤ a := Int.ediv_le_self b h1
  rw [Int32.toInt_div, iK_toInt ⟨by omega, h2⟩, iK_toInt ⟨by omega, h4⟩, iK_toInt ⟨by omega, by omega⟩, Int.tdiv_eq_ediv_of_nonneg h1]
  exact Int.bmod_eq_of_le (by omega) (by omega)
theorem pdu_in {ru co : Nat → Int32} {i : Nat} (h : rwOK ru co i) (s o : Int32) : 0 ≤ (pdu ru co i s o).toInt ∧ (pdu ru co i s o).toInt ≤ 64 := by
  have z : (0 : Int32).toInt = 0 := rfl
  have v : (64 : Int32).toInt = 64 := rfl
  unfold pdu
  split
  · rw [v]; omega
  · split
    · split
      · rw [v]; omega
      · rw [z]; omega
    · split
      · rename_i k
        obtain ⟨_, k2⟩ := h.2.2.1 k
        unfold rg at k2
        split
        · split
          · rw [← iK_self (ru (4 * i + 3)), show (8 : Int32) = iK 8 from rfl, iK_mul, iK_toInt (by omega)]
            omega
          · rw [v]; omega
        · rw [z]; omega
      · split
        · split
          · rw [z]; omega
          · rw [v]; omega
        · split
          · rw [cl_K]; exact cI_in (by decide)
          · rw [z]; omega
theorem due_in {ru co : Nat → Int32} (s o : Int32) (f : Nat) : ∀ i, (∀ j, j ≤ i → rwOK ru co j) → 0 ≤ (du ru co s o f i).1.toInt ∧ 0 ≤ (du ru co s o f i).2.toInt ∧ (du ru co s o f i).1.toInt + (du ru co s o f i).2.toInt ≤ 64 := by
  induction f with
  | zero => intro i _; show (0 : Int) ≤ (0 : Int32).toInt ∧ (0 : Int) ≤ (0 : Int32).toInt ∧ (0 : Int32).toInt + (0 : Int32).toInt ≤ 64; decide
  | succ f ih =>
    intro i h
    unfold du
    split
    · rename_i k
      obtain ⟨_, r2, r3⟩ := (h i (Nat.le_refl i)).2.2.2.1 k
      have q := ih (ru (4 * i + 1)).toNatClampNeg (fun j hj => h j (by omega))
      generalize du ru co s o f (ru (4 * i + 1)).toNatClampNeg = D at q ⊢
      unfold rg at r3
      have m := mb (x := (ru (4 * i + 2)).toInt) (y := D.1.toInt) (X := 8) (Y := 64) r3.1 r3.2 q.1 (by omega)
      have e1 : ru (4 * i + 2) * D.1 / 8 = iK ((ru (4 * i + 2)).toInt * D.1.toInt / 8) := by
        rw [← iK_div m.1 (by omega) (by decide) (by decide), ← iK_mul, iK_self, iK_self]; rfl
      have m2 : (8 - (ru (4 * i + 2)).toInt) * D.1.toInt = 8 * D.1.toInt - (ru (4 * i + 2)).toInt * D.1.toInt := Int.sub_mul _ _ _
      have m3 := mb (x := 8 - (ru (4 * i + 2)).toInt) (y := D.1.toInt) (X := 8) (Y := 64) (by omega) (by omega) q.1 (by omega)
      have e2 : D.1 - iK ((ru (4 * i + 2)).toInt * D.1.toInt / 8) = iK (D.1.toInt - (ru (4 * i + 2)).toInt * D.1.toInt / 8) := by
        rw [← iK_sub, iK_self]
      have e3 : D.2 + iK ((ru (4 * i + 2)).toInt * D.1.toInt / 8) = iK (D.2.toInt + (ru (4 * i + 2)).toInt * D.1.toInt / 8) := by
        rw [← iK_add, iK_self]
      simp only [e1, e2, e3]
      rw [iK_toInt (by omega), iK_toInt (by omega)]
      omega
    · have q := pdu_in (h i (Nat.le_refl i)) s o
      have z : (0 : Int32).toInt = 0 := rfl
      simp only [z]
      omega
/-- the row of a rule's DUES, as the reference finds it -/
def dRow (ru co : Nat → Int32) (i : Nat) : Nat → Int32 := fun k => if k < 64 then (due ru co (nI (k / 8)) (nI (k % 8)) i).1 else (due ru co (nI ((k - 64) / 8)) (nI ((k - 64) % 8)) i).2
theorem dRow_OK {ru co : Nat → Int32} {i : Nat} (h : ∀ j, j ≤ i → rwOK ru co j) : dOK (dRow ru co i) := by
  intro k hk
  have e1 : dRow ru co i k = (due ru co (nI (k / 8)) (nI (k % 8)) i).1 := by unfold dRow; rw [if_pos hk]
  have e2 : dRow ru co i (64 + k) = (due ru co (nI (k / 8)) (nI (k % 8)) i).2 := by unfold dRow; rw [if_neg (by omega), show 64 + k - 64 = k by omega]
  rw [e1, e2]
  exact due_in _ _ _ i h
