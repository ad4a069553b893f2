/-! ===== the class: its numbers, its field ===== -/
/-- the class's numbers, prices, gains, settings are the reference's -/
def cw (I : ab_I) (nu pr ga : Nat → Int32) : Prop := (I 31 0 = nu 0 ∧ I 31 1 = nu 1 ∧ I 35 0 = nu 2 ∧ I 35 1 = nu 3) ∧ (∀ i, i < 8 → I 33 i = pr i ∧ I 34 i = pr (8 + i)) ∧ (∀ i, i < 4 → I 37 i = ga i ∧ I 38 i = ga (4 + i)) ∧ ∀ j, j < 5 → I 39 j = nu (5 + j)
theorem cw_d {l r : List Nat} {I I' : ab_I} {nu pr ga : Nat → Int32} (h : dfr l r I I') (w : cw I nu pr ga) (hl : 31 ∉ l ∧ 33 ∉ l ∧ 34 ∉ l ∧ 35 ∉ l ∧ 37 ∉ l ∧ 38 ∉ l ∧ 39 ∉ l) : cw I' nu pr ga := by
  unfold cw
  rw [h.1 31 hl.1 (by decide), h.1 33 hl.2.1 (by decide), h.1 34 hl.2.2.1 (by decide), h.1 35 hl.2.2.2.1 (by decide), h.1 37 hl.2.2.2.2.1 (by decide), h.1 38 hl.2.2.2.2.2.1 (by decide), h.1 39 hl.2.2.2.2.2.2 (by decide)]
  exact w
theorem REL_cw {SL : Nat} {xs : Nat → Int32} {g : ab_G} {I : ab_I} {J : ab_J} (hR : REL SL xs g I J) : cw I (I 103) (I 104) (I 105) := by
  obtain ⟨⟨⟨a1, a2, a3, a4, a5⟩, _⟩, ⟨b1, _, b3, _⟩, ⟨c1, _⟩, _⟩ := hR.2.1.1
  exact ⟨⟨a1, a2, a3, a4⟩, b1, b3, c1⟩
theorem REL_nOK {SL : Nat} {xs : Nat → Int32} {g : ab_G} {I : ab_I} {J : ab_J} (hR : REL SL xs g I J) : nOK (I 103) (I 104) (I 105) := by
  obtain ⟨⟨_, a⟩, ⟨_, b2, _, b4⟩, ⟨_, c2, c3, c4, c5, c6⟩, _⟩ := hR.2.1.1
  exact ⟨a, b2, b4, c2, c3, c4, c5, c6⟩
theorem gd_nn {f : Nat → Int32} {n : Nat} (h : gd f n) : n ≠ 0 := fun e => by rw [e] at h; exact absurd h.1 (by simp [hg_])
theorem cn_nI {co : Nat → Int32} {r : Nat} (h : gd (cr co r) (cn co r)) : co (125 * r) = nI (cn co r) := by
  by_cases k : co (125 * r) < 0
  · exfalso
    have : cn co r = 0 := by
      unfold cn
      rw [Int32.toNatClampNeg]
      rw [Int32.lt_iff_toInt_lt] at k
      exact Int.toNat_of_nonpos (Int.le_of_lt k)
    exact gd_nn h this
  · obtain ⟨j, hj, e⟩ := nI_of (x := co (125 * r)) k
    unfold cn; rw [e, nI_clamp hj]
theorem REL_hmW {SL : Nat} {xs : Nat → Int32} {g : ab_G} {I : ab_I} {J : ab_J} (hR : REL SL xs g I J) : hmW (I 103) (I 107) := by
  rcases hR.2.1.2.2 with ⟨_, h⟩ | ⟨o, _, h, hm⟩
  · exact Or.inl h
  · obtain ⟨_, _, ⟨t1, _, k1⟩, t2, _, k2⟩ := hm
    obtain ⟨_, _, s1, _, _, _, _, g1, _⟩ := k1
    obtain ⟨_, _, s2, _, _, _, _, g2, _⟩ := k2
    exact Or.inr ⟨by rw [h]; decide, g1, cn_nI g1, g2, cn_nI g2⟩
theorem REL_wrl {SL : Nat} {xs : Nat → Int32} {g : ab_G} {I : ab_I} {J : ab_J} (_ : REL SL xs g I J) : wrl I (I 103) (I 104) (I 105) (I 106) (I 107) := ⟨rfl, rfl, rfl, rfl, rfl⟩
def chc (nu co : Nat → Int32) (q : Nat) : Int := if nu 10 = 0 then -64 else cI (rcq co q).toInt (-64) 128
/-- the Field stands as the reference's numbers ask -/
def fld (I : ab_I) (nu co : Nat → Int32) : Prop := I 61 5 = nI (tW nu 1024).length ∧ (∀ i, i < (tW nu 1024).length → I 64 i = nI ((tW nu 1024).getD i 0)) ∧ ∀ q, q ∈ tW nu 1024 → I 65 q = nI ((q / 4 % 4) * (q % 4)) ∧ I 62 q = iK (chc nu co q) ∧ I 63 q = iK (hut nu co q)
theorem fld_d {l r : List Nat} {I I' : ab_I} {nu co : Nat → Int32} (h : dfr l r I I') (w : fld I nu co) (hl : 61 ∉ l ∧ 62 ∉ l ∧ 63 ∉ l ∧ 64 ∉ l ∧ 65 ∉ l) : fld I' nu co := by
  unfold fld
  rw [h.1 61 hl.1 (by decide), h.1 62 hl.2.1 (by decide), h.1 63 hl.2.2.1 (by decide), h.1 64 hl.2.2.2.1 (by decide), h.1 65 hl.2.2.2.2 (by decide)]
  exact w
theorem chn_chc {nu co : Nat → Int32} {q : Nat} {s : Int} (h1 : -64 ≤ s) (h2 : s ≤ 64) : cI (chc nu co q + s) 0 64 = chn nu co s q := by
  unfold chc chn
  split
  · unfold cI; split <;> (try split) <;> omega
  · exact cI_twice h1 h2
theorem chc_in {nu co : Nat → Int32} {q : Nat} : -64 ≤ chc nu co q ∧ chc nu co q ≤ 128 := by
  unfold chc; split
  · omega
  · exact cI_in (by decide)
theorem clamp_K {x b c : Int} (hx : -2147483648 ≤ x ∧ x < 2147483648) (hb : -2147483648 ≤ b ∧ b < 2147483648) (hc : -2147483648 ≤ c ∧ c < 2147483648) (hbc : b ≤ c) : (if iK b < (if iK x < iK c then iK x else iK c) then (if iK x < iK c then iK x else iK c) else iK b) = iK (cI x b c) := by
  unfold cI
  simp only [iK_lt hx hc]
  by_cases h1 : x < c
  · simp only [h1, if_true, iK_lt hb hx]
    by_cases h2 : x < b
    · have h3 : ¬ b < x := by omega
      simp only [h2, h3, if_true, if_false]
    · have h4 : ¬ c < x := by omega
      by_cases h3 : b < x
      · simp only [h2, h3, h4, if_true, if_false]
      · simp only [h2, h3, h4, if_false]; congr 1; omega
  · simp only [h1, if_false, iK_lt hb hc]
    have h2 : ¬ x < b := by omega
    by_cases h3 : c < x
    · by_cases h4 : b < c
      · simp only [h2, h3, h4, if_true, if_false]
      · simp only [h2, h3, h4, if_true, if_false]; congr 1; omega
    · by_cases h4 : b < c
      · simp only [h2, h3, h4, if_true, if_false]; congr 1; omega
      · simp only [h2, h3, h4, if_false]; congr 1; omega
theorem ob : ∀ o : Fin 32, nI o.val &&& 3 = nI (o.val % 4) ∧ nI o.val >>> (2 : Int32) = nI (o.val / 4) := by decide +kernel
/-- what own doings cost, by their number -/
def oc (pr ga : Nat → Int32) (w o : Nat) : Int := 32768 * (((o % 4 : Nat) : Int) * (pr (8 * w + o / 4)).toInt - (ga (4 * w + o % 4)).toInt)
theorem oc_q {pr ga : Nat → Int32} {w q : Nat} (hw : w < 2) (hq : q < 1024) : oc pr ga w (onq w q) = owq pr ga w q := by
  unfold oc onq owq
  have : w = 0 ∨ w = 1 := by omega
  rcases this with rfl | rfl
  · simp only [if_true]
    rw [show (q / 128 * 4 + q / 4 % 4) % 4 = q / 4 % 4 by omega, show 8 * 0 + (q / 128 * 4 + q / 4 % 4) / 4 = q / 128 by omega, show 4 * 0 + q / 4 % 4 = q / 4 % 4 by omega]
  · simp only [Nat.one_ne_zero, if_true, if_false]
    rw [show (q / 16 % 8 * 4 + q % 4) % 4 = q % 4 by omega, show 8 * 1 + (q / 16 % 8 * 4 + q % 4) / 4 = 8 + q / 16 % 8 by omega, show 4 * 1 + q % 4 = 4 + q % 4 by omega]
theorem onq_lt {w q : Nat} (hq : q < 1024) : onq w q < 32 := by unfold onq; split <;> omega
section P40
variable {d SL : Nat} {xs : Nat → Int32} {g : ab_G} {I : ab_I} {J : ab_J} {Q : ab_Q} {nu pr ga ru co D : Nat → Int32} {q i o : Nat} {s : Int32}
set_option maxRecDepth 20000 in
theorem c_St_ownCost0 (hg : gx g) (hc : cw I nu pr ga) (hn : nOK nu pr ga) (ho : o < 32) : ab_run (d + 1) 92 [vR (some 30), vI 0, vI (nI o)] g I J Q ↔ Q (some (vL (lK (oc pr ga 0 o)))) g I J := by
  rw [e92]
  have h := ob ⟨o, ho⟩
  simp only [] at h
  have f1 : vp_in (nI (o / 4)) 8 := vp_in_nI (by omega) (by decide)
  have f2 : (nI (o / 4)).toNatClampNeg = o / 4 := nI_clamp (by omega)
  have f3 : vp_in (nI (o % 4)) 4 := vp_in_nI (by omega) (by decide)
  have f4 : (nI (o % 4)).toNatClampNeg = o % 4 := nI_clamp (by omega)
  have p1 : I 33 (o / 4) = pr (8 * 0 + o / 4) := by
    have := (hc.2.1 (o / 4) (by omega)).1
    rw [this]; congr 1; omega
  have p2 : I 37 (o % 4) = ga (4 * 0 + o % 4) := by
    have := (hc.2.2.1 (o % 4) (by omega)).1
    rw [this]; congr 1; omega
  have k := own_K (g := o % 4) (p := pr (8 * 0 + o / 4)) (x := ga (4 * 0 + o % 4)) (by omega) (hn.2.1 _ (by omega)) (hn.2.2.1 _ (by omega))
  simp (disch := decide) only [k92_0, k92_1, k92_2, k92_3, k92_4, k92_7, k92_8, k92_9, k92_12, k92_13, k92_14, k92_15, k92_16, k92_17, k92_18, k92_19, k92_20, k92_23, k92_24, k92_25, k92_26, k92_27, k92_28, k92_29, k92_30, gl100 hg, gl31 hg, gl32 hg, gl33 hg, gl34 hg, gl35 hg, gl36 hg, gl37 hg, gl38 hg, gl39 hg, gl40 hg, gl41 hg, gl43 hg, gl44 hg, gl45 hg, gl46 hg, gl47 hg, gl48 hg, gl49 hg, gl50 hg, gl51 hg, gl52 hg, gl53 hg, gl55 hg, gl57 hg, gl58 hg, gl59 hg, gl60 hg, gl62 hg, gl63 hg, gl64 hg, gl65 hg, gl66 hg, gl68 hg, gl69 hg, gl70 hg, gl71 hg, gl73 hg, gl74 hg, gl75 hg, gl76 hg, gl78 hg, gl79 hg, gl80 hg, gl81 hg, gl82 hg, gl83 hg, gl84 hg, gl85 hg, gl86 hg, gl87 hg, gl89 hg, gl90 hg, gl91 hg, gl93 hg, gl95 hg, gl97 hg, gl99 hg, gr29_0 hg, gr29_1 hg, gr29_10 hg, gr29_11 hg, gr29_3 hg, gr29_4 hg, gr29_5 hg, gr29_6 hg, gr29_7 hg, gr29_8 hg, gr29_9 hg, gr30_0 hg, gr30_1 hg, gr30_2 hg, gr30_3 hg, gr30_4 hg, gr30_5 hg, gr30_6 hg, gr32_0 hg, gr32_1 hg, gr36_0 hg, gr36_1 hg, gr42_0 hg, gr42_1 hg, gr42_2 hg, gr42_3 hg, gr42_4 hg, gr42_5 hg, gr42_6 hg, gr44_0 hg, gr44_1 hg, gr48_0 hg, gr48_1 hg, gr54_0 hg, gr56_0 hg, gr56_1 hg, gr56_2 hg, gr56_3 hg, gr56_6 hg, gr61_0 hg, gr61_1 hg, gr61_2 hg, gr61_3 hg, gr61_4 hg, gr67_0 hg, gr68_0 hg, gr68_1 hg, gr68_2 hg, gr72_0 hg, gr73_0 hg, gr73_1 hg, gr73_2 hg, gr77_0 hg, gr77_1 hg, gr77_4 hg, gr77_5 hg, gr78_0 hg, gr78_1 hg, gr82_0 hg, gr82_1 hg, gr85_0 hg, gr85_1 hg, gr88_0 hg, gr88_1 hg, gr91_0 hg, gr91_1 hg, gr91_2 hg, gr91_3 hg, gr92_0 hg, gr94_0 hg, gr96_0 hg, gr98_0 hg, gt100 hg, gt29 hg, gt30 hg, gt31 hg, gt32 hg, gt33 hg, gt34 hg, gt35 hg, gt36 hg, gt37 hg, gt38 hg, gt39 hg, gt40 hg, gt41 hg, gt42 hg, gt43 hg, gt44 hg, gt45 hg, gt46 hg, gt47 hg, gt48 hg, gt49 hg, gt50 hg, gt51 hg, gt52 hg, gt53 hg, gt54 hg, gt55 hg, gt56 hg, gt57 hg, gt58 hg, gt59 hg, gt60 hg, gt61 hg, gt62 hg, gt63 hg, gt64 hg, gt65 hg, gt66 hg, gt67 hg, gt68 hg, gt69 hg, gt70 hg, gt71 hg, gt72 hg, gt73 hg, gt74 hg, gt75 hg, gt76 hg, gt77 hg, gt78 hg, gt79 hg, gt80 hg, gt81 hg, gt82 hg, gt83 hg, gt84 hg, gt85 hg, gt86 hg, gt87 hg, gt88 hg, gt89 hg, gt90 hg, gt91 hg, gt92 hg, gt93 hg, gt94 hg, gt95 hg, gt96 hg, gt97 hg, gt98 hg, gt99 hg, ab_inv_I, ab_inv_R, ab_inv_L, ab_inv_0, ab_push_some, ab_push_none, ab_E_sw, ab_E_sw0, true_and, and_true, not_false_eq_true, bit_ite, s2, s3, s4, s5, s7, qi_ite2, ab_bit0, ab_bit1, qi_ite, ql_ite, Nat.reduceLeDiff, d128, d16, d8, d4, d1000, d100, d10, if_true, if_false, ite_self, tn0, tn1, tn2, tn3, tn4, tn5, tn6, tn7, tn8, tn9, tn10, tn11, tn12, tn13, tn14, tn15, tn16, tn17, tn18, tn19, up_ne, up_row, fr_ne, fr_eq, Int32.reduceAdd, Int32.reduceMul, Int32.reduceSub, Int32.reduceDiv, Int32.reduceLT, Int32.reduceLE, Int32.reduceToNatClampNeg, i10, i01, ↓reduceIte, if_true, if_false, h.1, h.2, f1, f2, f3, f4, p1, p2, k, vi 0 2 rfl]
  unfold oc
  exact Iff.rfl
set_option maxRecDepth 20000 in
theorem c_St_ownCost1 (hg : gx g) (hc : cw I nu pr ga) (hn : nOK nu pr ga) (ho : o < 32) : ab_run (d + 1) 92 [vR (some 30), vI 1, vI (nI o)] g I J Q ↔ Q (some (vL (lK (oc pr ga 1 o)))) g I J := by
  rw [e92]
  have h := ob ⟨o, ho⟩
  simp only [] at h
  have f1 : vp_in (nI (o / 4)) 8 := vp_in_nI (by omega) (by decide)
  have f2 : (nI (o / 4)).toNatClampNeg = o / 4 := nI_clamp (by omega)
  have f3 : vp_in (nI (o % 4)) 4 := vp_in_nI (by omega) (by decide)
  have f4 : (nI (o % 4)).toNatClampNeg = o % 4 := nI_clamp (by omega)
  have p1 : I 34 (o / 4) = pr (8 * 1 + o / 4) := by
    have := (hc.2.1 (o / 4) (by omega)).2
    rw [this]
  have p2 : I 38 (o % 4) = ga (4 * 1 + o % 4) := by
    have := (hc.2.2.1 (o % 4) (by omega)).2
    rw [this]
  have k := own_K (g := o % 4) (p := pr (8 * 1 + o / 4)) (x := ga (4 * 1 + o % 4)) (by omega) (hn.2.1 _ (by omega)) (hn.2.2.1 _ (by omega))
  simp (disch := decide) only [k92_0, k92_1, k92_2, k92_3, k92_4, k92_7, k92_8, k92_9, k92_12, k92_13, k92_14, k92_15, k92_16, k92_17, k92_18, k92_19, k92_20, k92_23, k92_24, k92_25, k92_26, k92_27, k92_28, k92_29, k92_30, gl100 hg, gl31 hg, gl32 hg, gl33 hg, gl34 hg, gl35 hg, gl36 hg, gl37 hg, gl38 hg, gl39 hg, gl40 hg, gl41 hg, gl43 hg, gl44 hg, gl45 hg, gl46 hg, gl47 hg, gl48 hg, gl49 hg, gl50 hg, gl51 hg, gl52 hg, gl53 hg, gl55 hg, gl57 hg, gl58 hg, gl59 hg, gl60 hg, gl62 hg, gl63 hg, gl64 hg, gl65 hg, gl66 hg, gl68 hg, gl69 hg, gl70 hg, gl71 hg, gl73 hg, gl74 hg, gl75 hg, gl76 hg, gl78 hg, gl79 hg, gl80 hg, gl81 hg, gl82 hg, gl83 hg, gl84 hg, gl85 hg, gl86 hg, gl87 hg, gl89 hg, gl90 hg, gl91 hg, gl93 hg, gl95 hg, gl97 hg, gl99 hg, gr29_0 hg, gr29_1 hg, gr29_10 hg, gr29_11 hg, gr29_3 hg, gr29_4 hg, gr29_5 hg, gr29_6 hg, gr29_7 hg, gr29_8 hg, gr29_9 hg, gr30_0 hg, gr30_1 hg, gr30_2 hg, gr30_3 hg, gr30_4 hg, gr30_5 hg, gr30_6 hg, gr32_0 hg, gr32_1 hg, gr36_0 hg, gr36_1 hg, gr42_0 hg, gr42_1 hg, gr42_2 hg, gr42_3 hg, gr42_4 hg, gr42_5 hg, gr42_6 hg, gr44_0 hg, gr44_1 hg, gr48_0 hg, gr48_1 hg, gr54_0 hg, gr56_0 hg, gr56_1 hg, gr56_2 hg, gr56_3 hg, gr56_6 hg, gr61_0 hg, gr61_1 hg, gr61_2 hg, gr61_3 hg, gr61_4 hg, gr67_0 hg, gr68_0 hg, gr68_1 hg, gr68_2 hg, gr72_0 hg, gr73_0 hg, gr73_1 hg, gr73_2 hg, gr77_0 hg, gr77_1 hg, gr77_4 hg, gr77_5 hg, gr78_0 hg, gr78_1 hg, gr82_0 hg, gr82_1 hg, gr85_0 hg, gr85_1 hg, gr88_0 hg, gr88_1 hg, gr91_0 hg, gr91_1 hg, gr91_2 hg, gr91_3 hg, gr92_0 hg, gr94_0 hg, gr96_0 hg, gr98_0 hg, gt100 hg, gt29 hg, gt30 hg, gt31 hg, gt32 hg, gt33 hg, gt34 hg, gt35 hg, gt36 hg, gt37 hg, gt38 hg, gt39 hg, gt40 hg, gt41 hg, gt42 hg, gt43 hg, gt44 hg, gt45 hg, gt46 hg, gt47 hg, gt48 hg, gt49 hg, gt50 hg, gt51 hg, gt52 hg, gt53 hg, gt54 hg, gt55 hg, gt56 hg, gt57 hg, gt58 hg, gt59 hg, gt60 hg, gt61 hg, gt62 hg, gt63 hg, gt64 hg, gt65 hg, gt66 hg, gt67 hg, gt68 hg, gt69 hg, gt70 hg, gt71 hg, gt72 hg, gt73 hg, gt74 hg, gt75 hg, gt76 hg, gt77 hg, gt78 hg, gt79 hg, gt80 hg, gt81 hg, gt82 hg, gt83 hg, gt84 hg, gt85 hg, gt86 hg, gt87 hg, gt88 hg, gt89 hg, gt90 hg, gt91 hg, gt92 hg, gt93 hg, gt94 hg, gt95 hg, gt96 hg, gt97 hg, gt98 hg, gt99 hg, ab_inv_I, ab_inv_R, ab_inv_L, ab_inv_0, ab_push_some, ab_push_none, ab_E_sw, ab_E_sw0, true_and, and_true, not_false_eq_true, bit_ite, s2, s3, s4, s5, s7, qi_ite2, ab_bit0, ab_bit1, qi_ite, ql_ite, Nat.reduceLeDiff, d128, d16, d8, d4, d1000, d100, d10, if_true, if_false, ite_self, tn0, tn1, tn2, tn3, tn4, tn5, tn6, tn7, tn8, tn9, tn10, tn11, tn12, tn13, tn14, tn15, tn16, tn17, tn18, tn19, up_ne, up_row, fr_ne, fr_eq, Int32.reduceAdd, Int32.reduceMul, Int32.reduceSub, Int32.reduceDiv, Int32.reduceLT, Int32.reduceLE, Int32.reduceToNatClampNeg, i10, i01, ↓reduceIte, if_true, if_false, h.1, h.2, f1, f2, f3, f4, p1, p2, k, vi 1 2 rfl]
  unfold oc
  exact Iff.rfl
set_option maxRecDepth 20000 in
theorem c_Fl_chanceAt (hg : gx g) (hq : q < 1024) (hv : I 62 q = iK (chc nu co q)) (s1 : -64 ≤ s.toInt) (s2 : s.toInt ≤ 64) : ab_run (d + 3) 64 [vR (some 61), vI (nI q), vI s] g I J Q ↔ Q (some (vI (iK (chn nu co s.toInt q)))) g I J := by
  rw [e64]
  have f1 : vp_in (nI q) 1024 := vp_in_nI hq (by decide)
  have f2 : (nI q).toNatClampNeg = q := nI_clamp (by omega)
  have ci := chc_in (nu := nu) (co := co) (q := q)
  have k1 : iK (chc nu co q) + s = iK (chc nu co q + s.toInt) := by rw [← iK_add, iK_self]
  have k2 : (if (0 : Int32) < (if iK (chc nu co q + s.toInt) < 64 then iK (chc nu co q + s.toInt) else 64) then (if iK (chc nu co q + s.toInt) < 64 then iK (chc nu co q + s.toInt) else 64) else 0) = iK (chn nu co s.toInt q) := by
    rw [← chn_chc s1 s2]; exact clamp_K (b := 0) (c := 64) (by omega) (by omega) (by omega) (by omega)
  simp (disch := decide) only [k64_0, k64_1, k64_3, k64_4, k64_7, k64_8, k64_9, k64_10, k64_11, k64_14, k64_17, gl100 hg, gl31 hg, gl32 hg, gl33 hg, gl34 hg, gl35 hg, gl36 hg, gl37 hg, gl38 hg, gl39 hg, gl40 hg, gl41 hg, gl43 hg, gl44 hg, gl45 hg, gl46 hg, gl47 hg, gl48 hg, gl49 hg, gl50 hg, gl51 hg, gl52 hg, gl53 hg, gl55 hg, gl57 hg, gl58 hg, gl59 hg, gl60 hg, gl62 hg, gl63 hg, gl64 hg, gl65 hg, gl66 hg, gl68 hg, gl69 hg, gl70 hg, gl71 hg, gl73 hg, gl74 hg, gl75 hg, gl76 hg, gl78 hg, gl79 hg, gl80 hg, gl81 hg, gl82 hg, gl83 hg, gl84 hg, gl85 hg, gl86 hg, gl87 hg, gl89 hg, gl90 hg, gl91 hg, gl93 hg, gl95 hg, gl97 hg, gl99 hg, gr29_0 hg, gr29_1 hg, gr29_10 hg, gr29_11 hg, gr29_3 hg, gr29_4 hg, gr29_5 hg, gr29_6 hg, gr29_7 hg, gr29_8 hg, gr29_9 hg, gr30_0 hg, gr30_1 hg, gr30_2 hg, gr30_3 hg, gr30_4 hg, gr30_5 hg, gr30_6 hg, gr32_0 hg, gr32_1 hg, gr36_0 hg, gr36_1 hg, gr42_0 hg, gr42_1 hg, gr42_2 hg, gr42_3 hg, gr42_4 hg, gr42_5 hg, gr42_6 hg, gr44_0 hg, gr44_1 hg, gr48_0 hg, gr48_1 hg, gr54_0 hg, gr56_0 hg, gr56_1 hg, gr56_2 hg, gr56_3 hg, gr56_6 hg, gr61_0 hg, gr61_1 hg, gr61_2 hg, gr61_3 hg, gr61_4 hg, gr67_0 hg, gr68_0 hg, gr68_1 hg, gr68_2 hg, gr72_0 hg, gr73_0 hg, gr73_1 hg, gr73_2 hg, gr77_0 hg, gr77_1 hg, gr77_4 hg, gr77_5 hg, gr78_0 hg, gr78_1 hg, gr82_0 hg, gr82_1 hg, gr85_0 hg, gr85_1 hg, gr88_0 hg, gr88_1 hg, gr91_0 hg, gr91_1 hg, gr91_2 hg, gr91_3 hg, gr92_0 hg, gr94_0 hg, gr96_0 hg, gr98_0 hg, gt100 hg, gt29 hg, gt30 hg, gt31 hg, gt32 hg, gt33 hg, gt34 hg, gt35 hg, gt36 hg, gt37 hg, gt38 hg, gt39 hg, gt40 hg, gt41 hg, gt42 hg, gt43 hg, gt44 hg, gt45 hg, gt46 hg, gt47 hg, gt48 hg, gt49 hg, gt50 hg, gt51 hg, gt52 hg, gt53 hg, gt54 hg, gt55 hg, gt56 hg, gt57 hg, gt58 hg, gt59 hg, gt60 hg, gt61 hg, gt62 hg, gt63 hg, gt64 hg, gt65 hg, gt66 hg, gt67 hg, gt68 hg, gt69 hg, gt70 hg, gt71 hg, gt72 hg, gt73 hg, gt74 hg, gt75 hg, gt76 hg, gt77 hg, gt78 hg, gt79 hg, gt80 hg, gt81 hg, gt82 hg, gt83 hg, gt84 hg, gt85 hg, gt86 hg, gt87 hg, gt88 hg, gt89 hg, gt90 hg, gt91 hg, gt92 hg, gt93 hg, gt94 hg, gt95 hg, gt96 hg, gt97 hg, gt98 hg, gt99 hg, ab_inv_I, ab_inv_R, ab_inv_L, ab_inv_0, ab_push_some, ab_push_none, ab_E_sw, ab_E_sw0, true_and, and_true, not_false_eq_true, bit_ite, s2, s3, s4, s5, s7, qi_ite2, ab_bit0, ab_bit1, qi_ite, ql_ite, Nat.reduceLeDiff, d128, d16, d8, d4, d1000, d100, d10, if_true, if_false, ite_self, tn0, tn1, tn2, tn3, tn4, tn5, tn6, tn7, tn8, tn9, tn10, tn11, tn12, tn13, tn14, tn15, tn16, tn17, tn18, tn19, up_ne, up_row, fr_ne, fr_eq, Int32.reduceAdd, Int32.reduceMul, Int32.reduceSub, Int32.reduceDiv, Int32.reduceLT, Int32.reduceLE, Int32.reduceToNatClampNeg, i10, i01, ↓reduceIte, if_true, if_false, f1, f2, hv, k1, c_Math_min, c_Math_max, k2]
set_option maxRecDepth 20000 in
theorem c_Fl_timesAt (hg : gx g) (hq : q < 1024) (hb : I 65 q = nI ((q / 4 % 4) * (q % 4))) (hv : I 62 q = iK (chc nu co q)) (s1 : -64 ≤ s.toInt) (s2 : s.toInt ≤ 64) : ab_run (d + 4) 93 [vR (some 61), vI (nI q), vI s] g I J Q ↔ Q (some (vI (iK (tms nu co s.toInt q)))) g I J := by
  rw [e93]
  have f1 : vp_in (nI q) 1024 := vp_in_nI hq (by decide)
  have f2 : (nI q).toNatClampNeg = q := nI_clamp (by omega)
  unfold tms
  by_cases z : (q / 4 % 4) * (q % 4) = 0
  · have z1 : I 65 q = 0 := by rw [hb, z]; rfl
    have z2 : (((q / 4 % 4 : Nat) : Int) * ((q % 4 : Nat) : Int)) = 0 := by rw [← Int.natCast_mul, z]; rfl
    rw [z2, Int.mul_zero]
    simp (disch := decide) only [k93_0, k93_1, k93_4, k93_5, k93_6, k93_9, k93_10, k93_13, k93_14, k93_17, k93_18, k93_19, k93_20, k93_21, k93_22, k93_25, k93_26, gl100 hg, gl31 hg, gl32 hg, gl33 hg, gl34 hg, gl35 hg, gl36 hg, gl37 hg, gl38 hg, gl39 hg, gl40 hg, gl41 hg, gl43 hg, gl44 hg, gl45 hg, gl46 hg, gl47 hg, gl48 hg, gl49 hg, gl50 hg, gl51 hg, gl52 hg, gl53 hg, gl55 hg, gl57 hg, gl58 hg, gl59 hg, gl60 hg, gl62 hg, gl63 hg, gl64 hg, gl65 hg, gl66 hg, gl68 hg, gl69 hg, gl70 hg, gl71 hg, gl73 hg, gl74 hg, gl75 hg, gl76 hg, gl78 hg, gl79 hg, gl80 hg, gl81 hg, gl82 hg, gl83 hg, gl84 hg, gl85 hg, gl86 hg, gl87 hg, gl89 hg, gl90 hg, gl91 hg, gl93 hg, gl95 hg, gl97 hg, gl99 hg, gr29_0 hg, gr29_1 hg, gr29_10 hg, gr29_11 hg, gr29_3 hg, gr29_4 hg, gr29_5 hg, gr29_6 hg, gr29_7 hg, gr29_8 hg, gr29_9 hg, gr30_0 hg, gr30_1 hg, gr30_2 hg, gr30_3 hg, gr30_4 hg, gr30_5 hg, gr30_6 hg, gr32_0 hg, gr32_1 hg, gr36_0 hg, gr36_1 hg, gr42_0 hg, gr42_1 hg, gr42_2 hg, gr42_3 hg, gr42_4 hg, gr42_5 hg, gr42_6 hg, gr44_0 hg, gr44_1 hg, gr48_0 hg, gr48_1 hg, gr54_0 hg, gr56_0 hg, gr56_1 hg, gr56_2 hg, gr56_3 hg, gr56_6 hg, gr61_0 hg, gr61_1 hg, gr61_2 hg, gr61_3 hg, gr61_4 hg, gr67_0 hg, gr68_0 hg, gr68_1 hg, gr68_2 hg, gr72_0 hg, gr73_0 hg, gr73_1 hg, gr73_2 hg, gr77_0 hg, gr77_1 hg, gr77_4 hg, gr77_5 hg, gr78_0 hg, gr78_1 hg, gr82_0 hg, gr82_1 hg, gr85_0 hg, gr85_1 hg, gr88_0 hg, gr88_1 hg, gr91_0 hg, gr91_1 hg, gr91_2 hg, gr91_3 hg, gr92_0 hg, gr94_0 hg, gr96_0 hg, gr98_0 hg, gt100 hg, gt29 hg, gt30 hg, gt31 hg, gt32 hg, gt33 hg, gt34 hg, gt35 hg, gt36 hg, gt37 hg, gt38 hg, gt39 hg, gt40 hg, gt41 hg, gt42 hg, gt43 hg, gt44 hg, gt45 hg, gt46 hg, gt47 hg, gt48 hg, gt49 hg, gt50 hg, gt51 hg, gt52 hg, gt53 hg, gt54 hg, gt55 hg, gt56 hg, gt57 hg, gt58 hg, gt59 hg, gt60 hg, gt61 hg, gt62 hg, gt63 hg, gt64 hg, gt65 hg, gt66 hg, gt67 hg, gt68 hg, gt69 hg, gt70 hg, gt71 hg, gt72 hg, gt73 hg, gt74 hg, gt75 hg, gt76 hg, gt77 hg, gt78 hg, gt79 hg, gt80 hg, gt81 hg, gt82 hg, gt83 hg, gt84 hg, gt85 hg, gt86 hg, gt87 hg, gt88 hg, gt89 hg, gt90 hg, gt91 hg, gt92 hg, gt93 hg, gt94 hg, gt95 hg, gt96 hg, gt97 hg, gt98 hg, gt99 hg, ab_inv_I, ab_inv_R, ab_inv_L, ab_inv_0, ab_push_some, ab_push_none, ab_E_sw, ab_E_sw0, true_and, and_true, not_false_eq_true, bit_ite, s2, s3, s4, s5, s7, qi_ite2, ab_bit0, ab_bit1, qi_ite, ql_ite, Nat.reduceLeDiff, d128, d16, d8, d4, d1000, d100, d10, if_true, if_false, ite_self, tn0, tn1, tn2, tn3, tn4, tn5, tn6, tn7, tn8, tn9, tn10, tn11, tn12, tn13, tn14, tn15, tn16, tn17, tn18, tn19, up_ne, up_row, fr_ne, fr_eq, Int32.reduceAdd, Int32.reduceMul, Int32.reduceSub, Int32.reduceDiv, Int32.reduceLT, Int32.reduceLE, Int32.reduceToNatClampNeg, i10, i01, ↓reduceIte, if_true, if_false, f1, f2, z1]
    exact Iff.rfl
  · have z1 : ¬ nI ((q / 4 % 4) * (q % 4)) = 0 := by
      have m : (q / 4 % 4) * (q % 4) ≤ 3 * 3 := Nat.mul_le_mul (by omega) (by omega)
      exact fun e => z ((nI_eq (b := 0) (by omega) (by omega)).mp e)
    have k : nI ((q / 4 % 4) * (q % 4)) * iK (chn nu co s.toInt q) = iK (chn nu co s.toInt q * (((q / 4 % 4 : Nat) : Int) * ((q % 4 : Nat) : Int))) := by
      rw [nI_K, iK_mul, Int.natCast_mul, Int.mul_comm]
    simp (disch := decide) only [k93_0, k93_1, k93_4, k93_5, k93_6, k93_9, k93_10, k93_13, k93_14, k93_17, k93_18, k93_19, k93_20, k93_21, k93_22, k93_25, k93_26, gl100 hg, gl31 hg, gl32 hg, gl33 hg, gl34 hg, gl35 hg, gl36 hg, gl37 hg, gl38 hg, gl39 hg, gl40 hg, gl41 hg, gl43 hg, gl44 hg, gl45 hg, gl46 hg, gl47 hg, gl48 hg, gl49 hg, gl50 hg, gl51 hg, gl52 hg, gl53 hg, gl55 hg, gl57 hg, gl58 hg, gl59 hg, gl60 hg, gl62 hg, gl63 hg, gl64 hg, gl65 hg, gl66 hg, gl68 hg, gl69 hg, gl70 hg, gl71 hg, gl73 hg, gl74 hg, gl75 hg, gl76 hg, gl78 hg, gl79 hg, gl80 hg, gl81 hg, gl82 hg, gl83 hg, gl84 hg, gl85 hg, gl86 hg, gl87 hg, gl89 hg, gl90 hg, gl91 hg, gl93 hg, gl95 hg, gl97 hg, gl99 hg, gr29_0 hg, gr29_1 hg, gr29_10 hg, gr29_11 hg, gr29_3 hg, gr29_4 hg, gr29_5 hg, gr29_6 hg, gr29_7 hg, gr29_8 hg, gr29_9 hg, gr30_0 hg, gr30_1 hg, gr30_2 hg, gr30_3 hg, gr30_4 hg, gr30_5 hg, gr30_6 hg, gr32_0 hg, gr32_1 hg, gr36_0 hg, gr36_1 hg, gr42_0 hg, gr42_1 hg, gr42_2 hg, gr42_3 hg, gr42_4 hg, gr42_5 hg, gr42_6 hg, gr44_0 hg, gr44_1 hg, gr48_0 hg, gr48_1 hg, gr54_0 hg, gr56_0 hg, gr56_1 hg, gr56_2 hg, gr56_3 hg, gr56_6 hg, gr61_0 hg, gr61_1 hg, gr61_2 hg, gr61_3 hg, gr61_4 hg, gr67_0 hg, gr68_0 hg, gr68_1 hg, gr68_2 hg, gr72_0 hg, gr73_0 hg, gr73_1 hg, gr73_2 hg, gr77_0 hg, gr77_1 hg, gr77_4 hg, gr77_5 hg, gr78_0 hg, gr78_1 hg, gr82_0 hg, gr82_1 hg, gr85_0 hg, gr85_1 hg, gr88_0 hg, gr88_1 hg, gr91_0 hg, gr91_1 hg, gr91_2 hg, gr91_3 hg, gr92_0 hg, gr94_0 hg, gr96_0 hg, gr98_0 hg, gt100 hg, gt29 hg, gt30 hg, gt31 hg, gt32 hg, gt33 hg, gt34 hg, gt35 hg, gt36 hg, gt37 hg, gt38 hg, gt39 hg, gt40 hg, gt41 hg, gt42 hg, gt43 hg, gt44 hg, gt45 hg, gt46 hg, gt47 hg, gt48 hg, gt49 hg, gt50 hg, gt51 hg, gt52 hg, gt53 hg, gt54 hg, gt55 hg, gt56 hg, gt57 hg, gt58 hg, gt59 hg, gt60 hg, gt61 hg, gt62 hg, gt63 hg, gt64 hg, gt65 hg, gt66 hg, gt67 hg, gt68 hg, gt69 hg, gt70 hg, gt71 hg, gt72 hg, gt73 hg, gt74 hg, gt75 hg, gt76 hg, gt77 hg, gt78 hg, gt79 hg, gt80 hg, gt81 hg, gt82 hg, gt83 hg, gt84 hg, gt85 hg, gt86 hg, gt87 hg, gt88 hg, gt89 hg, gt90 hg, gt91 hg, gt92 hg, gt93 hg, gt94 hg, gt95 hg, gt96 hg, gt97 hg, gt98 hg, gt99 hg, ab_inv_I, ab_inv_R, ab_inv_L, ab_inv_0, ab_push_some, ab_push_none, ab_E_sw, ab_E_sw0, true_and, and_true, not_false_eq_true, bit_ite, s2, s3, s4, s5, s7, qi_ite2, ab_bit0, ab_bit1, qi_ite, ql_ite, Nat.reduceLeDiff, d128, d16, d8, d4, d1000, d100, d10, if_true, if_false, ite_self, tn0, tn1, tn2, tn3, tn4, tn5, tn6, tn7, tn8, tn9, tn10, tn11, tn12, tn13, tn14, tn15, tn16, tn17, tn18, tn19, up_ne, up_row, fr_ne, fr_eq, Int32.reduceAdd, Int32.reduceMul, Int32.reduceSub, Int32.reduceDiv, Int32.reduceLT, Int32.reduceLE, Int32.reduceToNatClampNeg, i10, i01, ↓reduceIte, if_true, if_false, f1, f2, hb, z1, c_Fl_chanceAt hg hq hv s1 s2, k]
set_option maxRecDepth 20000 in
theorem c_Fl_plainAt (hg : gx g) (hc : cw I nu pr ga) (hn : nOK nu pr ga) (hf : fld I nu co) (hq : q ∈ tW nu 1024) : ab_run (d + 5) 95 [vR (some 61), vR (some 30), vI (nI q)] g I J Q ↔ Q (some (vL (lK (pln nu pr ga co (nu 9).toInt q)))) g I J := by
  rw [e95]
  have hq1 := (tW_mem.mp hq).1
  obtain ⟨v1, v2, v3⟩ := hf.2.2 q hq
  have f1 : vp_in (nI q) 1024 := vp_in_nI hq1 (by decide)
  have f2 : (nI q).toNatClampNeg = q := nI_clamp (by omega)
  have h9 : I 39 4 = nu 9 := hc.2.2.2 4 (by decide)
  have r9 := hn.2.2.2.2.2.2.2
  have o0 : q / 128 * 4 + q / 4 % 4 < 32 := by omega
  have o1 : q / 16 % 8 * 4 + q % 4 < 32 := by omega
  have e0 : oc pr ga 0 (q / 128 * 4 + q / 4 % 4) = owq pr ga 0 q := oc_q (w := 0) (by decide) hq1
  have e1 : oc pr ga 1 (q / 16 % 8 * 4 + q % 4) = owq pr ga 1 q := oc_q (w := 1) (by decide) hq1
  have ti := tms_in (nu := nu) (co := co) (sh := (nu 9).toInt) (q := q)
  have hi := hut_in (nu := nu) (co := co) (q := q)
  have t1 : (iK (tms nu co (nu 9).toInt q)).toInt64 = lK (tms nu co (nu 9).toInt q) := iK_l (by omega)
  have t2 : (iK (hut nu co q)).toInt64 = lK (hut nu co q) := iK_l (by omega)
  simp (disch := decide) only [k95_0, k95_1, k95_2, k95_3, k95_4, k95_7, k95_10, k95_11, k95_12, k95_13, k95_14, k95_17, k95_20, k95_21, k95_22, k95_23, k95_24, k95_25, k95_26, k95_29, k95_30, k95_31, k95_34, k95_35, k95_36, k95_39, k95_40, k95_41, k95_42, k95_43, k95_46, k95_47, k95_48, gl100 hg, gl31 hg, gl32 hg, gl33 hg, gl34 hg, gl35 hg, gl36 hg, gl37 hg, gl38 hg, gl39 hg, gl40 hg, gl41 hg, gl43 hg, gl44 hg, gl45 hg, gl46 hg, gl47 hg, gl48 hg, gl49 hg, gl50 hg, gl51 hg, gl52 hg, gl53 hg, gl55 hg, gl57 hg, gl58 hg, gl59 hg, gl60 hg, gl62 hg, gl63 hg, gl64 hg, gl65 hg, gl66 hg, gl68 hg, gl69 hg, gl70 hg, gl71 hg, gl73 hg, gl74 hg, gl75 hg, gl76 hg, gl78 hg, gl79 hg, gl80 hg, gl81 hg, gl82 hg, gl83 hg, gl84 hg, gl85 hg, gl86 hg, gl87 hg, gl89 hg, gl90 hg, gl91 hg, gl93 hg, gl95 hg, gl97 hg, gl99 hg, gr29_0 hg, gr29_1 hg, gr29_10 hg, gr29_11 hg, gr29_3 hg, gr29_4 hg, gr29_5 hg, gr29_6 hg, gr29_7 hg, gr29_8 hg, gr29_9 hg, gr30_0 hg, gr30_1 hg, gr30_2 hg, gr30_3 hg, gr30_4 hg, gr30_5 hg, gr30_6 hg, gr32_0 hg, gr32_1 hg, gr36_0 hg, gr36_1 hg, gr42_0 hg, gr42_1 hg, gr42_2 hg, gr42_3 hg, gr42_4 hg, gr42_5 hg, gr42_6 hg, gr44_0 hg, gr44_1 hg, gr48_0 hg, gr48_1 hg, gr54_0 hg, gr56_0 hg, gr56_1 hg, gr56_2 hg, gr56_3 hg, gr56_6 hg, gr61_0 hg, gr61_1 hg, gr61_2 hg, gr61_3 hg, gr61_4 hg, gr67_0 hg, gr68_0 hg, gr68_1 hg, gr68_2 hg, gr72_0 hg, gr73_0 hg, gr73_1 hg, gr73_2 hg, gr77_0 hg, gr77_1 hg, gr77_4 hg, gr77_5 hg, gr78_0 hg, gr78_1 hg, gr82_0 hg, gr82_1 hg, gr85_0 hg, gr85_1 hg, gr88_0 hg, gr88_1 hg, gr91_0 hg, gr91_1 hg, gr91_2 hg, gr91_3 hg, gr92_0 hg, gr94_0 hg, gr96_0 hg, gr98_0 hg, gt100 hg, gt29 hg, gt30 hg, gt31 hg, gt32 hg, gt33 hg, gt34 hg, gt35 hg, gt36 hg, gt37 hg, gt38 hg, gt39 hg, gt40 hg, gt41 hg, gt42 hg, gt43 hg, gt44 hg, gt45 hg, gt46 hg, gt47 hg, gt48 hg, gt49 hg, gt50 hg, gt51 hg, gt52 hg, gt53 hg, gt54 hg, gt55 hg, gt56 hg, gt57 hg, gt58 hg, gt59 hg, gt60 hg, gt61 hg, gt62 hg, gt63 hg, gt64 hg, gt65 hg, gt66 hg, gt67 hg, gt68 hg, gt69 hg, gt70 hg, gt71 hg, gt72 hg, gt73 hg, gt74 hg, gt75 hg, gt76 hg, gt77 hg, gt78 hg, gt79 hg, gt80 hg, gt81 hg, gt82 hg, gt83 hg, gt84 hg, gt85 hg, gt86 hg, gt87 hg, gt88 hg, gt89 hg, gt90 hg, gt91 hg, gt92 hg, gt93 hg, gt94 hg, gt95 hg, gt96 hg, gt97 hg, gt98 hg, gt99 hg, ab_inv_I, ab_inv_R, ab_inv_L, ab_inv_0, ab_push_some, ab_push_none, ab_E_sw, ab_E_sw0, true_and, and_true, not_false_eq_true, bit_ite, s2, s3, s4, s5, s7, qi_ite2, ab_bit0, ab_bit1, qi_ite, ql_ite, Nat.reduceLeDiff, d128, d16, d8, d4, d1000, d100, d10, if_true, if_false, ite_self, tn0, tn1, tn2, tn3, tn4, tn5, tn6, tn7, tn8, tn9, tn10, tn11, tn12, tn13, tn14, tn15, tn16, tn17, tn18, tn19, up_ne, up_row, fr_ne, fr_eq, Int32.reduceAdd, Int32.reduceMul, Int32.reduceSub, Int32.reduceDiv, Int32.reduceLT, Int32.reduceLE, Int32.reduceToNatClampNeg, i10, i01, ↓reduceIte, if_true, if_false, f1, f2, c_X_ownOf0 hq1, c_X_ownOf1 hq1, c_St_ownCost0 hg hc hn o0, c_St_ownCost1 hg hc hn o1, e0, e1, h9, vi 4 5 rfl, c_Fl_timesAt hg hq1 v1 v2 r9.1 r9.2, v3, t1, t2, lK_add, lK_mul, l_512]
  unfold pln
  have k : owq pr ga 0 q + owq pr ga 1 q + tms nu co (nu 9).toInt q * hut nu co q * 512 = owq pr ga 0 q + owq pr ga 1 q + 512 * (tms nu co (nu 9).toInt q * hut nu co q) := by rw [Int.mul_comm 512]
  rw [k]
end P40
