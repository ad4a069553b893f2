/-! ===== told ===== -/
theorem sl4 : ∀ p : Fin 64, nI p.val <<< (4 : Int32) = nI (16 * p.val) := by decide +kernel
theorem cw64 {v : Int32} : (if 0 < (if v < 64 then v else 64) then (if v < 64 then v else 64) else (0 : Int32)) = cl_ v 0 64 := by
  have h1 := Int32.le_toInt v
  have h2 := Int32.toInt_lt v
  have := clamp_K (x := v.toInt) (b := 0) (c := 64) (by omega) (by omega) (by omega) (by omega)
  rw [iK_self] at this
  rw [cl_iK]; exact this
/-- a failed text: what stands afterwards -/
theorem REL_bad {SL : Nat} {xs : Nat → Int32} {g g' : ab_G} {I I' I'' : ab_I} {J J' : ab_J} {k : Nat} (hR : REL SL xs g I J) (hx : xt g g' I I' J J') (hD : dfr [107, 114] [14, 15, 16, 17, 18, 19, 20, 21] I' I'') (hk : k ≤ 20) (hc : I 103 4 = nI k) (h7 : ∀ y, (y < 125 * k ∨ 2500 ≤ y) → I'' 107 y = I' 107 y) : REL SL xs g' I'' J' := by
  have hn : 128 ≤ ab_n g := hR.1.1.2.2
  have h7' : ∀ y, (y < 125 * k ∨ 2500 ≤ y) → I'' 107 y = I 107 y := fun y hy => by rw [h7 y hy, hx.2.2.1 107 (by omega) (by decide)]
  have r103 : I'' 103 = I 103 := by rw [hD.1 103 (by decide) (by decide), hx.2.2.1 103 (by omega) (by decide)]
  have r101 : I' 101 = I 101 := hx.2.2.1 101 (by omega) (by decide)
  have hrow : ∀ q, q < ab_n g → (q < 56 ∨ 60 < q) → q ≠ 107 → q ≠ 114 → q ≠ 101 → I'' q = I q := fun q h1 h2 h4 h5 h6 => by
    rw [hD.1 q (by simp only [List.mem_cons, List.not_mem_nil, or_false]; omega) h6, hx.2.2.1 q h1 h2]
  have he : ex g g' I I'' := fun q hq ht => by
    have hl : q < ab_n g := Nat.lt_of_not_le fun z => ht (hR.1.2.1 q z)
    have a := hx.2.1 q hl
    exact ⟨a.1, a.2.1, fun f => by rw [a.2.2.1], hrow q hl (by omega) (by omega) (by omega) (by omega)⟩
  refine REL_gen hR (xt_gx hR.1.1 hx) (fun q hq => by rw [hx.2.2.2 q hq]; exact hR.1.2.1 q (Nat.le_trans hx.1 hq)) (fun q hq => ⟨(hx.2.1 q hq).1, (hx.2.1 q hq).2.1⟩) (fun q f hq _ => by rw [(hx.2.1 q hq).2.2.1]) (fun q hq h1 h2 h3 h4 h5 => ?_) (fun y h1 h2 => ?_) (Or.inl ⟨?_, ?_⟩) (fun y _ => by rw [r103]) (fun y hy => h7' y (Or.inl (by rw [hc, nI_clamp (by omega)] at hy; exact hy))) ?_ (fun q hq _ => (hx.2.1 q hq).2.2.2)
  · unfold scI at h1
    simp only [List.mem_cons, List.not_mem_nil, or_false] at h1
    exact hrow q hq (by omega) (by omega) (by omega) (by omega)
  · unfold scF at h1
    rw [hD.2 y (fun e => h1 (by simp only [List.mem_cons, List.not_mem_nil, or_false] at e ⊢; omega)), r101]
  · rw [hrow 54 (by omega) (by decide) (by decide) (by decide) (by decide)]
  · rw [hD.2 13 (by decide), r101]
  · rw [(hx.2.1 30 (by omega)).2.2.1, r103]
    exact ex_stH he (stH_ext (fun y _ => h7' _ (Or.inr (by omega))) hR.2.1.2.2)
theorem rl_told {g : ab_G} {I : ab_I} {n k : Nat} {ru co : Nat → Int32} (h1 : ab_ty g n = 17) (hn : 128 ≤ n) (h2 : ab_R g n 0 = some (n + 1)) (h3 : ab_R g n 1 = some (n + 2)) (h4 : ab_ty g (n + 1) = 1) (h5 : ab_ln g (n + 1) = 64) (h6 : ab_ty g (n + 2) = 1) (h7 : ab_ln g (n + 2) = 64)
    (hA : ∀ q, q < 64 → I (n + 1) q = cl_ (ev (nI (q / 8)) (nI (q % 8)) 0 0 (cr co k) (cn co k)) 0 64) (hB : ∀ q, q < 64 → I (n + 2) q = 0) (i2 : I n 2 = 6) (r0 : ru (4 * k) = 6) (hgd : gd (cr co k) (cn co k)) (hco : co (125 * k) = nI (cn co k)) : rlOK g I n k ru co := by
  have hd : ∀ s o, due ru co s o k = (cl_ (ev s o 0 0 (cr co k) (cn co k)) 0 64, 0) := by
    intro s o
    unfold due du pdu
    rw [r0]
    rw [if_neg (by decide), if_neg (by decide), if_neg (by decide), if_neg (by decide), if_neg (by decide), if_pos rfl]
  refine ⟨h1, hn, ⟨?_, ?_, ?_, ?_, ?_⟩, ⟨n + 1, h2, h4, h5, by omega, fun q hq => ?_⟩, ⟨n + 2, h3, h6, h7, by omega, fun q hq => ?_⟩, ?_, ?_, ?_, ?_⟩
  · rw [r0]; exact ⟨by decide, by decide⟩
  · rw [r0]; intro e; exact absurd e (by decide)
  · rw [r0]; intro e; exact absurd e (by decide)
  · rw [r0]; intro e; exact absurd e (by decide)
  · intro _; exact ⟨hgd, hco⟩
  · rw [hd]; exact hA q hq
  · rw [hd]; exact hB q hq
  · rw [r0]; exact i2
  · rw [r0]; intro e; exact absurd e (by decide)
  · rw [r0]; intro e; exact absurd e (by decide)
  · rw [r0]; intro e; exact absurd e (by decide)
theorem REL_told {SL : Nat} {xs : Nat → Int32} {g g1 g2 : ab_G} {I I1 I2 If : ab_I} {J J1 J2 : ab_J} {k : Nat} (hR : REL SL xs g I J) (hx : xt g g1 I I1 J J1) (hN : nr g1 g2 I1 I2 J1 J2) (hk : k < 20) (hc : I 103 4 = nI k)
    (hI : ∀ q, q < ab_n g → q ∉ scI → q ≠ 30 → q ≠ 54 → q ≠ 101 → q ≠ 103 → q ≠ 106 → q ≠ 107 → If q = I1 q) (h1 : ∀ y, y ∉ scF → y ≠ 13 → If 101 y = I1 101 y) (h57 : If 54 1 = 0) (h13 : If 101 13 = 0) (h33 : If 30 7 = nI (k + 1)) (h103 : If 103 = fr (I1 103) 4 (nI (k + 1))) (h106 : ∀ y, y < 4 * k → If 106 y = I1 106 y) (h107 : ∀ y, (y < 125 * k ∨ 2500 ≤ y) → If 107 y = I1 107 y) (hr : rlOK (ab_setR g2 41 k (some (ab_n g1))) If (ab_n g1) k (If 106) (If 107)) : REL SL xs (ab_setR g2 41 k (some (ab_n g1))) If J2 := by
  have hn : 128 ≤ ab_n g := hR.1.1.2.2
  have hn1 : 128 ≤ ab_n g1 := Nat.le_trans hn hx.1
  have hrow : ∀ q, q < ab_n g → (q < 56 ∨ 60 < q) → I1 q = I q := hx.2.2.1
  generalize hB : (fun q => if q = 30 ∨ q = 103 ∨ q = 106 ∨ q = 107 then I1 q else if q < ab_n g1 then If q else I1 q : ab_I) = Ib
  have b1 : ∀ q, (q = 30 ∨ q = 103 ∨ q = 106 ∨ q = 107) → Ib q = I1 q := fun q hq => by rw [← hB]; exact if_pos hq
  have b2 : ∀ q, ¬ (q = 30 ∨ q = 103 ∨ q = 106 ∨ q = 107) → q < ab_n g1 → Ib q = If q := fun q hq hl => by rw [← hB]; simp only [if_neg hq, if_pos hl]
  have bI : ∀ q, q < ab_n g → q ∉ scI → q ≠ 54 → q ≠ 101 → Ib q = I q := by
    intro q hq h1 h2 h3
    have h59 : q < 56 ∨ 60 < q := by unfold scI at h1; simp only [List.mem_cons, List.not_mem_nil, or_false] at h1; omega
    by_cases e : q = 30 ∨ q = 103 ∨ q = 106 ∨ q = 107
    · rw [b1 q e]; exact hrow q hq h59
    · rw [b2 q e (Nat.lt_of_lt_of_le hq hx.1), hI q hq h1 (by omega) h2 h3 (by omega) (by omega) (by omega)]; exact hrow q hq h59
  have he : ex g g1 I Ib := fun q hq ht => by
    have hl : q < ab_n g := Nat.lt_of_not_le fun z => ht (hR.1.2.1 q z)
    have a := hx.2.1 q hl
    exact ⟨a.1, a.2.1, fun f => by rw [a.2.2.1], bI q hl (by unfold scI; simp only [List.mem_cons, List.not_mem_nil, or_false]; omega) (by omega) (by omega)⟩
  have HB : REL SL xs g1 Ib J1 := by
    refine REL_gen hR (xt_gx hR.1.1 hx) (fun q hq => by rw [hx.2.2.2 q hq]; exact hR.1.2.1 q (Nat.le_trans hx.1 hq)) (fun q hq => ⟨(hx.2.1 q hq).1, (hx.2.1 q hq).2.1⟩) (fun q f hq _ => by rw [(hx.2.1 q hq).2.2.1]) (fun q hq a1 a2 a3 a4 a5 => bI q hq a1 a2 a3) (fun y a1 a2 => ?_) (Or.inr ⟨?_, ?_⟩) (fun y _ => ?_) (fun y hy => ?_) ?_ (fun q hq _ => (hx.2.1 q hq).2.2.2)
    · rw [b2 101 (by decide) (by omega), h1 y a1 a2, hrow 101 (by omega) (by decide)]
    · rw [b2 54 (by decide) (by omega)]; exact h57
    · rw [b2 101 (by decide) (by omega)]; exact h13
    · rw [b1 103 (by decide), hrow 103 (by omega) (by decide)]
    · rw [b1 107 (by decide), hrow 107 (by omega) (by decide)]
    · rw [(hx.2.1 30 (by omega)).2.2.1, b1 103 (by decide), b1 107 (by decide), hrow 103 (by omega) (by decide), hrow 107 (by omega) (by decide)]
      exact ex_stH he hR.2.1.2.2
  have hN' : nr g1 g2 Ib Ib J1 J2 := by
    obtain ⟨n1, n2, n3, n4, n5, n6, n7, n8⟩ := hN
    exact ⟨n1, n2, n3, n4, n5, n6, fun q hq => ⟨(n7 q hq).1, (n7 q hq).2.1, (n7 q hq).2.2.1, rfl, (n7 q hq).2.2.2.2⟩, n8⟩
  refine REL_add HB hN' hk (by rw [b1 103 (by decide), hrow 103 (by omega) (by decide)]; exact hc) (fun q a1 a2 a3 a4 a5 => (b2 q (by omega) (by omega)).symm) h33 (by rw [b1 103 (by decide)]; exact h103) (fun y hy => by rw [b1 106 (by decide)]; exact h106 y hy) (fun y hy => by rw [b1 107 (by decide)]; exact h107 y hy) (fun q a1 a2 => (b2 q (by omega) a2).symm) hr
section P69
variable {d SL : Nat} {xs : Nat → Int32} {g : ab_G} {I : ab_I} {J : ab_J} {Q : ab_Q} {b : Nat → Int32} {n : Nat}
set_option maxRecDepth 20000 in
theorem lp_told {r a c t s N : Nat} {st : Nat → Int32} (hg : gx g) (h1 : ab_ty g r = 17) (h2 : ab_R g r 0 = some a) (h3 : ab_R g r 1 = some c) (h4 : ab_ty g a = 1) (h5 : ab_ln g a = 64) (h6 : ab_ty g c = 1) (h7 : ab_ln g c = 64) (h8 : 128 ≤ a) (h9 : 128 ≤ c) (hab : a ≠ c) (y1 : ab_ty g t = 19) (y2 : ab_R g t 0 = some s) (y3 : ab_ty g s = 1) (y4 : 128 ≤ s) (y5 : ab_ln g s = N) (y6 : s ≠ a) (y7 : s ≠ c) (hgd : gd (fun i => tr (st i)) N) (hst : ∀ i, i < N → -11 ≤ st i) (rem : Nat) : ∀ m I, m + rem = 64 → I s = st → (∀ I', (∀ x, x ≠ 66 → x ≠ a → x ≠ c → I' x = I x) → (∀ q, q < 64 → I' a q = if m ≤ q then cl_ (ev (nI (q / 8)) (nI (q % 8)) 0 0 (fun i => tr (st i)) N) 0 64 else I a q) → (∀ q, q < 64 → I' c q = if m ≤ q then 0 else I c q) → Q none g I' J) → ab_E (d + 3) 75 8 [some (vR (some r)), some (vR (some t)), some (vR (some 66)), some (vI (nI m))] [] 0 0 g I J Q := by
  induction rem with
  | zero =>
    intro m I hm _ hQ
    have e : m = 64 := by omega
    subst e
    have e64 : ¬ nI 64 < 64 := by decide
    rw [k75_8]
    simp (disch := decide) only [k75_0, k75_1, k75_3, k75_6, k75_7, k75_9, k75_11, k75_14, k75_15, k75_18, k75_19, k75_20, k75_21, k75_22, k75_23, k75_24, k75_27, k75_28, k75_30, k75_33, k75_34, k75_35, k75_38, k75_39, k75_40, k75_41, k75_44, k75_47, gl100 hg, gl31 hg, gl32 hg, gl33 hg, gl34 hg, gl35 hg, gl36 hg, gl37 hg, gl38 hg, gl39 hg, gl40 hg, gl41 hg, gl43 hg, gl44 hg, gl45 hg, gl46 hg, gl47 hg, gl48 hg, gl49 hg, gl50 hg, gl51 hg, gl52 hg, gl53 hg, gl55 hg, gl57 hg, gl58 hg, gl59 hg, gl60 hg, gl62 hg, gl63 hg, gl64 hg, gl65 hg, gl66 hg, gl68 hg, gl69 hg, gl70 hg, gl71 hg, gl73 hg, gl74 hg, gl75 hg, gl76 hg, gl78 hg, gl79 hg, gl80 hg, gl81 hg, gl82 hg, gl83 hg, gl84 hg, gl85 hg, gl86 hg, gl87 hg, gl89 hg, gl90 hg, gl91 hg, gl93 hg, gl95 hg, gl97 hg, gl99 hg, gr29_0 hg, gr29_1 hg, gr29_10 hg, gr29_11 hg, gr29_3 hg, gr29_4 hg, gr29_5 hg, gr29_6 hg, gr29_7 hg, gr29_8 hg, gr29_9 hg, gr30_0 hg, gr30_1 hg, gr30_2 hg, gr30_3 hg, gr30_4 hg, gr30_5 hg, gr30_6 hg, gr32_0 hg, gr32_1 hg, gr36_0 hg, gr36_1 hg, gr42_0 hg, gr42_1 hg, gr42_2 hg, gr42_3 hg, gr42_4 hg, gr42_5 hg, gr42_6 hg, gr44_0 hg, gr44_1 hg, gr48_0 hg, gr48_1 hg, gr54_0 hg, gr56_0 hg, gr56_1 hg, gr56_2 hg, gr56_3 hg, gr56_6 hg, gr61_0 hg, gr61_1 hg, gr61_2 hg, gr61_3 hg, gr61_4 hg, gr67_0 hg, gr68_0 hg, gr68_1 hg, gr68_2 hg, gr72_0 hg, gr73_0 hg, gr73_1 hg, gr73_2 hg, gr77_0 hg, gr77_1 hg, gr77_4 hg, gr77_5 hg, gr78_0 hg, gr78_1 hg, gr82_0 hg, gr82_1 hg, gr85_0 hg, gr85_1 hg, gr88_0 hg, gr88_1 hg, gr91_0 hg, gr91_1 hg, gr91_2 hg, gr91_3 hg, gr92_0 hg, gr94_0 hg, gr96_0 hg, gr98_0 hg, gt100 hg, gt29 hg, gt30 hg, gt31 hg, gt32 hg, gt33 hg, gt34 hg, gt35 hg, gt36 hg, gt37 hg, gt38 hg, gt39 hg, gt40 hg, gt41 hg, gt42 hg, gt43 hg, gt44 hg, gt45 hg, gt46 hg, gt47 hg, gt48 hg, gt49 hg, gt50 hg, gt51 hg, gt52 hg, gt53 hg, gt54 hg, gt55 hg, gt56 hg, gt57 hg, gt58 hg, gt59 hg, gt60 hg, gt61 hg, gt62 hg, gt63 hg, gt64 hg, gt65 hg, gt66 hg, gt67 hg, gt68 hg, gt69 hg, gt70 hg, gt71 hg, gt72 hg, gt73 hg, gt74 hg, gt75 hg, gt76 hg, gt77 hg, gt78 hg, gt79 hg, gt80 hg, gt81 hg, gt82 hg, gt83 hg, gt84 hg, gt85 hg, gt86 hg, gt87 hg, gt88 hg, gt89 hg, gt90 hg, gt91 hg, gt92 hg, gt93 hg, gt94 hg, gt95 hg, gt96 hg, gt97 hg, gt98 hg, gt99 hg, ab_inv_I, ab_inv_R, ab_inv_L, ab_inv_0, ab_push_some, ab_push_none, ab_E_sw, ab_E_sw0, true_and, and_true, not_false_eq_true, bit_ite, s2, s3, s4, s5, s7, qi_ite2, ab_bit0, ab_bit1, qi_ite, ql_ite, Nat.reduceLeDiff, d128, d16, d8, d4, d1000, d100, d10, if_true, if_false, ite_self, tn0, tn1, tn2, tn3, tn4, tn5, tn6, tn7, tn8, tn9, tn10, tn11, tn12, tn13, tn14, tn15, tn16, tn17, tn18, tn19, up_ne, up_row, fr_ne, fr_eq, Int32.reduceAdd, Int32.reduceMul, Int32.reduceSub, Int32.reduceDiv, Int32.reduceLT, Int32.reduceLE, Int32.reduceToNatClampNeg, i10, i01, ↓reduceIte, if_true, if_false, e64]
    exact hQ I (fun _ _ _ _ => rfl) (fun q hq => by rw [if_neg (by omega)]) (fun q hq => by rw [if_neg (by omega)])
  | succ rem ih =>
    intro m I hm hs hQ
    have f1 : nI m < 64 := nI_lt (b := 64) (by omega) (by decide)
    have f2 : vp_in (nI m) 64 := vp_in_nI (by omega) (by decide)
    have f3 : (nI m).toNatClampNeg = m := nI_clamp (by omega)
    have f4 : nI m <<< (4 : Int32) = nI (16 * m) := sl4 ⟨m, by omega⟩
    have e1 : 16 * m / 128 = m / 8 := by omega
    have e2 : 16 * m / 16 % 8 = m % 8 := by omega
    have e3 : 16 * m / 4 % 4 = 0 := by omega
    have e4 : 16 * m % 4 = 0 := by omega
    have u8 : 29 ≤ a := by omega
    have u9 : 29 ≤ c := by omega
    rw [k75_8]
    simp (disch := decide) only [k75_0, k75_1, k75_3, k75_6, k75_7, k75_9, k75_11, k75_14, k75_15, k75_18, k75_19, k75_20, k75_21, k75_22, k75_23, k75_24, k75_27, k75_28, k75_30, k75_33, k75_34, k75_35, k75_38, k75_39, k75_40, k75_41, k75_44, k75_47, gl100 hg, gl31 hg, gl32 hg, gl33 hg, gl34 hg, gl35 hg, gl36 hg, gl37 hg, gl38 hg, gl39 hg, gl40 hg, gl41 hg, gl43 hg, gl44 hg, gl45 hg, gl46 hg, gl47 hg, gl48 hg, gl49 hg, gl50 hg, gl51 hg, gl52 hg, gl53 hg, gl55 hg, gl57 hg, gl58 hg, gl59 hg, gl60 hg, gl62 hg, gl63 hg, gl64 hg, gl65 hg, gl66 hg, gl68 hg, gl69 hg, gl70 hg, gl71 hg, gl73 hg, gl74 hg, gl75 hg, gl76 hg, gl78 hg, gl79 hg, gl80 hg, gl81 hg, gl82 hg, gl83 hg, gl84 hg, gl85 hg, gl86 hg, gl87 hg, gl89 hg, gl90 hg, gl91 hg, gl93 hg, gl95 hg, gl97 hg, gl99 hg, gr29_0 hg, gr29_1 hg, gr29_10 hg, gr29_11 hg, gr29_3 hg, gr29_4 hg, gr29_5 hg, gr29_6 hg, gr29_7 hg, gr29_8 hg, gr29_9 hg, gr30_0 hg, gr30_1 hg, gr30_2 hg, gr30_3 hg, gr30_4 hg, gr30_5 hg, gr30_6 hg, gr32_0 hg, gr32_1 hg, gr36_0 hg, gr36_1 hg, gr42_0 hg, gr42_1 hg, gr42_2 hg, gr42_3 hg, gr42_4 hg, gr42_5 hg, gr42_6 hg, gr44_0 hg, gr44_1 hg, gr48_0 hg, gr48_1 hg, gr54_0 hg, gr56_0 hg, gr56_1 hg, gr56_2 hg, gr56_3 hg, gr56_6 hg, gr61_0 hg, gr61_1 hg, gr61_2 hg, gr61_3 hg, gr61_4 hg, gr67_0 hg, gr68_0 hg, gr68_1 hg, gr68_2 hg, gr72_0 hg, gr73_0 hg, gr73_1 hg, gr73_2 hg, gr77_0 hg, gr77_1 hg, gr77_4 hg, gr77_5 hg, gr78_0 hg, gr78_1 hg, gr82_0 hg, gr82_1 hg, gr85_0 hg, gr85_1 hg, gr88_0 hg, gr88_1 hg, gr91_0 hg, gr91_1 hg, gr91_2 hg, gr91_3 hg, gr92_0 hg, gr94_0 hg, gr96_0 hg, gr98_0 hg, gt100 hg, gt29 hg, gt30 hg, gt31 hg, gt32 hg, gt33 hg, gt34 hg, gt35 hg, gt36 hg, gt37 hg, gt38 hg, gt39 hg, gt40 hg, gt41 hg, gt42 hg, gt43 hg, gt44 hg, gt45 hg, gt46 hg, gt47 hg, gt48 hg, gt49 hg, gt50 hg, gt51 hg, gt52 hg, gt53 hg, gt54 hg, gt55 hg, gt56 hg, gt57 hg, gt58 hg, gt59 hg, gt60 hg, gt61 hg, gt62 hg, gt63 hg, gt64 hg, gt65 hg, gt66 hg, gt67 hg, gt68 hg, gt69 hg, gt70 hg, gt71 hg, gt72 hg, gt73 hg, gt74 hg, gt75 hg, gt76 hg, gt77 hg, gt78 hg, gt79 hg, gt80 hg, gt81 hg, gt82 hg, gt83 hg, gt84 hg, gt85 hg, gt86 hg, gt87 hg, gt88 hg, gt89 hg, gt90 hg, gt91 hg, gt92 hg, gt93 hg, gt94 hg, gt95 hg, gt96 hg, gt97 hg, gt98 hg, gt99 hg, ab_inv_I, ab_inv_R, ab_inv_L, ab_inv_0, ab_push_some, ab_push_none, ab_E_sw, ab_E_sw0, true_and, and_true, not_false_eq_true, bit_ite, s2, s3, s4, s5, s7, qi_ite2, ab_bit0, ab_bit1, qi_ite, ql_ite, Nat.reduceLeDiff, d128, d16, d8, d4, d1000, d100, d10, if_true, if_false, ite_self, tn0, tn1, tn2, tn3, tn4, tn5, tn6, tn7, tn8, tn9, tn10, tn11, tn12, tn13, tn14, tn15, tn16, tn17, tn18, tn19, up_ne, up_row, fr_ne, fr_eq, Int32.reduceAdd, Int32.reduceMul, Int32.reduceSub, Int32.reduceDiv, Int32.reduceLT, Int32.reduceLE, Int32.reduceToNatClampNeg, i10, i01, ↓reduceIte, if_true, if_false, f1, f4, h1, h2, y1]
    refine c_Tx_valueAt (N := N) hg y1 y2 y3 y4 y5 (by omega) (by unfold tf; rw [hs]; exact hgd) (fun i hi => by rw [hs]; exact hst i hi) fun I1 E1 => ?_
    unfold tf
    rw [hs, e1, e2, e3, e4]
    simp (disch := decide) only [k75_0, k75_1, k75_3, k75_6, k75_7, k75_9, k75_11, k75_14, k75_15, k75_18, k75_19, k75_20, k75_21, k75_22, k75_23, k75_24, k75_27, k75_28, k75_30, k75_33, k75_34, k75_35, k75_38, k75_39, k75_40, k75_41, k75_44, k75_47, gl100 hg, gl31 hg, gl32 hg, gl33 hg, gl34 hg, gl35 hg, gl36 hg, gl37 hg, gl38 hg, gl39 hg, gl40 hg, gl41 hg, gl43 hg, gl44 hg, gl45 hg, gl46 hg, gl47 hg, gl48 hg, gl49 hg, gl50 hg, gl51 hg, gl52 hg, gl53 hg, gl55 hg, gl57 hg, gl58 hg, gl59 hg, gl60 hg, gl62 hg, gl63 hg, gl64 hg, gl65 hg, gl66 hg, gl68 hg, gl69 hg, gl70 hg, gl71 hg, gl73 hg, gl74 hg, gl75 hg, gl76 hg, gl78 hg, gl79 hg, gl80 hg, gl81 hg, gl82 hg, gl83 hg, gl84 hg, gl85 hg, gl86 hg, gl87 hg, gl89 hg, gl90 hg, gl91 hg, gl93 hg, gl95 hg, gl97 hg, gl99 hg, gr29_0 hg, gr29_1 hg, gr29_10 hg, gr29_11 hg, gr29_3 hg, gr29_4 hg, gr29_5 hg, gr29_6 hg, gr29_7 hg, gr29_8 hg, gr29_9 hg, gr30_0 hg, gr30_1 hg, gr30_2 hg, gr30_3 hg, gr30_4 hg, gr30_5 hg, gr30_6 hg, gr32_0 hg, gr32_1 hg, gr36_0 hg, gr36_1 hg, gr42_0 hg, gr42_1 hg, gr42_2 hg, gr42_3 hg, gr42_4 hg, gr42_5 hg, gr42_6 hg, gr44_0 hg, gr44_1 hg, gr48_0 hg, gr48_1 hg, gr54_0 hg, gr56_0 hg, gr56_1 hg, gr56_2 hg, gr56_3 hg, gr56_6 hg, gr61_0 hg, gr61_1 hg, gr61_2 hg, gr61_3 hg, gr61_4 hg, gr67_0 hg, gr68_0 hg, gr68_1 hg, gr68_2 hg, gr72_0 hg, gr73_0 hg, gr73_1 hg, gr73_2 hg, gr77_0 hg, gr77_1 hg, gr77_4 hg, gr77_5 hg, gr78_0 hg, gr78_1 hg, gr82_0 hg, gr82_1 hg, gr85_0 hg, gr85_1 hg, gr88_0 hg, gr88_1 hg, gr91_0 hg, gr91_1 hg, gr91_2 hg, gr91_3 hg, gr92_0 hg, gr94_0 hg, gr96_0 hg, gr98_0 hg, gt100 hg, gt29 hg, gt30 hg, gt31 hg, gt32 hg, gt33 hg, gt34 hg, gt35 hg, gt36 hg, gt37 hg, gt38 hg, gt39 hg, gt40 hg, gt41 hg, gt42 hg, gt43 hg, gt44 hg, gt45 hg, gt46 hg, gt47 hg, gt48 hg, gt49 hg, gt50 hg, gt51 hg, gt52 hg, gt53 hg, gt54 hg, gt55 hg, gt56 hg, gt57 hg, gt58 hg, gt59 hg, gt60 hg, gt61 hg, gt62 hg, gt63 hg, gt64 hg, gt65 hg, gt66 hg, gt67 hg, gt68 hg, gt69 hg, gt70 hg, gt71 hg, gt72 hg, gt73 hg, gt74 hg, gt75 hg, gt76 hg, gt77 hg, gt78 hg, gt79 hg, gt80 hg, gt81 hg, gt82 hg, gt83 hg, gt84 hg, gt85 hg, gt86 hg, gt87 hg, gt88 hg, gt89 hg, gt90 hg, gt91 hg, gt92 hg, gt93 hg, gt94 hg, gt95 hg, gt96 hg, gt97 hg, gt98 hg, gt99 hg, ab_inv_I, ab_inv_R, ab_inv_L, ab_inv_0, ab_push_some, ab_push_none, ab_E_sw, ab_E_sw0, true_and, and_true, not_false_eq_true, bit_ite, s2, s3, s4, s5, s7, qi_ite2, ab_bit0, ab_bit1, qi_ite, ql_ite, Nat.reduceLeDiff, d128, d16, d8, d4, d1000, d100, d10, if_true, if_false, ite_self, tn0, tn1, tn2, tn3, tn4, tn5, tn6, tn7, tn8, tn9, tn10, tn11, tn12, tn13, tn14, tn15, tn16, tn17, tn18, tn19, up_ne, up_row, fr_ne, fr_eq, Int32.reduceAdd, Int32.reduceMul, Int32.reduceSub, Int32.reduceDiv, Int32.reduceLT, Int32.reduceLE, Int32.reduceToNatClampNeg, i10, i01, ↓reduceIte, if_true, if_false, c_X_clamp, cw64, f2, f3, h1, h2, h3, h4, h5, h6, h7, u8, u9, nI_1]
    refine ih (m + 1) _ (by omega) (by rw [up_ne y7, up_ne y6, E1 s (by omega)]; exact hs) fun I2 x1 x2 x3 => hQ I2 (fun x b1 b2 b3 => ?_) (fun q hq => ?_) (fun q hq => ?_)
    · rw [x1 x b1 b2 b3, up_ne b3, up_ne b2, E1 x b1]
    · rw [x2 q hq, up_ne hab, up_row]
      by_cases k1 : m + 1 ≤ q
      · rw [if_pos k1, if_pos (by omega)]
      · rw [if_neg k1]
        by_cases k2 : q = m
        · subst k2; rw [fr_eq, if_pos (Nat.le_refl _)]; rfl
        · rw [fr_ne k2, if_neg (by omega), E1 a (by omega)]
    · rw [x3 q hq, up_row]
      by_cases k1 : m + 1 ≤ q
      · rw [if_pos k1, if_pos (by omega)]
      · rw [if_neg k1]
        by_cases k2 : q = m
        · subst k2; rw [fr_eq, if_pos (Nat.le_refl _)]
        · rw [fr_ne k2, up_ne (fun e => hab e.symm), if_neg (by omega), E1 c (by omega)]
set_option maxRecDepth 20000 in
theorem c_beTold {r a c t s N : Nat} {st : Nat → Int32} (hg : gx g) (h1 : ab_ty g r = 17) (h2 : ab_R g r 0 = some a) (h3 : ab_R g r 1 = some c) (h4 : ab_ty g a = 1) (h5 : ab_ln g a = 64) (h6 : ab_ty g c = 1) (h7 : ab_ln g c = 64) (h8 : 128 ≤ a) (h9 : 128 ≤ c) (hab : a ≠ c) (y1 : ab_ty g t = 19) (y2 : ab_R g t 0 = some s) (y3 : ab_ty g s = 1) (y4 : 128 ≤ s) (y5 : ab_ln g s = N) (y6 : s ≠ a) (y7 : s ≠ c) (h0 : 29 ≤ r) (x1 : r ≠ a) (x2 : r ≠ c) (x3 : s ≠ r) (hgd : gd (fun i => tr (st i)) N) (hst : ∀ i, i < N → -11 ≤ st i) (hs : I s = st) (hQ : ∀ I', (∀ x, x ≠ 66 → x ≠ a → x ≠ c → I' x = ab_up I r 2 6 x) → (∀ q, q < 64 → I' a q = cl_ (ev (nI (q / 8)) (nI (q % 8)) 0 0 (fun i => tr (st i)) N) 0 64) → (∀ q, q < 64 → I' c q = 0) → Q none g I' J) : ab_run (d + 4) 75 [vR (some r), vR (some t), vR (some 66)] g I J Q := by
  rw [e75]
  simp (disch := decide) only [k75_0, k75_1, k75_3, k75_6, k75_7, k75_9, k75_11, k75_14, k75_15, k75_18, k75_19, k75_20, k75_21, k75_22, k75_23, k75_24, k75_27, k75_28, k75_30, k75_33, k75_34, k75_35, k75_38, k75_39, k75_40, k75_41, k75_44, k75_47, gl100 hg, gl31 hg, gl32 hg, gl33 hg, gl34 hg, gl35 hg, gl36 hg, gl37 hg, gl38 hg, gl39 hg, gl40 hg, gl41 hg, gl43 hg, gl44 hg, gl45 hg, gl46 hg, gl47 hg, gl48 hg, gl49 hg, gl50 hg, gl51 hg, gl52 hg, gl53 hg, gl55 hg, gl57 hg, gl58 hg, gl59 hg, gl60 hg, gl62 hg, gl63 hg, gl64 hg, gl65 hg, gl66 hg, gl68 hg, gl69 hg, gl70 hg, gl71 hg, gl73 hg, gl74 hg, gl75 hg, gl76 hg, gl78 hg, gl79 hg, gl80 hg, gl81 hg, gl82 hg, gl83 hg, gl84 hg, gl85 hg, gl86 hg, gl87 hg, gl89 hg, gl90 hg, gl91 hg, gl93 hg, gl95 hg, gl97 hg, gl99 hg, gr29_0 hg, gr29_1 hg, gr29_10 hg, gr29_11 hg, gr29_3 hg, gr29_4 hg, gr29_5 hg, gr29_6 hg, gr29_7 hg, gr29_8 hg, gr29_9 hg, gr30_0 hg, gr30_1 hg, gr30_2 hg, gr30_3 hg, gr30_4 hg, gr30_5 hg, gr30_6 hg, gr32_0 hg, gr32_1 hg, gr36_0 hg, gr36_1 hg, gr42_0 hg, gr42_1 hg, gr42_2 hg, gr42_3 hg, gr42_4 hg, gr42_5 hg, gr42_6 hg, gr44_0 hg, gr44_1 hg, gr48_0 hg, gr48_1 hg, gr54_0 hg, gr56_0 hg, gr56_1 hg, gr56_2 hg, gr56_3 hg, gr56_6 hg, gr61_0 hg, gr61_1 hg, gr61_2 hg, gr61_3 hg, gr61_4 hg, gr67_0 hg, gr68_0 hg, gr68_1 hg, gr68_2 hg, gr72_0 hg, gr73_0 hg, gr73_1 hg, gr73_2 hg, gr77_0 hg, gr77_1 hg, gr77_4 hg, gr77_5 hg, gr78_0 hg, gr78_1 hg, gr82_0 hg, gr82_1 hg, gr85_0 hg, gr85_1 hg, gr88_0 hg, gr88_1 hg, gr91_0 hg, gr91_1 hg, gr91_2 hg, gr91_3 hg, gr92_0 hg, gr94_0 hg, gr96_0 hg, gr98_0 hg, gt100 hg, gt29 hg, gt30 hg, gt31 hg, gt32 hg, gt33 hg, gt34 hg, gt35 hg, gt36 hg, gt37 hg, gt38 hg, gt39 hg, gt40 hg, gt41 hg, gt42 hg, gt43 hg, gt44 hg, gt45 hg, gt46 hg, gt47 hg, gt48 hg, gt49 hg, gt50 hg, gt51 hg, gt52 hg, gt53 hg, gt54 hg, gt55 hg, gt56 hg, gt57 hg, gt58 hg, gt59 hg, gt60 hg, gt61 hg, gt62 hg, gt63 hg, gt64 hg, gt65 hg, gt66 hg, gt67 hg, gt68 hg, gt69 hg, gt70 hg, gt71 hg, gt72 hg, gt73 hg, gt74 hg, gt75 hg, gt76 hg, gt77 hg, gt78 hg, gt79 hg, gt80 hg, gt81 hg, gt82 hg, gt83 hg, gt84 hg, gt85 hg, gt86 hg, gt87 hg, gt88 hg, gt89 hg, gt90 hg, gt91 hg, gt92 hg, gt93 hg, gt94 hg, gt95 hg, gt96 hg, gt97 hg, gt98 hg, gt99 hg, ab_inv_I, ab_inv_R, ab_inv_L, ab_inv_0, ab_push_some, ab_push_none, ab_E_sw, ab_E_sw0, true_and, and_true, not_false_eq_true, bit_ite, s2, s3, s4, s5, s7, qi_ite2, ab_bit0, ab_bit1, qi_ite, ql_ite, Nat.reduceLeDiff, d128, d16, d8, d4, d1000, d100, d10, if_true, if_false, ite_self, tn0, tn1, tn2, tn3, tn4, tn5, tn6, tn7, tn8, tn9, tn10, tn11, tn12, tn13, tn14, tn15, tn16, tn17, tn18, tn19, up_ne, up_row, fr_ne, fr_eq, Int32.reduceAdd, Int32.reduceMul, Int32.reduceSub, Int32.reduceDiv, Int32.reduceLT, Int32.reduceLE, Int32.reduceToNatClampNeg, i10, i01, ↓reduceIte, if_true, if_false, h0, h1]
  have e := lp_told (d := d) (J := J) (Q := Q) hg h1 h2 h3 h4 h5 h6 h7 h8 h9 hab y1 y2 y3 y4 y5 y6 y7 hgd hst 64 0 (ab_up I r 2 6) (by decide) (by rw [up_ne x3]; exact hs) (fun I' b1 b2 b3 => hQ I' b1 (fun q hq => by rw [b2 q hq, if_pos (Nat.zero_le q)]) (fun q hq => by rw [b3 q hq, if_pos (Nat.zero_le q)]))
  exact e
end P69
