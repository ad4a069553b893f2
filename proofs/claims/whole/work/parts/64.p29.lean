/-! ===== what a text comes to: the class ===== -/
theorem tr_ge {x : Int32} (h : -4 ≤ x) : tr x = x := by
  unfold tr
  have n : ∀ y : Int32, y < -4 → x ≠ y := fun y hy e => by rw [e] at h; exact absurd hy (Int32.not_lt.mpr h)
  rw [if_neg (n _ (by decide)), if_neg (n _ (by decide)), if_neg (n _ (by decide)), if_neg (n _ (by decide)), if_neg (n _ (by decide)), if_neg (n _ (by decide)), if_neg (n _ (by decide))]
theorem sg6 {x : Int32} (h : x < -4) (h5 : x ≠ -5) (h2 : -11 ≤ x) : x = -6 ∨ x = -7 ∨ x = -8 ∨ x = -9 ∨ x = -10 ∨ x = -11 := by
  rw [Int32.lt_iff_toInt_lt] at h
  rw [Int32.le_iff_toInt_le] at h2
  have e1 : (-4 : Int32).toInt = -4 := rfl
  have e2 : (-11 : Int32).toInt = -11 := rfl
  rw [e1] at h
  rw [e2] at h2
  have h5' : x.toInt ≠ -5 := fun e => h5 (Int32.toInt_inj.mp (e.trans rfl))
  have k : x.toInt = -6 ∨ x.toInt = -7 ∨ x.toInt = -8 ∨ x.toInt = -9 ∨ x.toInt = -10 ∨ x.toInt = -11 := by omega
  rcases k with k | k | k | k | k | k
  · exact Or.inl (Int32.toInt_inj.mp (k.trans rfl))
  · exact Or.inr (Or.inl (Int32.toInt_inj.mp (k.trans rfl)))
  · exact Or.inr (Or.inr (Or.inl (Int32.toInt_inj.mp (k.trans rfl))))
  · exact Or.inr (Or.inr (Or.inr (Or.inl (Int32.toInt_inj.mp (k.trans rfl)))))
  · exact Or.inr (Or.inr (Or.inr (Or.inr (Or.inl (Int32.toInt_inj.mp (k.trans rfl))))))
  · exact Or.inr (Or.inr (Or.inr (Or.inr (Or.inr (Int32.toInt_inj.mp (k.trans rfl))))))
theorem tr_jn {x : Int32} (h : x < -4) (h5 : x ≠ -5) (h2 : -11 ≤ x) : (¬ -4 ≤ tr x ∧ ¬ 0 ≤ tr x ∧ ¬ tr x = -10) ∧ ∀ a b, wk (-(tr x)) a b = jn x a b := by
  rcases sg6 h h5 h2 with rfl | rfl | rfl | rfl | rfl | rfl
  all_goals exact ⟨by decide, fun a b => rfl⟩
theorem ty1a : (0 < 1) = True := by decide
theorem ty1b : (1 < 10) = True := by decide
section P29
variable {d SL : Nat} {g : ab_G} {I : ab_I} {J : ab_J} {Q : ab_Q}
theorem c_Tx_name {q : Nat} {x : Int32} (hq : q < 1024) : ab_run (d + 2) 59 [vI x, vI (nI q)] g I J Q ↔ Q (some (vI (if x = -1 then (nI (q / 128)) else if x = -2 then (nI (q / 16 % 8)) else if x = -3 then (nI (q / 4 % 4)) else (nI (q % 4))))) g I J := by
  rw [e59]
  have hw := cb1 ⟨q, hq⟩
  simp only [] at hw
  obtain ⟨⟨w1, w2⟩, w3, w4⟩ := hw
  by_cases h1 : x = -1
  · subst h1
    simp [k59_0, k59_1, k59_28, k59_29, k59_31, k59_32, k59_34, k59_35, k59_36, k59_37, k59_38, k59_39, k59_41, k59_42, k59_43, k59_44, k59_45, k59_46, k59_47, k59_48, k59_49, k59_50, k59_51, k59_52, ab_inv_I, ab_inv_R, ab_inv_L, ab_inv_0, ab_push_some, ab_push_none, ab_E_sw, ab_E_sw0, true_and, and_true, not_false_eq_true, s2, s4, s7, w1, w2, w3, w4, ab_sw]
  by_cases h2 : x = -2
  · subst h2
    simp [k59_0, k59_1, k59_28, k59_29, k59_31, k59_32, k59_34, k59_35, k59_36, k59_37, k59_38, k59_39, k59_41, k59_42, k59_43, k59_44, k59_45, k59_46, k59_47, k59_48, k59_49, k59_50, k59_51, k59_52, ab_inv_I, ab_inv_R, ab_inv_L, ab_inv_0, ab_push_some, ab_push_none, ab_E_sw, ab_E_sw0, true_and, and_true, not_false_eq_true, s2, s4, s7, w1, w2, w3, w4, ab_sw]
  by_cases h3 : x = -3
  · subst h3
    simp [k59_0, k59_1, k59_28, k59_29, k59_31, k59_32, k59_34, k59_35, k59_36, k59_37, k59_38, k59_39, k59_41, k59_42, k59_43, k59_44, k59_45, k59_46, k59_47, k59_48, k59_49, k59_50, k59_51, k59_52, ab_inv_I, ab_inv_R, ab_inv_L, ab_inv_0, ab_push_some, ab_push_none, ab_E_sw, ab_E_sw0, true_and, and_true, not_false_eq_true, s2, s4, s7, w1, w2, w3, w4, ab_sw]
  simp [k59_0, k59_1, k59_28, k59_29, k59_31, k59_32, k59_34, k59_35, k59_36, k59_37, k59_38, k59_39, k59_41, k59_42, k59_43, k59_44, k59_45, k59_46, k59_47, k59_48, k59_49, k59_50, k59_51, k59_52, ab_inv_I, ab_inv_R, ab_inv_L, ab_inv_0, ab_push_some, ab_push_none, ab_E_sw, ab_E_sw0, true_and, and_true, not_false_eq_true, s2, s4, s7, w1, w2, w3, w4, ab_sw, h1, h2, h3]
theorem lp_val {t s N q : Nat} {st : Nat → Int32} (hg : gx g) (h19 : ab_ty g t = 19) (hsr : ab_R g t 0 = some s) (h1 : ab_ty g s = 1) (h128 : 128 ≤ s) (hN : ab_ln g s = N) (hq : q < 1024) (hgd : gd (fun i => tr (st i)) N) (hst : ∀ i, i < N → -11 ≤ st i) (rem : Nat) : ∀ m I l, m + rem = N → I s = st → pk (I 66) (pl (nI (q / 128)) (nI (q / 16 % 8)) (nI (q / 4 % 4)) (nI (q % 4)) (fun i => tr (st i)) m) → (∀ I', (∀ x, x ≠ 66 → I' x = I x) → Q (some (vI (ev (nI (q / 128)) (nI (q / 16 % 8)) (nI (q / 4 % 4)) (nI (q % 4)) (fun i => tr (st i)) N))) g I' J) → ab_E (d + 2) 58 5 [some (vR (some t)), some (vI (nI q)), some (vR (some 66)), some (vI (nI (pl (nI (q / 128)) (nI (q / 16 % 8)) (nI (q / 4 % 4)) (nI (q % 4)) (fun i => tr (st i)) m).length)), some (vI (nI m)), l] [] 0 0 g I J Q := by
  have hN2 : N ≤ 120 := hgd.2.1
  have hs66 : s ≠ 66 := by omega
  induction rem with
  | zero =>
    intro m I l hm hI hp hQ
    have em : m = N := by omega
    have g1 : ¬ nI m < nI N := nI_nlt (by omega) (by omega)
    have hl := hg_len (a := (nI (q / 128))) (b := (nI (q / 16 % 8))) (g := (nI (q / 4 % 4))) (h := (nI (q % 4))) hgd.1
    rw [← em] at hl
    have g2 : (0 : Int32) < nI (pl (nI (q / 128)) (nI (q / 16 % 8)) (nI (q / 4 % 4)) (nI (q % 4)) (fun i => tr (st i)) m).length := by rw [hl]; decide
    rw [k58_5]
    simp only [k58_7, k58_8, k58_11, k58_12, k58_15, k58_16, k58_19, k58_21, k58_22, k58_24, k58_26, k58_28, k58_31, k58_32, k58_33, k58_34, k58_37, k58_38, k58_39, k58_41, k58_44, k58_46, k58_49, k58_51, k58_52, k58_55, k58_56, k58_59, k58_62, k58_64, k58_66, k58_69, k58_70, k58_73, k58_74, k58_75, k58_76, k58_77, k58_78, k58_79, k58_80, k58_81, k58_82, k58_83, k58_84, k58_87, k58_88, k58_89, k58_92, k58_95, k58_96, k58_97, k58_98, k58_99, k58_101, k58_102, k58_103, k58_104, k58_105, k58_106, k58_107, k58_108, k58_109, k58_112, k58_113, k58_116, k58_119, k58_120, k58_123, k58_124, k58_125, k58_126, k58_129, k58_130, gl100 hg, gl31 hg, gl32 hg, gl33 hg, gl34 hg, gl35 hg, gl36 hg, gl37 hg, gl38 hg, gl39 hg, gl40 hg, gl41 hg, gl43 hg, gl44 hg, gl45 hg, gl46 hg, gl47 hg, gl48 hg, gl49 hg, gl50 hg, gl51 hg, gl52 hg, gl53 hg, gl55 hg, gl57 hg, gl58 hg, gl59 hg, gl60 hg, gl62 hg, gl63 hg, gl64 hg, gl65 hg, gl66 hg, gl68 hg, gl69 hg, gl70 hg, gl71 hg, gl73 hg, gl74 hg, gl75 hg, gl76 hg, gl78 hg, gl79 hg, gl80 hg, gl81 hg, gl82 hg, gl83 hg, gl84 hg, gl85 hg, gl86 hg, gl87 hg, gl89 hg, gl90 hg, gl91 hg, gl93 hg, gl95 hg, gl97 hg, gl99 hg, gr29_0 hg, gr29_1 hg, gr29_10 hg, gr29_11 hg, gr29_3 hg, gr29_4 hg, gr29_5 hg, gr29_6 hg, gr29_7 hg, gr29_8 hg, gr29_9 hg, gr30_0 hg, gr30_1 hg, gr30_2 hg, gr30_3 hg, gr30_4 hg, gr30_5 hg, gr30_6 hg, gr32_0 hg, gr32_1 hg, gr36_0 hg, gr36_1 hg, gr42_0 hg, gr42_1 hg, gr42_2 hg, gr42_3 hg, gr42_4 hg, gr42_5 hg, gr42_6 hg, gr44_0 hg, gr44_1 hg, gr48_0 hg, gr48_1 hg, gr54_0 hg, gr56_0 hg, gr56_1 hg, gr56_2 hg, gr56_3 hg, gr56_6 hg, gr61_0 hg, gr61_1 hg, gr61_2 hg, gr61_3 hg, gr61_4 hg, gr67_0 hg, gr68_0 hg, gr68_1 hg, gr68_2 hg, gr72_0 hg, gr73_0 hg, gr73_1 hg, gr73_2 hg, gr77_0 hg, gr77_1 hg, gr77_4 hg, gr77_5 hg, gr78_0 hg, gr78_1 hg, gr82_0 hg, gr82_1 hg, gr85_0 hg, gr85_1 hg, gr88_0 hg, gr88_1 hg, gr91_0 hg, gr91_1 hg, gr91_2 hg, gr91_3 hg, gr92_0 hg, gr94_0 hg, gr96_0 hg, gr98_0 hg, gt100 hg, gt29 hg, gt30 hg, gt31 hg, gt32 hg, gt33 hg, gt34 hg, gt35 hg, gt36 hg, gt37 hg, gt38 hg, gt39 hg, gt40 hg, gt41 hg, gt42 hg, gt43 hg, gt44 hg, gt45 hg, gt46 hg, gt47 hg, gt48 hg, gt49 hg, gt50 hg, gt51 hg, gt52 hg, gt53 hg, gt54 hg, gt55 hg, gt56 hg, gt57 hg, gt58 hg, gt59 hg, gt60 hg, gt61 hg, gt62 hg, gt63 hg, gt64 hg, gt65 hg, gt66 hg, gt67 hg, gt68 hg, gt69 hg, gt70 hg, gt71 hg, gt72 hg, gt73 hg, gt74 hg, gt75 hg, gt76 hg, gt77 hg, gt78 hg, gt79 hg, gt80 hg, gt81 hg, gt82 hg, gt83 hg, gt84 hg, gt85 hg, gt86 hg, gt87 hg, gt88 hg, gt89 hg, gt90 hg, gt91 hg, gt92 hg, gt93 hg, gt94 hg, gt95 hg, gt96 hg, gt97 hg, gt98 hg, gt99 hg, ab_inv_I, ab_inv_R, ab_inv_L, ab_inv_0, ab_push_some, ab_push_none, ab_E_sw, ab_E_sw0, true_and, and_true, not_false_eq_true, bit_ite, s2, s3, s4, s5, s7, qi_ite2, ab_bit0, ab_bit1, qi_ite, ql_ite, Nat.reduceLeDiff, d128, d16, d8, d4, d1000, d100, d10, if_true, if_false, ite_self, tn0, tn1, tn2, tn3, tn4, tn5, tn6, tn7, tn8, tn9, tn10, tn11, tn12, tn13, tn14, tn15, tn16, tn17, tn18, tn19, Int32.reduceAdd, Int32.reduceMul, Int32.reduceSub, Int32.reduceDiv, Int32.reduceLT, Int32.reduceLE, Int32.reduceToNatClampNeg, i10, i01, ↓reduceIte, if_true, if_false, h19, hsr, h1, hN, g1, g2, vi 0 120 rfl, ty1a, ty1b]
    cases hpl : pl (nI (q / 128)) (nI (q / 16 % 8)) (nI (q / 4 % 4)) (nI (q % 4)) (fun i => tr (st i)) m with
    | nil => rw [hpl] at hl; simp at hl
    | cons y rest =>
      rw [hpl] at hl hp
      have h0 : rest.length = 0 := by simpa using hl
      have h1 := hp.1
      rw [h0] at h1
      have h2 := hQ I (fun _ _ => rfl)
      unfold ev at h2
      rw [← em, hpl] at h2
      rw [h1]; exact h2
  | succ rem ih =>
    intro m I l hm hI hp hQ
    have g1 : nI m < nI N := nI_lt (by omega) (by omega)
    have g2 : vp_in (nI m) N := vp_in_nI (by omega) (by omega)
    have g3 : (nI m).toNatClampNeg = m := nI_clamp (by omega)
    obtain ⟨k0, e0⟩ := hg_pre (m := m) (by omega) hgd.1
    obtain ⟨k1, e1⟩ := hg_pre (m := m + 1) (by omega) hgd.1
    have hl := hg_len (a := (nI (q / 128))) (b := (nI (q / 16 % 8))) (g := (nI (q / 4 % 4))) (h := (nI (q % 4))) e0
    have hle := hg_le e0
    have hs1 : hs (tr (st m)) k0 = some k1 := by
      have : (hg_ (fun i => tr (st i)) m).bind (hs (tr (st m))) = some k1 := e1
      rw [e0] at this; exact this
    rw [← hl] at hs1 hle
    have pv : vp_in (nI (pl (nI (q / 128)) (nI (q / 16 % 8)) (nI (q / 4 % 4)) (nI (q % 4)) (fun i => tr (st i)) m).length) 120 := vp_in_nI (by omega) (by decide)
    have pc : (nI (pl (nI (q / 128)) (nI (q / 16 % 8)) (nI (q / 4 % 4)) (nI (q % 4)) (fun i => tr (st i)) m).length).toNatClampNeg = (pl (nI (q / 128)) (nI (q / 16 % 8)) (nI (q / 4 % 4)) (nI (q % 4)) (fun i => tr (st i)) m).length := nI_clamp (by omega)
    have pt : nI (pl (nI (q / 128)) (nI (q / 16 % 8)) (nI (q / 4 % 4)) (nI (q % 4)) (fun i => tr (st i)) m).length < nI 120 := nI_lt (by omega) (by decide)
    rw [k58_5]
    simp only [k58_7, k58_8, k58_11, k58_12, k58_15, k58_16, k58_19, k58_21, k58_22, k58_24, k58_26, k58_28, k58_31, k58_32, k58_33, k58_34, k58_37, k58_38, k58_39, k58_41, k58_44, k58_46, k58_49, k58_51, k58_52, k58_55, k58_56, k58_59, k58_62, k58_64, k58_66, k58_69, k58_70, k58_73, k58_74, k58_75, k58_76, k58_77, k58_78, k58_79, k58_80, k58_81, k58_82, k58_83, k58_84, k58_87, k58_88, k58_89, k58_92, k58_95, k58_96, k58_97, k58_98, k58_99, k58_101, k58_102, k58_103, k58_104, k58_105, k58_106, k58_107, k58_108, k58_109, k58_112, k58_113, k58_116, k58_119, k58_120, k58_123, k58_124, k58_125, k58_126, k58_129, k58_130, gl100 hg, gl31 hg, gl32 hg, gl33 hg, gl34 hg, gl35 hg, gl36 hg, gl37 hg, gl38 hg, gl39 hg, gl40 hg, gl41 hg, gl43 hg, gl44 hg, gl45 hg, gl46 hg, gl47 hg, gl48 hg, gl49 hg, gl50 hg, gl51 hg, gl52 hg, gl53 hg, gl55 hg, gl57 hg, gl58 hg, gl59 hg, gl60 hg, gl62 hg, gl63 hg, gl64 hg, gl65 hg, gl66 hg, gl68 hg, gl69 hg, gl70 hg, gl71 hg, gl73 hg, gl74 hg, gl75 hg, gl76 hg, gl78 hg, gl79 hg, gl80 hg, gl81 hg, gl82 hg, gl83 hg, gl84 hg, gl85 hg, gl86 hg, gl87 hg, gl89 hg, gl90 hg, gl91 hg, gl93 hg, gl95 hg, gl97 hg, gl99 hg, gr29_0 hg, gr29_1 hg, gr29_10 hg, gr29_11 hg, gr29_3 hg, gr29_4 hg, gr29_5 hg, gr29_6 hg, gr29_7 hg, gr29_8 hg, gr29_9 hg, gr30_0 hg, gr30_1 hg, gr30_2 hg, gr30_3 hg, gr30_4 hg, gr30_5 hg, gr30_6 hg, gr32_0 hg, gr32_1 hg, gr36_0 hg, gr36_1 hg, gr42_0 hg, gr42_1 hg, gr42_2 hg, gr42_3 hg, gr42_4 hg, gr42_5 hg, gr42_6 hg, gr44_0 hg, gr44_1 hg, gr48_0 hg, gr48_1 hg, gr54_0 hg, gr56_0 hg, gr56_1 hg, gr56_2 hg, gr56_3 hg, gr56_6 hg, gr61_0 hg, gr61_1 hg, gr61_2 hg, gr61_3 hg, gr61_4 hg, gr67_0 hg, gr68_0 hg, gr68_1 hg, gr68_2 hg, gr72_0 hg, gr73_0 hg, gr73_1 hg, gr73_2 hg, gr77_0 hg, gr77_1 hg, gr77_4 hg, gr77_5 hg, gr78_0 hg, gr78_1 hg, gr82_0 hg, gr82_1 hg, gr85_0 hg, gr85_1 hg, gr88_0 hg, gr88_1 hg, gr91_0 hg, gr91_1 hg, gr91_2 hg, gr91_3 hg, gr92_0 hg, gr94_0 hg, gr96_0 hg, gr98_0 hg, gt100 hg, gt29 hg, gt30 hg, gt31 hg, gt32 hg, gt33 hg, gt34 hg, gt35 hg, gt36 hg, gt37 hg, gt38 hg, gt39 hg, gt40 hg, gt41 hg, gt42 hg, gt43 hg, gt44 hg, gt45 hg, gt46 hg, gt47 hg, gt48 hg, gt49 hg, gt50 hg, gt51 hg, gt52 hg, gt53 hg, gt54 hg, gt55 hg, gt56 hg, gt57 hg, gt58 hg, gt59 hg, gt60 hg, gt61 hg, gt62 hg, gt63 hg, gt64 hg, gt65 hg, gt66 hg, gt67 hg, gt68 hg, gt69 hg, gt70 hg, gt71 hg, gt72 hg, gt73 hg, gt74 hg, gt75 hg, gt76 hg, gt77 hg, gt78 hg, gt79 hg, gt80 hg, gt81 hg, gt82 hg, gt83 hg, gt84 hg, gt85 hg, gt86 hg, gt87 hg, gt88 hg, gt89 hg, gt90 hg, gt91 hg, gt92 hg, gt93 hg, gt94 hg, gt95 hg, gt96 hg, gt97 hg, gt98 hg, gt99 hg, ab_inv_I, ab_inv_R, ab_inv_L, ab_inv_0, ab_push_some, ab_push_none, ab_E_sw, ab_E_sw0, true_and, and_true, not_false_eq_true, bit_ite, s2, s3, s4, s5, s7, qi_ite2, ab_bit0, ab_bit1, qi_ite, ql_ite, Nat.reduceLeDiff, d128, d16, d8, d4, d1000, d100, d10, if_true, if_false, ite_self, tn0, tn1, tn2, tn3, tn4, tn5, tn6, tn7, tn8, tn9, tn10, tn11, tn12, tn13, tn14, tn15, tn16, tn17, tn18, tn19, Int32.reduceAdd, Int32.reduceMul, Int32.reduceSub, Int32.reduceDiv, Int32.reduceLT, Int32.reduceLE, Int32.reduceToNatClampNeg, i10, i01, ↓reduceIte, if_true, if_false, h19, hsr, h1, hN, hI, g1, g2, g3, ty1a, ty1b, pt, pv, c_Tx_name hq]
    have push : ∀ v, ps (nI (q / 128)) (nI (q / 16 % 8)) (nI (q / 4 % 4)) (nI (q % 4)) (tr (st m)) (pl (nI (q / 128)) (nI (q / 16 % 8)) (nI (q / 4 % 4)) (nI (q % 4)) (fun i => tr (st i)) m) = v :: pl (nI (q / 128)) (nI (q / 16 % 8)) (nI (q / 4 % 4)) (nI (q % 4)) (fun i => tr (st i)) m → ∀ l, ab_E (d + 2) 58 5 [some (vR (some t)), some (vI (nI q)), some (vR (some 66)), some (vI (nI (pl (nI (q / 128)) (nI (q / 16 % 8)) (nI (q / 4 % 4)) (nI (q % 4)) (fun i => tr (st i)) m).length + 1)), some (vI (nI m + 1)), l] [] 0 0 g (ab_up I 66 (nI (pl (nI (q / 128)) (nI (q / 16 % 8)) (nI (q / 4 % 4)) (nI (q % 4)) (fun i => tr (st i)) m).length).toNatClampNeg v) J Q := by
      intro v hv l
      have hp1 : pl (nI (q / 128)) (nI (q / 16 % 8)) (nI (q / 4 % 4)) (nI (q % 4)) (fun i => tr (st i)) (m + 1) = v :: pl (nI (q / 128)) (nI (q / 16 % 8)) (nI (q / 4 % 4)) (nI (q % 4)) (fun i => tr (st i)) m := hv
      have q := ih (m + 1) (ab_up I 66 (pl (nI (q / 128)) (nI (q / 16 % 8)) (nI (q / 4 % 4)) (nI (q % 4)) (fun i => tr (st i)) m).length v) l (by omega) (by rw [up_ne hs66]; exact hI) (by rw [hp1, up_row]; exact ⟨fr_eq, pk_fr (Nat.le_refl _) hp⟩) (fun I' hI' => hQ I' fun x hx => (hI' x hx).trans (up_ne hx))
      rw [hp1] at q
      rw [pc, nI_1, nI_1]
      exact q
    by_cases x4 : st m < -4
    · rw [if_pos x4]
      have hs2 := hs1
      unfold hs at hs2
      by_cases y5 : st m = -5
      · rw [if_pos y5]
        have ht : tr (st m) = -10 := by rw [y5]; rfl
        rw [ht, if_neg (by decide), if_pos rfl] at hs2
        have hp1 : ∀ y rest, pl (nI (q / 128)) (nI (q / 16 % 8)) (nI (q / 4 % 4)) (nI (q % 4)) (fun i => tr (st i)) m = y :: rest → pl (nI (q / 128)) (nI (q / 16 % 8)) (nI (q / 4 % 4)) (nI (q % 4)) (fun i => tr (st i)) (m + 1) = -y :: rest := by
          intro y rest hpl
          show ps (nI (q / 128)) (nI (q / 16 % 8)) (nI (q / 4 % 4)) (nI (q % 4)) (tr (st m)) (pl (nI (q / 128)) (nI (q / 16 % 8)) (nI (q / 4 % 4)) (nI (q % 4)) (fun i => tr (st i)) m) = _
          unfold ps; rw [ht, if_neg (by decide), if_neg (by decide), if_pos rfl, hpl]
        cases hpl : pl (nI (q / 128)) (nI (q / 16 % 8)) (nI (q / 4 % 4)) (nI (q % 4)) (fun i => tr (st i)) m with
        | nil => rw [hpl] at hs2; simp at hs2
        | cons y rest =>
          have hq1 := hp1 y rest hpl
          rw [hpl] at hp hle
          simp only [List.length_cons] at hle ⊢
          have w0 : (0 : Int32) < nI (rest.length + 1) := nI_lt (a := 0) (by omega) (by omega)
          have w1 : vp_in (nI rest.length) 120 := vp_in_nI (by omega) (by decide)
          have w2 : (nI rest.length).toNatClampNeg = rest.length := nI_clamp (by omega)
          rw [if_pos w0, nI_pred, w2, hp.1, nI_1]
          have q := ih (m + 1) (ab_up I 66 rest.length (-y)) (some (vI (st m))) (by omega) (by rw [up_ne hs66]; exact hI) (by rw [hq1, up_row]; exact ⟨fr_eq, pk_fr (Nat.le_refl _) hp.2⟩) (fun I' hI' => hQ I' fun x hx => (hI' x hx).trans (up_ne hx))
          rw [hq1] at q
          exact ⟨w1, w1, q⟩
      · rw [if_neg y5]
        obtain ⟨⟨t1, t2, t3⟩, t4⟩ := tr_jn x4 y5 (hst m (by omega))
        rw [if_neg t1, if_neg t3] at hs2
        have hp1 : ∀ y z rest, pl (nI (q / 128)) (nI (q / 16 % 8)) (nI (q / 4 % 4)) (nI (q % 4)) (fun i => tr (st i)) m = y :: z :: rest → pl (nI (q / 128)) (nI (q / 16 % 8)) (nI (q / 4 % 4)) (nI (q % 4)) (fun i => tr (st i)) (m + 1) = jn (st m) z y :: rest := by
          intro y z rest hpl
          show ps (nI (q / 128)) (nI (q / 16 % 8)) (nI (q / 4 % 4)) (nI (q % 4)) (tr (st m)) (pl (nI (q / 128)) (nI (q / 16 % 8)) (nI (q / 4 % 4)) (nI (q % 4)) (fun i => tr (st i)) m) = _
          unfold ps; rw [if_neg t2, if_neg t1, if_neg t3, hpl]
          simp only [t4]
        cases hpl : pl (nI (q / 128)) (nI (q / 16 % 8)) (nI (q / 4 % 4)) (nI (q % 4)) (fun i => tr (st i)) m with
        | nil => rw [hpl] at hs2; simp at hs2
        | cons y rest0 =>
          cases rest0 with
          | nil => rw [hpl] at hs2; simp at hs2
          | cons z rest =>
            have hq1 := hp1 y z rest hpl
            rw [hpl] at hp hle
            simp only [List.length_cons] at hle ⊢
            have v0 : (1 : Int32) < nI (rest.length + 1 + 1) := nI_lt (a := 1) (by omega) (by omega)
            have w0 : nI (rest.length + 1 + 1) + -1 = nI (rest.length + 1) := by rw [← Int32.sub_eq_add_neg, nI_pred]
            have w1 : vp_in (nI rest.length) 120 := vp_in_nI (by omega) (by decide)
            have w2 : (nI rest.length).toNatClampNeg = rest.length := nI_clamp (by omega)
            have w3 : vp_in (nI (rest.length + 1)) 120 := vp_in_nI (by omega) (by decide)
            have w4 : (nI (rest.length + 1)).toNatClampNeg = rest.length + 1 := nI_clamp (by omega)
            have p1 : I 66 (rest.length + 1) = y := hp.1
            have p2 : I 66 rest.length = z := hp.2.1
            have q := ih (m + 1) (ab_up I 66 rest.length (jn (st m) z y)) (some (vI (st m))) (by omega) (by rw [up_ne hs66]; exact hI) (by rw [hq1, up_row]; exact ⟨fr_eq, pk_fr (Nat.le_refl _) hp.2.2⟩) (fun I' hI' => hQ I' fun x hx => (hI' x hx).trans (up_ne hx))
            rw [hq1] at q
            rw [if_pos v0]
            simp only [w0, nI_pred, w2, w4, p1, p2, c_Tx_join, k58_112, k58_113, k58_116, ab_inv_I, ab_inv_R, ab_inv_L, ab_inv_0, ab_push_some, ab_push_none, ab_E_sw, ab_E_sw0, true_and, and_true, not_false_eq_true, bit_ite, s2, s3, s4, s5, s7, qi_ite2, ab_bit0, ab_bit1, qi_ite, ql_ite, Nat.reduceLeDiff, d128, d16, d8, d4, d1000, d100, d10, if_true, if_false, ite_self, tn0, tn1, tn2, tn3, tn4, tn5, tn6, tn7, tn8, tn9, tn10, tn11, tn12, tn13, tn14, tn15, tn16, tn17, tn18, tn19, gl100 hg, gl31 hg, gl32 hg, gl33 hg, gl34 hg, gl35 hg, gl36 hg, gl37 hg, gl38 hg, gl39 hg, gl40 hg, gl41 hg, gl43 hg, gl44 hg, gl45 hg, gl46 hg, gl47 hg, gl48 hg, gl49 hg, gl50 hg, gl51 hg, gl52 hg, gl53 hg, gl55 hg, gl57 hg, gl58 hg, gl59 hg, gl60 hg, gl62 hg, gl63 hg, gl64 hg, gl65 hg, gl66 hg, gl68 hg, gl69 hg, gl70 hg, gl71 hg, gl73 hg, gl74 hg, gl75 hg, gl76 hg, gl78 hg, gl79 hg, gl80 hg, gl81 hg, gl82 hg, gl83 hg, gl84 hg, gl85 hg, gl86 hg, gl87 hg, gl89 hg, gl90 hg, gl91 hg, gl93 hg, gl95 hg, gl97 hg, gl99 hg, gr29_0 hg, gr29_1 hg, gr29_10 hg, gr29_11 hg, gr29_3 hg, gr29_4 hg, gr29_5 hg, gr29_6 hg, gr29_7 hg, gr29_8 hg, gr29_9 hg, gr30_0 hg, gr30_1 hg, gr30_2 hg, gr30_3 hg, gr30_4 hg, gr30_5 hg, gr30_6 hg, gr32_0 hg, gr32_1 hg, gr36_0 hg, gr36_1 hg, gr42_0 hg, gr42_1 hg, gr42_2 hg, gr42_3 hg, gr42_4 hg, gr42_5 hg, gr42_6 hg, gr44_0 hg, gr44_1 hg, gr48_0 hg, gr48_1 hg, gr54_0 hg, gr56_0 hg, gr56_1 hg, gr56_2 hg, gr56_3 hg, gr56_6 hg, gr61_0 hg, gr61_1 hg, gr61_2 hg, gr61_3 hg, gr61_4 hg, gr67_0 hg, gr68_0 hg, gr68_1 hg, gr68_2 hg, gr72_0 hg, gr73_0 hg, gr73_1 hg, gr73_2 hg, gr77_0 hg, gr77_1 hg, gr77_4 hg, gr77_5 hg, gr78_0 hg, gr78_1 hg, gr82_0 hg, gr82_1 hg, gr85_0 hg, gr85_1 hg, gr88_0 hg, gr88_1 hg, gr91_0 hg, gr91_1 hg, gr91_2 hg, gr91_3 hg, gr92_0 hg, gr94_0 hg, gr96_0 hg, gr98_0 hg, gt100 hg, gt29 hg, gt30 hg, gt31 hg, gt32 hg, gt33 hg, gt34 hg, gt35 hg, gt36 hg, gt37 hg, gt38 hg, gt39 hg, gt40 hg, gt41 hg, gt42 hg, gt43 hg, gt44 hg, gt45 hg, gt46 hg, gt47 hg, gt48 hg, gt49 hg, gt50 hg, gt51 hg, gt52 hg, gt53 hg, gt54 hg, gt55 hg, gt56 hg, gt57 hg, gt58 hg, gt59 hg, gt60 hg, gt61 hg, gt62 hg, gt63 hg, gt64 hg, gt65 hg, gt66 hg, gt67 hg, gt68 hg, gt69 hg, gt70 hg, gt71 hg, gt72 hg, gt73 hg, gt74 hg, gt75 hg, gt76 hg, gt77 hg, gt78 hg, gt79 hg, gt80 hg, gt81 hg, gt82 hg, gt83 hg, gt84 hg, gt85 hg, gt86 hg, gt87 hg, gt88 hg, gt89 hg, gt90 hg, gt91 hg, gt92 hg, gt93 hg, gt94 hg, gt95 hg, gt96 hg, gt97 hg, gt98 hg, gt99 hg, w1, w3, nI_1]
            exact q
    · rw [if_neg x4]
      have x4' : -4 ≤ st m := Int32.not_lt.mp x4
      by_cases x0 : st m < 0
      · rw [if_pos x0]
        have x0' : ¬ 0 ≤ tr (st m) := by rw [tr_ge x4']; exact Int32.not_le.mpr x0
        exact push _ (by unfold ps; rw [if_neg x0', if_pos (by rw [tr_ge x4']; exact x4'), tr_ge x4']) _
      · rw [if_neg x0]
        exact push _ (by unfold ps; rw [if_pos (by rw [tr_ge x4']; exact Int32.not_lt.mp x0), tr_ge x4']) _
theorem c_Tx_valueAt {t s N q : Nat} (hg : gx g) (h19 : ab_ty g t = 19) (hsr : ab_R g t 0 = some s) (h1 : ab_ty g s = 1) (h128 : 128 ≤ s) (hN : ab_ln g s = N) (hq : q < 1024) (hgd : gd (tf I s) N) (hst : ∀ i, i < N → -11 ≤ I s i) (hQ : ∀ I', (∀ x, x ≠ 66 → I' x = I x) → Q (some (vI (ev (nI (q / 128)) (nI (q / 16 % 8)) (nI (q / 4 % 4)) (nI (q % 4)) (tf I s) N))) g I' J) : ab_run (d + 3) 58 [vR (some t), vI (nI q), vR (some 66)] g I J Q := by
  rw [e58]
  simp only [k58_0, k58_1, k58_2, k58_3, ab_inv_I, ab_inv_R, ab_inv_L, ab_inv_0, ab_push_some, ab_push_none, ab_E_sw, ab_E_sw0, true_and, and_true, not_false_eq_true, bit_ite, s2, s3, s4, s5, s7, qi_ite2, ab_bit0, ab_bit1, qi_ite, ql_ite, Nat.reduceLeDiff, d128, d16, d8, d4, d1000, d100, d10, if_true, if_false, ite_self, tn0, tn1, tn2, tn3, tn4, tn5, tn6, tn7, tn8, tn9, tn10, tn11, tn12, tn13, tn14, tn15, tn16, tn17, tn18, tn19]
  exact lp_val hg h19 hsr h1 h128 hN hq hgd hst N 0 I none (by omega) rfl trivial hQ
end P29
