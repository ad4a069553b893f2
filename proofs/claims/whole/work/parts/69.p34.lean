/-! ===== the reference: dues, what each bears, costs ===== -/
theorem min_K {x y : Int} (hx : -9223372036854775808 ≤ x ∧ x < 9223372036854775808) (hy : -9223372036854775808 ≤ y ∧ y < 9223372036854775808) : (if lK y < lK x then lK y else lK x) = lK (min x y) := by
  simp only [lK_lt hy hx]
  split
  · rw [Int.min_eq_right (by omega)]
  · rw [Int.min_eq_left (by omega)]
/-- three rows written one after the other -/
def bz3 (J : ab_J) (x y z : Int64) : ab_J := ab_up (ab_up (ab_up J 118 0 x) 118 1 y) 118 2 z
theorem bz3_bz3 {J : ab_J} {x y z x' y' z' : Int64} : ab_up (ab_up (ab_up (bz3 J x y z) 118 0 x') 118 1 y') 118 2 z' = bz3 J x' y' z' := by
  unfold bz3; funext p r; unfold ab_up
  by_cases hp : p = 118
  · by_cases h0 : r = 0
    · simp [hp, h0]
    · by_cases h1 : r = 1
      · simp [hp, h1]
      · by_cases h2 : r = 2
        · simp [hp, h2]
        · simp [hp, h0, h1, h2]
  · simp [hp]
theorem bz3_0 {J : ab_J} {x y z : Int64} : bz3 J x y z 118 0 = x := rfl
theorem bz3_1 {J : ab_J} {x y z : Int64} : bz3 J x y z 118 1 = y := rfl
theorem bz3_2 {J : ab_J} {x y z : Int64} : bz3 J x y z 118 2 = z := rfl
theorem bz3_ne {J : ab_J} {x y z : Int64} {p : Nat} (h : p ≠ 118) : bz3 J x y z p = J p := by unfold bz3; rw [up_ne h, up_ne h, up_ne h]
/-- what one bears by the DUES at a pair of CARES -/
def B (nu D : Nat → Int32) (w a b : Nat) (h : Int) : Int := brs nu w (D (8 * a + b)).toInt (D (64 + (8 * a + b))).toInt h
section P34
variable {d : Nat} {g : ab_G} {I : ab_I} {J : ab_J} {Q : ab_Q} {nu pr ga ru co D : Nat → Int32} {q : Nat} {s : Int32}
set_option maxRecDepth 20000 in
theorem c_M_findBears {a b : Nat} {h : Int} (hg : gx g) (h3 : I 103 = nu) (hD : I 117 = D) (hn : nOK nu pr ga) (dO : dOK D) (ha : a < 8) (hb : b < 8) (h0 : 0 ≤ h ∧ h ≤ 9999) : ab_run (d + 2) 209 [vR (some 101), vI (nI a), vI (nI b), vI (iK h)] g I J Q ↔ Q none g I (bz3 J (lK (brs nu 0 (D (8 * a + b)).toInt (D (64 + (8 * a + b))).toInt h)) (lK (brs nu 1 (D (8 * a + b)).toInt (D (64 + (8 * a + b))).toInt h)) (lK (brs nu 2 (D (8 * a + b)).toInt (D (64 + (8 * a + b))).toInt h))) := by
  rw [e209]
  have dk := dO (8 * a + b) (by omega)
  have f0 : (8 : Int32) * nI a + nI b = nI (8 * a + b) := by rw [show (8 : Int32) = nI 8 from rfl, nImul, nI_add]
  have f1 : (64 : Int32) + 8 * nI a + nI b = nI (64 + (8 * a + b)) := by rw [show (8 : Int32) = nI 8 from rfl, show (64 : Int32) = nI 64 from rfl, nImul, nI_add, nI_add]; congr 1; omega
  have f2 : vp_in (nI (8 * a + b)) 128 := vp_in_nI (by omega) (by decide)
  have f3 : vp_in (nI (64 + (8 * a + b))) 128 := vp_in_nI (by omega) (by decide)
  have f4 : (nI (8 * a + b)).toNatClampNeg = 8 * a + b := nI_clamp (by omega)
  have f5 : (nI (64 + (8 * a + b))).toNatClampNeg = 64 + (8 * a + b) := nI_clamp (by omega)
  have hA := i2lK (D (8 * a + b))
  have hB := i2lK (D (64 + (8 * a + b)))
  have hh : (iK h).toInt64 = lK h := iK_l (by omega)
  have n6 := i2lK (nu 6)
  have n7 := i2lK (nu 7)
  have n8 := i2lK (nu 8)
  have m1 := mb (x := (D (8 * a + b)).toInt) (y := h) (X := 64) (Y := 9999) dk.1 (by omega) h0.1 h0.2
  have m2 := mb (x := (D (64 + (8 * a + b))).toInt) (y := h) (X := 64) (Y := 9999) dk.2.1 (by omega) h0.1 h0.2
  have r6 := hn.2.2.2.2.1
  have r7 := hn.2.2.2.2.2.1
  have r8 := hn.2.2.2.2.2.2.1
  unfold rg at r6 r7 r8
  have hmin := min_K (x := (D (8 * a + b)).toInt * h) (y := 64 * (nu 6).toInt) (by omega) (by omega)
  have hC0 : (lK (64 * (nu 8).toInt) < lK ((D (8 * a + b)).toInt * h + (D (64 + (8 * a + b))).toInt * h)) = (64 * (nu 8).toInt < ((D (8 * a + b)).toInt + (D (64 + (8 * a + b))).toInt) * h) := by
    rw [lK_lt (by omega) (by omega), Int.add_mul]
  unfold brs
  by_cases hc : 64 * (nu 8).toInt < ((D (8 * a + b)).toInt + (D (64 + (8 * a + b))).toInt) * h
  · have hC : (lK (64 * (nu 8).toInt) < lK ((D (8 * a + b)).toInt * h + (D (64 + (8 * a + b))).toInt * h)) = True := by rw [hC0]; exact eq_true hc
    simp only [if_pos hc, if_true, Nat.one_ne_zero, if_false, Nat.reduceEqDiff]
    simp (disch := decide) only [k209_0, k209_1, k209_4, k209_6, k209_7, k209_8, k209_9, k209_10, k209_11, k209_12, k209_13, k209_14, k209_15, k209_17, k209_18, k209_21, k209_23, k209_25, k209_26, k209_27, k209_28, k209_29, k209_30, k209_31, k209_32, k209_33, k209_34, k209_35, k209_37, k209_38, k209_41, k209_42, k209_43, k209_44, k209_45, k209_48, k209_49, k209_52, k209_53, k209_54, k209_55, k209_56, k209_57, k209_60, k209_61, k209_62, k209_63, k209_65, k209_67, k209_68, k209_71, k209_72, k209_75, k209_77, k209_78, k209_79, k209_80, k209_81, k209_84, k209_86, k209_89, k209_90, k209_93, k209_95, k209_96, k209_97, k209_98, k209_101, k209_103, k209_104, k209_107, k209_108, k209_110, k209_113, k209_114, k209_117, k209_119, k209_120, k209_121, k209_122, k209_123, k209_124, k209_125, k209_128, k209_129, k209_132, k209_133, k209_134, k209_135, k209_137, k209_138, k209_140, k209_141, k209_144, k209_145, k209_148, k209_150, k209_151, k209_152, k209_153, k209_154, k209_155, k209_156, k209_159, k209_160, k209_162, k209_163, gl102 hg, gl103 hg, gl104 hg, gl105 hg, gl106 hg, gl107 hg, gl108 hg, gl109 hg, gl110 hg, gl111 hg, gl112 hg, gl113 hg, gl114 hg, gl115 hg, gl116 hg, gl117 hg, gl118 hg, gl119 hg, gl120 hg, gl121 hg, gl122 hg, gl123 hg, gl124 hg, gl125 hg, gl126 hg, gl127 hg, gr101_0 hg, gr101_1 hg, gr101_10 hg, gr101_12 hg, gr101_2 hg, gr101_22 hg, gr101_23 hg, gr101_26 hg, gr101_27 hg, gr101_28 hg, gr101_29 hg, gr101_3 hg, gr101_30 hg, gr101_31 hg, gr101_32 hg, gr101_33 hg, gr101_34 hg, gr101_39 hg, gr101_4 hg, gr101_40 hg, gr101_41 hg, gr101_5 hg, gr101_6 hg, gr101_7 hg, gr101_8 hg, gr101_9 hg, gt101 hg, gt102 hg, gt103 hg, gt104 hg, gt105 hg, gt106 hg, gt107 hg, gt108 hg, gt109 hg, gt110 hg, gt111 hg, gt112 hg, gt113 hg, gt114 hg, gt115 hg, gt116 hg, gt117 hg, gt118 hg, gt119 hg, gt120 hg, gt121 hg, gt122 hg, gt123 hg, gt124 hg, gt125 hg, gt126 hg, gt127 hg, ab_inv_I, ab_inv_R, ab_inv_L, ab_inv_0, ab_push_some, ab_push_none, ab_E_sw, ab_E_sw0, true_and, and_true, not_false_eq_true, bit_ite, s2, s3, s4, s5, s7, qi_ite2, ab_bit0, ab_bit1, qi_ite, ql_ite, Nat.reduceLeDiff, d128, d16, d8, d4, d1000, d100, d10, if_true, if_false, ite_self, tn0, tn1, tn2, tn3, tn4, tn5, tn6, tn7, tn8, tn9, tn10, tn11, tn12, tn13, tn14, tn15, tn16, tn17, tn18, tn19, up_ne, up_row, fr_ne, fr_eq, Int32.reduceAdd, Int32.reduceMul, Int32.reduceSub, Int32.reduceDiv, Int32.reduceLT, Int32.reduceLE, Int32.reduceToNatClampNeg, i10, i01, ↓reduceIte, if_true, if_false, f0, f1, f2, f3, f4, f5, hD, h3, hA, hB, hh, n6, n7, n8, lK_mul, lK_add, lK_sub, l_64, l_0, l_32768, l_512, vi 0 3 rfl, vi 1 3 rfl, vi 2 3 rfl, vi 8 19 rfl, vi 6 19 rfl, vi 7 19 rfl, lg_cmp_gt, hC, c_Math_min_l, hmin, i02, i03, i04, i05, i06, i07, i12, i13, i14, i15, i16, i17, i20, i21, i23, i24, i25, i26, i27, i30, i31, i32, i34, i35, i36, i37, i40, i41, i42, i43, i45, i46, i47, i50, i51, i52, i53, i54, i56, i57, i60, i61, i62, i63, i64, i65, i67, i70, i71, i72, i73, i74, i75, i76, i10, i01]
    rw [← bz3_bz3 (J := J) (x := lK 0) (y := lK (64 * h)) (z := lK 0)]
    exact Iff.rfl
  · have hC : (lK (64 * (nu 8).toInt) < lK ((D (8 * a + b)).toInt * h + (D (64 + (8 * a + b))).toInt * h)) = False := by rw [hC0]; exact eq_false hc
    simp only [if_neg hc, if_true, Nat.one_ne_zero, if_false, Nat.reduceEqDiff]
    simp (disch := decide) only [k209_0, k209_1, k209_4, k209_6, k209_7, k209_8, k209_9, k209_10, k209_11, k209_12, k209_13, k209_14, k209_15, k209_17, k209_18, k209_21, k209_23, k209_25, k209_26, k209_27, k209_28, k209_29, k209_30, k209_31, k209_32, k209_33, k209_34, k209_35, k209_37, k209_38, k209_41, k209_42, k209_43, k209_44, k209_45, k209_48, k209_49, k209_52, k209_53, k209_54, k209_55, k209_56, k209_57, k209_60, k209_61, k209_62, k209_63, k209_65, k209_67, k209_68, k209_71, k209_72, k209_75, k209_77, k209_78, k209_79, k209_80, k209_81, k209_84, k209_86, k209_89, k209_90, k209_93, k209_95, k209_96, k209_97, k209_98, k209_101, k209_103, k209_104, k209_107, k209_108, k209_110, k209_113, k209_114, k209_117, k209_119, k209_120, k209_121, k209_122, k209_123, k209_124, k209_125, k209_128, k209_129, k209_132, k209_133, k209_134, k209_135, k209_137, k209_138, k209_140, k209_141, k209_144, k209_145, k209_148, k209_150, k209_151, k209_152, k209_153, k209_154, k209_155, k209_156, k209_159, k209_160, k209_162, k209_163, gl102 hg, gl103 hg, gl104 hg, gl105 hg, gl106 hg, gl107 hg, gl108 hg, gl109 hg, gl110 hg, gl111 hg, gl112 hg, gl113 hg, gl114 hg, gl115 hg, gl116 hg, gl117 hg, gl118 hg, gl119 hg, gl120 hg, gl121 hg, gl122 hg, gl123 hg, gl124 hg, gl125 hg, gl126 hg, gl127 hg, gr101_0 hg, gr101_1 hg, gr101_10 hg, gr101_12 hg, gr101_2 hg, gr101_22 hg, gr101_23 hg, gr101_26 hg, gr101_27 hg, gr101_28 hg, gr101_29 hg, gr101_3 hg, gr101_30 hg, gr101_31 hg, gr101_32 hg, gr101_33 hg, gr101_34 hg, gr101_39 hg, gr101_4 hg, gr101_40 hg, gr101_41 hg, gr101_5 hg, gr101_6 hg, gr101_7 hg, gr101_8 hg, gr101_9 hg, gt101 hg, gt102 hg, gt103 hg, gt104 hg, gt105 hg, gt106 hg, gt107 hg, gt108 hg, gt109 hg, gt110 hg, gt111 hg, gt112 hg, gt113 hg, gt114 hg, gt115 hg, gt116 hg, gt117 hg, gt118 hg, gt119 hg, gt120 hg, gt121 hg, gt122 hg, gt123 hg, gt124 hg, gt125 hg, gt126 hg, gt127 hg, ab_inv_I, ab_inv_R, ab_inv_L, ab_inv_0, ab_push_some, ab_push_none, ab_E_sw, ab_E_sw0, true_and, and_true, not_false_eq_true, bit_ite, s2, s3, s4, s5, s7, qi_ite2, ab_bit0, ab_bit1, qi_ite, ql_ite, Nat.reduceLeDiff, d128, d16, d8, d4, d1000, d100, d10, if_true, if_false, ite_self, tn0, tn1, tn2, tn3, tn4, tn5, tn6, tn7, tn8, tn9, tn10, tn11, tn12, tn13, tn14, tn15, tn16, tn17, tn18, tn19, up_ne, up_row, fr_ne, fr_eq, Int32.reduceAdd, Int32.reduceMul, Int32.reduceSub, Int32.reduceDiv, Int32.reduceLT, Int32.reduceLE, Int32.reduceToNatClampNeg, i10, i01, ↓reduceIte, if_true, if_false, f0, f1, f2, f3, f4, f5, hD, h3, hA, hB, hh, n6, n7, n8, lK_mul, lK_add, lK_sub, l_64, l_0, l_32768, l_512, vi 0 3 rfl, vi 1 3 rfl, vi 2 3 rfl, vi 8 19 rfl, vi 6 19 rfl, vi 7 19 rfl, lg_cmp_gt, hC, c_Math_min_l, hmin, i02, i03, i04, i05, i06, i07, i12, i13, i14, i15, i16, i17, i20, i21, i23, i24, i25, i26, i27, i30, i31, i32, i34, i35, i36, i37, i40, i41, i42, i43, i45, i46, i47, i50, i51, i52, i53, i54, i56, i57, i60, i61, i62, i63, i64, i65, i67, i70, i71, i72, i73, i74, i75, i76, i10, i01]
    exact Iff.rfl
theorem cst_K {w : Nat} {c : Int} : lK (owq pr ga w q) + lK (c * (((q / 4 % 4 : Nat) : Int) * ((q % 4 : Nat) : Int)) * (8 - (nu 5).toInt)) * lK (brs nu w (D (8 * (q / 128) + q / 16 % 8)).toInt (D (64 + (8 * (q / 128) + q / 16 % 8))).toInt (hut nu co q)) + lK (c * (((q / 4 % 4 : Nat) : Int) * ((q % 4 : Nat) : Int)) * (nu 5).toInt) * lK (brs nu w (D (8 * (q / 128 - 1) + q / 16 % 8)).toInt (D (64 + (8 * (q / 128 - 1) + q / 16 % 8))).toInt (hut nu co q)) = lK (owq pr ga w q + c * (((q / 4 % 4 : Nat) : Int) * ((q % 4 : Nat) : Int)) * shq nu D w (hut nu co q) q) := by
  rw [lK_mul, lK_mul, lK_add, lK_add]
  congr 1
  unfold shq
  grind
set_option maxRecDepth 20000 in
theorem c_M_findCosts (hg : gx g) (h3 : I 103 = nu) (h4 : I 104 = pr) (h5 : I 105 = ga) (hD : I 117 = D) (hn : nOK nu pr ga) (dO : dOK D) (hq : q < 1024) (hQ : ∀ J', dfj [118, 119] J J' → J' 119 0 = lK (cst nu pr ga co D s.toInt 0 q) → J' 119 1 = lK (cst nu pr ga co D s.toInt 1 q) → J' 119 2 = lK (cst nu pr ga co D s.toInt 2 q) → Q none g I J') : ab_run (d + 3) 208 [vR (some 101), vI (nI q), vI (iK (chn nu co s.toInt q)), vI (iK (hut nu co q))] g I J Q := by
  rw [e208]
  have h := pb1 ⟨q, hq⟩
  simp only [] at h
  have f0 : (8 : Int32) + nI (q / 16 % 8) = nI (8 + q / 16 % 8) := nI_add 8 _
  have f1 : (4 : Int32) + nI (q % 4) = nI (4 + q % 4) := nI_add 4 _
  have g1 : vp_in (nI (q / 128)) 16 := vp_in_nI (by omega) (by decide)
  have g2 : vp_in (nI (8 + q / 16 % 8)) 16 := vp_in_nI (by omega) (by decide)
  have g3 : vp_in (nI (q / 4 % 4)) 8 := vp_in_nI (by omega) (by decide)
  have g4 : vp_in (nI (4 + q % 4)) 8 := vp_in_nI (by omega) (by decide)
  have c1 : (nI (q / 128)).toNatClampNeg = q / 128 := nI_clamp (by omega)
  have c2 : (nI (8 + q / 16 % 8)).toNatClampNeg = 8 + q / 16 % 8 := nI_clamp (by omega)
  have c3 : (nI (q / 4 % 4)).toNatClampNeg = q / 4 % 4 := nI_clamp (by omega)
  have c4 : (nI (4 + q % 4)).toNatClampNeg = 4 + q % 4 := nI_clamp (by omega)
  have o0 : (32768 : Int64) * (nI (q / 4 % 4) * pr (q / 128) - ga (q / 4 % 4)).toInt64 = lK (owq pr ga 0 q) := by
    rw [own_K (by omega) (hn.2.1 _ (by omega)) (hn.2.2.1 _ (by omega))]; unfold owq; rw [if_pos rfl]
  have o1 : (32768 : Int64) * (nI (q % 4) * pr (8 + q / 16 % 8) - ga (4 + q % 4)).toInt64 = lK (owq pr ga 1 q) := by
    rw [own_K (by omega) (hn.2.1 _ (by omega)) (hn.2.2.1 _ (by omega))]; unfold owq; rw [if_neg (by decide), if_pos rfl]
  have ci := chn_in (nu := nu) (co := co) (sh := s.toInt) (q := q)
  have t0 : (iK (chn nu co s.toInt q)).toInt64 * (nI (q / 4 % 4)).toInt64 * (nI (q % 4)).toInt64 = lK (chn nu co s.toInt q * (((q / 4 % 4 : Nat) : Int) * ((q % 4 : Nat) : Int))) := by
    rw [iK_l (by omega), nI_K, nI_K, iK_l (by omega), iK_l (by omega), lK_mul, lK_mul, Int.mul_assoc]
  have r5 := hn.2.2.2.1
  unfold rg at r5
  have w0 : (8 - nu 5).toInt64 = lK (8 - (nu 5).toInt) := by
    rw [← iK_l (by omega), ← iK_sub, iK_self]; rfl
  have w1 := i2lK (nu 5)
  have cz : q / 128 = 0 ∨ q / 128 = 1 ∨ 1 < q / 128 := by omega
  have fA : ∀ (d : Nat) (J : ab_J) (Q : ab_Q), ab_run (d + 2) 209 [vR (some 101), vI (nI (q / 128)), vI (nI (q / 16 % 8)), vI (iK (hut nu co q))] g I J Q ↔ Q none g I (bz3 J (lK (B nu D 0 (q / 128) (q / 16 % 8) (hut nu co q))) (lK (B nu D 1 (q / 128) (q / 16 % 8) (hut nu co q))) (lK (B nu D 2 (q / 128) (q / 16 % 8) (hut nu co q)))) := fun d J Q => c_M_findBears hg h3 hD hn dO (by omega) (by omega) hut_in
  have fB : ∀ (d : Nat) (J : ab_J) (Q : ab_Q), ab_run (d + 2) 209 [vR (some 101), vI (nI (q / 128 - 1)), vI (nI (q / 16 % 8)), vI (iK (hut nu co q))] g I J Q ↔ Q none g I (bz3 J (lK (B nu D 0 (q / 128 - 1) (q / 16 % 8) (hut nu co q))) (lK (B nu D 1 (q / 128 - 1) (q / 16 % 8) (hut nu co q))) (lK (B nu D 2 (q / 128 - 1) (q / 16 % 8) (hut nu co q)))) := fun d J Q => c_M_findBears hg h3 hD hn dO (by omega) (by omega) hut_in
  have fin : ∀ J1 J2 J3, J1 = bz3 J2 (lK (B nu D 0 (q / 128 - 1) (q / 16 % 8) (hut nu co q))) (lK (B nu D 1 (q / 128 - 1) (q / 16 % 8) (hut nu co q))) (lK (B nu D 2 (q / 128 - 1) (q / 16 % 8) (hut nu co q))) → J3 = J1 → True := fun _ _ _ _ _ => trivial
  have vals : ∀ w, lK (owq pr ga w q + chn nu co s.toInt q * (((q / 4 % 4 : Nat) : Int) * ((q % 4 : Nat) : Int)) * (8 - (nu 5).toInt) * B nu D w (q / 128) (q / 16 % 8) (hut nu co q) + chn nu co s.toInt q * (((q / 4 % 4 : Nat) : Int) * ((q % 4 : Nat) : Int)) * (nu 5).toInt * B nu D w (q / 128 - 1) (q / 16 % 8) (hut nu co q)) = lK (cst nu pr ga co D s.toInt w q) := by
    intro w
    congr 1
    unfold cst shq tms B
    grind
  have o2 : lK 0 = lK (owq pr ga 2 q) := rfl
  clear fin
  rcases cz with z | z | z
  · have n0 : ¬ (0 : Int32) < nI (q / 128) := by rw [z]; decide
    have n1 : ¬ (1 : Int32) < nI (q / 128) := by rw [z]; decide
    have fA' := fA
    have fB' := fB
    rw [z] at fA' fB'
    have fA0 : ∀ (d : Nat) (J : ab_J) (Q : ab_Q), ab_run (d + 2) 209 [vR (some 101), vI 0, vI (nI (q / 16 % 8)), vI (iK (hut nu co q))] g I J Q ↔ Q none g I (bz3 J (lK (B nu D 0 (q / 128) (q / 16 % 8) (hut nu co q))) (lK (B nu D 1 (q / 128) (q / 16 % 8) (hut nu co q))) (lK (B nu D 2 (q / 128) (q / 16 % 8) (hut nu co q)))) := by rw [z]; exact fA'
    have zz : q / 128 - 1 = q / 128 := by omega
    rw [zz] at vals
    simp (disch := decide) only [k208_0, k208_1, k208_4, k208_5, k208_7, k208_8, k208_10, k208_11, k208_13, k208_14, k208_16, k208_17, k208_18, k208_19, k208_20, k208_21, k208_23, k208_24, k208_25, k208_26, k208_28, k208_29, k208_32, k208_33, k208_36, k208_38, k208_39, k208_42, k208_44, k208_45, k208_46, k208_47, k208_50, k208_52, k208_53, k208_54, k208_55, k208_56, k208_57, k208_58, k208_61, k208_62, k208_65, k208_67, k208_68, k208_71, k208_73, k208_75, k208_76, k208_77, k208_78, k208_79, k208_82, k208_83, k208_85, k208_86, k208_87, k208_88, k208_89, k208_90, k208_91, k208_92, k208_95, k208_96, k208_97, k208_98, k208_99, k208_100, k208_102, k208_103, k208_104, k208_106, k208_107, k208_108, k208_110, k208_111, k208_113, k208_115, k208_116, k208_119, k208_121, k208_123, k208_126, k208_128, k208_130, k208_131, k208_134, k208_135, k208_137, k208_139, k208_141, k208_144, k208_146, k208_147, k208_150, k208_151, k208_152, k208_153, k208_156, k208_157, k208_160, k208_161, k208_162, k208_163, k208_164, k208_166, k208_167, k208_169, k208_171, k208_172, k208_175, k208_176, k208_178, k208_180, k208_181, k208_184, k208_185, k208_188, k208_190, k208_191, k208_192, k208_194, k208_195, k208_198, k208_200, k208_201, k208_202, k208_203, k208_204, k208_207, k208_210, k208_213, k208_216, gl102 hg, gl103 hg, gl104 hg, gl105 hg, gl106 hg, gl107 hg, gl108 hg, gl109 hg, gl110 hg, gl111 hg, gl112 hg, gl113 hg, gl114 hg, gl115 hg, gl116 hg, gl117 hg, gl118 hg, gl119 hg, gl120 hg, gl121 hg, gl122 hg, gl123 hg, gl124 hg, gl125 hg, gl126 hg, gl127 hg, gr101_0 hg, gr101_1 hg, gr101_10 hg, gr101_12 hg, gr101_2 hg, gr101_22 hg, gr101_23 hg, gr101_26 hg, gr101_27 hg, gr101_28 hg, gr101_29 hg, gr101_3 hg, gr101_30 hg, gr101_31 hg, gr101_32 hg, gr101_33 hg, gr101_34 hg, gr101_39 hg, gr101_4 hg, gr101_40 hg, gr101_41 hg, gr101_5 hg, gr101_6 hg, gr101_7 hg, gr101_8 hg, gr101_9 hg, gt101 hg, gt102 hg, gt103 hg, gt104 hg, gt105 hg, gt106 hg, gt107 hg, gt108 hg, gt109 hg, gt110 hg, gt111 hg, gt112 hg, gt113 hg, gt114 hg, gt115 hg, gt116 hg, gt117 hg, gt118 hg, gt119 hg, gt120 hg, gt121 hg, gt122 hg, gt123 hg, gt124 hg, gt125 hg, gt126 hg, gt127 hg, ab_inv_I, ab_inv_R, ab_inv_L, ab_inv_0, ab_push_some, ab_push_none, ab_E_sw, ab_E_sw0, true_and, and_true, not_false_eq_true, bit_ite, s2, s3, s4, s5, s7, qi_ite2, ab_bit0, ab_bit1, qi_ite, ql_ite, Nat.reduceLeDiff, d128, d16, d8, d4, d1000, d100, d10, if_true, if_false, ite_self, tn0, tn1, tn2, tn3, tn4, tn5, tn6, tn7, tn8, tn9, tn10, tn11, tn12, tn13, tn14, tn15, tn16, tn17, tn18, tn19, up_ne, up_row, fr_ne, fr_eq, Int32.reduceAdd, Int32.reduceMul, Int32.reduceSub, Int32.reduceDiv, Int32.reduceLT, Int32.reduceLE, Int32.reduceToNatClampNeg, i10, i01, ↓reduceIte, if_true, if_false, h.1.1, h.1.2, h.2.1, h.2.2, f0, f1, g1, g2, g3, g4, c1, c2, c3, c4, h3, h4, h5, o0, o1, t0, w0, w1, vi 0 3 rfl, vi 1 3 rfl, vi 2 3 rfl, vi 5 19 rfl, n0, n1, fA0, bz3_0, bz3_1, bz3_2, bz3_ne, lK_mul, lK_add, l_0, i02, i03, i04, i05, i06, i07, i12, i13, i14, i15, i16, i17, i20, i21, i23, i24, i25, i26, i27, i30, i31, i32, i34, i35, i36, i37, i40, i41, i42, i43, i45, i46, i47, i50, i51, i52, i53, i54, i56, i57, i60, i61, i62, i63, i64, i65, i67, i70, i71, i72, i73, i74, i75, i76, i10, i01]
    refine hQ _ (fun x hx => ?_) ?_ ?_ ?_
    · have a : x ≠ 118 := fun e => hx (by rw [e]; decide)
      have b : x ≠ 119 := fun e => hx (by rw [e]; decide)
      simp only [up_ne b, bz3_ne a]
    · simp (disch := decide) only [up_row, up_ne, fr_eq, fr_ne, bz3_ne]
      exact vals 0
    · simp (disch := decide) only [up_row, up_ne, fr_eq, fr_ne, bz3_ne]
      exact vals 1
    · simp (disch := decide) only [up_row, up_ne, fr_eq, fr_ne, bz3_ne]
      exact vals 2
  · have n0 : (0 : Int32) < nI (q / 128) := by rw [z]; decide
    have n1 : ¬ (1 : Int32) < nI (q / 128) := by rw [z]; decide
    have fB' := fB
    rw [show q / 128 - 1 = 0 by omega] at fB'
    have fB0 : ∀ (d : Nat) (J : ab_J) (Q : ab_Q), ab_run (d + 2) 209 [vR (some 101), vI 0, vI (nI (q / 16 % 8)), vI (iK (hut nu co q))] g I J Q ↔ Q none g I (bz3 J (lK (B nu D 0 (q / 128 - 1) (q / 16 % 8) (hut nu co q))) (lK (B nu D 1 (q / 128 - 1) (q / 16 % 8) (hut nu co q))) (lK (B nu D 2 (q / 128 - 1) (q / 16 % 8) (hut nu co q)))) := by rw [show q / 128 - 1 = 0 by omega]; exact fB'
    simp (disch := decide) only [k208_0, k208_1, k208_4, k208_5, k208_7, k208_8, k208_10, k208_11, k208_13, k208_14, k208_16, k208_17, k208_18, k208_19, k208_20, k208_21, k208_23, k208_24, k208_25, k208_26, k208_28, k208_29, k208_32, k208_33, k208_36, k208_38, k208_39, k208_42, k208_44, k208_45, k208_46, k208_47, k208_50, k208_52, k208_53, k208_54, k208_55, k208_56, k208_57, k208_58, k208_61, k208_62, k208_65, k208_67, k208_68, k208_71, k208_73, k208_75, k208_76, k208_77, k208_78, k208_79, k208_82, k208_83, k208_85, k208_86, k208_87, k208_88, k208_89, k208_90, k208_91, k208_92, k208_95, k208_96, k208_97, k208_98, k208_99, k208_100, k208_102, k208_103, k208_104, k208_106, k208_107, k208_108, k208_110, k208_111, k208_113, k208_115, k208_116, k208_119, k208_121, k208_123, k208_126, k208_128, k208_130, k208_131, k208_134, k208_135, k208_137, k208_139, k208_141, k208_144, k208_146, k208_147, k208_150, k208_151, k208_152, k208_153, k208_156, k208_157, k208_160, k208_161, k208_162, k208_163, k208_164, k208_166, k208_167, k208_169, k208_171, k208_172, k208_175, k208_176, k208_178, k208_180, k208_181, k208_184, k208_185, k208_188, k208_190, k208_191, k208_192, k208_194, k208_195, k208_198, k208_200, k208_201, k208_202, k208_203, k208_204, k208_207, k208_210, k208_213, k208_216, gl102 hg, gl103 hg, gl104 hg, gl105 hg, gl106 hg, gl107 hg, gl108 hg, gl109 hg, gl110 hg, gl111 hg, gl112 hg, gl113 hg, gl114 hg, gl115 hg, gl116 hg, gl117 hg, gl118 hg, gl119 hg, gl120 hg, gl121 hg, gl122 hg, gl123 hg, gl124 hg, gl125 hg, gl126 hg, gl127 hg, gr101_0 hg, gr101_1 hg, gr101_10 hg, gr101_12 hg, gr101_2 hg, gr101_22 hg, gr101_23 hg, gr101_26 hg, gr101_27 hg, gr101_28 hg, gr101_29 hg, gr101_3 hg, gr101_30 hg, gr101_31 hg, gr101_32 hg, gr101_33 hg, gr101_34 hg, gr101_39 hg, gr101_4 hg, gr101_40 hg, gr101_41 hg, gr101_5 hg, gr101_6 hg, gr101_7 hg, gr101_8 hg, gr101_9 hg, gt101 hg, gt102 hg, gt103 hg, gt104 hg, gt105 hg, gt106 hg, gt107 hg, gt108 hg, gt109 hg, gt110 hg, gt111 hg, gt112 hg, gt113 hg, gt114 hg, gt115 hg, gt116 hg, gt117 hg, gt118 hg, gt119 hg, gt120 hg, gt121 hg, gt122 hg, gt123 hg, gt124 hg, gt125 hg, gt126 hg, gt127 hg, ab_inv_I, ab_inv_R, ab_inv_L, ab_inv_0, ab_push_some, ab_push_none, ab_E_sw, ab_E_sw0, true_and, and_true, not_false_eq_true, bit_ite, s2, s3, s4, s5, s7, qi_ite2, ab_bit0, ab_bit1, qi_ite, ql_ite, Nat.reduceLeDiff, d128, d16, d8, d4, d1000, d100, d10, if_true, if_false, ite_self, tn0, tn1, tn2, tn3, tn4, tn5, tn6, tn7, tn8, tn9, tn10, tn11, tn12, tn13, tn14, tn15, tn16, tn17, tn18, tn19, up_ne, up_row, fr_ne, fr_eq, Int32.reduceAdd, Int32.reduceMul, Int32.reduceSub, Int32.reduceDiv, Int32.reduceLT, Int32.reduceLE, Int32.reduceToNatClampNeg, i10, i01, ↓reduceIte, if_true, if_false, h.1.1, h.1.2, h.2.1, h.2.2, f0, f1, g1, g2, g3, g4, c1, c2, c3, c4, h3, h4, h5, o0, o1, t0, w0, w1, vi 0 3 rfl, vi 1 3 rfl, vi 2 3 rfl, vi 5 19 rfl, n0, n1, fA, fB0, Int32.sub_zero, bz3_0, bz3_1, bz3_2, bz3_ne, lK_mul, lK_add, l_0, i02, i03, i04, i05, i06, i07, i12, i13, i14, i15, i16, i17, i20, i21, i23, i24, i25, i26, i27, i30, i31, i32, i34, i35, i36, i37, i40, i41, i42, i43, i45, i46, i47, i50, i51, i52, i53, i54, i56, i57, i60, i61, i62, i63, i64, i65, i67, i70, i71, i72, i73, i74, i75, i76, i10, i01]
    refine hQ _ (fun x hx => ?_) ?_ ?_ ?_
    · have a : x ≠ 118 := fun e => hx (by rw [e]; decide)
      have b : x ≠ 119 := fun e => hx (by rw [e]; decide)
      simp only [up_ne b, bz3_ne a]
    · simp (disch := decide) only [up_row, up_ne, fr_eq, fr_ne, bz3_ne]
      exact vals 0
    · simp (disch := decide) only [up_row, up_ne, fr_eq, fr_ne, bz3_ne]
      exact vals 1
    · simp (disch := decide) only [up_row, up_ne, fr_eq, fr_ne, bz3_ne]
      exact vals 2
  · have n0 : (0 : Int32) < nI (q / 128) := nI_lt (a := 0) (by omega) (by omega)
    have n1 : (1 : Int32) < nI (q / 128) := nI_lt (a := 1) z (by omega)
    have n2 : nI (q / 128) - 1 = nI (q / 128 - 1) := nIsub (b := 1) (by omega)
    simp (disch := decide) only [k208_0, k208_1, k208_4, k208_5, k208_7, k208_8, k208_10, k208_11, k208_13, k208_14, k208_16, k208_17, k208_18, k208_19, k208_20, k208_21, k208_23, k208_24, k208_25, k208_26, k208_28, k208_29, k208_32, k208_33, k208_36, k208_38, k208_39, k208_42, k208_44, k208_45, k208_46, k208_47, k208_50, k208_52, k208_53, k208_54, k208_55, k208_56, k208_57, k208_58, k208_61, k208_62, k208_65, k208_67, k208_68, k208_71, k208_73, k208_75, k208_76, k208_77, k208_78, k208_79, k208_82, k208_83, k208_85, k208_86, k208_87, k208_88, k208_89, k208_90, k208_91, k208_92, k208_95, k208_96, k208_97, k208_98, k208_99, k208_100, k208_102, k208_103, k208_104, k208_106, k208_107, k208_108, k208_110, k208_111, k208_113, k208_115, k208_116, k208_119, k208_121, k208_123, k208_126, k208_128, k208_130, k208_131, k208_134, k208_135, k208_137, k208_139, k208_141, k208_144, k208_146, k208_147, k208_150, k208_151, k208_152, k208_153, k208_156, k208_157, k208_160, k208_161, k208_162, k208_163, k208_164, k208_166, k208_167, k208_169, k208_171, k208_172, k208_175, k208_176, k208_178, k208_180, k208_181, k208_184, k208_185, k208_188, k208_190, k208_191, k208_192, k208_194, k208_195, k208_198, k208_200, k208_201, k208_202, k208_203, k208_204, k208_207, k208_210, k208_213, k208_216, gl102 hg, gl103 hg, gl104 hg, gl105 hg, gl106 hg, gl107 hg, gl108 hg, gl109 hg, gl110 hg, gl111 hg, gl112 hg, gl113 hg, gl114 hg, gl115 hg, gl116 hg, gl117 hg, gl118 hg, gl119 hg, gl120 hg, gl121 hg, gl122 hg, gl123 hg, gl124 hg, gl125 hg, gl126 hg, gl127 hg, gr101_0 hg, gr101_1 hg, gr101_10 hg, gr101_12 hg, gr101_2 hg, gr101_22 hg, gr101_23 hg, gr101_26 hg, gr101_27 hg, gr101_28 hg, gr101_29 hg, gr101_3 hg, gr101_30 hg, gr101_31 hg, gr101_32 hg, gr101_33 hg, gr101_34 hg, gr101_39 hg, gr101_4 hg, gr101_40 hg, gr101_41 hg, gr101_5 hg, gr101_6 hg, gr101_7 hg, gr101_8 hg, gr101_9 hg, gt101 hg, gt102 hg, gt103 hg, gt104 hg, gt105 hg, gt106 hg, gt107 hg, gt108 hg, gt109 hg, gt110 hg, gt111 hg, gt112 hg, gt113 hg, gt114 hg, gt115 hg, gt116 hg, gt117 hg, gt118 hg, gt119 hg, gt120 hg, gt121 hg, gt122 hg, gt123 hg, gt124 hg, gt125 hg, gt126 hg, gt127 hg, ab_inv_I, ab_inv_R, ab_inv_L, ab_inv_0, ab_push_some, ab_push_none, ab_E_sw, ab_E_sw0, true_and, and_true, not_false_eq_true, bit_ite, s2, s3, s4, s5, s7, qi_ite2, ab_bit0, ab_bit1, qi_ite, ql_ite, Nat.reduceLeDiff, d128, d16, d8, d4, d1000, d100, d10, if_true, if_false, ite_self, tn0, tn1, tn2, tn3, tn4, tn5, tn6, tn7, tn8, tn9, tn10, tn11, tn12, tn13, tn14, tn15, tn16, tn17, tn18, tn19, up_ne, up_row, fr_ne, fr_eq, Int32.reduceAdd, Int32.reduceMul, Int32.reduceSub, Int32.reduceDiv, Int32.reduceLT, Int32.reduceLE, Int32.reduceToNatClampNeg, i10, i01, ↓reduceIte, if_true, if_false, h.1.1, h.1.2, h.2.1, h.2.2, f0, f1, g1, g2, g3, g4, c1, c2, c3, c4, h3, h4, h5, o0, o1, t0, w0, w1, vi 0 3 rfl, vi 1 3 rfl, vi 2 3 rfl, vi 5 19 rfl, n0, n1, n2, fA, fB, Int32.sub_zero, bz3_0, bz3_1, bz3_2, bz3_ne, lK_mul, lK_add, l_0, i02, i03, i04, i05, i06, i07, i12, i13, i14, i15, i16, i17, i20, i21, i23, i24, i25, i26, i27, i30, i31, i32, i34, i35, i36, i37, i40, i41, i42, i43, i45, i46, i47, i50, i51, i52, i53, i54, i56, i57, i60, i61, i62, i63, i64, i65, i67, i70, i71, i72, i73, i74, i75, i76, i10, i01]
    refine hQ _ (fun x hx => ?_) ?_ ?_ ?_
    · have a : x ≠ 118 := fun e => hx (by rw [e]; decide)
      have b : x ≠ 119 := fun e => hx (by rw [e]; decide)
      simp only [up_ne b, bz3_ne a]
    · simp (disch := decide) only [up_row, up_ne, fr_eq, fr_ne, bz3_ne]
      exact vals 0
    · simp (disch := decide) only [up_row, up_ne, fr_eq, fr_ne, bz3_ne]
      exact vals 1
    · simp (disch := decide) only [up_row, up_ne, fr_eq, fr_ne, bz3_ne]
      exact vals 2
end P34
