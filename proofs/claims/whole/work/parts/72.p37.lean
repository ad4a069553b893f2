/-! ===== the reference: rests ===== -/
theorem nOK_lim {nu pr ga : Nat → Int32} (h : nOK nu pr ga) : (nu 0).toNatClampNeg ≤ 8 ∧ (nu 1).toNatClampNeg ≤ 8 ∧ (nu 2).toNatClampNeg ≤ 4 ∧ (nu 3).toNatClampNeg ≤ 4 := by
  obtain ⟨a, ha, ea⟩ := rg_nI (n := 8) h.1.1
  obtain ⟨b, hb, eb⟩ := rg_nI (n := 8) h.1.2.1
  obtain ⟨c, hc, ec⟩ := rg_nI (n := 4) (rg1 h.1.2.2.1)
  obtain ⟨e, he, ee⟩ := rg_nI (n := 4) (rg1 h.1.2.2.2.1)
  rw [ea, eb, ec, ee, nI_clamp (by omega), nI_clamp (by omega), nI_clamp (by omega), nI_clamp (by omega)]
  exact ⟨ha, hb, hc, he⟩
section P37
variable {d : Nat} {g : ab_G} {I : ab_I} {J : ab_J} {Q : ab_Q} {nu pr ga ru co D : Nat → Int32} {q i : Nat} {s : Int32} {F G : Nat → Int}
set_option maxRecDepth 20000 in
theorem c_M_couldBetter0 (hg : gx g) (h3 : I 103 = nu) (hN : nOK nu pr ga) (hF : ∀ p, p ∈ tW nu 1024 → J 122 p = lK (F p) ∧ -9223372036854775808 ≤ F p ∧ F p < 9223372036854775807) (hq : q ∈ tW nu 1024) {v : Int32} (hv : ((∀ p, p ∈ tW nu 1024 → onq 1 p = onq 1 q → F q ≤ F p) → v = 0) ∧ (¬ (∀ p, p ∈ tW nu 1024 → onq 1 p = onq 1 q → F q ≤ F p) → v = 1)) (hQ : Q (some (vI v)) g I J) : ab_run (d + 3) 228 [vR (some 101), vI 0, vI (nI q)] g I J Q := by
  have lim := nOK_lim hN
  obtain ⟨z, hz, hz2⟩ := ol0_ex (f := F) lim.1 lim.2.2.1 hq
  have hcb := cbb0 (f := F) lim.1 lim.2.2.1 hq hz
  have q1 := (tW_mem.mp hq).1
  have z1 := (tW_mem.mp hz2).1
  have a1 := hF q hq
  have a2 := hF z hz2
  have f1 : vp_in (nI q) 1024 := vp_in_nI q1 (by decide)
  have f2 : (nI q).toNatClampNeg = q := nI_clamp (by omega)
  have f3 : vp_in (nI z) 1024 := vp_in_nI z1 (by decide)
  have f4 : (nI z).toNatClampNeg = z := nI_clamp (by omega)
  have n2 : (lK (F z) < lK (F q)) = (F z < F q) := lK_lt (by omega) (by omega)
  rw [e228]
  simp only [k228_0, k228_1, k228_2, k228_3, gt101 hg, ab_inv_I, ab_inv_R, ab_inv_L, ab_inv_0, ab_push_some, ab_push_none, ab_E_sw, ab_E_sw0, true_and, and_true, not_false_eq_true, bit_ite, s2, s3, s4, s5, s7, qi_ite2, ab_bit0, ab_bit1, qi_ite, ql_ite, Nat.reduceLeDiff, d128, d16, d8, d4, d1000, d100, d10, if_true, if_false, ite_self, tn0, tn1, tn2, tn3, tn4, tn5, tn6, tn7, tn8, tn9, tn10, tn11, tn12, tn13, tn14, tn15, tn16, tn17, tn18, tn19]
  refine c_M_answerOf0 hg h3 hN hF hq ?_
  rw [hz]
  unfold bv
  by_cases hlt : F z < F q
  · have nh : ¬ (∀ p, p ∈ tW nu 1024 → onq 1 p = onq 1 q → F q ≤ F p) := fun h => (hcb.mpr h) hlt
    rw [hv.2 nh] at hQ
    simp only [k228_0, k228_1, k228_2, k228_3, k228_6, k228_7, k228_8, k228_11, k228_12, k228_15, k228_16, k228_17, k228_18, k228_21, k228_22, k228_23, k228_24, k228_27, k228_28, k228_31, k228_32, k228_35, k228_36, k228_39, k228_40, k228_41, k228_42, k228_45, k228_46, k228_47, k228_48, k228_51, k228_52, k228_55, k228_56, gl102 hg, gl103 hg, gl104 hg, gl105 hg, gl106 hg, gl107 hg, gl108 hg, gl109 hg, gl110 hg, gl111 hg, gl112 hg, gl113 hg, gl114 hg, gl115 hg, gl116 hg, gl117 hg, gl118 hg, gl119 hg, gl120 hg, gl121 hg, gl122 hg, gl123 hg, gl124 hg, gl125 hg, gl126 hg, gl127 hg, gr101_0 hg, gr101_1 hg, gr101_10 hg, gr101_12 hg, gr101_2 hg, gr101_22 hg, gr101_23 hg, gr101_26 hg, gr101_27 hg, gr101_28 hg, gr101_29 hg, gr101_3 hg, gr101_30 hg, gr101_31 hg, gr101_32 hg, gr101_33 hg, gr101_34 hg, gr101_39 hg, gr101_4 hg, gr101_40 hg, gr101_41 hg, gr101_5 hg, gr101_6 hg, gr101_7 hg, gr101_8 hg, gr101_9 hg, gt101 hg, gt102 hg, gt103 hg, gt104 hg, gt105 hg, gt106 hg, gt107 hg, gt108 hg, gt109 hg, gt110 hg, gt111 hg, gt112 hg, gt113 hg, gt114 hg, gt115 hg, gt116 hg, gt117 hg, gt118 hg, gt119 hg, gt120 hg, gt121 hg, gt122 hg, gt123 hg, gt124 hg, gt125 hg, gt126 hg, gt127 hg, ab_inv_I, ab_inv_R, ab_inv_L, ab_inv_0, ab_push_some, ab_push_none, ab_E_sw, ab_E_sw0, true_and, and_true, not_false_eq_true, bit_ite, s2, s3, s4, s5, s7, qi_ite2, ab_bit0, ab_bit1, qi_ite, ql_ite, Nat.reduceLeDiff, d128, d16, d8, d4, d1000, d100, d10, if_true, if_false, ite_self, tn0, tn1, tn2, tn3, tn4, tn5, tn6, tn7, tn8, tn9, tn10, tn11, tn12, tn13, tn14, tn15, tn16, tn17, tn18, tn19, Int32.reduceAdd, Int32.reduceMul, Int32.reduceSub, Int32.reduceDiv, Int32.reduceLT, Int32.reduceLE, Int32.reduceToNatClampNeg, i10, i01, ↓reduceIte, if_true, if_false, i02, i03, i04, i05, i06, i07, i12, i13, i14, i15, i16, i17, i20, i21, i23, i24, i25, i26, i27, i30, i31, i32, i34, i35, i36, i37, i40, i41, i42, i43, i45, i46, i47, i50, i51, i52, i53, i54, i56, i57, i60, i61, i62, i63, i64, i65, i67, i70, i71, i72, i73, i74, i75, i76, i10, i01, f1, f2, f3, f4, a1.1, a2.1, lg_cmp_lt, n2, hlt]
    exact hQ
  · rw [hv.1 (hcb.mp hlt)] at hQ
    simp only [k228_0, k228_1, k228_2, k228_3, k228_6, k228_7, k228_8, k228_11, k228_12, k228_15, k228_16, k228_17, k228_18, k228_21, k228_22, k228_23, k228_24, k228_27, k228_28, k228_31, k228_32, k228_35, k228_36, k228_39, k228_40, k228_41, k228_42, k228_45, k228_46, k228_47, k228_48, k228_51, k228_52, k228_55, k228_56, gl102 hg, gl103 hg, gl104 hg, gl105 hg, gl106 hg, gl107 hg, gl108 hg, gl109 hg, gl110 hg, gl111 hg, gl112 hg, gl113 hg, gl114 hg, gl115 hg, gl116 hg, gl117 hg, gl118 hg, gl119 hg, gl120 hg, gl121 hg, gl122 hg, gl123 hg, gl124 hg, gl125 hg, gl126 hg, gl127 hg, gr101_0 hg, gr101_1 hg, gr101_10 hg, gr101_12 hg, gr101_2 hg, gr101_22 hg, gr101_23 hg, gr101_26 hg, gr101_27 hg, gr101_28 hg, gr101_29 hg, gr101_3 hg, gr101_30 hg, gr101_31 hg, gr101_32 hg, gr101_33 hg, gr101_34 hg, gr101_39 hg, gr101_4 hg, gr101_40 hg, gr101_41 hg, gr101_5 hg, gr101_6 hg, gr101_7 hg, gr101_8 hg, gr101_9 hg, gt101 hg, gt102 hg, gt103 hg, gt104 hg, gt105 hg, gt106 hg, gt107 hg, gt108 hg, gt109 hg, gt110 hg, gt111 hg, gt112 hg, gt113 hg, gt114 hg, gt115 hg, gt116 hg, gt117 hg, gt118 hg, gt119 hg, gt120 hg, gt121 hg, gt122 hg, gt123 hg, gt124 hg, gt125 hg, gt126 hg, gt127 hg, ab_inv_I, ab_inv_R, ab_inv_L, ab_inv_0, ab_push_some, ab_push_none, ab_E_sw, ab_E_sw0, true_and, and_true, not_false_eq_true, bit_ite, s2, s3, s4, s5, s7, qi_ite2, ab_bit0, ab_bit1, qi_ite, ql_ite, Nat.reduceLeDiff, d128, d16, d8, d4, d1000, d100, d10, if_true, if_false, ite_self, tn0, tn1, tn2, tn3, tn4, tn5, tn6, tn7, tn8, tn9, tn10, tn11, tn12, tn13, tn14, tn15, tn16, tn17, tn18, tn19, Int32.reduceAdd, Int32.reduceMul, Int32.reduceSub, Int32.reduceDiv, Int32.reduceLT, Int32.reduceLE, Int32.reduceToNatClampNeg, i10, i01, ↓reduceIte, if_true, if_false, i02, i03, i04, i05, i06, i07, i12, i13, i14, i15, i16, i17, i20, i21, i23, i24, i25, i26, i27, i30, i31, i32, i34, i35, i36, i37, i40, i41, i42, i43, i45, i46, i47, i50, i51, i52, i53, i54, i56, i57, i60, i61, i62, i63, i64, i65, i67, i70, i71, i72, i73, i74, i75, i76, i10, i01, f1, f2, f3, f4, a1.1, a2.1, lg_cmp_lt, n2, hlt]
    exact hQ
set_option maxRecDepth 20000 in
theorem c_M_couldBetter1 (hg : gx g) (h3 : I 103 = nu) (hN : nOK nu pr ga) (hG : ∀ p, p ∈ tW nu 1024 → J 123 p = lK (G p) ∧ -9223372036854775808 ≤ G p ∧ G p < 9223372036854775807) (hq : q ∈ tW nu 1024) {v : Int32} (hv : ((∀ p, p ∈ tW nu 1024 → onq 0 p = onq 0 q → G q ≤ G p) → v = 0) ∧ (¬ (∀ p, p ∈ tW nu 1024 → onq 0 p = onq 0 q → G q ≤ G p) → v = 1)) (hQ : Q (some (vI v)) g I J) : ab_run (d + 3) 228 [vR (some 101), vI 1, vI (nI q)] g I J Q := by
  have lim := nOK_lim hN
  obtain ⟨z, hz, hz2⟩ := ol1_ex (f := G) lim.2.1 lim.2.2.2 hq
  have hcb := cbb1 (f := G) lim.2.1 lim.2.2.2 hq hz
  have q1 := (tW_mem.mp hq).1
  have z1 := (tW_mem.mp hz2).1
  have a1 := hG q hq
  have a2 := hG z hz2
  have f1 : vp_in (nI q) 1024 := vp_in_nI q1 (by decide)
  have f2 : (nI q).toNatClampNeg = q := nI_clamp (by omega)
  have f3 : vp_in (nI z) 1024 := vp_in_nI z1 (by decide)
  have f4 : (nI z).toNatClampNeg = z := nI_clamp (by omega)
  have n2 : (lK (G z) < lK (G q)) = (G z < G q) := lK_lt (by omega) (by omega)
  rw [e228]
  simp only [k228_0, k228_1, k228_2, k228_3, gt101 hg, ab_inv_I, ab_inv_R, ab_inv_L, ab_inv_0, ab_push_some, ab_push_none, ab_E_sw, ab_E_sw0, true_and, and_true, not_false_eq_true, bit_ite, s2, s3, s4, s5, s7, qi_ite2, ab_bit0, ab_bit1, qi_ite, ql_ite, Nat.reduceLeDiff, d128, d16, d8, d4, d1000, d100, d10, if_true, if_false, ite_self, tn0, tn1, tn2, tn3, tn4, tn5, tn6, tn7, tn8, tn9, tn10, tn11, tn12, tn13, tn14, tn15, tn16, tn17, tn18, tn19]
  refine c_M_answerOf1 hg h3 hN hG hq ?_
  rw [hz]
  unfold bv
  by_cases hlt : G z < G q
  · have nh : ¬ (∀ p, p ∈ tW nu 1024 → onq 0 p = onq 0 q → G q ≤ G p) := fun h => (hcb.mpr h) hlt
    rw [hv.2 nh] at hQ
    simp only [k228_0, k228_1, k228_2, k228_3, k228_6, k228_7, k228_8, k228_11, k228_12, k228_15, k228_16, k228_17, k228_18, k228_21, k228_22, k228_23, k228_24, k228_27, k228_28, k228_31, k228_32, k228_35, k228_36, k228_39, k228_40, k228_41, k228_42, k228_45, k228_46, k228_47, k228_48, k228_51, k228_52, k228_55, k228_56, gl102 hg, gl103 hg, gl104 hg, gl105 hg, gl106 hg, gl107 hg, gl108 hg, gl109 hg, gl110 hg, gl111 hg, gl112 hg, gl113 hg, gl114 hg, gl115 hg, gl116 hg, gl117 hg, gl118 hg, gl119 hg, gl120 hg, gl121 hg, gl122 hg, gl123 hg, gl124 hg, gl125 hg, gl126 hg, gl127 hg, gr101_0 hg, gr101_1 hg, gr101_10 hg, gr101_12 hg, gr101_2 hg, gr101_22 hg, gr101_23 hg, gr101_26 hg, gr101_27 hg, gr101_28 hg, gr101_29 hg, gr101_3 hg, gr101_30 hg, gr101_31 hg, gr101_32 hg, gr101_33 hg, gr101_34 hg, gr101_39 hg, gr101_4 hg, gr101_40 hg, gr101_41 hg, gr101_5 hg, gr101_6 hg, gr101_7 hg, gr101_8 hg, gr101_9 hg, gt101 hg, gt102 hg, gt103 hg, gt104 hg, gt105 hg, gt106 hg, gt107 hg, gt108 hg, gt109 hg, gt110 hg, gt111 hg, gt112 hg, gt113 hg, gt114 hg, gt115 hg, gt116 hg, gt117 hg, gt118 hg, gt119 hg, gt120 hg, gt121 hg, gt122 hg, gt123 hg, gt124 hg, gt125 hg, gt126 hg, gt127 hg, ab_inv_I, ab_inv_R, ab_inv_L, ab_inv_0, ab_push_some, ab_push_none, ab_E_sw, ab_E_sw0, true_and, and_true, not_false_eq_true, bit_ite, s2, s3, s4, s5, s7, qi_ite2, ab_bit0, ab_bit1, qi_ite, ql_ite, Nat.reduceLeDiff, d128, d16, d8, d4, d1000, d100, d10, if_true, if_false, ite_self, tn0, tn1, tn2, tn3, tn4, tn5, tn6, tn7, tn8, tn9, tn10, tn11, tn12, tn13, tn14, tn15, tn16, tn17, tn18, tn19, Int32.reduceAdd, Int32.reduceMul, Int32.reduceSub, Int32.reduceDiv, Int32.reduceLT, Int32.reduceLE, Int32.reduceToNatClampNeg, i10, i01, ↓reduceIte, if_true, if_false, i02, i03, i04, i05, i06, i07, i12, i13, i14, i15, i16, i17, i20, i21, i23, i24, i25, i26, i27, i30, i31, i32, i34, i35, i36, i37, i40, i41, i42, i43, i45, i46, i47, i50, i51, i52, i53, i54, i56, i57, i60, i61, i62, i63, i64, i65, i67, i70, i71, i72, i73, i74, i75, i76, i10, i01, f1, f2, f3, f4, a1.1, a2.1, lg_cmp_lt, n2, hlt]
    exact hQ
  · rw [hv.1 (hcb.mp hlt)] at hQ
    simp only [k228_0, k228_1, k228_2, k228_3, k228_6, k228_7, k228_8, k228_11, k228_12, k228_15, k228_16, k228_17, k228_18, k228_21, k228_22, k228_23, k228_24, k228_27, k228_28, k228_31, k228_32, k228_35, k228_36, k228_39, k228_40, k228_41, k228_42, k228_45, k228_46, k228_47, k228_48, k228_51, k228_52, k228_55, k228_56, gl102 hg, gl103 hg, gl104 hg, gl105 hg, gl106 hg, gl107 hg, gl108 hg, gl109 hg, gl110 hg, gl111 hg, gl112 hg, gl113 hg, gl114 hg, gl115 hg, gl116 hg, gl117 hg, gl118 hg, gl119 hg, gl120 hg, gl121 hg, gl122 hg, gl123 hg, gl124 hg, gl125 hg, gl126 hg, gl127 hg, gr101_0 hg, gr101_1 hg, gr101_10 hg, gr101_12 hg, gr101_2 hg, gr101_22 hg, gr101_23 hg, gr101_26 hg, gr101_27 hg, gr101_28 hg, gr101_29 hg, gr101_3 hg, gr101_30 hg, gr101_31 hg, gr101_32 hg, gr101_33 hg, gr101_34 hg, gr101_39 hg, gr101_4 hg, gr101_40 hg, gr101_41 hg, gr101_5 hg, gr101_6 hg, gr101_7 hg, gr101_8 hg, gr101_9 hg, gt101 hg, gt102 hg, gt103 hg, gt104 hg, gt105 hg, gt106 hg, gt107 hg, gt108 hg, gt109 hg, gt110 hg, gt111 hg, gt112 hg, gt113 hg, gt114 hg, gt115 hg, gt116 hg, gt117 hg, gt118 hg, gt119 hg, gt120 hg, gt121 hg, gt122 hg, gt123 hg, gt124 hg, gt125 hg, gt126 hg, gt127 hg, ab_inv_I, ab_inv_R, ab_inv_L, ab_inv_0, ab_push_some, ab_push_none, ab_E_sw, ab_E_sw0, true_and, and_true, not_false_eq_true, bit_ite, s2, s3, s4, s5, s7, qi_ite2, ab_bit0, ab_bit1, qi_ite, ql_ite, Nat.reduceLeDiff, d128, d16, d8, d4, d1000, d100, d10, if_true, if_false, ite_self, tn0, tn1, tn2, tn3, tn4, tn5, tn6, tn7, tn8, tn9, tn10, tn11, tn12, tn13, tn14, tn15, tn16, tn17, tn18, tn19, Int32.reduceAdd, Int32.reduceMul, Int32.reduceSub, Int32.reduceDiv, Int32.reduceLT, Int32.reduceLE, Int32.reduceToNatClampNeg, i10, i01, ↓reduceIte, if_true, if_false, i02, i03, i04, i05, i06, i07, i12, i13, i14, i15, i16, i17, i20, i21, i23, i24, i25, i26, i27, i30, i31, i32, i34, i35, i36, i37, i40, i41, i42, i43, i45, i46, i47, i50, i51, i52, i53, i54, i56, i57, i60, i61, i62, i63, i64, i65, i67, i70, i71, i72, i73, i74, i75, i76, i10, i01, f1, f2, f3, f4, a1.1, a2.1, lg_cmp_lt, n2, hlt]
    exact hQ
end P37
