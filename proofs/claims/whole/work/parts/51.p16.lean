/-! ===== append and add ===== -/
section P16
variable {d SL : Nat} {xs : Nat → Int32} {g g' : ab_G} {I I0 : ab_I} {J J' : ab_J} {Q : ab_Q}
theorem gx_nr (h : gx g) (hN : nr g g' I I0 J J') : gx g' := by
  obtain ⟨n1, n2, n3, n4, n5, n6, n7, n8⟩ := hN
  have hn : 128 ≤ ab_n g := h.2.2
  refine ⟨fun q hq => ?_, fun q hq => ?_, by omega⟩
  · have := gx_tab128 q hq
    rw [(n7 q.1 (by omega)).1, (n7 q.1 (by omega)).2.1]
    exact h.1 q hq
  · have := gx_ref128 q hq
    rw [(n7 q.1 (by omega)).2.2.1]
    exact h.2.1 q hq
theorem c_St_append {r k : Nat} (hg : gx g) (hk : k < 20) (hc : I 30 7 = nI k) (hr : ab_ty g r = 17) : ab_run (d + 1) 69 [vR (some 30), vR (some r)] g I J Q ↔ Q (some (vI (nI k))) (ab_setR g 41 k (some r)) (ab_up I 30 7 (nI (k + 1))) J := by
  have f1 : nI k < 20 := nI_lt (b := 20) hk (by decide)
  have f2 : vp_in (nI k) 20 := vp_in_nI hk (by decide)
  have f3 : (nI k).toNatClampNeg = k := nI_clamp (by omega)
  have hx : ((some r : Option Nat) = none ∧ ((3 : Nat) = 3 ∨ (3 : Nat) = 4) ∨ ∃ b, (some r : Option Nat) = some b ∧ ((3 : Nat) = 3 ∧ ab_ty g b = 17 ∨ (3 : Nat) = 4 ∧ ab_ty g b = 18)) = True := eq_true (Or.inr ⟨r, rfl, Or.inl ⟨rfl, hr⟩⟩)
  have hg2 : gx (ab_setR g 41 k (some r)) := gx_set hg (by decide)
  rw [e69]
  simp only [k69_0, k69_1, k69_4, k69_5, k69_6, k69_8, k69_11, k69_12, k69_15, k69_16, k69_17, k69_18, k69_19, k69_20, k69_21, k69_22, k69_25, k69_26, gl31 hg, gl32 hg, gl33 hg, gl34 hg, gl35 hg, gl36 hg, gl37 hg, gl38 hg, gl39 hg, gl40 hg, gl41 hg, gr30_0 hg, gr30_1 hg, gr30_2 hg, gr30_3 hg, gr30_4 hg, gr30_5 hg, gr30_6 hg, gr32_0 hg, gr32_1 hg, gr36_0 hg, gr36_1 hg, gt30 hg, gt31 hg, gt32 hg, gt33 hg, gt34 hg, gt35 hg, gt36 hg, gt37 hg, gt38 hg, gt39 hg, gt40 hg, gt41 hg, gt30 hg2, ab_inv_I, ab_inv_R, ab_inv_L, ab_inv_0, ab_push_some, ab_push_none, ab_E_sw, ab_E_sw0, true_and, and_true, not_false_eq_true, bit_ite, s2, s3, s4, s5, s7, qi_ite2, ab_bit0, ab_bit1, qi_ite, ql_ite, Nat.reduceLeDiff, d128, d16, d8, d4, d1000, d100, d10, if_true, if_false, ite_self, tn0, tn1, tn2, tn3, tn4, tn5, tn6, tn7, tn8, tn9, tn10, tn11, tn12, tn13, tn14, tn15, tn16, tn17, tn18, tn19, f1, f2, f3, hc, nI_1]
  exact ⟨fun q => q.2, fun q => ⟨Or.inr ⟨r, rfl, Or.inl hr⟩, q⟩⟩
theorem c_M_add {x a b c : Int32} {k : Nat} (hg : gx g) (hk : k < 20) (hc : I 103 4 = nI k) : ab_run (d + 1) 185 [vR (some 101), vI x, vI a, vI b, vI c] g I J Q ↔ Q (some (vI (nI k))) g (ab_up (ab_up (ab_up (ab_up (ab_up I 106 (4 * k) x) 106 (4 * k + 1) a) 106 (4 * k + 2) b) 106 (4 * k + 3) c) 103 4 (nI (k + 1))) J := by
  have f0 : (4 : Int32) * nI k = nI (4 * k) := nImul (a := 4)
  have f1 : nI (4 * k) + 1 = nI (4 * k + 1) := nI_add (4 * k) 1
  have f2 : nI (4 * k) + 2 = nI (4 * k + 2) := nI_add (4 * k) 2
  have f3 : nI (4 * k) + 3 = nI (4 * k + 3) := nI_add (4 * k) 3
  have g0 : vp_in (nI (4 * k)) 80 := vp_in_nI (by omega) (by decide)
  have g1 : vp_in (nI (4 * k + 1)) 80 := vp_in_nI (by omega) (by decide)
  have g2 : vp_in (nI (4 * k + 2)) 80 := vp_in_nI (by omega) (by decide)
  have g3 : vp_in (nI (4 * k + 3)) 80 := vp_in_nI (by omega) (by decide)
  have h0 : (nI (4 * k)).toNatClampNeg = 4 * k := nI_clamp (by omega)
  have h1 : (nI (4 * k + 1)).toNatClampNeg = 4 * k + 1 := nI_clamp (by omega)
  have h2 : (nI (4 * k + 2)).toNatClampNeg = 4 * k + 2 := nI_clamp (by omega)
  have h3 : (nI (4 * k + 3)).toNatClampNeg = 4 * k + 3 := nI_clamp (by omega)
  have k1 : nI k + 1 = nI (k + 1) := nI_1 k
  rw [e185]
  simp (disch := decide) only [k185_0, k185_1, k185_4, k185_5, k185_6, k185_8, k185_9, k185_12, k185_13, k185_15, k185_16, k185_17, k185_18, k185_19, k185_22, k185_23, k185_25, k185_26, k185_27, k185_28, k185_29, k185_30, k185_31, k185_34, k185_35, k185_37, k185_38, k185_39, k185_40, k185_41, k185_42, k185_43, k185_46, k185_47, k185_49, k185_50, k185_51, k185_52, k185_54, k185_55, k185_56, k185_59, k185_60, k185_61, k185_62, k185_63, k185_64, k185_65, k185_67, gl102 hg, gl103 hg, gl104 hg, gl105 hg, gl106 hg, gl107 hg, gl108 hg, gl109 hg, gl110 hg, gl111 hg, gl112 hg, gl113 hg, gl114 hg, gl115 hg, gl116 hg, gl117 hg, gl118 hg, gl119 hg, gl120 hg, gl121 hg, gl122 hg, gl123 hg, gl124 hg, gl125 hg, gl126 hg, gl127 hg, gr101_0 hg, gr101_1 hg, gr101_10 hg, gr101_12 hg, gr101_2 hg, gr101_22 hg, gr101_23 hg, gr101_26 hg, gr101_27 hg, gr101_28 hg, gr101_29 hg, gr101_3 hg, gr101_30 hg, gr101_31 hg, gr101_32 hg, gr101_33 hg, gr101_34 hg, gr101_39 hg, gr101_4 hg, gr101_40 hg, gr101_41 hg, gr101_5 hg, gr101_6 hg, gr101_7 hg, gr101_8 hg, gr101_9 hg, gt101 hg, gt102 hg, gt103 hg, gt104 hg, gt105 hg, gt106 hg, gt107 hg, gt108 hg, gt109 hg, gt110 hg, gt111 hg, gt112 hg, gt113 hg, gt114 hg, gt115 hg, gt116 hg, gt117 hg, gt118 hg, gt119 hg, gt120 hg, gt121 hg, gt122 hg, gt123 hg, gt124 hg, gt125 hg, gt126 hg, gt127 hg, ab_inv_I, ab_inv_R, ab_inv_L, ab_inv_0, ab_push_some, ab_push_none, ab_E_sw, ab_E_sw0, true_and, and_true, not_false_eq_true, bit_ite, s2, s3, s4, s5, s7, qi_ite2, ab_bit0, ab_bit1, qi_ite, ql_ite, Nat.reduceLeDiff, d128, d16, d8, d4, d1000, d100, d10, if_true, if_false, ite_self, tn0, tn1, tn2, tn3, tn4, tn5, tn6, tn7, tn8, tn9, tn10, tn11, tn12, tn13, tn14, tn15, tn16, tn17, tn18, tn19, hc, f0, f1, f2, f3, g0, g1, g2, g3, h0, h1, h2, h3, vi 4 19 rfl, up_ne, k1]
/-- dues of a rule of bars -/
theorem due_db {ru co : Nat → Int32} {k : Nat} {s o : Int32} (h5 : ¬ ru (4 * k) = 5) (h6 : ¬ ru (4 * k) = 6) : due ru co s o k = (db (ru (4 * k)) (ru (4 * k + 1)) (ru (4 * k + 2)) (ru (4 * k + 3)) s o, 0) := by
  unfold due du pdu db
  simp only [h5, h6, if_false]
end P16
