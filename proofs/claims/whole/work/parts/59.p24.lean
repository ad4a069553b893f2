/-! ===== what a row of steps comes to: the reference ===== -/
section P24
variable {d SL : Nat} {g : ab_G} {I : ab_I} {J : ab_J} {Q : ab_Q}
theorem lp_goes {r N : Nat} {a b c e : Int32} {co : Nat → Int32} (hg : gx g) (hr : r < 22) (hN : co (125 * r) = nI N) (hN2 : N ≤ 120) (hgd : gd (cr co r) N) (rem : Nat) : ∀ m I l, m + rem = N → I 107 = co → pk (I 115) (pl a b c e (cr co r) m) → (∀ I', (∀ x, x ≠ 115 → I' x = I x) → Q (some (vI (ev a b c e (cr co r) N))) g I' J) → ab_E (d + 1) 191 6 [some (vR (some 101)), some (vI (nI r)), some (vI a), some (vI b), some (vI c), some (vI e), some (vI (nI (pl a b c e (cr co r) m).length)), some (vI (nI (m + 1))), l] [] 0 0 g I J Q := by
  have f0 : (125 : Int32) * nI r = nI (125 * r) := nImul (a := 125)
  have f1 : vp_in (nI (125 * r)) 2750 := vp_in_nI (by omega) (by decide)
  have f2 : (nI (125 * r)).toNatClampNeg = 125 * r := nI_clamp (by omega)
  induction rem with
  | zero =>
    intro m I l hm hI hp hQ
    have em : m = N := by omega
    subst em
    have g1 : nI m < nI (m + 1) := nI_lt (by omega) (by omega)
    rw [k191_6]
    simp only [k191_8, k191_9, k191_12, k191_14, k191_15, k191_16, k191_17, k191_20, k191_21, k191_24, k191_26, k191_27, k191_28, k191_30, k191_31, k191_32, k191_34, k191_36, k191_39, k191_40, k191_43, k191_45, k191_47, k191_48, k191_51, k191_54, k191_56, k191_58, k191_61, k191_62, k191_65, k191_67, k191_69, k191_70, k191_73, k191_74, k191_77, k191_79, k191_81, k191_84, k191_85, k191_88, k191_90, k191_92, k191_95, k191_97, k191_100, k191_102, k191_103, k191_106, k191_109, k191_111, k191_113, k191_116, k191_117, k191_120, k191_122, k191_123, k191_124, k191_125, k191_128, k191_130, k191_131, k191_132, k191_133, k191_134, k191_135, k191_138, k191_141, k191_142, k191_145, k191_147, k191_148, k191_149, k191_151, k191_152, k191_153, k191_156, k191_158, k191_159, k191_160, k191_161, k191_162, k191_165, k191_167, k191_168, k191_171, k191_172, k191_175, k191_178, k191_179, k191_182, k191_183, k191_184, gl102 hg, gl103 hg, gl104 hg, gl105 hg, gl106 hg, gl107 hg, gl108 hg, gl109 hg, gl110 hg, gl111 hg, gl112 hg, gl113 hg, gl114 hg, gl115 hg, gl116 hg, gl117 hg, gl118 hg, gl119 hg, gl120 hg, gl121 hg, gl122 hg, gl123 hg, gl124 hg, gl125 hg, gl126 hg, gl127 hg, gr101_0 hg, gr101_1 hg, gr101_10 hg, gr101_12 hg, gr101_2 hg, gr101_22 hg, gr101_23 hg, gr101_26 hg, gr101_27 hg, gr101_28 hg, gr101_29 hg, gr101_3 hg, gr101_30 hg, gr101_31 hg, gr101_32 hg, gr101_33 hg, gr101_34 hg, gr101_39 hg, gr101_4 hg, gr101_40 hg, gr101_41 hg, gr101_5 hg, gr101_6 hg, gr101_7 hg, gr101_8 hg, gr101_9 hg, gt101 hg, gt102 hg, gt103 hg, gt104 hg, gt105 hg, gt106 hg, gt107 hg, gt108 hg, gt109 hg, gt110 hg, gt111 hg, gt112 hg, gt113 hg, gt114 hg, gt115 hg, gt116 hg, gt117 hg, gt118 hg, gt119 hg, gt120 hg, gt121 hg, gt122 hg, gt123 hg, gt124 hg, gt125 hg, gt126 hg, gt127 hg, ab_inv_I, ab_inv_R, ab_inv_L, ab_inv_0, ab_push_some, ab_push_none, ab_E_sw, ab_E_sw0, true_and, and_true, not_false_eq_true, bit_ite, s2, s3, s4, s5, s7, qi_ite2, ab_bit0, ab_bit1, qi_ite, ql_ite, Nat.reduceLeDiff, d128, d16, d8, d4, d1000, d100, d10, if_true, if_false, ite_self, tn0, tn1, tn2, tn3, tn4, tn5, tn6, tn7, tn8, tn9, tn10, tn11, tn12, tn13, tn14, tn15, tn16, tn17, tn18, tn19, Int32.reduceAdd, Int32.reduceMul, Int32.reduceSub, Int32.reduceDiv, Int32.reduceLT, Int32.reduceLE, Int32.reduceToNatClampNeg, i10, i01, ↓reduceIte, if_true, if_false, f0, f1, f2, hI, hN, g1, vi 0 125 rfl]
    have hl := hg_len (a := a) (b := b) (g := c) (h := e) hgd.1
    cases hst : pl a b c e (cr co r) m with
    | nil => rw [hst] at hl; simp at hl
    | cons y rest =>
      rw [hst] at hl hp
      have h0 : rest.length = 0 := by simpa using hl
      have h1 := hp.1
      rw [h0] at h1
      have h2 := hQ I (fun _ _ => rfl)
      unfold ev at h2
      rw [hst] at h2
      rw [h1]; exact h2
  | succ rem ih =>
    intro m I l hm hI hp hQ
    have g1 : ¬ nI N < nI (m + 1) := nI_nlt (by omega) (by omega)
    have g2 : nI (125 * r) + nI (m + 1) = nI (125 * r + 1 + m) := by rw [nI_add]; congr 1; omega
    have g3 : vp_in (nI (125 * r + 1 + m)) 2750 := vp_in_nI (by omega) (by decide)
    have g4 : (nI (125 * r + 1 + m)).toNatClampNeg = 125 * r + 1 + m := nI_clamp (by omega)
    rw [k191_6]
    simp only [k191_8, k191_9, k191_12, k191_14, k191_15, k191_16, k191_17, k191_20, k191_21, k191_24, k191_26, k191_27, k191_28, k191_30, k191_31, k191_32, k191_34, k191_36, k191_39, k191_40, k191_43, k191_45, k191_47, k191_48, k191_51, k191_54, k191_56, k191_58, k191_61, k191_62, k191_65, k191_67, k191_69, k191_70, k191_73, k191_74, k191_77, k191_79, k191_81, k191_84, k191_85, k191_88, k191_90, k191_92, k191_95, k191_97, k191_100, k191_102, k191_103, k191_106, k191_109, k191_111, k191_113, k191_116, k191_117, k191_120, k191_122, k191_123, k191_124, k191_125, k191_128, k191_130, k191_131, k191_132, k191_133, k191_134, k191_135, k191_138, k191_141, k191_142, k191_145, k191_147, k191_148, k191_149, k191_151, k191_152, k191_153, k191_156, k191_158, k191_159, k191_160, k191_161, k191_162, k191_165, k191_167, k191_168, k191_171, k191_172, k191_175, k191_178, k191_179, k191_182, k191_183, k191_184, gl102 hg, gl103 hg, gl104 hg, gl105 hg, gl106 hg, gl107 hg, gl108 hg, gl109 hg, gl110 hg, gl111 hg, gl112 hg, gl113 hg, gl114 hg, gl115 hg, gl116 hg, gl117 hg, gl118 hg, gl119 hg, gl120 hg, gl121 hg, gl122 hg, gl123 hg, gl124 hg, gl125 hg, gl126 hg, gl127 hg, gr101_0 hg, gr101_1 hg, gr101_10 hg, gr101_12 hg, gr101_2 hg, gr101_22 hg, gr101_23 hg, gr101_26 hg, gr101_27 hg, gr101_28 hg, gr101_29 hg, gr101_3 hg, gr101_30 hg, gr101_31 hg, gr101_32 hg, gr101_33 hg, gr101_34 hg, gr101_39 hg, gr101_4 hg, gr101_40 hg, gr101_41 hg, gr101_5 hg, gr101_6 hg, gr101_7 hg, gr101_8 hg, gr101_9 hg, gt101 hg, gt102 hg, gt103 hg, gt104 hg, gt105 hg, gt106 hg, gt107 hg, gt108 hg, gt109 hg, gt110 hg, gt111 hg, gt112 hg, gt113 hg, gt114 hg, gt115 hg, gt116 hg, gt117 hg, gt118 hg, gt119 hg, gt120 hg, gt121 hg, gt122 hg, gt123 hg, gt124 hg, gt125 hg, gt126 hg, gt127 hg, ab_inv_I, ab_inv_R, ab_inv_L, ab_inv_0, ab_push_some, ab_push_none, ab_E_sw, ab_E_sw0, true_and, and_true, not_false_eq_true, bit_ite, s2, s3, s4, s5, s7, qi_ite2, ab_bit0, ab_bit1, qi_ite, ql_ite, Nat.reduceLeDiff, d128, d16, d8, d4, d1000, d100, d10, if_true, if_false, ite_self, tn0, tn1, tn2, tn3, tn4, tn5, tn6, tn7, tn8, tn9, tn10, tn11, tn12, tn13, tn14, tn15, tn16, tn17, tn18, tn19, Int32.reduceAdd, Int32.reduceMul, Int32.reduceSub, Int32.reduceDiv, Int32.reduceLT, Int32.reduceLE, Int32.reduceToNatClampNeg, i10, i01, ↓reduceIte, if_true, if_false, f0, f1, f2, hI, hN, g1, g2, g3, g4]
    obtain ⟨k0, e0⟩ := hg_pre (m := m) (by omega) hgd.1
    obtain ⟨k1, e1⟩ := hg_pre (m := m + 1) (by omega) hgd.1
    have hl := hg_len (a := a) (b := b) (g := c) (h := e) e0
    have hle := hg_le e0
    have hs1 : hs (cr co r m) k0 = some k1 := by
      have : (hg_ (cr co r) m).bind (hs (cr co r m)) = some k1 := e1
      rw [e0] at this; exact this
    rw [← hl] at hs1 hle
    have pv : vp_in (nI (pl a b c e (cr co r) m).length) 125 := vp_in_nI (by omega) (by decide)
    have pc : (nI (pl a b c e (cr co r) m).length).toNatClampNeg = (pl a b c e (cr co r) m).length := nI_clamp (by omega)
    have push : ∀ v, ps a b c e (cr co r m) (pl a b c e (cr co r) m) = v :: pl a b c e (cr co r) m → ∀ l, ab_E (d + 1) 191 6 [some (vR (some 101)), some (vI (nI r)), some (vI a), some (vI b), some (vI c), some (vI e), some (vI (nI (pl a b c e (cr co r) m).length + 1)), some (vI (nI (m + 1) + 1)), l] [] 0 0 g (ab_up I 115 (nI (pl a b c e (cr co r) m).length).toNatClampNeg v) J Q := by
      intro v hv l
      have hp1 : pl a b c e (cr co r) (m + 1) = v :: pl a b c e (cr co r) m := hv
      have q := ih (m + 1) (ab_up I 115 (pl a b c e (cr co r) m).length v) l (by omega) (by rw [up_ne (by decide)]; exact hI) (by rw [hp1, up_row]; exact ⟨fr_eq, pk_fr (Nat.le_refl _) hp⟩) (fun I' hI' => hQ I' fun x hx => (hI' x hx).trans (up_ne hx))
      rw [hp1] at q
      rw [pc, nI_1, nI_1]
      exact q
    have hx : cr co r m = co (125 * r + 1 + m) := rfl
    by_cases x0 : co (125 * r + 1 + m) < 0
    · rw [if_pos x0]
      have x0' : ¬ 0 ≤ cr co r m := Int32.not_le.mpr x0
      by_cases x4 : co (125 * r + 1 + m) < -4
      · have x4' : ¬ -4 ≤ cr co r m := Int32.not_le.mpr x4
        rw [if_pos x4]
        have hs2 := hs1
        unfold hs at hs2
        rw [if_neg x4'] at hs2
        by_cases y10 : co (125 * r + 1 + m) = -10
        · rw [if_pos y10]
          rw [if_pos (hx.trans y10)] at hs2
          have hp1 : ∀ y rest, pl a b c e (cr co r) m = y :: rest → pl a b c e (cr co r) (m + 1) = -y :: rest := by
            intro y rest hst
            show ps a b c e (cr co r m) (pl a b c e (cr co r) m) = _
            unfold ps; rw [if_neg x0', if_neg x4', if_pos (hx.trans y10), hst]
          cases hst : pl a b c e (cr co r) m with
          | nil => rw [hst] at hs2; simp at hs2
          | cons y rest =>
            have hq1 := hp1 y rest hst
            rw [hst] at hp hle
            simp only [List.length_cons] at hle ⊢
            have w1 : vp_in (nI rest.length) 125 := vp_in_nI (by omega) (by decide)
            have w2 : (nI rest.length).toNatClampNeg = rest.length := nI_clamp (by omega)
            rw [nI_pred, w2, hp.1, nI_1]
            have q := ih (m + 1) (ab_up I 115 rest.length (-y)) (some (vI (co (125 * r + 1 + m)))) (by omega) (by rw [up_ne (by decide)]; exact hI) (by rw [hq1, up_row]; exact ⟨fr_eq, pk_fr (Nat.le_refl _) hp.2⟩) (fun I' hI' => hQ I' fun x hx => (hI' x hx).trans (up_ne hx))
            rw [hq1] at q
            exact ⟨w1, w1, q⟩
        · rw [if_neg y10]
          rw [if_neg (show ¬ cr co r m = -10 from y10)] at hs2
          have hp1 : ∀ y z rest, pl a b c e (cr co r) m = y :: z :: rest → pl a b c e (cr co r) (m + 1) = wk (-co (125 * r + 1 + m)) z y :: rest := by
            intro y z rest hst
            show ps a b c e (cr co r m) (pl a b c e (cr co r) m) = _
            unfold ps; rw [if_neg x0', if_neg x4', if_neg (show ¬ cr co r m = -10 from y10), hst]; rfl
          cases hst : pl a b c e (cr co r) m with
          | nil => rw [hst] at hs2; simp at hs2
          | cons y rest0 =>
            cases rest0 with
            | nil => rw [hst] at hs2; simp at hs2
            | cons z rest =>
              have hq1 := hp1 y z rest hst
              rw [hst] at hp hle
              simp only [List.length_cons] at hle ⊢
              have w0 : nI (rest.length + 1 + 1) + -1 = nI (rest.length + 1) := by rw [← Int32.sub_eq_add_neg, nI_pred]
              have w1 : vp_in (nI rest.length) 125 := vp_in_nI (by omega) (by decide)
              have w2 : (nI rest.length).toNatClampNeg = rest.length := nI_clamp (by omega)
              have w3 : vp_in (nI (rest.length + 1)) 125 := vp_in_nI (by omega) (by decide)
              have w4 : (nI (rest.length + 1)).toNatClampNeg = rest.length + 1 := nI_clamp (by omega)
              have p1 : I 115 (rest.length + 1) = y := hp.1
              have p2 : I 115 rest.length = z := hp.2.1
              have q := ih (m + 1) (ab_up I 115 rest.length (wk (-co (125 * r + 1 + m)) z y)) (some (vI (co (125 * r + 1 + m)))) (by omega) (by rw [up_ne (by decide)]; exact hI) (by rw [hq1, up_row]; exact ⟨fr_eq, pk_fr (Nat.le_refl _) hp.2.2⟩) (fun I' hI' => hQ I' fun x hx => (hI' x hx).trans (up_ne hx))
              rw [hq1] at q
              simp only [w0, nI_pred, w2, w4, p1, p2, c_M_worked, k191_171, k191_172, k191_175, ab_inv_I, ab_inv_R, ab_inv_L, ab_inv_0, ab_push_some, ab_push_none, ab_E_sw, ab_E_sw0, true_and, and_true, not_false_eq_true, bit_ite, s2, s3, s4, s5, s7, qi_ite2, ab_bit0, ab_bit1, qi_ite, ql_ite, Nat.reduceLeDiff, d128, d16, d8, d4, d1000, d100, d10, if_true, if_false, ite_self, tn0, tn1, tn2, tn3, tn4, tn5, tn6, tn7, tn8, tn9, tn10, tn11, tn12, tn13, tn14, tn15, tn16, tn17, tn18, tn19, gl102 hg, gl103 hg, gl104 hg, gl105 hg, gl106 hg, gl107 hg, gl108 hg, gl109 hg, gl110 hg, gl111 hg, gl112 hg, gl113 hg, gl114 hg, gl115 hg, gl116 hg, gl117 hg, gl118 hg, gl119 hg, gl120 hg, gl121 hg, gl122 hg, gl123 hg, gl124 hg, gl125 hg, gl126 hg, gl127 hg, gr101_0 hg, gr101_1 hg, gr101_10 hg, gr101_12 hg, gr101_2 hg, gr101_22 hg, gr101_23 hg, gr101_26 hg, gr101_27 hg, gr101_28 hg, gr101_29 hg, gr101_3 hg, gr101_30 hg, gr101_31 hg, gr101_32 hg, gr101_33 hg, gr101_34 hg, gr101_39 hg, gr101_4 hg, gr101_40 hg, gr101_41 hg, gr101_5 hg, gr101_6 hg, gr101_7 hg, gr101_8 hg, gr101_9 hg, gt101 hg, gt102 hg, gt103 hg, gt104 hg, gt105 hg, gt106 hg, gt107 hg, gt108 hg, gt109 hg, gt110 hg, gt111 hg, gt112 hg, gt113 hg, gt114 hg, gt115 hg, gt116 hg, gt117 hg, gt118 hg, gt119 hg, gt120 hg, gt121 hg, gt122 hg, gt123 hg, gt124 hg, gt125 hg, gt126 hg, gt127 hg, w1, w3, nI_1]
              exact q
      · have x4' : -4 ≤ cr co r m := Int32.not_lt.mp x4
        rw [if_neg x4]
        by_cases y1 : co (125 * r + 1 + m) = -1
        · rw [if_pos y1]
          exact ⟨pv, push a (by unfold ps; rw [if_neg x0', if_pos x4', hx, if_pos y1]) _⟩
        rw [if_neg y1]
        by_cases y2 : co (125 * r + 1 + m) = -2
        · rw [if_pos y2]
          exact ⟨pv, push b (by unfold ps; rw [if_neg x0', if_pos x4', hx, if_neg y1, if_pos y2]) _⟩
        rw [if_neg y2]
        by_cases y3 : co (125 * r + 1 + m) = -3
        · rw [if_pos y3]
          exact ⟨pv, push c (by unfold ps; rw [if_neg x0', if_pos x4', hx, if_neg y1, if_neg y2, if_pos y3]) _⟩
        rw [if_neg y3]
        exact ⟨pv, push e (by unfold ps; rw [if_neg x0', if_pos x4', hx, if_neg y1, if_neg y2, if_neg y3]) _⟩
    · rw [if_neg x0]
      exact ⟨pv, push _ (by unfold ps; rw [if_pos (show 0 ≤ cr co r m from Int32.not_lt.mp x0)]; rfl) _⟩
end P24
