/-! ===== pairs: rule ===== -/
theorem rl_new {g : ab_G} {I : ab_I} {n k : Nat} {ru co : Nat → Int32} {kd x y z : Int32} (h1 : ab_ty g n = 17) (hn : 128 ≤ n) (h2 : ab_R g n 0 = some (n + 1)) (h3 : ab_R g n 1 = some (n + 2)) (h4 : ab_ty g (n + 1) = 1) (h5 : ab_ln g (n + 1) = 64) (h6 : ab_ty g (n + 2) = 1) (h7 : ab_ln g (n + 2) = 64)
    (hA : ∀ q, q < 64 → I (n + 1) q = db kd x y z (nI (q / 8)) (nI (q % 8))) (hB : ∀ q, q < 64 → I (n + 2) q = 0) (i2 : I n 2 = kd) (i3 : I n 3 = x) (i4 : I n 4 = y) (i5 : I n 5 = z) (r0 : ru (4 * k) = kd) (r1 : (kd = 2 ∨ kd = 3 ∨ kd = 4) → ru (4 * k + 1) = x ∧ rg x 0 8) (r2 : kd = 3 → (ru (4 * k + 2) = y ∧ ru (4 * k + 3) = z) ∧ rg y 0 8 ∧ rg z 0 8) (hk : rg kd 0 4) : rlOK g I n k ru co := by
  have k5 : ¬ kd = 5 := fun e => by rw [e] at hk; exact absurd hk.2 (by decide)
  have k6 : ¬ kd = 6 := fun e => by rw [e] at hk; exact absurd hk.2 (by decide)
  have hd : ∀ s o, due ru co s o k = (db kd x y z s o, 0) := by
    intro s o
    rw [due_db (by rw [r0]; exact k5) (by rw [r0]; exact k6), r0]
    unfold db
    by_cases e1 : kd = 1
    · simp only [e1, if_true]
    by_cases e2 : kd = 2
    · have := (r1 (Or.inl e2)).1
      simp only [e1, e2, this, if_false, if_true]
    by_cases e3 : kd = 3
    · have q1 := (r1 (Or.inr (Or.inl e3))).1
      have q2 := (r2 e3).1
      simp only [e1, e2, e3, q1, q2.1, q2.2, if_false, if_true]
    by_cases e4 : kd = 4
    · have := (r1 (Or.inr (Or.inr e4))).1
      simp only [if_neg e1, if_neg e2, if_neg e3, if_pos e4, this]
    simp only [e1, e2, e3, e4, if_false]
  refine ⟨h1, hn, ⟨?_, ?_, ?_, ?_, ?_⟩, ⟨n + 1, h2, h4, h5, by omega, fun q hq => ?_⟩, ⟨n + 2, h3, h6, h7, by omega, fun q hq => ?_⟩, ?_, ?_, ?_, ?_⟩
  · rw [r0]; exact ⟨hk.1, Int.le_trans hk.2 (by decide)⟩
  · rw [r0]; intro e; rw [(r1 e).1]; exact (r1 e).2
  · rw [r0]; intro e; rw [(r2 e).1.1, (r2 e).1.2]; exact (r2 e).2
  · rw [r0]; intro e; exact absurd e k5
  · rw [r0]; intro e; exact absurd e k6
  · rw [hd]; exact hA q hq
  · rw [hd]; exact hB q hq
  · rw [r0]; exact i2
  · rw [r0]; intro e; rw [(r1 e).1]; exact i3
  · rw [r0]; intro e; rw [(r2 e).1.1, (r2 e).1.2]; exact ⟨i4, i5⟩
  · rw [r0]; intro e; exact absurd e k5
section P17
variable {d SL : Nat} {xs : Nat → Int32} {g : ab_G} {I : ab_I} {J : ab_J} {Q : ab_Q}
theorem p_rule2 {a b : Int32} {k : Nat} (hR : REL SL xs g I J) (hk : k < 20) (hc : I 103 4 = nI k) (hx8 : rg a 0 8) (hv : (if a < 0 then (0 : Int32) else if 8 < a then 0 else 1) = 1) : ab_run (d + 4) 65 [vR (some 32), vI 2, vI a, vI b] g I J (fun r g I J => ab_run (d + 4) 195 [vR (some 101), vI 2, vI a, vI b] g I J (fun r' g I J => r = r' ∧ REL SL xs g I J)) := by
  have hg : gx g := hR.1.1
  have hn : 32 ≤ ab_n g := by have := hg.2.2; omega
  have f1 : nI k < 20 := nI_lt (b := 20) hk (by decide)
  have f2 : ¬ nI k = 20 := fun q => by have := (nI_eq (b := 20) (by omega) (by decide)).mp q; omega
  have hx : I 33 7 = nI k := hR.2.1.1.1.1.2.2.2.2.trans hc
  rw [e65]
  simp (disch := decide) only [k65_0, k65_1, k65_2, k65_3, k65_6, k65_9, k65_10, k65_11, k65_14, k65_15, k65_16, k65_19, k65_22, k65_24, k65_27, k65_28, k65_29, k65_32, k65_33, k65_36, k65_37, k65_40, k65_42, k65_43, k65_44, k65_47, k65_49, k65_50, k65_51, k65_53, k65_54, k65_55, k65_57, k65_58, k65_59, k65_62, k65_65, k65_67, k65_68, k65_69, k65_70, k65_71, k65_74, k65_75, k65_78, k65_80, k65_83, e66, k66_0, k66_1, k66_36, k66_37, k66_38, k66_39, k66_40, k66_42, k66_45, k66_46, k66_47, k66_48, k66_50, k66_53, k66_56, k66_57, k66_59, k66_60, k66_62, k66_65, k66_66, k66_67, k66_69, k66_72, k66_75, k66_76, k66_79, k66_80, k66_81, k66_82, gl100 hg, gl34 hg, gl35 hg, gl36 hg, gl37 hg, gl38 hg, gl39 hg, gl40 hg, gl41 hg, gl42 hg, gl43 hg, gl44 hg, gl46 hg, gl47 hg, gl48 hg, gl49 hg, gl50 hg, gl51 hg, gl52 hg, gl53 hg, gl54 hg, gl55 hg, gl56 hg, gl58 hg, gl60 hg, gl62 hg, gl63 hg, gl64 hg, gl65 hg, gl66 hg, gl68 hg, gl69 hg, gl70 hg, gl71 hg, gl73 hg, gl74 hg, gl75 hg, gl76 hg, gl78 hg, gl79 hg, gl80 hg, gl81 hg, gl82 hg, gl83 hg, gl84 hg, gl85 hg, gl86 hg, gl87 hg, gl89 hg, gl90 hg, gl91 hg, gl93 hg, gl95 hg, gl97 hg, gl99 hg, gr32_0 hg, gr32_1 hg, gr32_10 hg, gr32_11 hg, gr32_3 hg, gr32_4 hg, gr32_5 hg, gr32_6 hg, gr32_7 hg, gr32_8 hg, gr32_9 hg, gr33_0 hg, gr33_1 hg, gr33_2 hg, gr33_3 hg, gr33_4 hg, gr33_5 hg, gr33_6 hg, gr35_0 hg, gr35_1 hg, gr39_0 hg, gr39_1 hg, gr45_0 hg, gr45_1 hg, gr45_2 hg, gr45_3 hg, gr45_4 hg, gr45_5 hg, gr45_6 hg, gr47_0 hg, gr47_1 hg, gr51_0 hg, gr51_1 hg, gr57_0 hg, gr59_0 hg, gr59_1 hg, gr61_0 hg, gr61_1 hg, gr61_2 hg, gr61_3 hg, gr61_4 hg, gr67_0 hg, gr68_0 hg, gr68_1 hg, gr68_2 hg, gr72_0 hg, gr73_0 hg, gr73_1 hg, gr73_2 hg, gr77_0 hg, gr77_1 hg, gr77_4 hg, gr77_5 hg, gr78_0 hg, gr78_1 hg, gr82_0 hg, gr82_1 hg, gr85_0 hg, gr85_1 hg, gr88_0 hg, gr88_1 hg, gr91_0 hg, gr91_1 hg, gr91_2 hg, gr91_3 hg, gr92_0 hg, gr94_0 hg, gr96_0 hg, gr98_0 hg, gt100 hg, gt32 hg, gt33 hg, gt34 hg, gt35 hg, gt36 hg, gt37 hg, gt38 hg, gt39 hg, gt40 hg, gt41 hg, gt42 hg, gt43 hg, gt44 hg, gt45 hg, gt46 hg, gt47 hg, gt48 hg, gt49 hg, gt50 hg, gt51 hg, gt52 hg, gt53 hg, gt54 hg, gt55 hg, gt56 hg, gt57 hg, gt58 hg, gt59 hg, gt60 hg, gt61 hg, gt62 hg, gt63 hg, gt64 hg, gt65 hg, gt66 hg, gt67 hg, gt68 hg, gt69 hg, gt70 hg, gt71 hg, gt72 hg, gt73 hg, gt74 hg, gt75 hg, gt76 hg, gt77 hg, gt78 hg, gt79 hg, gt80 hg, gt81 hg, gt82 hg, gt83 hg, gt84 hg, gt85 hg, gt86 hg, gt87 hg, gt88 hg, gt89 hg, gt90 hg, gt91 hg, gt92 hg, gt93 hg, gt94 hg, gt95 hg, gt96 hg, gt97 hg, gt98 hg, gt99 hg, ab_inv_I, ab_inv_R, ab_inv_L, ab_inv_0, ab_push_some, ab_push_none, ab_E_sw, ab_E_sw0, true_and, and_true, not_false_eq_true, bit_ite, s2, s3, s4, s5, s7, qi_ite2, ab_bit0, ab_bit1, qi_ite, ql_ite, Nat.reduceLeDiff, d128, d16, d8, d4, d1000, d100, d10, if_true, if_false, ite_self, tn0, tn1, tn2, tn3, tn4, tn5, tn6, tn7, tn8, tn9, tn10, tn11, tn12, tn13, tn14, tn15, tn16, tn17, tn18, tn19, Int32.reduceAdd, Int32.reduceMul, Int32.reduceSub, Int32.reduceDiv, Int32.reduceLT, Int32.reduceLE, Int32.reduceToNatClampNeg, i10, i01, ↓reduceIte, if_true, if_false, i02, i03, i04, i05, i06, i07, i12, i13, i14, i15, i16, i17, i20, i21, i23, i24, i25, i26, i27, i30, i31, i32, i34, i35, i36, i37, i40, i41, i42, i43, i45, i46, i47, i50, i51, i52, i53, i54, i56, i57, i60, i61, i62, i63, i64, i65, i67, i70, i71, i72, i73, i74, i75, i76, i10, i01, c_X_isWithin, hx, f1, Nat.reduceAdd, Nat.reduceLeDiff, Nat.zero_add, hv]
  refine new_rule hn fun g' I' J' hN => ?_
  have hg1 := gx_nr hg hN
  have hN' := hN
  have hn128 : 128 ≤ ab_n g := hg.2.2
  obtain ⟨n1, n2, n3, n4, n5, n6, n7, n8⟩ := hN
  simp (disch := decide) only [k65_0, k65_1, k65_2, k65_3, k65_6, k65_9, k65_10, k65_11, k65_14, k65_15, k65_16, k65_19, k65_22, k65_24, k65_27, k65_28, k65_29, k65_32, k65_33, k65_36, k65_37, k65_40, k65_42, k65_43, k65_44, k65_47, k65_49, k65_50, k65_51, k65_53, k65_54, k65_55, k65_57, k65_58, k65_59, k65_62, k65_65, k65_67, k65_68, k65_69, k65_70, k65_71, k65_74, k65_75, k65_78, k65_80, k65_83, gl100 hg1, gl34 hg1, gl35 hg1, gl36 hg1, gl37 hg1, gl38 hg1, gl39 hg1, gl40 hg1, gl41 hg1, gl42 hg1, gl43 hg1, gl44 hg1, gl46 hg1, gl47 hg1, gl48 hg1, gl49 hg1, gl50 hg1, gl51 hg1, gl52 hg1, gl53 hg1, gl54 hg1, gl55 hg1, gl56 hg1, gl58 hg1, gl60 hg1, gl62 hg1, gl63 hg1, gl64 hg1, gl65 hg1, gl66 hg1, gl68 hg1, gl69 hg1, gl70 hg1, gl71 hg1, gl73 hg1, gl74 hg1, gl75 hg1, gl76 hg1, gl78 hg1, gl79 hg1, gl80 hg1, gl81 hg1, gl82 hg1, gl83 hg1, gl84 hg1, gl85 hg1, gl86 hg1, gl87 hg1, gl89 hg1, gl90 hg1, gl91 hg1, gl93 hg1, gl95 hg1, gl97 hg1, gl99 hg1, gr32_0 hg1, gr32_1 hg1, gr32_10 hg1, gr32_11 hg1, gr32_3 hg1, gr32_4 hg1, gr32_5 hg1, gr32_6 hg1, gr32_7 hg1, gr32_8 hg1, gr32_9 hg1, gr33_0 hg1, gr33_1 hg1, gr33_2 hg1, gr33_3 hg1, gr33_4 hg1, gr33_5 hg1, gr33_6 hg1, gr35_0 hg1, gr35_1 hg1, gr39_0 hg1, gr39_1 hg1, gr45_0 hg1, gr45_1 hg1, gr45_2 hg1, gr45_3 hg1, gr45_4 hg1, gr45_5 hg1, gr45_6 hg1, gr47_0 hg1, gr47_1 hg1, gr51_0 hg1, gr51_1 hg1, gr57_0 hg1, gr59_0 hg1, gr59_1 hg1, gr61_0 hg1, gr61_1 hg1, gr61_2 hg1, gr61_3 hg1, gr61_4 hg1, gr67_0 hg1, gr68_0 hg1, gr68_1 hg1, gr68_2 hg1, gr72_0 hg1, gr73_0 hg1, gr73_1 hg1, gr73_2 hg1, gr77_0 hg1, gr77_1 hg1, gr77_4 hg1, gr77_5 hg1, gr78_0 hg1, gr78_1 hg1, gr82_0 hg1, gr82_1 hg1, gr85_0 hg1, gr85_1 hg1, gr88_0 hg1, gr88_1 hg1, gr91_0 hg1, gr91_1 hg1, gr91_2 hg1, gr91_3 hg1, gr92_0 hg1, gr94_0 hg1, gr96_0 hg1, gr98_0 hg1, gt100 hg1, gt32 hg1, gt33 hg1, gt34 hg1, gt35 hg1, gt36 hg1, gt37 hg1, gt38 hg1, gt39 hg1, gt40 hg1, gt41 hg1, gt42 hg1, gt43 hg1, gt44 hg1, gt45 hg1, gt46 hg1, gt47 hg1, gt48 hg1, gt49 hg1, gt50 hg1, gt51 hg1, gt52 hg1, gt53 hg1, gt54 hg1, gt55 hg1, gt56 hg1, gt57 hg1, gt58 hg1, gt59 hg1, gt60 hg1, gt61 hg1, gt62 hg1, gt63 hg1, gt64 hg1, gt65 hg1, gt66 hg1, gt67 hg1, gt68 hg1, gt69 hg1, gt70 hg1, gt71 hg1, gt72 hg1, gt73 hg1, gt74 hg1, gt75 hg1, gt76 hg1, gt77 hg1, gt78 hg1, gt79 hg1, gt80 hg1, gt81 hg1, gt82 hg1, gt83 hg1, gt84 hg1, gt85 hg1, gt86 hg1, gt87 hg1, gt88 hg1, gt89 hg1, gt90 hg1, gt91 hg1, gt92 hg1, gt93 hg1, gt94 hg1, gt95 hg1, gt96 hg1, gt97 hg1, gt98 hg1, gt99 hg1, ab_inv_I, ab_inv_R, ab_inv_L, ab_inv_0, ab_push_some, ab_push_none, ab_E_sw, ab_E_sw0, true_and, and_true, not_false_eq_true, bit_ite, s2, s3, s4, s5, s7, qi_ite2, ab_bit0, ab_bit1, qi_ite, ql_ite, Nat.reduceLeDiff, d128, d16, d8, d4, d1000, d100, d10, if_true, if_false, ite_self, tn0, tn1, tn2, tn3, tn4, tn5, tn6, tn7, tn8, tn9, tn10, tn11, tn12, tn13, tn14, tn15, tn16, tn17, tn18, tn19, Int32.reduceAdd, Int32.reduceMul, Int32.reduceSub, Int32.reduceDiv, Int32.reduceLT, Int32.reduceLE, Int32.reduceToNatClampNeg, i10, i01, ↓reduceIte, if_true, if_false, i02, i03, i04, i05, i06, i07, i12, i13, i14, i15, i16, i17, i20, i21, i23, i24, i25, i26, i27, i30, i31, i32, i34, i35, i36, i37, i40, i41, i42, i43, i45, i46, i47, i50, i51, i52, i53, i54, i56, i57, i60, i61, i62, i63, i64, i65, i67, i70, i71, i72, i73, i74, i75, i76, i10, i01, Nat.reduceAdd, Nat.reduceLeDiff, Nat.zero_add, c_Ru_beOfBars (show 32 ≤ ab_n g by omega) n2 n3 n4 n5.1 n5.2 n6.1 n6.2 (show 32 ≤ ab_n g + 1 by omega) (show 32 ≤ ab_n g + 2 by omega) (show ab_n g + 1 ≠ ab_n g + 2 by omega) (show ab_n g ≠ ab_n g + 1 by omega) (show ab_n g ≠ ab_n g + 2 by omega)]
  generalize hIb : bbI (ab_up (ab_up (ab_up (ab_up I' (ab_n g) 2 2) (ab_n g) 3 a) (ab_n g) 4 0) (ab_n g) 5 0) (ab_n g + 1) (ab_n g + 2) (fun q => db 2 a 0 0 (nI (q / 8)) (nI (q % 8))) (fun _ => 0) 0 = Ib
  have b1 : ∀ q, q < ab_n g → Ib q = I q := by
    intro q hq
    rw [← hIb, bbI_ne (by omega) (by omega), up_ne (by omega), up_ne (by omega), up_ne (by omega), up_ne (by omega), (n7 q hq).2.2.2.1]
  have hcb : Ib 33 7 = nI k := by rw [b1 33 (by omega)]; exact hx
  have hcm : (ab_up Ib 33 7 (nI (k + 1))) 103 4 = nI k := by rw [up_ne (by decide), b1 103 (by omega)]; exact hc
  have hcm' : Ib 103 4 = nI k := by rw [b1 103 (by omega)]; exact hc
  rw [c_St_append hg1 hk hcb n2]
  have hg2 : gx (ab_setR g' 44 k (some (ab_n g))) := gx_set hg1 (by decide)
  simp (disch := decide) only [k65_0, k65_1, k65_2, k65_3, k65_6, k65_9, k65_10, k65_11, k65_14, k65_15, k65_16, k65_19, k65_22, k65_24, k65_27, k65_28, k65_29, k65_32, k65_33, k65_36, k65_37, k65_40, k65_42, k65_43, k65_44, k65_47, k65_49, k65_50, k65_51, k65_53, k65_54, k65_55, k65_57, k65_58, k65_59, k65_62, k65_65, k65_67, k65_68, k65_69, k65_70, k65_71, k65_74, k65_75, k65_78, k65_80, k65_83, k195_0, k195_1, k195_2, k195_3, k195_6, k195_8, k195_10, k195_13, k195_14, k195_15, k195_18, k195_19, k195_20, k195_23, k195_24, k195_25, k195_27, k195_30, k195_33, k195_34, k195_36, k195_37, k195_39, k195_42, k195_43, k195_44, k195_46, k195_49, k195_52, k195_55, k195_56, k195_57, k195_59, k195_62, k195_65, k195_66, k195_69, k195_70, k195_72, k195_74, k195_77, k195_78, k195_79, k195_82, k195_83, k195_84, k195_87, k195_88, k195_89, k195_91, k195_94, k195_95, k195_96, k195_99, k195_100, k195_101, k195_102, k195_105, k195_106, k195_107, k195_108, k195_109, k195_110, k195_113, k195_116, k195_117, k195_118, k195_121, k195_122, k195_123, k195_124, k195_126, k195_127, k195_128, k195_130, k195_131, k195_132, k195_135, k195_138, k195_139, k195_140, k195_141, k195_142, k195_143, k195_146, e195, gl102 hg2, gl103 hg2, gl104 hg2, gl105 hg2, gl106 hg2, gl107 hg2, gl108 hg2, gl109 hg2, gl110 hg2, gl111 hg2, gl112 hg2, gl113 hg2, gl114 hg2, gl115 hg2, gl116 hg2, gl117 hg2, gl118 hg2, gl119 hg2, gl120 hg2, gl121 hg2, gl122 hg2, gl123 hg2, gl124 hg2, gl125 hg2, gl126 hg2, gl127 hg2, gr101_0 hg2, gr101_1 hg2, gr101_10 hg2, gr101_12 hg2, gr101_2 hg2, gr101_22 hg2, gr101_23 hg2, gr101_26 hg2, gr101_27 hg2, gr101_28 hg2, gr101_29 hg2, gr101_3 hg2, gr101_30 hg2, gr101_31 hg2, gr101_32 hg2, gr101_33 hg2, gr101_34 hg2, gr101_39 hg2, gr101_4 hg2, gr101_40 hg2, gr101_41 hg2, gr101_5 hg2, gr101_6 hg2, gr101_7 hg2, gr101_8 hg2, gr101_9 hg2, gt101 hg2, gt102 hg2, gt103 hg2, gt104 hg2, gt105 hg2, gt106 hg2, gt107 hg2, gt108 hg2, gt109 hg2, gt110 hg2, gt111 hg2, gt112 hg2, gt113 hg2, gt114 hg2, gt115 hg2, gt116 hg2, gt117 hg2, gt118 hg2, gt119 hg2, gt120 hg2, gt121 hg2, gt122 hg2, gt123 hg2, gt124 hg2, gt125 hg2, gt126 hg2, gt127 hg2, ab_inv_I, ab_inv_R, ab_inv_L, ab_inv_0, ab_push_some, ab_push_none, ab_E_sw, ab_E_sw0, true_and, and_true, not_false_eq_true, bit_ite, s2, s3, s4, s5, s7, qi_ite2, ab_bit0, ab_bit1, qi_ite, ql_ite, Nat.reduceLeDiff, d128, d16, d8, d4, d1000, d100, d10, if_true, if_false, ite_self, tn0, tn1, tn2, tn3, tn4, tn5, tn6, tn7, tn8, tn9, tn10, tn11, tn12, tn13, tn14, tn15, tn16, tn17, tn18, tn19, Int32.reduceAdd, Int32.reduceMul, Int32.reduceSub, Int32.reduceDiv, Int32.reduceLT, Int32.reduceLE, Int32.reduceToNatClampNeg, i10, i01, ↓reduceIte, if_true, if_false, i02, i03, i04, i05, i06, i07, i12, i13, i14, i15, i16, i17, i20, i21, i23, i24, i25, i26, i27, i30, i31, i32, i34, i35, i36, i37, i40, i41, i42, i43, i45, i46, i47, i50, i51, i52, i53, i54, i56, i57, i60, i61, i62, i63, i64, i65, i67, i70, i71, i72, i73, i74, i75, i76, i10, i01, Nat.reduceAdd, Nat.reduceLeDiff, Nat.zero_add, c_M_in, f2, vi 4 19 rfl, c_M_add hg2 hk hcm, up_ne, hcm', hv]
  refine ⟨n2, ?_⟩
  apply REL_add hR hN' hk hc
  · intro q h1 h2 h3 h4 h5
    rw [up_ne h3, up_ne h4, up_ne h4, up_ne h4, up_ne h4, up_ne h2]
    exact b1 q (by omega)
  · simp (disch := decide) only [up_ne, up_row, fr_eq]
  · simp (disch := decide) only [up_ne, up_row]
    rw [b1 103 (by omega)]
  · intro y hy
    simp (disch := first | decide | omega) only [up_ne, up_row, fr_ne]
    rw [b1 106 (by omega)]
  · intro y hy
    simp (disch := decide) only [up_ne]
    rw [b1 107 (by omega)]
  · intro q h1 h2
    simp (disch := omega) only [up_ne]
    exact b1 q h2
  · refine rl_new (kd := 2) (x := a) (y := 0) (z := 0) n2 hn128 ?_ ?_ n5.1 n5.2 n6.1 n6.2 ?_ ?_ ?_ ?_ ?_ ?_ ?_ ?_ ?_ ⟨by decide, by decide⟩
    · rw [R_set_ne (by omega)]; exact n3
    · rw [R_set_ne (by omega)]; exact n4
    · intro q hq
      simp (disch := omega) only [up_ne]
      rw [← hIb]; unfold bbI
      rw [if_pos ⟨rfl, by omega, hq⟩]
    · intro q hq
      simp (disch := omega) only [up_ne]
      rw [← hIb]; unfold bbI
      rw [if_neg (by omega), if_pos ⟨rfl, by omega, hq⟩]
    · simp (disch := omega) only [up_ne]
      rw [← hIb, bbI_ne (by omega) (by omega)]
      simp (disch := decide) only [up_row, fr_ne, fr_eq]
    · simp (disch := omega) only [up_ne]
      rw [← hIb, bbI_ne (by omega) (by omega)]
      simp (disch := decide) only [up_row, fr_ne, fr_eq]
    · simp (disch := omega) only [up_ne]
      rw [← hIb, bbI_ne (by omega) (by omega)]
      simp (disch := decide) only [up_row, fr_ne, fr_eq]
    · simp (disch := omega) only [up_ne]
      rw [← hIb, bbI_ne (by omega) (by omega)]
      simp (disch := decide) only [up_row, fr_ne, fr_eq]
    · simp (disch := first | decide | omega) only [up_ne, up_row, fr_ne, fr_eq]
    · intro _
      refine ⟨?_, hx8⟩
      simp (disch := first | decide | omega) only [up_ne, up_row, fr_ne, fr_eq]
    · intro e; exact absurd e (by decide)
theorem p_rule4 {a b : Int32} {k : Nat} (hR : REL SL xs g I J) (hk : k < 20) (hc : I 103 4 = nI k) (hx8 : rg a 0 8) (hv : (if a < 0 then (0 : Int32) else if 8 < a then 0 else 1) = 1) : ab_run (d + 4) 65 [vR (some 32), vI 4, vI a, vI b] g I J (fun r g I J => ab_run (d + 4) 195 [vR (some 101), vI 4, vI a, vI b] g I J (fun r' g I J => r = r' ∧ REL SL xs g I J)) := by
  have hg : gx g := hR.1.1
  have hn : 32 ≤ ab_n g := by have := hg.2.2; omega
  have f1 : nI k < 20 := nI_lt (b := 20) hk (by decide)
  have f2 : ¬ nI k = 20 := fun q => by have := (nI_eq (b := 20) (by omega) (by decide)).mp q; omega
  have hx : I 33 7 = nI k := hR.2.1.1.1.1.2.2.2.2.trans hc
  rw [e65]
  simp (disch := decide) only [k65_0, k65_1, k65_2, k65_3, k65_6, k65_9, k65_10, k65_11, k65_14, k65_15, k65_16, k65_19, k65_22, k65_24, k65_27, k65_28, k65_29, k65_32, k65_33, k65_36, k65_37, k65_40, k65_42, k65_43, k65_44, k65_47, k65_49, k65_50, k65_51, k65_53, k65_54, k65_55, k65_57, k65_58, k65_59, k65_62, k65_65, k65_67, k65_68, k65_69, k65_70, k65_71, k65_74, k65_75, k65_78, k65_80, k65_83, e66, k66_0, k66_1, k66_36, k66_37, k66_38, k66_39, k66_40, k66_42, k66_45, k66_46, k66_47, k66_48, k66_50, k66_53, k66_56, k66_57, k66_59, k66_60, k66_62, k66_65, k66_66, k66_67, k66_69, k66_72, k66_75, k66_76, k66_79, k66_80, k66_81, k66_82, gl100 hg, gl34 hg, gl35 hg, gl36 hg, gl37 hg, gl38 hg, gl39 hg, gl40 hg, gl41 hg, gl42 hg, gl43 hg, gl44 hg, gl46 hg, gl47 hg, gl48 hg, gl49 hg, gl50 hg, gl51 hg, gl52 hg, gl53 hg, gl54 hg, gl55 hg, gl56 hg, gl58 hg, gl60 hg, gl62 hg, gl63 hg, gl64 hg, gl65 hg, gl66 hg, gl68 hg, gl69 hg, gl70 hg, gl71 hg, gl73 hg, gl74 hg, gl75 hg, gl76 hg, gl78 hg, gl79 hg, gl80 hg, gl81 hg, gl82 hg, gl83 hg, gl84 hg, gl85 hg, gl86 hg, gl87 hg, gl89 hg, gl90 hg, gl91 hg, gl93 hg, gl95 hg, gl97 hg, gl99 hg, gr32_0 hg, gr32_1 hg, gr32_10 hg, gr32_11 hg, gr32_3 hg, gr32_4 hg, gr32_5 hg, gr32_6 hg, gr32_7 hg, gr32_8 hg, gr32_9 hg, gr33_0 hg, gr33_1 hg, gr33_2 hg, gr33_3 hg, gr33_4 hg, gr33_5 hg, gr33_6 hg, gr35_0 hg, gr35_1 hg, gr39_0 hg, gr39_1 hg, gr45_0 hg, gr45_1 hg, gr45_2 hg, gr45_3 hg, gr45_4 hg, gr45_5 hg, gr45_6 hg, gr47_0 hg, gr47_1 hg, gr51_0 hg, gr51_1 hg, gr57_0 hg, gr59_0 hg, gr59_1 hg, gr61_0 hg, gr61_1 hg, gr61_2 hg, gr61_3 hg, gr61_4 hg, gr67_0 hg, gr68_0 hg, gr68_1 hg, gr68_2 hg, gr72_0 hg, gr73_0 hg, gr73_1 hg, gr73_2 hg, gr77_0 hg, gr77_1 hg, gr77_4 hg, gr77_5 hg, gr78_0 hg, gr78_1 hg, gr82_0 hg, gr82_1 hg, gr85_0 hg, gr85_1 hg, gr88_0 hg, gr88_1 hg, gr91_0 hg, gr91_1 hg, gr91_2 hg, gr91_3 hg, gr92_0 hg, gr94_0 hg, gr96_0 hg, gr98_0 hg, gt100 hg, gt32 hg, gt33 hg, gt34 hg, gt35 hg, gt36 hg, gt37 hg, gt38 hg, gt39 hg, gt40 hg, gt41 hg, gt42 hg, gt43 hg, gt44 hg, gt45 hg, gt46 hg, gt47 hg, gt48 hg, gt49 hg, gt50 hg, gt51 hg, gt52 hg, gt53 hg, gt54 hg, gt55 hg, gt56 hg, gt57 hg, gt58 hg, gt59 hg, gt60 hg, gt61 hg, gt62 hg, gt63 hg, gt64 hg, gt65 hg, gt66 hg, gt67 hg, gt68 hg, gt69 hg, gt70 hg, gt71 hg, gt72 hg, gt73 hg, gt74 hg, gt75 hg, gt76 hg, gt77 hg, gt78 hg, gt79 hg, gt80 hg, gt81 hg, gt82 hg, gt83 hg, gt84 hg, gt85 hg, gt86 hg, gt87 hg, gt88 hg, gt89 hg, gt90 hg, gt91 hg, gt92 hg, gt93 hg, gt94 hg, gt95 hg, gt96 hg, gt97 hg, gt98 hg, gt99 hg, ab_inv_I, ab_inv_R, ab_inv_L, ab_inv_0, ab_push_some, ab_push_none, ab_E_sw, ab_E_sw0, true_and, and_true, not_false_eq_true, bit_ite, s2, s3, s4, s5, s7, qi_ite2, ab_bit0, ab_bit1, qi_ite, ql_ite, Nat.reduceLeDiff, d128, d16, d8, d4, d1000, d100, d10, if_true, if_false, ite_self, tn0, tn1, tn2, tn3, tn4, tn5, tn6, tn7, tn8, tn9, tn10, tn11, tn12, tn13, tn14, tn15, tn16, tn17, tn18, tn19, Int32.reduceAdd, Int32.reduceMul, Int32.reduceSub, Int32.reduceDiv, Int32.reduceLT, Int32.reduceLE, Int32.reduceToNatClampNeg, i10, i01, ↓reduceIte, if_true, if_false, i02, i03, i04, i05, i06, i07, i12, i13, i14, i15, i16, i17, i20, i21, i23, i24, i25, i26, i27, i30, i31, i32, i34, i35, i36, i37, i40, i41, i42, i43, i45, i46, i47, i50, i51, i52, i53, i54, i56, i57, i60, i61, i62, i63, i64, i65, i67, i70, i71, i72, i73, i74, i75, i76, i10, i01, c_X_isWithin, hx, f1, Nat.reduceAdd, Nat.reduceLeDiff, Nat.zero_add, hv]
  refine new_rule hn fun g' I' J' hN => ?_
  have hg1 := gx_nr hg hN
  have hN' := hN
  have hn128 : 128 ≤ ab_n g := hg.2.2
  obtain ⟨n1, n2, n3, n4, n5, n6, n7, n8⟩ := hN
  simp (disch := decide) only [k65_0, k65_1, k65_2, k65_3, k65_6, k65_9, k65_10, k65_11, k65_14, k65_15, k65_16, k65_19, k65_22, k65_24, k65_27, k65_28, k65_29, k65_32, k65_33, k65_36, k65_37, k65_40, k65_42, k65_43, k65_44, k65_47, k65_49, k65_50, k65_51, k65_53, k65_54, k65_55, k65_57, k65_58, k65_59, k65_62, k65_65, k65_67, k65_68, k65_69, k65_70, k65_71, k65_74, k65_75, k65_78, k65_80, k65_83, gl100 hg1, gl34 hg1, gl35 hg1, gl36 hg1, gl37 hg1, gl38 hg1, gl39 hg1, gl40 hg1, gl41 hg1, gl42 hg1, gl43 hg1, gl44 hg1, gl46 hg1, gl47 hg1, gl48 hg1, gl49 hg1, gl50 hg1, gl51 hg1, gl52 hg1, gl53 hg1, gl54 hg1, gl55 hg1, gl56 hg1, gl58 hg1, gl60 hg1, gl62 hg1, gl63 hg1, gl64 hg1, gl65 hg1, gl66 hg1, gl68 hg1, gl69 hg1, gl70 hg1, gl71 hg1, gl73 hg1, gl74 hg1, gl75 hg1, gl76 hg1, gl78 hg1, gl79 hg1, gl80 hg1, gl81 hg1, gl82 hg1, gl83 hg1, gl84 hg1, gl85 hg1, gl86 hg1, gl87 hg1, gl89 hg1, gl90 hg1, gl91 hg1, gl93 hg1, gl95 hg1, gl97 hg1, gl99 hg1, gr32_0 hg1, gr32_1 hg1, gr32_10 hg1, gr32_11 hg1, gr32_3 hg1, gr32_4 hg1, gr32_5 hg1, gr32_6 hg1, gr32_7 hg1, gr32_8 hg1, gr32_9 hg1, gr33_0 hg1, gr33_1 hg1, gr33_2 hg1, gr33_3 hg1, gr33_4 hg1, gr33_5 hg1, gr33_6 hg1, gr35_0 hg1, gr35_1 hg1, gr39_0 hg1, gr39_1 hg1, gr45_0 hg1, gr45_1 hg1, gr45_2 hg1, gr45_3 hg1, gr45_4 hg1, gr45_5 hg1, gr45_6 hg1, gr47_0 hg1, gr47_1 hg1, gr51_0 hg1, gr51_1 hg1, gr57_0 hg1, gr59_0 hg1, gr59_1 hg1, gr61_0 hg1, gr61_1 hg1, gr61_2 hg1, gr61_3 hg1, gr61_4 hg1, gr67_0 hg1, gr68_0 hg1, gr68_1 hg1, gr68_2 hg1, gr72_0 hg1, gr73_0 hg1, gr73_1 hg1, gr73_2 hg1, gr77_0 hg1, gr77_1 hg1, gr77_4 hg1, gr77_5 hg1, gr78_0 hg1, gr78_1 hg1, gr82_0 hg1, gr82_1 hg1, gr85_0 hg1, gr85_1 hg1, gr88_0 hg1, gr88_1 hg1, gr91_0 hg1, gr91_1 hg1, gr91_2 hg1, gr91_3 hg1, gr92_0 hg1, gr94_0 hg1, gr96_0 hg1, gr98_0 hg1, gt100 hg1, gt32 hg1, gt33 hg1, gt34 hg1, gt35 hg1, gt36 hg1, gt37 hg1, gt38 hg1, gt39 hg1, gt40 hg1, gt41 hg1, gt42 hg1, gt43 hg1, gt44 hg1, gt45 hg1, gt46 hg1, gt47 hg1, gt48 hg1, gt49 hg1, gt50 hg1, gt51 hg1, gt52 hg1, gt53 hg1, gt54 hg1, gt55 hg1, gt56 hg1, gt57 hg1, gt58 hg1, gt59 hg1, gt60 hg1, gt61 hg1, gt62 hg1, gt63 hg1, gt64 hg1, gt65 hg1, gt66 hg1, gt67 hg1, gt68 hg1, gt69 hg1, gt70 hg1, gt71 hg1, gt72 hg1, gt73 hg1, gt74 hg1, gt75 hg1, gt76 hg1, gt77 hg1, gt78 hg1, gt79 hg1, gt80 hg1, gt81 hg1, gt82 hg1, gt83 hg1, gt84 hg1, gt85 hg1, gt86 hg1, gt87 hg1, gt88 hg1, gt89 hg1, gt90 hg1, gt91 hg1, gt92 hg1, gt93 hg1, gt94 hg1, gt95 hg1, gt96 hg1, gt97 hg1, gt98 hg1, gt99 hg1, ab_inv_I, ab_inv_R, ab_inv_L, ab_inv_0, ab_push_some, ab_push_none, ab_E_sw, ab_E_sw0, true_and, and_true, not_false_eq_true, bit_ite, s2, s3, s4, s5, s7, qi_ite2, ab_bit0, ab_bit1, qi_ite, ql_ite, Nat.reduceLeDiff, d128, d16, d8, d4, d1000, d100, d10, if_true, if_false, ite_self, tn0, tn1, tn2, tn3, tn4, tn5, tn6, tn7, tn8, tn9, tn10, tn11, tn12, tn13, tn14, tn15, tn16, tn17, tn18, tn19, Int32.reduceAdd, Int32.reduceMul, Int32.reduceSub, Int32.reduceDiv, Int32.reduceLT, Int32.reduceLE, Int32.reduceToNatClampNeg, i10, i01, ↓reduceIte, if_true, if_false, i02, i03, i04, i05, i06, i07, i12, i13, i14, i15, i16, i17, i20, i21, i23, i24, i25, i26, i27, i30, i31, i32, i34, i35, i36, i37, i40, i41, i42, i43, i45, i46, i47, i50, i51, i52, i53, i54, i56, i57, i60, i61, i62, i63, i64, i65, i67, i70, i71, i72, i73, i74, i75, i76, i10, i01, Nat.reduceAdd, Nat.reduceLeDiff, Nat.zero_add, c_Ru_beOfBars (show 32 ≤ ab_n g by omega) n2 n3 n4 n5.1 n5.2 n6.1 n6.2 (show 32 ≤ ab_n g + 1 by omega) (show 32 ≤ ab_n g + 2 by omega) (show ab_n g + 1 ≠ ab_n g + 2 by omega) (show ab_n g ≠ ab_n g + 1 by omega) (show ab_n g ≠ ab_n g + 2 by omega)]
  generalize hIb : bbI (ab_up (ab_up (ab_up (ab_up I' (ab_n g) 2 4) (ab_n g) 3 a) (ab_n g) 4 0) (ab_n g) 5 0) (ab_n g + 1) (ab_n g + 2) (fun q => db 4 a 0 0 (nI (q / 8)) (nI (q % 8))) (fun _ => 0) 0 = Ib
  have b1 : ∀ q, q < ab_n g → Ib q = I q := by
    intro q hq
    rw [← hIb, bbI_ne (by omega) (by omega), up_ne (by omega), up_ne (by omega), up_ne (by omega), up_ne (by omega), (n7 q hq).2.2.2.1]
  have hcb : Ib 33 7 = nI k := by rw [b1 33 (by omega)]; exact hx
  have hcm : (ab_up Ib 33 7 (nI (k + 1))) 103 4 = nI k := by rw [up_ne (by decide), b1 103 (by omega)]; exact hc
  have hcm' : Ib 103 4 = nI k := by rw [b1 103 (by omega)]; exact hc
  rw [c_St_append hg1 hk hcb n2]
  have hg2 : gx (ab_setR g' 44 k (some (ab_n g))) := gx_set hg1 (by decide)
  simp (disch := decide) only [k65_0, k65_1, k65_2, k65_3, k65_6, k65_9, k65_10, k65_11, k65_14, k65_15, k65_16, k65_19, k65_22, k65_24, k65_27, k65_28, k65_29, k65_32, k65_33, k65_36, k65_37, k65_40, k65_42, k65_43, k65_44, k65_47, k65_49, k65_50, k65_51, k65_53, k65_54, k65_55, k65_57, k65_58, k65_59, k65_62, k65_65, k65_67, k65_68, k65_69, k65_70, k65_71, k65_74, k65_75, k65_78, k65_80, k65_83, k195_0, k195_1, k195_2, k195_3, k195_6, k195_8, k195_10, k195_13, k195_14, k195_15, k195_18, k195_19, k195_20, k195_23, k195_24, k195_25, k195_27, k195_30, k195_33, k195_34, k195_36, k195_37, k195_39, k195_42, k195_43, k195_44, k195_46, k195_49, k195_52, k195_55, k195_56, k195_57, k195_59, k195_62, k195_65, k195_66, k195_69, k195_70, k195_72, k195_74, k195_77, k195_78, k195_79, k195_82, k195_83, k195_84, k195_87, k195_88, k195_89, k195_91, k195_94, k195_95, k195_96, k195_99, k195_100, k195_101, k195_102, k195_105, k195_106, k195_107, k195_108, k195_109, k195_110, k195_113, k195_116, k195_117, k195_118, k195_121, k195_122, k195_123, k195_124, k195_126, k195_127, k195_128, k195_130, k195_131, k195_132, k195_135, k195_138, k195_139, k195_140, k195_141, k195_142, k195_143, k195_146, e195, gl102 hg2, gl103 hg2, gl104 hg2, gl105 hg2, gl106 hg2, gl107 hg2, gl108 hg2, gl109 hg2, gl110 hg2, gl111 hg2, gl112 hg2, gl113 hg2, gl114 hg2, gl115 hg2, gl116 hg2, gl117 hg2, gl118 hg2, gl119 hg2, gl120 hg2, gl121 hg2, gl122 hg2, gl123 hg2, gl124 hg2, gl125 hg2, gl126 hg2, gl127 hg2, gr101_0 hg2, gr101_1 hg2, gr101_10 hg2, gr101_12 hg2, gr101_2 hg2, gr101_22 hg2, gr101_23 hg2, gr101_26 hg2, gr101_27 hg2, gr101_28 hg2, gr101_29 hg2, gr101_3 hg2, gr101_30 hg2, gr101_31 hg2, gr101_32 hg2, gr101_33 hg2, gr101_34 hg2, gr101_39 hg2, gr101_4 hg2, gr101_40 hg2, gr101_41 hg2, gr101_5 hg2, gr101_6 hg2, gr101_7 hg2, gr101_8 hg2, gr101_9 hg2, gt101 hg2, gt102 hg2, gt103 hg2, gt104 hg2, gt105 hg2, gt106 hg2, gt107 hg2, gt108 hg2, gt109 hg2, gt110 hg2, gt111 hg2, gt112 hg2, gt113 hg2, gt114 hg2, gt115 hg2, gt116 hg2, gt117 hg2, gt118 hg2, gt119 hg2, gt120 hg2, gt121 hg2, gt122 hg2, gt123 hg2, gt124 hg2, gt125 hg2, gt126 hg2, gt127 hg2, ab_inv_I, ab_inv_R, ab_inv_L, ab_inv_0, ab_push_some, ab_push_none, ab_E_sw, ab_E_sw0, true_and, and_true, not_false_eq_true, bit_ite, s2, s3, s4, s5, s7, qi_ite2, ab_bit0, ab_bit1, qi_ite, ql_ite, Nat.reduceLeDiff, d128, d16, d8, d4, d1000, d100, d10, if_true, if_false, ite_self, tn0, tn1, tn2, tn3, tn4, tn5, tn6, tn7, tn8, tn9, tn10, tn11, tn12, tn13, tn14, tn15, tn16, tn17, tn18, tn19, Int32.reduceAdd, Int32.reduceMul, Int32.reduceSub, Int32.reduceDiv, Int32.reduceLT, Int32.reduceLE, Int32.reduceToNatClampNeg, i10, i01, ↓reduceIte, if_true, if_false, i02, i03, i04, i05, i06, i07, i12, i13, i14, i15, i16, i17, i20, i21, i23, i24, i25, i26, i27, i30, i31, i32, i34, i35, i36, i37, i40, i41, i42, i43, i45, i46, i47, i50, i51, i52, i53, i54, i56, i57, i60, i61, i62, i63, i64, i65, i67, i70, i71, i72, i73, i74, i75, i76, i10, i01, Nat.reduceAdd, Nat.reduceLeDiff, Nat.zero_add, c_M_in, f2, vi 4 19 rfl, c_M_add hg2 hk hcm, up_ne, hcm', hv]
  refine ⟨n2, ?_⟩
  apply REL_add hR hN' hk hc
  · intro q h1 h2 h3 h4 h5
    rw [up_ne h3, up_ne h4, up_ne h4, up_ne h4, up_ne h4, up_ne h2]
    exact b1 q (by omega)
  · simp (disch := decide) only [up_ne, up_row, fr_eq]
  · simp (disch := decide) only [up_ne, up_row]
    rw [b1 103 (by omega)]
  · intro y hy
    simp (disch := first | decide | omega) only [up_ne, up_row, fr_ne]
    rw [b1 106 (by omega)]
  · intro y hy
    simp (disch := decide) only [up_ne]
    rw [b1 107 (by omega)]
  · intro q h1 h2
    simp (disch := omega) only [up_ne]
    exact b1 q h2
  · refine rl_new (kd := 4) (x := a) (y := 0) (z := 0) n2 hn128 ?_ ?_ n5.1 n5.2 n6.1 n6.2 ?_ ?_ ?_ ?_ ?_ ?_ ?_ ?_ ?_ ⟨by decide, by decide⟩
    · rw [R_set_ne (by omega)]; exact n3
    · rw [R_set_ne (by omega)]; exact n4
    · intro q hq
      simp (disch := omega) only [up_ne]
      rw [← hIb]; unfold bbI
      rw [if_pos ⟨rfl, by omega, hq⟩]
    · intro q hq
      simp (disch := omega) only [up_ne]
      rw [← hIb]; unfold bbI
      rw [if_neg (by omega), if_pos ⟨rfl, by omega, hq⟩]
    · simp (disch := omega) only [up_ne]
      rw [← hIb, bbI_ne (by omega) (by omega)]
      simp (disch := decide) only [up_row, fr_ne, fr_eq]
    · simp (disch := omega) only [up_ne]
      rw [← hIb, bbI_ne (by omega) (by omega)]
      simp (disch := decide) only [up_row, fr_ne, fr_eq]
    · simp (disch := omega) only [up_ne]
      rw [← hIb, bbI_ne (by omega) (by omega)]
      simp (disch := decide) only [up_row, fr_ne, fr_eq]
    · simp (disch := omega) only [up_ne]
      rw [← hIb, bbI_ne (by omega) (by omega)]
      simp (disch := decide) only [up_row, fr_ne, fr_eq]
    · simp (disch := first | decide | omega) only [up_ne, up_row, fr_ne, fr_eq]
    · intro _
      refine ⟨?_, hx8⟩
      simp (disch := first | decide | omega) only [up_ne, up_row, fr_ne, fr_eq]
    · intro e; exact absurd e (by decide)
theorem p_rule0 {a b : Int32} {k : Nat} (hR : REL SL xs g I J) (hk : k < 20) (hc : I 103 4 = nI k) : ab_run (d + 4) 65 [vR (some 32), vI 0, vI a, vI b] g I J (fun r g I J => ab_run (d + 4) 195 [vR (some 101), vI 0, vI a, vI b] g I J (fun r' g I J => r = r' ∧ REL SL xs g I J)) := by
  have hg : gx g := hR.1.1
  have hn : 32 ≤ ab_n g := by have := hg.2.2; omega
  have f1 : nI k < 20 := nI_lt (b := 20) hk (by decide)
  have f2 : ¬ nI k = 20 := fun q => by have := (nI_eq (b := 20) (by omega) (by decide)).mp q; omega
  have hx : I 33 7 = nI k := hR.2.1.1.1.1.2.2.2.2.trans hc
  rw [e65]
  simp (disch := decide) only [k65_0, k65_1, k65_2, k65_3, k65_6, k65_9, k65_10, k65_11, k65_14, k65_15, k65_16, k65_19, k65_22, k65_24, k65_27, k65_28, k65_29, k65_32, k65_33, k65_36, k65_37, k65_40, k65_42, k65_43, k65_44, k65_47, k65_49, k65_50, k65_51, k65_53, k65_54, k65_55, k65_57, k65_58, k65_59, k65_62, k65_65, k65_67, k65_68, k65_69, k65_70, k65_71, k65_74, k65_75, k65_78, k65_80, k65_83, e66, k66_0, k66_1, k66_36, k66_37, k66_38, k66_39, k66_40, k66_42, k66_45, k66_46, k66_47, k66_48, k66_50, k66_53, k66_56, k66_57, k66_59, k66_60, k66_62, k66_65, k66_66, k66_67, k66_69, k66_72, k66_75, k66_76, k66_79, k66_80, k66_81, k66_82, gl100 hg, gl34 hg, gl35 hg, gl36 hg, gl37 hg, gl38 hg, gl39 hg, gl40 hg, gl41 hg, gl42 hg, gl43 hg, gl44 hg, gl46 hg, gl47 hg, gl48 hg, gl49 hg, gl50 hg, gl51 hg, gl52 hg, gl53 hg, gl54 hg, gl55 hg, gl56 hg, gl58 hg, gl60 hg, gl62 hg, gl63 hg, gl64 hg, gl65 hg, gl66 hg, gl68 hg, gl69 hg, gl70 hg, gl71 hg, gl73 hg, gl74 hg, gl75 hg, gl76 hg, gl78 hg, gl79 hg, gl80 hg, gl81 hg, gl82 hg, gl83 hg, gl84 hg, gl85 hg, gl86 hg, gl87 hg, gl89 hg, gl90 hg, gl91 hg, gl93 hg, gl95 hg, gl97 hg, gl99 hg, gr32_0 hg, gr32_1 hg, gr32_10 hg, gr32_11 hg, gr32_3 hg, gr32_4 hg, gr32_5 hg, gr32_6 hg, gr32_7 hg, gr32_8 hg, gr32_9 hg, gr33_0 hg, gr33_1 hg, gr33_2 hg, gr33_3 hg, gr33_4 hg, gr33_5 hg, gr33_6 hg, gr35_0 hg, gr35_1 hg, gr39_0 hg, gr39_1 hg, gr45_0 hg, gr45_1 hg, gr45_2 hg, gr45_3 hg, gr45_4 hg, gr45_5 hg, gr45_6 hg, gr47_0 hg, gr47_1 hg, gr51_0 hg, gr51_1 hg, gr57_0 hg, gr59_0 hg, gr59_1 hg, gr61_0 hg, gr61_1 hg, gr61_2 hg, gr61_3 hg, gr61_4 hg, gr67_0 hg, gr68_0 hg, gr68_1 hg, gr68_2 hg, gr72_0 hg, gr73_0 hg, gr73_1 hg, gr73_2 hg, gr77_0 hg, gr77_1 hg, gr77_4 hg, gr77_5 hg, gr78_0 hg, gr78_1 hg, gr82_0 hg, gr82_1 hg, gr85_0 hg, gr85_1 hg, gr88_0 hg, gr88_1 hg, gr91_0 hg, gr91_1 hg, gr91_2 hg, gr91_3 hg, gr92_0 hg, gr94_0 hg, gr96_0 hg, gr98_0 hg, gt100 hg, gt32 hg, gt33 hg, gt34 hg, gt35 hg, gt36 hg, gt37 hg, gt38 hg, gt39 hg, gt40 hg, gt41 hg, gt42 hg, gt43 hg, gt44 hg, gt45 hg, gt46 hg, gt47 hg, gt48 hg, gt49 hg, gt50 hg, gt51 hg, gt52 hg, gt53 hg, gt54 hg, gt55 hg, gt56 hg, gt57 hg, gt58 hg, gt59 hg, gt60 hg, gt61 hg, gt62 hg, gt63 hg, gt64 hg, gt65 hg, gt66 hg, gt67 hg, gt68 hg, gt69 hg, gt70 hg, gt71 hg, gt72 hg, gt73 hg, gt74 hg, gt75 hg, gt76 hg, gt77 hg, gt78 hg, gt79 hg, gt80 hg, gt81 hg, gt82 hg, gt83 hg, gt84 hg, gt85 hg, gt86 hg, gt87 hg, gt88 hg, gt89 hg, gt90 hg, gt91 hg, gt92 hg, gt93 hg, gt94 hg, gt95 hg, gt96 hg, gt97 hg, gt98 hg, gt99 hg, ab_inv_I, ab_inv_R, ab_inv_L, ab_inv_0, ab_push_some, ab_push_none, ab_E_sw, ab_E_sw0, true_and, and_true, not_false_eq_true, bit_ite, s2, s3, s4, s5, s7, qi_ite2, ab_bit0, ab_bit1, qi_ite, ql_ite, Nat.reduceLeDiff, d128, d16, d8, d4, d1000, d100, d10, if_true, if_false, ite_self, tn0, tn1, tn2, tn3, tn4, tn5, tn6, tn7, tn8, tn9, tn10, tn11, tn12, tn13, tn14, tn15, tn16, tn17, tn18, tn19, Int32.reduceAdd, Int32.reduceMul, Int32.reduceSub, Int32.reduceDiv, Int32.reduceLT, Int32.reduceLE, Int32.reduceToNatClampNeg, i10, i01, ↓reduceIte, if_true, if_false, i02, i03, i04, i05, i06, i07, i12, i13, i14, i15, i16, i17, i20, i21, i23, i24, i25, i26, i27, i30, i31, i32, i34, i35, i36, i37, i40, i41, i42, i43, i45, i46, i47, i50, i51, i52, i53, i54, i56, i57, i60, i61, i62, i63, i64, i65, i67, i70, i71, i72, i73, i74, i75, i76, i10, i01, c_X_isWithin, hx, f1, Nat.reduceAdd, Nat.reduceLeDiff, Nat.zero_add]
  refine new_rule hn fun g' I' J' hN => ?_
  have hg1 := gx_nr hg hN
  have hN' := hN
  have hn128 : 128 ≤ ab_n g := hg.2.2
  obtain ⟨n1, n2, n3, n4, n5, n6, n7, n8⟩ := hN
  simp (disch := decide) only [k65_0, k65_1, k65_2, k65_3, k65_6, k65_9, k65_10, k65_11, k65_14, k65_15, k65_16, k65_19, k65_22, k65_24, k65_27, k65_28, k65_29, k65_32, k65_33, k65_36, k65_37, k65_40, k65_42, k65_43, k65_44, k65_47, k65_49, k65_50, k65_51, k65_53, k65_54, k65_55, k65_57, k65_58, k65_59, k65_62, k65_65, k65_67, k65_68, k65_69, k65_70, k65_71, k65_74, k65_75, k65_78, k65_80, k65_83, gl100 hg1, gl34 hg1, gl35 hg1, gl36 hg1, gl37 hg1, gl38 hg1, gl39 hg1, gl40 hg1, gl41 hg1, gl42 hg1, gl43 hg1, gl44 hg1, gl46 hg1, gl47 hg1, gl48 hg1, gl49 hg1, gl50 hg1, gl51 hg1, gl52 hg1, gl53 hg1, gl54 hg1, gl55 hg1, gl56 hg1, gl58 hg1, gl60 hg1, gl62 hg1, gl63 hg1, gl64 hg1, gl65 hg1, gl66 hg1, gl68 hg1, gl69 hg1, gl70 hg1, gl71 hg1, gl73 hg1, gl74 hg1, gl75 hg1, gl76 hg1, gl78 hg1, gl79 hg1, gl80 hg1, gl81 hg1, gl82 hg1, gl83 hg1, gl84 hg1, gl85 hg1, gl86 hg1, gl87 hg1, gl89 hg1, gl90 hg1, gl91 hg1, gl93 hg1, gl95 hg1, gl97 hg1, gl99 hg1, gr32_0 hg1, gr32_1 hg1, gr32_10 hg1, gr32_11 hg1, gr32_3 hg1, gr32_4 hg1, gr32_5 hg1, gr32_6 hg1, gr32_7 hg1, gr32_8 hg1, gr32_9 hg1, gr33_0 hg1, gr33_1 hg1, gr33_2 hg1, gr33_3 hg1, gr33_4 hg1, gr33_5 hg1, gr33_6 hg1, gr35_0 hg1, gr35_1 hg1, gr39_0 hg1, gr39_1 hg1, gr45_0 hg1, gr45_1 hg1, gr45_2 hg1, gr45_3 hg1, gr45_4 hg1, gr45_5 hg1, gr45_6 hg1, gr47_0 hg1, gr47_1 hg1, gr51_0 hg1, gr51_1 hg1, gr57_0 hg1, gr59_0 hg1, gr59_1 hg1, gr61_0 hg1, gr61_1 hg1, gr61_2 hg1, gr61_3 hg1, gr61_4 hg1, gr67_0 hg1, gr68_0 hg1, gr68_1 hg1, gr68_2 hg1, gr72_0 hg1, gr73_0 hg1, gr73_1 hg1, gr73_2 hg1, gr77_0 hg1, gr77_1 hg1, gr77_4 hg1, gr77_5 hg1, gr78_0 hg1, gr78_1 hg1, gr82_0 hg1, gr82_1 hg1, gr85_0 hg1, gr85_1 hg1, gr88_0 hg1, gr88_1 hg1, gr91_0 hg1, gr91_1 hg1, gr91_2 hg1, gr91_3 hg1, gr92_0 hg1, gr94_0 hg1, gr96_0 hg1, gr98_0 hg1, gt100 hg1, gt32 hg1, gt33 hg1, gt34 hg1, gt35 hg1, gt36 hg1, gt37 hg1, gt38 hg1, gt39 hg1, gt40 hg1, gt41 hg1, gt42 hg1, gt43 hg1, gt44 hg1, gt45 hg1, gt46 hg1, gt47 hg1, gt48 hg1, gt49 hg1, gt50 hg1, gt51 hg1, gt52 hg1, gt53 hg1, gt54 hg1, gt55 hg1, gt56 hg1, gt57 hg1, gt58 hg1, gt59 hg1, gt60 hg1, gt61 hg1, gt62 hg1, gt63 hg1, gt64 hg1, gt65 hg1, gt66 hg1, gt67 hg1, gt68 hg1, gt69 hg1, gt70 hg1, gt71 hg1, gt72 hg1, gt73 hg1, gt74 hg1, gt75 hg1, gt76 hg1, gt77 hg1, gt78 hg1, gt79 hg1, gt80 hg1, gt81 hg1, gt82 hg1, gt83 hg1, gt84 hg1, gt85 hg1, gt86 hg1, gt87 hg1, gt88 hg1, gt89 hg1, gt90 hg1, gt91 hg1, gt92 hg1, gt93 hg1, gt94 hg1, gt95 hg1, gt96 hg1, gt97 hg1, gt98 hg1, gt99 hg1, ab_inv_I, ab_inv_R, ab_inv_L, ab_inv_0, ab_push_some, ab_push_none, ab_E_sw, ab_E_sw0, true_and, and_true, not_false_eq_true, bit_ite, s2, s3, s4, s5, s7, qi_ite2, ab_bit0, ab_bit1, qi_ite, ql_ite, Nat.reduceLeDiff, d128, d16, d8, d4, d1000, d100, d10, if_true, if_false, ite_self, tn0, tn1, tn2, tn3, tn4, tn5, tn6, tn7, tn8, tn9, tn10, tn11, tn12, tn13, tn14, tn15, tn16, tn17, tn18, tn19, Int32.reduceAdd, Int32.reduceMul, Int32.reduceSub, Int32.reduceDiv, Int32.reduceLT, Int32.reduceLE, Int32.reduceToNatClampNeg, i10, i01, ↓reduceIte, if_true, if_false, i02, i03, i04, i05, i06, i07, i12, i13, i14, i15, i16, i17, i20, i21, i23, i24, i25, i26, i27, i30, i31, i32, i34, i35, i36, i37, i40, i41, i42, i43, i45, i46, i47, i50, i51, i52, i53, i54, i56, i57, i60, i61, i62, i63, i64, i65, i67, i70, i71, i72, i73, i74, i75, i76, i10, i01, Nat.reduceAdd, Nat.reduceLeDiff, Nat.zero_add, c_Ru_beOfBars (show 32 ≤ ab_n g by omega) n2 n3 n4 n5.1 n5.2 n6.1 n6.2 (show 32 ≤ ab_n g + 1 by omega) (show 32 ≤ ab_n g + 2 by omega) (show ab_n g + 1 ≠ ab_n g + 2 by omega) (show ab_n g ≠ ab_n g + 1 by omega) (show ab_n g ≠ ab_n g + 2 by omega)]
  generalize hIb : bbI (ab_up (ab_up (ab_up (ab_up I' (ab_n g) 2 0) (ab_n g) 3 a) (ab_n g) 4 0) (ab_n g) 5 0) (ab_n g + 1) (ab_n g + 2) (fun q => db 0 a 0 0 (nI (q / 8)) (nI (q % 8))) (fun _ => 0) 0 = Ib
  have b1 : ∀ q, q < ab_n g → Ib q = I q := by
    intro q hq
    rw [← hIb, bbI_ne (by omega) (by omega), up_ne (by omega), up_ne (by omega), up_ne (by omega), up_ne (by omega), (n7 q hq).2.2.2.1]
  have hcb : Ib 33 7 = nI k := by rw [b1 33 (by omega)]; exact hx
  have hcm : (ab_up Ib 33 7 (nI (k + 1))) 103 4 = nI k := by rw [up_ne (by decide), b1 103 (by omega)]; exact hc
  have hcm' : Ib 103 4 = nI k := by rw [b1 103 (by omega)]; exact hc
  rw [c_St_append hg1 hk hcb n2]
  have hg2 : gx (ab_setR g' 44 k (some (ab_n g))) := gx_set hg1 (by decide)
  simp (disch := decide) only [k65_0, k65_1, k65_2, k65_3, k65_6, k65_9, k65_10, k65_11, k65_14, k65_15, k65_16, k65_19, k65_22, k65_24, k65_27, k65_28, k65_29, k65_32, k65_33, k65_36, k65_37, k65_40, k65_42, k65_43, k65_44, k65_47, k65_49, k65_50, k65_51, k65_53, k65_54, k65_55, k65_57, k65_58, k65_59, k65_62, k65_65, k65_67, k65_68, k65_69, k65_70, k65_71, k65_74, k65_75, k65_78, k65_80, k65_83, k195_0, k195_1, k195_2, k195_3, k195_6, k195_8, k195_10, k195_13, k195_14, k195_15, k195_18, k195_19, k195_20, k195_23, k195_24, k195_25, k195_27, k195_30, k195_33, k195_34, k195_36, k195_37, k195_39, k195_42, k195_43, k195_44, k195_46, k195_49, k195_52, k195_55, k195_56, k195_57, k195_59, k195_62, k195_65, k195_66, k195_69, k195_70, k195_72, k195_74, k195_77, k195_78, k195_79, k195_82, k195_83, k195_84, k195_87, k195_88, k195_89, k195_91, k195_94, k195_95, k195_96, k195_99, k195_100, k195_101, k195_102, k195_105, k195_106, k195_107, k195_108, k195_109, k195_110, k195_113, k195_116, k195_117, k195_118, k195_121, k195_122, k195_123, k195_124, k195_126, k195_127, k195_128, k195_130, k195_131, k195_132, k195_135, k195_138, k195_139, k195_140, k195_141, k195_142, k195_143, k195_146, e195, gl102 hg2, gl103 hg2, gl104 hg2, gl105 hg2, gl106 hg2, gl107 hg2, gl108 hg2, gl109 hg2, gl110 hg2, gl111 hg2, gl112 hg2, gl113 hg2, gl114 hg2, gl115 hg2, gl116 hg2, gl117 hg2, gl118 hg2, gl119 hg2, gl120 hg2, gl121 hg2, gl122 hg2, gl123 hg2, gl124 hg2, gl125 hg2, gl126 hg2, gl127 hg2, gr101_0 hg2, gr101_1 hg2, gr101_10 hg2, gr101_12 hg2, gr101_2 hg2, gr101_22 hg2, gr101_23 hg2, gr101_26 hg2, gr101_27 hg2, gr101_28 hg2, gr101_29 hg2, gr101_3 hg2, gr101_30 hg2, gr101_31 hg2, gr101_32 hg2, gr101_33 hg2, gr101_34 hg2, gr101_39 hg2, gr101_4 hg2, gr101_40 hg2, gr101_41 hg2, gr101_5 hg2, gr101_6 hg2, gr101_7 hg2, gr101_8 hg2, gr101_9 hg2, gt101 hg2, gt102 hg2, gt103 hg2, gt104 hg2, gt105 hg2, gt106 hg2, gt107 hg2, gt108 hg2, gt109 hg2, gt110 hg2, gt111 hg2, gt112 hg2, gt113 hg2, gt114 hg2, gt115 hg2, gt116 hg2, gt117 hg2, gt118 hg2, gt119 hg2, gt120 hg2, gt121 hg2, gt122 hg2, gt123 hg2, gt124 hg2, gt125 hg2, gt126 hg2, gt127 hg2, ab_inv_I, ab_inv_R, ab_inv_L, ab_inv_0, ab_push_some, ab_push_none, ab_E_sw, ab_E_sw0, true_and, and_true, not_false_eq_true, bit_ite, s2, s3, s4, s5, s7, qi_ite2, ab_bit0, ab_bit1, qi_ite, ql_ite, Nat.reduceLeDiff, d128, d16, d8, d4, d1000, d100, d10, if_true, if_false, ite_self, tn0, tn1, tn2, tn3, tn4, tn5, tn6, tn7, tn8, tn9, tn10, tn11, tn12, tn13, tn14, tn15, tn16, tn17, tn18, tn19, Int32.reduceAdd, Int32.reduceMul, Int32.reduceSub, Int32.reduceDiv, Int32.reduceLT, Int32.reduceLE, Int32.reduceToNatClampNeg, i10, i01, ↓reduceIte, if_true, if_false, i02, i03, i04, i05, i06, i07, i12, i13, i14, i15, i16, i17, i20, i21, i23, i24, i25, i26, i27, i30, i31, i32, i34, i35, i36, i37, i40, i41, i42, i43, i45, i46, i47, i50, i51, i52, i53, i54, i56, i57, i60, i61, i62, i63, i64, i65, i67, i70, i71, i72, i73, i74, i75, i76, i10, i01, Nat.reduceAdd, Nat.reduceLeDiff, Nat.zero_add, c_M_in, f2, vi 4 19 rfl, c_M_add hg2 hk hcm, up_ne, hcm']
  refine ⟨n2, ?_⟩
  apply REL_add hR hN' hk hc
  · intro q h1 h2 h3 h4 h5
    rw [up_ne h3, up_ne h4, up_ne h4, up_ne h4, up_ne h4, up_ne h2]
    exact b1 q (by omega)
  · simp (disch := decide) only [up_ne, up_row, fr_eq]
  · simp (disch := decide) only [up_ne, up_row]
    rw [b1 103 (by omega)]
  · intro y hy
    simp (disch := first | decide | omega) only [up_ne, up_row, fr_ne]
    rw [b1 106 (by omega)]
  · intro y hy
    simp (disch := decide) only [up_ne]
    rw [b1 107 (by omega)]
  · intro q h1 h2
    simp (disch := omega) only [up_ne]
    exact b1 q h2
  · refine rl_new (kd := 0) (x := a) (y := 0) (z := 0) n2 hn128 ?_ ?_ n5.1 n5.2 n6.1 n6.2 ?_ ?_ ?_ ?_ ?_ ?_ ?_ ?_ ?_ ⟨by decide, by decide⟩
    · rw [R_set_ne (by omega)]; exact n3
    · rw [R_set_ne (by omega)]; exact n4
    · intro q hq
      simp (disch := omega) only [up_ne]
      rw [← hIb]; unfold bbI
      rw [if_pos ⟨rfl, by omega, hq⟩]
    · intro q hq
      simp (disch := omega) only [up_ne]
      rw [← hIb]; unfold bbI
      rw [if_neg (by omega), if_pos ⟨rfl, by omega, hq⟩]
    · simp (disch := omega) only [up_ne]
      rw [← hIb, bbI_ne (by omega) (by omega)]
      simp (disch := decide) only [up_row, fr_ne, fr_eq]
    · simp (disch := omega) only [up_ne]
      rw [← hIb, bbI_ne (by omega) (by omega)]
      simp (disch := decide) only [up_row, fr_ne, fr_eq]
    · simp (disch := omega) only [up_ne]
      rw [← hIb, bbI_ne (by omega) (by omega)]
      simp (disch := decide) only [up_row, fr_ne, fr_eq]
    · simp (disch := omega) only [up_ne]
      rw [← hIb, bbI_ne (by omega) (by omega)]
      simp (disch := decide) only [up_row, fr_ne, fr_eq]
    · simp (disch := first | decide | omega) only [up_ne, up_row, fr_ne, fr_eq]
    · intro e; exact absurd e (by decide)
    · intro e; exact absurd e (by decide)
theorem p_rule1 {a b : Int32} {k : Nat} (hR : REL SL xs g I J) (hk : k < 20) (hc : I 103 4 = nI k) : ab_run (d + 4) 65 [vR (some 32), vI 1, vI a, vI b] g I J (fun r g I J => ab_run (d + 4) 195 [vR (some 101), vI 1, vI a, vI b] g I J (fun r' g I J => r = r' ∧ REL SL xs g I J)) := by
  have hg : gx g := hR.1.1
  have hn : 32 ≤ ab_n g := by have := hg.2.2; omega
  have f1 : nI k < 20 := nI_lt (b := 20) hk (by decide)
  have f2 : ¬ nI k = 20 := fun q => by have := (nI_eq (b := 20) (by omega) (by decide)).mp q; omega
  have hx : I 33 7 = nI k := hR.2.1.1.1.1.2.2.2.2.trans hc
  rw [e65]
  simp (disch := decide) only [k65_0, k65_1, k65_2, k65_3, k65_6, k65_9, k65_10, k65_11, k65_14, k65_15, k65_16, k65_19, k65_22, k65_24, k65_27, k65_28, k65_29, k65_32, k65_33, k65_36, k65_37, k65_40, k65_42, k65_43, k65_44, k65_47, k65_49, k65_50, k65_51, k65_53, k65_54, k65_55, k65_57, k65_58, k65_59, k65_62, k65_65, k65_67, k65_68, k65_69, k65_70, k65_71, k65_74, k65_75, k65_78, k65_80, k65_83, e66, k66_0, k66_1, k66_36, k66_37, k66_38, k66_39, k66_40, k66_42, k66_45, k66_46, k66_47, k66_48, k66_50, k66_53, k66_56, k66_57, k66_59, k66_60, k66_62, k66_65, k66_66, k66_67, k66_69, k66_72, k66_75, k66_76, k66_79, k66_80, k66_81, k66_82, gl100 hg, gl34 hg, gl35 hg, gl36 hg, gl37 hg, gl38 hg, gl39 hg, gl40 hg, gl41 hg, gl42 hg, gl43 hg, gl44 hg, gl46 hg, gl47 hg, gl48 hg, gl49 hg, gl50 hg, gl51 hg, gl52 hg, gl53 hg, gl54 hg, gl55 hg, gl56 hg, gl58 hg, gl60 hg, gl62 hg, gl63 hg, gl64 hg, gl65 hg, gl66 hg, gl68 hg, gl69 hg, gl70 hg, gl71 hg, gl73 hg, gl74 hg, gl75 hg, gl76 hg, gl78 hg, gl79 hg, gl80 hg, gl81 hg, gl82 hg, gl83 hg, gl84 hg, gl85 hg, gl86 hg, gl87 hg, gl89 hg, gl90 hg, gl91 hg, gl93 hg, gl95 hg, gl97 hg, gl99 hg, gr32_0 hg, gr32_1 hg, gr32_10 hg, gr32_11 hg, gr32_3 hg, gr32_4 hg, gr32_5 hg, gr32_6 hg, gr32_7 hg, gr32_8 hg, gr32_9 hg, gr33_0 hg, gr33_1 hg, gr33_2 hg, gr33_3 hg, gr33_4 hg, gr33_5 hg, gr33_6 hg, gr35_0 hg, gr35_1 hg, gr39_0 hg, gr39_1 hg, gr45_0 hg, gr45_1 hg, gr45_2 hg, gr45_3 hg, gr45_4 hg, gr45_5 hg, gr45_6 hg, gr47_0 hg, gr47_1 hg, gr51_0 hg, gr51_1 hg, gr57_0 hg, gr59_0 hg, gr59_1 hg, gr61_0 hg, gr61_1 hg, gr61_2 hg, gr61_3 hg, gr61_4 hg, gr67_0 hg, gr68_0 hg, gr68_1 hg, gr68_2 hg, gr72_0 hg, gr73_0 hg, gr73_1 hg, gr73_2 hg, gr77_0 hg, gr77_1 hg, gr77_4 hg, gr77_5 hg, gr78_0 hg, gr78_1 hg, gr82_0 hg, gr82_1 hg, gr85_0 hg, gr85_1 hg, gr88_0 hg, gr88_1 hg, gr91_0 hg, gr91_1 hg, gr91_2 hg, gr91_3 hg, gr92_0 hg, gr94_0 hg, gr96_0 hg, gr98_0 hg, gt100 hg, gt32 hg, gt33 hg, gt34 hg, gt35 hg, gt36 hg, gt37 hg, gt38 hg, gt39 hg, gt40 hg, gt41 hg, gt42 hg, gt43 hg, gt44 hg, gt45 hg, gt46 hg, gt47 hg, gt48 hg, gt49 hg, gt50 hg, gt51 hg, gt52 hg, gt53 hg, gt54 hg, gt55 hg, gt56 hg, gt57 hg, gt58 hg, gt59 hg, gt60 hg, gt61 hg, gt62 hg, gt63 hg, gt64 hg, gt65 hg, gt66 hg, gt67 hg, gt68 hg, gt69 hg, gt70 hg, gt71 hg, gt72 hg, gt73 hg, gt74 hg, gt75 hg, gt76 hg, gt77 hg, gt78 hg, gt79 hg, gt80 hg, gt81 hg, gt82 hg, gt83 hg, gt84 hg, gt85 hg, gt86 hg, gt87 hg, gt88 hg, gt89 hg, gt90 hg, gt91 hg, gt92 hg, gt93 hg, gt94 hg, gt95 hg, gt96 hg, gt97 hg, gt98 hg, gt99 hg, ab_inv_I, ab_inv_R, ab_inv_L, ab_inv_0, ab_push_some, ab_push_none, ab_E_sw, ab_E_sw0, true_and, and_true, not_false_eq_true, bit_ite, s2, s3, s4, s5, s7, qi_ite2, ab_bit0, ab_bit1, qi_ite, ql_ite, Nat.reduceLeDiff, d128, d16, d8, d4, d1000, d100, d10, if_true, if_false, ite_self, tn0, tn1, tn2, tn3, tn4, tn5, tn6, tn7, tn8, tn9, tn10, tn11, tn12, tn13, tn14, tn15, tn16, tn17, tn18, tn19, Int32.reduceAdd, Int32.reduceMul, Int32.reduceSub, Int32.reduceDiv, Int32.reduceLT, Int32.reduceLE, Int32.reduceToNatClampNeg, i10, i01, ↓reduceIte, if_true, if_false, i02, i03, i04, i05, i06, i07, i12, i13, i14, i15, i16, i17, i20, i21, i23, i24, i25, i26, i27, i30, i31, i32, i34, i35, i36, i37, i40, i41, i42, i43, i45, i46, i47, i50, i51, i52, i53, i54, i56, i57, i60, i61, i62, i63, i64, i65, i67, i70, i71, i72, i73, i74, i75, i76, i10, i01, c_X_isWithin, hx, f1, Nat.reduceAdd, Nat.reduceLeDiff, Nat.zero_add]
  refine new_rule hn fun g' I' J' hN => ?_
  have hg1 := gx_nr hg hN
  have hN' := hN
  have hn128 : 128 ≤ ab_n g := hg.2.2
  obtain ⟨n1, n2, n3, n4, n5, n6, n7, n8⟩ := hN
  simp (disch := decide) only [k65_0, k65_1, k65_2, k65_3, k65_6, k65_9, k65_10, k65_11, k65_14, k65_15, k65_16, k65_19, k65_22, k65_24, k65_27, k65_28, k65_29, k65_32, k65_33, k65_36, k65_37, k65_40, k65_42, k65_43, k65_44, k65_47, k65_49, k65_50, k65_51, k65_53, k65_54, k65_55, k65_57, k65_58, k65_59, k65_62, k65_65, k65_67, k65_68, k65_69, k65_70, k65_71, k65_74, k65_75, k65_78, k65_80, k65_83, gl100 hg1, gl34 hg1, gl35 hg1, gl36 hg1, gl37 hg1, gl38 hg1, gl39 hg1, gl40 hg1, gl41 hg1, gl42 hg1, gl43 hg1, gl44 hg1, gl46 hg1, gl47 hg1, gl48 hg1, gl49 hg1, gl50 hg1, gl51 hg1, gl52 hg1, gl53 hg1, gl54 hg1, gl55 hg1, gl56 hg1, gl58 hg1, gl60 hg1, gl62 hg1, gl63 hg1, gl64 hg1, gl65 hg1, gl66 hg1, gl68 hg1, gl69 hg1, gl70 hg1, gl71 hg1, gl73 hg1, gl74 hg1, gl75 hg1, gl76 hg1, gl78 hg1, gl79 hg1, gl80 hg1, gl81 hg1, gl82 hg1, gl83 hg1, gl84 hg1, gl85 hg1, gl86 hg1, gl87 hg1, gl89 hg1, gl90 hg1, gl91 hg1, gl93 hg1, gl95 hg1, gl97 hg1, gl99 hg1, gr32_0 hg1, gr32_1 hg1, gr32_10 hg1, gr32_11 hg1, gr32_3 hg1, gr32_4 hg1, gr32_5 hg1, gr32_6 hg1, gr32_7 hg1, gr32_8 hg1, gr32_9 hg1, gr33_0 hg1, gr33_1 hg1, gr33_2 hg1, gr33_3 hg1, gr33_4 hg1, gr33_5 hg1, gr33_6 hg1, gr35_0 hg1, gr35_1 hg1, gr39_0 hg1, gr39_1 hg1, gr45_0 hg1, gr45_1 hg1, gr45_2 hg1, gr45_3 hg1, gr45_4 hg1, gr45_5 hg1, gr45_6 hg1, gr47_0 hg1, gr47_1 hg1, gr51_0 hg1, gr51_1 hg1, gr57_0 hg1, gr59_0 hg1, gr59_1 hg1, gr61_0 hg1, gr61_1 hg1, gr61_2 hg1, gr61_3 hg1, gr61_4 hg1, gr67_0 hg1, gr68_0 hg1, gr68_1 hg1, gr68_2 hg1, gr72_0 hg1, gr73_0 hg1, gr73_1 hg1, gr73_2 hg1, gr77_0 hg1, gr77_1 hg1, gr77_4 hg1, gr77_5 hg1, gr78_0 hg1, gr78_1 hg1, gr82_0 hg1, gr82_1 hg1, gr85_0 hg1, gr85_1 hg1, gr88_0 hg1, gr88_1 hg1, gr91_0 hg1, gr91_1 hg1, gr91_2 hg1, gr91_3 hg1, gr92_0 hg1, gr94_0 hg1, gr96_0 hg1, gr98_0 hg1, gt100 hg1, gt32 hg1, gt33 hg1, gt34 hg1, gt35 hg1, gt36 hg1, gt37 hg1, gt38 hg1, gt39 hg1, gt40 hg1, gt41 hg1, gt42 hg1, gt43 hg1, gt44 hg1, gt45 hg1, gt46 hg1, gt47 hg1, gt48 hg1, gt49 hg1, gt50 hg1, gt51 hg1, gt52 hg1, gt53 hg1, gt54 hg1, gt55 hg1, gt56 hg1, gt57 hg1, gt58 hg1, gt59 hg1, gt60 hg1, gt61 hg1, gt62 hg1, gt63 hg1, gt64 hg1, gt65 hg1, gt66 hg1, gt67 hg1, gt68 hg1, gt69 hg1, gt70 hg1, gt71 hg1, gt72 hg1, gt73 hg1, gt74 hg1, gt75 hg1, gt76 hg1, gt77 hg1, gt78 hg1, gt79 hg1, gt80 hg1, gt81 hg1, gt82 hg1, gt83 hg1, gt84 hg1, gt85 hg1, gt86 hg1, gt87 hg1, gt88 hg1, gt89 hg1, gt90 hg1, gt91 hg1, gt92 hg1, gt93 hg1, gt94 hg1, gt95 hg1, gt96 hg1, gt97 hg1, gt98 hg1, gt99 hg1, ab_inv_I, ab_inv_R, ab_inv_L, ab_inv_0, ab_push_some, ab_push_none, ab_E_sw, ab_E_sw0, true_and, and_true, not_false_eq_true, bit_ite, s2, s3, s4, s5, s7, qi_ite2, ab_bit0, ab_bit1, qi_ite, ql_ite, Nat.reduceLeDiff, d128, d16, d8, d4, d1000, d100, d10, if_true, if_false, ite_self, tn0, tn1, tn2, tn3, tn4, tn5, tn6, tn7, tn8, tn9, tn10, tn11, tn12, tn13, tn14, tn15, tn16, tn17, tn18, tn19, Int32.reduceAdd, Int32.reduceMul, Int32.reduceSub, Int32.reduceDiv, Int32.reduceLT, Int32.reduceLE, Int32.reduceToNatClampNeg, i10, i01, ↓reduceIte, if_true, if_false, i02, i03, i04, i05, i06, i07, i12, i13, i14, i15, i16, i17, i20, i21, i23, i24, i25, i26, i27, i30, i31, i32, i34, i35, i36, i37, i40, i41, i42, i43, i45, i46, i47, i50, i51, i52, i53, i54, i56, i57, i60, i61, i62, i63, i64, i65, i67, i70, i71, i72, i73, i74, i75, i76, i10, i01, Nat.reduceAdd, Nat.reduceLeDiff, Nat.zero_add, c_Ru_beOfBars (show 32 ≤ ab_n g by omega) n2 n3 n4 n5.1 n5.2 n6.1 n6.2 (show 32 ≤ ab_n g + 1 by omega) (show 32 ≤ ab_n g + 2 by omega) (show ab_n g + 1 ≠ ab_n g + 2 by omega) (show ab_n g ≠ ab_n g + 1 by omega) (show ab_n g ≠ ab_n g + 2 by omega)]
  generalize hIb : bbI (ab_up (ab_up (ab_up (ab_up I' (ab_n g) 2 1) (ab_n g) 3 a) (ab_n g) 4 0) (ab_n g) 5 0) (ab_n g + 1) (ab_n g + 2) (fun q => db 1 a 0 0 (nI (q / 8)) (nI (q % 8))) (fun _ => 0) 0 = Ib
  have b1 : ∀ q, q < ab_n g → Ib q = I q := by
    intro q hq
    rw [← hIb, bbI_ne (by omega) (by omega), up_ne (by omega), up_ne (by omega), up_ne (by omega), up_ne (by omega), (n7 q hq).2.2.2.1]
  have hcb : Ib 33 7 = nI k := by rw [b1 33 (by omega)]; exact hx
  have hcm : (ab_up Ib 33 7 (nI (k + 1))) 103 4 = nI k := by rw [up_ne (by decide), b1 103 (by omega)]; exact hc
  have hcm' : Ib 103 4 = nI k := by rw [b1 103 (by omega)]; exact hc
  rw [c_St_append hg1 hk hcb n2]
  have hg2 : gx (ab_setR g' 44 k (some (ab_n g))) := gx_set hg1 (by decide)
  simp (disch := decide) only [k65_0, k65_1, k65_2, k65_3, k65_6, k65_9, k65_10, k65_11, k65_14, k65_15, k65_16, k65_19, k65_22, k65_24, k65_27, k65_28, k65_29, k65_32, k65_33, k65_36, k65_37, k65_40, k65_42, k65_43, k65_44, k65_47, k65_49, k65_50, k65_51, k65_53, k65_54, k65_55, k65_57, k65_58, k65_59, k65_62, k65_65, k65_67, k65_68, k65_69, k65_70, k65_71, k65_74, k65_75, k65_78, k65_80, k65_83, k195_0, k195_1, k195_2, k195_3, k195_6, k195_8, k195_10, k195_13, k195_14, k195_15, k195_18, k195_19, k195_20, k195_23, k195_24, k195_25, k195_27, k195_30, k195_33, k195_34, k195_36, k195_37, k195_39, k195_42, k195_43, k195_44, k195_46, k195_49, k195_52, k195_55, k195_56, k195_57, k195_59, k195_62, k195_65, k195_66, k195_69, k195_70, k195_72, k195_74, k195_77, k195_78, k195_79, k195_82, k195_83, k195_84, k195_87, k195_88, k195_89, k195_91, k195_94, k195_95, k195_96, k195_99, k195_100, k195_101, k195_102, k195_105, k195_106, k195_107, k195_108, k195_109, k195_110, k195_113, k195_116, k195_117, k195_118, k195_121, k195_122, k195_123, k195_124, k195_126, k195_127, k195_128, k195_130, k195_131, k195_132, k195_135, k195_138, k195_139, k195_140, k195_141, k195_142, k195_143, k195_146, e195, gl102 hg2, gl103 hg2, gl104 hg2, gl105 hg2, gl106 hg2, gl107 hg2, gl108 hg2, gl109 hg2, gl110 hg2, gl111 hg2, gl112 hg2, gl113 hg2, gl114 hg2, gl115 hg2, gl116 hg2, gl117 hg2, gl118 hg2, gl119 hg2, gl120 hg2, gl121 hg2, gl122 hg2, gl123 hg2, gl124 hg2, gl125 hg2, gl126 hg2, gl127 hg2, gr101_0 hg2, gr101_1 hg2, gr101_10 hg2, gr101_12 hg2, gr101_2 hg2, gr101_22 hg2, gr101_23 hg2, gr101_26 hg2, gr101_27 hg2, gr101_28 hg2, gr101_29 hg2, gr101_3 hg2, gr101_30 hg2, gr101_31 hg2, gr101_32 hg2, gr101_33 hg2, gr101_34 hg2, gr101_39 hg2, gr101_4 hg2, gr101_40 hg2, gr101_41 hg2, gr101_5 hg2, gr101_6 hg2, gr101_7 hg2, gr101_8 hg2, gr101_9 hg2, gt101 hg2, gt102 hg2, gt103 hg2, gt104 hg2, gt105 hg2, gt106 hg2, gt107 hg2, gt108 hg2, gt109 hg2, gt110 hg2, gt111 hg2, gt112 hg2, gt113 hg2, gt114 hg2, gt115 hg2, gt116 hg2, gt117 hg2, gt118 hg2, gt119 hg2, gt120 hg2, gt121 hg2, gt122 hg2, gt123 hg2, gt124 hg2, gt125 hg2, gt126 hg2, gt127 hg2, ab_inv_I, ab_inv_R, ab_inv_L, ab_inv_0, ab_push_some, ab_push_none, ab_E_sw, ab_E_sw0, true_and, and_true, not_false_eq_true, bit_ite, s2, s3, s4, s5, s7, qi_ite2, ab_bit0, ab_bit1, qi_ite, ql_ite, Nat.reduceLeDiff, d128, d16, d8, d4, d1000, d100, d10, if_true, if_false, ite_self, tn0, tn1, tn2, tn3, tn4, tn5, tn6, tn7, tn8, tn9, tn10, tn11, tn12, tn13, tn14, tn15, tn16, tn17, tn18, tn19, Int32.reduceAdd, Int32.reduceMul, Int32.reduceSub, Int32.reduceDiv, Int32.reduceLT, Int32.reduceLE, Int32.reduceToNatClampNeg, i10, i01, ↓reduceIte, if_true, if_false, i02, i03, i04, i05, i06, i07, i12, i13, i14, i15, i16, i17, i20, i21, i23, i24, i25, i26, i27, i30, i31, i32, i34, i35, i36, i37, i40, i41, i42, i43, i45, i46, i47, i50, i51, i52, i53, i54, i56, i57, i60, i61, i62, i63, i64, i65, i67, i70, i71, i72, i73, i74, i75, i76, i10, i01, Nat.reduceAdd, Nat.reduceLeDiff, Nat.zero_add, c_M_in, f2, vi 4 19 rfl, c_M_add hg2 hk hcm, up_ne, hcm']
  refine ⟨n2, ?_⟩
  apply REL_add hR hN' hk hc
  · intro q h1 h2 h3 h4 h5
    rw [up_ne h3, up_ne h4, up_ne h4, up_ne h4, up_ne h4, up_ne h2]
    exact b1 q (by omega)
  · simp (disch := decide) only [up_ne, up_row, fr_eq]
  · simp (disch := decide) only [up_ne, up_row]
    rw [b1 103 (by omega)]
  · intro y hy
    simp (disch := first | decide | omega) only [up_ne, up_row, fr_ne]
    rw [b1 106 (by omega)]
  · intro y hy
    simp (disch := decide) only [up_ne]
    rw [b1 107 (by omega)]
  · intro q h1 h2
    simp (disch := omega) only [up_ne]
    exact b1 q h2
  · refine rl_new (kd := 1) (x := a) (y := 0) (z := 0) n2 hn128 ?_ ?_ n5.1 n5.2 n6.1 n6.2 ?_ ?_ ?_ ?_ ?_ ?_ ?_ ?_ ?_ ⟨by decide, by decide⟩
    · rw [R_set_ne (by omega)]; exact n3
    · rw [R_set_ne (by omega)]; exact n4
    · intro q hq
      simp (disch := omega) only [up_ne]
      rw [← hIb]; unfold bbI
      rw [if_pos ⟨rfl, by omega, hq⟩]
    · intro q hq
      simp (disch := omega) only [up_ne]
      rw [← hIb]; unfold bbI
      rw [if_neg (by omega), if_pos ⟨rfl, by omega, hq⟩]
    · simp (disch := omega) only [up_ne]
      rw [← hIb, bbI_ne (by omega) (by omega)]
      simp (disch := decide) only [up_row, fr_ne, fr_eq]
    · simp (disch := omega) only [up_ne]
      rw [← hIb, bbI_ne (by omega) (by omega)]
      simp (disch := decide) only [up_row, fr_ne, fr_eq]
    · simp (disch := omega) only [up_ne]
      rw [← hIb, bbI_ne (by omega) (by omega)]
      simp (disch := decide) only [up_row, fr_ne, fr_eq]
    · simp (disch := omega) only [up_ne]
      rw [← hIb, bbI_ne (by omega) (by omega)]
      simp (disch := decide) only [up_row, fr_ne, fr_eq]
    · simp (disch := first | decide | omega) only [up_ne, up_row, fr_ne, fr_eq]
    · intro e; exact absurd e (by decide)
    · intro e; exact absurd e (by decide)
end P17
