/-! ===== the class: prepare ===== -/
/-- all references but Field's harm -/
def gfr (g g' : ab_G) : Prop := (∀ k f, ¬ (k = 61 ∧ f = 6) → ab_R g' k f = ab_R g k f) ∧ (∀ k, ab_ty g' k = ab_ty g k) ∧ (∀ k, ab_ln g' k = ab_ln g k) ∧ ab_n g' = ab_n g
theorem gfr_refl {g : ab_G} : gfr g g := ⟨fun _ _ _ => rfl, fun _ => rfl, fun _ => rfl, rfl⟩
theorem gfr_row {g g' : ab_G} (h : gfr g g') {k : Nat} (hk : k ≠ 61) : ab_R g' k = ab_R g k := funext fun f => h.1 k f (fun e => hk e.1)
theorem gfr_ex {g g' : ab_G} {I I' : ab_I} {l r : List Nat} (h : gfr g g') (d : dfr l r I I') (hl : ∀ x, x ∈ l → x < 128) : ex g g' I I' := fun k hk _ => ⟨h.2.1 k, h.2.2.1 k, fun f => h.1 k f (by omega), d.1 k (fun e => by have := hl k e; omega) (by omega)⟩
theorem gfr_set {g : ab_G} {o : Option Nat} : gfr g (ab_setR g 61 6 o) := by
  refine ⟨fun k f h => ?_, fun _ => rfl, fun _ => rfl, rfl⟩
  by_cases e : k = 61
  · subst e
    rw [R_set_row, fr_ne (fun e => h ⟨rfl, e⟩)]
  · rw [R_set_ne e]
theorem gx_gfr {g g' : ab_G} (hg : gx g) (h : gfr g g') : gx g' := gx_R hg h.2.2.2 h.2.1 h.2.2.1 fun q hq => h.1 _ _ (by
  have : ∀ q ∈ gx_ref, ¬ (q.1 = 61 ∧ q.2.1 = 6) := by decide
  exact this q hq)
theorem REL_fld {SL : Nat} {xs : Nat → Int32} {g g' : ab_G} {I I' : ab_I} {J : ab_J} (hR : REL SL xs g I J) (h : dfr [61, 62, 63, 64, 65, 66] [] I I') (hG : gfr g g') (hc : caOK g' I' (ab_R g' 61 6) (I' 61 7) (I' 61 5) (I' 64) (I' 65) (I' 62) (I' 63)) : REL SL xs g' I' J := by
  have he : ex g g' I I' := gfr_ex hG h (by decide)
  have hi : ∀ x, x ∉ [61, 62, 63, 64, 65, 66] → x ≠ 101 → I' x = I x := h.1
  have h1 : ∀ y, I' 101 y = I 101 y := fun y => h.2 y (by simp)
  obtain ⟨⟨a1, a2, a3, a4, a5⟩, ⟨b1, b2, b3⟩, ⟨c1, c2, c3⟩, ⟨d1, d2⟩, e1, f1⟩ := hR
  unfold REL
  rw [gfr_row hG (k := 41) (by decide), gfr_row hG (k := 53) (by decide), gfr_row hG (k := 30) (by decide), gfr_row hG (k := 42) (by decide)]
  rw [hi 31 (by decide) (by decide), hi 33 (by decide) (by decide), hi 34 (by decide) (by decide), hi 35 (by decide) (by decide), hi 37 (by decide) (by decide), hi 38 (by decide) (by decide), hi 39 (by decide) (by decide), hi 40 (by decide) (by decide), hi 30 (by decide) (by decide), hi 103 (by decide) (by decide), hi 104 (by decide) (by decide), hi 105 (by decide) (by decide), hi 106 (by decide) (by decide), hi 107 (by decide) (by decide), hi 29 (by decide) (by decide), hi 43 (by decide) (by decide), hi 45 (by decide) (by decide), hi 46 (by decide) (by decide), hi 47 (by decide) (by decide), hi 49 (by decide) (by decide), hi 50 (by decide) (by decide), hi 51 (by decide) (by decide), hi 52 (by decide) (by decide), hi 42 (by decide) (by decide), hi 108 (by decide) (by decide), hi 109 (by decide) (by decide), hi 110 (by decide) (by decide), hi 111 (by decide) (by decide), hi 112 (by decide) (by decide), hi 54 (by decide) (by decide), hi 55 (by decide) (by decide), hi 113 (by decide) (by decide), hi 100 (by decide) (by decide), hi 102 (by decide) (by decide), hi 92 (by decide) (by decide), hi 94 (by decide) (by decide), hi 96 (by decide) (by decide), hi 98 (by decide) (by decide), hi 125 (by decide) (by decide), hi 126 (by decide) (by decide), h1 11, h1 13]
  refine ⟨⟨gx_gfr a1 hG, fun k hk => ?_, low_ext a3 hG.2.1 hG.2.2.1 (fun k hk => gfr_row hG (by omega)) (fun k hk => hi k (by simp only [List.mem_cons, List.not_mem_nil, or_false]; omega) (by omega)), ex_roK he a4, ex_roK he a5⟩, ⟨b1, ex_stR he b2, ex_stH he b3⟩, ⟨c1, c2, fun q => ⟨(c3 q).1, ex_stR he (c3 q).2.1, ex_stH he (c3 q).2.2⟩⟩, ⟨d1, d2⟩, e1, hc⟩
  rw [hG.2.1]; exact a2 k (by rw [hG.2.2.2] at hk; exact hk)
theorem fv_of {g : ab_G} {I : ab_I} {o : Option Nat} {nu co : Nat → Int32} {q : Nat} (h : stH g I o (nu 10) co) : fvOK g I o q (iK (chc nu co q)) (iK (hut nu co q)) := by
  rcases h with ⟨h0, h1⟩ | ⟨h, h0, h1, hm⟩
  · refine Or.inl ⟨h0, ?_, ?_⟩
    · unfold chc; rw [if_pos h1]; rfl
    · unfold hut; rw [if_pos h1]; rfl
  · obtain ⟨m1, m2, ⟨t1, r1, x1⟩, t2, r2, x2⟩ := hm
    obtain ⟨a1, a2, s1, a3, a4, a5, a6, a7, a8⟩ := x1
    obtain ⟨b1, b2, s2, b3, b4, b5, b6, b7, b8⟩ := x2
    have n0 : ¬ nu 10 = 0 := by rw [h1]; decide
    have ev1 : ev (nI (q / 128)) (nI (q / 16 % 8)) (nI (q / 4 % 4)) (nI (q % 4)) (tf I s1) (ab_ln g s1) = rcq co q := by rw [a6]; exact ev_ext fun i hi => (a8 i hi).1.symm
    have ev2 : ev (nI (q / 128)) (nI (q / 16 % 8)) (nI (q / 4 % 4)) (nI (q % 4)) (tf I s2) (ab_ln g s2) = rzq co q := by rw [b6]; exact ev_ext fun i hi => (b8 i hi).1.symm
    refine Or.inr ⟨h, t1, t2, s1, s2, h0, m2, m1, r1, r2, a2, b2, a1, b1, a3, b3, a5, b5, a4, b4, ?_, ?_⟩
    · rw [ev1, cl_iK]; unfold chc; rw [if_neg n0]; rfl
    · rw [ev2, cl_iK]; unfold hut; rw [if_neg n0]; rfl
theorem fv_to {g : ab_G} {I : ab_I} {o : Option Nat} {nu co : Nat → Int32} {q : Nat} {ch hu : Int32} (h : stH g I o (nu 10) co) (hf : fvOK g I o q ch hu) : ch = iK (chc nu co q) ∧ hu = iK (hut nu co q) := by
  rcases h with ⟨h0, h1⟩ | ⟨h, h0, h1, hm⟩
  · rcases hf with ⟨_, f1, f2⟩ | ⟨h', t, u, s, v, f1, _⟩
    · unfold chc hut; rw [if_pos h1, if_pos h1, f1, f2]; exact ⟨rfl, rfl⟩
    · rw [h0] at f1; exact absurd f1 (by simp)
  · obtain ⟨m1, m2, ⟨t1, r1, x1⟩, t2, r2, x2⟩ := hm
    obtain ⟨a1, a2, s1, a3, a4, a5, a6, a7, a8⟩ := x1
    obtain ⟨b1, b2, s2, b3, b4, b5, b6, b7, b8⟩ := x2
    have n0 : ¬ nu 10 = 0 := by rw [h1]; decide
    rcases hf with ⟨f0, _⟩ | ⟨h', t, u, s, v, f1, _, _, g1, g2, _, _, _, _, g3, g4, _, _, _, _, g5, g6⟩
    · rw [h0] at f0; exact absurd f0 (by simp)
    · have eh : h' = h := by rw [h0] at f1; exact (Option.some.inj f1).symm
      subst eh
      have et : t = t1 := by rw [r1] at g1; exact (Option.some.inj g1).symm
      subst et
      have eu : u = t2 := by rw [r2] at g2; exact (Option.some.inj g2).symm
      subst eu
      have es : s = s1 := by rw [a3] at g3; exact (Option.some.inj g3).symm
      subst es
      have ev' : v = s2 := by rw [b3] at g4; exact (Option.some.inj g4).symm
      subst ev'
      have ev1 : ev (nI (q / 128)) (nI (q / 16 % 8)) (nI (q / 4 % 4)) (nI (q % 4)) (tf I s) (ab_ln g s) = rcq co q := by rw [a6]; exact ev_ext fun i hi => (a8 i hi).1.symm
      have ev2 : ev (nI (q / 128)) (nI (q / 16 % 8)) (nI (q / 4 % 4)) (nI (q % 4)) (tf I v) (ab_ln g v) = rzq co q := by rw [b6]; exact ev_ext fun i hi => (b8 i hi).1.symm
      rw [g5, g6, ev1, ev2, cl_iK, cl_iK]
      unfold chc hut
      rw [if_neg n0, if_neg n0]
      exact ⟨rfl, rfl⟩
theorem tW_eq {nu : Nat → Int32} {a b c e : Nat} (ea : nu 0 = nI a) (eb : nu 1 = nI b) (ec : nu 2 = nI c) (ee : nu 3 = nI e) (ha : a ≤ 8) (hb : b ≤ 8) (hc : c ≤ 4) (he : e ≤ 4) (n : Nat) : tW nu n = (List.range n).filter (fun q => decide (q / 128 < a) && (decide (q / 16 % 8 < b) && (decide (q / 4 % 4 < c) && decide (q % 4 < e)))) := by
  unfold tW tl tpq
  rw [ea, eb, ec, ee, nI_clamp (by omega), nI_clamp (by omega), nI_clamp (by omega), nI_clamp (by omega)]
theorem own_H {g : ab_G} {I : ab_I} {o : Option Nat} {k : Int32} {co : Nat → Int32} (h : stH g I o k co) : ab_own o := by
  rcases h with ⟨h0, _⟩ | ⟨h, h0, _, hm⟩
  · rw [h0]; trivial
  · rw [h0]; show 29 ≤ h; have := hm.2.1; omega
section P46
variable {d SL : Nat} {xs : Nat → Int32} {g : ab_G} {I : ab_I} {J : ab_J} {Q : ab_Q} {q i o r k : Nat} {s : Int32}
set_option maxRecDepth 20000 in
theorem c_Fl_prepare (hR : REL SL xs g I J) (hQ : ∀ g' I', REL SL xs g' I' J → fld I' (I 103) (I 107) → dfr [61, 62, 63, 64, 65, 66] [] I I' → gfr g g' → Q none g' I' J) : ab_run (d + 6) 54 [vR (some 61), vR (some 30)] g I J Q := by
  have hg : gx g := hR.1.1
  have hn := REL_nOK hR
  obtain ⟨a, ha, ea⟩ := rg_nI (n := 8) hn.1.1
  obtain ⟨b, hb, eb⟩ := rg_nI (n := 8) hn.1.2.1
  obtain ⟨c, hc, ec⟩ := rg_nI (n := 4) (rg1 hn.1.2.2.1)
  obtain ⟨e, he, ee⟩ := rg_nI (n := 4) (rg1 hn.1.2.2.2.1)
  have c1 : 1 ≤ c := by have h := hn.1.2.2.1.1; rw [ec, nI_toInt (by omega)] at h; omega
  have e1 : 1 ≤ e := by have h := hn.1.2.2.2.1.1; rw [ee, nI_toInt (by omega)] at h; omega
  have cw0 := REL_cw hR
  have i0 : I 31 0 = I 103 0 := cw0.1.1
  have i1 : I 31 1 = I 103 1 := cw0.1.2.1
  have i2 : I 35 0 = I 103 2 := cw0.1.2.2.1
  have i3 : I 35 1 = I 103 3 := cw0.1.2.2.2
  have hH := hR.2.1.2.2
  have hca := hR.2.2.2.2.2
  have ow1 := own_H hH
  have ow2 := hca.1
  have hS : (nI a * 16 + nI b) * 64 + nI c * 8 + nI e = nI ((a * 16 + b) * 64 + c * 8 + e) := by
    rw [show (16 : Int32) = nI 16 from rfl, show (64 : Int32) = nI 64 from rfl, show (8 : Int32) = nI 8 from rfl, nImul, nI_add, nImul, nImul, nI_add, nI_add]
  rw [e54]
  have rest : ∀ x3 x4, ab_E (d + 5) 54 77 [some (vR (some 61)), some (vR (some 30)), some (vI (nI ((a * 16 + b) * 64 + c * 8 + e))), some (vI x3), x4] [] 0 0 (ab_setR g 61 6 (ab_R g 30 8)) (ab_up (ab_up I 61 7 (nI ((a * 16 + b) * 64 + c * 8 + e))) 61 5 0) J Q ∨ x3 ≠ 0 := by
    intro x3 x4
    by_cases z : x3 = 0
    · subst z
      left
      have hG : gfr g (ab_setR g 61 6 (ab_R g 30 8)) := gfr_set
      have hR6 : ab_R (ab_setR g 61 6 (ab_R g 30 8)) 61 6 = ab_R g 30 8 := by rw [R_set_row, fr_eq]
      have D0 : dfr [61, 62, 63, 64, 65, 66] [] I (ab_up (ab_up I 61 7 (nI ((a * 16 + b) * 64 + c * 8 + e))) 61 5 0) := dfr_trans (dfr_up (by decide) (by decide)) (dfr_up (by decide) (by decide))
      have hH1 : stH (ab_setR g 61 6 (ab_R g 30 8)) (ab_up (ab_up I 61 7 (nI ((a * 16 + b) * 64 + c * 8 + e))) 61 5 0) (ab_R (ab_setR g 61 6 (ab_R g 30 8)) 61 6) (I 103 10) (I 107) := by rw [hR6]; exact ex_stH (gfr_ex hG D0 (by decide)) hH
      refine lp_pr2 (nu := I 103) (co := I 107) (gx_gfr hg hG) ea eb ec ee ha hb hc he a 0 _ x4 (by omega) (by rw [D0.1 31 (by decide) (by decide)]; exact i0) (by rw [D0.1 31 (by decide) (by decide)]; exact i1) (by rw [D0.1 35 (by decide) (by decide)]; exact i2) (by rw [D0.1 35 (by decide) (by decide)]; exact i3) hH1 ?_ fun I' D1 hV h7 => ?_
      · refine ⟨by rw [up_row, fr_eq]; rfl, fun i hi => ?_, fun q hq => ?_⟩
        · have : (tW (I 103) (128 * 0)).length = 0 := rfl
          omega
        · have := (tW_mem.mp hq).1; omega
      · have D01 := dfr_trans D0 D1
        have h7' : I' 61 7 = nI ((a * 16 + b) * 64 + c * 8 + e) := by rw [h7, up_row, fr_ne (by decide), up_row, fr_eq]
        have hHI : stH (ab_setR g 61 6 (ab_R g 30 8)) I' (ab_R (ab_setR g 61 6 (ab_R g 30 8)) 61 6) (I 103 10) (I 107) := by rw [hR6]; exact ex_stH (gfr_ex hG D01 (by decide)) hH
        refine hQ _ I' (REL_fld hR D01 hG ⟨by rw [hR6]; exact ow1, Or.inr ⟨a, b, c, e, (tW (I 103) 1024).length, ha, hb, hc, he, h7', hV.1, ⟨tW (I 103) 1024, rfl, tW_eq ea eb ec ee ha hb hc he 1024, hV.2.1⟩, fun q hq ht => ?_⟩⟩) hV D01 hG
        have hqT : q ∈ tW (I 103) 1024 := tW_mem.mpr ⟨hq, (tQ_iff ea eb ec ee ha hb hc he).mpr ht⟩
        obtain ⟨v1, v2, v3⟩ := hV.2.2 q hqT
        refine ⟨v1, ?_⟩
        rw [v2, v3]
        exact fv_of hHI
    · exact Or.inr z
  by_cases hr : ab_R g 30 8 = ab_R g 61 6
  · by_cases hs : nI ((a * 16 + b) * 64 + c * 8 + e) = I 61 7
    · simp (disch := decide) only [k54_0, k54_1, k54_4, k54_5, k54_6, k54_8, k54_9, k54_10, k54_13, k54_14, k54_15, k54_16, k54_18, k54_19, k54_20, k54_23, k54_24, k54_25, k54_27, k54_28, k54_29, k54_30, k54_33, k54_34, k54_35, k54_36, k54_37, k54_38, k54_41, k54_42, k54_45, k54_48, k54_49, k54_50, k54_53, k54_56, k54_57, k54_58, k54_59, k54_62, k54_65, k54_66, k54_67, k54_70, k54_71, k54_72, k54_75, k54_76, k54_78, k54_79, k54_82, k54_83, k54_84, k54_87, k54_88, k54_92, k54_93, k54_96, k54_97, k54_98, k54_101, k54_102, k54_103, k54_104, k54_106, k54_109, k54_110, k54_111, k54_114, k54_117, k54_120, k54_123, k54_126, gl100 hg, gl31 hg, gl32 hg, gl33 hg, gl34 hg, gl35 hg, gl36 hg, gl37 hg, gl38 hg, gl39 hg, gl40 hg, gl41 hg, gl43 hg, gl44 hg, gl45 hg, gl46 hg, gl47 hg, gl48 hg, gl49 hg, gl50 hg, gl51 hg, gl52 hg, gl53 hg, gl55 hg, gl57 hg, gl58 hg, gl59 hg, gl60 hg, gl62 hg, gl63 hg, gl64 hg, gl65 hg, gl66 hg, gl68 hg, gl69 hg, gl70 hg, gl71 hg, gl73 hg, gl74 hg, gl75 hg, gl76 hg, gl78 hg, gl79 hg, gl80 hg, gl81 hg, gl82 hg, gl83 hg, gl84 hg, gl85 hg, gl86 hg, gl87 hg, gl89 hg, gl90 hg, gl91 hg, gl93 hg, gl95 hg, gl97 hg, gl99 hg, gr29_0 hg, gr29_1 hg, gr29_10 hg, gr29_11 hg, gr29_3 hg, gr29_4 hg, gr29_5 hg, gr29_6 hg, gr29_7 hg, gr29_8 hg, gr29_9 hg, gr30_0 hg, gr30_1 hg, gr30_2 hg, gr30_3 hg, gr30_4 hg, gr30_5 hg, gr30_6 hg, gr32_0 hg, gr32_1 hg, gr36_0 hg, gr36_1 hg, gr42_0 hg, gr42_1 hg, gr42_2 hg, gr42_3 hg, gr42_4 hg, gr42_5 hg, gr42_6 hg, gr44_0 hg, gr44_1 hg, gr48_0 hg, gr48_1 hg, gr54_0 hg, gr56_0 hg, gr56_1 hg, gr56_2 hg, gr56_3 hg, gr56_6 hg, gr61_0 hg, gr61_1 hg, gr61_2 hg, gr61_3 hg, gr61_4 hg, gr67_0 hg, gr68_0 hg, gr68_1 hg, gr68_2 hg, gr72_0 hg, gr73_0 hg, gr73_1 hg, gr73_2 hg, gr77_0 hg, gr77_1 hg, gr77_4 hg, gr77_5 hg, gr78_0 hg, gr78_1 hg, gr82_0 hg, gr82_1 hg, gr85_0 hg, gr85_1 hg, gr88_0 hg, gr88_1 hg, gr91_0 hg, gr91_1 hg, gr91_2 hg, gr91_3 hg, gr92_0 hg, gr94_0 hg, gr96_0 hg, gr98_0 hg, gt100 hg, gt29 hg, gt30 hg, gt31 hg, gt32 hg, gt33 hg, gt34 hg, gt35 hg, gt36 hg, gt37 hg, gt38 hg, gt39 hg, gt40 hg, gt41 hg, gt42 hg, gt43 hg, gt44 hg, gt45 hg, gt46 hg, gt47 hg, gt48 hg, gt49 hg, gt50 hg, gt51 hg, gt52 hg, gt53 hg, gt54 hg, gt55 hg, gt56 hg, gt57 hg, gt58 hg, gt59 hg, gt60 hg, gt61 hg, gt62 hg, gt63 hg, gt64 hg, gt65 hg, gt66 hg, gt67 hg, gt68 hg, gt69 hg, gt70 hg, gt71 hg, gt72 hg, gt73 hg, gt74 hg, gt75 hg, gt76 hg, gt77 hg, gt78 hg, gt79 hg, gt80 hg, gt81 hg, gt82 hg, gt83 hg, gt84 hg, gt85 hg, gt86 hg, gt87 hg, gt88 hg, gt89 hg, gt90 hg, gt91 hg, gt92 hg, gt93 hg, gt94 hg, gt95 hg, gt96 hg, gt97 hg, gt98 hg, gt99 hg, ab_inv_I, ab_inv_R, ab_inv_L, ab_inv_0, ab_push_some, ab_push_none, ab_E_sw, ab_E_sw0, true_and, and_true, not_false_eq_true, bit_ite, s2, s3, s4, s5, s7, qi_ite2, ab_bit0, ab_bit1, qi_ite, ql_ite, Nat.reduceLeDiff, d128, d16, d8, d4, d1000, d100, d10, if_true, if_false, ite_self, tn0, tn1, tn2, tn3, tn4, tn5, tn6, tn7, tn8, tn9, tn10, tn11, tn12, tn13, tn14, tn15, tn16, tn17, tn18, tn19, up_ne, up_row, fr_ne, fr_eq, Int32.reduceAdd, Int32.reduceMul, Int32.reduceSub, Int32.reduceDiv, Int32.reduceLT, Int32.reduceLE, Int32.reduceToNatClampNeg, i10, i01, ↓reduceIte, if_true, if_false, i0, i1, i2, i3, ea, eb, ec, ee, hS, vi 0 2 rfl, vi 1 2 rfl, ow1, ow2, hr, hs]
      refine hQ g I hR ?_ dfr_refl gfr_refl
      rcases hca.2 with h0 | ⟨a', b', c', e', m, ha', hb', hc', he', h1, h2, ⟨l, hl, hl2, hl3⟩, h4⟩
      · rw [← hs] at h0
        have := (nI_eq (b := 0) (by omega) (by decide)).mp h0
        omega
      · rw [← hs] at h1
        have h5 := (nI_eq (by omega) (by omega)).mp h1
        have q1 : a' = a := by omega
        have q2 : b' = b := by omega
        have q3 : c' = c := by omega
        have q4 : e' = e := by omega
        subst q1 q2 q3 q4
        rw [← tW_eq ea eb ec ee ha hb hc he 1024] at hl2
        subst hl2
        subst hl
        refine ⟨h2, hl3, fun q hq => ?_⟩
        have hq2 := tW_mem.mp hq
        have := h4 q hq2.1 ((tQ_iff ea eb ec ee ha hb hc he).mp hq2.2)
        rw [← hr] at this
        have h6 := fv_to hH this.2
        exact ⟨this.1, h6.1, h6.2⟩
    · simp (disch := decide) only [k54_0, k54_1, k54_4, k54_5, k54_6, k54_8, k54_9, k54_10, k54_13, k54_14, k54_15, k54_16, k54_18, k54_19, k54_20, k54_23, k54_24, k54_25, k54_27, k54_28, k54_29, k54_30, k54_33, k54_34, k54_35, k54_36, k54_37, k54_38, k54_41, k54_42, k54_45, k54_48, k54_49, k54_50, k54_53, k54_56, k54_57, k54_58, k54_59, k54_62, k54_65, k54_66, k54_67, k54_70, k54_71, k54_72, k54_75, k54_76, k54_78, k54_79, k54_82, k54_83, k54_84, k54_87, k54_88, k54_92, k54_93, k54_96, k54_97, k54_98, k54_101, k54_102, k54_103, k54_104, k54_106, k54_109, k54_110, k54_111, k54_114, k54_117, k54_120, k54_123, k54_126, gl100 hg, gl31 hg, gl32 hg, gl33 hg, gl34 hg, gl35 hg, gl36 hg, gl37 hg, gl38 hg, gl39 hg, gl40 hg, gl41 hg, gl43 hg, gl44 hg, gl45 hg, gl46 hg, gl47 hg, gl48 hg, gl49 hg, gl50 hg, gl51 hg, gl52 hg, gl53 hg, gl55 hg, gl57 hg, gl58 hg, gl59 hg, gl60 hg, gl62 hg, gl63 hg, gl64 hg, gl65 hg, gl66 hg, gl68 hg, gl69 hg, gl70 hg, gl71 hg, gl73 hg, gl74 hg, gl75 hg, gl76 hg, gl78 hg, gl79 hg, gl80 hg, gl81 hg, gl82 hg, gl83 hg, gl84 hg, gl85 hg, gl86 hg, gl87 hg, gl89 hg, gl90 hg, gl91 hg, gl93 hg, gl95 hg, gl97 hg, gl99 hg, gr29_0 hg, gr29_1 hg, gr29_10 hg, gr29_11 hg, gr29_3 hg, gr29_4 hg, gr29_5 hg, gr29_6 hg, gr29_7 hg, gr29_8 hg, gr29_9 hg, gr30_0 hg, gr30_1 hg, gr30_2 hg, gr30_3 hg, gr30_4 hg, gr30_5 hg, gr30_6 hg, gr32_0 hg, gr32_1 hg, gr36_0 hg, gr36_1 hg, gr42_0 hg, gr42_1 hg, gr42_2 hg, gr42_3 hg, gr42_4 hg, gr42_5 hg, gr42_6 hg, gr44_0 hg, gr44_1 hg, gr48_0 hg, gr48_1 hg, gr54_0 hg, gr56_0 hg, gr56_1 hg, gr56_2 hg, gr56_3 hg, gr56_6 hg, gr61_0 hg, gr61_1 hg, gr61_2 hg, gr61_3 hg, gr61_4 hg, gr67_0 hg, gr68_0 hg, gr68_1 hg, gr68_2 hg, gr72_0 hg, gr73_0 hg, gr73_1 hg, gr73_2 hg, gr77_0 hg, gr77_1 hg, gr77_4 hg, gr77_5 hg, gr78_0 hg, gr78_1 hg, gr82_0 hg, gr82_1 hg, gr85_0 hg, gr85_1 hg, gr88_0 hg, gr88_1 hg, gr91_0 hg, gr91_1 hg, gr91_2 hg, gr91_3 hg, gr92_0 hg, gr94_0 hg, gr96_0 hg, gr98_0 hg, gt100 hg, gt29 hg, gt30 hg, gt31 hg, gt32 hg, gt33 hg, gt34 hg, gt35 hg, gt36 hg, gt37 hg, gt38 hg, gt39 hg, gt40 hg, gt41 hg, gt42 hg, gt43 hg, gt44 hg, gt45 hg, gt46 hg, gt47 hg, gt48 hg, gt49 hg, gt50 hg, gt51 hg, gt52 hg, gt53 hg, gt54 hg, gt55 hg, gt56 hg, gt57 hg, gt58 hg, gt59 hg, gt60 hg, gt61 hg, gt62 hg, gt63 hg, gt64 hg, gt65 hg, gt66 hg, gt67 hg, gt68 hg, gt69 hg, gt70 hg, gt71 hg, gt72 hg, gt73 hg, gt74 hg, gt75 hg, gt76 hg, gt77 hg, gt78 hg, gt79 hg, gt80 hg, gt81 hg, gt82 hg, gt83 hg, gt84 hg, gt85 hg, gt86 hg, gt87 hg, gt88 hg, gt89 hg, gt90 hg, gt91 hg, gt92 hg, gt93 hg, gt94 hg, gt95 hg, gt96 hg, gt97 hg, gt98 hg, gt99 hg, ab_inv_I, ab_inv_R, ab_inv_L, ab_inv_0, ab_push_some, ab_push_none, ab_E_sw, ab_E_sw0, true_and, and_true, not_false_eq_true, bit_ite, s2, s3, s4, s5, s7, qi_ite2, ab_bit0, ab_bit1, qi_ite, ql_ite, Nat.reduceLeDiff, d128, d16, d8, d4, d1000, d100, d10, if_true, if_false, ite_self, tn0, tn1, tn2, tn3, tn4, tn5, tn6, tn7, tn8, tn9, tn10, tn11, tn12, tn13, tn14, tn15, tn16, tn17, tn18, tn19, up_ne, up_row, fr_ne, fr_eq, Int32.reduceAdd, Int32.reduceMul, Int32.reduceSub, Int32.reduceDiv, Int32.reduceLT, Int32.reduceLE, Int32.reduceToNatClampNeg, i10, i01, ↓reduceIte, if_true, if_false, i0, i1, i2, i3, ea, eb, ec, ee, hS, vi 0 2 rfl, vi 1 2 rfl, ow1, ow2, hr, hs, R_set_ne]
      have q := rest 0 none
      rw [hr] at q
      exact ⟨show ab_ty g 61 = 14 from gt61 hg, show ab_ty g 61 = 14 from gt61 hg, q.resolve_right (by simp)⟩
  · simp (disch := decide) only [k54_0, k54_1, k54_4, k54_5, k54_6, k54_8, k54_9, k54_10, k54_13, k54_14, k54_15, k54_16, k54_18, k54_19, k54_20, k54_23, k54_24, k54_25, k54_27, k54_28, k54_29, k54_30, k54_33, k54_34, k54_35, k54_36, k54_37, k54_38, k54_41, k54_42, k54_45, k54_48, k54_49, k54_50, k54_53, k54_56, k54_57, k54_58, k54_59, k54_62, k54_65, k54_66, k54_67, k54_70, k54_71, k54_72, k54_75, k54_76, k54_78, k54_79, k54_82, k54_83, k54_84, k54_87, k54_88, k54_92, k54_93, k54_96, k54_97, k54_98, k54_101, k54_102, k54_103, k54_104, k54_106, k54_109, k54_110, k54_111, k54_114, k54_117, k54_120, k54_123, k54_126, gl100 hg, gl31 hg, gl32 hg, gl33 hg, gl34 hg, gl35 hg, gl36 hg, gl37 hg, gl38 hg, gl39 hg, gl40 hg, gl41 hg, gl43 hg, gl44 hg, gl45 hg, gl46 hg, gl47 hg, gl48 hg, gl49 hg, gl50 hg, gl51 hg, gl52 hg, gl53 hg, gl55 hg, gl57 hg, gl58 hg, gl59 hg, gl60 hg, gl62 hg, gl63 hg, gl64 hg, gl65 hg, gl66 hg, gl68 hg, gl69 hg, gl70 hg, gl71 hg, gl73 hg, gl74 hg, gl75 hg, gl76 hg, gl78 hg, gl79 hg, gl80 hg, gl81 hg, gl82 hg, gl83 hg, gl84 hg, gl85 hg, gl86 hg, gl87 hg, gl89 hg, gl90 hg, gl91 hg, gl93 hg, gl95 hg, gl97 hg, gl99 hg, gr29_0 hg, gr29_1 hg, gr29_10 hg, gr29_11 hg, gr29_3 hg, gr29_4 hg, gr29_5 hg, gr29_6 hg, gr29_7 hg, gr29_8 hg, gr29_9 hg, gr30_0 hg, gr30_1 hg, gr30_2 hg, gr30_3 hg, gr30_4 hg, gr30_5 hg, gr30_6 hg, gr32_0 hg, gr32_1 hg, gr36_0 hg, gr36_1 hg, gr42_0 hg, gr42_1 hg, gr42_2 hg, gr42_3 hg, gr42_4 hg, gr42_5 hg, gr42_6 hg, gr44_0 hg, gr44_1 hg, gr48_0 hg, gr48_1 hg, gr54_0 hg, gr56_0 hg, gr56_1 hg, gr56_2 hg, gr56_3 hg, gr56_6 hg, gr61_0 hg, gr61_1 hg, gr61_2 hg, gr61_3 hg, gr61_4 hg, gr67_0 hg, gr68_0 hg, gr68_1 hg, gr68_2 hg, gr72_0 hg, gr73_0 hg, gr73_1 hg, gr73_2 hg, gr77_0 hg, gr77_1 hg, gr77_4 hg, gr77_5 hg, gr78_0 hg, gr78_1 hg, gr82_0 hg, gr82_1 hg, gr85_0 hg, gr85_1 hg, gr88_0 hg, gr88_1 hg, gr91_0 hg, gr91_1 hg, gr91_2 hg, gr91_3 hg, gr92_0 hg, gr94_0 hg, gr96_0 hg, gr98_0 hg, gt100 hg, gt29 hg, gt30 hg, gt31 hg, gt32 hg, gt33 hg, gt34 hg, gt35 hg, gt36 hg, gt37 hg, gt38 hg, gt39 hg, gt40 hg, gt41 hg, gt42 hg, gt43 hg, gt44 hg, gt45 hg, gt46 hg, gt47 hg, gt48 hg, gt49 hg, gt50 hg, gt51 hg, gt52 hg, gt53 hg, gt54 hg, gt55 hg, gt56 hg, gt57 hg, gt58 hg, gt59 hg, gt60 hg, gt61 hg, gt62 hg, gt63 hg, gt64 hg, gt65 hg, gt66 hg, gt67 hg, gt68 hg, gt69 hg, gt70 hg, gt71 hg, gt72 hg, gt73 hg, gt74 hg, gt75 hg, gt76 hg, gt77 hg, gt78 hg, gt79 hg, gt80 hg, gt81 hg, gt82 hg, gt83 hg, gt84 hg, gt85 hg, gt86 hg, gt87 hg, gt88 hg, gt89 hg, gt90 hg, gt91 hg, gt92 hg, gt93 hg, gt94 hg, gt95 hg, gt96 hg, gt97 hg, gt98 hg, gt99 hg, ab_inv_I, ab_inv_R, ab_inv_L, ab_inv_0, ab_push_some, ab_push_none, ab_E_sw, ab_E_sw0, true_and, and_true, not_false_eq_true, bit_ite, s2, s3, s4, s5, s7, qi_ite2, ab_bit0, ab_bit1, qi_ite, ql_ite, Nat.reduceLeDiff, d128, d16, d8, d4, d1000, d100, d10, if_true, if_false, ite_self, tn0, tn1, tn2, tn3, tn4, tn5, tn6, tn7, tn8, tn9, tn10, tn11, tn12, tn13, tn14, tn15, tn16, tn17, tn18, tn19, up_ne, up_row, fr_ne, fr_eq, Int32.reduceAdd, Int32.reduceMul, Int32.reduceSub, Int32.reduceDiv, Int32.reduceLT, Int32.reduceLE, Int32.reduceToNatClampNeg, i10, i01, ↓reduceIte, if_true, if_false, i0, i1, i2, i3, ea, eb, ec, ee, hS, vi 0 2 rfl, vi 1 2 rfl, ow1, ow2, hr, R_set_ne]
    exact ⟨show ab_ty g 61 = 14 from gt61 hg, show ab_ty g 61 = 14 from gt61 hg, (rest 0 none).resolve_right (by simp)⟩
end P46
