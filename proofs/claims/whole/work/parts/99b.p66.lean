/-! ===== the class: a text taken ===== -/
/-- a new Text object with its row of steps, the reader's fields and rows changed, all else as it was -/
def nt (g g' : ab_G) (I I' : ab_I) (J J' : ab_J) (l : List Int32) : Prop := ab_n g' = ab_n g + 2 ∧ (ab_ty g' (ab_n g) = 19 ∧ ab_R g' (ab_n g) 0 = some (ab_n g + 1) ∧ ab_ty g' (ab_n g + 1) = 1 ∧ ab_ln g' (ab_n g + 1) = l.length ∧ ∀ j, j < l.length → I' (ab_n g + 1) j = l.getD j 0) ∧ (∀ k, k < ab_n g → ab_ty g' k = ab_ty g k ∧ ab_ln g' k = ab_ln g k ∧ ab_R g' k = ab_R g k ∧ J' k = J k) ∧ (∀ k, k < ab_n g → (k < 56 ∨ 60 < k) → I' k = I k) ∧ ∀ k, ab_n g + 2 ≤ k → ab_ty g' k = ab_ty g k
theorem dfr_row {I I' : ab_I} {l : List Nat} (h : dfr l [] I I') {k : Nat} (hk : k ∉ l) : I' k = I k := by
  by_cases e : k = 101
  · rw [e]; funext y; exact h.2 y (by simp)
  · exact h.1 k hk e
section P66
variable {d SL : Nat} {xs : Nat → Int32} {g : ab_G} {I : ab_I} {J : ab_J} {Q : ab_Q} {b : Nat → Int32} {n : Nat}
set_option maxRecDepth 20000 in
theorem c_copyOf {N : Nat} (hm : 128 ≤ ab_n g) (t60 : ab_ty g 60 = 1) (l60 : ab_ln g 60 = 120) (hN : N < 120) (hQ : Q (some (vR (some (ab_n g)))) (ab_mk g 1 N) (ab_cp (ab_z I (ab_n g) (ab_n g + 1) 0) 60 0 (ab_n g) 0 N) (ab_z J (ab_n g) (ab_n g + 1) 0)) : ab_run (d + 2) 49 [vR (some 60), vI (nI N)] g I J Q := by
  rw [e49]
  have f1 : (nI N = nI 120) = False := eq_false fun h => by have := (nI_eq (by omega) (by decide)).mp h; omega
  have f2 : ¬ nI N < 0 := nI_nlt (b := 0) (by omega) (by omega)
  have f3 : (nI N).toNatClampNeg = N := nI_clamp (by omega)
  have f4 : (if nI N < nI 120 then nI N else nI 120) = nI N := if_pos (nI_lt hN (by decide))
  have f5 : N < 65536 := by omega
  have f6 : N ≤ 120 := by omega
  have u1 : ab_ty (ab_mk g 1 N) 60 = 1 := by rw [ty_mk, if_neg (by omega)]; exact t60
  have u2 : ab_ln (ab_mk g 1 N) 60 = 120 := by rw [ln_mk, if_neg (by omega)]; exact l60
  have u3 : ab_ty (ab_mk g 1 N) (ab_n g) = 1 := ab_mk_ty
  have u4 : ab_ln (ab_mk g 1 N) (ab_n g) = N := ab_mk_ln
  have u5 : 29 ≤ ab_n g := by omega
  have u6 : ¬ (0 : Int32) < 0 := by decide
  simp (disch := decide) only [k49_0, k49_1, k49_2, k49_3, k49_6, k49_14, k49_15, k49_17, k49_18, k49_19, k49_20, k49_21, k49_22, k49_23, k49_24, k49_25, k49_28, k49_31, k49_32, ab_inv_I, ab_inv_R, ab_inv_L, ab_inv_0, ab_push_some, ab_push_none, ab_E_sw, ab_E_sw0, true_and, and_true, not_false_eq_true, bit_ite, s2, s3, s4, s5, s7, qi_ite2, ab_bit0, ab_bit1, qi_ite, ql_ite, Nat.reduceLeDiff, d128, d16, d8, d4, d1000, d100, d10, if_true, if_false, ite_self, tn0, tn1, tn2, tn3, tn4, tn5, tn6, tn7, tn8, tn9, tn10, tn11, tn12, tn13, tn14, tn15, tn16, tn17, tn18, tn19, Nat.reduceAdd, Nat.reduceLeDiff, Nat.zero_add, Nat.add_zero, Int32.reduceAdd, Int32.reduceMul, Int32.reduceSub, Int32.reduceDiv, Int32.reduceLT, Int32.reduceLE, Int32.reduceToNatClampNeg, i10, i01, ↓reduceIte, if_true, if_false, t60, l60, ty1a, ty1b, f1, f2, f3, f4, f5, f6, u1, u2, u3, u4, u5, u6, c_Math_min, Nat.le_refl, true_or, hQ]
set_option maxRecDepth 20000 in
theorem c_takeText {x : Nat × Nat × Int32 × Int32} (hg : gx g) (hn : n ≤ 120) (hE : EVc SL xs g b n I) (hC : CT b n I x) (hx : tOK n x) (h1 : 1 ≤ x.1) (hQ1 : ∀ I', dfr [56, 60] [] I I' → CT b n I' ((lev b n 8).1 x).2.1 → ¬ ((lev b n 8).1 x).1 = true → Q (some (vR none)) g I' J) (hQ2 : ∀ g' I' J', nt g g' I I' J J' ((lev b n 8).1 x).2.2 → CT b n I' ((lev b n 8).1 x).2.1 → ((lev b n 8).1 x).1 = true → Q (some (vR (some (ab_n g)))) g' I' J') : ab_run (d + 45) 43 [vR (some 56)] g I J Q := by
  have hn128 : 128 ≤ ab_n g := hg.2.2
  have hL := (CO_lev (SL := SL) (xs := xs) (g := g) (J := J) (b := b) hg hn 8 (by decide)).1
  have g1 := (GD_lev (b := b) hn 8).1 x hx
  rw [e43]
  simp (disch := decide) only [k43_0, k43_1, k43_2, k43_5, k43_6, k43_7, k43_10, k43_13, k43_16, k43_17, k43_18, k43_21, k43_22, k43_25, k43_28, k43_31, k43_34, k43_35, gl100 hg, gl31 hg, gl32 hg, gl33 hg, gl34 hg, gl35 hg, gl36 hg, gl37 hg, gl38 hg, gl39 hg, gl40 hg, gl41 hg, gl43 hg, gl44 hg, gl45 hg, gl46 hg, gl47 hg, gl48 hg, gl49 hg, gl50 hg, gl51 hg, gl52 hg, gl53 hg, gl55 hg, gl57 hg, gl58 hg, gl59 hg, gl60 hg, gl62 hg, gl63 hg, gl64 hg, gl65 hg, gl66 hg, gl68 hg, gl69 hg, gl70 hg, gl71 hg, gl73 hg, gl74 hg, gl75 hg, gl76 hg, gl78 hg, gl79 hg, gl80 hg, gl81 hg, gl82 hg, gl83 hg, gl84 hg, gl85 hg, gl86 hg, gl87 hg, gl89 hg, gl90 hg, gl91 hg, gl93 hg, gl95 hg, gl97 hg, gl99 hg, gr29_0 hg, gr29_1 hg, gr29_10 hg, gr29_11 hg, gr29_3 hg, gr29_4 hg, gr29_5 hg, gr29_6 hg, gr29_7 hg, gr29_8 hg, gr29_9 hg, gr30_0 hg, gr30_1 hg, gr30_2 hg, gr30_3 hg, gr30_4 hg, gr30_5 hg, gr30_6 hg, gr32_0 hg, gr32_1 hg, gr36_0 hg, gr36_1 hg, gr42_0 hg, gr42_1 hg, gr42_2 hg, gr42_3 hg, gr42_4 hg, gr42_5 hg, gr42_6 hg, gr44_0 hg, gr44_1 hg, gr48_0 hg, gr48_1 hg, gr54_0 hg, gr56_0 hg, gr56_1 hg, gr56_2 hg, gr56_3 hg, gr56_6 hg, gr61_0 hg, gr61_1 hg, gr61_2 hg, gr61_3 hg, gr61_4 hg, gr67_0 hg, gr68_0 hg, gr68_1 hg, gr68_2 hg, gr72_0 hg, gr73_0 hg, gr73_1 hg, gr73_2 hg, gr77_0 hg, gr77_1 hg, gr77_4 hg, gr77_5 hg, gr78_0 hg, gr78_1 hg, gr82_0 hg, gr82_1 hg, gr85_0 hg, gr85_1 hg, gr88_0 hg, gr88_1 hg, gr91_0 hg, gr91_1 hg, gr91_2 hg, gr91_3 hg, gr92_0 hg, gr94_0 hg, gr96_0 hg, gr98_0 hg, gt100 hg, gt29 hg, gt30 hg, gt31 hg, gt32 hg, gt33 hg, gt34 hg, gt35 hg, gt36 hg, gt37 hg, gt38 hg, gt39 hg, gt40 hg, gt41 hg, gt42 hg, gt43 hg, gt44 hg, gt45 hg, gt46 hg, gt47 hg, gt48 hg, gt49 hg, gt50 hg, gt51 hg, gt52 hg, gt53 hg, gt54 hg, gt55 hg, gt56 hg, gt57 hg, gt58 hg, gt59 hg, gt60 hg, gt61 hg, gt62 hg, gt63 hg, gt64 hg, gt65 hg, gt66 hg, gt67 hg, gt68 hg, gt69 hg, gt70 hg, gt71 hg, gt72 hg, gt73 hg, gt74 hg, gt75 hg, gt76 hg, gt77 hg, gt78 hg, gt79 hg, gt80 hg, gt81 hg, gt82 hg, gt83 hg, gt84 hg, gt85 hg, gt86 hg, gt87 hg, gt88 hg, gt89 hg, gt90 hg, gt91 hg, gt92 hg, gt93 hg, gt94 hg, gt95 hg, gt96 hg, gt97 hg, gt98 hg, gt99 hg, ab_inv_I, ab_inv_R, ab_inv_L, ab_inv_0, ab_push_some, ab_push_none, ab_E_sw, ab_E_sw0, true_and, and_true, not_false_eq_true, bit_ite, s2, s3, s4, s5, s7, qi_ite2, ab_bit0, ab_bit1, qi_ite, ql_ite, Nat.reduceLeDiff, d128, d16, d8, d4, d1000, d100, d10, if_true, if_false, ite_self, tn0, tn1, tn2, tn3, tn4, tn5, tn6, tn7, tn8, tn9, tn10, tn11, tn12, tn13, tn14, tn15, tn16, tn17, tn18, tn19, up_ne, up_row, fr_ne, fr_eq, Int32.reduceAdd, Int32.reduceMul, Int32.reduceSub, Int32.reduceDiv, Int32.reduceLT, Int32.reduceLE, Int32.reduceToNatClampNeg, i10, i01, ↓reduceIte, if_true, if_false, Nat.reduceAdd, Nat.reduceLeDiff, Nat.zero_add, Nat.add_zero]
  have D0 : dfr [56, 60] [] I (ab_up I 56 7 0) := dfr_up (by decide) (by decide)
  have C0 : CT b n (ab_up I 56 7 0) x := CT_ext (by rw [up_row, fr_ne (by decide)]) (by rw [up_row, fr_ne (by decide)]) (up_ne (by decide)) (up_ne (by decide)) (up_ne (by decide)) hC
  refine hL d _ x 0 _ (EVc_d D0 (by decide) hE) C0 hx (by rw [up_row, fr_eq]; rfl) (by omega) fun I1 D1 C1 k1 m1 => ?_
  have D01 := dfr_trans D0 D1
  generalize (lev b n 8).1 x = r at *
  by_cases c : ¬ r.1 = true
  · rw [if_neg c]
    simp (disch := decide) only [k43_0, k43_1, k43_2, k43_5, k43_6, k43_7, k43_10, k43_13, k43_16, k43_17, k43_18, k43_21, k43_22, k43_25, k43_28, k43_31, k43_34, k43_35, gl100 hg, gl31 hg, gl32 hg, gl33 hg, gl34 hg, gl35 hg, gl36 hg, gl37 hg, gl38 hg, gl39 hg, gl40 hg, gl41 hg, gl43 hg, gl44 hg, gl45 hg, gl46 hg, gl47 hg, gl48 hg, gl49 hg, gl50 hg, gl51 hg, gl52 hg, gl53 hg, gl55 hg, gl57 hg, gl58 hg, gl59 hg, gl60 hg, gl62 hg, gl63 hg, gl64 hg, gl65 hg, gl66 hg, gl68 hg, gl69 hg, gl70 hg, gl71 hg, gl73 hg, gl74 hg, gl75 hg, gl76 hg, gl78 hg, gl79 hg, gl80 hg, gl81 hg, gl82 hg, gl83 hg, gl84 hg, gl85 hg, gl86 hg, gl87 hg, gl89 hg, gl90 hg, gl91 hg, gl93 hg, gl95 hg, gl97 hg, gl99 hg, gr29_0 hg, gr29_1 hg, gr29_10 hg, gr29_11 hg, gr29_3 hg, gr29_4 hg, gr29_5 hg, gr29_6 hg, gr29_7 hg, gr29_8 hg, gr29_9 hg, gr30_0 hg, gr30_1 hg, gr30_2 hg, gr30_3 hg, gr30_4 hg, gr30_5 hg, gr30_6 hg, gr32_0 hg, gr32_1 hg, gr36_0 hg, gr36_1 hg, gr42_0 hg, gr42_1 hg, gr42_2 hg, gr42_3 hg, gr42_4 hg, gr42_5 hg, gr42_6 hg, gr44_0 hg, gr44_1 hg, gr48_0 hg, gr48_1 hg, gr54_0 hg, gr56_0 hg, gr56_1 hg, gr56_2 hg, gr56_3 hg, gr56_6 hg, gr61_0 hg, gr61_1 hg, gr61_2 hg, gr61_3 hg, gr61_4 hg, gr67_0 hg, gr68_0 hg, gr68_1 hg, gr68_2 hg, gr72_0 hg, gr73_0 hg, gr73_1 hg, gr73_2 hg, gr77_0 hg, gr77_1 hg, gr77_4 hg, gr77_5 hg, gr78_0 hg, gr78_1 hg, gr82_0 hg, gr82_1 hg, gr85_0 hg, gr85_1 hg, gr88_0 hg, gr88_1 hg, gr91_0 hg, gr91_1 hg, gr91_2 hg, gr91_3 hg, gr92_0 hg, gr94_0 hg, gr96_0 hg, gr98_0 hg, gt100 hg, gt29 hg, gt30 hg, gt31 hg, gt32 hg, gt33 hg, gt34 hg, gt35 hg, gt36 hg, gt37 hg, gt38 hg, gt39 hg, gt40 hg, gt41 hg, gt42 hg, gt43 hg, gt44 hg, gt45 hg, gt46 hg, gt47 hg, gt48 hg, gt49 hg, gt50 hg, gt51 hg, gt52 hg, gt53 hg, gt54 hg, gt55 hg, gt56 hg, gt57 hg, gt58 hg, gt59 hg, gt60 hg, gt61 hg, gt62 hg, gt63 hg, gt64 hg, gt65 hg, gt66 hg, gt67 hg, gt68 hg, gt69 hg, gt70 hg, gt71 hg, gt72 hg, gt73 hg, gt74 hg, gt75 hg, gt76 hg, gt77 hg, gt78 hg, gt79 hg, gt80 hg, gt81 hg, gt82 hg, gt83 hg, gt84 hg, gt85 hg, gt86 hg, gt87 hg, gt88 hg, gt89 hg, gt90 hg, gt91 hg, gt92 hg, gt93 hg, gt94 hg, gt95 hg, gt96 hg, gt97 hg, gt98 hg, gt99 hg, ab_inv_I, ab_inv_R, ab_inv_L, ab_inv_0, ab_push_some, ab_push_none, ab_E_sw, ab_E_sw0, true_and, and_true, not_false_eq_true, bit_ite, s2, s3, s4, s5, s7, qi_ite2, ab_bit0, ab_bit1, qi_ite, ql_ite, Nat.reduceLeDiff, d128, d16, d8, d4, d1000, d100, d10, if_true, if_false, ite_self, tn0, tn1, tn2, tn3, tn4, tn5, tn6, tn7, tn8, tn9, tn10, tn11, tn12, tn13, tn14, tn15, tn16, tn17, tn18, tn19, up_ne, up_row, fr_ne, fr_eq, Int32.reduceAdd, Int32.reduceMul, Int32.reduceSub, Int32.reduceDiv, Int32.reduceLT, Int32.reduceLE, Int32.reduceToNatClampNeg, i10, i01, ↓reduceIte, if_true, if_false, Nat.reduceAdd, Nat.reduceLeDiff, Nat.zero_add, Nat.add_zero, i02, i03, i04, i05, i06, i07, i12, i13, i14, i15, i16, i17, i20, i21, i23, i24, i25, i26, i27, i30, i31, i32, i34, i35, i36, i37, i40, i41, i42, i43, i45, i46, i47, i50, i51, i52, i53, i54, i56, i57, i60, i61, i62, i63, i64, i65, i67, i70, i71, i72, i73, i74, i75, i76, i10, i01]
    exact hQ1 I1 D01 C1 c
  have c := Classical.byContradiction c
  rw [if_pos c]
  have hlen : r.2.2.length < 120 := by have := g1.1.2.1; have := g1.1.1.1; omega
  have k1' : I1 56 7 = nI r.2.2.length := by rw [k1]; congr 1; omega
  have e59 : ab_n g ≠ 56 := by omega
  have n59 : 56 ≠ ab_n g := by omega
  have n60 : 60 ≠ ab_n g := by omega
  have n57 : 54 ≠ ab_n g := by omega
  have z59 : ab_z I1 (ab_n g) (ab_n g + 1) 0 56 = I1 56 := z_ne (by omega)
  have t59 : ab_ty (ab_mk g 19 0) 56 = 13 := by rw [ty_mk, if_neg n59]; exact gt56 hg
  have r59 : ab_R (ab_mk g 19 0) 56 6 = some 60 := by rw [R_mk_ne n59]; exact gr56_6 hg
  have t60 : ab_ty (ab_mk g 19 0) 60 = 1 := by rw [ty_mk, if_neg n60]; exact gt60 hg
  have l60 : ab_ln (ab_mk g 19 0) 60 = 120 := by rw [ln_mk, if_neg n60]; exact gl60 hg
  simp (disch := decide) only [k43_0, k43_1, k43_2, k43_5, k43_6, k43_7, k43_10, k43_13, k43_16, k43_17, k43_18, k43_21, k43_22, k43_25, k43_28, k43_31, k43_34, k43_35, ab_inv_I, ab_inv_R, ab_inv_L, ab_inv_0, ab_push_some, ab_push_none, ab_E_sw, ab_E_sw0, true_and, and_true, not_false_eq_true, bit_ite, s2, s3, s4, s5, s7, qi_ite2, ab_bit0, ab_bit1, qi_ite, ql_ite, Nat.reduceLeDiff, d128, d16, d8, d4, d1000, d100, d10, if_true, if_false, ite_self, tn0, tn1, tn2, tn3, tn4, tn5, tn6, tn7, tn8, tn9, tn10, tn11, tn12, tn13, tn14, tn15, tn16, tn17, tn18, tn19, Nat.reduceAdd, Nat.reduceLeDiff, Nat.zero_add, Nat.add_zero, Int32.reduceAdd, Int32.reduceMul, Int32.reduceSub, Int32.reduceDiv, Int32.reduceLT, Int32.reduceLE, Int32.reduceToNatClampNeg, i10, i01, ↓reduceIte, if_true, if_false, i02, i03, i04, i05, i06, i07, i12, i13, i14, i15, i16, i17, i20, i21, i23, i24, i25, i26, i27, i30, i31, i32, i34, i35, i36, i37, i40, i41, i42, i43, i45, i46, i47, i50, i51, i52, i53, i54, i56, i57, i60, i61, i62, i63, i64, i65, i67, i70, i71, i72, i73, i74, i75, i76, i10, i01, z59, t59, r59, k1']
  have m128 : 128 ≤ ab_n (ab_mk g 19 0) := by rw [n_mk]; omega
  refine c_copyOf m128 t60 l60 hlen ?_
  have u1 : ab_ty (ab_mk (ab_mk g 19 0) 1 r.2.2.length) (ab_n g) = 19 := by rw [ty_mk, n_mk, if_neg (by omega), ty_mk, if_pos rfl]
  have u5 : 29 ≤ ab_n g := by omega
  simp (disch := decide) only [k43_0, k43_1, k43_2, k43_5, k43_6, k43_7, k43_10, k43_13, k43_16, k43_17, k43_18, k43_21, k43_22, k43_25, k43_28, k43_31, k43_34, k43_35, e50, k50_0, k50_1, k50_4, k50_5, k50_6, k50_9, ab_inv_I, ab_inv_R, ab_inv_L, ab_inv_0, ab_push_some, ab_push_none, ab_E_sw, ab_E_sw0, true_and, and_true, not_false_eq_true, bit_ite, s2, s3, s4, s5, s7, qi_ite2, ab_bit0, ab_bit1, qi_ite, ql_ite, Nat.reduceLeDiff, d128, d16, d8, d4, d1000, d100, d10, if_true, if_false, ite_self, tn0, tn1, tn2, tn3, tn4, tn5, tn6, tn7, tn8, tn9, tn10, tn11, tn12, tn13, tn14, tn15, tn16, tn17, tn18, tn19, Nat.reduceAdd, Nat.reduceLeDiff, Nat.zero_add, Nat.add_zero, Int32.reduceAdd, Int32.reduceMul, Int32.reduceSub, Int32.reduceDiv, Int32.reduceLT, Int32.reduceLE, Int32.reduceToNatClampNeg, i10, i01, ↓reduceIte, if_true, if_false, u1, u5]
  have nm : ab_n (ab_mk g 19 0) = ab_n g + 1 := rfl
  refine hQ2 _ _ _ ⟨rfl, ⟨?_, ?_, ?_, ?_, fun j hj => ?_⟩, fun k hk => ⟨?_, ?_, ?_, ?_⟩, fun k hk hk2 => ?_, fun k hk => ?_⟩ ?_ c
  · rw [ty_set]; exact u1
  · rw [R_set_row, fr_eq, nm]
  · rw [ty_set, ty_mk, nm, if_pos rfl]
  · rw [ln_set, ln_mk, nm, if_pos rfl]
  · rw [nm]
    unfold ab_cp
    rw [if_pos ⟨rfl, by omega, by omega⟩]
    rw [z_ne (by omega), z_ne (by omega), ← m1.2 j hj, Nat.sub_zero]
  · rw [ty_set, ty_mk, nm, if_neg (by omega), ty_mk, if_neg (by omega)]
  · rw [ln_set, ln_mk, nm, if_neg (by omega), ln_mk, if_neg (by omega)]
  · rw [R_set_ne (by omega), R_mk_ne (by rw [nm]; omega), R_mk_ne (by omega)]
  · rw [nm, z_ne (by omega), z_ne (by omega)]
  · rw [nm]
    funext y
    unfold ab_cp
    rw [if_neg (by omega), z_ne (by omega), z_ne (by omega), dfr_row D01 (by simp only [List.mem_cons, List.not_mem_nil, or_false]; omega)]
  · rw [ty_set, ty_mk, nm, if_neg (by omega), ty_mk, if_neg (by omega)]
  · have e : ∀ a y, a < ab_n g → (ab_cp (ab_z (ab_z I1 (ab_n g) (ab_n g + 1) 0) (ab_n (ab_mk g 19 0)) (ab_n (ab_mk g 19 0) + 1) 0) 60 0 (ab_n (ab_mk g 19 0)) 0 r.2.2.length) a y = I1 a y := fun a y ha => by
      rw [nm]; unfold ab_cp
      rw [if_neg (by omega), z_ne (by omega), z_ne (by omega)]
    exact CT_ext (e 56 4 (by omega)) (e 56 5 (by omega)) (funext fun y => e 57 y (by omega)) (funext fun y => e 58 y (by omega)) (funext fun y => e 59 y (by omega)) C1
end P66
