/-! ===== the law's loop ===== -/
/-- what the law reads at a state -/
theorem lg_self (x : Int64) : lg_cmp x x = 0 := by unfold lg_cmp; simp
def lwS (SL : Nat) (xs : Nat → Int32) (g : ab_G) (I : ab_I) : Prop := (ab_ty g 10 = 1 ∧ ab_ln g 10 = SL ∧ ab_ty g 29 = 10 ∧ ab_ty g 101 = 21) ∧ (∀ j, I 10 j = xs j) ∧ 29 ≤ ab_n g
theorem REL_lw {SL : Nat} {xs : Nat → Int32} {g : ab_G} {I : ab_I} {J : ab_J} (hR : REL SL xs g I J) : lwS SL xs g I := by
  have a := hR.1.2.2.1 10 (by decide)
  have hn : 128 ≤ ab_n g := hR.1.1.2.2
  exact ⟨⟨a.1, a.2.1, gt29 hR.1.1, gt101 hR.1.1⟩, fun j => by rw [a.2.2.2]; rfl, by omega⟩
theorem kp_lw {SL : Nat} {xs : Nat → Int32} {g g' : ab_G} {I I' : ab_I} {J : ab_J} (hR : REL SL xs g I J) (K : kp g I g' I') : lwS SL xs g' I' := by
  have h := REL_lw hR
  have hn : 128 ≤ ab_n g := hR.1.1.2.2
  refine ⟨⟨?_, ?_, ?_, ?_⟩, fun j => ?_, Nat.le_trans h.2.2 K.1.2⟩
  · rw [(K.2.1 10 (by omega)).1]; exact h.1.1
  · rw [(K.2.1 10 (by omega)).2]; exact h.1.2.1
  · rw [(K.2.1 29 (by omega)).1]; exact h.1.2.2.1
  · rw [(K.2.1 101 (by omega)).1]; exact h.1.2.2.2
  · rw [(K.2.2 10 (by decide)).2]; exact h.2.1 j
section P78
variable {SL i ce sl : Nat} {xs : Nat → Int32} {g : ab_G} {I : ab_I} {J : ab_J} {Q : ab_Q}
set_option maxRecDepth 20000 in
theorem cs_0_law (hR : REL SL xs g I J) (hi : i + 6 ≤ SL) (hS : SL ≤ 384) (hce : ce + 5 ≤ 600000) (hsl : sl + 257 ≤ 7302249) (hQ : ∀ g' I' J' ce' sl', REL SL xs g' I' J' → ce' ≤ ce + 5 → sl' ≤ sl + 257 → ab_E 100 259 1539 [some (vR (some 10)), some (vR (some 29)), some (vR (some 101)), some (vI (nI i))] [] ce' sl' g' I' J' Q) : ab_E 100 259 216 [some (vR (some 10)), some (vR (some 29)), some (vR (some 101)), some (vI (nI i))] [] ce sl g I J Q := by
  have h := REL_lw hR
  obtain ⟨⟨h1, h2, h3, h4⟩, h5, h6⟩ := h
  have u1 : ce ≤ 600000 := by omega
  have u2 : sl ≤ 7302249 := by omega
  have a1 : nI i + 1 = nI (i + 1) := nI_add i 1
  have v1' : vp_in (nI (i + 1)) SL := vp_in_nI (by omega) (by omega)
  have w1' : (nI (i + 1)).toNatClampNeg = i + 1 := nI_clamp (by omega)
  have a2 : nI i + 2 = nI (i + 2) := nI_add i 2
  have v2' : vp_in (nI (i + 2)) SL := vp_in_nI (by omega) (by omega)
  have w2' : (nI (i + 2)).toNatClampNeg = i + 2 := nI_clamp (by omega)
  simp only [k259_216, k259_217, k259_218, k259_219, k259_220, k259_221, k259_222, k259_223, k259_224, k259_225, k259_226, k259_227, ab_inv_I, ab_inv_R, ab_inv_L, ab_inv_0, ab_push_some, ab_push_none, ab_E_sw, ab_E_sw0, true_and, and_true, not_false_eq_true, a1, v1', w1', a2, v2', w2', h1, h2, h3, h5, u1, u2, Int32.reduceAdd, Int32.reduceMul, Int32.reduceSub, Int32.reduceDiv, Int32.reduceLT, Int32.reduceLE, Int32.reduceToNatClampNeg, i10, i01, ↓reduceIte, if_true, if_false]
  refine prI (d := 99) h6 r9 (p_care (d := 98) hR) fun x g1 I1 J1 K hM => ?_
  obtain ⟨⟨h1, h2, h3, h4⟩, h5, h6⟩ := kp_lw hR K
  simp only [k259_230, k259_231, k259_232, k259_233, k259_234, k259_235, k259_236, k259_237, k259_238, k259_239, k259_240, k259_241, ab_inv_I, ab_inv_R, ab_inv_L, ab_inv_0, ab_push_some, ab_push_none, ab_E_sw, ab_E_sw0, true_and, and_true, not_false_eq_true, a1, v1', w1', a2, v2', w2', h1, h2, h4, h5, u1, u2, Int32.reduceAdd, Int32.reduceMul, Int32.reduceSub, Int32.reduceDiv, Int32.reduceLT, Int32.reduceLE, Int32.reduceToNatClampNeg, i10, i01, ↓reduceIte, if_true, if_false]
  refine ab_run_m _ _ _ _ _ _ _ _ (fun r g2 I2 J2 z => ?_) hM
  obtain ⟨z1, z2⟩ := z
  subst z1
  simp only [k259_244, ab_inv_I, ab_inv_R, ab_inv_L, ab_inv_0, ab_push_some, ab_push_none, ab_E_sw, ab_E_sw0, true_and, and_true, not_false_eq_true, lg_self, if_true]
  exact hQ g2 I2 J2 _ _ z2 (by omega) (by omega)
set_option maxRecDepth 20000 in
theorem cs_1_law (hR : REL SL xs g I J) (hi : i + 6 ≤ SL) (hS : SL ≤ 384) (hce : ce + 5 ≤ 600000) (hsl : sl + 257 ≤ 7302249) (hQ : ∀ g' I' J' ce' sl', REL SL xs g' I' J' → ce' ≤ ce + 5 → sl' ≤ sl + 257 → ab_E 100 259 1539 [some (vR (some 10)), some (vR (some 29)), some (vR (some 101)), some (vI (nI i))] [] ce' sl' g' I' J' Q) : ab_E 100 259 249 [some (vR (some 10)), some (vR (some 29)), some (vR (some 101)), some (vI (nI i))] [] ce sl g I J Q := by
  have h := REL_lw hR
  obtain ⟨⟨h1, h2, h3, h4⟩, h5, h6⟩ := h
  have u1 : ce ≤ 600000 := by omega
  have u2 : sl ≤ 7302249 := by omega
  have a1 : nI i + 1 = nI (i + 1) := nI_add i 1
  have v1' : vp_in (nI (i + 1)) SL := vp_in_nI (by omega) (by omega)
  have w1' : (nI (i + 1)).toNatClampNeg = i + 1 := nI_clamp (by omega)
  have a2 : nI i + 2 = nI (i + 2) := nI_add i 2
  have v2' : vp_in (nI (i + 2)) SL := vp_in_nI (by omega) (by omega)
  have w2' : (nI (i + 2)).toNatClampNeg = i + 2 := nI_clamp (by omega)
  simp only [k259_249, k259_250, k259_251, k259_252, k259_253, k259_254, k259_255, k259_256, k259_257, k259_258, k259_259, k259_260, ab_inv_I, ab_inv_R, ab_inv_L, ab_inv_0, ab_push_some, ab_push_none, ab_E_sw, ab_E_sw0, true_and, and_true, not_false_eq_true, a1, v1', w1', a2, v2', w2', h1, h2, h3, h5, u1, u2, Int32.reduceAdd, Int32.reduceMul, Int32.reduceSub, Int32.reduceDiv, Int32.reduceLT, Int32.reduceLE, Int32.reduceToNatClampNeg, i10, i01, ↓reduceIte, if_true, if_false]
  refine prI (d := 99) h6 r13 (p_going (d := 98) hR) fun x g1 I1 J1 K hM => ?_
  obtain ⟨⟨h1, h2, h3, h4⟩, h5, h6⟩ := kp_lw hR K
  simp only [k259_263, k259_264, k259_265, k259_266, k259_267, k259_268, k259_269, k259_270, k259_271, k259_272, k259_273, k259_274, ab_inv_I, ab_inv_R, ab_inv_L, ab_inv_0, ab_push_some, ab_push_none, ab_E_sw, ab_E_sw0, true_and, and_true, not_false_eq_true, a1, v1', w1', a2, v2', w2', h1, h2, h4, h5, u1, u2, Int32.reduceAdd, Int32.reduceMul, Int32.reduceSub, Int32.reduceDiv, Int32.reduceLT, Int32.reduceLE, Int32.reduceToNatClampNeg, i10, i01, ↓reduceIte, if_true, if_false]
  refine ab_run_m _ _ _ _ _ _ _ _ (fun r g2 I2 J2 z => ?_) hM
  obtain ⟨z1, z2⟩ := z
  subst z1
  simp only [k259_277, ab_inv_I, ab_inv_R, ab_inv_L, ab_inv_0, ab_push_some, ab_push_none, ab_E_sw, ab_E_sw0, true_and, and_true, not_false_eq_true, lg_self, if_true]
  exact hQ g2 I2 J2 _ _ z2 (by omega) (by omega)
set_option maxRecDepth 20000 in
theorem cs_2_law (hR : REL SL xs g I J) (hi : i + 6 ≤ SL) (hS : SL ≤ 384) (hce : ce + 5 ≤ 600000) (hsl : sl + 257 ≤ 7302249) (hQ : ∀ g' I' J' ce' sl', REL SL xs g' I' J' → ce' ≤ ce + 5 → sl' ≤ sl + 257 → ab_E 100 259 1539 [some (vR (some 10)), some (vR (some 29)), some (vR (some 101)), some (vI (nI i))] [] ce' sl' g' I' J' Q) : ab_E 100 259 282 [some (vR (some 10)), some (vR (some 29)), some (vR (some 101)), some (vI (nI i))] [] ce sl g I J Q := by
  have h := REL_lw hR
  obtain ⟨⟨h1, h2, h3, h4⟩, h5, h6⟩ := h
  have u1 : ce ≤ 600000 := by omega
  have u2 : sl ≤ 7302249 := by omega
  have a1 : nI i + 1 = nI (i + 1) := nI_add i 1
  have v1' : vp_in (nI (i + 1)) SL := vp_in_nI (by omega) (by omega)
  have w1' : (nI (i + 1)).toNatClampNeg = i + 1 := nI_clamp (by omega)
  have a2 : nI i + 2 = nI (i + 2) := nI_add i 2
  have v2' : vp_in (nI (i + 2)) SL := vp_in_nI (by omega) (by omega)
  have w2' : (nI (i + 2)).toNatClampNeg = i + 2 := nI_clamp (by omega)
  simp only [k259_282, k259_283, k259_284, k259_285, k259_286, k259_287, k259_288, k259_289, k259_290, k259_291, k259_292, k259_293, ab_inv_I, ab_inv_R, ab_inv_L, ab_inv_0, ab_push_some, ab_push_none, ab_E_sw, ab_E_sw0, true_and, and_true, not_false_eq_true, a1, v1', w1', a2, v2', w2', h1, h2, h3, h5, u1, u2, Int32.reduceAdd, Int32.reduceMul, Int32.reduceSub, Int32.reduceDiv, Int32.reduceLT, Int32.reduceLE, Int32.reduceToNatClampNeg, i10, i01, ↓reduceIte, if_true, if_false]
  refine prI (d := 99) h6 r14 (p_feed (d := 97) hR) fun x g1 I1 J1 K hM => ?_
  obtain ⟨⟨h1, h2, h3, h4⟩, h5, h6⟩ := kp_lw hR K
  simp only [k259_296, k259_297, k259_298, k259_299, k259_300, k259_301, k259_302, k259_303, k259_304, k259_305, k259_306, k259_307, ab_inv_I, ab_inv_R, ab_inv_L, ab_inv_0, ab_push_some, ab_push_none, ab_E_sw, ab_E_sw0, true_and, and_true, not_false_eq_true, a1, v1', w1', a2, v2', w2', h1, h2, h4, h5, u1, u2, Int32.reduceAdd, Int32.reduceMul, Int32.reduceSub, Int32.reduceDiv, Int32.reduceLT, Int32.reduceLE, Int32.reduceToNatClampNeg, i10, i01, ↓reduceIte, if_true, if_false]
  refine ab_run_m _ _ _ _ _ _ _ _ (fun r g2 I2 J2 z => ?_) hM
  obtain ⟨z1, z2⟩ := z
  subst z1
  simp only [k259_310, ab_inv_I, ab_inv_R, ab_inv_L, ab_inv_0, ab_push_some, ab_push_none, ab_E_sw, ab_E_sw0, true_and, and_true, not_false_eq_true, lg_self, if_true]
  exact hQ g2 I2 J2 _ _ z2 (by omega) (by omega)
set_option maxRecDepth 20000 in
theorem cs_3_law (hR : REL SL xs g I J) (hi : i + 6 ≤ SL) (hS : SL ≤ 384) (hce : ce + 5 ≤ 600000) (hsl : sl + 257 ≤ 7302249) (hQ : ∀ g' I' J' ce' sl', REL SL xs g' I' J' → ce' ≤ ce + 5 → sl' ≤ sl + 257 → ab_E 100 259 1539 [some (vR (some 10)), some (vR (some 29)), some (vR (some 101)), some (vI (nI i))] [] ce' sl' g' I' J' Q) : ab_E 100 259 315 [some (vR (some 10)), some (vR (some 29)), some (vR (some 101)), some (vI (nI i))] [] ce sl g I J Q := by
  have h := REL_lw hR
  obtain ⟨⟨h1, h2, h3, h4⟩, h5, h6⟩ := h
  have u1 : ce ≤ 600000 := by omega
  have u2 : sl ≤ 7302249 := by omega
  simp only [k259_315, k259_316, ab_inv_I, ab_inv_R, ab_inv_L, ab_inv_0, ab_push_some, ab_push_none, ab_E_sw, ab_E_sw0, true_and, and_true, not_false_eq_true, h1, h2, h3, h5, u1, u2, Int32.reduceAdd, Int32.reduceMul, Int32.reduceSub, Int32.reduceDiv, Int32.reduceLT, Int32.reduceLE, Int32.reduceToNatClampNeg, i10, i01, ↓reduceIte, if_true, if_false]
  refine prI (d := 99) h6 r16 (p_wipe (d := 98) hR) fun x g1 I1 J1 K hM => ?_
  obtain ⟨⟨h1, h2, h3, h4⟩, h5, h6⟩ := kp_lw hR K
  simp only [k259_319, k259_320, ab_inv_I, ab_inv_R, ab_inv_L, ab_inv_0, ab_push_some, ab_push_none, ab_E_sw, ab_E_sw0, true_and, and_true, not_false_eq_true, h1, h2, h4, h5, u1, u2, Int32.reduceAdd, Int32.reduceMul, Int32.reduceSub, Int32.reduceDiv, Int32.reduceLT, Int32.reduceLE, Int32.reduceToNatClampNeg, i10, i01, ↓reduceIte, if_true, if_false]
  refine ab_run_m _ _ _ _ _ _ _ _ (fun r g2 I2 J2 z => ?_) hM
  obtain ⟨z1, z2⟩ := z
  subst z1
  simp only [k259_323, ab_inv_I, ab_inv_R, ab_inv_L, ab_inv_0, ab_push_some, ab_push_none, ab_E_sw, ab_E_sw0, true_and, and_true, not_false_eq_true, lg_self, if_true]
  exact hQ g2 I2 J2 _ _ z2 (by omega) (by omega)
set_option maxRecDepth 20000 in
theorem cs_4_law (hR : REL SL xs g I J) (hi : i + 6 ≤ SL) (hS : SL ≤ 384) (hce : ce + 5 ≤ 600000) (hsl : sl + 257 ≤ 7302249) (hQ : ∀ g' I' J' ce' sl', REL SL xs g' I' J' → ce' ≤ ce + 5 → sl' ≤ sl + 257 → ab_E 100 259 1539 [some (vR (some 10)), some (vR (some 29)), some (vR (some 101)), some (vI (nI i))] [] ce' sl' g' I' J' Q) : ab_E 100 259 328 [some (vR (some 10)), some (vR (some 29)), some (vR (some 101)), some (vI (nI i))] [] ce sl g I J Q := by
  have h := REL_lw hR
  obtain ⟨⟨h1, h2, h3, h4⟩, h5, h6⟩ := h
  have u1 : ce + 5 ≤ 600000 := by omega
  have u2 : sl + 244 ≤ 7302249 := by omega
  simp only [k259_328, k259_329, ab_inv_I, ab_inv_R, ab_inv_L, ab_inv_0, ab_push_some, ab_push_none, ab_E_sw, ab_E_sw0, true_and, and_true, not_false_eq_true, h1, h2, h3, h5, u1, u2, Int32.reduceAdd, Int32.reduceMul, Int32.reduceSub, Int32.reduceDiv, Int32.reduceLT, Int32.reduceLE, Int32.reduceToNatClampNeg, i10, i01, ↓reduceIte, if_true, if_false]
  refine prI (d := 99) h6 r18 (p_harm (d := 53) hR) fun x g1 I1 J1 K hM => ?_
  obtain ⟨⟨h1, h2, h3, h4⟩, h5, h6⟩ := kp_lw hR K
  simp only [k259_332, k259_333, ab_inv_I, ab_inv_R, ab_inv_L, ab_inv_0, ab_push_some, ab_push_none, ab_E_sw, ab_E_sw0, true_and, and_true, not_false_eq_true, h1, h2, h4, h5, u1, u2, Int32.reduceAdd, Int32.reduceMul, Int32.reduceSub, Int32.reduceDiv, Int32.reduceLT, Int32.reduceLE, Int32.reduceToNatClampNeg, i10, i01, ↓reduceIte, if_true, if_false]
  refine ab_run_m _ _ _ _ _ _ _ _ (fun r g2 I2 J2 z => ?_) hM
  obtain ⟨z1, z2⟩ := z
  subst z1
  simp only [k259_336, ab_inv_I, ab_inv_R, ab_inv_L, ab_inv_0, ab_push_some, ab_push_none, ab_E_sw, ab_E_sw0, true_and, and_true, not_false_eq_true, lg_self, if_true]
  exact hQ g2 I2 J2 _ _ z2 (by omega) (by omega)
set_option maxRecDepth 20000 in
theorem cs_5_law (hR : REL SL xs g I J) (hi : i + 6 ≤ SL) (hS : SL ≤ 384) (hce : ce + 5 ≤ 600000) (hsl : sl + 257 ≤ 7302249) (hQ : ∀ g' I' J' ce' sl', REL SL xs g' I' J' → ce' ≤ ce + 5 → sl' ≤ sl + 257 → ab_E 100 259 1539 [some (vR (some 10)), some (vR (some 29)), some (vR (some 101)), some (vI (nI i))] [] ce' sl' g' I' J' Q) : ab_E 100 259 341 [some (vR (some 10)), some (vR (some 29)), some (vR (some 101)), some (vI (nI i))] [] ce sl g I J Q := by
  have h := REL_lw hR
  obtain ⟨⟨h1, h2, h3, h4⟩, h5, h6⟩ := h
  have u1 : ce ≤ 600000 := by omega
  have u2 : sl ≤ 7302249 := by omega
  have a1 : nI i + 1 = nI (i + 1) := nI_add i 1
  have v1' : vp_in (nI (i + 1)) SL := vp_in_nI (by omega) (by omega)
  have w1' : (nI (i + 1)).toNatClampNeg = i + 1 := nI_clamp (by omega)
  have a2 : nI i + 2 = nI (i + 2) := nI_add i 2
  have v2' : vp_in (nI (i + 2)) SL := vp_in_nI (by omega) (by omega)
  have w2' : (nI (i + 2)).toNatClampNeg = i + 2 := nI_clamp (by omega)
  simp only [k259_341, k259_342, k259_343, k259_344, k259_345, k259_346, k259_347, k259_348, k259_349, k259_350, k259_351, k259_352, ab_inv_I, ab_inv_R, ab_inv_L, ab_inv_0, ab_push_some, ab_push_none, ab_E_sw, ab_E_sw0, true_and, and_true, not_false_eq_true, a1, v1', w1', a2, v2', w2', h1, h2, h3, h5, u1, u2, Int32.reduceAdd, Int32.reduceMul, Int32.reduceSub, Int32.reduceDiv, Int32.reduceLT, Int32.reduceLE, Int32.reduceToNatClampNeg, i10, i01, ↓reduceIte, if_true, if_false]
  refine prI (d := 99) h6 r52 (p_hurt (d := 88) hR) fun x g1 I1 J1 K hM => ?_
  obtain ⟨⟨h1, h2, h3, h4⟩, h5, h6⟩ := kp_lw hR K
  simp only [k259_355, k259_356, k259_357, k259_358, k259_359, k259_360, k259_361, k259_362, k259_363, k259_364, k259_365, k259_366, ab_inv_I, ab_inv_R, ab_inv_L, ab_inv_0, ab_push_some, ab_push_none, ab_E_sw, ab_E_sw0, true_and, and_true, not_false_eq_true, a1, v1', w1', a2, v2', w2', h1, h2, h4, h5, u1, u2, Int32.reduceAdd, Int32.reduceMul, Int32.reduceSub, Int32.reduceDiv, Int32.reduceLT, Int32.reduceLE, Int32.reduceToNatClampNeg, i10, i01, ↓reduceIte, if_true, if_false]
  refine ab_run_m _ _ _ _ _ _ _ _ (fun r g2 I2 J2 z => ?_) hM
  obtain ⟨z1, z2⟩ := z
  subst z1
  simp only [k259_369, ab_inv_I, ab_inv_R, ab_inv_L, ab_inv_0, ab_push_some, ab_push_none, ab_E_sw, ab_E_sw0, true_and, and_true, not_false_eq_true, lg_self, if_true]
  exact hQ g2 I2 J2 _ _ z2 (by omega) (by omega)
set_option maxRecDepth 20000 in
theorem cs_6_law (hR : REL SL xs g I J) (hi : i + 6 ≤ SL) (hS : SL ≤ 384) (hce : ce + 5 ≤ 600000) (hsl : sl + 257 ≤ 7302249) (hQ : ∀ g' I' J' ce' sl', REL SL xs g' I' J' → ce' ≤ ce + 5 → sl' ≤ sl + 257 → ab_E 100 259 1539 [some (vR (some 10)), some (vR (some 29)), some (vR (some 101)), some (vI (nI i))] [] ce' sl' g' I' J' Q) : ab_E 100 259 374 [some (vR (some 10)), some (vR (some 29)), some (vR (some 101)), some (vI (nI i))] [] ce sl g I J Q := by
  have h := REL_lw hR
  obtain ⟨⟨h1, h2, h3, h4⟩, h5, h6⟩ := h
  have u1 : ce + 3 ≤ 600000 := by omega
  have u2 : sl + 136 ≤ 7302249 := by omega
  have a1 : nI i + 1 = nI (i + 1) := nI_add i 1
  have v1' : vp_in (nI (i + 1)) SL := vp_in_nI (by omega) (by omega)
  have w1' : (nI (i + 1)).toNatClampNeg = i + 1 := nI_clamp (by omega)
  have a2 : nI i + 2 = nI (i + 2) := nI_add i 2
  have v2' : vp_in (nI (i + 2)) SL := vp_in_nI (by omega) (by omega)
  have w2' : (nI (i + 2)).toNatClampNeg = i + 2 := nI_clamp (by omega)
  have a3 : nI i + 3 = nI (i + 3) := nI_add i 3
  have v3' : vp_in (nI (i + 3)) SL := vp_in_nI (by omega) (by omega)
  have w3' : (nI (i + 3)).toNatClampNeg = i + 3 := nI_clamp (by omega)
  simp only [k259_374, k259_375, k259_376, k259_377, k259_378, k259_379, k259_380, k259_381, k259_382, k259_383, k259_384, k259_385, k259_386, k259_387, k259_388, k259_389, k259_390, ab_inv_I, ab_inv_R, ab_inv_L, ab_inv_0, ab_push_some, ab_push_none, ab_E_sw, ab_E_sw0, true_and, and_true, not_false_eq_true, a1, v1', w1', a2, v2', w2', a3, v3', w3', h1, h2, h3, h5, u1, u2, Int32.reduceAdd, Int32.reduceMul, Int32.reduceSub, Int32.reduceDiv, Int32.reduceLT, Int32.reduceLE, Int32.reduceToNatClampNeg, i10, i01, ↓reduceIte, if_true, if_false]
  refine prI (d := 99) h6 r65 (p_rule (d := 96) hR) fun x g1 I1 J1 K hM => ?_
  obtain ⟨⟨h1, h2, h3, h4⟩, h5, h6⟩ := kp_lw hR K
  simp only [k259_393, k259_394, k259_395, k259_396, k259_397, k259_398, k259_399, k259_400, k259_401, k259_402, k259_403, k259_404, k259_405, k259_406, k259_407, k259_408, k259_409, ab_inv_I, ab_inv_R, ab_inv_L, ab_inv_0, ab_push_some, ab_push_none, ab_E_sw, ab_E_sw0, true_and, and_true, not_false_eq_true, a1, v1', w1', a2, v2', w2', a3, v3', w3', h1, h2, h4, h5, u1, u2, Int32.reduceAdd, Int32.reduceMul, Int32.reduceSub, Int32.reduceDiv, Int32.reduceLT, Int32.reduceLE, Int32.reduceToNatClampNeg, i10, i01, ↓reduceIte, if_true, if_false]
  refine ab_run_m _ _ _ _ _ _ _ _ (fun r g2 I2 J2 z => ?_) hM
  obtain ⟨z1, z2⟩ := z
  subst z1
  simp only [k259_412, ab_inv_I, ab_inv_R, ab_inv_L, ab_inv_0, ab_push_some, ab_push_none, ab_E_sw, ab_E_sw0, true_and, and_true, not_false_eq_true, lg_self, if_true]
  exact hQ g2 I2 J2 _ _ z2 (by omega) (by omega)
set_option maxRecDepth 20000 in
theorem cs_7_law (hR : REL SL xs g I J) (hi : i + 6 ≤ SL) (hS : SL ≤ 384) (hce : ce + 5 ≤ 600000) (hsl : sl + 257 ≤ 7302249) (hQ : ∀ g' I' J' ce' sl', REL SL xs g' I' J' → ce' ≤ ce + 5 → sl' ≤ sl + 257 → ab_E 100 259 1539 [some (vR (some 10)), some (vR (some 29)), some (vR (some 101)), some (vI (nI i))] [] ce' sl' g' I' J' Q) : ab_E 100 259 417 [some (vR (some 10)), some (vR (some 29)), some (vR (some 101)), some (vI (nI i))] [] ce sl g I J Q := by
  have h := REL_lw hR
  obtain ⟨⟨h1, h2, h3, h4⟩, h5, h6⟩ := h
  have u1 : ce + 3 ≤ 600000 := by omega
  have u2 : sl + 136 ≤ 7302249 := by omega
  have a1 : nI i + 1 = nI (i + 1) := nI_add i 1
  have v1' : vp_in (nI (i + 1)) SL := vp_in_nI (by omega) (by omega)
  have w1' : (nI (i + 1)).toNatClampNeg = i + 1 := nI_clamp (by omega)
  have a2 : nI i + 2 = nI (i + 2) := nI_add i 2
  have v2' : vp_in (nI (i + 2)) SL := vp_in_nI (by omega) (by omega)
  have w2' : (nI (i + 2)).toNatClampNeg = i + 2 := nI_clamp (by omega)
  simp only [k259_417, k259_418, k259_419, k259_420, k259_421, k259_422, k259_423, k259_424, k259_425, k259_426, k259_427, k259_428, ab_inv_I, ab_inv_R, ab_inv_L, ab_inv_0, ab_push_some, ab_push_none, ab_E_sw, ab_E_sw0, true_and, and_true, not_false_eq_true, a1, v1', w1', a2, v2', w2', h1, h2, h3, h5, u1, u2, Int32.reduceAdd, Int32.reduceMul, Int32.reduceSub, Int32.reduceDiv, Int32.reduceLT, Int32.reduceLE, Int32.reduceToNatClampNeg, i10, i01, ↓reduceIte, if_true, if_false]
  refine prI (d := 99) h6 r70 (p_cover (d := 96) hR) fun x g1 I1 J1 K hM => ?_
  obtain ⟨⟨h1, h2, h3, h4⟩, h5, h6⟩ := kp_lw hR K
  simp only [k259_431, k259_432, k259_433, k259_434, k259_435, k259_436, k259_437, k259_438, k259_439, k259_440, k259_441, k259_442, ab_inv_I, ab_inv_R, ab_inv_L, ab_inv_0, ab_push_some, ab_push_none, ab_E_sw, ab_E_sw0, true_and, and_true, not_false_eq_true, a1, v1', w1', a2, v2', w2', h1, h2, h4, h5, u1, u2, Int32.reduceAdd, Int32.reduceMul, Int32.reduceSub, Int32.reduceDiv, Int32.reduceLT, Int32.reduceLE, Int32.reduceToNatClampNeg, i10, i01, ↓reduceIte, if_true, if_false]
  refine ab_run_m _ _ _ _ _ _ _ _ (fun r g2 I2 J2 z => ?_) hM
  obtain ⟨z1, z2⟩ := z
  subst z1
  simp only [k259_445, ab_inv_I, ab_inv_R, ab_inv_L, ab_inv_0, ab_push_some, ab_push_none, ab_E_sw, ab_E_sw0, true_and, and_true, not_false_eq_true, lg_self, if_true]
  exact hQ g2 I2 J2 _ _ z2 (by omega) (by omega)
set_option maxRecDepth 20000 in
theorem cs_8_law (hR : REL SL xs g I J) (hi : i + 6 ≤ SL) (hS : SL ≤ 384) (hce : ce + 5 ≤ 600000) (hsl : sl + 257 ≤ 7302249) (hQ : ∀ g' I' J' ce' sl', REL SL xs g' I' J' → ce' ≤ ce + 5 → sl' ≤ sl + 257 → ab_E 100 259 1539 [some (vR (some 10)), some (vR (some 29)), some (vR (some 101)), some (vI (nI i))] [] ce' sl' g' I' J' Q) : ab_E 100 259 450 [some (vR (some 10)), some (vR (some 29)), some (vR (some 101)), some (vI (nI i))] [] ce sl g I J Q := by
  have h := REL_lw hR
  obtain ⟨⟨h1, h2, h3, h4⟩, h5, h6⟩ := h
  have u1 : ce + 5 ≤ 600000 := by omega
  have u2 : sl + 257 ≤ 7302249 := by omega
  simp only [k259_450, k259_451, ab_inv_I, ab_inv_R, ab_inv_L, ab_inv_0, ab_push_some, ab_push_none, ab_E_sw, ab_E_sw0, true_and, and_true, not_false_eq_true, h1, h2, h3, h5, u1, u2, Int32.reduceAdd, Int32.reduceMul, Int32.reduceSub, Int32.reduceDiv, Int32.reduceLT, Int32.reduceLE, Int32.reduceToNatClampNeg, i10, i01, ↓reduceIte, if_true, if_false]
  refine prI (d := 99) h6 r73 (p_told (d := 53) hR) fun x g1 I1 J1 K hM => ?_
  obtain ⟨⟨h1, h2, h3, h4⟩, h5, h6⟩ := kp_lw hR K
  simp only [k259_454, k259_455, ab_inv_I, ab_inv_R, ab_inv_L, ab_inv_0, ab_push_some, ab_push_none, ab_E_sw, ab_E_sw0, true_and, and_true, not_false_eq_true, h1, h2, h4, h5, u1, u2, Int32.reduceAdd, Int32.reduceMul, Int32.reduceSub, Int32.reduceDiv, Int32.reduceLT, Int32.reduceLE, Int32.reduceToNatClampNeg, i10, i01, ↓reduceIte, if_true, if_false]
  refine ab_run_m _ _ _ _ _ _ _ _ (fun r g2 I2 J2 z => ?_) hM
  obtain ⟨z1, z2⟩ := z
  subst z1
  simp only [k259_458, ab_inv_I, ab_inv_R, ab_inv_L, ab_inv_0, ab_push_some, ab_push_none, ab_E_sw, ab_E_sw0, true_and, and_true, not_false_eq_true, lg_self, if_true]
  exact hQ g2 I2 J2 _ _ z2 (by omega) (by omega)
set_option maxRecDepth 20000 in
theorem cs_9_law (hR : REL SL xs g I J) (hi : i + 6 ≤ SL) (hS : SL ≤ 384) (hce : ce + 5 ≤ 600000) (hsl : sl + 257 ≤ 7302249) (hQ : ∀ g' I' J' ce' sl', REL SL xs g' I' J' → ce' ≤ ce + 5 → sl' ≤ sl + 257 → ab_E 100 259 1539 [some (vR (some 10)), some (vR (some 29)), some (vR (some 101)), some (vI (nI i))] [] ce' sl' g' I' J' Q) : ab_E 100 259 463 [some (vR (some 10)), some (vR (some 29)), some (vR (some 101)), some (vI (nI i))] [] ce sl g I J Q := by
  have h := REL_lw hR
  obtain ⟨⟨h1, h2, h3, h4⟩, h5, h6⟩ := h
  have u1 : ce ≤ 600000 := by omega
  have u2 : sl ≤ 7302249 := by omega
  have a1 : nI i + 1 = nI (i + 1) := nI_add i 1
  have v1' : vp_in (nI (i + 1)) SL := vp_in_nI (by omega) (by omega)
  have w1' : (nI (i + 1)).toNatClampNeg = i + 1 := nI_clamp (by omega)
  have a2 : nI i + 2 = nI (i + 2) := nI_add i 2
  have v2' : vp_in (nI (i + 2)) SL := vp_in_nI (by omega) (by omega)
  have w2' : (nI (i + 2)).toNatClampNeg = i + 2 := nI_clamp (by omega)
  simp only [k259_463, k259_464, k259_465, k259_466, k259_467, k259_468, k259_469, k259_470, k259_471, k259_472, k259_473, k259_474, ab_inv_I, ab_inv_R, ab_inv_L, ab_inv_0, ab_push_some, ab_push_none, ab_E_sw, ab_E_sw0, true_and, and_true, not_false_eq_true, a1, v1', w1', a2, v2', w2', h1, h2, h3, h5, u1, u2, Int32.reduceAdd, Int32.reduceMul, Int32.reduceSub, Int32.reduceDiv, Int32.reduceLT, Int32.reduceLE, Int32.reduceToNatClampNeg, i10, i01, ↓reduceIte, if_true, if_false]
  refine prI (d := 99) h6 r76 (p_of (d := 96) hR) fun x g1 I1 J1 K hM => ?_
  obtain ⟨⟨h1, h2, h3, h4⟩, h5, h6⟩ := kp_lw hR K
  simp only [k259_477, k259_478, k259_479, k259_480, k259_481, k259_482, k259_483, k259_484, k259_485, k259_486, k259_487, k259_488, ab_inv_I, ab_inv_R, ab_inv_L, ab_inv_0, ab_push_some, ab_push_none, ab_E_sw, ab_E_sw0, true_and, and_true, not_false_eq_true, a1, v1', w1', a2, v2', w2', h1, h2, h4, h5, u1, u2, Int32.reduceAdd, Int32.reduceMul, Int32.reduceSub, Int32.reduceDiv, Int32.reduceLT, Int32.reduceLE, Int32.reduceToNatClampNeg, i10, i01, ↓reduceIte, if_true, if_false]
  refine ab_run_m _ _ _ _ _ _ _ _ (fun r g2 I2 J2 z => ?_) hM
  obtain ⟨z1, z2⟩ := z
  subst z1
  simp only [k259_491, ab_inv_I, ab_inv_R, ab_inv_L, ab_inv_0, ab_push_some, ab_push_none, ab_E_sw, ab_E_sw0, true_and, and_true, not_false_eq_true, lg_self, if_true]
  exact hQ g2 I2 J2 _ _ z2 (by omega) (by omega)
set_option maxRecDepth 20000 in
theorem cs_10_law (hR : REL SL xs g I J) (hi : i + 6 ≤ SL) (hS : SL ≤ 384) (hce : ce + 5 ≤ 600000) (hsl : sl + 257 ≤ 7302249) (hQ : ∀ g' I' J' ce' sl', REL SL xs g' I' J' → ce' ≤ ce + 5 → sl' ≤ sl + 257 → ab_E 100 259 1539 [some (vR (some 10)), some (vR (some 29)), some (vR (some 101)), some (vI (nI i))] [] ce' sl' g' I' J' Q) : ab_E 100 259 496 [some (vR (some 10)), some (vR (some 29)), some (vR (some 101)), some (vI (nI i))] [] ce sl g I J Q := by
  have h := REL_lw hR
  obtain ⟨⟨h1, h2, h3, h4⟩, h5, h6⟩ := h
  have u1 : ce ≤ 600000 := by omega
  have u2 : sl ≤ 7302249 := by omega
  have a1 : nI i + 1 = nI (i + 1) := nI_add i 1
  have v1' : vp_in (nI (i + 1)) SL := vp_in_nI (by omega) (by omega)
  have w1' : (nI (i + 1)).toNatClampNeg = i + 1 := nI_clamp (by omega)
  have a2 : nI i + 2 = nI (i + 2) := nI_add i 2
  have v2' : vp_in (nI (i + 2)) SL := vp_in_nI (by omega) (by omega)
  have w2' : (nI (i + 2)).toNatClampNeg = i + 2 := nI_clamp (by omega)
  simp only [k259_496, k259_497, k259_498, k259_499, k259_500, k259_501, k259_502, k259_503, k259_504, k259_505, k259_506, k259_507, ab_inv_I, ab_inv_R, ab_inv_L, ab_inv_0, ab_push_some, ab_push_none, ab_E_sw, ab_E_sw0, true_and, and_true, not_false_eq_true, a1, v1', w1', a2, v2', w2', h1, h2, h3, h5, u1, u2, Int32.reduceAdd, Int32.reduceMul, Int32.reduceSub, Int32.reduceDiv, Int32.reduceLT, Int32.reduceLE, Int32.reduceToNatClampNeg, i10, i01, ↓reduceIte, if_true, if_false]
  refine prI (d := 99) h6 r80 (p_as (d := 96) hR) fun x g1 I1 J1 K hM => ?_
  obtain ⟨⟨h1, h2, h3, h4⟩, h5, h6⟩ := kp_lw hR K
  simp only [k259_510, k259_511, k259_512, k259_513, k259_514, k259_515, k259_516, k259_517, k259_518, k259_519, k259_520, k259_521, ab_inv_I, ab_inv_R, ab_inv_L, ab_inv_0, ab_push_some, ab_push_none, ab_E_sw, ab_E_sw0, true_and, and_true, not_false_eq_true, a1, v1', w1', a2, v2', w2', h1, h2, h4, h5, u1, u2, Int32.reduceAdd, Int32.reduceMul, Int32.reduceSub, Int32.reduceDiv, Int32.reduceLT, Int32.reduceLE, Int32.reduceToNatClampNeg, i10, i01, ↓reduceIte, if_true, if_false]
  refine ab_run_m _ _ _ _ _ _ _ _ (fun r g2 I2 J2 z => ?_) hM
  obtain ⟨z1, z2⟩ := z
  subst z1
  simp only [k259_524, ab_inv_I, ab_inv_R, ab_inv_L, ab_inv_0, ab_push_some, ab_push_none, ab_E_sw, ab_E_sw0, true_and, and_true, not_false_eq_true, lg_self, if_true]
  exact hQ g2 I2 J2 _ _ z2 (by omega) (by omega)
set_option maxRecDepth 20000 in
theorem cs_11_law (hR : REL SL xs g I J) (hi : i + 6 ≤ SL) (hS : SL ≤ 384) (hce : ce + 5 ≤ 600000) (hsl : sl + 257 ≤ 7302249) (hQ : ∀ g' I' J' ce' sl', REL SL xs g' I' J' → ce' ≤ ce + 5 → sl' ≤ sl + 257 → ab_E 100 259 1539 [some (vR (some 10)), some (vR (some 29)), some (vR (some 101)), some (vI (nI i))] [] ce' sl' g' I' J' Q) : ab_E 100 259 529 [some (vR (some 10)), some (vR (some 29)), some (vR (some 101)), some (vI (nI i))] [] ce sl g I J Q := by
  have h := REL_lw hR
  obtain ⟨⟨h1, h2, h3, h4⟩, h5, h6⟩ := h
  have u1 : ce ≤ 600000 := by omega
  have u2 : sl ≤ 7302249 := by omega
  have a1 : nI i + 1 = nI (i + 1) := nI_add i 1
  have v1' : vp_in (nI (i + 1)) SL := vp_in_nI (by omega) (by omega)
  have w1' : (nI (i + 1)).toNatClampNeg = i + 1 := nI_clamp (by omega)
  have a2 : nI i + 2 = nI (i + 2) := nI_add i 2
  have v2' : vp_in (nI (i + 2)) SL := vp_in_nI (by omega) (by omega)
  have w2' : (nI (i + 2)).toNatClampNeg = i + 2 := nI_clamp (by omega)
  have a3 : nI i + 3 = nI (i + 3) := nI_add i 3
  have v3' : vp_in (nI (i + 3)) SL := vp_in_nI (by omega) (by omega)
  have w3' : (nI (i + 3)).toNatClampNeg = i + 3 := nI_clamp (by omega)
  have a4 : nI i + 4 = nI (i + 4) := nI_add i 4
  have v4' : vp_in (nI (i + 4)) SL := vp_in_nI (by omega) (by omega)
  have w4' : (nI (i + 4)).toNatClampNeg = i + 4 := nI_clamp (by omega)
  simp only [k259_529, k259_530, k259_531, k259_532, k259_533, k259_534, k259_535, k259_536, k259_537, k259_538, k259_539, k259_540, k259_541, k259_542, k259_543, k259_544, k259_545, k259_546, k259_547, k259_548, k259_549, k259_550, ab_inv_I, ab_inv_R, ab_inv_L, ab_inv_0, ab_push_some, ab_push_none, ab_E_sw, ab_E_sw0, true_and, and_true, not_false_eq_true, a1, v1', w1', a2, v2', w2', a3, v3', w3', a4, v4', w4', h1, h2, h3, h5, u1, u2, Int32.reduceAdd, Int32.reduceMul, Int32.reduceSub, Int32.reduceDiv, Int32.reduceLT, Int32.reduceLE, Int32.reduceToNatClampNeg, i10, i01, ↓reduceIte, if_true, if_false]
  refine prI (d := 99) h6 r81 (p_due (d := 95) hR) fun x g1 I1 J1 K hM => ?_
  obtain ⟨⟨h1, h2, h3, h4⟩, h5, h6⟩ := kp_lw hR K
  simp only [k259_553, k259_554, k259_555, k259_556, k259_557, k259_558, k259_559, k259_560, k259_561, k259_562, k259_563, k259_564, k259_565, k259_566, k259_567, k259_568, k259_569, k259_570, k259_571, k259_572, k259_573, k259_574, ab_inv_I, ab_inv_R, ab_inv_L, ab_inv_0, ab_push_some, ab_push_none, ab_E_sw, ab_E_sw0, true_and, and_true, not_false_eq_true, a1, v1', w1', a2, v2', w2', a3, v3', w3', a4, v4', w4', h1, h2, h4, h5, u1, u2, Int32.reduceAdd, Int32.reduceMul, Int32.reduceSub, Int32.reduceDiv, Int32.reduceLT, Int32.reduceLE, Int32.reduceToNatClampNeg, i10, i01, ↓reduceIte, if_true, if_false]
  refine ab_run_m _ _ _ _ _ _ _ _ (fun r g2 I2 J2 z => ?_) hM
  obtain ⟨z1, z2⟩ := z
  subst z1
  simp only [k259_577, ab_inv_I, ab_inv_R, ab_inv_L, ab_inv_0, ab_push_some, ab_push_none, ab_E_sw, ab_E_sw0, true_and, and_true, not_false_eq_true, lg_self, if_true]
  exact hQ g2 I2 J2 _ _ z2 (by omega) (by omega)
set_option maxRecDepth 20000 in
theorem cs_12_law (hR : REL SL xs g I J) (hi : i + 6 ≤ SL) (hS : SL ≤ 384) (hce : ce + 5 ≤ 600000) (hsl : sl + 257 ≤ 7302249) (hQ : ∀ g' I' J' ce' sl', REL SL xs g' I' J' → ce' ≤ ce + 5 → sl' ≤ sl + 257 → ab_E 100 259 1539 [some (vR (some 10)), some (vR (some 29)), some (vR (some 101)), some (vI (nI i))] [] ce' sl' g' I' J' Q) : ab_E 100 259 582 [some (vR (some 10)), some (vR (some 29)), some (vR (some 101)), some (vI (nI i))] [] ce sl g I J Q := by
  have h := REL_lw hR
  obtain ⟨⟨h1, h2, h3, h4⟩, h5, h6⟩ := h
  have u1 : ce ≤ 600000 := by omega
  have u2 : sl ≤ 7302249 := by omega
  have a1 : nI i + 1 = nI (i + 1) := nI_add i 1
  have v1' : vp_in (nI (i + 1)) SL := vp_in_nI (by omega) (by omega)
  have w1' : (nI (i + 1)).toNatClampNeg = i + 1 := nI_clamp (by omega)
  have a2 : nI i + 2 = nI (i + 2) := nI_add i 2
  have v2' : vp_in (nI (i + 2)) SL := vp_in_nI (by omega) (by omega)
  have w2' : (nI (i + 2)).toNatClampNeg = i + 2 := nI_clamp (by omega)
  simp only [k259_582, k259_583, k259_584, k259_585, k259_586, k259_587, k259_588, k259_589, k259_590, k259_591, k259_592, k259_593, ab_inv_I, ab_inv_R, ab_inv_L, ab_inv_0, ab_push_some, ab_push_none, ab_E_sw, ab_E_sw0, true_and, and_true, not_false_eq_true, a1, v1', w1', a2, v2', w2', h1, h2, h3, h5, u1, u2, Int32.reduceAdd, Int32.reduceMul, Int32.reduceSub, Int32.reduceDiv, Int32.reduceLT, Int32.reduceLE, Int32.reduceToNatClampNeg, i10, i01, ↓reduceIte, if_true, if_false]
  refine prI (d := 99) h6 r83 (p_set (d := 97) hR) fun x g1 I1 J1 K hM => ?_
  obtain ⟨⟨h1, h2, h3, h4⟩, h5, h6⟩ := kp_lw hR K
  simp only [k259_596, k259_597, k259_598, k259_599, k259_600, k259_601, k259_602, k259_603, k259_604, k259_605, k259_606, k259_607, ab_inv_I, ab_inv_R, ab_inv_L, ab_inv_0, ab_push_some, ab_push_none, ab_E_sw, ab_E_sw0, true_and, and_true, not_false_eq_true, a1, v1', w1', a2, v2', w2', h1, h2, h4, h5, u1, u2, Int32.reduceAdd, Int32.reduceMul, Int32.reduceSub, Int32.reduceDiv, Int32.reduceLT, Int32.reduceLE, Int32.reduceToNatClampNeg, i10, i01, ↓reduceIte, if_true, if_false]
  refine ab_run_m _ _ _ _ _ _ _ _ (fun r g2 I2 J2 z => ?_) hM
  obtain ⟨z1, z2⟩ := z
  subst z1
  simp only [k259_610, ab_inv_I, ab_inv_R, ab_inv_L, ab_inv_0, ab_push_some, ab_push_none, ab_E_sw, ab_E_sw0, true_and, and_true, not_false_eq_true, lg_self, if_true]
  exact hQ g2 I2 J2 _ _ z2 (by omega) (by omega)
set_option maxRecDepth 20000 in
theorem cs_13_law (hR : REL SL xs g I J) (hi : i + 6 ≤ SL) (hS : SL ≤ 384) (hce : ce + 5 ≤ 600000) (hsl : sl + 257 ≤ 7302249) (hQ : ∀ g' I' J' ce' sl', REL SL xs g' I' J' → ce' ≤ ce + 5 → sl' ≤ sl + 257 → ab_E 100 259 1539 [some (vR (some 10)), some (vR (some 29)), some (vR (some 101)), some (vI (nI i))] [] ce' sl' g' I' J' Q) : ab_E 100 259 615 [some (vR (some 10)), some (vR (some 29)), some (vR (some 101)), some (vI (nI i))] [] ce sl g I J Q := by
  have h := REL_lw hR
  obtain ⟨⟨h1, h2, h3, h4⟩, h5, h6⟩ := h
  have u1 : ce ≤ 600000 := by omega
  have u2 : sl ≤ 7302249 := by omega
  have a1 : nI i + 1 = nI (i + 1) := nI_add i 1
  have v1' : vp_in (nI (i + 1)) SL := vp_in_nI (by omega) (by omega)
  have w1' : (nI (i + 1)).toNatClampNeg = i + 1 := nI_clamp (by omega)
  have a2 : nI i + 2 = nI (i + 2) := nI_add i 2
  have v2' : vp_in (nI (i + 2)) SL := vp_in_nI (by omega) (by omega)
  have w2' : (nI (i + 2)).toNatClampNeg = i + 2 := nI_clamp (by omega)
  have a3 : nI i + 3 = nI (i + 3) := nI_add i 3
  have v3' : vp_in (nI (i + 3)) SL := vp_in_nI (by omega) (by omega)
  have w3' : (nI (i + 3)).toNatClampNeg = i + 3 := nI_clamp (by omega)
  simp only [k259_615, k259_616, k259_617, k259_618, k259_619, k259_620, k259_621, k259_622, k259_623, k259_624, k259_625, k259_626, k259_627, k259_628, k259_629, k259_630, k259_631, ab_inv_I, ab_inv_R, ab_inv_L, ab_inv_0, ab_push_some, ab_push_none, ab_E_sw, ab_E_sw0, true_and, and_true, not_false_eq_true, a1, v1', w1', a2, v2', w2', a3, v3', w3', h1, h2, h3, h5, u1, u2, Int32.reduceAdd, Int32.reduceMul, Int32.reduceSub, Int32.reduceDiv, Int32.reduceLT, Int32.reduceLE, Int32.reduceToNatClampNeg, i10, i01, ↓reduceIte, if_true, if_false]
  refine prL (d := 99) h6 r84 (p_cost (d := 88) hR) fun x g1 I1 J1 K hM => ?_
  obtain ⟨⟨h1, h2, h3, h4⟩, h5, h6⟩ := kp_lw hR K
  simp only [k259_634, k259_635, k259_636, k259_637, k259_638, k259_639, k259_640, k259_641, k259_642, k259_643, k259_644, k259_645, k259_646, k259_647, k259_648, k259_649, k259_650, ab_inv_I, ab_inv_R, ab_inv_L, ab_inv_0, ab_push_some, ab_push_none, ab_E_sw, ab_E_sw0, true_and, and_true, not_false_eq_true, a1, v1', w1', a2, v2', w2', a3, v3', w3', h1, h2, h4, h5, u1, u2, Int32.reduceAdd, Int32.reduceMul, Int32.reduceSub, Int32.reduceDiv, Int32.reduceLT, Int32.reduceLE, Int32.reduceToNatClampNeg, i10, i01, ↓reduceIte, if_true, if_false]
  refine ab_run_m _ _ _ _ _ _ _ _ (fun r g2 I2 J2 z => ?_) hM
  obtain ⟨z1, z2⟩ := z
  subst z1
  simp only [k259_653, k259_654, ab_inv_I, ab_inv_R, ab_inv_L, ab_inv_0, ab_push_some, ab_push_none, ab_E_sw, ab_E_sw0, true_and, and_true, not_false_eq_true, lg_self, if_true]
  exact hQ g2 I2 J2 _ _ z2 (by omega) (by omega)
set_option maxRecDepth 20000 in
theorem cs_14_law (hR : REL SL xs g I J) (hi : i + 6 ≤ SL) (hS : SL ≤ 384) (hce : ce + 5 ≤ 600000) (hsl : sl + 257 ≤ 7302249) (hQ : ∀ g' I' J' ce' sl', REL SL xs g' I' J' → ce' ≤ ce + 5 → sl' ≤ sl + 257 → ab_E 100 259 1539 [some (vR (some 10)), some (vR (some 29)), some (vR (some 101)), some (vI (nI i))] [] ce' sl' g' I' J' Q) : ab_E 100 259 659 [some (vR (some 10)), some (vR (some 29)), some (vR (some 101)), some (vI (nI i))] [] ce sl g I J Q := by
  have h := REL_lw hR
  obtain ⟨⟨h1, h2, h3, h4⟩, h5, h6⟩ := h
  have u1 : ce ≤ 600000 := by omega
  have u2 : sl ≤ 7302249 := by omega
  have a1 : nI i + 1 = nI (i + 1) := nI_add i 1
  have v1' : vp_in (nI (i + 1)) SL := vp_in_nI (by omega) (by omega)
  have w1' : (nI (i + 1)).toNatClampNeg = i + 1 := nI_clamp (by omega)
  simp only [k259_659, k259_660, k259_661, k259_662, k259_663, k259_664, k259_665, ab_inv_I, ab_inv_R, ab_inv_L, ab_inv_0, ab_push_some, ab_push_none, ab_E_sw, ab_E_sw0, true_and, and_true, not_false_eq_true, a1, v1', w1', h1, h2, h3, h5, u1, u2, Int32.reduceAdd, Int32.reduceMul, Int32.reduceSub, Int32.reduceDiv, Int32.reduceLT, Int32.reduceLE, Int32.reduceToNatClampNeg, i10, i01, ↓reduceIte, if_true, if_false]
  refine prL (d := 99) h6 r94 (p_plain (d := 88) hR) fun x g1 I1 J1 K hM => ?_
  obtain ⟨⟨h1, h2, h3, h4⟩, h5, h6⟩ := kp_lw hR K
  simp only [k259_668, k259_669, k259_670, k259_671, k259_672, k259_673, k259_674, ab_inv_I, ab_inv_R, ab_inv_L, ab_inv_0, ab_push_some, ab_push_none, ab_E_sw, ab_E_sw0, true_and, and_true, not_false_eq_true, a1, v1', w1', h1, h2, h4, h5, u1, u2, Int32.reduceAdd, Int32.reduceMul, Int32.reduceSub, Int32.reduceDiv, Int32.reduceLT, Int32.reduceLE, Int32.reduceToNatClampNeg, i10, i01, ↓reduceIte, if_true, if_false]
  refine ab_run_m _ _ _ _ _ _ _ _ (fun r g2 I2 J2 z => ?_) hM
  obtain ⟨z1, z2⟩ := z
  subst z1
  simp only [k259_677, k259_678, ab_inv_I, ab_inv_R, ab_inv_L, ab_inv_0, ab_push_some, ab_push_none, ab_E_sw, ab_E_sw0, true_and, and_true, not_false_eq_true, lg_self, if_true]
  exact hQ g2 I2 J2 _ _ z2 (by omega) (by omega)
set_option maxRecDepth 20000 in
theorem cs_15_law (hR : REL SL xs g I J) (hi : i + 6 ≤ SL) (hS : SL ≤ 384) (hce : ce + 5 ≤ 600000) (hsl : sl + 257 ≤ 7302249) (hQ : ∀ g' I' J' ce' sl', REL SL xs g' I' J' → ce' ≤ ce + 5 → sl' ≤ sl + 257 → ab_E 100 259 1539 [some (vR (some 10)), some (vR (some 29)), some (vR (some 101)), some (vI (nI i))] [] ce' sl' g' I' J' Q) : ab_E 100 259 683 [some (vR (some 10)), some (vR (some 29)), some (vR (some 101)), some (vI (nI i))] [] ce sl g I J Q := by
  have h := REL_lw hR
  obtain ⟨⟨h1, h2, h3, h4⟩, h5, h6⟩ := h
  have u1 : ce ≤ 600000 := by omega
  have u2 : sl ≤ 7302249 := by omega
  simp only [k259_683, k259_684, ab_inv_I, ab_inv_R, ab_inv_L, ab_inv_0, ab_push_some, ab_push_none, ab_E_sw, ab_E_sw0, true_and, and_true, not_false_eq_true, h1, h2, h3, h5, u1, u2, Int32.reduceAdd, Int32.reduceMul, Int32.reduceSub, Int32.reduceDiv, Int32.reduceLT, Int32.reduceLE, Int32.reduceToNatClampNeg, i10, i01, ↓reduceIte, if_true, if_false]
  refine prL (d := 99) h6 r96 (p_least (d := 88) hR) fun x g1 I1 J1 K hM => ?_
  obtain ⟨⟨h1, h2, h3, h4⟩, h5, h6⟩ := kp_lw hR K
  simp only [k259_687, k259_688, ab_inv_I, ab_inv_R, ab_inv_L, ab_inv_0, ab_push_some, ab_push_none, ab_E_sw, ab_E_sw0, true_and, and_true, not_false_eq_true, h1, h2, h4, h5, u1, u2, Int32.reduceAdd, Int32.reduceMul, Int32.reduceSub, Int32.reduceDiv, Int32.reduceLT, Int32.reduceLE, Int32.reduceToNatClampNeg, i10, i01, ↓reduceIte, if_true, if_false]
  refine ab_run_m _ _ _ _ _ _ _ _ (fun r g2 I2 J2 z => ?_) hM
  obtain ⟨z1, z2⟩ := z
  subst z1
  simp only [k259_691, k259_692, ab_inv_I, ab_inv_R, ab_inv_L, ab_inv_0, ab_push_some, ab_push_none, ab_E_sw, ab_E_sw0, true_and, and_true, not_false_eq_true, lg_self, if_true]
  exact hQ g2 I2 J2 _ _ z2 (by omega) (by omega)
set_option maxRecDepth 20000 in
theorem cs_16_law (hR : REL SL xs g I J) (hi : i + 6 ≤ SL) (hS : SL ≤ 384) (hce : ce + 5 ≤ 600000) (hsl : sl + 257 ≤ 7302249) (hQ : ∀ g' I' J' ce' sl', REL SL xs g' I' J' → ce' ≤ ce + 5 → sl' ≤ sl + 257 → ab_E 100 259 1539 [some (vR (some 10)), some (vR (some 29)), some (vR (some 101)), some (vI (nI i))] [] ce' sl' g' I' J' Q) : ab_E 100 259 697 [some (vR (some 10)), some (vR (some 29)), some (vR (some 101)), some (vI (nI i))] [] ce sl g I J Q := by
  have h := REL_lw hR
  obtain ⟨⟨h1, h2, h3, h4⟩, h5, h6⟩ := h
  have u1 : ce ≤ 600000 := by omega
  have u2 : sl ≤ 7302249 := by omega
  have a1 : nI i + 1 = nI (i + 1) := nI_add i 1
  have v1' : vp_in (nI (i + 1)) SL := vp_in_nI (by omega) (by omega)
  have w1' : (nI (i + 1)).toNatClampNeg = i + 1 := nI_clamp (by omega)
  simp only [k259_697, k259_698, k259_699, k259_700, k259_701, k259_702, k259_703, ab_inv_I, ab_inv_R, ab_inv_L, ab_inv_0, ab_push_some, ab_push_none, ab_E_sw, ab_E_sw0, true_and, and_true, not_false_eq_true, a1, v1', w1', h1, h2, h3, h5, u1, u2, Int32.reduceAdd, Int32.reduceMul, Int32.reduceSub, Int32.reduceDiv, Int32.reduceLT, Int32.reduceLE, Int32.reduceToNatClampNeg, i10, i01, ↓reduceIte, if_true, if_false]
  refine prI (d := 99) h6 r99 (p_best (d := 88) hR) fun x g1 I1 J1 K hM => ?_
  obtain ⟨⟨h1, h2, h3, h4⟩, h5, h6⟩ := kp_lw hR K
  simp only [k259_706, k259_707, k259_708, k259_709, k259_710, k259_711, k259_712, ab_inv_I, ab_inv_R, ab_inv_L, ab_inv_0, ab_push_some, ab_push_none, ab_E_sw, ab_E_sw0, true_and, and_true, not_false_eq_true, a1, v1', w1', h1, h2, h4, h5, u1, u2, Int32.reduceAdd, Int32.reduceMul, Int32.reduceSub, Int32.reduceDiv, Int32.reduceLT, Int32.reduceLE, Int32.reduceToNatClampNeg, i10, i01, ↓reduceIte, if_true, if_false]
  refine ab_run_m _ _ _ _ _ _ _ _ (fun r g2 I2 J2 z => ?_) hM
  obtain ⟨z1, z2⟩ := z
  subst z1
  simp only [k259_715, ab_inv_I, ab_inv_R, ab_inv_L, ab_inv_0, ab_push_some, ab_push_none, ab_E_sw, ab_E_sw0, true_and, and_true, not_false_eq_true, lg_self, if_true]
  exact hQ g2 I2 J2 _ _ z2 (by omega) (by omega)
set_option maxRecDepth 20000 in
theorem cs_17_law (hR : REL SL xs g I J) (hi : i + 6 ≤ SL) (hS : SL ≤ 384) (hce : ce + 5 ≤ 600000) (hsl : sl + 257 ≤ 7302249) (hQ : ∀ g' I' J' ce' sl', REL SL xs g' I' J' → ce' ≤ ce + 5 → sl' ≤ sl + 257 → ab_E 100 259 1539 [some (vR (some 10)), some (vR (some 29)), some (vR (some 101)), some (vI (nI i))] [] ce' sl' g' I' J' Q) : ab_E 100 259 720 [some (vR (some 10)), some (vR (some 29)), some (vR (some 101)), some (vI (nI i))] [] ce sl g I J Q := by
  have h := REL_lw hR
  obtain ⟨⟨h1, h2, h3, h4⟩, h5, h6⟩ := h
  have u1 : ce ≤ 600000 := by omega
  have u2 : sl ≤ 7302249 := by omega
  have a1 : nI i + 1 = nI (i + 1) := nI_add i 1
  have v1' : vp_in (nI (i + 1)) SL := vp_in_nI (by omega) (by omega)
  have w1' : (nI (i + 1)).toNatClampNeg = i + 1 := nI_clamp (by omega)
  have a2 : nI i + 2 = nI (i + 2) := nI_add i 2
  have v2' : vp_in (nI (i + 2)) SL := vp_in_nI (by omega) (by omega)
  have w2' : (nI (i + 2)).toNatClampNeg = i + 2 := nI_clamp (by omega)
  have a3 : nI i + 3 = nI (i + 3) := nI_add i 3
  have v3' : vp_in (nI (i + 3)) SL := vp_in_nI (by omega) (by omega)
  have w3' : (nI (i + 3)).toNatClampNeg = i + 3 := nI_clamp (by omega)
  simp only [k259_720, k259_721, k259_722, k259_723, k259_724, k259_725, k259_726, k259_727, k259_728, k259_729, k259_730, k259_731, k259_732, k259_733, k259_734, k259_735, k259_736, ab_inv_I, ab_inv_R, ab_inv_L, ab_inv_0, ab_push_some, ab_push_none, ab_E_sw, ab_E_sw0, true_and, and_true, not_false_eq_true, a1, v1', w1', a2, v2', w2', a3, v3', w3', h1, h2, h3, h5, u1, u2, Int32.reduceAdd, Int32.reduceMul, Int32.reduceSub, Int32.reduceDiv, Int32.reduceLT, Int32.reduceLE, Int32.reduceToNatClampNeg, i10, i01, ↓reduceIte, if_true, if_false]
  refine prI (d := 99) h6 r101 (p_answer (d := 88) hR) fun x g1 I1 J1 K hM => ?_
  obtain ⟨⟨h1, h2, h3, h4⟩, h5, h6⟩ := kp_lw hR K
  simp only [k259_739, k259_740, k259_741, k259_742, k259_743, k259_744, k259_745, k259_746, k259_747, k259_748, k259_749, k259_750, k259_751, k259_752, k259_753, k259_754, k259_755, ab_inv_I, ab_inv_R, ab_inv_L, ab_inv_0, ab_push_some, ab_push_none, ab_E_sw, ab_E_sw0, true_and, and_true, not_false_eq_true, a1, v1', w1', a2, v2', w2', a3, v3', w3', h1, h2, h4, h5, u1, u2, Int32.reduceAdd, Int32.reduceMul, Int32.reduceSub, Int32.reduceDiv, Int32.reduceLT, Int32.reduceLE, Int32.reduceToNatClampNeg, i10, i01, ↓reduceIte, if_true, if_false]
  refine ab_run_m _ _ _ _ _ _ _ _ (fun r g2 I2 J2 z => ?_) hM
  obtain ⟨z1, z2⟩ := z
  subst z1
  simp only [k259_758, ab_inv_I, ab_inv_R, ab_inv_L, ab_inv_0, ab_push_some, ab_push_none, ab_E_sw, ab_E_sw0, true_and, and_true, not_false_eq_true, lg_self, if_true]
  exact hQ g2 I2 J2 _ _ z2 (by omega) (by omega)
set_option maxRecDepth 20000 in
theorem cs_18_law (hR : REL SL xs g I J) (hi : i + 6 ≤ SL) (hS : SL ≤ 384) (hce : ce + 5 ≤ 600000) (hsl : sl + 257 ≤ 7302249) (hQ : ∀ g' I' J' ce' sl', REL SL xs g' I' J' → ce' ≤ ce + 5 → sl' ≤ sl + 257 → ab_E 100 259 1539 [some (vR (some 10)), some (vR (some 29)), some (vR (some 101)), some (vI (nI i))] [] ce' sl' g' I' J' Q) : ab_E 100 259 763 [some (vR (some 10)), some (vR (some 29)), some (vR (some 101)), some (vI (nI i))] [] ce sl g I J Q := by
  have h := REL_lw hR
  obtain ⟨⟨h1, h2, h3, h4⟩, h5, h6⟩ := h
  have u1 : ce ≤ 600000 := by omega
  have u2 : sl ≤ 7302249 := by omega
  have a1 : nI i + 1 = nI (i + 1) := nI_add i 1
  have v1' : vp_in (nI (i + 1)) SL := vp_in_nI (by omega) (by omega)
  have w1' : (nI (i + 1)).toNatClampNeg = i + 1 := nI_clamp (by omega)
  have a2 : nI i + 2 = nI (i + 2) := nI_add i 2
  have v2' : vp_in (nI (i + 2)) SL := vp_in_nI (by omega) (by omega)
  have w2' : (nI (i + 2)).toNatClampNeg = i + 2 := nI_clamp (by omega)
  simp only [k259_763, k259_764, k259_765, k259_766, k259_767, k259_768, k259_769, k259_770, k259_771, k259_772, k259_773, k259_774, ab_inv_I, ab_inv_R, ab_inv_L, ab_inv_0, ab_push_some, ab_push_none, ab_E_sw, ab_E_sw0, true_and, and_true, not_false_eq_true, a1, v1', w1', a2, v2', w2', h1, h2, h3, h5, u1, u2, Int32.reduceAdd, Int32.reduceMul, Int32.reduceSub, Int32.reduceDiv, Int32.reduceLT, Int32.reduceLE, Int32.reduceToNatClampNeg, i10, i01, ↓reduceIte, if_true, if_false]
  refine prI (d := 99) h6 r105 (p_rest (d := 88) hR) fun x g1 I1 J1 K hM => ?_
  obtain ⟨⟨h1, h2, h3, h4⟩, h5, h6⟩ := kp_lw hR K
  simp only [k259_777, k259_778, k259_779, k259_780, k259_781, k259_782, k259_783, k259_784, k259_785, k259_786, k259_787, k259_788, ab_inv_I, ab_inv_R, ab_inv_L, ab_inv_0, ab_push_some, ab_push_none, ab_E_sw, ab_E_sw0, true_and, and_true, not_false_eq_true, a1, v1', w1', a2, v2', w2', h1, h2, h4, h5, u1, u2, Int32.reduceAdd, Int32.reduceMul, Int32.reduceSub, Int32.reduceDiv, Int32.reduceLT, Int32.reduceLE, Int32.reduceToNatClampNeg, i10, i01, ↓reduceIte, if_true, if_false]
  refine ab_run_m _ _ _ _ _ _ _ _ (fun r g2 I2 J2 z => ?_) hM
  obtain ⟨z1, z2⟩ := z
  subst z1
  simp only [k259_791, ab_inv_I, ab_inv_R, ab_inv_L, ab_inv_0, ab_push_some, ab_push_none, ab_E_sw, ab_E_sw0, true_and, and_true, not_false_eq_true, lg_self, if_true]
  exact hQ g2 I2 J2 _ _ z2 (by omega) (by omega)
set_option maxRecDepth 20000 in
theorem cs_19_law (hR : REL SL xs g I J) (hi : i + 6 ≤ SL) (hS : SL ≤ 384) (hce : ce + 5 ≤ 600000) (hsl : sl + 257 ≤ 7302249) (hQ : ∀ g' I' J' ce' sl', REL SL xs g' I' J' → ce' ≤ ce + 5 → sl' ≤ sl + 257 → ab_E 100 259 1539 [some (vR (some 10)), some (vR (some 29)), some (vR (some 101)), some (vI (nI i))] [] ce' sl' g' I' J' Q) : ab_E 100 259 796 [some (vR (some 10)), some (vR (some 29)), some (vR (some 101)), some (vI (nI i))] [] ce sl g I J Q := by
  have h := REL_lw hR
  obtain ⟨⟨h1, h2, h3, h4⟩, h5, h6⟩ := h
  have u1 : ce ≤ 600000 := by omega
  have u2 : sl ≤ 7302249 := by omega
  have a1 : nI i + 1 = nI (i + 1) := nI_add i 1
  have v1' : vp_in (nI (i + 1)) SL := vp_in_nI (by omega) (by omega)
  have w1' : (nI (i + 1)).toNatClampNeg = i + 1 := nI_clamp (by omega)
  have a2 : nI i + 2 = nI (i + 2) := nI_add i 2
  have v2' : vp_in (nI (i + 2)) SL := vp_in_nI (by omega) (by omega)
  have w2' : (nI (i + 2)).toNatClampNeg = i + 2 := nI_clamp (by omega)
  simp only [k259_796, k259_797, k259_798, k259_799, k259_800, k259_801, k259_802, k259_803, k259_804, k259_805, k259_806, k259_807, ab_inv_I, ab_inv_R, ab_inv_L, ab_inv_0, ab_push_some, ab_push_none, ab_E_sw, ab_E_sw0, true_and, and_true, not_false_eq_true, a1, v1', w1', a2, v2', w2', h1, h2, h3, h5, u1, u2, Int32.reduceAdd, Int32.reduceMul, Int32.reduceSub, Int32.reduceDiv, Int32.reduceLT, Int32.reduceLE, Int32.reduceToNatClampNeg, i10, i01, ↓reduceIte, if_true, if_false]
  refine prI (d := 99) h6 r114 (p_judge (d := 88) hR) fun x g1 I1 J1 K hM => ?_
  obtain ⟨⟨h1, h2, h3, h4⟩, h5, h6⟩ := kp_lw hR K
  simp only [k259_810, k259_811, k259_812, k259_813, k259_814, k259_815, k259_816, k259_817, k259_818, k259_819, k259_820, k259_821, ab_inv_I, ab_inv_R, ab_inv_L, ab_inv_0, ab_push_some, ab_push_none, ab_E_sw, ab_E_sw0, true_and, and_true, not_false_eq_true, a1, v1', w1', a2, v2', w2', h1, h2, h4, h5, u1, u2, Int32.reduceAdd, Int32.reduceMul, Int32.reduceSub, Int32.reduceDiv, Int32.reduceLT, Int32.reduceLE, Int32.reduceToNatClampNeg, i10, i01, ↓reduceIte, if_true, if_false]
  refine ab_run_m _ _ _ _ _ _ _ _ (fun r g2 I2 J2 z => ?_) hM
  obtain ⟨z1, z2⟩ := z
  subst z1
  simp only [k259_824, ab_inv_I, ab_inv_R, ab_inv_L, ab_inv_0, ab_push_some, ab_push_none, ab_E_sw, ab_E_sw0, true_and, and_true, not_false_eq_true, lg_self, if_true]
  exact hQ g2 I2 J2 _ _ z2 (by omega) (by omega)
set_option maxRecDepth 20000 in
theorem cs_20_law (hR : REL SL xs g I J) (hi : i + 6 ≤ SL) (hS : SL ≤ 384) (hce : ce + 5 ≤ 600000) (hsl : sl + 257 ≤ 7302249) (hQ : ∀ g' I' J' ce' sl', REL SL xs g' I' J' → ce' ≤ ce + 5 → sl' ≤ sl + 257 → ab_E 100 259 1539 [some (vR (some 10)), some (vR (some 29)), some (vR (some 101)), some (vI (nI i))] [] ce' sl' g' I' J' Q) : ab_E 100 259 829 [some (vR (some 10)), some (vR (some 29)), some (vR (some 101)), some (vI (nI i))] [] ce sl g I J Q := by
  have h := REL_lw hR
  obtain ⟨⟨h1, h2, h3, h4⟩, h5, h6⟩ := h
  have u1 : ce ≤ 600000 := by omega
  have u2 : sl ≤ 7302249 := by omega
  have a1 : nI i + 1 = nI (i + 1) := nI_add i 1
  have v1' : vp_in (nI (i + 1)) SL := vp_in_nI (by omega) (by omega)
  have w1' : (nI (i + 1)).toNatClampNeg = i + 1 := nI_clamp (by omega)
  have a2 : nI i + 2 = nI (i + 2) := nI_add i 2
  have v2' : vp_in (nI (i + 2)) SL := vp_in_nI (by omega) (by omega)
  have w2' : (nI (i + 2)).toNatClampNeg = i + 2 := nI_clamp (by omega)
  simp only [k259_829, k259_830, k259_831, k259_832, k259_833, k259_834, k259_835, k259_836, k259_837, k259_838, k259_839, k259_840, ab_inv_I, ab_inv_R, ab_inv_L, ab_inv_0, ab_push_some, ab_push_none, ab_E_sw, ab_E_sw0, true_and, and_true, not_false_eq_true, a1, v1', w1', a2, v2', w2', h1, h2, h3, h5, u1, u2, Int32.reduceAdd, Int32.reduceMul, Int32.reduceSub, Int32.reduceDiv, Int32.reduceLT, Int32.reduceLE, Int32.reduceToNatClampNeg, i10, i01, ↓reduceIte, if_true, if_false]
  refine prL (d := 99) h6 r116 (p_lost (d := 88) hR) fun x g1 I1 J1 K hM => ?_
  obtain ⟨⟨h1, h2, h3, h4⟩, h5, h6⟩ := kp_lw hR K
  simp only [k259_843, k259_844, k259_845, k259_846, k259_847, k259_848, k259_849, k259_850, k259_851, k259_852, k259_853, k259_854, ab_inv_I, ab_inv_R, ab_inv_L, ab_inv_0, ab_push_some, ab_push_none, ab_E_sw, ab_E_sw0, true_and, and_true, not_false_eq_true, a1, v1', w1', a2, v2', w2', h1, h2, h4, h5, u1, u2, Int32.reduceAdd, Int32.reduceMul, Int32.reduceSub, Int32.reduceDiv, Int32.reduceLT, Int32.reduceLE, Int32.reduceToNatClampNeg, i10, i01, ↓reduceIte, if_true, if_false]
  refine ab_run_m _ _ _ _ _ _ _ _ (fun r g2 I2 J2 z => ?_) hM
  obtain ⟨z1, z2⟩ := z
  subst z1
  simp only [k259_857, k259_858, ab_inv_I, ab_inv_R, ab_inv_L, ab_inv_0, ab_push_some, ab_push_none, ab_E_sw, ab_E_sw0, true_and, and_true, not_false_eq_true, lg_self, if_true]
  exact hQ g2 I2 J2 _ _ z2 (by omega) (by omega)
set_option maxRecDepth 20000 in
theorem cs_21_law (hR : REL SL xs g I J) (hi : i + 6 ≤ SL) (hS : SL ≤ 384) (hce : ce + 5 ≤ 600000) (hsl : sl + 257 ≤ 7302249) (hQ : ∀ g' I' J' ce' sl', REL SL xs g' I' J' → ce' ≤ ce + 5 → sl' ≤ sl + 257 → ab_E 100 259 1539 [some (vR (some 10)), some (vR (some 29)), some (vR (some 101)), some (vI (nI i))] [] ce' sl' g' I' J' Q) : ab_E 100 259 863 [some (vR (some 10)), some (vR (some 29)), some (vR (some 101)), some (vI (nI i))] [] ce sl g I J Q := by
  have h := REL_lw hR
  obtain ⟨⟨h1, h2, h3, h4⟩, h5, h6⟩ := h
  have u1 : ce ≤ 600000 := by omega
  have u2 : sl ≤ 7302249 := by omega
  have a1 : nI i + 1 = nI (i + 1) := nI_add i 1
  have v1' : vp_in (nI (i + 1)) SL := vp_in_nI (by omega) (by omega)
  have w1' : (nI (i + 1)).toNatClampNeg = i + 1 := nI_clamp (by omega)
  have a2 : nI i + 2 = nI (i + 2) := nI_add i 2
  have v2' : vp_in (nI (i + 2)) SL := vp_in_nI (by omega) (by omega)
  have w2' : (nI (i + 2)).toNatClampNeg = i + 2 := nI_clamp (by omega)
  simp only [k259_863, k259_864, k259_865, k259_866, k259_867, k259_868, k259_869, k259_870, k259_871, k259_872, k259_873, k259_874, ab_inv_I, ab_inv_R, ab_inv_L, ab_inv_0, ab_push_some, ab_push_none, ab_E_sw, ab_E_sw0, true_and, and_true, not_false_eq_true, a1, v1', w1', a2, v2', w2', h1, h2, h3, h5, u1, u2, Int32.reduceAdd, Int32.reduceMul, Int32.reduceSub, Int32.reduceDiv, Int32.reduceLT, Int32.reduceLE, Int32.reduceToNatClampNeg, i10, i01, ↓reduceIte, if_true, if_false]
  refine prI (d := 99) h6 r118 (p_how (d := 88) hR) fun x g1 I1 J1 K hM => ?_
  obtain ⟨⟨h1, h2, h3, h4⟩, h5, h6⟩ := kp_lw hR K
  simp only [k259_877, k259_878, k259_879, k259_880, k259_881, k259_882, k259_883, k259_884, k259_885, k259_886, k259_887, k259_888, ab_inv_I, ab_inv_R, ab_inv_L, ab_inv_0, ab_push_some, ab_push_none, ab_E_sw, ab_E_sw0, true_and, and_true, not_false_eq_true, a1, v1', w1', a2, v2', w2', h1, h2, h4, h5, u1, u2, Int32.reduceAdd, Int32.reduceMul, Int32.reduceSub, Int32.reduceDiv, Int32.reduceLT, Int32.reduceLE, Int32.reduceToNatClampNeg, i10, i01, ↓reduceIte, if_true, if_false]
  refine ab_run_m _ _ _ _ _ _ _ _ (fun r g2 I2 J2 z => ?_) hM
  obtain ⟨z1, z2⟩ := z
  subst z1
  simp only [k259_891, ab_inv_I, ab_inv_R, ab_inv_L, ab_inv_0, ab_push_some, ab_push_none, ab_E_sw, ab_E_sw0, true_and, and_true, not_false_eq_true, lg_self, if_true]
  exact hQ g2 I2 J2 _ _ z2 (by omega) (by omega)
set_option maxRecDepth 20000 in
theorem cs_22_law (hR : REL SL xs g I J) (hi : i + 6 ≤ SL) (hS : SL ≤ 384) (hce : ce + 5 ≤ 600000) (hsl : sl + 257 ≤ 7302249) (hQ : ∀ g' I' J' ce' sl', REL SL xs g' I' J' → ce' ≤ ce + 5 → sl' ≤ sl + 257 → ab_E 100 259 1539 [some (vR (some 10)), some (vR (some 29)), some (vR (some 101)), some (vI (nI i))] [] ce' sl' g' I' J' Q) : ab_E 100 259 896 [some (vR (some 10)), some (vR (some 29)), some (vR (some 101)), some (vI (nI i))] [] ce sl g I J Q := by
  have h := REL_lw hR
  obtain ⟨⟨h1, h2, h3, h4⟩, h5, h6⟩ := h
  have u1 : ce ≤ 600000 := by omega
  have u2 : sl ≤ 7302249 := by omega
  have a1 : nI i + 1 = nI (i + 1) := nI_add i 1
  have v1' : vp_in (nI (i + 1)) SL := vp_in_nI (by omega) (by omega)
  have w1' : (nI (i + 1)).toNatClampNeg = i + 1 := nI_clamp (by omega)
  simp only [k259_896, k259_897, k259_898, k259_899, k259_900, k259_901, k259_902, ab_inv_I, ab_inv_R, ab_inv_L, ab_inv_0, ab_push_some, ab_push_none, ab_E_sw, ab_E_sw0, true_and, and_true, not_false_eq_true, a1, v1', w1', h1, h2, h3, h5, u1, u2, Int32.reduceAdd, Int32.reduceMul, Int32.reduceSub, Int32.reduceDiv, Int32.reduceLT, Int32.reduceLE, Int32.reduceToNatClampNeg, i10, i01, ↓reduceIte, if_true, if_false]
  refine prL (d := 99) h6 r119 (p_worst (d := 88) hR) fun x g1 I1 J1 K hM => ?_
  obtain ⟨⟨h1, h2, h3, h4⟩, h5, h6⟩ := kp_lw hR K
  simp only [k259_905, k259_906, k259_907, k259_908, k259_909, k259_910, k259_911, ab_inv_I, ab_inv_R, ab_inv_L, ab_inv_0, ab_push_some, ab_push_none, ab_E_sw, ab_E_sw0, true_and, and_true, not_false_eq_true, a1, v1', w1', h1, h2, h4, h5, u1, u2, Int32.reduceAdd, Int32.reduceMul, Int32.reduceSub, Int32.reduceDiv, Int32.reduceLT, Int32.reduceLE, Int32.reduceToNatClampNeg, i10, i01, ↓reduceIte, if_true, if_false]
  refine ab_run_m _ _ _ _ _ _ _ _ (fun r g2 I2 J2 z => ?_) hM
  obtain ⟨z1, z2⟩ := z
  subst z1
  simp only [k259_914, k259_915, ab_inv_I, ab_inv_R, ab_inv_L, ab_inv_0, ab_push_some, ab_push_none, ab_E_sw, ab_E_sw0, true_and, and_true, not_false_eq_true, lg_self, if_true]
  exact hQ g2 I2 J2 _ _ z2 (by omega) (by omega)
set_option maxRecDepth 20000 in
theorem cs_23_law (hR : REL SL xs g I J) (hi : i + 6 ≤ SL) (hS : SL ≤ 384) (hce : ce + 5 ≤ 600000) (hsl : sl + 257 ≤ 7302249) (hQ : ∀ g' I' J' ce' sl', REL SL xs g' I' J' → ce' ≤ ce + 5 → sl' ≤ sl + 257 → ab_E 100 259 1539 [some (vR (some 10)), some (vR (some 29)), some (vR (some 101)), some (vI (nI i))] [] ce' sl' g' I' J' Q) : ab_E 100 259 920 [some (vR (some 10)), some (vR (some 29)), some (vR (some 101)), some (vI (nI i))] [] ce sl g I J Q := by
  have h := REL_lw hR
  obtain ⟨⟨h1, h2, h3, h4⟩, h5, h6⟩ := h
  have u1 : ce ≤ 600000 := by omega
  have u2 : sl ≤ 7302249 := by omega
  have a1 : nI i + 1 = nI (i + 1) := nI_add i 1
  have v1' : vp_in (nI (i + 1)) SL := vp_in_nI (by omega) (by omega)
  have w1' : (nI (i + 1)).toNatClampNeg = i + 1 := nI_clamp (by omega)
  simp only [k259_920, k259_921, k259_922, k259_923, k259_924, k259_925, k259_926, ab_inv_I, ab_inv_R, ab_inv_L, ab_inv_0, ab_push_some, ab_push_none, ab_E_sw, ab_E_sw0, true_and, and_true, not_false_eq_true, a1, v1', w1', h1, h2, h3, h5, u1, u2, Int32.reduceAdd, Int32.reduceMul, Int32.reduceSub, Int32.reduceDiv, Int32.reduceLT, Int32.reduceLE, Int32.reduceToNatClampNeg, i10, i01, ↓reduceIte, if_true, if_false]
  refine prI (d := 99) h6 r120 (p_find (d := 88) hR) fun x g1 I1 J1 K hM => ?_
  obtain ⟨⟨h1, h2, h3, h4⟩, h5, h6⟩ := kp_lw hR K
  simp only [k259_929, k259_930, k259_931, k259_932, k259_933, k259_934, k259_935, ab_inv_I, ab_inv_R, ab_inv_L, ab_inv_0, ab_push_some, ab_push_none, ab_E_sw, ab_E_sw0, true_and, and_true, not_false_eq_true, a1, v1', w1', h1, h2, h4, h5, u1, u2, Int32.reduceAdd, Int32.reduceMul, Int32.reduceSub, Int32.reduceDiv, Int32.reduceLT, Int32.reduceLE, Int32.reduceToNatClampNeg, i10, i01, ↓reduceIte, if_true, if_false]
  refine ab_run_m _ _ _ _ _ _ _ _ (fun r g2 I2 J2 z => ?_) hM
  obtain ⟨z1, z2⟩ := z
  subst z1
  simp only [k259_938, ab_inv_I, ab_inv_R, ab_inv_L, ab_inv_0, ab_push_some, ab_push_none, ab_E_sw, ab_E_sw0, true_and, and_true, not_false_eq_true, lg_self, if_true]
  exact hQ g2 I2 J2 _ _ z2 (by omega) (by omega)
set_option maxRecDepth 20000 in
theorem cs_24_law (hR : REL SL xs g I J) (hi : i + 6 ≤ SL) (hS : SL ≤ 384) (hce : ce + 5 ≤ 600000) (hsl : sl + 257 ≤ 7302249) (hQ : ∀ g' I' J' ce' sl', REL SL xs g' I' J' → ce' ≤ ce + 5 → sl' ≤ sl + 257 → ab_E 100 259 1539 [some (vR (some 10)), some (vR (some 29)), some (vR (some 101)), some (vI (nI i))] [] ce' sl' g' I' J' Q) : ab_E 100 259 943 [some (vR (some 10)), some (vR (some 29)), some (vR (some 101)), some (vI (nI i))] [] ce sl g I J Q := by
  have h := REL_lw hR
  obtain ⟨⟨h1, h2, h3, h4⟩, h5, h6⟩ := h
  have u1 : ce ≤ 600000 := by omega
  have u2 : sl ≤ 7302249 := by omega
  have a1 : nI i + 1 = nI (i + 1) := nI_add i 1
  have v1' : vp_in (nI (i + 1)) SL := vp_in_nI (by omega) (by omega)
  have w1' : (nI (i + 1)).toNatClampNeg = i + 1 := nI_clamp (by omega)
  have a2 : nI i + 2 = nI (i + 2) := nI_add i 2
  have v2' : vp_in (nI (i + 2)) SL := vp_in_nI (by omega) (by omega)
  have w2' : (nI (i + 2)).toNatClampNeg = i + 2 := nI_clamp (by omega)
  simp only [k259_943, k259_944, k259_945, k259_946, k259_947, k259_948, k259_949, k259_950, k259_951, k259_952, k259_953, k259_954, ab_inv_I, ab_inv_R, ab_inv_L, ab_inv_0, ab_push_some, ab_push_none, ab_E_sw, ab_E_sw0, true_and, and_true, not_false_eq_true, a1, v1', w1', a2, v2', w2', h1, h2, h3, h5, u1, u2, Int32.reduceAdd, Int32.reduceMul, Int32.reduceSub, Int32.reduceDiv, Int32.reduceLT, Int32.reduceLE, Int32.reduceToNatClampNeg, i10, i01, ↓reduceIte, if_true, if_false]
  refine prI (d := 99) h6 r121 (p_keeps (d := 88) hR) fun x g1 I1 J1 K hM => ?_
  obtain ⟨⟨h1, h2, h3, h4⟩, h5, h6⟩ := kp_lw hR K
  simp only [k259_957, k259_958, k259_959, k259_960, k259_961, k259_962, k259_963, k259_964, k259_965, k259_966, k259_967, k259_968, ab_inv_I, ab_inv_R, ab_inv_L, ab_inv_0, ab_push_some, ab_push_none, ab_E_sw, ab_E_sw0, true_and, and_true, not_false_eq_true, a1, v1', w1', a2, v2', w2', h1, h2, h4, h5, u1, u2, Int32.reduceAdd, Int32.reduceMul, Int32.reduceSub, Int32.reduceDiv, Int32.reduceLT, Int32.reduceLE, Int32.reduceToNatClampNeg, i10, i01, ↓reduceIte, if_true, if_false]
  refine ab_run_m _ _ _ _ _ _ _ _ (fun r g2 I2 J2 z => ?_) hM
  obtain ⟨z1, z2⟩ := z
  subst z1
  simp only [k259_971, ab_inv_I, ab_inv_R, ab_inv_L, ab_inv_0, ab_push_some, ab_push_none, ab_E_sw, ab_E_sw0, true_and, and_true, not_false_eq_true, lg_self, if_true]
  exact hQ g2 I2 J2 _ _ z2 (by omega) (by omega)
set_option maxRecDepth 20000 in
theorem cs_25_law (hR : REL SL xs g I J) (hi : i + 6 ≤ SL) (hS : SL ≤ 384) (hce : ce + 5 ≤ 600000) (hsl : sl + 257 ≤ 7302249) (hQ : ∀ g' I' J' ce' sl', REL SL xs g' I' J' → ce' ≤ ce + 5 → sl' ≤ sl + 257 → ab_E 100 259 1539 [some (vR (some 10)), some (vR (some 29)), some (vR (some 101)), some (vI (nI i))] [] ce' sl' g' I' J' Q) : ab_E 100 259 976 [some (vR (some 10)), some (vR (some 29)), some (vR (some 101)), some (vI (nI i))] [] ce sl g I J Q := by
  have h := REL_lw hR
  obtain ⟨⟨h1, h2, h3, h4⟩, h5, h6⟩ := h
  have u1 : ce ≤ 600000 := by omega
  have u2 : sl ≤ 7302249 := by omega
  have a1 : nI i + 1 = nI (i + 1) := nI_add i 1
  have v1' : vp_in (nI (i + 1)) SL := vp_in_nI (by omega) (by omega)
  have w1' : (nI (i + 1)).toNatClampNeg = i + 1 := nI_clamp (by omega)
  have a2 : nI i + 2 = nI (i + 2) := nI_add i 2
  have v2' : vp_in (nI (i + 2)) SL := vp_in_nI (by omega) (by omega)
  have w2' : (nI (i + 2)).toNatClampNeg = i + 2 := nI_clamp (by omega)
  simp only [k259_976, k259_977, k259_978, k259_979, k259_980, k259_981, k259_982, k259_983, k259_984, k259_985, k259_986, k259_987, ab_inv_I, ab_inv_R, ab_inv_L, ab_inv_0, ab_push_some, ab_push_none, ab_E_sw, ab_E_sw0, true_and, and_true, not_false_eq_true, a1, v1', w1', a2, v2', w2', h1, h2, h3, h5, u1, u2, Int32.reduceAdd, Int32.reduceMul, Int32.reduceSub, Int32.reduceDiv, Int32.reduceLT, Int32.reduceLE, Int32.reduceToNatClampNeg, i10, i01, ↓reduceIte, if_true, if_false]
  refine prI (d := 99) h6 r124 (p_breach (d := 88) hR) fun x g1 I1 J1 K hM => ?_
  obtain ⟨⟨h1, h2, h3, h4⟩, h5, h6⟩ := kp_lw hR K
  simp only [k259_990, k259_991, k259_992, k259_993, k259_994, k259_995, k259_996, k259_997, k259_998, k259_999, k259_1000, k259_1001, ab_inv_I, ab_inv_R, ab_inv_L, ab_inv_0, ab_push_some, ab_push_none, ab_E_sw, ab_E_sw0, true_and, and_true, not_false_eq_true, a1, v1', w1', a2, v2', w2', h1, h2, h4, h5, u1, u2, Int32.reduceAdd, Int32.reduceMul, Int32.reduceSub, Int32.reduceDiv, Int32.reduceLT, Int32.reduceLE, Int32.reduceToNatClampNeg, i10, i01, ↓reduceIte, if_true, if_false]
  refine ab_run_m _ _ _ _ _ _ _ _ (fun r g2 I2 J2 z => ?_) hM
  obtain ⟨z1, z2⟩ := z
  subst z1
  simp only [k259_1004, ab_inv_I, ab_inv_R, ab_inv_L, ab_inv_0, ab_push_some, ab_push_none, ab_E_sw, ab_E_sw0, true_and, and_true, not_false_eq_true, lg_self, if_true]
  exact hQ g2 I2 J2 _ _ z2 (by omega) (by omega)
set_option maxRecDepth 20000 in
theorem cs_26_law (hR : REL SL xs g I J) (hi : i + 6 ≤ SL) (hS : SL ≤ 384) (hce : ce + 5 ≤ 600000) (hsl : sl + 257 ≤ 7302249) (hQ : ∀ g' I' J' ce' sl', REL SL xs g' I' J' → ce' ≤ ce + 5 → sl' ≤ sl + 257 → ab_E 100 259 1539 [some (vR (some 10)), some (vR (some 29)), some (vR (some 101)), some (vI (nI i))] [] ce' sl' g' I' J' Q) : ab_E 100 259 1009 [some (vR (some 10)), some (vR (some 29)), some (vR (some 101)), some (vI (nI i))] [] ce sl g I J Q := by
  have h := REL_lw hR
  obtain ⟨⟨h1, h2, h3, h4⟩, h5, h6⟩ := h
  have u1 : ce ≤ 600000 := by omega
  have u2 : sl ≤ 7302249 := by omega
  have a1 : nI i + 1 = nI (i + 1) := nI_add i 1
  have v1' : vp_in (nI (i + 1)) SL := vp_in_nI (by omega) (by omega)
  have w1' : (nI (i + 1)).toNatClampNeg = i + 1 := nI_clamp (by omega)
  simp only [k259_1009, k259_1010, k259_1011, k259_1012, k259_1013, k259_1014, k259_1015, ab_inv_I, ab_inv_R, ab_inv_L, ab_inv_0, ab_push_some, ab_push_none, ab_E_sw, ab_E_sw0, true_and, and_true, not_false_eq_true, a1, v1', w1', h1, h2, h3, h5, u1, u2, Int32.reduceAdd, Int32.reduceMul, Int32.reduceSub, Int32.reduceDiv, Int32.reduceLT, Int32.reduceLE, Int32.reduceToNatClampNeg, i10, i01, ↓reduceIte, if_true, if_false]
  refine prI (d := 99) h6 r125 (p_agree (d := 88) hR) fun x g1 I1 J1 K hM => ?_
  obtain ⟨⟨h1, h2, h3, h4⟩, h5, h6⟩ := kp_lw hR K
  simp only [k259_1018, k259_1019, k259_1020, k259_1021, k259_1022, k259_1023, k259_1024, ab_inv_I, ab_inv_R, ab_inv_L, ab_inv_0, ab_push_some, ab_push_none, ab_E_sw, ab_E_sw0, true_and, and_true, not_false_eq_true, a1, v1', w1', h1, h2, h4, h5, u1, u2, Int32.reduceAdd, Int32.reduceMul, Int32.reduceSub, Int32.reduceDiv, Int32.reduceLT, Int32.reduceLE, Int32.reduceToNatClampNeg, i10, i01, ↓reduceIte, if_true, if_false]
  refine ab_run_m _ _ _ _ _ _ _ _ (fun r g2 I2 J2 z => ?_) hM
  obtain ⟨z1, z2⟩ := z
  subst z1
  simp only [k259_1027, ab_inv_I, ab_inv_R, ab_inv_L, ab_inv_0, ab_push_some, ab_push_none, ab_E_sw, ab_E_sw0, true_and, and_true, not_false_eq_true, lg_self, if_true]
  exact hQ g2 I2 J2 _ _ z2 (by omega) (by omega)
set_option maxRecDepth 20000 in
theorem cs_27_law (hR : REL SL xs g I J) (hi : i + 6 ≤ SL) (hS : SL ≤ 384) (hce : ce + 5 ≤ 600000) (hsl : sl + 257 ≤ 7302249) (hQ : ∀ g' I' J' ce' sl', REL SL xs g' I' J' → ce' ≤ ce + 5 → sl' ≤ sl + 257 → ab_E 100 259 1539 [some (vR (some 10)), some (vR (some 29)), some (vR (some 101)), some (vI (nI i))] [] ce' sl' g' I' J' Q) : ab_E 100 259 1032 [some (vR (some 10)), some (vR (some 29)), some (vR (some 101)), some (vI (nI i))] [] ce sl g I J Q := by
  have h := REL_lw hR
  obtain ⟨⟨h1, h2, h3, h4⟩, h5, h6⟩ := h
  have u1 : ce ≤ 600000 := by omega
  have u2 : sl ≤ 7302249 := by omega
  have a1 : nI i + 1 = nI (i + 1) := nI_add i 1
  have v1' : vp_in (nI (i + 1)) SL := vp_in_nI (by omega) (by omega)
  have w1' : (nI (i + 1)).toNatClampNeg = i + 1 := nI_clamp (by omega)
  simp only [k259_1032, k259_1033, k259_1034, k259_1035, k259_1036, k259_1037, k259_1038, ab_inv_I, ab_inv_R, ab_inv_L, ab_inv_0, ab_push_some, ab_push_none, ab_E_sw, ab_E_sw0, true_and, and_true, not_false_eq_true, a1, v1', w1', h1, h2, h3, h5, u1, u2, Int32.reduceAdd, Int32.reduceMul, Int32.reduceSub, Int32.reduceDiv, Int32.reduceLT, Int32.reduceLE, Int32.reduceToNatClampNeg, i10, i01, ↓reduceIte, if_true, if_false]
  refine prL (d := 99) h6 r127 (p_talk (d := 88) hR) fun x g1 I1 J1 K hM => ?_
  obtain ⟨⟨h1, h2, h3, h4⟩, h5, h6⟩ := kp_lw hR K
  simp only [k259_1041, k259_1042, k259_1043, k259_1044, k259_1045, k259_1046, k259_1047, ab_inv_I, ab_inv_R, ab_inv_L, ab_inv_0, ab_push_some, ab_push_none, ab_E_sw, ab_E_sw0, true_and, and_true, not_false_eq_true, a1, v1', w1', h1, h2, h4, h5, u1, u2, Int32.reduceAdd, Int32.reduceMul, Int32.reduceSub, Int32.reduceDiv, Int32.reduceLT, Int32.reduceLE, Int32.reduceToNatClampNeg, i10, i01, ↓reduceIte, if_true, if_false]
  refine ab_run_m _ _ _ _ _ _ _ _ (fun r g2 I2 J2 z => ?_) hM
  obtain ⟨z1, z2⟩ := z
  subst z1
  simp only [k259_1050, k259_1051, ab_inv_I, ab_inv_R, ab_inv_L, ab_inv_0, ab_push_some, ab_push_none, ab_E_sw, ab_E_sw0, true_and, and_true, not_false_eq_true, lg_self, if_true]
  exact hQ g2 I2 J2 _ _ z2 (by omega) (by omega)
set_option maxRecDepth 20000 in
theorem cs_28_law (hR : REL SL xs g I J) (hi : i + 6 ≤ SL) (hS : SL ≤ 384) (hce : ce + 5 ≤ 600000) (hsl : sl + 257 ≤ 7302249) (hQ : ∀ g' I' J' ce' sl', REL SL xs g' I' J' → ce' ≤ ce + 5 → sl' ≤ sl + 257 → ab_E 100 259 1539 [some (vR (some 10)), some (vR (some 29)), some (vR (some 101)), some (vI (nI i))] [] ce' sl' g' I' J' Q) : ab_E 100 259 1056 [some (vR (some 10)), some (vR (some 29)), some (vR (some 101)), some (vI (nI i))] [] ce sl g I J Q := by
  have h := REL_lw hR
  obtain ⟨⟨h1, h2, h3, h4⟩, h5, h6⟩ := h
  have u1 : ce ≤ 600000 := by omega
  have u2 : sl ≤ 7302249 := by omega
  have a1 : nI i + 1 = nI (i + 1) := nI_add i 1
  have v1' : vp_in (nI (i + 1)) SL := vp_in_nI (by omega) (by omega)
  have w1' : (nI (i + 1)).toNatClampNeg = i + 1 := nI_clamp (by omega)
  have a2 : nI i + 2 = nI (i + 2) := nI_add i 2
  have v2' : vp_in (nI (i + 2)) SL := vp_in_nI (by omega) (by omega)
  have w2' : (nI (i + 2)).toNatClampNeg = i + 2 := nI_clamp (by omega)
  have a3 : nI i + 3 = nI (i + 3) := nI_add i 3
  have v3' : vp_in (nI (i + 3)) SL := vp_in_nI (by omega) (by omega)
  have w3' : (nI (i + 3)).toNatClampNeg = i + 3 := nI_clamp (by omega)
  simp only [k259_1056, k259_1057, k259_1058, k259_1059, k259_1060, k259_1061, k259_1062, k259_1063, k259_1064, k259_1065, k259_1066, k259_1067, k259_1068, k259_1069, k259_1070, k259_1071, k259_1072, ab_inv_I, ab_inv_R, ab_inv_L, ab_inv_0, ab_push_some, ab_push_none, ab_E_sw, ab_E_sw0, true_and, and_true, not_false_eq_true, a1, v1', w1', a2, v2', w2', a3, v3', w3', h1, h2, h3, h5, u1, u2, Int32.reduceAdd, Int32.reduceMul, Int32.reduceSub, Int32.reduceDiv, Int32.reduceLT, Int32.reduceLE, Int32.reduceToNatClampNeg, i10, i01, ↓reduceIte, if_true, if_false]
  refine prI (d := 99) h6 r128 (p_settle (d := 88) hR) fun x g1 I1 J1 K hM => ?_
  obtain ⟨⟨h1, h2, h3, h4⟩, h5, h6⟩ := kp_lw hR K
  simp only [k259_1075, k259_1076, k259_1077, k259_1078, k259_1079, k259_1080, k259_1081, k259_1082, k259_1083, k259_1084, k259_1085, k259_1086, k259_1087, k259_1088, k259_1089, k259_1090, k259_1091, ab_inv_I, ab_inv_R, ab_inv_L, ab_inv_0, ab_push_some, ab_push_none, ab_E_sw, ab_E_sw0, true_and, and_true, not_false_eq_true, a1, v1', w1', a2, v2', w2', a3, v3', w3', h1, h2, h4, h5, u1, u2, Int32.reduceAdd, Int32.reduceMul, Int32.reduceSub, Int32.reduceDiv, Int32.reduceLT, Int32.reduceLE, Int32.reduceToNatClampNeg, i10, i01, ↓reduceIte, if_true, if_false]
  refine ab_run_m _ _ _ _ _ _ _ _ (fun r g2 I2 J2 z => ?_) hM
  obtain ⟨z1, z2⟩ := z
  subst z1
  simp only [k259_1094, ab_inv_I, ab_inv_R, ab_inv_L, ab_inv_0, ab_push_some, ab_push_none, ab_E_sw, ab_E_sw0, true_and, and_true, not_false_eq_true, lg_self, if_true]
  exact hQ g2 I2 J2 _ _ z2 (by omega) (by omega)
set_option maxRecDepth 20000 in
theorem cs_29_law (hR : REL SL xs g I J) (hi : i + 6 ≤ SL) (hS : SL ≤ 384) (hce : ce + 5 ≤ 600000) (hsl : sl + 257 ≤ 7302249) (hQ : ∀ g' I' J' ce' sl', REL SL xs g' I' J' → ce' ≤ ce + 5 → sl' ≤ sl + 257 → ab_E 100 259 1539 [some (vR (some 10)), some (vR (some 29)), some (vR (some 101)), some (vI (nI i))] [] ce' sl' g' I' J' Q) : ab_E 100 259 1099 [some (vR (some 10)), some (vR (some 29)), some (vR (some 101)), some (vI (nI i))] [] ce sl g I J Q := by
  have h := REL_lw hR
  obtain ⟨⟨h1, h2, h3, h4⟩, h5, h6⟩ := h
  have u1 : ce ≤ 600000 := by omega
  have u2 : sl ≤ 7302249 := by omega
  have a1 : nI i + 1 = nI (i + 1) := nI_add i 1
  have v1' : vp_in (nI (i + 1)) SL := vp_in_nI (by omega) (by omega)
  have w1' : (nI (i + 1)).toNatClampNeg = i + 1 := nI_clamp (by omega)
  have a2 : nI i + 2 = nI (i + 2) := nI_add i 2
  have v2' : vp_in (nI (i + 2)) SL := vp_in_nI (by omega) (by omega)
  have w2' : (nI (i + 2)).toNatClampNeg = i + 2 := nI_clamp (by omega)
  simp only [k259_1099, k259_1100, k259_1101, k259_1102, k259_1103, k259_1104, k259_1105, k259_1106, k259_1107, k259_1108, k259_1109, k259_1110, ab_inv_I, ab_inv_R, ab_inv_L, ab_inv_0, ab_push_some, ab_push_none, ab_E_sw, ab_E_sw0, true_and, and_true, not_false_eq_true, a1, v1', w1', a2, v2', w2', h1, h2, h3, h5, u1, u2, Int32.reduceAdd, Int32.reduceMul, Int32.reduceSub, Int32.reduceDiv, Int32.reduceLT, Int32.reduceLE, Int32.reduceToNatClampNeg, i10, i01, ↓reduceIte, if_true, if_false]
  refine prI (d := 99) h6 r129 (p_edge (d := 88) hR) fun x g1 I1 J1 K hM => ?_
  obtain ⟨⟨h1, h2, h3, h4⟩, h5, h6⟩ := kp_lw hR K
  simp only [k259_1113, k259_1114, k259_1115, k259_1116, k259_1117, k259_1118, k259_1119, k259_1120, k259_1121, k259_1122, k259_1123, k259_1124, ab_inv_I, ab_inv_R, ab_inv_L, ab_inv_0, ab_push_some, ab_push_none, ab_E_sw, ab_E_sw0, true_and, and_true, not_false_eq_true, a1, v1', w1', a2, v2', w2', h1, h2, h4, h5, u1, u2, Int32.reduceAdd, Int32.reduceMul, Int32.reduceSub, Int32.reduceDiv, Int32.reduceLT, Int32.reduceLE, Int32.reduceToNatClampNeg, i10, i01, ↓reduceIte, if_true, if_false]
  refine ab_run_m _ _ _ _ _ _ _ _ (fun r g2 I2 J2 z => ?_) hM
  obtain ⟨z1, z2⟩ := z
  subst z1
  simp only [k259_1127, ab_inv_I, ab_inv_R, ab_inv_L, ab_inv_0, ab_push_some, ab_push_none, ab_E_sw, ab_E_sw0, true_and, and_true, not_false_eq_true, lg_self, if_true]
  exact hQ g2 I2 J2 _ _ z2 (by omega) (by omega)
set_option maxRecDepth 20000 in
theorem cs_30_law (hR : REL SL xs g I J) (hi : i + 6 ≤ SL) (hS : SL ≤ 384) (hce : ce + 5 ≤ 600000) (hsl : sl + 257 ≤ 7302249) (hQ : ∀ g' I' J' ce' sl', REL SL xs g' I' J' → ce' ≤ ce + 5 → sl' ≤ sl + 257 → ab_E 100 259 1539 [some (vR (some 10)), some (vR (some 29)), some (vR (some 101)), some (vI (nI i))] [] ce' sl' g' I' J' Q) : ab_E 100 259 1132 [some (vR (some 10)), some (vR (some 29)), some (vR (some 101)), some (vI (nI i))] [] ce sl g I J Q := by
  have h := REL_lw hR
  obtain ⟨⟨h1, h2, h3, h4⟩, h5, h6⟩ := h
  have u1 : ce ≤ 600000 := by omega
  have u2 : sl ≤ 7302249 := by omega
  have a1 : nI i + 1 = nI (i + 1) := nI_add i 1
  have v1' : vp_in (nI (i + 1)) SL := vp_in_nI (by omega) (by omega)
  have w1' : (nI (i + 1)).toNatClampNeg = i + 1 := nI_clamp (by omega)
  have a2 : nI i + 2 = nI (i + 2) := nI_add i 2
  have v2' : vp_in (nI (i + 2)) SL := vp_in_nI (by omega) (by omega)
  have w2' : (nI (i + 2)).toNatClampNeg = i + 2 := nI_clamp (by omega)
  simp only [k259_1132, k259_1133, k259_1134, k259_1135, k259_1136, k259_1137, k259_1138, k259_1139, k259_1140, k259_1141, k259_1142, k259_1143, ab_inv_I, ab_inv_R, ab_inv_L, ab_inv_0, ab_push_some, ab_push_none, ab_E_sw, ab_E_sw0, true_and, and_true, not_false_eq_true, a1, v1', w1', a2, v2', w2', h1, h2, h3, h5, u1, u2, Int32.reduceAdd, Int32.reduceMul, Int32.reduceSub, Int32.reduceDiv, Int32.reduceLT, Int32.reduceLE, Int32.reduceToNatClampNeg, i10, i01, ↓reduceIte, if_true, if_false]
  refine prI (d := 99) h6 r132 (p_many (d := 97) hR) fun x g1 I1 J1 K hM => ?_
  obtain ⟨⟨h1, h2, h3, h4⟩, h5, h6⟩ := kp_lw hR K
  simp only [k259_1146, k259_1147, k259_1148, k259_1149, k259_1150, k259_1151, k259_1152, k259_1153, k259_1154, k259_1155, k259_1156, k259_1157, ab_inv_I, ab_inv_R, ab_inv_L, ab_inv_0, ab_push_some, ab_push_none, ab_E_sw, ab_E_sw0, true_and, and_true, not_false_eq_true, a1, v1', w1', a2, v2', w2', h1, h2, h4, h5, u1, u2, Int32.reduceAdd, Int32.reduceMul, Int32.reduceSub, Int32.reduceDiv, Int32.reduceLT, Int32.reduceLE, Int32.reduceToNatClampNeg, i10, i01, ↓reduceIte, if_true, if_false]
  refine ab_run_m _ _ _ _ _ _ _ _ (fun r g2 I2 J2 z => ?_) hM
  obtain ⟨z1, z2⟩ := z
  subst z1
  simp only [k259_1160, ab_inv_I, ab_inv_R, ab_inv_L, ab_inv_0, ab_push_some, ab_push_none, ab_E_sw, ab_E_sw0, true_and, and_true, not_false_eq_true, lg_self, if_true]
  exact hQ g2 I2 J2 _ _ z2 (by omega) (by omega)
set_option maxRecDepth 20000 in
theorem cs_31_law (hR : REL SL xs g I J) (hi : i + 6 ≤ SL) (hS : SL ≤ 384) (hce : ce + 5 ≤ 600000) (hsl : sl + 257 ≤ 7302249) (hQ : ∀ g' I' J' ce' sl', REL SL xs g' I' J' → ce' ≤ ce + 5 → sl' ≤ sl + 257 → ab_E 100 259 1539 [some (vR (some 10)), some (vR (some 29)), some (vR (some 101)), some (vI (nI i))] [] ce' sl' g' I' J' Q) : ab_E 100 259 1165 [some (vR (some 10)), some (vR (some 29)), some (vR (some 101)), some (vI (nI i))] [] ce sl g I J Q := by
  have h := REL_lw hR
  obtain ⟨⟨h1, h2, h3, h4⟩, h5, h6⟩ := h
  have u1 : ce ≤ 600000 := by omega
  have u2 : sl ≤ 7302249 := by omega
  have a1 : nI i + 1 = nI (i + 1) := nI_add i 1
  have v1' : vp_in (nI (i + 1)) SL := vp_in_nI (by omega) (by omega)
  have w1' : (nI (i + 1)).toNatClampNeg = i + 1 := nI_clamp (by omega)
  have a2 : nI i + 2 = nI (i + 2) := nI_add i 2
  have v2' : vp_in (nI (i + 2)) SL := vp_in_nI (by omega) (by omega)
  have w2' : (nI (i + 2)).toNatClampNeg = i + 2 := nI_clamp (by omega)
  simp only [k259_1165, k259_1166, k259_1167, k259_1168, k259_1169, k259_1170, k259_1171, k259_1172, k259_1173, k259_1174, k259_1175, k259_1176, ab_inv_I, ab_inv_R, ab_inv_L, ab_inv_0, ab_push_some, ab_push_none, ab_E_sw, ab_E_sw0, true_and, and_true, not_false_eq_true, a1, v1', w1', a2, v2', w2', h1, h2, h3, h5, u1, u2, Int32.reduceAdd, Int32.reduceMul, Int32.reduceSub, Int32.reduceDiv, Int32.reduceLT, Int32.reduceLE, Int32.reduceToNatClampNeg, i10, i01, ↓reduceIte, if_true, if_false]
  refine prI (d := 99) h6 r133 (p_whose (d := 96) hR) fun x g1 I1 J1 K hM => ?_
  obtain ⟨⟨h1, h2, h3, h4⟩, h5, h6⟩ := kp_lw hR K
  simp only [k259_1179, k259_1180, k259_1181, k259_1182, k259_1183, k259_1184, k259_1185, k259_1186, k259_1187, k259_1188, k259_1189, k259_1190, ab_inv_I, ab_inv_R, ab_inv_L, ab_inv_0, ab_push_some, ab_push_none, ab_E_sw, ab_E_sw0, true_and, and_true, not_false_eq_true, a1, v1', w1', a2, v2', w2', h1, h2, h4, h5, u1, u2, Int32.reduceAdd, Int32.reduceMul, Int32.reduceSub, Int32.reduceDiv, Int32.reduceLT, Int32.reduceLE, Int32.reduceToNatClampNeg, i10, i01, ↓reduceIte, if_true, if_false]
  refine ab_run_m _ _ _ _ _ _ _ _ (fun r g2 I2 J2 z => ?_) hM
  obtain ⟨z1, z2⟩ := z
  subst z1
  simp only [k259_1193, ab_inv_I, ab_inv_R, ab_inv_L, ab_inv_0, ab_push_some, ab_push_none, ab_E_sw, ab_E_sw0, true_and, and_true, not_false_eq_true, lg_self, if_true]
  exact hQ g2 I2 J2 _ _ z2 (by omega) (by omega)
set_option maxRecDepth 20000 in
theorem cs_32_law (hR : REL SL xs g I J) (hi : i + 6 ≤ SL) (hS : SL ≤ 384) (hce : ce + 5 ≤ 600000) (hsl : sl + 257 ≤ 7302249) (hQ : ∀ g' I' J' ce' sl', REL SL xs g' I' J' → ce' ≤ ce + 5 → sl' ≤ sl + 257 → ab_E 100 259 1539 [some (vR (some 10)), some (vR (some 29)), some (vR (some 101)), some (vI (nI i))] [] ce' sl' g' I' J' Q) : ab_E 100 259 1198 [some (vR (some 10)), some (vR (some 29)), some (vR (some 101)), some (vI (nI i))] [] ce sl g I J Q := by
  have h := REL_lw hR
  obtain ⟨⟨h1, h2, h3, h4⟩, h5, h6⟩ := h
  have u1 : ce ≤ 600000 := by omega
  have u2 : sl ≤ 7302249 := by omega
  have a1 : nI i + 1 = nI (i + 1) := nI_add i 1
  have v1' : vp_in (nI (i + 1)) SL := vp_in_nI (by omega) (by omega)
  have w1' : (nI (i + 1)).toNatClampNeg = i + 1 := nI_clamp (by omega)
  have a2 : nI i + 2 = nI (i + 2) := nI_add i 2
  have v2' : vp_in (nI (i + 2)) SL := vp_in_nI (by omega) (by omega)
  have w2' : (nI (i + 2)).toNatClampNeg = i + 2 := nI_clamp (by omega)
  have a3 : nI i + 3 = nI (i + 3) := nI_add i 3
  have v3' : vp_in (nI (i + 3)) SL := vp_in_nI (by omega) (by omega)
  have w3' : (nI (i + 3)).toNatClampNeg = i + 3 := nI_clamp (by omega)
  simp only [k259_1198, k259_1199, k259_1200, k259_1201, k259_1202, k259_1203, k259_1204, k259_1205, k259_1206, k259_1207, k259_1208, k259_1209, k259_1210, k259_1211, k259_1212, k259_1213, k259_1214, ab_inv_I, ab_inv_R, ab_inv_L, ab_inv_0, ab_push_some, ab_push_none, ab_E_sw, ab_E_sw0, true_and, and_true, not_false_eq_true, a1, v1', w1', a2, v2', w2', a3, v3', w3', h1, h2, h3, h5, u1, u2, Int32.reduceAdd, Int32.reduceMul, Int32.reduceSub, Int32.reduceDiv, Int32.reduceLT, Int32.reduceLE, Int32.reduceToNatClampNeg, i10, i01, ↓reduceIte, if_true, if_false]
  refine prI (d := 99) h6 r137 (p_part (d := 96) hR) fun x g1 I1 J1 K hM => ?_
  obtain ⟨⟨h1, h2, h3, h4⟩, h5, h6⟩ := kp_lw hR K
  simp only [k259_1217, k259_1218, k259_1219, k259_1220, k259_1221, k259_1222, k259_1223, k259_1224, k259_1225, k259_1226, k259_1227, k259_1228, k259_1229, k259_1230, k259_1231, k259_1232, k259_1233, ab_inv_I, ab_inv_R, ab_inv_L, ab_inv_0, ab_push_some, ab_push_none, ab_E_sw, ab_E_sw0, true_and, and_true, not_false_eq_true, a1, v1', w1', a2, v2', w2', a3, v3', w3', h1, h2, h4, h5, u1, u2, Int32.reduceAdd, Int32.reduceMul, Int32.reduceSub, Int32.reduceDiv, Int32.reduceLT, Int32.reduceLE, Int32.reduceToNatClampNeg, i10, i01, ↓reduceIte, if_true, if_false]
  refine ab_run_m _ _ _ _ _ _ _ _ (fun r g2 I2 J2 z => ?_) hM
  obtain ⟨z1, z2⟩ := z
  subst z1
  simp only [k259_1236, ab_inv_I, ab_inv_R, ab_inv_L, ab_inv_0, ab_push_some, ab_push_none, ab_E_sw, ab_E_sw0, true_and, and_true, not_false_eq_true, lg_self, if_true]
  exact hQ g2 I2 J2 _ _ z2 (by omega) (by omega)
set_option maxRecDepth 20000 in
theorem cs_33_law (hR : REL SL xs g I J) (hi : i + 6 ≤ SL) (hS : SL ≤ 384) (hce : ce + 5 ≤ 600000) (hsl : sl + 257 ≤ 7302249) (hQ : ∀ g' I' J' ce' sl', REL SL xs g' I' J' → ce' ≤ ce + 5 → sl' ≤ sl + 257 → ab_E 100 259 1539 [some (vR (some 10)), some (vR (some 29)), some (vR (some 101)), some (vI (nI i))] [] ce' sl' g' I' J' Q) : ab_E 100 259 1241 [some (vR (some 10)), some (vR (some 29)), some (vR (some 101)), some (vI (nI i))] [] ce sl g I J Q := by
  have h := REL_lw hR
  obtain ⟨⟨h1, h2, h3, h4⟩, h5, h6⟩ := h
  have u1 : ce ≤ 600000 := by omega
  have u2 : sl ≤ 7302249 := by omega
  have a1 : nI i + 1 = nI (i + 1) := nI_add i 1
  have v1' : vp_in (nI (i + 1)) SL := vp_in_nI (by omega) (by omega)
  have w1' : (nI (i + 1)).toNatClampNeg = i + 1 := nI_clamp (by omega)
  have a2 : nI i + 2 = nI (i + 2) := nI_add i 2
  have v2' : vp_in (nI (i + 2)) SL := vp_in_nI (by omega) (by omega)
  have w2' : (nI (i + 2)).toNatClampNeg = i + 2 := nI_clamp (by omega)
  have a3 : nI i + 3 = nI (i + 3) := nI_add i 3
  have v3' : vp_in (nI (i + 3)) SL := vp_in_nI (by omega) (by omega)
  have w3' : (nI (i + 3)).toNatClampNeg = i + 3 := nI_clamp (by omega)
  simp only [k259_1241, k259_1242, k259_1243, k259_1244, k259_1245, k259_1246, k259_1247, k259_1248, k259_1249, k259_1250, k259_1251, k259_1252, k259_1253, k259_1254, k259_1255, k259_1256, k259_1257, ab_inv_I, ab_inv_R, ab_inv_L, ab_inv_0, ab_push_some, ab_push_none, ab_E_sw, ab_E_sw0, true_and, and_true, not_false_eq_true, a1, v1', w1', a2, v2', w2', a3, v3', w3', h1, h2, h3, h5, u1, u2, Int32.reduceAdd, Int32.reduceMul, Int32.reduceSub, Int32.reduceDiv, Int32.reduceLT, Int32.reduceLE, Int32.reduceToNatClampNeg, i10, i01, ↓reduceIte, if_true, if_false]
  refine prI (d := 99) h6 r138 (p_sheet (d := 96) hR) fun x g1 I1 J1 K hM => ?_
  obtain ⟨⟨h1, h2, h3, h4⟩, h5, h6⟩ := kp_lw hR K
  simp only [k259_1260, k259_1261, k259_1262, k259_1263, k259_1264, k259_1265, k259_1266, k259_1267, k259_1268, k259_1269, k259_1270, k259_1271, k259_1272, k259_1273, k259_1274, k259_1275, k259_1276, ab_inv_I, ab_inv_R, ab_inv_L, ab_inv_0, ab_push_some, ab_push_none, ab_E_sw, ab_E_sw0, true_and, and_true, not_false_eq_true, a1, v1', w1', a2, v2', w2', a3, v3', w3', h1, h2, h4, h5, u1, u2, Int32.reduceAdd, Int32.reduceMul, Int32.reduceSub, Int32.reduceDiv, Int32.reduceLT, Int32.reduceLE, Int32.reduceToNatClampNeg, i10, i01, ↓reduceIte, if_true, if_false]
  refine ab_run_m _ _ _ _ _ _ _ _ (fun r g2 I2 J2 z => ?_) hM
  obtain ⟨z1, z2⟩ := z
  subst z1
  simp only [k259_1279, ab_inv_I, ab_inv_R, ab_inv_L, ab_inv_0, ab_push_some, ab_push_none, ab_E_sw, ab_E_sw0, true_and, and_true, not_false_eq_true, lg_self, if_true]
  exact hQ g2 I2 J2 _ _ z2 (by omega) (by omega)
set_option maxRecDepth 20000 in
theorem cs_34_law (hR : REL SL xs g I J) (hi : i + 6 ≤ SL) (hS : SL ≤ 384) (hce : ce + 5 ≤ 600000) (hsl : sl + 257 ≤ 7302249) (hQ : ∀ g' I' J' ce' sl', REL SL xs g' I' J' → ce' ≤ ce + 5 → sl' ≤ sl + 257 → ab_E 100 259 1539 [some (vR (some 10)), some (vR (some 29)), some (vR (some 101)), some (vI (nI i))] [] ce' sl' g' I' J' Q) : ab_E 100 259 1284 [some (vR (some 10)), some (vR (some 29)), some (vR (some 101)), some (vI (nI i))] [] ce sl g I J Q := by
  have h := REL_lw hR
  obtain ⟨⟨h1, h2, h3, h4⟩, h5, h6⟩ := h
  have u1 : ce ≤ 600000 := by omega
  have u2 : sl ≤ 7302249 := by omega
  have a1 : nI i + 1 = nI (i + 1) := nI_add i 1
  have v1' : vp_in (nI (i + 1)) SL := vp_in_nI (by omega) (by omega)
  have w1' : (nI (i + 1)).toNatClampNeg = i + 1 := nI_clamp (by omega)
  have a2 : nI i + 2 = nI (i + 2) := nI_add i 2
  have v2' : vp_in (nI (i + 2)) SL := vp_in_nI (by omega) (by omega)
  have w2' : (nI (i + 2)).toNatClampNeg = i + 2 := nI_clamp (by omega)
  have a3 : nI i + 3 = nI (i + 3) := nI_add i 3
  have v3' : vp_in (nI (i + 3)) SL := vp_in_nI (by omega) (by omega)
  have w3' : (nI (i + 3)).toNatClampNeg = i + 3 := nI_clamp (by omega)
  have a4 : nI i + 4 = nI (i + 4) := nI_add i 4
  have v4' : vp_in (nI (i + 4)) SL := vp_in_nI (by omega) (by omega)
  have w4' : (nI (i + 4)).toNatClampNeg = i + 4 := nI_clamp (by omega)
  simp only [k259_1284, k259_1285, k259_1286, k259_1287, k259_1288, k259_1289, k259_1290, k259_1291, k259_1292, k259_1293, k259_1294, k259_1295, k259_1296, k259_1297, k259_1298, k259_1299, k259_1300, k259_1301, k259_1303, k259_1304, k259_1305, k259_1306, k259_1307, k259_1308, k259_1309, k259_1310, k259_1313, k259_1314, k259_1315, ab_inv_I, ab_inv_R, ab_inv_L, ab_inv_0, ab_push_some, ab_push_none, ab_E_sw, ab_E_sw0, true_and, and_true, not_false_eq_true, a1, v1', w1', a2, v2', w2', a3, v3', w3', a4, v4', w4', h1, h2, h3, h5, u1, u2, Int32.reduceAdd, Int32.reduceMul, Int32.reduceSub, Int32.reduceDiv, Int32.reduceLT, Int32.reduceLE, Int32.reduceToNatClampNeg, i10, i01, ↓reduceIte, if_true, if_false]
  refine prL (d := 99) h6 r141 (p_write (d := 96) hR) fun x g1 I1 J1 K hM => ?_
  obtain ⟨⟨h1, h2, h3, h4⟩, h5, h6⟩ := kp_lw hR K
  simp only [k259_1318, k259_1319, k259_1320, k259_1321, k259_1322, k259_1323, k259_1324, k259_1325, k259_1326, k259_1327, k259_1328, k259_1329, k259_1330, k259_1331, k259_1332, k259_1333, k259_1334, k259_1335, k259_1337, k259_1338, k259_1339, k259_1340, k259_1341, k259_1342, k259_1343, k259_1344, k259_1347, k259_1348, k259_1349, ab_inv_I, ab_inv_R, ab_inv_L, ab_inv_0, ab_push_some, ab_push_none, ab_E_sw, ab_E_sw0, true_and, and_true, not_false_eq_true, a1, v1', w1', a2, v2', w2', a3, v3', w3', a4, v4', w4', h1, h2, h4, h5, u1, u2, Int32.reduceAdd, Int32.reduceMul, Int32.reduceSub, Int32.reduceDiv, Int32.reduceLT, Int32.reduceLE, Int32.reduceToNatClampNeg, i10, i01, ↓reduceIte, if_true, if_false]
  refine ab_run_m _ _ _ _ _ _ _ _ (fun r g2 I2 J2 z => ?_) hM
  obtain ⟨z1, z2⟩ := z
  subst z1
  simp only [k259_1352, k259_1353, ab_inv_I, ab_inv_R, ab_inv_L, ab_inv_0, ab_push_some, ab_push_none, ab_E_sw, ab_E_sw0, true_and, and_true, not_false_eq_true, lg_self, if_true]
  exact hQ g2 I2 J2 _ _ z2 (by omega) (by omega)
set_option maxRecDepth 20000 in
theorem cs_35_law (hR : REL SL xs g I J) (hi : i + 6 ≤ SL) (hS : SL ≤ 384) (hce : ce + 5 ≤ 600000) (hsl : sl + 257 ≤ 7302249) (hQ : ∀ g' I' J' ce' sl', REL SL xs g' I' J' → ce' ≤ ce + 5 → sl' ≤ sl + 257 → ab_E 100 259 1539 [some (vR (some 10)), some (vR (some 29)), some (vR (some 101)), some (vI (nI i))] [] ce' sl' g' I' J' Q) : ab_E 100 259 1358 [some (vR (some 10)), some (vR (some 29)), some (vR (some 101)), some (vI (nI i))] [] ce sl g I J Q := by
  have h := REL_lw hR
  obtain ⟨⟨h1, h2, h3, h4⟩, h5, h6⟩ := h
  have u1 : ce ≤ 600000 := by omega
  have u2 : sl ≤ 7302249 := by omega
  have a1 : nI i + 1 = nI (i + 1) := nI_add i 1
  have v1' : vp_in (nI (i + 1)) SL := vp_in_nI (by omega) (by omega)
  have w1' : (nI (i + 1)).toNatClampNeg = i + 1 := nI_clamp (by omega)
  have a2 : nI i + 2 = nI (i + 2) := nI_add i 2
  have v2' : vp_in (nI (i + 2)) SL := vp_in_nI (by omega) (by omega)
  have w2' : (nI (i + 2)).toNatClampNeg = i + 2 := nI_clamp (by omega)
  have a3 : nI i + 3 = nI (i + 3) := nI_add i 3
  have v3' : vp_in (nI (i + 3)) SL := vp_in_nI (by omega) (by omega)
  have w3' : (nI (i + 3)).toNatClampNeg = i + 3 := nI_clamp (by omega)
  have a4 : nI i + 4 = nI (i + 4) := nI_add i 4
  have v4' : vp_in (nI (i + 4)) SL := vp_in_nI (by omega) (by omega)
  have w4' : (nI (i + 4)).toNatClampNeg = i + 4 := nI_clamp (by omega)
  have a5 : nI i + 5 = nI (i + 5) := nI_add i 5
  have v5' : vp_in (nI (i + 5)) SL := vp_in_nI (by omega) (by omega)
  have w5' : (nI (i + 5)).toNatClampNeg = i + 5 := nI_clamp (by omega)
  simp only [k259_1358, k259_1359, k259_1360, k259_1361, k259_1362, k259_1363, k259_1364, k259_1365, k259_1366, k259_1367, k259_1368, k259_1369, k259_1370, k259_1371, k259_1372, k259_1373, k259_1374, k259_1375, k259_1376, k259_1377, k259_1378, k259_1379, k259_1380, k259_1381, k259_1382, k259_1383, k259_1384, ab_inv_I, ab_inv_R, ab_inv_L, ab_inv_0, ab_push_some, ab_push_none, ab_E_sw, ab_E_sw0, true_and, and_true, not_false_eq_true, a1, v1', w1', a2, v2', w2', a3, v3', w3', a4, v4', w4', a5, v5', w5', h1, h2, h3, h5, u1, u2, Int32.reduceAdd, Int32.reduceMul, Int32.reduceSub, Int32.reduceDiv, Int32.reduceLT, Int32.reduceLE, Int32.reduceToNatClampNeg, i10, i01, ↓reduceIte, if_true, if_false]
  refine prI (d := 99) h6 r144 (p_copy (d := 96) hR) fun x g1 I1 J1 K hM => ?_
  obtain ⟨⟨h1, h2, h3, h4⟩, h5, h6⟩ := kp_lw hR K
  simp only [k259_1387, k259_1388, k259_1389, k259_1390, k259_1391, k259_1392, k259_1393, k259_1394, k259_1395, k259_1396, k259_1397, k259_1398, k259_1399, k259_1400, k259_1401, k259_1402, k259_1403, k259_1404, k259_1405, k259_1406, k259_1407, k259_1408, k259_1409, k259_1410, k259_1411, k259_1412, k259_1413, ab_inv_I, ab_inv_R, ab_inv_L, ab_inv_0, ab_push_some, ab_push_none, ab_E_sw, ab_E_sw0, true_and, and_true, not_false_eq_true, a1, v1', w1', a2, v2', w2', a3, v3', w3', a4, v4', w4', a5, v5', w5', h1, h2, h4, h5, u1, u2, Int32.reduceAdd, Int32.reduceMul, Int32.reduceSub, Int32.reduceDiv, Int32.reduceLT, Int32.reduceLE, Int32.reduceToNatClampNeg, i10, i01, ↓reduceIte, if_true, if_false]
  refine ab_run_m _ _ _ _ _ _ _ _ (fun r g2 I2 J2 z => ?_) hM
  obtain ⟨z1, z2⟩ := z
  subst z1
  simp only [k259_1416, ab_inv_I, ab_inv_R, ab_inv_L, ab_inv_0, ab_push_some, ab_push_none, ab_E_sw, ab_E_sw0, true_and, and_true, not_false_eq_true, lg_self, if_true]
  exact hQ g2 I2 J2 _ _ z2 (by omega) (by omega)
set_option maxRecDepth 20000 in
theorem cs_36_law (hR : REL SL xs g I J) (hi : i + 6 ≤ SL) (hS : SL ≤ 384) (hce : ce + 5 ≤ 600000) (hsl : sl + 257 ≤ 7302249) (hQ : ∀ g' I' J' ce' sl', REL SL xs g' I' J' → ce' ≤ ce + 5 → sl' ≤ sl + 257 → ab_E 100 259 1539 [some (vR (some 10)), some (vR (some 29)), some (vR (some 101)), some (vI (nI i))] [] ce' sl' g' I' J' Q) : ab_E 100 259 1421 [some (vR (some 10)), some (vR (some 29)), some (vR (some 101)), some (vI (nI i))] [] ce sl g I J Q := by
  have h := REL_lw hR
  obtain ⟨⟨h1, h2, h3, h4⟩, h5, h6⟩ := h
  have u1 : ce ≤ 600000 := by omega
  have u2 : sl ≤ 7302249 := by omega
  have a1 : nI i + 1 = nI (i + 1) := nI_add i 1
  have v1' : vp_in (nI (i + 1)) SL := vp_in_nI (by omega) (by omega)
  have w1' : (nI (i + 1)).toNatClampNeg = i + 1 := nI_clamp (by omega)
  have a2 : nI i + 2 = nI (i + 2) := nI_add i 2
  have v2' : vp_in (nI (i + 2)) SL := vp_in_nI (by omega) (by omega)
  have w2' : (nI (i + 2)).toNatClampNeg = i + 2 := nI_clamp (by omega)
  simp only [k259_1421, k259_1422, k259_1423, k259_1424, k259_1425, k259_1426, k259_1427, k259_1428, k259_1429, k259_1430, k259_1431, k259_1432, ab_inv_I, ab_inv_R, ab_inv_L, ab_inv_0, ab_push_some, ab_push_none, ab_E_sw, ab_E_sw0, true_and, and_true, not_false_eq_true, a1, v1', w1', a2, v2', w2', h1, h2, h3, h5, u1, u2, Int32.reduceAdd, Int32.reduceMul, Int32.reduceSub, Int32.reduceDiv, Int32.reduceLT, Int32.reduceLE, Int32.reduceToNatClampNeg, i10, i01, ↓reduceIte, if_true, if_false]
  refine prI (d := 99) h6 r146 (p_read (d := 88) hR) fun x g1 I1 J1 K hM => ?_
  obtain ⟨⟨h1, h2, h3, h4⟩, h5, h6⟩ := kp_lw hR K
  simp only [k259_1435, k259_1436, k259_1437, k259_1438, k259_1439, k259_1440, k259_1441, k259_1442, k259_1443, k259_1444, k259_1445, k259_1446, ab_inv_I, ab_inv_R, ab_inv_L, ab_inv_0, ab_push_some, ab_push_none, ab_E_sw, ab_E_sw0, true_and, and_true, not_false_eq_true, a1, v1', w1', a2, v2', w2', h1, h2, h4, h5, u1, u2, Int32.reduceAdd, Int32.reduceMul, Int32.reduceSub, Int32.reduceDiv, Int32.reduceLT, Int32.reduceLE, Int32.reduceToNatClampNeg, i10, i01, ↓reduceIte, if_true, if_false]
  refine ab_run_m _ _ _ _ _ _ _ _ (fun r g2 I2 J2 z => ?_) hM
  obtain ⟨z1, z2⟩ := z
  subst z1
  simp only [k259_1449, ab_inv_I, ab_inv_R, ab_inv_L, ab_inv_0, ab_push_some, ab_push_none, ab_E_sw, ab_E_sw0, true_and, and_true, not_false_eq_true, lg_self, if_true]
  exact hQ g2 I2 J2 _ _ z2 (by omega) (by omega)
set_option maxRecDepth 20000 in
theorem cs_37_law (hR : REL SL xs g I J) (hi : i + 6 ≤ SL) (hS : SL ≤ 384) (hce : ce + 5 ≤ 600000) (hsl : sl + 257 ≤ 7302249) (hQ : ∀ g' I' J' ce' sl', REL SL xs g' I' J' → ce' ≤ ce + 5 → sl' ≤ sl + 257 → ab_E 100 259 1539 [some (vR (some 10)), some (vR (some 29)), some (vR (some 101)), some (vI (nI i))] [] ce' sl' g' I' J' Q) : ab_E 100 259 1454 [some (vR (some 10)), some (vR (some 29)), some (vR (some 101)), some (vI (nI i))] [] ce sl g I J Q := by
  have h := REL_lw hR
  obtain ⟨⟨h1, h2, h3, h4⟩, h5, h6⟩ := h
  have u1 : ce ≤ 600000 := by omega
  have u2 : sl ≤ 7302249 := by omega
  simp only [k259_1454, k259_1455, ab_inv_I, ab_inv_R, ab_inv_L, ab_inv_0, ab_push_some, ab_push_none, ab_E_sw, ab_E_sw0, true_and, and_true, not_false_eq_true, h1, h2, h3, h5, u1, u2, Int32.reduceAdd, Int32.reduceMul, Int32.reduceSub, Int32.reduceDiv, Int32.reduceLT, Int32.reduceLE, Int32.reduceToNatClampNeg, i10, i01, ↓reduceIte, if_true, if_false]
  refine prI (d := 99) h6 r147 (p_image (d := 97) hR) fun x g1 I1 J1 K hM => ?_
  obtain ⟨⟨h1, h2, h3, h4⟩, h5, h6⟩ := kp_lw hR K
  simp only [k259_1458, k259_1459, ab_inv_I, ab_inv_R, ab_inv_L, ab_inv_0, ab_push_some, ab_push_none, ab_E_sw, ab_E_sw0, true_and, and_true, not_false_eq_true, h1, h2, h4, h5, u1, u2, Int32.reduceAdd, Int32.reduceMul, Int32.reduceSub, Int32.reduceDiv, Int32.reduceLT, Int32.reduceLE, Int32.reduceToNatClampNeg, i10, i01, ↓reduceIte, if_true, if_false]
  refine ab_run_m _ _ _ _ _ _ _ _ (fun r g2 I2 J2 z => ?_) hM
  obtain ⟨z1, z2⟩ := z
  subst z1
  simp only [k259_1462, ab_inv_I, ab_inv_R, ab_inv_L, ab_inv_0, ab_push_some, ab_push_none, ab_E_sw, ab_E_sw0, true_and, and_true, not_false_eq_true, lg_self, if_true]
  exact hQ g2 I2 J2 _ _ z2 (by omega) (by omega)
set_option maxRecDepth 20000 in
theorem cs_38_law (hR : REL SL xs g I J) (hi : i + 6 ≤ SL) (hS : SL ≤ 384) (hce : ce + 5 ≤ 600000) (hsl : sl + 257 ≤ 7302249) (hQ : ∀ g' I' J' ce' sl', REL SL xs g' I' J' → ce' ≤ ce + 5 → sl' ≤ sl + 257 → ab_E 100 259 1539 [some (vR (some 10)), some (vR (some 29)), some (vR (some 101)), some (vI (nI i))] [] ce' sl' g' I' J' Q) : ab_E 100 259 1467 [some (vR (some 10)), some (vR (some 29)), some (vR (some 101)), some (vI (nI i))] [] ce sl g I J Q := by
  have h := REL_lw hR
  obtain ⟨⟨h1, h2, h3, h4⟩, h5, h6⟩ := h
  have u1 : ce ≤ 600000 := by omega
  have u2 : sl ≤ 7302249 := by omega
  simp only [k259_1467, k259_1468, ab_inv_I, ab_inv_R, ab_inv_L, ab_inv_0, ab_push_some, ab_push_none, ab_E_sw, ab_E_sw0, true_and, and_true, not_false_eq_true, h1, h2, h3, h5, u1, u2, Int32.reduceAdd, Int32.reduceMul, Int32.reduceSub, Int32.reduceDiv, Int32.reduceLT, Int32.reduceLE, Int32.reduceToNatClampNeg, i10, i01, ↓reduceIte, if_true, if_false]
  refine prI (d := 99) h6 r149 (p_undo (d := 97) hR) fun x g1 I1 J1 K hM => ?_
  obtain ⟨⟨h1, h2, h3, h4⟩, h5, h6⟩ := kp_lw hR K
  simp only [k259_1471, k259_1472, ab_inv_I, ab_inv_R, ab_inv_L, ab_inv_0, ab_push_some, ab_push_none, ab_E_sw, ab_E_sw0, true_and, and_true, not_false_eq_true, h1, h2, h4, h5, u1, u2, Int32.reduceAdd, Int32.reduceMul, Int32.reduceSub, Int32.reduceDiv, Int32.reduceLT, Int32.reduceLE, Int32.reduceToNatClampNeg, i10, i01, ↓reduceIte, if_true, if_false]
  refine ab_run_m _ _ _ _ _ _ _ _ (fun r g2 I2 J2 z => ?_) hM
  obtain ⟨z1, z2⟩ := z
  subst z1
  simp only [k259_1475, ab_inv_I, ab_inv_R, ab_inv_L, ab_inv_0, ab_push_some, ab_push_none, ab_E_sw, ab_E_sw0, true_and, and_true, not_false_eq_true, lg_self, if_true]
  exact hQ g2 I2 J2 _ _ z2 (by omega) (by omega)
set_option maxRecDepth 20000 in
theorem cs_39_law (hR : REL SL xs g I J) (hi : i + 6 ≤ SL) (hS : SL ≤ 384) (hce : ce + 5 ≤ 600000) (hsl : sl + 257 ≤ 7302249) (hQ : ∀ g' I' J' ce' sl', REL SL xs g' I' J' → ce' ≤ ce + 5 → sl' ≤ sl + 257 → ab_E 100 259 1539 [some (vR (some 10)), some (vR (some 29)), some (vR (some 101)), some (vI (nI i))] [] ce' sl' g' I' J' Q) : ab_E 100 259 1480 [some (vR (some 10)), some (vR (some 29)), some (vR (some 101)), some (vI (nI i))] [] ce sl g I J Q := by
  have h := REL_lw hR
  obtain ⟨⟨h1, h2, h3, h4⟩, h5, h6⟩ := h
  have u1 : ce ≤ 600000 := by omega
  have u2 : sl ≤ 7302249 := by omega
  simp only [k259_1480, k259_1481, ab_inv_I, ab_inv_R, ab_inv_L, ab_inv_0, ab_push_some, ab_push_none, ab_E_sw, ab_E_sw0, true_and, and_true, not_false_eq_true, h1, h2, h3, h5, u1, u2, Int32.reduceAdd, Int32.reduceMul, Int32.reduceSub, Int32.reduceDiv, Int32.reduceLT, Int32.reduceLE, Int32.reduceToNatClampNeg, i10, i01, ↓reduceIte, if_true, if_false]
  refine prI (d := 99) h6 r150 (p_tear (d := 98) hR) fun x g1 I1 J1 K hM => ?_
  obtain ⟨⟨h1, h2, h3, h4⟩, h5, h6⟩ := kp_lw hR K
  simp only [k259_1484, k259_1485, ab_inv_I, ab_inv_R, ab_inv_L, ab_inv_0, ab_push_some, ab_push_none, ab_E_sw, ab_E_sw0, true_and, and_true, not_false_eq_true, h1, h2, h4, h5, u1, u2, Int32.reduceAdd, Int32.reduceMul, Int32.reduceSub, Int32.reduceDiv, Int32.reduceLT, Int32.reduceLE, Int32.reduceToNatClampNeg, i10, i01, ↓reduceIte, if_true, if_false]
  refine ab_run_m _ _ _ _ _ _ _ _ (fun r g2 I2 J2 z => ?_) hM
  obtain ⟨z1, z2⟩ := z
  subst z1
  simp only [k259_1488, ab_inv_I, ab_inv_R, ab_inv_L, ab_inv_0, ab_push_some, ab_push_none, ab_E_sw, ab_E_sw0, true_and, and_true, not_false_eq_true, lg_self, if_true]
  exact hQ g2 I2 J2 _ _ z2 (by omega) (by omega)
set_option maxRecDepth 20000 in
theorem cs_40_law (hR : REL SL xs g I J) (hi : i + 6 ≤ SL) (hS : SL ≤ 384) (hce : ce + 5 ≤ 600000) (hsl : sl + 257 ≤ 7302249) (hQ : ∀ g' I' J' ce' sl', REL SL xs g' I' J' → ce' ≤ ce + 5 → sl' ≤ sl + 257 → ab_E 100 259 1539 [some (vR (some 10)), some (vR (some 29)), some (vR (some 101)), some (vI (nI i))] [] ce' sl' g' I' J' Q) : ab_E 100 259 1493 [some (vR (some 10)), some (vR (some 29)), some (vR (some 101)), some (vI (nI i))] [] ce sl g I J Q := by
  have h := REL_lw hR
  obtain ⟨⟨h1, h2, h3, h4⟩, h5, h6⟩ := h
  have u1 : ce ≤ 600000 := by omega
  have u2 : sl ≤ 7302249 := by omega
  have a1 : nI i + 1 = nI (i + 1) := nI_add i 1
  have v1' : vp_in (nI (i + 1)) SL := vp_in_nI (by omega) (by omega)
  have w1' : (nI (i + 1)).toNatClampNeg = i + 1 := nI_clamp (by omega)
  simp only [k259_1493, k259_1494, k259_1495, k259_1496, k259_1497, k259_1498, k259_1499, ab_inv_I, ab_inv_R, ab_inv_L, ab_inv_0, ab_push_some, ab_push_none, ab_E_sw, ab_E_sw0, true_and, and_true, not_false_eq_true, a1, v1', w1', h1, h2, h3, h5, u1, u2, Int32.reduceAdd, Int32.reduceMul, Int32.reduceSub, Int32.reduceDiv, Int32.reduceLT, Int32.reduceLE, Int32.reduceToNatClampNeg, i10, i01, ↓reduceIte, if_true, if_false]
  refine prI (d := 99) h6 r151 (p_look (d := 97) hR) fun x g1 I1 J1 K hM => ?_
  obtain ⟨⟨h1, h2, h3, h4⟩, h5, h6⟩ := kp_lw hR K
  simp only [k259_1502, k259_1503, k259_1504, k259_1505, k259_1506, k259_1507, k259_1508, ab_inv_I, ab_inv_R, ab_inv_L, ab_inv_0, ab_push_some, ab_push_none, ab_E_sw, ab_E_sw0, true_and, and_true, not_false_eq_true, a1, v1', w1', h1, h2, h4, h5, u1, u2, Int32.reduceAdd, Int32.reduceMul, Int32.reduceSub, Int32.reduceDiv, Int32.reduceLT, Int32.reduceLE, Int32.reduceToNatClampNeg, i10, i01, ↓reduceIte, if_true, if_false]
  refine ab_run_m _ _ _ _ _ _ _ _ (fun r g2 I2 J2 z => ?_) hM
  obtain ⟨z1, z2⟩ := z
  subst z1
  simp only [k259_1511, ab_inv_I, ab_inv_R, ab_inv_L, ab_inv_0, ab_push_some, ab_push_none, ab_E_sw, ab_E_sw0, true_and, and_true, not_false_eq_true, lg_self, if_true]
  exact hQ g2 I2 J2 _ _ z2 (by omega) (by omega)
set_option maxRecDepth 20000 in
theorem cs_41_law (hR : REL SL xs g I J) (hi : i + 6 ≤ SL) (hS : SL ≤ 384) (hce : ce + 5 ≤ 600000) (hsl : sl + 257 ≤ 7302249) (hQ : ∀ g' I' J' ce' sl', REL SL xs g' I' J' → ce' ≤ ce + 5 → sl' ≤ sl + 257 → ab_E 100 259 1539 [some (vR (some 10)), some (vR (some 29)), some (vR (some 101)), some (vI (nI i))] [] ce' sl' g' I' J' Q) : ab_E 100 259 1516 [some (vR (some 10)), some (vR (some 29)), some (vR (some 101)), some (vI (nI i))] [] ce sl g I J Q := by
  have h := REL_lw hR
  obtain ⟨⟨h1, h2, h3, h4⟩, h5, h6⟩ := h
  have u1 : ce ≤ 600000 := by omega
  have u2 : sl ≤ 7302249 := by omega
  have a1 : nI i + 1 = nI (i + 1) := nI_add i 1
  have v1' : vp_in (nI (i + 1)) SL := vp_in_nI (by omega) (by omega)
  have w1' : (nI (i + 1)).toNatClampNeg = i + 1 := nI_clamp (by omega)
  simp only [k259_1516, k259_1517, k259_1518, k259_1519, k259_1520, k259_1521, k259_1522, ab_inv_I, ab_inv_R, ab_inv_L, ab_inv_0, ab_push_some, ab_push_none, ab_E_sw, ab_E_sw0, true_and, and_true, not_false_eq_true, a1, v1', w1', h1, h2, h3, h5, u1, u2, Int32.reduceAdd, Int32.reduceMul, Int32.reduceSub, Int32.reduceDiv, Int32.reduceLT, Int32.reduceLE, Int32.reduceToNatClampNeg, i10, i01, ↓reduceIte, if_true, if_false]
  refine prI (d := 99) h6 r152 (p_status (d := 97) hR) fun x g1 I1 J1 K hM => ?_
  obtain ⟨⟨h1, h2, h3, h4⟩, h5, h6⟩ := kp_lw hR K
  simp only [k259_1525, k259_1526, k259_1527, k259_1528, k259_1529, k259_1530, k259_1531, ab_inv_I, ab_inv_R, ab_inv_L, ab_inv_0, ab_push_some, ab_push_none, ab_E_sw, ab_E_sw0, true_and, and_true, not_false_eq_true, a1, v1', w1', h1, h2, h4, h5, u1, u2, Int32.reduceAdd, Int32.reduceMul, Int32.reduceSub, Int32.reduceDiv, Int32.reduceLT, Int32.reduceLE, Int32.reduceToNatClampNeg, i10, i01, ↓reduceIte, if_true, if_false]
  refine ab_run_m _ _ _ _ _ _ _ _ (fun r g2 I2 J2 z => ?_) hM
  obtain ⟨z1, z2⟩ := z
  subst z1
  simp only [k259_1534, ab_inv_I, ab_inv_R, ab_inv_L, ab_inv_0, ab_push_some, ab_push_none, ab_E_sw, ab_E_sw0, true_and, and_true, not_false_eq_true, lg_self, if_true]
  exact hQ g2 I2 J2 _ _ z2 (by omega) (by omega)
end P78
