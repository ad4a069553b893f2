/-! ===== the law's loop ===== -/
/-- what the law reads at a state -/
theorem lg_self (x : Int64) : lg_cmp x x = 0 := by unfold lg_cmp; simp
def lwS (SL : Nat) (xs : Nat → Int32) (g : ab_G) (I : ab_I) : Prop := (ab_ty g 10 = 1 ∧ ab_ln g 10 = SL ∧ ab_ty g 32 = 10 ∧ ab_ty g 101 = 21) ∧ (∀ j, I 10 j = xs j) ∧ 32 ≤ ab_n g
theorem REL_lw {SL : Nat} {xs : Nat → Int32} {g : ab_G} {I : ab_I} {J : ab_J} (hR : REL SL xs g I J) : lwS SL xs g I := by
  have a := hR.1.2.2.1 10 (by decide)
  have hn : 128 ≤ ab_n g := hR.1.1.2.2
  exact ⟨⟨a.1, a.2.1, gt32 hR.1.1, gt101 hR.1.1⟩, fun j => by rw [a.2.2.2]; rfl, by omega⟩
theorem kp_lw {SL : Nat} {xs : Nat → Int32} {g g' : ab_G} {I I' : ab_I} {J : ab_J} (hR : REL SL xs g I J) (K : kp g I g' I') : lwS SL xs g' I' := by
  have h := REL_lw hR
  have hn : 128 ≤ ab_n g := hR.1.1.2.2
  refine ⟨⟨?_, ?_, ?_, ?_⟩, fun j => ?_, Nat.le_trans h.2.2 K.1.2⟩
  · rw [(K.2.1 10 (by omega)).1]; exact h.1.1
  · rw [(K.2.1 10 (by omega)).2]; exact h.1.2.1
  · rw [(K.2.1 32 (by omega)).1]; exact h.1.2.2.1
  · rw [(K.2.1 101 (by omega)).1]; exact h.1.2.2.2
  · rw [(K.2.2 10 (by decide)).2]; exact h.2.1 j
section P78
variable {SL i ce sl : Nat} {xs : Nat → Int32} {g : ab_G} {I : ab_I} {J : ab_J} {Q : ab_Q}
set_option maxRecDepth 20000 in
theorem cs_0_law (hR : REL SL xs g I J) (hi : i + 6 ≤ SL) (hS : SL ≤ 384) (hce : ce + 5 ≤ 600000) (hsl : sl + 257 ≤ 7302249) (hQ : ∀ g' I' J' ce' sl', REL SL xs g' I' J' → ce' ≤ ce + 5 → sl' ≤ sl + 257 → ab_E 100 256 1539 [some (vR (some 10)), some (vR (some 32)), some (vR (some 101)), some (vI (nI i))] [] ce' sl' g' I' J' Q) : ab_E 100 256 216 [some (vR (some 10)), some (vR (some 32)), some (vR (some 101)), some (vI (nI i))] [] ce sl g I J Q := by
  have h := REL_lw hR
  obtain ⟨⟨h1, h2, h3, h4⟩, h5, h6⟩ := h
  have u1 : ce ≤ 600000 := by omega
  have u2 : sl ≤ 7302249 := by omega
  have a1 : nI i + 1 = nI (i + 1) := nI_add i 1
  have v1' : vp_in (nI (i + 1)) SL := vp_in_nI (by omega) (by omega)
  have w1' : (nI (i + 1)).toNatClampNeg = i + 1 := nI_clamp (by omega)
  have a2 : nI i + 2 = nI (i + 2) := nI_add i 2
  have v2' : vp_in (nI (i + 2)) SL := vp_in_nI (by omega) (by omega)
  have w2' : (nI (i + 2)).toNatClampNeg = i + 2 := nI_clamp (by omega)
  simp only [k256_216, k256_217, k256_218, k256_219, k256_220, k256_221, k256_222, k256_223, k256_224, k256_225, k256_226, k256_227, ab_inv_I, ab_inv_R, ab_inv_L, ab_inv_0, ab_push_some, ab_push_none, ab_E_sw, ab_E_sw0, true_and, and_true, not_false_eq_true, a1, v1', w1', a2, v2', w2', h1, h2, h3, h5, u1, u2, Int32.reduceAdd, Int32.reduceMul, Int32.reduceSub, Int32.reduceDiv, Int32.reduceLT, Int32.reduceLE, Int32.reduceToNatClampNeg, i10, i01, ↓reduceIte, if_true, if_false]
  refine prI (d := 99) h6 r9 (p_care (d := 98) hR) fun x g1 I1 J1 K hM => ?_
  obtain ⟨⟨h1, h2, h3, h4⟩, h5, h6⟩ := kp_lw hR K
  simp only [k256_230, k256_231, k256_232, k256_233, k256_234, k256_235, k256_236, k256_237, k256_238, k256_239, k256_240, k256_241, ab_inv_I, ab_inv_R, ab_inv_L, ab_inv_0, ab_push_some, ab_push_none, ab_E_sw, ab_E_sw0, true_and, and_true, not_false_eq_true, a1, v1', w1', a2, v2', w2', h1, h2, h4, h5, u1, u2, Int32.reduceAdd, Int32.reduceMul, Int32.reduceSub, Int32.reduceDiv, Int32.reduceLT, Int32.reduceLE, Int32.reduceToNatClampNeg, i10, i01, ↓reduceIte, if_true, if_false]
  refine ab_run_m _ _ _ _ _ _ _ _ (fun r g2 I2 J2 z => ?_) hM
  obtain ⟨z1, z2⟩ := z
  subst z1
  simp only [k256_244, ab_inv_I, ab_inv_R, ab_inv_L, ab_inv_0, ab_push_some, ab_push_none, ab_E_sw, ab_E_sw0, true_and, and_true, not_false_eq_true, lg_self, if_true]
  exact hQ g2 I2 J2 _ _ z2 (by omega) (by omega)
set_option maxRecDepth 20000 in
theorem cs_1_law (hR : REL SL xs g I J) (hi : i + 6 ≤ SL) (hS : SL ≤ 384) (hce : ce + 5 ≤ 600000) (hsl : sl + 257 ≤ 7302249) (hQ : ∀ g' I' J' ce' sl', REL SL xs g' I' J' → ce' ≤ ce + 5 → sl' ≤ sl + 257 → ab_E 100 256 1539 [some (vR (some 10)), some (vR (some 32)), some (vR (some 101)), some (vI (nI i))] [] ce' sl' g' I' J' Q) : ab_E 100 256 249 [some (vR (some 10)), some (vR (some 32)), some (vR (some 101)), some (vI (nI i))] [] ce sl g I J Q := by
  have h := REL_lw hR
  obtain ⟨⟨h1, h2, h3, h4⟩, h5, h6⟩ := h
  have u1 : ce ≤ 600000 := by omega
  have u2 : sl ≤ 7302249 := by omega
  have a1 : nI i + 1 = nI (i + 1) := nI_add i 1
  have v1' : vp_in (nI (i + 1)) SL := vp_in_nI (by omega) (by omega)
  have w1' : (nI (i + 1)).toNatClampNeg = i + 1 := nI_clamp (by omega)
  have a2 : nI i + 2 = nI (i + 2) := nI_add i 2
  have v2' : vp_in (nI (i + 2)) SL := vp_in_nI (by omega) (by omega)
  have w2' : (nI (i + 2)).toNatClampNeg = i + 2 := nI_clamp (by omega)
  simp only [k256_249, k256_250, k256_251, k256_252, k256_253, k256_254, k256_255, k256_256, k256_257, k256_258, k256_259, k256_260, ab_inv_I, ab_inv_R, ab_inv_L, ab_inv_0, ab_push_some, ab_push_none, ab_E_sw, ab_E_sw0, true_and, and_true, not_false_eq_true, a1, v1', w1', a2, v2', w2', h1, h2, h3, h5, u1, u2, Int32.reduceAdd, Int32.reduceMul, Int32.reduceSub, Int32.reduceDiv, Int32.reduceLT, Int32.reduceLE, Int32.reduceToNatClampNeg, i10, i01, ↓reduceIte, if_true, if_false]
  refine prI (d := 99) h6 r13 (p_going (d := 98) hR) fun x g1 I1 J1 K hM => ?_
  obtain ⟨⟨h1, h2, h3, h4⟩, h5, h6⟩ := kp_lw hR K
  simp only [k256_263, k256_264, k256_265, k256_266, k256_267, k256_268, k256_269, k256_270, k256_271, k256_272, k256_273, k256_274, ab_inv_I, ab_inv_R, ab_inv_L, ab_inv_0, ab_push_some, ab_push_none, ab_E_sw, ab_E_sw0, true_and, and_true, not_false_eq_true, a1, v1', w1', a2, v2', w2', h1, h2, h4, h5, u1, u2, Int32.reduceAdd, Int32.reduceMul, Int32.reduceSub, Int32.reduceDiv, Int32.reduceLT, Int32.reduceLE, Int32.reduceToNatClampNeg, i10, i01, ↓reduceIte, if_true, if_false]
  refine ab_run_m _ _ _ _ _ _ _ _ (fun r g2 I2 J2 z => ?_) hM
  obtain ⟨z1, z2⟩ := z
  subst z1
  simp only [k256_277, ab_inv_I, ab_inv_R, ab_inv_L, ab_inv_0, ab_push_some, ab_push_none, ab_E_sw, ab_E_sw0, true_and, and_true, not_false_eq_true, lg_self, if_true]
  exact hQ g2 I2 J2 _ _ z2 (by omega) (by omega)
set_option maxRecDepth 20000 in
theorem cs_2_law (hR : REL SL xs g I J) (hi : i + 6 ≤ SL) (hS : SL ≤ 384) (hce : ce + 5 ≤ 600000) (hsl : sl + 257 ≤ 7302249) (hQ : ∀ g' I' J' ce' sl', REL SL xs g' I' J' → ce' ≤ ce + 5 → sl' ≤ sl + 257 → ab_E 100 256 1539 [some (vR (some 10)), some (vR (some 32)), some (vR (some 101)), some (vI (nI i))] [] ce' sl' g' I' J' Q) : ab_E 100 256 282 [some (vR (some 10)), some (vR (some 32)), some (vR (some 101)), some (vI (nI i))] [] ce sl g I J Q := by
  have h := REL_lw hR
  obtain ⟨⟨h1, h2, h3, h4⟩, h5, h6⟩ := h
  have u1 : ce ≤ 600000 := by omega
  have u2 : sl ≤ 7302249 := by omega
  have a1 : nI i + 1 = nI (i + 1) := nI_add i 1
  have v1' : vp_in (nI (i + 1)) SL := vp_in_nI (by omega) (by omega)
  have w1' : (nI (i + 1)).toNatClampNeg = i + 1 := nI_clamp (by omega)
  have a2 : nI i + 2 = nI (i + 2) := nI_add i 2
  have v2' : vp_in (nI (i + 2)) SL := vp_in_nI (by omega) (by omega)
  have w2' : (nI (i + 2)).toNatClampNeg = i + 2 := nI_clamp (by omega)
  simp only [k256_282, k256_283, k256_284, k256_285, k256_286, k256_287, k256_288, k256_289, k256_290, k256_291, k256_292, k256_293, ab_inv_I, ab_inv_R, ab_inv_L, ab_inv_0, ab_push_some, ab_push_none, ab_E_sw, ab_E_sw0, true_and, and_true, not_false_eq_true, a1, v1', w1', a2, v2', w2', h1, h2, h3, h5, u1, u2, Int32.reduceAdd, Int32.reduceMul, Int32.reduceSub, Int32.reduceDiv, Int32.reduceLT, Int32.reduceLE, Int32.reduceToNatClampNeg, i10, i01, ↓reduceIte, if_true, if_false]
  refine prI (d := 99) h6 r14 (p_feed (d := 97) hR) fun x g1 I1 J1 K hM => ?_
  obtain ⟨⟨h1, h2, h3, h4⟩, h5, h6⟩ := kp_lw hR K
  simp only [k256_296, k256_297, k256_298, k256_299, k256_300, k256_301, k256_302, k256_303, k256_304, k256_305, k256_306, k256_307, ab_inv_I, ab_inv_R, ab_inv_L, ab_inv_0, ab_push_some, ab_push_none, ab_E_sw, ab_E_sw0, true_and, and_true, not_false_eq_true, a1, v1', w1', a2, v2', w2', h1, h2, h4, h5, u1, u2, Int32.reduceAdd, Int32.reduceMul, Int32.reduceSub, Int32.reduceDiv, Int32.reduceLT, Int32.reduceLE, Int32.reduceToNatClampNeg, i10, i01, ↓reduceIte, if_true, if_false]
  refine ab_run_m _ _ _ _ _ _ _ _ (fun r g2 I2 J2 z => ?_) hM
  obtain ⟨z1, z2⟩ := z
  subst z1
  simp only [k256_310, ab_inv_I, ab_inv_R, ab_inv_L, ab_inv_0, ab_push_some, ab_push_none, ab_E_sw, ab_E_sw0, true_and, and_true, not_false_eq_true, lg_self, if_true]
  exact hQ g2 I2 J2 _ _ z2 (by omega) (by omega)
set_option maxRecDepth 20000 in
theorem cs_3_law (hR : REL SL xs g I J) (hi : i + 6 ≤ SL) (hS : SL ≤ 384) (hce : ce + 5 ≤ 600000) (hsl : sl + 257 ≤ 7302249) (hQ : ∀ g' I' J' ce' sl', REL SL xs g' I' J' → ce' ≤ ce + 5 → sl' ≤ sl + 257 → ab_E 100 256 1539 [some (vR (some 10)), some (vR (some 32)), some (vR (some 101)), some (vI (nI i))] [] ce' sl' g' I' J' Q) : ab_E 100 256 315 [some (vR (some 10)), some (vR (some 32)), some (vR (some 101)), some (vI (nI i))] [] ce sl g I J Q := by
  have h := REL_lw hR
  obtain ⟨⟨h1, h2, h3, h4⟩, h5, h6⟩ := h
  have u1 : ce ≤ 600000 := by omega
  have u2 : sl ≤ 7302249 := by omega
  simp only [k256_315, k256_316, ab_inv_I, ab_inv_R, ab_inv_L, ab_inv_0, ab_push_some, ab_push_none, ab_E_sw, ab_E_sw0, true_and, and_true, not_false_eq_true, h1, h2, h3, h5, u1, u2, Int32.reduceAdd, Int32.reduceMul, Int32.reduceSub, Int32.reduceDiv, Int32.reduceLT, Int32.reduceLE, Int32.reduceToNatClampNeg, i10, i01, ↓reduceIte, if_true, if_false]
  refine prI (d := 99) h6 r16 (p_wipe (d := 98) hR) fun x g1 I1 J1 K hM => ?_
  obtain ⟨⟨h1, h2, h3, h4⟩, h5, h6⟩ := kp_lw hR K
  simp only [k256_319, k256_320, ab_inv_I, ab_inv_R, ab_inv_L, ab_inv_0, ab_push_some, ab_push_none, ab_E_sw, ab_E_sw0, true_and, and_true, not_false_eq_true, h1, h2, h4, h5, u1, u2, Int32.reduceAdd, Int32.reduceMul, Int32.reduceSub, Int32.reduceDiv, Int32.reduceLT, Int32.reduceLE, Int32.reduceToNatClampNeg, i10, i01, ↓reduceIte, if_true, if_false]
  refine ab_run_m _ _ _ _ _ _ _ _ (fun r g2 I2 J2 z => ?_) hM
  obtain ⟨z1, z2⟩ := z
  subst z1
  simp only [k256_323, ab_inv_I, ab_inv_R, ab_inv_L, ab_inv_0, ab_push_some, ab_push_none, ab_E_sw, ab_E_sw0, true_and, and_true, not_false_eq_true, lg_self, if_true]
  exact hQ g2 I2 J2 _ _ z2 (by omega) (by omega)
set_option maxRecDepth 20000 in
theorem cs_4_law (hR : REL SL xs g I J) (hi : i + 6 ≤ SL) (hS : SL ≤ 384) (hce : ce + 5 ≤ 600000) (hsl : sl + 257 ≤ 7302249) (hQ : ∀ g' I' J' ce' sl', REL SL xs g' I' J' → ce' ≤ ce + 5 → sl' ≤ sl + 257 → ab_E 100 256 1539 [some (vR (some 10)), some (vR (some 32)), some (vR (some 101)), some (vI (nI i))] [] ce' sl' g' I' J' Q) : ab_E 100 256 328 [some (vR (some 10)), some (vR (some 32)), some (vR (some 101)), some (vI (nI i))] [] ce sl g I J Q := by
  have h := REL_lw hR
  obtain ⟨⟨h1, h2, h3, h4⟩, h5, h6⟩ := h
  have u1 : ce + 5 ≤ 600000 := by omega
  have u2 : sl + 244 ≤ 7302249 := by omega
  simp only [k256_328, k256_329, ab_inv_I, ab_inv_R, ab_inv_L, ab_inv_0, ab_push_some, ab_push_none, ab_E_sw, ab_E_sw0, true_and, and_true, not_false_eq_true, h1, h2, h3, h5, u1, u2, Int32.reduceAdd, Int32.reduceMul, Int32.reduceSub, Int32.reduceDiv, Int32.reduceLT, Int32.reduceLE, Int32.reduceToNatClampNeg, i10, i01, ↓reduceIte, if_true, if_false]
  refine prI (d := 99) h6 r18 (p_harm (d := 53) hR) fun x g1 I1 J1 K hM => ?_
  obtain ⟨⟨h1, h2, h3, h4⟩, h5, h6⟩ := kp_lw hR K
  simp only [k256_332, k256_333, ab_inv_I, ab_inv_R, ab_inv_L, ab_inv_0, ab_push_some, ab_push_none, ab_E_sw, ab_E_sw0, true_and, and_true, not_false_eq_true, h1, h2, h4, h5, u1, u2, Int32.reduceAdd, Int32.reduceMul, Int32.reduceSub, Int32.reduceDiv, Int32.reduceLT, Int32.reduceLE, Int32.reduceToNatClampNeg, i10, i01, ↓reduceIte, if_true, if_false]
  refine ab_run_m _ _ _ _ _ _ _ _ (fun r g2 I2 J2 z => ?_) hM
  obtain ⟨z1, z2⟩ := z
  subst z1
  simp only [k256_336, ab_inv_I, ab_inv_R, ab_inv_L, ab_inv_0, ab_push_some, ab_push_none, ab_E_sw, ab_E_sw0, true_and, and_true, not_false_eq_true, lg_self, if_true]
  exact hQ g2 I2 J2 _ _ z2 (by omega) (by omega)
set_option maxRecDepth 20000 in
theorem cs_5_law (hR : REL SL xs g I J) (hi : i + 6 ≤ SL) (hS : SL ≤ 384) (hce : ce + 5 ≤ 600000) (hsl : sl + 257 ≤ 7302249) (hQ : ∀ g' I' J' ce' sl', REL SL xs g' I' J' → ce' ≤ ce + 5 → sl' ≤ sl + 257 → ab_E 100 256 1539 [some (vR (some 10)), some (vR (some 32)), some (vR (some 101)), some (vI (nI i))] [] ce' sl' g' I' J' Q) : ab_E 100 256 341 [some (vR (some 10)), some (vR (some 32)), some (vR (some 101)), some (vI (nI i))] [] ce sl g I J Q := by
  have h := REL_lw hR
  obtain ⟨⟨h1, h2, h3, h4⟩, h5, h6⟩ := h
  have u1 : ce ≤ 600000 := by omega
  have u2 : sl ≤ 7302249 := by omega
  have a1 : nI i + 1 = nI (i + 1) := nI_add i 1
  have v1' : vp_in (nI (i + 1)) SL := vp_in_nI (by omega) (by omega)
  have w1' : (nI (i + 1)).toNatClampNeg = i + 1 := nI_clamp (by omega)
  have a2 : nI i + 2 = nI (i + 2) := nI_add i 2
  have v2' : vp_in (nI (i + 2)) SL := vp_in_nI (by omega) (by omega)
  have w2' : (nI (i + 2)).toNatClampNeg = i + 2 := nI_clamp (by omega)
  simp only [k256_341, k256_342, k256_343, k256_344, k256_345, k256_346, k256_347, k256_348, k256_349, k256_350, k256_351, k256_352, ab_inv_I, ab_inv_R, ab_inv_L, ab_inv_0, ab_push_some, ab_push_none, ab_E_sw, ab_E_sw0, true_and, and_true, not_false_eq_true, a1, v1', w1', a2, v2', w2', h1, h2, h3, h5, u1, u2, Int32.reduceAdd, Int32.reduceMul, Int32.reduceSub, Int32.reduceDiv, Int32.reduceLT, Int32.reduceLE, Int32.reduceToNatClampNeg, i10, i01, ↓reduceIte, if_true, if_false]
  refine prI (d := 99) h6 r52 (p_hurt (d := 88) hR) fun x g1 I1 J1 K hM => ?_
  obtain ⟨⟨h1, h2, h3, h4⟩, h5, h6⟩ := kp_lw hR K
  simp only [k256_355, k256_356, k256_357, k256_358, k256_359, k256_360, k256_361, k256_362, k256_363, k256_364, k256_365, k256_366, ab_inv_I, ab_inv_R, ab_inv_L, ab_inv_0, ab_push_some, ab_push_none, ab_E_sw, ab_E_sw0, true_and, and_true, not_false_eq_true, a1, v1', w1', a2, v2', w2', h1, h2, h4, h5, u1, u2, Int32.reduceAdd, Int32.reduceMul, Int32.reduceSub, Int32.reduceDiv, Int32.reduceLT, Int32.reduceLE, Int32.reduceToNatClampNeg, i10, i01, ↓reduceIte, if_true, if_false]
  refine ab_run_m _ _ _ _ _ _ _ _ (fun r g2 I2 J2 z => ?_) hM
  obtain ⟨z1, z2⟩ := z
  subst z1
  simp only [k256_369, ab_inv_I, ab_inv_R, ab_inv_L, ab_inv_0, ab_push_some, ab_push_none, ab_E_sw, ab_E_sw0, true_and, and_true, not_false_eq_true, lg_self, if_true]
  exact hQ g2 I2 J2 _ _ z2 (by omega) (by omega)
set_option maxRecDepth 20000 in
theorem cs_6_law (hR : REL SL xs g I J) (hi : i + 6 ≤ SL) (hS : SL ≤ 384) (hce : ce + 5 ≤ 600000) (hsl : sl + 257 ≤ 7302249) (hQ : ∀ g' I' J' ce' sl', REL SL xs g' I' J' → ce' ≤ ce + 5 → sl' ≤ sl + 257 → ab_E 100 256 1539 [some (vR (some 10)), some (vR (some 32)), some (vR (some 101)), some (vI (nI i))] [] ce' sl' g' I' J' Q) : ab_E 100 256 374 [some (vR (some 10)), some (vR (some 32)), some (vR (some 101)), some (vI (nI i))] [] ce sl g I J Q := by
  have h := REL_lw hR
  obtain ⟨⟨h1, h2, h3, h4⟩, h5, h6⟩ := h
  have u1 : ce + 3 ≤ 600000 := by omega
  have u2 : sl + 136 ≤ 7302249 := by omega
  have a1 : nI i + 1 = nI (i + 1) := nI_add i 1
  have v1' : vp_in (nI (i + 1)) SL := vp_in_nI (by omega) (by omega)
  have w1' : (nI (i + 1)).toNatClampNeg = i + 1 := nI_clamp (by omega)
  have a2 : nI i + 2 = nI (i + 2) := nI_add i 2
  have v2' : vp_in (nI (i + 2)) SL := vp_in_nI (by omega) (by omega)
  have w2' : (nI (i + 2)).toNatClampNeg = i + 2 := nI_clamp (by omega)
  have a3 : nI i + 3 = nI (i + 3) := nI_add i 3
  have v3' : vp_in (nI (i + 3)) SL := vp_in_nI (by omega) (by omega)
  have w3' : (nI (i + 3)).toNatClampNeg = i + 3 := nI_clamp (by omega)
  simp only [k256_374, k256_375, k256_376, k256_377, k256_378, k256_379, k256_380, k256_381, k256_382, k256_383, k256_384, k256_385, k256_386, k256_387, k256_388, k256_389, k256_390, ab_inv_I, ab_inv_R, ab_inv_L, ab_inv_0, ab_push_some, ab_push_none, ab_E_sw, ab_E_sw0, true_and, and_true, not_false_eq_true, a1, v1', w1', a2, v2', w2', a3, v3', w3', h1, h2, h3, h5, u1, u2, Int32.reduceAdd, Int32.reduceMul, Int32.reduceSub, Int32.reduceDiv, Int32.reduceLT, Int32.reduceLE, Int32.reduceToNatClampNeg, i10, i01, ↓reduceIte, if_true, if_false]
  refine prI (d := 99) h6 r65 (p_rule (d := 96) hR) fun x g1 I1 J1 K hM => ?_
  obtain ⟨⟨h1, h2, h3, h4⟩, h5, h6⟩ := kp_lw hR K
  simp only [k256_393, k256_394, k256_395, k256_396, k256_397, k256_398, k256_399, k256_400, k256_401, k256_402, k256_403, k256_404, k256_405, k256_406, k256_407, k256_408, k256_409, ab_inv_I, ab_inv_R, ab_inv_L, ab_inv_0, ab_push_some, ab_push_none, ab_E_sw, ab_E_sw0, true_and, and_true, not_false_eq_true, a1, v1', w1', a2, v2', w2', a3, v3', w3', h1, h2, h4, h5, u1, u2, Int32.reduceAdd, Int32.reduceMul, Int32.reduceSub, Int32.reduceDiv, Int32.reduceLT, Int32.reduceLE, Int32.reduceToNatClampNeg, i10, i01, ↓reduceIte, if_true, if_false]
  refine ab_run_m _ _ _ _ _ _ _ _ (fun r g2 I2 J2 z => ?_) hM
  obtain ⟨z1, z2⟩ := z
  subst z1
  simp only [k256_412, ab_inv_I, ab_inv_R, ab_inv_L, ab_inv_0, ab_push_some, ab_push_none, ab_E_sw, ab_E_sw0, true_and, and_true, not_false_eq_true, lg_self, if_true]
  exact hQ g2 I2 J2 _ _ z2 (by omega) (by omega)
set_option maxRecDepth 20000 in
theorem cs_7_law (hR : REL SL xs g I J) (hi : i + 6 ≤ SL) (hS : SL ≤ 384) (hce : ce + 5 ≤ 600000) (hsl : sl + 257 ≤ 7302249) (hQ : ∀ g' I' J' ce' sl', REL SL xs g' I' J' → ce' ≤ ce + 5 → sl' ≤ sl + 257 → ab_E 100 256 1539 [some (vR (some 10)), some (vR (some 32)), some (vR (some 101)), some (vI (nI i))] [] ce' sl' g' I' J' Q) : ab_E 100 256 417 [some (vR (some 10)), some (vR (some 32)), some (vR (some 101)), some (vI (nI i))] [] ce sl g I J Q := by
  have h := REL_lw hR
  obtain ⟨⟨h1, h2, h3, h4⟩, h5, h6⟩ := h
  have u1 : ce + 3 ≤ 600000 := by omega
  have u2 : sl + 136 ≤ 7302249 := by omega
  have a1 : nI i + 1 = nI (i + 1) := nI_add i 1
  have v1' : vp_in (nI (i + 1)) SL := vp_in_nI (by omega) (by omega)
  have w1' : (nI (i + 1)).toNatClampNeg = i + 1 := nI_clamp (by omega)
  have a2 : nI i + 2 = nI (i + 2) := nI_add i 2
  have v2' : vp_in (nI (i + 2)) SL := vp_in_nI (by omega) (by omega)
  have w2' : (nI (i + 2)).toNatClampNeg = i + 2 := nI_clamp (by omega)
  simp only [k256_417, k256_418, k256_419, k256_420, k256_421, k256_422, k256_423, k256_424, k256_425, k256_426, k256_427, k256_428, ab_inv_I, ab_inv_R, ab_inv_L, ab_inv_0, ab_push_some, ab_push_none, ab_E_sw, ab_E_sw0, true_and, and_true, not_false_eq_true, a1, v1', w1', a2, v2', w2', h1, h2, h3, h5, u1, u2, Int32.reduceAdd, Int32.reduceMul, Int32.reduceSub, Int32.reduceDiv, Int32.reduceLT, Int32.reduceLE, Int32.reduceToNatClampNeg, i10, i01, ↓reduceIte, if_true, if_false]
  refine prI (d := 99) h6 r70 (p_cover (d := 96) hR) fun x g1 I1 J1 K hM => ?_
  obtain ⟨⟨h1, h2, h3, h4⟩, h5, h6⟩ := kp_lw hR K
  simp only [k256_431, k256_432, k256_433, k256_434, k256_435, k256_436, k256_437, k256_438, k256_439, k256_440, k256_441, k256_442, ab_inv_I, ab_inv_R, ab_inv_L, ab_inv_0, ab_push_some, ab_push_none, ab_E_sw, ab_E_sw0, true_and, and_true, not_false_eq_true, a1, v1', w1', a2, v2', w2', h1, h2, h4, h5, u1, u2, Int32.reduceAdd, Int32.reduceMul, Int32.reduceSub, Int32.reduceDiv, Int32.reduceLT, Int32.reduceLE, Int32.reduceToNatClampNeg, i10, i01, ↓reduceIte, if_true, if_false]
  refine ab_run_m _ _ _ _ _ _ _ _ (fun r g2 I2 J2 z => ?_) hM
  obtain ⟨z1, z2⟩ := z
  subst z1
  simp only [k256_445, ab_inv_I, ab_inv_R, ab_inv_L, ab_inv_0, ab_push_some, ab_push_none, ab_E_sw, ab_E_sw0, true_and, and_true, not_false_eq_true, lg_self, if_true]
  exact hQ g2 I2 J2 _ _ z2 (by omega) (by omega)
set_option maxRecDepth 20000 in
theorem cs_8_law (hR : REL SL xs g I J) (hi : i + 6 ≤ SL) (hS : SL ≤ 384) (hce : ce + 5 ≤ 600000) (hsl : sl + 257 ≤ 7302249) (hQ : ∀ g' I' J' ce' sl', REL SL xs g' I' J' → ce' ≤ ce + 5 → sl' ≤ sl + 257 → ab_E 100 256 1539 [some (vR (some 10)), some (vR (some 32)), some (vR (some 101)), some (vI (nI i))] [] ce' sl' g' I' J' Q) : ab_E 100 256 450 [some (vR (some 10)), some (vR (some 32)), some (vR (some 101)), some (vI (nI i))] [] ce sl g I J Q := by
  have h := REL_lw hR
  obtain ⟨⟨h1, h2, h3, h4⟩, h5, h6⟩ := h
  have u1 : ce + 5 ≤ 600000 := by omega
  have u2 : sl + 257 ≤ 7302249 := by omega
  simp only [k256_450, k256_451, ab_inv_I, ab_inv_R, ab_inv_L, ab_inv_0, ab_push_some, ab_push_none, ab_E_sw, ab_E_sw0, true_and, and_true, not_false_eq_true, h1, h2, h3, h5, u1, u2, Int32.reduceAdd, Int32.reduceMul, Int32.reduceSub, Int32.reduceDiv, Int32.reduceLT, Int32.reduceLE, Int32.reduceToNatClampNeg, i10, i01, ↓reduceIte, if_true, if_false]
  refine prI (d := 99) h6 r73 (p_told (d := 53) hR) fun x g1 I1 J1 K hM => ?_
  obtain ⟨⟨h1, h2, h3, h4⟩, h5, h6⟩ := kp_lw hR K
  simp only [k256_454, k256_455, ab_inv_I, ab_inv_R, ab_inv_L, ab_inv_0, ab_push_some, ab_push_none, ab_E_sw, ab_E_sw0, true_and, and_true, not_false_eq_true, h1, h2, h4, h5, u1, u2, Int32.reduceAdd, Int32.reduceMul, Int32.reduceSub, Int32.reduceDiv, Int32.reduceLT, Int32.reduceLE, Int32.reduceToNatClampNeg, i10, i01, ↓reduceIte, if_true, if_false]
  refine ab_run_m _ _ _ _ _ _ _ _ (fun r g2 I2 J2 z => ?_) hM
  obtain ⟨z1, z2⟩ := z
  subst z1
  simp only [k256_458, ab_inv_I, ab_inv_R, ab_inv_L, ab_inv_0, ab_push_some, ab_push_none, ab_E_sw, ab_E_sw0, true_and, and_true, not_false_eq_true, lg_self, if_true]
  exact hQ g2 I2 J2 _ _ z2 (by omega) (by omega)
set_option maxRecDepth 20000 in
theorem cs_9_law (hR : REL SL xs g I J) (hi : i + 6 ≤ SL) (hS : SL ≤ 384) (hce : ce + 5 ≤ 600000) (hsl : sl + 257 ≤ 7302249) (hQ : ∀ g' I' J' ce' sl', REL SL xs g' I' J' → ce' ≤ ce + 5 → sl' ≤ sl + 257 → ab_E 100 256 1539 [some (vR (some 10)), some (vR (some 32)), some (vR (some 101)), some (vI (nI i))] [] ce' sl' g' I' J' Q) : ab_E 100 256 463 [some (vR (some 10)), some (vR (some 32)), some (vR (some 101)), some (vI (nI i))] [] ce sl g I J Q := by
  have h := REL_lw hR
  obtain ⟨⟨h1, h2, h3, h4⟩, h5, h6⟩ := h
  have u1 : ce ≤ 600000 := by omega
  have u2 : sl ≤ 7302249 := by omega
  have a1 : nI i + 1 = nI (i + 1) := nI_add i 1
  have v1' : vp_in (nI (i + 1)) SL := vp_in_nI (by omega) (by omega)
  have w1' : (nI (i + 1)).toNatClampNeg = i + 1 := nI_clamp (by omega)
  have a2 : nI i + 2 = nI (i + 2) := nI_add i 2
  have v2' : vp_in (nI (i + 2)) SL := vp_in_nI (by omega) (by omega)
  have w2' : (nI (i + 2)).toNatClampNeg = i + 2 := nI_clamp (by omega)
  simp only [k256_463, k256_464, k256_465, k256_466, k256_467, k256_468, k256_469, k256_470, k256_471, k256_472, k256_473, k256_474, ab_inv_I, ab_inv_R, ab_inv_L, ab_inv_0, ab_push_some, ab_push_none, ab_E_sw, ab_E_sw0, true_and, and_true, not_false_eq_true, a1, v1', w1', a2, v2', w2', h1, h2, h3, h5, u1, u2, Int32.reduceAdd, Int32.reduceMul, Int32.reduceSub, Int32.reduceDiv, Int32.reduceLT, Int32.reduceLE, Int32.reduceToNatClampNeg, i10, i01, ↓reduceIte, if_true, if_false]
  refine prI (d := 99) h6 r76 (p_of (d := 96) hR) fun x g1 I1 J1 K hM => ?_
  obtain ⟨⟨h1, h2, h3, h4⟩, h5, h6⟩ := kp_lw hR K
  simp only [k256_477, k256_478, k256_479, k256_480, k256_481, k256_482, k256_483, k256_484, k256_485, k256_486, k256_487, k256_488, ab_inv_I, ab_inv_R, ab_inv_L, ab_inv_0, ab_push_some, ab_push_none, ab_E_sw, ab_E_sw0, true_and, and_true, not_false_eq_true, a1, v1', w1', a2, v2', w2', h1, h2, h4, h5, u1, u2, Int32.reduceAdd, Int32.reduceMul, Int32.reduceSub, Int32.reduceDiv, Int32.reduceLT, Int32.reduceLE, Int32.reduceToNatClampNeg, i10, i01, ↓reduceIte, if_true, if_false]
  refine ab_run_m _ _ _ _ _ _ _ _ (fun r g2 I2 J2 z => ?_) hM
  obtain ⟨z1, z2⟩ := z
  subst z1
  simp only [k256_491, ab_inv_I, ab_inv_R, ab_inv_L, ab_inv_0, ab_push_some, ab_push_none, ab_E_sw, ab_E_sw0, true_and, and_true, not_false_eq_true, lg_self, if_true]
  exact hQ g2 I2 J2 _ _ z2 (by omega) (by omega)
set_option maxRecDepth 20000 in
theorem cs_10_law (hR : REL SL xs g I J) (hi : i + 6 ≤ SL) (hS : SL ≤ 384) (hce : ce + 5 ≤ 600000) (hsl : sl + 257 ≤ 7302249) (hQ : ∀ g' I' J' ce' sl', REL SL xs g' I' J' → ce' ≤ ce + 5 → sl' ≤ sl + 257 → ab_E 100 256 1539 [some (vR (some 10)), some (vR (some 32)), some (vR (some 101)), some (vI (nI i))] [] ce' sl' g' I' J' Q) : ab_E 100 256 496 [some (vR (some 10)), some (vR (some 32)), some (vR (some 101)), some (vI (nI i))] [] ce sl g I J Q := by
  have h := REL_lw hR
  obtain ⟨⟨h1, h2, h3, h4⟩, h5, h6⟩ := h
  have u1 : ce ≤ 600000 := by omega
  have u2 : sl ≤ 7302249 := by omega
  have a1 : nI i + 1 = nI (i + 1) := nI_add i 1
  have v1' : vp_in (nI (i + 1)) SL := vp_in_nI (by omega) (by omega)
  have w1' : (nI (i + 1)).toNatClampNeg = i + 1 := nI_clamp (by omega)
  have a2 : nI i + 2 = nI (i + 2) := nI_add i 2
  have v2' : vp_in (nI (i + 2)) SL := vp_in_nI (by omega) (by omega)
  have w2' : (nI (i + 2)).toNatClampNeg = i + 2 := nI_clamp (by omega)
  simp only [k256_496, k256_497, k256_498, k256_499, k256_500, k256_501, k256_502, k256_503, k256_504, k256_505, k256_506, k256_507, ab_inv_I, ab_inv_R, ab_inv_L, ab_inv_0, ab_push_some, ab_push_none, ab_E_sw, ab_E_sw0, true_and, and_true, not_false_eq_true, a1, v1', w1', a2, v2', w2', h1, h2, h3, h5, u1, u2, Int32.reduceAdd, Int32.reduceMul, Int32.reduceSub, Int32.reduceDiv, Int32.reduceLT, Int32.reduceLE, Int32.reduceToNatClampNeg, i10, i01, ↓reduceIte, if_true, if_false]
  refine prI (d := 99) h6 r80 (p_as (d := 96) hR) fun x g1 I1 J1 K hM => ?_
  obtain ⟨⟨h1, h2, h3, h4⟩, h5, h6⟩ := kp_lw hR K
  simp only [k256_510, k256_511, k256_512, k256_513, k256_514, k256_515, k256_516, k256_517, k256_518, k256_519, k256_520, k256_521, ab_inv_I, ab_inv_R, ab_inv_L, ab_inv_0, ab_push_some, ab_push_none, ab_E_sw, ab_E_sw0, true_and, and_true, not_false_eq_true, a1, v1', w1', a2, v2', w2', h1, h2, h4, h5, u1, u2, Int32.reduceAdd, Int32.reduceMul, Int32.reduceSub, Int32.reduceDiv, Int32.reduceLT, Int32.reduceLE, Int32.reduceToNatClampNeg, i10, i01, ↓reduceIte, if_true, if_false]
  refine ab_run_m _ _ _ _ _ _ _ _ (fun r g2 I2 J2 z => ?_) hM
  obtain ⟨z1, z2⟩ := z
  subst z1
  simp only [k256_524, ab_inv_I, ab_inv_R, ab_inv_L, ab_inv_0, ab_push_some, ab_push_none, ab_E_sw, ab_E_sw0, true_and, and_true, not_false_eq_true, lg_self, if_true]
  exact hQ g2 I2 J2 _ _ z2 (by omega) (by omega)
set_option maxRecDepth 20000 in
theorem cs_11_law (hR : REL SL xs g I J) (hi : i + 6 ≤ SL) (hS : SL ≤ 384) (hce : ce + 5 ≤ 600000) (hsl : sl + 257 ≤ 7302249) (hQ : ∀ g' I' J' ce' sl', REL SL xs g' I' J' → ce' ≤ ce + 5 → sl' ≤ sl + 257 → ab_E 100 256 1539 [some (vR (some 10)), some (vR (some 32)), some (vR (some 101)), some (vI (nI i))] [] ce' sl' g' I' J' Q) : ab_E 100 256 529 [some (vR (some 10)), some (vR (some 32)), some (vR (some 101)), some (vI (nI i))] [] ce sl g I J Q := by
  have h := REL_lw hR
  obtain ⟨⟨h1, h2, h3, h4⟩, h5, h6⟩ := h
  have u1 : ce ≤ 600000 := by omega
  have u2 : sl ≤ 7302249 := by omega
  have a1 : nI i + 1 = nI (i + 1) := nI_add i 1
  have v1' : vp_in (nI (i + 1)) SL := vp_in_nI (by omega) (by omega)
  have w1' : (nI (i + 1)).toNatClampNeg = i + 1 := nI_clamp (by omega)
  have a2 : nI i + 2 = nI (i + 2) := nI_add i 2
  have v2' : vp_in (nI (i + 2)) SL := vp_in_nI (by omega) (by omega)
  have w2' : (nI (i + 2)).toNatClampNeg = i + 2 := nI_clamp (by omega)
  have a3 : nI i + 3 = nI (i + 3) := nI_add i 3
  have v3' : vp_in (nI (i + 3)) SL := vp_in_nI (by omega) (by omega)
  have w3' : (nI (i + 3)).toNatClampNeg = i + 3 := nI_clamp (by omega)
  have a4 : nI i + 4 = nI (i + 4) := nI_add i 4
  have v4' : vp_in (nI (i + 4)) SL := vp_in_nI (by omega) (by omega)
  have w4' : (nI (i + 4)).toNatClampNeg = i + 4 := nI_clamp (by omega)
  simp only [k256_529, k256_530, k256_531, k256_532, k256_533, k256_534, k256_535, k256_536, k256_537, k256_538, k256_539, k256_540, k256_541, k256_542, k256_543, k256_544, k256_545, k256_546, k256_547, k256_548, k256_549, k256_550, ab_inv_I, ab_inv_R, ab_inv_L, ab_inv_0, ab_push_some, ab_push_none, ab_E_sw, ab_E_sw0, true_and, and_true, not_false_eq_true, a1, v1', w1', a2, v2', w2', a3, v3', w3', a4, v4', w4', h1, h2, h3, h5, u1, u2, Int32.reduceAdd, Int32.reduceMul, Int32.reduceSub, Int32.reduceDiv, Int32.reduceLT, Int32.reduceLE, Int32.reduceToNatClampNeg, i10, i01, ↓reduceIte, if_true, if_false]
  refine prI (d := 99) h6 r81 (p_due (d := 95) hR) fun x g1 I1 J1 K hM => ?_
  obtain ⟨⟨h1, h2, h3, h4⟩, h5, h6⟩ := kp_lw hR K
  simp only [k256_553, k256_554, k256_555, k256_556, k256_557, k256_558, k256_559, k256_560, k256_561, k256_562, k256_563, k256_564, k256_565, k256_566, k256_567, k256_568, k256_569, k256_570, k256_571, k256_572, k256_573, k256_574, ab_inv_I, ab_inv_R, ab_inv_L, ab_inv_0, ab_push_some, ab_push_none, ab_E_sw, ab_E_sw0, true_and, and_true, not_false_eq_true, a1, v1', w1', a2, v2', w2', a3, v3', w3', a4, v4', w4', h1, h2, h4, h5, u1, u2, Int32.reduceAdd, Int32.reduceMul, Int32.reduceSub, Int32.reduceDiv, Int32.reduceLT, Int32.reduceLE, Int32.reduceToNatClampNeg, i10, i01, ↓reduceIte, if_true, if_false]
  refine ab_run_m _ _ _ _ _ _ _ _ (fun r g2 I2 J2 z => ?_) hM
  obtain ⟨z1, z2⟩ := z
  subst z1
  simp only [k256_577, ab_inv_I, ab_inv_R, ab_inv_L, ab_inv_0, ab_push_some, ab_push_none, ab_E_sw, ab_E_sw0, true_and, and_true, not_false_eq_true, lg_self, if_true]
  exact hQ g2 I2 J2 _ _ z2 (by omega) (by omega)
set_option maxRecDepth 20000 in
theorem cs_12_law (hR : REL SL xs g I J) (hi : i + 6 ≤ SL) (hS : SL ≤ 384) (hce : ce + 5 ≤ 600000) (hsl : sl + 257 ≤ 7302249) (hQ : ∀ g' I' J' ce' sl', REL SL xs g' I' J' → ce' ≤ ce + 5 → sl' ≤ sl + 257 → ab_E 100 256 1539 [some (vR (some 10)), some (vR (some 32)), some (vR (some 101)), some (vI (nI i))] [] ce' sl' g' I' J' Q) : ab_E 100 256 582 [some (vR (some 10)), some (vR (some 32)), some (vR (some 101)), some (vI (nI i))] [] ce sl g I J Q := by
  have h := REL_lw hR
  obtain ⟨⟨h1, h2, h3, h4⟩, h5, h6⟩ := h
  have u1 : ce ≤ 600000 := by omega
  have u2 : sl ≤ 7302249 := by omega
  have a1 : nI i + 1 = nI (i + 1) := nI_add i 1
  have v1' : vp_in (nI (i + 1)) SL := vp_in_nI (by omega) (by omega)
  have w1' : (nI (i + 1)).toNatClampNeg = i + 1 := nI_clamp (by omega)
  have a2 : nI i + 2 = nI (i + 2) := nI_add i 2
  have v2' : vp_in (nI (i + 2)) SL := vp_in_nI (by omega) (by omega)
  have w2' : (nI (i + 2)).toNatClampNeg = i + 2 := nI_clamp (by omega)
  simp only [k256_582, k256_583, k256_584, k256_585, k256_586, k256_587, k256_588, k256_589, k256_590, k256_591, k256_592, k256_593, ab_inv_I, ab_inv_R, ab_inv_L, ab_inv_0, ab_push_some, ab_push_none, ab_E_sw, ab_E_sw0, true_and, and_true, not_false_eq_true, a1, v1', w1', a2, v2', w2', h1, h2, h3, h5, u1, u2, Int32.reduceAdd, Int32.reduceMul, Int32.reduceSub, Int32.reduceDiv, Int32.reduceLT, Int32.reduceLE, Int32.reduceToNatClampNeg, i10, i01, ↓reduceIte, if_true, if_false]
  refine prI (d := 99) h6 r83 (p_set (d := 97) hR) fun x g1 I1 J1 K hM => ?_
  obtain ⟨⟨h1, h2, h3, h4⟩, h5, h6⟩ := kp_lw hR K
  simp only [k256_596, k256_597, k256_598, k256_599, k256_600, k256_601, k256_602, k256_603, k256_604, k256_605, k256_606, k256_607, ab_inv_I, ab_inv_R, ab_inv_L, ab_inv_0, ab_push_some, ab_push_none, ab_E_sw, ab_E_sw0, true_and, and_true, not_false_eq_true, a1, v1', w1', a2, v2', w2', h1, h2, h4, h5, u1, u2, Int32.reduceAdd, Int32.reduceMul, Int32.reduceSub, Int32.reduceDiv, Int32.reduceLT, Int32.reduceLE, Int32.reduceToNatClampNeg, i10, i01, ↓reduceIte, if_true, if_false]
  refine ab_run_m _ _ _ _ _ _ _ _ (fun r g2 I2 J2 z => ?_) hM
  obtain ⟨z1, z2⟩ := z
  subst z1
  simp only [k256_610, ab_inv_I, ab_inv_R, ab_inv_L, ab_inv_0, ab_push_some, ab_push_none, ab_E_sw, ab_E_sw0, true_and, and_true, not_false_eq_true, lg_self, if_true]
  exact hQ g2 I2 J2 _ _ z2 (by omega) (by omega)
set_option maxRecDepth 20000 in
theorem cs_13_law (hR : REL SL xs g I J) (hi : i + 6 ≤ SL) (hS : SL ≤ 384) (hce : ce + 5 ≤ 600000) (hsl : sl + 257 ≤ 7302249) (hQ : ∀ g' I' J' ce' sl', REL SL xs g' I' J' → ce' ≤ ce + 5 → sl' ≤ sl + 257 → ab_E 100 256 1539 [some (vR (some 10)), some (vR (some 32)), some (vR (some 101)), some (vI (nI i))] [] ce' sl' g' I' J' Q) : ab_E 100 256 615 [some (vR (some 10)), some (vR (some 32)), some (vR (some 101)), some (vI (nI i))] [] ce sl g I J Q := by
  have h := REL_lw hR
  obtain ⟨⟨h1, h2, h3, h4⟩, h5, h6⟩ := h
  have u1 : ce ≤ 600000 := by omega
  have u2 : sl ≤ 7302249 := by omega
  have a1 : nI i + 1 = nI (i + 1) := nI_add i 1
  have v1' : vp_in (nI (i + 1)) SL := vp_in_nI (by omega) (by omega)
  have w1' : (nI (i + 1)).toNatClampNeg = i + 1 := nI_clamp (by omega)
  have a2 : nI i + 2 = nI (i + 2) := nI_add i 2
  have v2' : vp_in (nI (i + 2)) SL := vp_in_nI (by omega) (by omega)
  have w2' : (nI (i + 2)).toNatClampNeg = i + 2 := nI_clamp (by omega)
  have a3 : nI i + 3 = nI (i + 3) := nI_add i 3
  have v3' : vp_in (nI (i + 3)) SL := vp_in_nI (by omega) (by omega)
  have w3' : (nI (i + 3)).toNatClampNeg = i + 3 := nI_clamp (by omega)
  simp only [k256_615, k256_616, k256_617, k256_618, k256_619, k256_620, k256_621, k256_622, k256_623, k256_624, k256_625, k256_626, k256_627, k256_628, k256_629, k256_630, k256_631, ab_inv_I, ab_inv_R, ab_inv_L, ab_inv_0, ab_push_some, ab_push_none, ab_E_sw, ab_E_sw0, true_and, and_true, not_false_eq_true, a1, v1', w1', a2, v2', w2', a3, v3', w3', h1, h2, h3, h5, u1, u2, Int32.reduceAdd, Int32.reduceMul, Int32.reduceSub, Int32.reduceDiv, Int32.reduceLT, Int32.reduceLE, Int32.reduceToNatClampNeg, i10, i01, ↓reduceIte, if_true, if_false]
  refine prL (d := 99) h6 r84 (p_cost (d := 88) hR) fun x g1 I1 J1 K hM => ?_
  obtain ⟨⟨h1, h2, h3, h4⟩, h5, h6⟩ := kp_lw hR K
  simp only [k256_634, k256_635, k256_636, k256_637, k256_638, k256_639, k256_640, k256_641, k256_642, k256_643, k256_644, k256_645, k256_646, k256_647, k256_648, k256_649, k256_650, ab_inv_I, ab_inv_R, ab_inv_L, ab_inv_0, ab_push_some, ab_push_none, ab_E_sw, ab_E_sw0, true_and, and_true, not_false_eq_true, a1, v1', w1', a2, v2', w2', a3, v3', w3', h1, h2, h4, h5, u1, u2, Int32.reduceAdd, Int32.reduceMul, Int32.reduceSub, Int32.reduceDiv, Int32.reduceLT, Int32.reduceLE, Int32.reduceToNatClampNeg, i10, i01, ↓reduceIte, if_true, if_false]
  refine ab_run_m _ _ _ _ _ _ _ _ (fun r g2 I2 J2 z => ?_) hM
  obtain ⟨z1, z2⟩ := z
  subst z1
  simp only [k256_653, k256_654, ab_inv_I, ab_inv_R, ab_inv_L, ab_inv_0, ab_push_some, ab_push_none, ab_E_sw, ab_E_sw0, true_and, and_true, not_false_eq_true, lg_self, if_true]
  exact hQ g2 I2 J2 _ _ z2 (by omega) (by omega)
set_option maxRecDepth 20000 in
theorem cs_14_law (hR : REL SL xs g I J) (hi : i + 6 ≤ SL) (hS : SL ≤ 384) (hce : ce + 5 ≤ 600000) (hsl : sl + 257 ≤ 7302249) (hQ : ∀ g' I' J' ce' sl', REL SL xs g' I' J' → ce' ≤ ce + 5 → sl' ≤ sl + 257 → ab_E 100 256 1539 [some (vR (some 10)), some (vR (some 32)), some (vR (some 101)), some (vI (nI i))] [] ce' sl' g' I' J' Q) : ab_E 100 256 659 [some (vR (some 10)), some (vR (some 32)), some (vR (some 101)), some (vI (nI i))] [] ce sl g I J Q := by
  have h := REL_lw hR
  obtain ⟨⟨h1, h2, h3, h4⟩, h5, h6⟩ := h
  have u1 : ce ≤ 600000 := by omega
  have u2 : sl ≤ 7302249 := by omega
  have a1 : nI i + 1 = nI (i + 1) := nI_add i 1
  have v1' : vp_in (nI (i + 1)) SL := vp_in_nI (by omega) (by omega)
  have w1' : (nI (i + 1)).toNatClampNeg = i + 1 := nI_clamp (by omega)
  simp only [k256_659, k256_660, k256_661, k256_662, k256_663, k256_664, k256_665, ab_inv_I, ab_inv_R, ab_inv_L, ab_inv_0, ab_push_some, ab_push_none, ab_E_sw, ab_E_sw0, true_and, and_true, not_false_eq_true, a1, v1', w1', h1, h2, h3, h5, u1, u2, Int32.reduceAdd, Int32.reduceMul, Int32.reduceSub, Int32.reduceDiv, Int32.reduceLT, Int32.reduceLE, Int32.reduceToNatClampNeg, i10, i01, ↓reduceIte, if_true, if_false]
  refine prL (d := 99) h6 r94 (p_plain (d := 88) hR) fun x g1 I1 J1 K hM => ?_
  obtain ⟨⟨h1, h2, h3, h4⟩, h5, h6⟩ := kp_lw hR K
  simp only [k256_668, k256_669, k256_670, k256_671, k256_672, k256_673, k256_674, ab_inv_I, ab_inv_R, ab_inv_L, ab_inv_0, ab_push_some, ab_push_none, ab_E_sw, ab_E_sw0, true_and, and_true, not_false_eq_true, a1, v1', w1', h1, h2, h4, h5, u1, u2, Int32.reduceAdd, Int32.reduceMul, Int32.reduceSub, Int32.reduceDiv, Int32.reduceLT, Int32.reduceLE, Int32.reduceToNatClampNeg, i10, i01, ↓reduceIte, if_true, if_false]
  refine ab_run_m _ _ _ _ _ _ _ _ (fun r g2 I2 J2 z => ?_) hM
  obtain ⟨z1, z2⟩ := z
  subst z1
  simp only [k256_677, k256_678, ab_inv_I, ab_inv_R, ab_inv_L, ab_inv_0, ab_push_some, ab_push_none, ab_E_sw, ab_E_sw0, true_and, and_true, not_false_eq_true, lg_self, if_true]
  exact hQ g2 I2 J2 _ _ z2 (by omega) (by omega)
set_option maxRecDepth 20000 in
theorem cs_15_law (hR : REL SL xs g I J) (hi : i + 6 ≤ SL) (hS : SL ≤ 384) (hce : ce + 5 ≤ 600000) (hsl : sl + 257 ≤ 7302249) (hQ : ∀ g' I' J' ce' sl', REL SL xs g' I' J' → ce' ≤ ce + 5 → sl' ≤ sl + 257 → ab_E 100 256 1539 [some (vR (some 10)), some (vR (some 32)), some (vR (some 101)), some (vI (nI i))] [] ce' sl' g' I' J' Q) : ab_E 100 256 683 [some (vR (some 10)), some (vR (some 32)), some (vR (some 101)), some (vI (nI i))] [] ce sl g I J Q := by
  have h := REL_lw hR
  obtain ⟨⟨h1, h2, h3, h4⟩, h5, h6⟩ := h
  have u1 : ce ≤ 600000 := by omega
  have u2 : sl ≤ 7302249 := by omega
  simp only [k256_683, k256_684, ab_inv_I, ab_inv_R, ab_inv_L, ab_inv_0, ab_push_some, ab_push_none, ab_E_sw, ab_E_sw0, true_and, and_true, not_false_eq_true, h1, h2, h3, h5, u1, u2, Int32.reduceAdd, Int32.reduceMul, Int32.reduceSub, Int32.reduceDiv, Int32.reduceLT, Int32.reduceLE, Int32.reduceToNatClampNeg, i10, i01, ↓reduceIte, if_true, if_false]
  refine prL (d := 99) h6 r96 (p_least (d := 88) hR) fun x g1 I1 J1 K hM => ?_
  obtain ⟨⟨h1, h2, h3, h4⟩, h5, h6⟩ := kp_lw hR K
  simp only [k256_687, k256_688, ab_inv_I, ab_inv_R, ab_inv_L, ab_inv_0, ab_push_some, ab_push_none, ab_E_sw, ab_E_sw0, true_and, and_true, not_false_eq_true, h1, h2, h4, h5, u1, u2, Int32.reduceAdd, Int32.reduceMul, Int32.reduceSub, Int32.reduceDiv, Int32.reduceLT, Int32.reduceLE, Int32.reduceToNatClampNeg, i10, i01, ↓reduceIte, if_true, if_false]
  refine ab_run_m _ _ _ _ _ _ _ _ (fun r g2 I2 J2 z => ?_) hM
  obtain ⟨z1, z2⟩ := z
  subst z1
  simp only [k256_691, k256_692, ab_inv_I, ab_inv_R, ab_inv_L, ab_inv_0, ab_push_some, ab_push_none, ab_E_sw, ab_E_sw0, true_and, and_true, not_false_eq_true, lg_self, if_true]
  exact hQ g2 I2 J2 _ _ z2 (by omega) (by omega)
set_option maxRecDepth 20000 in
theorem cs_16_law (hR : REL SL xs g I J) (hi : i + 6 ≤ SL) (hS : SL ≤ 384) (hce : ce + 5 ≤ 600000) (hsl : sl + 257 ≤ 7302249) (hQ : ∀ g' I' J' ce' sl', REL SL xs g' I' J' → ce' ≤ ce + 5 → sl' ≤ sl + 257 → ab_E 100 256 1539 [some (vR (some 10)), some (vR (some 32)), some (vR (some 101)), some (vI (nI i))] [] ce' sl' g' I' J' Q) : ab_E 100 256 697 [some (vR (some 10)), some (vR (some 32)), some (vR (some 101)), some (vI (nI i))] [] ce sl g I J Q := by
  have h := REL_lw hR
  obtain ⟨⟨h1, h2, h3, h4⟩, h5, h6⟩ := h
  have u1 : ce ≤ 600000 := by omega
  have u2 : sl ≤ 7302249 := by omega
  have a1 : nI i + 1 = nI (i + 1) := nI_add i 1
  have v1' : vp_in (nI (i + 1)) SL := vp_in_nI (by omega) (by omega)
  have w1' : (nI (i + 1)).toNatClampNeg = i + 1 := nI_clamp (by omega)
  simp only [k256_697, k256_698, k256_699, k256_700, k256_701, k256_702, k256_703, ab_inv_I, ab_inv_R, ab_inv_L, ab_inv_0, ab_push_some, ab_push_none, ab_E_sw, ab_E_sw0, true_and, and_true, not_false_eq_true, a1, v1', w1', h1, h2, h3, h5, u1, u2, Int32.reduceAdd, Int32.reduceMul, Int32.reduceSub, Int32.reduceDiv, Int32.reduceLT, Int32.reduceLE, Int32.reduceToNatClampNeg, i10, i01, ↓reduceIte, if_true, if_false]
  refine prI (d := 99) h6 r99 (p_best (d := 88) hR) fun x g1 I1 J1 K hM => ?_
  obtain ⟨⟨h1, h2, h3, h4⟩, h5, h6⟩ := kp_lw hR K
  simp only [k256_706, k256_707, k256_708, k256_709, k256_710, k256_711, k256_712, ab_inv_I, ab_inv_R, ab_inv_L, ab_inv_0, ab_push_some, ab_push_none, ab_E_sw, ab_E_sw0, true_and, and_true, not_false_eq_true, a1, v1', w1', h1, h2, h4, h5, u1, u2, Int32.reduceAdd, Int32.reduceMul, Int32.reduceSub, Int32.reduceDiv, Int32.reduceLT, Int32.reduceLE, Int32.reduceToNatClampNeg, i10, i01, ↓reduceIte, if_true, if_false]
  refine ab_run_m _ _ _ _ _ _ _ _ (fun r g2 I2 J2 z => ?_) hM
  obtain ⟨z1, z2⟩ := z
  subst z1
  simp only [k256_715, ab_inv_I, ab_inv_R, ab_inv_L, ab_inv_0, ab_push_some, ab_push_none, ab_E_sw, ab_E_sw0, true_and, and_true, not_false_eq_true, lg_self, if_true]
  exact hQ g2 I2 J2 _ _ z2 (by omega) (by omega)
set_option maxRecDepth 20000 in
theorem cs_17_law (hR : REL SL xs g I J) (hi : i + 6 ≤ SL) (hS : SL ≤ 384) (hce : ce + 5 ≤ 600000) (hsl : sl + 257 ≤ 7302249) (hQ : ∀ g' I' J' ce' sl', REL SL xs g' I' J' → ce' ≤ ce + 5 → sl' ≤ sl + 257 → ab_E 100 256 1539 [some (vR (some 10)), some (vR (some 32)), some (vR (some 101)), some (vI (nI i))] [] ce' sl' g' I' J' Q) : ab_E 100 256 720 [some (vR (some 10)), some (vR (some 32)), some (vR (some 101)), some (vI (nI i))] [] ce sl g I J Q := by
  have h := REL_lw hR
  obtain ⟨⟨h1, h2, h3, h4⟩, h5, h6⟩ := h
  have u1 : ce ≤ 600000 := by omega
  have u2 : sl ≤ 7302249 := by omega
  have a1 : nI i + 1 = nI (i + 1) := nI_add i 1
  have v1' : vp_in (nI (i + 1)) SL := vp_in_nI (by omega) (by omega)
  have w1' : (nI (i + 1)).toNatClampNeg = i + 1 := nI_clamp (by omega)
  have a2 : nI i + 2 = nI (i + 2) := nI_add i 2
  have v2' : vp_in (nI (i + 2)) SL := vp_in_nI (by omega) (by omega)
  have w2' : (nI (i + 2)).toNatClampNeg = i + 2 := nI_clamp (by omega)
  have a3 : nI i + 3 = nI (i + 3) := nI_add i 3
  have v3' : vp_in (nI (i + 3)) SL := vp_in_nI (by omega) (by omega)
  have w3' : (nI (i + 3)).toNatClampNeg = i + 3 := nI_clamp (by omega)
  simp only [k256_720, k256_721, k256_722, k256_723, k256_724, k256_725, k256_726, k256_727, k256_728, k256_729, k256_730, k256_731, k256_732, k256_733, k256_734, k256_735, k256_736, ab_inv_I, ab_inv_R, ab_inv_L, ab_inv_0, ab_push_some, ab_push_none, ab_E_sw, ab_E_sw0, true_and, and_true, not_false_eq_true, a1, v1', w1', a2, v2', w2', a3, v3', w3', h1, h2, h3, h5, u1, u2, Int32.reduceAdd, Int32.reduceMul, Int32.reduceSub, Int32.reduceDiv, Int32.reduceLT, Int32.reduceLE, Int32.reduceToNatClampNeg, i10, i01, ↓reduceIte, if_true, if_false]
  refine prI (d := 99) h6 r101 (p_answer (d := 88) hR) fun x g1 I1 J1 K hM => ?_
  obtain ⟨⟨h1, h2, h3, h4⟩, h5, h6⟩ := kp_lw hR K
  simp only [k256_739, k256_740, k256_741, k256_742, k256_743, k256_744, k256_745, k256_746, k256_747, k256_748, k256_749, k256_750, k256_751, k256_752, k256_753, k256_754, k256_755, ab_inv_I, ab_inv_R, ab_inv_L, ab_inv_0, ab_push_some, ab_push_none, ab_E_sw, ab_E_sw0, true_and, and_true, not_false_eq_true, a1, v1', w1', a2, v2', w2', a3, v3', w3', h1, h2, h4, h5, u1, u2, Int32.reduceAdd, Int32.reduceMul, Int32.reduceSub, Int32.reduceDiv, Int32.reduceLT, Int32.reduceLE, Int32.reduceToNatClampNeg, i10, i01, ↓reduceIte, if_true, if_false]
  refine ab_run_m _ _ _ _ _ _ _ _ (fun r g2 I2 J2 z => ?_) hM
  obtain ⟨z1, z2⟩ := z
  subst z1
  simp only [k256_758, ab_inv_I, ab_inv_R, ab_inv_L, ab_inv_0, ab_push_some, ab_push_none, ab_E_sw, ab_E_sw0, true_and, and_true, not_false_eq_true, lg_self, if_true]
  exact hQ g2 I2 J2 _ _ z2 (by omega) (by omega)
set_option maxRecDepth 20000 in
theorem cs_18_law (hR : REL SL xs g I J) (hi : i + 6 ≤ SL) (hS : SL ≤ 384) (hce : ce + 5 ≤ 600000) (hsl : sl + 257 ≤ 7302249) (hQ : ∀ g' I' J' ce' sl', REL SL xs g' I' J' → ce' ≤ ce + 5 → sl' ≤ sl + 257 → ab_E 100 256 1539 [some (vR (some 10)), some (vR (some 32)), some (vR (some 101)), some (vI (nI i))] [] ce' sl' g' I' J' Q) : ab_E 100 256 763 [some (vR (some 10)), some (vR (some 32)), some (vR (some 101)), some (vI (nI i))] [] ce sl g I J Q := by
  have h := REL_lw hR
  obtain ⟨⟨h1, h2, h3, h4⟩, h5, h6⟩ := h
  have u1 : ce ≤ 600000 := by omega
  have u2 : sl ≤ 7302249 := by omega
  have a1 : nI i + 1 = nI (i + 1) := nI_add i 1
  have v1' : vp_in (nI (i + 1)) SL := vp_in_nI (by omega) (by omega)
  have w1' : (nI (i + 1)).toNatClampNeg = i + 1 := nI_clamp (by omega)
  have a2 : nI i + 2 = nI (i + 2) := nI_add i 2
  have v2' : vp_in (nI (i + 2)) SL := vp_in_nI (by omega) (by omega)
  have w2' : (nI (i + 2)).toNatClampNeg = i + 2 := nI_clamp (by omega)
  simp only [k256_763, k256_764, k256_765, k256_766, k256_767, k256_768, k256_769, k256_770, k256_771, k256_772, k256_773, k256_774, ab_inv_I, ab_inv_R, ab_inv_L, ab_inv_0, ab_push_some, ab_push_none, ab_E_sw, ab_E_sw0, true_and, and_true, not_false_eq_true, a1, v1', w1', a2, v2', w2', h1, h2, h3, h5, u1, u2, Int32.reduceAdd, Int32.reduceMul, Int32.reduceSub, Int32.reduceDiv, Int32.reduceLT, Int32.reduceLE, Int32.reduceToNatClampNeg, i10, i01, ↓reduceIte, if_true, if_false]
  refine prI (d := 99) h6 r105 (p_rest (d := 88) hR) fun x g1 I1 J1 K hM => ?_
  obtain ⟨⟨h1, h2, h3, h4⟩, h5, h6⟩ := kp_lw hR K
  simp only [k256_777, k256_778, k256_779, k256_780, k256_781, k256_782, k256_783, k256_784, k256_785, k256_786, k256_787, k256_788, ab_inv_I, ab_inv_R, ab_inv_L, ab_inv_0, ab_push_some, ab_push_none, ab_E_sw, ab_E_sw0, true_and, and_true, not_false_eq_true, a1, v1', w1', a2, v2', w2', h1, h2, h4, h5, u1, u2, Int32.reduceAdd, Int32.reduceMul, Int32.reduceSub, Int32.reduceDiv, Int32.reduceLT, Int32.reduceLE, Int32.reduceToNatClampNeg, i10, i01, ↓reduceIte, if_true, if_false]
  refine ab_run_m _ _ _ _ _ _ _ _ (fun r g2 I2 J2 z => ?_) hM
  obtain ⟨z1, z2⟩ := z
  subst z1
  simp only [k256_791, ab_inv_I, ab_inv_R, ab_inv_L, ab_inv_0, ab_push_some, ab_push_none, ab_E_sw, ab_E_sw0, true_and, and_true, not_false_eq_true, lg_self, if_true]
  exact hQ g2 I2 J2 _ _ z2 (by omega) (by omega)
set_option maxRecDepth 20000 in
theorem cs_19_law (hR : REL SL xs g I J) (hi : i + 6 ≤ SL) (hS : SL ≤ 384) (hce : ce + 5 ≤ 600000) (hsl : sl + 257 ≤ 7302249) (hQ : ∀ g' I' J' ce' sl', REL SL xs g' I' J' → ce' ≤ ce + 5 → sl' ≤ sl + 257 → ab_E 100 256 1539 [some (vR (some 10)), some (vR (some 32)), some (vR (some 101)), some (vI (nI i))] [] ce' sl' g' I' J' Q) : ab_E 100 256 796 [some (vR (some 10)), some (vR (some 32)), some (vR (some 101)), some (vI (nI i))] [] ce sl g I J Q := by
  have h := REL_lw hR
  obtain ⟨⟨h1, h2, h3, h4⟩, h5, h6⟩ := h
  have u1 : ce ≤ 600000 := by omega
  have u2 : sl ≤ 7302249 := by omega
  have a1 : nI i + 1 = nI (i + 1) := nI_add i 1
  have v1' : vp_in (nI (i + 1)) SL := vp_in_nI (by omega) (by omega)
  have w1' : (nI (i + 1)).toNatClampNeg = i + 1 := nI_clamp (by omega)
  have a2 : nI i + 2 = nI (i + 2) := nI_add i 2
  have v2' : vp_in (nI (i + 2)) SL := vp_in_nI (by omega) (by omega)
  have w2' : (nI (i + 2)).toNatClampNeg = i + 2 := nI_clamp (by omega)
  simp only [k256_796, k256_797, k256_798, k256_799, k256_800, k256_801, k256_802, k256_803, k256_804, k256_805, k256_806, k256_807, ab_inv_I, ab_inv_R, ab_inv_L, ab_inv_0, ab_push_some, ab_push_none, ab_E_sw, ab_E_sw0, true_and, and_true, not_false_eq_true, a1, v1', w1', a2, v2', w2', h1, h2, h3, h5, u1, u2, Int32.reduceAdd, Int32.reduceMul, Int32.reduceSub, Int32.reduceDiv, Int32.reduceLT, Int32.reduceLE, Int32.reduceToNatClampNeg, i10, i01, ↓reduceIte, if_true, if_false]
  refine prI (d := 99) h6 r114 (p_judge (d := 88) hR) fun x g1 I1 J1 K hM => ?_
  obtain ⟨⟨h1, h2, h3, h4⟩, h5, h6⟩ := kp_lw hR K
  simp only [k256_810, k256_811, k256_812, k256_813, k256_814, k256_815, k256_816, k256_817, k256_818, k256_819, k256_820, k256_821, ab_inv_I, ab_inv_R, ab_inv_L, ab_inv_0, ab_push_some, ab_push_none, ab_E_sw, ab_E_sw0, true_and, and_true, not_false_eq_true, a1, v1', w1', a2, v2', w2', h1, h2, h4, h5, u1, u2, Int32.reduceAdd, Int32.reduceMul, Int32.reduceSub, Int32.reduceDiv, Int32.reduceLT, Int32.reduceLE, Int32.reduceToNatClampNeg, i10, i01, ↓reduceIte, if_true, if_false]
  refine ab_run_m _ _ _ _ _ _ _ _ (fun r g2 I2 J2 z => ?_) hM
  obtain ⟨z1, z2⟩ := z
  subst z1
  simp only [k256_824, ab_inv_I, ab_inv_R, ab_inv_L, ab_inv_0, ab_push_some, ab_push_none, ab_E_sw, ab_E_sw0, true_and, and_true, not_false_eq_true, lg_self, if_true]
  exact hQ g2 I2 J2 _ _ z2 (by omega) (by omega)
set_option maxRecDepth 20000 in
theorem cs_20_law (hR : REL SL xs g I J) (hi : i + 6 ≤ SL) (hS : SL ≤ 384) (hce : ce + 5 ≤ 600000) (hsl : sl + 257 ≤ 7302249) (hQ : ∀ g' I' J' ce' sl', REL SL xs g' I' J' → ce' ≤ ce + 5 → sl' ≤ sl + 257 → ab_E 100 256 1539 [some (vR (some 10)), some (vR (some 32)), some (vR (some 101)), some (vI (nI i))] [] ce' sl' g' I' J' Q) : ab_E 100 256 829 [some (vR (some 10)), some (vR (some 32)), some (vR (some 101)), some (vI (nI i))] [] ce sl g I J Q := by
  have h := REL_lw hR
  obtain ⟨⟨h1, h2, h3, h4⟩, h5, h6⟩ := h
  have u1 : ce ≤ 600000 := by omega
  have u2 : sl ≤ 7302249 := by omega
  have a1 : nI i + 1 = nI (i + 1) := nI_add i 1
  have v1' : vp_in (nI (i + 1)) SL := vp_in_nI (by omega) (by omega)
  have w1' : (nI (i + 1)).toNatClampNeg = i + 1 := nI_clamp (by omega)
  have a2 : nI i + 2 = nI (i + 2) := nI_add i 2
  have v2' : vp_in (nI (i + 2)) SL := vp_in_nI (by omega) (by omega)
  have w2' : (nI (i + 2)).toNatClampNeg = i + 2 := nI_clamp (by omega)
  simp only [k256_829, k256_830, k256_831, k256_832, k256_833, k256_834, k256_835, k256_836, k256_837, k256_838, k256_839, k256_840, ab_inv_I, ab_inv_R, ab_inv_L, ab_inv_0, ab_push_some, ab_push_none, ab_E_sw, ab_E_sw0, true_and, and_true, not_false_eq_true, a1, v1', w1', a2, v2', w2', h1, h2, h3, h5, u1, u2, Int32.reduceAdd, Int32.reduceMul, Int32.reduceSub, Int32.reduceDiv, Int32.reduceLT, Int32.reduceLE, Int32.reduceToNatClampNeg, i10, i01, ↓reduceIte, if_true, if_false]
  refine prL (d := 99) h6 r116 (p_lost (d := 88) hR) fun x g1 I1 J1 K hM => ?_
  obtain ⟨⟨h1, h2, h3, h4⟩, h5, h6⟩ := kp_lw hR K
  simp only [k256_843, k256_844, k256_845, k256_846, k256_847, k256_848, k256_849, k256_850, k256_851, k256_852, k256_853, k256_854, ab_inv_I, ab_inv_R, ab_inv_L, ab_inv_0, ab_push_some, ab_push_none, ab_E_sw, ab_E_sw0, true_and, and_true, not_false_eq_true, a1, v1', w1', a2, v2', w2', h1, h2, h4, h5, u1, u2, Int32.reduceAdd, Int32.reduceMul, Int32.reduceSub, Int32.reduceDiv, Int32.reduceLT, Int32.reduceLE, Int32.reduceToNatClampNeg, i10, i01, ↓reduceIte, if_true, if_false]
  refine ab_run_m _ _ _ _ _ _ _ _ (fun r g2 I2 J2 z => ?_) hM
  obtain ⟨z1, z2⟩ := z
  subst z1
  simp only [k256_857, k256_858, ab_inv_I, ab_inv_R, ab_inv_L, ab_inv_0, ab_push_some, ab_push_none, ab_E_sw, ab_E_sw0, true_and, and_true, not_false_eq_true, lg_self, if_true]
  exact hQ g2 I2 J2 _ _ z2 (by omega) (by omega)
set_option maxRecDepth 20000 in
theorem cs_21_law (hR : REL SL xs g I J) (hi : i + 6 ≤ SL) (hS : SL ≤ 384) (hce : ce + 5 ≤ 600000) (hsl : sl + 257 ≤ 7302249) (hQ : ∀ g' I' J' ce' sl', REL SL xs g' I' J' → ce' ≤ ce + 5 → sl' ≤ sl + 257 → ab_E 100 256 1539 [some (vR (some 10)), some (vR (some 32)), some (vR (some 101)), some (vI (nI i))] [] ce' sl' g' I' J' Q) : ab_E 100 256 863 [some (vR (some 10)), some (vR (some 32)), some (vR (some 101)), some (vI (nI i))] [] ce sl g I J Q := by
  have h := REL_lw hR
  obtain ⟨⟨h1, h2, h3, h4⟩, h5, h6⟩ := h
  have u1 : ce ≤ 600000 := by omega
  have u2 : sl ≤ 7302249 := by omega
  have a1 : nI i + 1 = nI (i + 1) := nI_add i 1
  have v1' : vp_in (nI (i + 1)) SL := vp_in_nI (by omega) (by omega)
  have w1' : (nI (i + 1)).toNatClampNeg = i + 1 := nI_clamp (by omega)
  have a2 : nI i + 2 = nI (i + 2) := nI_add i 2
  have v2' : vp_in (nI (i + 2)) SL := vp_in_nI (by omega) (by omega)
  have w2' : (nI (i + 2)).toNatClampNeg = i + 2 := nI_clamp (by omega)
  simp only [k256_863, k256_864, k256_865, k256_866, k256_867, k256_868, k256_869, k256_870, k256_871, k256_872, k256_873, k256_874, ab_inv_I, ab_inv_R, ab_inv_L, ab_inv_0, ab_push_some, ab_push_none, ab_E_sw, ab_E_sw0, true_and, and_true, not_false_eq_true, a1, v1', w1', a2, v2', w2', h1, h2, h3, h5, u1, u2, Int32.reduceAdd, Int32.reduceMul, Int32.reduceSub, Int32.reduceDiv, Int32.reduceLT, Int32.reduceLE, Int32.reduceToNatClampNeg, i10, i01, ↓reduceIte, if_true, if_false]
  refine prI (d := 99) h6 r118 (p_how (d := 88) hR) fun x g1 I1 J1 K hM => ?_
  obtain ⟨⟨h1, h2, h3, h4⟩, h5, h6⟩ := kp_lw hR K
  simp only [k256_877, k256_878, k256_879, k256_880, k256_881, k256_882, k256_883, k256_884, k256_885, k256_886, k256_887, k256_888, ab_inv_I, ab_inv_R, ab_inv_L, ab_inv_0, ab_push_some, ab_push_none, ab_E_sw, ab_E_sw0, true_and, and_true, not_false_eq_true, a1, v1', w1', a2, v2', w2', h1, h2, h4, h5, u1, u2, Int32.reduceAdd, Int32.reduceMul, Int32.reduceSub, Int32.reduceDiv, Int32.reduceLT, Int32.reduceLE, Int32.reduceToNatClampNeg, i10, i01, ↓reduceIte, if_true, if_false]
  refine ab_run_m _ _ _ _ _ _ _ _ (fun r g2 I2 J2 z => ?_) hM
  obtain ⟨z1, z2⟩ := z
  subst z1
  simp only [k256_891, ab_inv_I, ab_inv_R, ab_inv_L, ab_inv_0, ab_push_some, ab_push_none, ab_E_sw, ab_E_sw0, true_and, and_true, not_false_eq_true, lg_self, if_true]
  exact hQ g2 I2 J2 _ _ z2 (by omega) (by omega)
set_option maxRecDepth 20000 in
theorem cs_22_law (hR : REL SL xs g I J) (hi : i + 6 ≤ SL) (hS : SL ≤ 384) (hce : ce + 5 ≤ 600000) (hsl : sl + 257 ≤ 7302249) (hQ : ∀ g' I' J' ce' sl', REL SL xs g' I' J' → ce' ≤ ce + 5 → sl' ≤ sl + 257 → ab_E 100 256 1539 [some (vR (some 10)), some (vR (some 32)), some (vR (some 101)), some (vI (nI i))] [] ce' sl' g' I' J' Q) : ab_E 100 256 896 [some (vR (some 10)), some (vR (some 32)), some (vR (some 101)), some (vI (nI i))] [] ce sl g I J Q := by
  have h := REL_lw hR
  obtain ⟨⟨h1, h2, h3, h4⟩, h5, h6⟩ := h
  have u1 : ce ≤ 600000 := by omega
  have u2 : sl ≤ 7302249 := by omega
  have a1 : nI i + 1 = nI (i + 1) := nI_add i 1
  have v1' : vp_in (nI (i + 1)) SL := vp_in_nI (by omega) (by omega)
  have w1' : (nI (i + 1)).toNatClampNeg = i + 1 := nI_clamp (by omega)
  simp only [k256_896, k256_897, k256_898, k256_899, k256_900, k256_901, k256_902, ab_inv_I, ab_inv_R, ab_inv_L, ab_inv_0, ab_push_some, ab_push_none, ab_E_sw, ab_E_sw0, true_and, and_true, not_false_eq_true, a1, v1', w1', h1, h2, h3, h5, u1, u2, Int32.reduceAdd, Int32.reduceMul, Int32.reduceSub, Int32.reduceDiv, Int32.reduceLT, Int32.reduceLE, Int32.reduceToNatClampNeg, i10, i01, ↓reduceIte, if_true, if_false]
  refine prL (d := 99) h6 r119 (p_worst (d := 88) hR) fun x g1 I1 J1 K hM => ?_
  obtain ⟨⟨h1, h2, h3, h4⟩, h5, h6⟩ := kp_lw hR K
  simp only [k256_905, k256_906, k256_907, k256_908, k256_909, k256_910, k256_911, ab_inv_I, ab_inv_R, ab_inv_L, ab_inv_0, ab_push_some, ab_push_none, ab_E_sw, ab_E_sw0, true_and, and_true, not_false_eq_true, a1, v1', w1', h1, h2, h4, h5, u1, u2, Int32.reduceAdd, Int32.reduceMul, Int32.reduceSub, Int32.reduceDiv, Int32.reduceLT, Int32.reduceLE, Int32.reduceToNatClampNeg, i10, i01, ↓reduceIte, if_true, if_false]
  refine ab_run_m _ _ _ _ _ _ _ _ (fun r g2 I2 J2 z => ?_) hM
  obtain ⟨z1, z2⟩ := z
  subst z1
  simp only [k256_914, k256_915, ab_inv_I, ab_inv_R, ab_inv_L, ab_inv_0, ab_push_some, ab_push_none, ab_E_sw, ab_E_sw0, true_and, and_true, not_false_eq_true, lg_self, if_true]
  exact hQ g2 I2 J2 _ _ z2 (by omega) (by omega)
set_option maxRecDepth 20000 in
theorem cs_23_law (hR : REL SL xs g I J) (hi : i + 6 ≤ SL) (hS : SL ≤ 384) (hce : ce + 5 ≤ 600000) (hsl : sl + 257 ≤ 7302249) (hQ : ∀ g' I' J' ce' sl', REL SL xs g' I' J' → ce' ≤ ce + 5 → sl' ≤ sl + 257 → ab_E 100 256 1539 [some (vR (some 10)), some (vR (some 32)), some (vR (some 101)), some (vI (nI i))] [] ce' sl' g' I' J' Q) : ab_E 100 256 920 [some (vR (some 10)), some (vR (some 32)), some (vR (some 101)), some (vI (nI i))] [] ce sl g I J Q := by
  have h := REL_lw hR
  obtain ⟨⟨h1, h2, h3, h4⟩, h5, h6⟩ := h
  have u1 : ce ≤ 600000 := by omega
  have u2 : sl ≤ 7302249 := by omega
  have a1 : nI i + 1 = nI (i + 1) := nI_add i 1
  have v1' : vp_in (nI (i + 1)) SL := vp_in_nI (by omega) (by omega)
  have w1' : (nI (i + 1)).toNatClampNeg = i + 1 := nI_clamp (by omega)
  simp only [k256_920, k256_921, k256_922, k256_923, k256_924, k256_925, k256_926, ab_inv_I, ab_inv_R, ab_inv_L, ab_inv_0, ab_push_some, ab_push_none, ab_E_sw, ab_E_sw0, true_and, and_true, not_false_eq_true, a1, v1', w1', h1, h2, h3, h5, u1, u2, Int32.reduceAdd, Int32.reduceMul, Int32.reduceSub, Int32.reduceDiv, Int32.reduceLT, Int32.reduceLE, Int32.reduceToNatClampNeg, i10, i01, ↓reduceIte, if_true, if_false]
  refine prI (d := 99) h6 r120 (p_find (d := 88) hR) fun x g1 I1 J1 K hM => ?_
  obtain ⟨⟨h1, h2, h3, h4⟩, h5, h6⟩ := kp_lw hR K
  simp only [k256_929, k256_930, k256_931, k256_932, k256_933, k256_934, k256_935, ab_inv_I, ab_inv_R, ab_inv_L, ab_inv_0, ab_push_some, ab_push_none, ab_E_sw, ab_E_sw0, true_and, and_true, not_false_eq_true, a1, v1', w1', h1, h2, h4, h5, u1, u2, Int32.reduceAdd, Int32.reduceMul, Int32.reduceSub, Int32.reduceDiv, Int32.reduceLT, Int32.reduceLE, Int32.reduceToNatClampNeg, i10, i01, ↓reduceIte, if_true, if_false]
  refine ab_run_m _ _ _ _ _ _ _ _ (fun r g2 I2 J2 z => ?_) hM
  obtain ⟨z1, z2⟩ := z
  subst z1
  simp only [k256_938, ab_inv_I, ab_inv_R, ab_inv_L, ab_inv_0, ab_push_some, ab_push_none, ab_E_sw, ab_E_sw0, true_and, and_true, not_false_eq_true, lg_self, if_true]
  exact hQ g2 I2 J2 _ _ z2 (by omega) (by omega)
set_option maxRecDepth 20000 in
theorem cs_24_law (hR : REL SL xs g I J) (hi : i + 6 ≤ SL) (hS : SL ≤ 384) (hce : ce + 5 ≤ 600000) (hsl : sl + 257 ≤ 7302249) (hQ : ∀ g' I' J' ce' sl', REL SL xs g' I' J' → ce' ≤ ce + 5 → sl' ≤ sl + 257 → ab_E 100 256 1539 [some (vR (some 10)), some (vR (some 32)), some (vR (some 101)), some (vI (nI i))] [] ce' sl' g' I' J' Q) : ab_E 100 256 943 [some (vR (some 10)), some (vR (some 32)), some (vR (some 101)), some (vI (nI i))] [] ce sl g I J Q := by
  have h := REL_lw hR
  obtain ⟨⟨h1, h2, h3, h4⟩, h5, h6⟩ := h
  have u1 : ce ≤ 600000 := by omega
  have u2 : sl ≤ 7302249 := by omega
  have a1 : nI i + 1 = nI (i + 1) := nI_add i 1
  have v1' : vp_in (nI (i + 1)) SL := vp_in_nI (by omega) (by omega)
  have w1' : (nI (i + 1)).toNatClampNeg = i + 1 := nI_clamp (by omega)
  have a2 : nI i + 2 = nI (i + 2) := nI_add i 2
  have v2' : vp_in (nI (i + 2)) SL := vp_in_nI (by omega) (by omega)
  have w2' : (nI (i + 2)).toNatClampNeg = i + 2 := nI_clamp (by omega)
  simp only [k256_943, k256_944, k256_945, k256_946, k256_947, k256_948, k256_949, k256_950, k256_951, k256_952, k256_953, k256_954, ab_inv_I, ab_inv_R, ab_inv_L, ab_inv_0, ab_push_some, ab_push_none, ab_E_sw, ab_E_sw0, true_and, and_true, not_false_eq_true, a1, v1', w1', a2, v2', w2', h1, h2, h3, h5, u1, u2, Int32.reduceAdd, Int32.reduceMul, Int32.reduceSub, Int32.reduceDiv, Int32.reduceLT, Int32.reduceLE, Int32.reduceToNatClampNeg, i10, i01, ↓reduceIte, if_true, if_false]
  refine prI (d := 99) h6 r121 (p_keeps (d := 88) hR) fun x g1 I1 J1 K hM => ?_
  obtain ⟨⟨h1, h2, h3, h4⟩, h5, h6⟩ := kp_lw hR K
  simp only [k256_957, k256_958, k256_959, k256_960, k256_961, k256_962, k256_963, k256_964, k256_965, k256_966, k256_967, k256_968, ab_inv_I, ab_inv_R, ab_inv_L, ab_inv_0, ab_push_some, ab_push_none, ab_E_sw, ab_E_sw0, true_and, and_true, not_false_eq_true, a1, v1', w1', a2, v2', w2', h1, h2, h4, h5, u1, u2, Int32.reduceAdd, Int32.reduceMul, Int32.reduceSub, Int32.reduceDiv, Int32.reduceLT, Int32.reduceLE, Int32.reduceToNatClampNeg, i10, i01, ↓reduceIte, if_true, if_false]
  refine ab_run_m _ _ _ _ _ _ _ _ (fun r g2 I2 J2 z => ?_) hM
  obtain ⟨z1, z2⟩ := z
  subst z1
  simp only [k256_971, ab_inv_I, ab_inv_R, ab_inv_L, ab_inv_0, ab_push_some, ab_push_none, ab_E_sw, ab_E_sw0, true_and, and_true, not_false_eq_true, lg_self, if_true]
  exact hQ g2 I2 J2 _ _ z2 (by omega) (by omega)
set_option maxRecDepth 20000 in
theorem cs_25_law (hR : REL SL xs g I J) (hi : i + 6 ≤ SL) (hS : SL ≤ 384) (hce : ce + 5 ≤ 600000) (hsl : sl + 257 ≤ 7302249) (hQ : ∀ g' I' J' ce' sl', REL SL xs g' I' J' → ce' ≤ ce + 5 → sl' ≤ sl + 257 → ab_E 100 256 1539 [some (vR (some 10)), some (vR (some 32)), some (vR (some 101)), some (vI (nI i))] [] ce' sl' g' I' J' Q) : ab_E 100 256 976 [some (vR (some 10)), some (vR (some 32)), some (vR (some 101)), some (vI (nI i))] [] ce sl g I J Q := by
  have h := REL_lw hR
  obtain ⟨⟨h1, h2, h3, h4⟩, h5, h6⟩ := h
  have u1 : ce ≤ 600000 := by omega
  have u2 : sl ≤ 7302249 := by omega
  have a1 : nI i + 1 = nI (i + 1) := nI_add i 1
  have v1' : vp_in (nI (i + 1)) SL := vp_in_nI (by omega) (by omega)
  have w1' : (nI (i + 1)).toNatClampNeg = i + 1 := nI_clamp (by omega)
  have a2 : nI i + 2 = nI (i + 2) := nI_add i 2
  have v2' : vp_in (nI (i + 2)) SL := vp_in_nI (by omega) (by omega)
  have w2' : (nI (i + 2)).toNatClampNeg = i + 2 := nI_clamp (by omega)
  simp only [k256_976, k256_977, k256_978, k256_979, k256_980, k256_981, k256_982, k256_983, k256_984, k256_985, k256_986, k256_987, ab_inv_I, ab_inv_R, ab_inv_L, ab_inv_0, ab_push_some, ab_push_none, ab_E_sw, ab_E_sw0, true_and, and_true, not_false_eq_true, a1, v1', w1', a2, v2', w2', h1, h2, h3, h5, u1, u2, Int32.reduceAdd, Int32.reduceMul, Int32.reduceSub, Int32.reduceDiv, Int32.reduceLT, Int32.reduceLE, Int32.reduceToNatClampNeg, i10, i01, ↓reduceIte, if_true, if_false]
  refine prI (d := 99) h6 r124 (p_breach (d := 88) hR) fun x g1 I1 J1 K hM => ?_
  obtain ⟨⟨h1, h2, h3, h4⟩, h5, h6⟩ := kp_lw hR K
  simp only [k256_990, k256_991, k256_992, k256_993, k256_994, k256_995, k256_996, k256_997, k256_998, k256_999, k256_1000, k256_1001, ab_inv_I, ab_inv_R, ab_inv_L, ab_inv_0, ab_push_some, ab_push_none, ab_E_sw, ab_E_sw0, true_and, and_true, not_false_eq_true, a1, v1', w1', a2, v2', w2', h1, h2, h4, h5, u1, u2, Int32.reduceAdd, Int32.reduceMul, Int32.reduceSub, Int32.reduceDiv, Int32.reduceLT, Int32.reduceLE, Int32.reduceToNatClampNeg, i10, i01, ↓reduceIte, if_true, if_false]
  refine ab_run_m _ _ _ _ _ _ _ _ (fun r g2 I2 J2 z => ?_) hM
  obtain ⟨z1, z2⟩ := z
  subst z1
  simp only [k256_1004, ab_inv_I, ab_inv_R, ab_inv_L, ab_inv_0, ab_push_some, ab_push_none, ab_E_sw, ab_E_sw0, true_and, and_true, not_false_eq_true, lg_self, if_true]
  exact hQ g2 I2 J2 _ _ z2 (by omega) (by omega)
set_option maxRecDepth 20000 in
theorem cs_26_law (hR : REL SL xs g I J) (hi : i + 6 ≤ SL) (hS : SL ≤ 384) (hce : ce + 5 ≤ 600000) (hsl : sl + 257 ≤ 7302249) (hQ : ∀ g' I' J' ce' sl', REL SL xs g' I' J' → ce' ≤ ce + 5 → sl' ≤ sl + 257 → ab_E 100 256 1539 [some (vR (some 10)), some (vR (some 32)), some (vR (some 101)), some (vI (nI i))] [] ce' sl' g' I' J' Q) : ab_E 100 256 1009 [some (vR (some 10)), some (vR (some 32)), some (vR (some 101)), some (vI (nI i))] [] ce sl g I J Q := by
  have h := REL_lw hR
  obtain ⟨⟨h1, h2, h3, h4⟩, h5, h6⟩ := h
  have u1 : ce ≤ 600000 := by omega
  have u2 : sl ≤ 7302249 := by omega
  have a1 : nI i + 1 = nI (i + 1) := nI_add i 1
  have v1' : vp_in (nI (i + 1)) SL := vp_in_nI (by omega) (by omega)
  have w1' : (nI (i + 1)).toNatClampNeg = i + 1 := nI_clamp (by omega)
  simp only [k256_1009, k256_1010, k256_1011, k256_1012, k256_1013, k256_1014, k256_1015, ab_inv_I, ab_inv_R, ab_inv_L, ab_inv_0, ab_push_some, ab_push_none, ab_E_sw, ab_E_sw0, true_and, and_true, not_false_eq_true, a1, v1', w1', h1, h2, h3, h5, u1, u2, Int32.reduceAdd, Int32.reduceMul, Int32.reduceSub, Int32.reduceDiv, Int32.reduceLT, Int32.reduceLE, Int32.reduceToNatClampNeg, i10, i01, ↓reduceIte, if_true, if_false]
  refine prI (d := 99) h6 r125 (p_agree (d := 88) hR) fun x g1 I1 J1 K hM => ?_
  obtain ⟨⟨h1, h2, h3, h4⟩, h5, h6⟩ := kp_lw hR K
  simp only [k256_1018, k256_1019, k256_1020, k256_1021, k256_1022, k256_1023, k256_1024, ab_inv_I, ab_inv_R, ab_inv_L, ab_inv_0, ab_push_some, ab_push_none, ab_E_sw, ab_E_sw0, true_and, and_true, not_false_eq_true, a1, v1', w1', h1, h2, h4, h5, u1, u2, Int32.reduceAdd, Int32.reduceMul, Int32.reduceSub, Int32.reduceDiv, Int32.reduceLT, Int32.reduceLE, Int32.reduceToNatClampNeg, i10, i01, ↓reduceIte, if_true, if_false]
  refine ab_run_m _ _ _ _ _ _ _ _ (fun r g2 I2 J2 z => ?_) hM
  obtain ⟨z1, z2⟩ := z
  subst z1
  simp only [k256_1027, ab_inv_I, ab_inv_R, ab_inv_L, ab_inv_0, ab_push_some, ab_push_none, ab_E_sw, ab_E_sw0, true_and, and_true, not_false_eq_true, lg_self, if_true]
  exact hQ g2 I2 J2 _ _ z2 (by omega) (by omega)
set_option maxRecDepth 20000 in
theorem cs_27_law (hR : REL SL xs g I J) (hi : i + 6 ≤ SL) (hS : SL ≤ 384) (hce : ce + 5 ≤ 600000) (hsl : sl + 257 ≤ 7302249) (hQ : ∀ g' I' J' ce' sl', REL SL xs g' I' J' → ce' ≤ ce + 5 → sl' ≤ sl + 257 → ab_E 100 256 1539 [some (vR (some 10)), some (vR (some 32)), some (vR (some 101)), some (vI (nI i))] [] ce' sl' g' I' J' Q) : ab_E 100 256 1032 [some (vR (some 10)), some (vR (some 32)), some (vR (some 101)), some (vI (nI i))] [] ce sl g I J Q := by
  have h := REL_lw hR
  obtain ⟨⟨h1, h2, h3, h4⟩, h5, h6⟩ := h
  have u1 : ce ≤ 600000 := by omega
  have u2 : sl ≤ 7302249 := by omega
  have a1 : nI i + 1 = nI (i + 1) := nI_add i 1
  have v1' : vp_in (nI (i + 1)) SL := vp_in_nI (by omega) (by omega)
  have w1' : (nI (i + 1)).toNatClampNeg = i + 1 := nI_clamp (by omega)
  simp only [k256_1032, k256_1033, k256_1034, k256_1035, k256_1036, k256_1037, k256_1038, ab_inv_I, ab_inv_R, ab_inv_L, ab_inv_0, ab_push_some, ab_push_none, ab_E_sw, ab_E_sw0, true_and, and_true, not_false_eq_true, a1, v1', w1', h1, h2, h3, h5, u1, u2, Int32.reduceAdd, Int32.reduceMul, Int32.reduceSub, Int32.reduceDiv, Int32.reduceLT, Int32.reduceLE, Int32.reduceToNatClampNeg, i10, i01, ↓reduceIte, if_true, if_false]
  refine prL (d := 99) h6 r127 (p_talk (d := 88) hR) fun x g1 I1 J1 K hM => ?_
  obtain ⟨⟨h1, h2, h3, h4⟩, h5, h6⟩ := kp_lw hR K
  simp only [k256_1041, k256_1042, k256_1043, k256_1044, k256_1045, k256_1046, k256_1047, ab_inv_I, ab_inv_R, ab_inv_L, ab_inv_0, ab_push_some, ab_push_none, ab_E_sw, ab_E_sw0, true_and, and_true, not_false_eq_true, a1, v1', w1', h1, h2, h4, h5, u1, u2, Int32.reduceAdd, Int32.reduceMul, Int32.reduceSub, Int32.reduceDiv, Int32.reduceLT, Int32.reduceLE, Int32.reduceToNatClampNeg, i10, i01, ↓reduceIte, if_true, if_false]
  refine ab_run_m _ _ _ _ _ _ _ _ (fun r g2 I2 J2 z => ?_) hM
  obtain ⟨z1, z2⟩ := z
  subst z1
  simp only [k256_1050, k256_1051, ab_inv_I, ab_inv_R, ab_inv_L, ab_inv_0, ab_push_some, ab_push_none, ab_E_sw, ab_E_sw0, true_and, and_true, not_false_eq_true, lg_self, if_true]
  exact hQ g2 I2 J2 _ _ z2 (by omega) (by omega)
set_option maxRecDepth 20000 in
theorem cs_28_law (hR : REL SL xs g I J) (hi : i + 6 ≤ SL) (hS : SL ≤ 384) (hce : ce + 5 ≤ 600000) (hsl : sl + 257 ≤ 7302249) (hQ : ∀ g' I' J' ce' sl', REL SL xs g' I' J' → ce' ≤ ce + 5 → sl' ≤ sl + 257 → ab_E 100 256 1539 [some (vR (some 10)), some (vR (some 32)), some (vR (some 101)), some (vI (nI i))] [] ce' sl' g' I' J' Q) : ab_E 100 256 1056 [some (vR (some 10)), some (vR (some 32)), some (vR (some 101)), some (vI (nI i))] [] ce sl g I J Q := by
  have h := REL_lw hR
  obtain ⟨⟨h1, h2, h3, h4⟩, h5, h6⟩ := h
  have u1 : ce ≤ 600000 := by omega
  have u2 : sl ≤ 7302249 := by omega
  have a1 : nI i + 1 = nI (i + 1) := nI_add i 1
  have v1' : vp_in (nI (i + 1)) SL := vp_in_nI (by omega) (by omega)
  have w1' : (nI (i + 1)).toNatClampNeg = i + 1 := nI_clamp (by omega)
  have a2 : nI i + 2 = nI (i + 2) := nI_add i 2
  have v2' : vp_in (nI (i + 2)) SL := vp_in_nI (by omega) (by omega)
  have w2' : (nI (i + 2)).toNatClampNeg = i + 2 := nI_clamp (by omega)
  have a3 : nI i + 3 = nI (i + 3) := nI_add i 3
  have v3' : vp_in (nI (i + 3)) SL := vp_in_nI (by omega) (by omega)
  have w3' : (nI (i + 3)).toNatClampNeg = i + 3 := nI_clamp (by omega)
  simp only [k256_1056, k256_1057, k256_1058, k256_1059, k256_1060, k256_1061, k256_1062, k256_1063, k256_1064, k256_1065, k256_1066, k256_1067, k256_1068, k256_1069, k256_1070, k256_1071, k256_1072, ab_inv_I, ab_inv_R, ab_inv_L, ab_inv_0, ab_push_some, ab_push_none, ab_E_sw, ab_E_sw0, true_and, and_true, not_false_eq_true, a1, v1', w1', a2, v2', w2', a3, v3', w3', h1, h2, h3, h5, u1, u2, Int32.reduceAdd, Int32.reduceMul, Int32.reduceSub, Int32.reduceDiv, Int32.reduceLT, Int32.reduceLE, Int32.reduceToNatClampNeg, i10, i01, ↓reduceIte, if_true, if_false]
  refine prI (d := 99) h6 r128 (p_settle (d := 88) hR) fun x g1 I1 J1 K hM => ?_
  obtain ⟨⟨h1, h2, h3, h4⟩, h5, h6⟩ := kp_lw hR K
  simp only [k256_1075, k256_1076, k256_1077, k256_1078, k256_1079, k256_1080, k256_1081, k256_1082, k256_1083, k256_1084, k256_1085, k256_1086, k256_1087, k256_1088, k256_1089, k256_1090, k256_1091, ab_inv_I, ab_inv_R, ab_inv_L, ab_inv_0, ab_push_some, ab_push_none, ab_E_sw, ab_E_sw0, true_and, and_true, not_false_eq_true, a1, v1', w1', a2, v2', w2', a3, v3', w3', h1, h2, h4, h5, u1, u2, Int32.reduceAdd, Int32.reduceMul, Int32.reduceSub, Int32.reduceDiv, Int32.reduceLT, Int32.reduceLE, Int32.reduceToNatClampNeg, i10, i01, ↓reduceIte, if_true, if_false]
  refine ab_run_m _ _ _ _ _ _ _ _ (fun r g2 I2 J2 z => ?_) hM
  obtain ⟨z1, z2⟩ := z
  subst z1
  simp only [k256_1094, ab_inv_I, ab_inv_R, ab_inv_L, ab_inv_0, ab_push_some, ab_push_none, ab_E_sw, ab_E_sw0, true_and, and_true, not_false_eq_true, lg_self, if_true]
  exact hQ g2 I2 J2 _ _ z2 (by omega) (by omega)
set_option maxRecDepth 20000 in
theorem cs_29_law (hR : REL SL xs g I J) (hi : i + 6 ≤ SL) (hS : SL ≤ 384) (hce : ce + 5 ≤ 600000) (hsl : sl + 257 ≤ 7302249) (hQ : ∀ g' I' J' ce' sl', REL SL xs g' I' J' → ce' ≤ ce + 5 → sl' ≤ sl + 257 → ab_E 100 256 1539 [some (vR (some 10)), some (vR (some 32)), some (vR (some 101)), some (vI (nI i))] [] ce' sl' g' I' J' Q) : ab_E 100 256 1099 [some (vR (some 10)), some (vR (some 32)), some (vR (some 101)), some (vI (nI i))] [] ce sl g I J Q := by
  have h := REL_lw hR
  obtain ⟨⟨h1, h2, h3, h4⟩, h5, h6⟩ := h
  have u1 : ce ≤ 600000 := by omega
  have u2 : sl ≤ 7302249 := by omega
  have a1 : nI i + 1 = nI (i + 1) := nI_add i 1
  have v1' : vp_in (nI (i + 1)) SL := vp_in_nI (by omega) (by omega)
  have w1' : (nI (i + 1)).toNatClampNeg = i + 1 := nI_clamp (by omega)
  have a2 : nI i + 2 = nI (i + 2) := nI_add i 2
  have v2' : vp_in (nI (i + 2)) SL := vp_in_nI (by omega) (by omega)
  have w2' : (nI (i + 2)).toNatClampNeg = i + 2 := nI_clamp (by omega)
  simp only [k256_1099, k256_1100, k256_1101, k256_1102, k256_1103, k256_1104, k256_1105, k256_1106, k256_1107, k256_1108, k256_1109, k256_1110, ab_inv_I, ab_inv_R, ab_inv_L, ab_inv_0, ab_push_some, ab_push_none, ab_E_sw, ab_E_sw0, true_and, and_true, not_false_eq_true, a1, v1', w1', a2, v2', w2', h1, h2, h3, h5, u1, u2, Int32.reduceAdd, Int32.reduceMul, Int32.reduceSub, Int32.reduceDiv, Int32.reduceLT, Int32.reduceLE, Int32.reduceToNatClampNeg, i10, i01, ↓reduceIte, if_true, if_false]
  refine prI (d := 99) h6 r129 (p_edge (d := 88) hR) fun x g1 I1 J1 K hM => ?_
  obtain ⟨⟨h1, h2, h3, h4⟩, h5, h6⟩ := kp_lw hR K
  simp only [k256_1113, k256_1114, k256_1115, k256_1116, k256_1117, k256_1118, k256_1119, k256_1120, k256_1121, k256_1122, k256_1123, k256_1124, ab_inv_I, ab_inv_R, ab_inv_L, ab_inv_0, ab_push_some, ab_push_none, ab_E_sw, ab_E_sw0, true_and, and_true, not_false_eq_true, a1, v1', w1', a2, v2', w2', h1, h2, h4, h5, u1, u2, Int32.reduceAdd, Int32.reduceMul, Int32.reduceSub, Int32.reduceDiv, Int32.reduceLT, Int32.reduceLE, Int32.reduceToNatClampNeg, i10, i01, ↓reduceIte, if_true, if_false]
  refine ab_run_m _ _ _ _ _ _ _ _ (fun r g2 I2 J2 z => ?_) hM
  obtain ⟨z1, z2⟩ := z
  subst z1
  simp only [k256_1127, ab_inv_I, ab_inv_R, ab_inv_L, ab_inv_0, ab_push_some, ab_push_none, ab_E_sw, ab_E_sw0, true_and, and_true, not_false_eq_true, lg_self, if_true]
  exact hQ g2 I2 J2 _ _ z2 (by omega) (by omega)
set_option maxRecDepth 20000 in
theorem cs_30_law (hR : REL SL xs g I J) (hi : i + 6 ≤ SL) (hS : SL ≤ 384) (hce : ce + 5 ≤ 600000) (hsl : sl + 257 ≤ 7302249) (hQ : ∀ g' I' J' ce' sl', REL SL xs g' I' J' → ce' ≤ ce + 5 → sl' ≤ sl + 257 → ab_E 100 256 1539 [some (vR (some 10)), some (vR (some 32)), some (vR (some 101)), some (vI (nI i))] [] ce' sl' g' I' J' Q) : ab_E 100 256 1132 [some (vR (some 10)), some (vR (some 32)), some (vR (some 101)), some (vI (nI i))] [] ce sl g I J Q := by
  have h := REL_lw hR
  obtain ⟨⟨h1, h2, h3, h4⟩, h5, h6⟩ := h
  have u1 : ce ≤ 600000 := by omega
  have u2 : sl ≤ 7302249 := by omega
  have a1 : nI i + 1 = nI (i + 1) := nI_add i 1
  have v1' : vp_in (nI (i + 1)) SL := vp_in_nI (by omega) (by omega)
  have w1' : (nI (i + 1)).toNatClampNeg = i + 1 := nI_clamp (by omega)
  have a2 : nI i + 2 = nI (i + 2) := nI_add i 2
  have v2' : vp_in (nI (i + 2)) SL := vp_in_nI (by omega) (by omega)
  have w2' : (nI (i + 2)).toNatClampNeg = i + 2 := nI_clamp (by omega)
  simp only [k256_1132, k256_1133, k256_1134, k256_1135, k256_1136, k256_1137, k256_1138, k256_1139, k256_1140, k256_1141, k256_1142, k256_1143, ab_inv_I, ab_inv_R, ab_inv_L, ab_inv_0, ab_push_some, ab_push_none, ab_E_sw, ab_E_sw0, true_and, and_true, not_false_eq_true, a1, v1', w1', a2, v2', w2', h1, h2, h3, h5, u1, u2, Int32.reduceAdd, Int32.reduceMul, Int32.reduceSub, Int32.reduceDiv, Int32.reduceLT, Int32.reduceLE, Int32.reduceToNatClampNeg, i10, i01, ↓reduceIte, if_true, if_false]
  refine prI (d := 99) h6 r132 (p_many (d := 97) hR) fun x g1 I1 J1 K hM => ?_
  obtain ⟨⟨h1, h2, h3, h4⟩, h5, h6⟩ := kp_lw hR K
  simp only [k256_1146, k256_1147, k256_1148, k256_1149, k256_1150, k256_1151, k256_1152, k256_1153, k256_1154, k256_1155, k256_1156, k256_1157, ab_inv_I, ab_inv_R, ab_inv_L, ab_inv_0, ab_push_some, ab_push_none, ab_E_sw, ab_E_sw0, true_and, and_true, not_false_eq_true, a1, v1', w1', a2, v2', w2', h1, h2, h4, h5, u1, u2, Int32.reduceAdd, Int32.reduceMul, Int32.reduceSub, Int32.reduceDiv, Int32.reduceLT, Int32.reduceLE, Int32.reduceToNatClampNeg, i10, i01, ↓reduceIte, if_true, if_false]
  refine ab_run_m _ _ _ _ _ _ _ _ (fun r g2 I2 J2 z => ?_) hM
  obtain ⟨z1, z2⟩ := z
  subst z1
  simp only [k256_1160, ab_inv_I, ab_inv_R, ab_inv_L, ab_inv_0, ab_push_some, ab_push_none, ab_E_sw, ab_E_sw0, true_and, and_true, not_false_eq_true, lg_self, if_true]
  exact hQ g2 I2 J2 _ _ z2 (by omega) (by omega)
set_option maxRecDepth 20000 in
theorem cs_31_law (hR : REL SL xs g I J) (hi : i + 6 ≤ SL) (hS : SL ≤ 384) (hce : ce + 5 ≤ 600000) (hsl : sl + 257 ≤ 7302249) (hQ : ∀ g' I' J' ce' sl', REL SL xs g' I' J' → ce' ≤ ce + 5 → sl' ≤ sl + 257 → ab_E 100 256 1539 [some (vR (some 10)), some (vR (some 32)), some (vR (some 101)), some (vI (nI i))] [] ce' sl' g' I' J' Q) : ab_E 100 256 1165 [some (vR (some 10)), some (vR (some 32)), some (vR (some 101)), some (vI (nI i))] [] ce sl g I J Q := by
  have h := REL_lw hR
  obtain ⟨⟨h1, h2, h3, h4⟩, h5, h6⟩ := h
  have u1 : ce ≤ 600000 := by omega
  have u2 : sl ≤ 7302249 := by omega
  have a1 : nI i + 1 = nI (i + 1) := nI_add i 1
  have v1' : vp_in (nI (i + 1)) SL := vp_in_nI (by omega) (by omega)
  have w1' : (nI (i + 1)).toNatClampNeg = i + 1 := nI_clamp (by omega)
  have a2 : nI i + 2 = nI (i + 2) := nI_add i 2
  have v2' : vp_in (nI (i + 2)) SL := vp_in_nI (by omega) (by omega)
  have w2' : (nI (i + 2)).toNatClampNeg = i + 2 := nI_clamp (by omega)
  simp only [k256_1165, k256_1166, k256_1167, k256_1168, k256_1169, k256_1170, k256_1171, k256_1172, k256_1173, k256_1174, k256_1175, k256_1176, ab_inv_I, ab_inv_R, ab_inv_L, ab_inv_0, ab_push_some, ab_push_none, ab_E_sw, ab_E_sw0, true_and, and_true, not_false_eq_true, a1, v1', w1', a2, v2', w2', h1, h2, h3, h5, u1, u2, Int32.reduceAdd, Int32.reduceMul, Int32.reduceSub, Int32.reduceDiv, Int32.reduceLT, Int32.reduceLE, Int32.reduceToNatClampNeg, i10, i01, ↓reduceIte, if_true, if_false]
  refine prI (d := 99) h6 r133 (p_whose (d := 96) hR) fun x g1 I1 J1 K hM => ?_
  obtain ⟨⟨h1, h2, h3, h4⟩, h5, h6⟩ := kp_lw hR K
  simp only [k256_1179, k256_1180, k256_1181, k256_1182, k256_1183, k256_1184, k256_1185, k256_1186, k256_1187, k256_1188, k256_1189, k256_1190, ab_inv_I, ab_inv_R, ab_inv_L, ab_inv_0, ab_push_some, ab_push_none, ab_E_sw, ab_E_sw0, true_and, and_true, not_false_eq_true, a1, v1', w1', a2, v2', w2', h1, h2, h4, h5, u1, u2, Int32.reduceAdd, Int32.reduceMul, Int32.reduceSub, Int32.reduceDiv, Int32.reduceLT, Int32.reduceLE, Int32.reduceToNatClampNeg, i10, i01, ↓reduceIte, if_true, if_false]
  refine ab_run_m _ _ _ _ _ _ _ _ (fun r g2 I2 J2 z => ?_) hM
  obtain ⟨z1, z2⟩ := z
  subst z1
  simp only [k256_1193, ab_inv_I, ab_inv_R, ab_inv_L, ab_inv_0, ab_push_some, ab_push_none, ab_E_sw, ab_E_sw0, true_and, and_true, not_false_eq_true, lg_self, if_true]
  exact hQ g2 I2 J2 _ _ z2 (by omega) (by omega)
set_option maxRecDepth 20000 in
theorem cs_32_law (hR : REL SL xs g I J) (hi : i + 6 ≤ SL) (hS : SL ≤ 384) (hce : ce + 5 ≤ 600000) (hsl : sl + 257 ≤ 7302249) (hQ : ∀ g' I' J' ce' sl', REL SL xs g' I' J' → ce' ≤ ce + 5 → sl' ≤ sl + 257 → ab_E 100 256 1539 [some (vR (some 10)), some (vR (some 32)), some (vR (some 101)), some (vI (nI i))] [] ce' sl' g' I' J' Q) : ab_E 100 256 1198 [some (vR (some 10)), some (vR (some 32)), some (vR (some 101)), some (vI (nI i))] [] ce sl g I J Q := by
  have h := REL_lw hR
  obtain ⟨⟨h1, h2, h3, h4⟩, h5, h6⟩ := h
  have u1 : ce ≤ 600000 := by omega
  have u2 : sl ≤ 7302249 := by omega
  have a1 : nI i + 1 = nI (i + 1) := nI_add i 1
  have v1' : vp_in (nI (i + 1)) SL := vp_in_nI (by omega) (by omega)
  have w1' : (nI (i + 1)).toNatClampNeg = i + 1 := nI_clamp (by omega)
  have a2 : nI i + 2 = nI (i + 2) := nI_add i 2
  have v2' : vp_in (nI (i + 2)) SL := vp_in_nI (by omega) (by omega)
  have w2' : (nI (i + 2)).toNatClampNeg = i + 2 := nI_clamp (by omega)
  have a3 : nI i + 3 = nI (i + 3) := nI_add i 3
  have v3' : vp_in (nI (i + 3)) SL := vp_in_nI (by omega) (by omega)
  have w3' : (nI (i + 3)).toNatClampNeg = i + 3 := nI_clamp (by omega)
  simp only [k256_1198, k256_1199, k256_1200, k256_1201, k256_1202, k256_1203, k256_1204, k256_1205, k256_1206, k256_1207, k256_1208, k256_1209, k256_1210, k256_1211, k256_1212, k256_1213, k256_1214, ab_inv_I, ab_inv_R, ab_inv_L, ab_inv_0, ab_push_some, ab_push_none, ab_E_sw, ab_E_sw0, true_and, and_true, not_false_eq_true, a1, v1', w1', a2, v2', w2', a3, v3', w3', h1, h2, h3, h5, u1, u2, Int32.reduceAdd, Int32.reduceMul, Int32.reduceSub, Int32.reduceDiv, Int32.reduceLT, Int32.reduceLE, Int32.reduceToNatClampNeg, i10, i01, ↓reduceIte, if_true, if_false]
  refine prI (d := 99) h6 r137 (p_part (d := 96) hR) fun x g1 I1 J1 K hM => ?_
  obtain ⟨⟨h1, h2, h3, h4⟩, h5, h6⟩ := kp_lw hR K
  simp only [k256_1217, k256_1218, k256_1219, k256_1220, k256_1221, k256_1222, k256_1223, k256_1224, k256_1225, k256_1226, k256_1227, k256_1228, k256_1229, k256_1230, k256_1231, k256_1232, k256_1233, ab_inv_I, ab_inv_R, ab_inv_L, ab_inv_0, ab_push_some, ab_push_none, ab_E_sw, ab_E_sw0, true_and, and_true, not_false_eq_true, a1, v1', w1', a2, v2', w2', a3, v3', w3', h1, h2, h4, h5, u1, u2, Int32.reduceAdd, Int32.reduceMul, Int32.reduceSub, Int32.reduceDiv, Int32.reduceLT, Int32.reduceLE, Int32.reduceToNatClampNeg, i10, i01, ↓reduceIte, if_true, if_false]
  refine ab_run_m _ _ _ _ _ _ _ _ (fun r g2 I2 J2 z => ?_) hM
  obtain ⟨z1, z2⟩ := z
  subst z1
  simp only [k256_1236, ab_inv_I, ab_inv_R, ab_inv_L, ab_inv_0, ab_push_some, ab_push_none, ab_E_sw, ab_E_sw0, true_and, and_true, not_false_eq_true, lg_self, if_true]
  exact hQ g2 I2 J2 _ _ z2 (by omega) (by omega)
set_option maxRecDepth 20000 in
theorem cs_33_law (hR : REL SL xs g I J) (hi : i + 6 ≤ SL) (hS : SL ≤ 384) (hce : ce + 5 ≤ 600000) (hsl : sl + 257 ≤ 7302249) (hQ : ∀ g' I' J' ce' sl', REL SL xs g' I' J' → ce' ≤ ce + 5 → sl' ≤ sl + 257 → ab_E 100 256 1539 [some (vR (some 10)), some (vR (some 32)), some (vR (some 101)), some (vI (nI i))] [] ce' sl' g' I' J' Q) : ab_E 100 256 1241 [some (vR (some 10)), some (vR (some 32)), some (vR (some 101)), some (vI (nI i))] [] ce sl g I J Q := by
  have h := REL_lw hR
  obtain ⟨⟨h1, h2, h3, h4⟩, h5, h6⟩ := h
  have u1 : ce ≤ 600000 := by omega
  have u2 : sl ≤ 7302249 := by omega
  have a1 : nI i + 1 = nI (i + 1) := nI_add i 1
  have v1' : vp_in (nI (i + 1)) SL := vp_in_nI (by omega) (by omega)
  have w1' : (nI (i + 1)).toNatClampNeg = i + 1 := nI_clamp (by omega)
  have a2 : nI i + 2 = nI (i + 2) := nI_add i 2
  have v2' : vp_in (nI (i + 2)) SL := vp_in_nI (by omega) (by omega)
  have w2' : (nI (i + 2)).toNatClampNeg = i + 2 := nI_clamp (by omega)
  have a3 : nI i + 3 = nI (i + 3) := nI_add i 3
  have v3' : vp_in (nI (i + 3)) SL := vp_in_nI (by omega) (by omega)
  have w3' : (nI (i + 3)).toNatClampNeg = i + 3 := nI_clamp (by omega)
  simp only [k256_1241, k256_1242, k256_1243, k256_1244, k256_1245, k256_1246, k256_1247, k256_1248, k256_1249, k256_1250, k256_1251, k256_1252, k256_1253, k256_1254, k256_1255, k256_1256, k256_1257, ab_inv_I, ab_inv_R, ab_inv_L, ab_inv_0, ab_push_some, ab_push_none, ab_E_sw, ab_E_sw0, true_and, and_true, not_false_eq_true, a1, v1', w1', a2, v2', w2', a3, v3', w3', h1, h2, h3, h5, u1, u2, Int32.reduceAdd, Int32.reduceMul, Int32.reduceSub, Int32.reduceDiv, Int32.reduceLT, Int32.reduceLE, Int32.reduceToNatClampNeg, i10, i01, ↓reduceIte, if_true, if_false]
  refine prI (d := 99) h6 r138 (p_sheet (d := 96) hR) fun x g1 I1 J1 K hM => ?_
  obtain ⟨⟨h1, h2, h3, h4⟩, h5, h6⟩ := kp_lw hR K
  simp only [k256_1260, k256_1261, k256_1262, k256_1263, k256_1264, k256_1265, k256_1266, k256_1267, k256_1268, k256_1269, k256_1270, k256_1271, k256_1272, k256_1273, k256_1274, k256_1275, k256_1276, ab_inv_I, ab_inv_R, ab_inv_L, ab_inv_0, ab_push_some, ab_push_none, ab_E_sw, ab_E_sw0, true_and, and_true, not_false_eq_true, a1, v1', w1', a2, v2', w2', a3, v3', w3', h1, h2, h4, h5, u1, u2, Int32.reduceAdd, Int32.reduceMul, Int32.reduceSub, Int32.reduceDiv, Int32.reduceLT, Int32.reduceLE, Int32.reduceToNatClampNeg, i10, i01, ↓reduceIte, if_true, if_false]
  refine ab_run_m _ _ _ _ _ _ _ _ (fun r g2 I2 J2 z => ?_) hM
  obtain ⟨z1, z2⟩ := z
  subst z1
  simp only [k256_1279, ab_inv_I, ab_inv_R, ab_inv_L, ab_inv_0, ab_push_some, ab_push_none, ab_E_sw, ab_E_sw0, true_and, and_true, not_false_eq_true, lg_self, if_true]
  exact hQ g2 I2 J2 _ _ z2 (by omega) (by omega)
set_option maxRecDepth 20000 in
theorem cs_34_law (hR : REL SL xs g I J) (hi : i + 6 ≤ SL) (hS : SL ≤ 384) (hce : ce + 5 ≤ 600000) (hsl : sl + 257 ≤ 7302249) (hQ : ∀ g' I' J' ce' sl', REL SL xs g' I' J' → ce' ≤ ce + 5 → sl' ≤ sl + 257 → ab_E 100 256 1539 [some (vR (some 10)), some (vR (some 32)), some (vR (some 101)), some (vI (nI i))] [] ce' sl' g' I' J' Q) : ab_E 100 256 1284 [some (vR (some 10)), some (vR (some 32)), some (vR (some 101)), some (vI (nI i))] [] ce sl g I J Q := by
  have h := REL_lw hR
  obtain ⟨⟨h1, h2, h3, h4⟩, h5, h6⟩ := h
  have u1 : ce ≤ 600000 := by omega
  have u2 : sl ≤ 7302249 := by omega
  have a1 : nI i + 1 = nI (i + 1) := nI_add i 1
  have v1' : vp_in (nI (i + 1)) SL := vp_in_nI (by omega) (by omega)
  have w1' : (nI (i + 1)).toNatClampNeg = i + 1 := nI_clamp (by omega)
  have a2 : nI i + 2 = nI (i + 2) := nI_add i 2
  have v2' : vp_in (nI (i + 2)) SL := vp_in_nI (by omega) (by omega)
  have w2' : (nI (i + 2)).toNatClampNeg = i + 2 := nI_clamp (by omega)
  have a3 : nI i + 3 = nI (i + 3) := nI_add i 3
  have v3' : vp_in (nI (i + 3)) SL := vp_in_nI (by omega) (by omega)
  have w3' : (nI (i + 3)).toNatClampNeg = i + 3 := nI_clamp (by omega)
  have a4 : nI i + 4 = nI (i + 4) := nI_add i 4
  have v4' : vp_in (nI (i + 4)) SL := vp_in_nI (by omega) (by omega)
  have w4' : (nI (i + 4)).toNatClampNeg = i + 4 := nI_clamp (by omega)
  simp only [k256_1284, k256_1285, k256_1286, k256_1287, k256_1288, k256_1289, k256_1290, k256_1291, k256_1292, k256_1293, k256_1294, k256_1295, k256_1296, k256_1297, k256_1298, k256_1299, k256_1300, k256_1301, k256_1303, k256_1304, k256_1305, k256_1306, k256_1307, k256_1308, k256_1309, k256_1310, k256_1313, k256_1314, k256_1315, ab_inv_I, ab_inv_R, ab_inv_L, ab_inv_0, ab_push_some, ab_push_none, ab_E_sw, ab_E_sw0, true_and, and_true, not_false_eq_true, a1, v1', w1', a2, v2', w2', a3, v3', w3', a4, v4', w4', h1, h2, h3, h5, u1, u2, Int32.reduceAdd, Int32.reduceMul, Int32.reduceSub, Int32.reduceDiv, Int32.reduceLT, Int32.reduceLE, Int32.reduceToNatClampNeg, i10, i01, ↓reduceIte, if_true, if_false]
  refine prL (d := 99) h6 r141 (p_write (d := 96) hR) fun x g1 I1 J1 K hM => ?_
  obtain ⟨⟨h1, h2, h3, h4⟩, h5, h6⟩ := kp_lw hR K
  simp only [k256_1318, k256_1319, k256_1320, k256_1321, k256_1322, k256_1323, k256_1324, k256_1325, k256_1326, k256_1327, k256_1328, k256_1329, k256_1330, k256_1331, k256_1332, k256_1333, k256_1334, k256_1335, k256_1337, k256_1338, k256_1339, k256_1340, k256_1341, k256_1342, k256_1343, k256_1344, k256_1347, k256_1348, k256_1349, ab_inv_I, ab_inv_R, ab_inv_L, ab_inv_0, ab_push_some, ab_push_none, ab_E_sw, ab_E_sw0, true_and, and_true, not_false_eq_true, a1, v1', w1', a2, v2', w2', a3, v3', w3', a4, v4', w4', h1, h2, h4, h5, u1, u2, Int32.reduceAdd, Int32.reduceMul, Int32.reduceSub, Int32.reduceDiv, Int32.reduceLT, Int32.reduceLE, Int32.reduceToNatClampNeg, i10, i01, ↓reduceIte, if_true, if_false]
  refine ab_run_m _ _ _ _ _ _ _ _ (fun r g2 I2 J2 z => ?_) hM
  obtain ⟨z1, z2⟩ := z
  subst z1
  simp only [k256_1352, k256_1353, ab_inv_I, ab_inv_R, ab_inv_L, ab_inv_0, ab_push_some, ab_push_none, ab_E_sw, ab_E_sw0, true_and, and_true, not_false_eq_true, lg_self, if_true]
  exact hQ g2 I2 J2 _ _ z2 (by omega) (by omega)
set_option maxRecDepth 20000 in
theorem cs_35_law (hR : REL SL xs g I J) (hi : i + 6 ≤ SL) (hS : SL ≤ 384) (hce : ce + 5 ≤ 600000) (hsl : sl + 257 ≤ 7302249) (hQ : ∀ g' I' J' ce' sl', REL SL xs g' I' J' → ce' ≤ ce + 5 → sl' ≤ sl + 257 → ab_E 100 256 1539 [some (vR (some 10)), some (vR (some 32)), some (vR (some 101)), some (vI (nI i))] [] ce' sl' g' I' J' Q) : ab_E 100 256 1358 [some (vR (some 10)), some (vR (some 32)), some (vR (some 101)), some (vI (nI i))] [] ce sl g I J Q := by
  have h := REL_lw hR
  obtain ⟨⟨h1, h2, h3, h4⟩, h5, h6⟩ := h
  have u1 : ce ≤ 600000 := by omega
  have u2 : sl ≤ 7302249 := by omega
  have a1 : nI i + 1 = nI (i + 1) := nI_add i 1
  have v1' : vp_in (nI (i + 1)) SL := vp_in_nI (by omega) (by omega)
  have w1' : (nI (i + 1)).toNatClampNeg = i + 1 := nI_clamp (by omega)
  have a2 : nI i + 2 = nI (i + 2) := nI_add i 2
  have v2' : vp_in (nI (i + 2)) SL := vp_in_nI (by omega) (by omega)
  have w2' : (nI (i + 2)).toNatClampNeg = i + 2 := nI_clamp (by omega)
  have a3 : nI i + 3 = nI (i + 3) := nI_add i 3
  have v3' : vp_in (nI (i + 3)) SL := vp_in_nI (by omega) (by omega)
  have w3' : (nI (i + 3)).toNatClampNeg = i + 3 := nI_clamp (by omega)
  have a4 : nI i + 4 = nI (i + 4) := nI_add i 4
  have v4' : vp_in (nI (i + 4)) SL := vp_in_nI (by omega) (by omega)
  have w4' : (nI (i + 4)).toNatClampNeg = i + 4 := nI_clamp (by omega)
  have a5 : nI i + 5 = nI (i + 5) := nI_add i 5
  have v5' : vp_in (nI (i + 5)) SL := vp_in_nI (by omega) (by omega)
  have w5' : (nI (i + 5)).toNatClampNeg = i + 5 := nI_clamp (by omega)
  simp only [k256_1358, k256_1359, k256_1360, k256_1361, k256_1362, k256_1363, k256_1364, k256_1365, k256_1366, k256_1367, k256_1368, k256_1369, k256_1370, k256_1371, k256_1372, k256_1373, k256_1374, k256_1375, k256_1376, k256_1377, k256_1378, k256_1379, k256_1380, k256_1381, k256_1382, k256_1383, k256_1384, ab_inv_I, ab_inv_R, ab_inv_L, ab_inv_0, ab_push_some, ab_push_none, ab_E_sw, ab_E_sw0, true_and, and_true, not_false_eq_true, a1, v1', w1', a2, v2', w2', a3, v3', w3', a4, v4', w4', a5, v5', w5', h1, h2, h3, h5, u1, u2, Int32.reduceAdd, Int32.reduceMul, Int32.reduceSub, Int32.reduceDiv, Int32.reduceLT, Int32.reduceLE, Int32.reduceToNatClampNeg, i10, i01, ↓reduceIte, if_true, if_false]
  refine prI (d := 99) h6 r144 (p_copy (d := 96) hR) fun x g1 I1 J1 K hM => ?_
  obtain ⟨⟨h1, h2, h3, h4⟩, h5, h6⟩ := kp_lw hR K
  simp only [k256_1387, k256_1388, k256_1389, k256_1390, k256_1391, k256_1392, k256_1393, k256_1394, k256_1395, k256_1396, k256_1397, k256_1398, k256_1399, k256_1400, k256_1401, k256_1402, k256_1403, k256_1404, k256_1405, k256_1406, k256_1407, k256_1408, k256_1409, k256_1410, k256_1411, k256_1412, k256_1413, ab_inv_I, ab_inv_R, ab_inv_L, ab_inv_0, ab_push_some, ab_push_none, ab_E_sw, ab_E_sw0, true_and, and_true, not_false_eq_true, a1, v1', w1', a2, v2', w2', a3, v3', w3', a4, v4', w4', a5, v5', w5', h1, h2, h4, h5, u1, u2, Int32.reduceAdd, Int32.reduceMul, Int32.reduceSub, Int32.reduceDiv, Int32.reduceLT, Int32.reduceLE, Int32.reduceToNatClampNeg, i10, i01, ↓reduceIte, if_true, if_false]
  refine ab_run_m _ _ _ _ _ _ _ _ (fun r g2 I2 J2 z => ?_) hM
  obtain ⟨z1, z2⟩ := z
  subst z1
  simp only [k256_1416, ab_inv_I, ab_inv_R, ab_inv_L, ab_inv_0, ab_push_some, ab_push_none, ab_E_sw, ab_E_sw0, true_and, and_true, not_false_eq_true, lg_self, if_true]
  exact hQ g2 I2 J2 _ _ z2 (by omega) (by omega)
set_option maxRecDepth 20000 in
theorem cs_36_law (hR : REL SL xs g I J) (hi : i + 6 ≤ SL) (hS : SL ≤ 384) (hce : ce + 5 ≤ 600000) (hsl : sl + 257 ≤ 7302249) (hQ : ∀ g' I' J' ce' sl', REL SL xs g' I' J' → ce' ≤ ce + 5 → sl' ≤ sl + 257 → ab_E 100 256 1539 [some (vR (some 10)), some (vR (some 32)), some (vR (some 101)), some (vI (nI i))] [] ce' sl' g' I' J' Q) : ab_E 100 256 1421 [some (vR (some 10)), some (vR (some 32)), some (vR (some 101)), some (vI (nI i))] [] ce sl g I J Q := by
  have h := REL_lw hR
  obtain ⟨⟨h1, h2, h3, h4⟩, h5, h6⟩ := h
  have u1 : ce ≤ 600000 := by omega
  have u2 : sl ≤ 7302249 := by omega
  have a1 : nI i + 1 = nI (i + 1) := nI_add i 1
  have v1' : vp_in (nI (i + 1)) SL := vp_in_nI (by omega) (by omega)
  have w1' : (nI (i + 1)).toNatClampNeg = i + 1 := nI_clamp (by omega)
  have a2 : nI i + 2 = nI (i + 2) := nI_add i 2
  have v2' : vp_in (nI (i + 2)) SL := vp_in_nI (by omega) (by omega)
  have w2' : (nI (i + 2)).toNatClampNeg = i + 2 := nI_clamp (by omega)
  simp only [k256_1421, k256_1422, k256_1423, k256_1424, k256_1425, k256_1426, k256_1427, k256_1428, k256_1429, k256_1430, k256_1431, k256_1432, ab_inv_I, ab_inv_R, ab_inv_L, ab_inv_0, ab_push_some, ab_push_none, ab_E_sw, ab_E_sw0, true_and, and_true, not_false_eq_true, a1, v1', w1', a2, v2', w2', h1, h2, h3, h5, u1, u2, Int32.reduceAdd, Int32.reduceMul, Int32.reduceSub, Int32.reduceDiv, Int32.reduceLT, Int32.reduceLE, Int32.reduceToNatClampNeg, i10, i01, ↓reduceIte, if_true, if_false]
  refine prI (d := 99) h6 r146 (p_read (d := 88) hR) fun x g1 I1 J1 K hM => ?_
  obtain ⟨⟨h1, h2, h3, h4⟩, h5, h6⟩ := kp_lw hR K
  simp only [k256_1435, k256_1436, k256_1437, k256_1438, k256_1439, k256_1440, k256_1441, k256_1442, k256_1443, k256_1444, k256_1445, k256_1446, ab_inv_I, ab_inv_R, ab_inv_L, ab_inv_0, ab_push_some, ab_push_none, ab_E_sw, ab_E_sw0, true_and, and_true, not_false_eq_true, a1, v1', w1', a2, v2', w2', h1, h2, h4, h5, u1, u2, Int32.reduceAdd, Int32.reduceMul, Int32.reduceSub, Int32.reduceDiv, Int32.reduceLT, Int32.reduceLE, Int32.reduceToNatClampNeg, i10, i01, ↓reduceIte, if_true, if_false]
  refine ab_run_m _ _ _ _ _ _ _ _ (fun r g2 I2 J2 z => ?_) hM
  obtain ⟨z1, z2⟩ := z
  subst z1
  simp only [k256_1449, ab_inv_I, ab_inv_R, ab_inv_L, ab_inv_0, ab_push_some, ab_push_none, ab_E_sw, ab_E_sw0, true_and, and_true, not_false_eq_true, lg_self, if_true]
  exact hQ g2 I2 J2 _ _ z2 (by omega) (by omega)
set_option maxRecDepth 20000 in
theorem cs_37_law (hR : REL SL xs g I J) (hi : i + 6 ≤ SL) (hS : SL ≤ 384) (hce : ce + 5 ≤ 600000) (hsl : sl + 257 ≤ 7302249) (hQ : ∀ g' I' J' ce' sl', REL SL xs g' I' J' → ce' ≤ ce + 5 → sl' ≤ sl + 257 → ab_E 100 256 1539 [some (vR (some 10)), some (vR (some 32)), some (vR (some 101)), some (vI (nI i))] [] ce' sl' g' I' J' Q) : ab_E 100 256 1454 [some (vR (some 10)), some (vR (some 32)), some (vR (some 101)), some (vI (nI i))] [] ce sl g I J Q := by
  have h := REL_lw hR
  obtain ⟨⟨h1, h2, h3, h4⟩, h5, h6⟩ := h
  have u1 : ce ≤ 600000 := by omega
  have u2 : sl ≤ 7302249 := by omega
  simp only [k256_1454, k256_1455, ab_inv_I, ab_inv_R, ab_inv_L, ab_inv_0, ab_push_some, ab_push_none, ab_E_sw, ab_E_sw0, true_and, and_true, not_false_eq_true, h1, h2, h3, h5, u1, u2, Int32.reduceAdd, Int32.reduceMul, Int32.reduceSub, Int32.reduceDiv, Int32.reduceLT, Int32.reduceLE, Int32.reduceToNatClampNeg, i10, i01, ↓reduceIte, if_true, if_false]
  refine prI (d := 99) h6 r147 (p_image (d := 97) hR) fun x g1 I1 J1 K hM => ?_
  obtain ⟨⟨h1, h2, h3, h4⟩, h5, h6⟩ := kp_lw hR K
  simp only [k256_1458, k256_1459, ab_inv_I, ab_inv_R, ab_inv_L, ab_inv_0, ab_push_some, ab_push_none, ab_E_sw, ab_E_sw0, true_and, and_true, not_false_eq_true, h1, h2, h4, h5, u1, u2, Int32.reduceAdd, Int32.reduceMul, Int32.reduceSub, Int32.reduceDiv, Int32.reduceLT, Int32.reduceLE, Int32.reduceToNatClampNeg, i10, i01, ↓reduceIte, if_true, if_false]
  refine ab_run_m _ _ _ _ _ _ _ _ (fun r g2 I2 J2 z => ?_) hM
  obtain ⟨z1, z2⟩ := z
  subst z1
  simp only [k256_1462, ab_inv_I, ab_inv_R, ab_inv_L, ab_inv_0, ab_push_some, ab_push_none, ab_E_sw, ab_E_sw0, true_and, and_true, not_false_eq_true, lg_self, if_true]
  exact hQ g2 I2 J2 _ _ z2 (by omega) (by omega)
set_option maxRecDepth 20000 in
theorem cs_38_law (hR : REL SL xs g I J) (hi : i + 6 ≤ SL) (hS : SL ≤ 384) (hce : ce + 5 ≤ 600000) (hsl : sl + 257 ≤ 7302249) (hQ : ∀ g' I' J' ce' sl', REL SL xs g' I' J' → ce' ≤ ce + 5 → sl' ≤ sl + 257 → ab_E 100 256 1539 [some (vR (some 10)), some (vR (some 32)), some (vR (some 101)), some (vI (nI i))] [] ce' sl' g' I' J' Q) : ab_E 100 256 1467 [some (vR (some 10)), some (vR (some 32)), some (vR (some 101)), some (vI (nI i))] [] ce sl g I J Q := by
  have h := REL_lw hR
  obtain ⟨⟨h1, h2, h3, h4⟩, h5, h6⟩ := h
  have u1 : ce ≤ 600000 := by omega
  have u2 : sl ≤ 7302249 := by omega
  simp only [k256_1467, k256_1468, ab_inv_I, ab_inv_R, ab_inv_L, ab_inv_0, ab_push_some, ab_push_none, ab_E_sw, ab_E_sw0, true_and, and_true, not_false_eq_true, h1, h2, h3, h5, u1, u2, Int32.reduceAdd, Int32.reduceMul, Int32.reduceSub, Int32.reduceDiv, Int32.reduceLT, Int32.reduceLE, Int32.reduceToNatClampNeg, i10, i01, ↓reduceIte, if_true, if_false]
  refine prI (d := 99) h6 r149 (p_undo (d := 97) hR) fun x g1 I1 J1 K hM => ?_
  obtain ⟨⟨h1, h2, h3, h4⟩, h5, h6⟩ := kp_lw hR K
  simp only [k256_1471, k256_1472, ab_inv_I, ab_inv_R, ab_inv_L, ab_inv_0, ab_push_some, ab_push_none, ab_E_sw, ab_E_sw0, true_and, and_true, not_false_eq_true, h1, h2, h4, h5, u1, u2, Int32.reduceAdd, Int32.reduceMul, Int32.reduceSub, Int32.reduceDiv, Int32.reduceLT, Int32.reduceLE, Int32.reduceToNatClampNeg, i10, i01, ↓reduceIte, if_true, if_false]
  refine ab_run_m _ _ _ _ _ _ _ _ (fun r g2 I2 J2 z => ?_) hM
  obtain ⟨z1, z2⟩ := z
  subst z1
  simp only [k256_1475, ab_inv_I, ab_inv_R, ab_inv_L, ab_inv_0, ab_push_some, ab_push_none, ab_E_sw, ab_E_sw0, true_and, and_true, not_false_eq_true, lg_self, if_true]
  exact hQ g2 I2 J2 _ _ z2 (by omega) (by omega)
set_option maxRecDepth 20000 in
theorem cs_39_law (hR : REL SL xs g I J) (hi : i + 6 ≤ SL) (hS : SL ≤ 384) (hce : ce + 5 ≤ 600000) (hsl : sl + 257 ≤ 7302249) (hQ : ∀ g' I' J' ce' sl', REL SL xs g' I' J' → ce' ≤ ce + 5 → sl' ≤ sl + 257 → ab_E 100 256 1539 [some (vR (some 10)), some (vR (some 32)), some (vR (some 101)), some (vI (nI i))] [] ce' sl' g' I' J' Q) : ab_E 100 256 1480 [some (vR (some 10)), some (vR (some 32)), some (vR (some 101)), some (vI (nI i))] [] ce sl g I J Q := by
  have h := REL_lw hR
  obtain ⟨⟨h1, h2, h3, h4⟩, h5, h6⟩ := h
  have u1 : ce ≤ 600000 := by omega
  have u2 : sl ≤ 7302249 := by omega
  simp only [k256_1480, k256_1481, ab_inv_I, ab_inv_R, ab_inv_L, ab_inv_0, ab_push_some, ab_push_none, ab_E_sw, ab_E_sw0, true_and, and_true, not_false_eq_true, h1, h2, h3, h5, u1, u2, Int32.reduceAdd, Int32.reduceMul, Int32.reduceSub, Int32.reduceDiv, Int32.reduceLT, Int32.reduceLE, Int32.reduceToNatClampNeg, i10, i01, ↓reduceIte, if_true, if_false]
  refine prI (d := 99) h6 r150 (p_tear (d := 98) hR) fun x g1 I1 J1 K hM => ?_
  obtain ⟨⟨h1, h2, h3, h4⟩, h5, h6⟩ := kp_lw hR K
  simp only [k256_1484, k256_1485, ab_inv_I, ab_inv_R, ab_inv_L, ab_inv_0, ab_push_some, ab_push_none, ab_E_sw, ab_E_sw0, true_and, and_true, not_false_eq_true, h1, h2, h4, h5, u1, u2, Int32.reduceAdd, Int32.reduceMul, Int32.reduceSub, Int32.reduceDiv, Int32.reduceLT, Int32.reduceLE, Int32.reduceToNatClampNeg, i10, i01, ↓reduceIte, if_true, if_false]
  refine ab_run_m _ _ _ _ _ _ _ _ (fun r g2 I2 J2 z => ?_) hM
  obtain ⟨z1, z2⟩ := z
  subst z1
  simp only [k256_1488, ab_inv_I, ab_inv_R, ab_inv_L, ab_inv_0, ab_push_some, ab_push_none, ab_E_sw, ab_E_sw0, true_and, and_true, not_false_eq_true, lg_self, if_true]
  exact hQ g2 I2 J2 _ _ z2 (by omega) (by omega)
set_option maxRecDepth 20000 in
theorem cs_40_law (hR : REL SL xs g I J) (hi : i + 6 ≤ SL) (hS : SL ≤ 384) (hce : ce + 5 ≤ 600000) (hsl : sl + 257 ≤ 7302249) (hQ : ∀ g' I' J' ce' sl', REL SL xs g' I' J' → ce' ≤ ce + 5 → sl' ≤ sl + 257 → ab_E 100 256 1539 [some (vR (some 10)), some (vR (some 32)), some (vR (some 101)), some (vI (nI i))] [] ce' sl' g' I' J' Q) : ab_E 100 256 1493 [some (vR (some 10)), some (vR (some 32)), some (vR (some 101)), some (vI (nI i))] [] ce sl g I J Q := by
  have h := REL_lw hR
  obtain ⟨⟨h1, h2, h3, h4⟩, h5, h6⟩ := h
  have u1 : ce ≤ 600000 := by omega
  have u2 : sl ≤ 7302249 := by omega
  have a1 : nI i + 1 = nI (i + 1) := nI_add i 1
  have v1' : vp_in (nI (i + 1)) SL := vp_in_nI (by omega) (by omega)
  have w1' : (nI (i + 1)).toNatClampNeg = i + 1 := nI_clamp (by omega)
  simp only [k256_1493, k256_1494, k256_1495, k256_1496, k256_1497, k256_1498, k256_1499, ab_inv_I, ab_inv_R, ab_inv_L, ab_inv_0, ab_push_some, ab_push_none, ab_E_sw, ab_E_sw0, true_and, and_true, not_false_eq_true, a1, v1', w1', h1, h2, h3, h5, u1, u2, Int32.reduceAdd, Int32.reduceMul, Int32.reduceSub, Int32.reduceDiv, Int32.reduceLT, Int32.reduceLE, Int32.reduceToNatClampNeg, i10, i01, ↓reduceIte, if_true, if_false]
  refine prI (d := 99) h6 r151 (p_look (d := 97) hR) fun x g1 I1 J1 K hM => ?_
  obtain ⟨⟨h1, h2, h3, h4⟩, h5, h6⟩ := kp_lw hR K
  simp only [k256_1502, k256_1503, k256_1504, k256_1505, k256_1506, k256_1507, k256_1508, ab_inv_I, ab_inv_R, ab_inv_L, ab_inv_0, ab_push_some, ab_push_none, ab_E_sw, ab_E_sw0, true_and, and_true, not_false_eq_true, a1, v1', w1', h1, h2, h4, h5, u1, u2, Int32.reduceAdd, Int32.reduceMul, Int32.reduceSub, Int32.reduceDiv, Int32.reduceLT, Int32.reduceLE, Int32.reduceToNatClampNeg, i10, i01, ↓reduceIte, if_true, if_false]
  refine ab_run_m _ _ _ _ _ _ _ _ (fun r g2 I2 J2 z => ?_) hM
  obtain ⟨z1, z2⟩ := z
  subst z1
  simp only [k256_1511, ab_inv_I, ab_inv_R, ab_inv_L, ab_inv_0, ab_push_some, ab_push_none, ab_E_sw, ab_E_sw0, true_and, and_true, not_false_eq_true, lg_self, if_true]
  exact hQ g2 I2 J2 _ _ z2 (by omega) (by omega)
set_option maxRecDepth 20000 in
theorem cs_41_law (hR : REL SL xs g I J) (hi : i + 6 ≤ SL) (hS : SL ≤ 384) (hce : ce + 5 ≤ 600000) (hsl : sl + 257 ≤ 7302249) (hQ : ∀ g' I' J' ce' sl', REL SL xs g' I' J' → ce' ≤ ce + 5 → sl' ≤ sl + 257 → ab_E 100 256 1539 [some (vR (some 10)), some (vR (some 32)), some (vR (some 101)), some (vI (nI i))] [] ce' sl' g' I' J' Q) : ab_E 100 256 1516 [some (vR (some 10)), some (vR (some 32)), some (vR (some 101)), some (vI (nI i))] [] ce sl g I J Q := by
  have h := REL_lw hR
  obtain ⟨⟨h1, h2, h3, h4⟩, h5, h6⟩ := h
  have u1 : ce ≤ 600000 := by omega
  have u2 : sl ≤ 7302249 := by omega
  have a1 : nI i + 1 = nI (i + 1) := nI_add i 1
  have v1' : vp_in (nI (i + 1)) SL := vp_in_nI (by omega) (by omega)
  have w1' : (nI (i + 1)).toNatClampNeg = i + 1 := nI_clamp (by omega)
  simp only [k256_1516, k256_1517, k256_1518, k256_1519, k256_1520, k256_1521, k256_1522, ab_inv_I, ab_inv_R, ab_inv_L, ab_inv_0, ab_push_some, ab_push_none, ab_E_sw, ab_E_sw0, true_and, and_true, not_false_eq_true, a1, v1', w1', h1, h2, h3, h5, u1, u2, Int32.reduceAdd, Int32.reduceMul, Int32.reduceSub, Int32.reduceDiv, Int32.reduceLT, Int32.reduceLE, Int32.reduceToNatClampNeg, i10, i01, ↓reduceIte, if_true, if_false]
  refine prI (d := 99) h6 r152 (p_status (d := 97) hR) fun x g1 I1 J1 K hM => ?_
  obtain ⟨⟨h1, h2, h3, h4⟩, h5, h6⟩ := kp_lw hR K
  simp only [k256_1525, k256_1526, k256_1527, k256_1528, k256_1529, k256_1530, k256_1531, ab_inv_I, ab_inv_R, ab_inv_L, ab_inv_0, ab_push_some, ab_push_none, ab_E_sw, ab_E_sw0, true_and, and_true, not_false_eq_true, a1, v1', w1', h1, h2, h4, h5, u1, u2, Int32.reduceAdd, Int32.reduceMul, Int32.reduceSub, Int32.reduceDiv, Int32.reduceLT, Int32.reduceLE, Int32.reduceToNatClampNeg, i10, i01, ↓reduceIte, if_true, if_false]
  refine ab_run_m _ _ _ _ _ _ _ _ (fun r g2 I2 J2 z => ?_) hM
  obtain ⟨z1, z2⟩ := z
  subst z1
  simp only [k256_1534, ab_inv_I, ab_inv_R, ab_inv_L, ab_inv_0, ab_push_some, ab_push_none, ab_E_sw, ab_E_sw0, true_and, and_true, not_false_eq_true, lg_self, if_true]
  exact hQ g2 I2 J2 _ _ z2 (by omega) (by omega)
end P78
