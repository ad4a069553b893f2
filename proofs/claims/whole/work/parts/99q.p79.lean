/-! ===== the law ===== -/
theorem sw_or (x : Int32) (d : Nat) : ∀ l : List (Int32 × Nat), ab_sw x l d = d ∨ ab_sw x l d ∈ l.map (·.2)
  | [] => Or.inl rfl
  | e :: r => by
    unfold ab_sw
    split
    · exact Or.inr (List.mem_map.mpr ⟨e, List.mem_cons.mpr (Or.inl rfl), rfl⟩)
    · rcases sw_or x d r with h | h
      · exact Or.inl h
      · refine Or.inr ?_
        rw [List.map_cons]
        exact List.mem_cons_of_mem _ h
theorem l6 : ∀ s : Fin 6, nI s.val - 6 < 0 := by decide
theorem lt6 {SL i : Nat} (hS : SL ≤ 384) (hi : i ≤ 1000) : (nI SL - 6 < nI i) = (SL < i + 6) := by
  by_cases h : SL < 6
  · have a := l6 ⟨SL, h⟩
    have b : (0 : Int32) ≤ nI i := Int32.not_lt.mp (nI_nlt (b := 0) (by omega) (by omega))
    exact propext ⟨fun _ => by omega, fun _ => Int32.lt_of_lt_of_le a b⟩
  · have e : nI SL - 6 = nI (SL - 6) := nIsub (b := 6) (by omega)
    rw [e, nI_ltK (by omega) (by omega)]
    exact propext ⟨fun _ => by omega, fun _ => by omega⟩
theorem n1_bit : ab_bit 1 := Or.inr rfl
section P79
variable {SL : Nat} {xs : Nat → Int32}
set_option maxRecDepth 20000 in
theorem lp_law (hS : SL ≤ 384) (n : Nat) : ∀ i ce sl g I J, SL < i + 6 * n + 6 → i ≤ 390 → ce + 5 * (n + 1) ≤ 600000 → sl + 257 * (n + 1) ≤ 7302249 → REL SL xs g I J → ab_E 100 259 18 [some (vR (some 10)), some (vR (some 29)), some (vR (some 101)), some (vI (nI i))] [] ce sl g I J (fun r _ _ _ => r = some (vI 1)) := by
  induction n with
  | zero =>
    intro i ce sl g I J h1 h2 h3 h4 hR
    obtain ⟨⟨q1, q2, q3, q4⟩, q5, q6⟩ := REL_lw hR
    have e := lt6 (i := i) hS (by omega)
    have e2 : (SL < i + 6) = True := eq_true (by omega)
    have u1 : ce ≤ 600000 := by omega
    have u2 : sl ≤ 7302249 := by omega
    rw [k259_18]
    simp only [k259_19, k259_20, k259_21, k259_23, k259_24, k259_1545, k259_1546, ab_inv_I, ab_inv_R, ab_inv_L, ab_inv_0, ab_push_some, ab_push_none, ab_E_sw, ab_E_sw0, true_and, and_true, not_false_eq_true, q1, q2, e, e2, u1, u2, n1_bit, ty1a, ty1b, Int32.reduceAdd, Int32.reduceMul, Int32.reduceSub, Int32.reduceDiv, Int32.reduceLT, Int32.reduceLE, Int32.reduceToNatClampNeg, i10, i01, ↓reduceIte, if_true, if_false]
  | succ n ih =>
    intro i ce sl g I J h1 h2 h3 h4 hR
    obtain ⟨⟨q1, q2, q3, q4⟩, q5, q6⟩ := REL_lw hR
    have e := lt6 (i := i) hS (by omega)
    have u1 : ce ≤ 600000 := by omega
    have u2 : sl ≤ 7302249 := by omega
    by_cases hx : SL < i + 6
    · rw [k259_18]
      simp only [k259_19, k259_20, k259_21, k259_23, k259_24, k259_1545, k259_1546, ab_inv_I, ab_inv_R, ab_inv_L, ab_inv_0, ab_push_some, ab_push_none, ab_E_sw, ab_E_sw0, true_and, and_true, not_false_eq_true, q1, q2, e, hx, u1, u2, n1_bit, ty1a, ty1b, Int32.reduceAdd, Int32.reduceMul, Int32.reduceSub, Int32.reduceDiv, Int32.reduceLT, Int32.reduceLE, Int32.reduceToNatClampNeg, i10, i01, ↓reduceIte, if_true, if_false]
    have v0 : vp_in (nI i) SL := vp_in_nI (by omega) (by omega)
    have w0 : (nI i).toNatClampNeg = i := nI_clamp (by omega)
    have a6 : nI i + 6 = nI (i + 6) := nI_add i 6
    have hQ : ∀ g' I' J' ce' sl', REL SL xs g' I' J' → ce' ≤ ce + 5 → sl' ≤ sl + 257 → ab_E 100 259 1539 [some (vR (some 10)), some (vR (some 29)), some (vR (some 101)), some (vI (nI i))] [] ce' sl' g' I' J' (fun r _ _ _ => r = some (vI 1)) := by
      intro g' I' J' ce' sl' hR' hc hs
      rw [k259_1539, ab_inv_R, k259_1542, a6]
      exact ih (i + 6) ce' sl' g' I' J' (by omega) (by omega) (by omega) (by omega) hR'
    rw [k259_18]
    simp only [k259_19, k259_20, k259_21, k259_23, k259_24, k259_27, k259_28, k259_29, k259_30, k259_32, ab_inv_I, ab_inv_R, ab_inv_L, ab_inv_0, ab_push_some, ab_push_none, ab_E_sw, ab_E_sw0, true_and, and_true, not_false_eq_true, q1, q2, q5, e, hx, v0, w0, ty1a, ty1b, Int32.reduceAdd, Int32.reduceMul, Int32.reduceSub, Int32.reduceDiv, Int32.reduceLT, Int32.reduceLE, Int32.reduceToNatClampNeg, i10, i01, ↓reduceIte, if_true, if_false]
    rw [k259_33]
    rcases sw_or (xs i &&& 63) 1539 [(0, 216), (1, 249), (2, 282), (3, 315), (4, 328), (5, 341), (6, 374), (7, 417), (8, 450), (9, 463), (10, 496), (11, 529), (12, 582), (13, 615), (14, 659), (15, 683), (16, 697), (17, 720), (18, 763), (19, 796), (20, 829), (21, 863), (22, 896), (23, 920), (24, 943), (25, 976), (26, 1009), (27, 1032), (28, 1056), (29, 1099), (30, 1132), (31, 1165), (32, 1198), (33, 1241), (34, 1284), (35, 1358), (36, 1421), (37, 1454), (38, 1467), (39, 1480), (40, 1493), (41, 1516)] with h | h
    · rw [h]
      exact hQ g I J ce sl hR (by omega) (by omega)
    · generalize ab_sw (xs i &&& 63) [(0, 216), (1, 249), (2, 282), (3, 315), (4, 328), (5, 341), (6, 374), (7, 417), (8, 450), (9, 463), (10, 496), (11, 529), (12, 582), (13, 615), (14, 659), (15, 683), (16, 697), (17, 720), (18, 763), (19, 796), (20, 829), (21, 863), (22, 896), (23, 920), (24, 943), (25, 976), (26, 1009), (27, 1032), (28, 1056), (29, 1099), (30, 1132), (31, 1165), (32, 1198), (33, 1241), (34, 1284), (35, 1358), (36, 1421), (37, 1454), (38, 1467), (39, 1480), (40, 1493), (41, 1516)] 1539 = p at h ⊢
      simp only [List.map_cons, List.map_nil, List.mem_cons, List.not_mem_nil, or_false] at h
      rcases h with rfl | rfl | rfl | rfl | rfl | rfl | rfl | rfl | rfl | rfl | rfl | rfl | rfl | rfl | rfl | rfl | rfl | rfl | rfl | rfl | rfl | rfl | rfl | rfl | rfl | rfl | rfl | rfl | rfl | rfl | rfl | rfl | rfl | rfl | rfl | rfl | rfl | rfl | rfl | rfl | rfl | rfl
      · exact cs_0_law hR (by omega) hS (by omega) (by omega) hQ
      · exact cs_1_law hR (by omega) hS (by omega) (by omega) hQ
      · exact cs_2_law hR (by omega) hS (by omega) (by omega) hQ
      · exact cs_3_law hR (by omega) hS (by omega) (by omega) hQ
      · exact cs_4_law hR (by omega) hS (by omega) (by omega) hQ
      · exact cs_5_law hR (by omega) hS (by omega) (by omega) hQ
      · exact cs_6_law hR (by omega) hS (by omega) (by omega) hQ
      · exact cs_7_law hR (by omega) hS (by omega) (by omega) hQ
      · exact cs_8_law hR (by omega) hS (by omega) (by omega) hQ
      · exact cs_9_law hR (by omega) hS (by omega) (by omega) hQ
      · exact cs_10_law hR (by omega) hS (by omega) (by omega) hQ
      · exact cs_11_law hR (by omega) hS (by omega) (by omega) hQ
      · exact cs_12_law hR (by omega) hS (by omega) (by omega) hQ
      · exact cs_13_law hR (by omega) hS (by omega) (by omega) hQ
      · exact cs_14_law hR (by omega) hS (by omega) (by omega) hQ
      · exact cs_15_law hR (by omega) hS (by omega) (by omega) hQ
      · exact cs_16_law hR (by omega) hS (by omega) (by omega) hQ
      · exact cs_17_law hR (by omega) hS (by omega) (by omega) hQ
      · exact cs_18_law hR (by omega) hS (by omega) (by omega) hQ
      · exact cs_19_law hR (by omega) hS (by omega) (by omega) hQ
      · exact cs_20_law hR (by omega) hS (by omega) (by omega) hQ
      · exact cs_21_law hR (by omega) hS (by omega) (by omega) hQ
      · exact cs_22_law hR (by omega) hS (by omega) (by omega) hQ
      · exact cs_23_law hR (by omega) hS (by omega) (by omega) hQ
      · exact cs_24_law hR (by omega) hS (by omega) (by omega) hQ
      · exact cs_25_law hR (by omega) hS (by omega) (by omega) hQ
      · exact cs_26_law hR (by omega) hS (by omega) (by omega) hQ
      · exact cs_27_law hR (by omega) hS (by omega) (by omega) hQ
      · exact cs_28_law hR (by omega) hS (by omega) (by omega) hQ
      · exact cs_29_law hR (by omega) hS (by omega) (by omega) hQ
      · exact cs_30_law hR (by omega) hS (by omega) (by omega) hQ
      · exact cs_31_law hR (by omega) hS (by omega) (by omega) hQ
      · exact cs_32_law hR (by omega) hS (by omega) (by omega) hQ
      · exact cs_33_law hR (by omega) hS (by omega) (by omega) hQ
      · exact cs_34_law hR (by omega) hS (by omega) (by omega) hQ
      · exact cs_35_law hR (by omega) hS (by omega) (by omega) hQ
      · exact cs_36_law hR (by omega) hS (by omega) (by omega) hQ
      · exact cs_37_law hR (by omega) hS (by omega) (by omega) hQ
      · exact cs_38_law hR (by omega) hS (by omega) (by omega) hQ
      · exact cs_39_law hR (by omega) hS (by omega) (by omega) hQ
      · exact cs_40_law hR (by omega) hS (by omega) (by omega) hQ
      · exact cs_41_law hR (by omega) hS (by omega) (by omega) hQ
set_option maxRecDepth 20000 in
theorem hlaw (hS : SL ≤ 384) : ab_run 101 259 [vR (some 10)] (ab_g0 SL) (ab_I0 xs) (fun _ _ => 0) (fun r _ _ _ => r = some (vI 1)) := by
  rw [e259]
  simp only [k259_0, k259_3, k259_4, ab_inv_I, ab_inv_R, ab_inv_L, ab_inv_0, ab_push_some, ab_push_none, ab_E_sw, ab_E_sw0, true_and, and_true, not_false_eq_true, Nat.reduceAdd, Nat.reduceLeDiff, Nat.zero_add, Nat.add_zero]
  refine new_X (d := 98) rfl ⟨rfl, rfl, rfl⟩ fun g1 I1 J1 A => ?_
  have en : ab_n (ab_g0 SL) = 29 := rfl
  simp only [k259_7, k259_8, k259_11, k259_12, ab_inv_I, ab_inv_R, ab_inv_L, ab_inv_0, ab_push_some, ab_push_none, ab_E_sw, ab_E_sw0, true_and, and_true, not_false_eq_true, Nat.reduceAdd, Nat.reduceLeDiff, Nat.zero_add, Nat.add_zero, en]
  refine new_M (d := 99) A.1.1 fun g2 I2 J2 B => ?_
  have em : ab_n g1 = 101 := A.1.1
  simp only [k259_15, k259_16, k259_17, ab_inv_I, ab_inv_R, ab_inv_L, ab_inv_0, ab_push_some, ab_push_none, ab_E_sw, ab_E_sw0, true_and, and_true, not_false_eq_true, Nat.reduceAdd, Nat.reduceLeDiff, Nat.zero_add, Nat.add_zero, em]
  have hR := REL_new A B
  exact lp_law hS 64 0 _ _ g2 I2 J2 (by omega) (by decide) (by decide) (by decide) hR
end P79
