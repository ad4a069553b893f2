/-! ===== a Rule's rows of dues, filled ===== -/
def bbI (I : ab_I) (a b : Nat) (D E : Nat → Int32) (i : Nat) : ab_I := fun x y => if x = a ∧ i ≤ y ∧ y < 64 then D y else if x = b ∧ i ≤ y ∧ y < 64 then E y else I x y
theorem bbI_0 {I : ab_I} {a b : Nat} {D E : Nat → Int32} : bbI I a b D E 64 = I := by
  funext x y; unfold bbI; rw [if_neg (by omega), if_neg (by omega)]
theorem bbI_s {I : ab_I} {a b i : Nat} {D E : Nat → Int32} (hab : a ≠ b) (h : i < 64) : bbI (ab_up (ab_up I a i (D i)) b i (E i)) a b D E (i + 1) = bbI I a b D E i := by
  funext x y; unfold bbI ab_up
  by_cases h1 : x = a ∧ y = i
  · obtain ⟨rfl, rfl⟩ := h1
    rw [if_neg (by omega), if_neg (by omega), if_neg (fun z => hab z.1), if_pos ⟨rfl, rfl⟩, if_pos ⟨rfl, Nat.le_refl _, h⟩]
  · by_cases h2 : x = b ∧ y = i
    · obtain ⟨rfl, rfl⟩ := h2
      rw [if_neg (by omega), if_neg (by omega), if_pos ⟨rfl, rfl⟩, if_neg (fun z => hab z.1.symm), if_pos ⟨rfl, Nat.le_refl _, h⟩]
    · by_cases h3 : x = a ∧ i + 1 ≤ y ∧ y < 64
      · rw [if_pos h3, if_pos (by omega)]
      · by_cases h4 : x = b ∧ i + 1 ≤ y ∧ y < 64
        · rw [if_neg h3, if_pos h4, if_neg (show ¬ (x = a ∧ i ≤ y ∧ y < 64) from fun z => hab (z.1.symm.trans h4.1)), if_pos (by omega)]
        · rw [if_neg h3, if_neg h4, if_neg h2, if_neg h1, if_neg (by omega), if_neg (by omega)]
theorem bbI_ne {I : ab_I} {a b i k : Nat} {D E : Nat → Int32} (h1 : k ≠ a) (h2 : k ≠ b) : bbI I a b D E i k = I k := by
  funext y; unfold bbI; rw [if_neg (fun z => h1 z.1), if_neg (fun z => h2 z.1)]
theorem sh64 : ∀ i : Fin 64, nI i.val >>> (3 : Int32) = nI (i.val / 8) ∧ nI i.val &&& 7 = nI (i.val % 8) := by decide +kernel
section P14
variable {d SL : Nat} {xs : Nat → Int32} {g : ab_G} {I : ab_I} {J : ab_J} {Q : ab_Q}
theorem lp_bars {r a b : Nat} {k x y z : Int32} {l1 l2 l3 l4 : Int32} (h1 : ab_ty g r = 17) (h2 : ab_R g r 0 = some a) (h3 : ab_R g r 1 = some b) (h4 : ab_ty g a = 1) (h5 : ab_ln g a = 64) (h6 : ab_ty g b = 1) (h7 : ab_ln g b = 64) (h8 : 29 ≤ a) (h9 : 29 ≤ b) (hab : a ≠ b) (hra : r ≠ a) (hrb : r ≠ b) (m : Nat) : ∀ i I, I r 2 = k → I r 3 = x → I r 4 = y → I r 5 = z → i + m = 64 → (ab_E (d + 1) 67 24 [some (vR (some r)), some (vI l1), some (vI l2), some (vI l3), some (vI l4), some (vI (nI i))] [] 0 0 g I J Q ↔ Q none g (bbI I a b (fun q => db k x y z (nI (q / 8)) (nI (q % 8))) (fun _ => 0) i) J) := by
  induction m with
  | zero =>
    intro i I q1 q2 q3 q4 hi
    have e : i = 64 := by omega
    subst e
    have e64 : ¬ nI 64 < 64 := by decide
    rw [k67_24]
    simp only [k67_26, k67_28, k67_31, k67_32, k67_35, k67_37, k67_38, k67_40, k67_41, k67_42, k67_44, k67_46, k67_47, k67_50, k67_51, k67_52, k67_55, k67_57, k67_58, k67_59, k67_62, k67_65, ab_inv_I, ab_inv_R, ab_inv_L, ab_inv_0, ab_push_some, ab_push_none, ab_E_sw, ab_E_sw0, true_and, and_true, not_false_eq_true, bit_ite, s2, s3, s4, s5, s7, qi_ite2, ab_bit0, ab_bit1, qi_ite, ql_ite, Nat.reduceLeDiff, d128, d16, d8, d4, d1000, d100, d10, if_true, if_false, ite_self, tn0, tn1, tn2, tn3, tn4, tn5, tn6, tn7, tn8, tn9, tn10, tn11, tn12, tn13, tn14, tn15, tn16, tn17, tn18, tn19, e64, bbI_0]
  | succ m ih =>
    intro i I q1 q2 q3 q4 hi
    have f1 : nI i < 64 := nI_lt (b := 64) (by omega) (by decide)
    have f2 : vp_in (nI i) 64 := vp_in_nI (by omega) (by decide)
    have f3 : (nI i).toNatClampNeg = i := nI_clamp (by omega)
    have f4 := sh64 ⟨i, by omega⟩
    simp only [] at f4
    rw [k67_24]
    simp only [k67_26, k67_28, k67_31, k67_32, k67_35, k67_37, k67_38, k67_40, k67_41, k67_42, k67_44, k67_46, k67_47, k67_50, k67_51, k67_52, k67_55, k67_57, k67_58, k67_59, k67_62, k67_65, ab_inv_I, ab_inv_R, ab_inv_L, ab_inv_0, ab_push_some, ab_push_none, ab_E_sw, ab_E_sw0, true_and, and_true, not_false_eq_true, bit_ite, s2, s3, s4, s5, s7, qi_ite2, ab_bit0, ab_bit1, qi_ite, ql_ite, Nat.reduceLeDiff, d128, d16, d8, d4, d1000, d100, d10, if_true, if_false, ite_self, tn0, tn1, tn2, tn3, tn4, tn5, tn6, tn7, tn8, tn9, tn10, tn11, tn12, tn13, tn14, tn15, tn16, tn17, tn18, tn19, f1, f2, f3, f4.1, f4.2, h1, h2, h3, h4, h5, h6, h7, h8, h9, c_Ru_dueByBars h1, q1, q2, q3, q4, nI_1]
    rw [ih (i + 1) _ (by rw [up_ne hrb, up_ne hra]; exact q1) (by rw [up_ne hrb, up_ne hra]; exact q2) (by rw [up_ne hrb, up_ne hra]; exact q3) (by rw [up_ne hrb, up_ne hra]; exact q4) (by omega)]
    have e := bbI_s (I := I) (D := (fun q => db k x y z (nI (q / 8)) (nI (q % 8)))) (E := fun _ => 0) (i := i) hab (by omega)
    exact Iff.of_eq (congrArg (fun I' => Q none g I' J) e)
theorem c_Ru_beOfBars {r a b : Nat} {k x y z : Int32} (h0 : 29 ≤ r) (h1 : ab_ty g r = 17) (h2 : ab_R g r 0 = some a) (h3 : ab_R g r 1 = some b) (h4 : ab_ty g a = 1) (h5 : ab_ln g a = 64) (h6 : ab_ty g b = 1) (h7 : ab_ln g b = 64) (h8 : 29 ≤ a) (h9 : 29 ≤ b) (hab : a ≠ b) (hra : r ≠ a) (hrb : r ≠ b) : ab_run (d + 2) 67 [vR (some r), vI k, vI x, vI y, vI z] g I J Q ↔ Q none g (bbI (ab_up (ab_up (ab_up (ab_up I r 2 k) r 3 x) r 4 y) r 5 z) a b (fun q => db k x y z (nI (q / 8)) (nI (q % 8))) (fun _ => 0) 0) J := by
  rw [e67]
  simp only [k67_0, k67_1, k67_2, k67_5, k67_6, k67_7, k67_10, k67_11, k67_12, k67_15, k67_16, k67_18, k67_21, k67_22, ab_inv_I, ab_inv_R, ab_inv_L, ab_inv_0, ab_push_some, ab_push_none, ab_E_sw, ab_E_sw0, true_and, and_true, not_false_eq_true, bit_ite, s2, s3, s4, s5, s7, qi_ite2, ab_bit0, ab_bit1, qi_ite, ql_ite, Nat.reduceLeDiff, d128, d16, d8, d4, d1000, d100, d10, if_true, if_false, ite_self, tn0, tn1, tn2, tn3, tn4, tn5, tn6, tn7, tn8, tn9, tn10, tn11, tn12, tn13, tn14, tn15, tn16, tn17, tn18, tn19, h0, h1]
  have e := lp_bars (d := d) (J := J) (Q := Q) (k := k) (x := x) (y := y) (z := z) (l1 := k) (l2 := x) (l3 := y) (l4 := z) h1 h2 h3 h4 h5 h6 h7 h8 h9 hab hra hrb 64 0 (ab_up (ab_up (ab_up (ab_up I r 2 k) r 3 x) r 4 y) r 5 z) (by simp (disch := decide) only [up_row, fr_ne, fr_eq]) (by simp (disch := decide) only [up_row, fr_ne, fr_eq]) (by simp (disch := decide) only [up_row, fr_ne, fr_eq]) (by simp (disch := decide) only [up_row, fr_ne, fr_eq]) (by decide)
  rw [nI_0] at e
  exact e
end P14
