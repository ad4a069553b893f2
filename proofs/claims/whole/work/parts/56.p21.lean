/-! ===== cells ===== -/
theorem cb1 : ∀ q : Fin 1024, (nI q.val >>> (7 : Int32) &&& 7 = nI (q.val / 128) ∧ nI q.val >>> (4 : Int32) &&& 7 = nI (q.val / 16 % 8)) ∧ nI q.val >>> (2 : Int32) &&& 3 = nI (q.val / 4 % 4) ∧ nI q.val &&& 3 = nI (q.val % 4) := by decide +kernel
theorem cb2 : ∀ q : Fin 1024, (nI q.val >>> (5 : Int32) &&& 28) ||| (nI q.val >>> (2 : Int32) &&& 3) = nI (q.val / 128 * 4 + q.val / 4 % 4) ∧ (nI q.val >>> (2 : Int32) &&& 28) ||| (nI q.val &&& 3) = nI (q.val / 16 % 8 * 4 + q.val % 4) := by decide +kernel
section P21
variable {d SL : Nat} {g : ab_G} {I : ab_I} {J : ab_J} {Q : ab_Q}
theorem c_X_careOf0 {q : Nat} (hq : q < 1024) : ab_run (d + 1) 60 [vI (nI q), vI 0] g I J Q ↔ Q (some (vI (nI (q / 128)))) g I J := by
  have h := cb1 ⟨q, hq⟩
  simp only [] at h
  rw [c_X_careOf]
  simp only [Int32.reduceAdd, Int32.reduceMul, Int32.reduceSub, Int32.reduceDiv, Int32.reduceLT, Int32.reduceLE, Int32.reduceToNatClampNeg, i10, i01, ↓reduceIte, if_true, if_false, h.1.1, h.1.2, h.2.1, h.2.2]
theorem c_X_careOf1 {q : Nat} (hq : q < 1024) : ab_run (d + 1) 60 [vI (nI q), vI 1] g I J Q ↔ Q (some (vI (nI (q / 16 % 8)))) g I J := by
  have h := cb1 ⟨q, hq⟩
  simp only [] at h
  rw [c_X_careOf]
  simp only [Int32.reduceAdd, Int32.reduceMul, Int32.reduceSub, Int32.reduceDiv, Int32.reduceLT, Int32.reduceLE, Int32.reduceToNatClampNeg, i10, i01, ↓reduceIte, if_true, if_false, h.1.1, h.1.2, h.2.1, h.2.2]
theorem c_X_goingOf0 {q : Nat} (hq : q < 1024) : ab_run (d + 1) 61 [vI (nI q), vI 0] g I J Q ↔ Q (some (vI (nI (q / 4 % 4)))) g I J := by
  have h := cb1 ⟨q, hq⟩
  simp only [] at h
  rw [c_X_goingOf]
  simp only [Int32.reduceAdd, Int32.reduceMul, Int32.reduceSub, Int32.reduceDiv, Int32.reduceLT, Int32.reduceLE, Int32.reduceToNatClampNeg, i10, i01, ↓reduceIte, if_true, if_false, h.1.1, h.1.2, h.2.1, h.2.2]
theorem c_X_goingOf1 {q : Nat} (hq : q < 1024) : ab_run (d + 1) 61 [vI (nI q), vI 1] g I J Q ↔ Q (some (vI (nI (q % 4)))) g I J := by
  have h := cb1 ⟨q, hq⟩
  simp only [] at h
  rw [c_X_goingOf]
  simp only [Int32.reduceAdd, Int32.reduceMul, Int32.reduceSub, Int32.reduceDiv, Int32.reduceLT, Int32.reduceLE, Int32.reduceToNatClampNeg, i10, i01, ↓reduceIte, if_true, if_false, h.1.1, h.1.2, h.2.1, h.2.2]
theorem c_X_ownOf0 {q : Nat} (hq : q < 1024) : ab_run (d + 1) 91 [vI (nI q), vI 0] g I J Q ↔ Q (some (vI (nI (q / 128 * 4 + q / 4 % 4)))) g I J := by
  have h := cb2 ⟨q, hq⟩
  simp only [] at h
  rw [e91]
  simp only [k91_0, k91_1, k91_4, k91_5, k91_6, k91_7, k91_9, k91_10, k91_11, k91_12, k91_13, k91_14, k91_15, k91_16, k91_19, k91_20, k91_21, k91_22, k91_24, k91_25, k91_26, k91_27, k91_28, k91_29, ab_inv_I, ab_inv_R, ab_inv_L, ab_inv_0, ab_push_some, ab_push_none, ab_E_sw, ab_E_sw0, true_and, and_true, not_false_eq_true, bit_ite, s2, s3, s4, s5, s7, qi_ite2, ab_bit0, ab_bit1, qi_ite, ql_ite, Nat.reduceLeDiff, d128, d16, d8, d4, d1000, d100, d10, if_true, if_false, ite_self, tn0, tn1, tn2, tn3, tn4, tn5, tn6, tn7, tn8, tn9, tn10, tn11, tn12, tn13, tn14, tn15, tn16, tn17, tn18, tn19, Int32.reduceAdd, Int32.reduceMul, Int32.reduceSub, Int32.reduceDiv, Int32.reduceLT, Int32.reduceLE, Int32.reduceToNatClampNeg, i10, i01, ↓reduceIte, if_true, if_false, h.1, h.2]
theorem c_X_ownOf1 {q : Nat} (hq : q < 1024) : ab_run (d + 1) 91 [vI (nI q), vI 1] g I J Q ↔ Q (some (vI (nI (q / 16 % 8 * 4 + q % 4)))) g I J := by
  have h := cb2 ⟨q, hq⟩
  simp only [] at h
  rw [e91]
  simp only [k91_0, k91_1, k91_4, k91_5, k91_6, k91_7, k91_9, k91_10, k91_11, k91_12, k91_13, k91_14, k91_15, k91_16, k91_19, k91_20, k91_21, k91_22, k91_24, k91_25, k91_26, k91_27, k91_28, k91_29, ab_inv_I, ab_inv_R, ab_inv_L, ab_inv_0, ab_push_some, ab_push_none, ab_E_sw, ab_E_sw0, true_and, and_true, not_false_eq_true, bit_ite, s2, s3, s4, s5, s7, qi_ite2, ab_bit0, ab_bit1, qi_ite, ql_ite, Nat.reduceLeDiff, d128, d16, d8, d4, d1000, d100, d10, if_true, if_false, ite_self, tn0, tn1, tn2, tn3, tn4, tn5, tn6, tn7, tn8, tn9, tn10, tn11, tn12, tn13, tn14, tn15, tn16, tn17, tn18, tn19, Int32.reduceAdd, Int32.reduceMul, Int32.reduceSub, Int32.reduceDiv, Int32.reduceLT, Int32.reduceLE, Int32.reduceToNatClampNeg, i10, i01, ↓reduceIte, if_true, if_false, h.1, h.2]
end P21
