/-! ===== places of the reference ===== -/
theorem pb1 : ∀ q : Fin 1024, (nI q.val / 128 = nI (q.val / 128) ∧ nI q.val / 16 - nI q.val / 16 / 8 * 8 = nI (q.val / 16 % 8)) ∧ nI q.val / 4 - nI q.val / 4 / 4 * 4 = nI (q.val / 4 % 4) ∧ nI q.val - nI q.val / 4 * 4 = nI (q.val % 4) := by decide +kernel
/-- the number that tells doings -/
def nu_ (q : Nat) : Nat := 1000 * (q / 128) + 100 * (q / 16 % 8) + 10 * (q / 4 % 4) + q % 4
theorem pb2 : ∀ q : Fin 1024, 1000 * nI (q.val / 128) + 100 * nI (q.val / 16 % 8) + 10 * nI (q.val / 4 % 4) + nI (q.val % 4) = nI (nu_ q.val) := by decide +kernel
section P22
variable {d SL : Nat} {g : ab_G} {I : ab_I} {J : ab_J} {Q : ab_Q}
theorem c_M_number {q : Nat} (hq : q < 1024) : ab_run (d + 1) 220 [vI (nI q)] g I J Q ↔ Q (some (vI (nI (nu_ q)))) g I J := by
  have h := pb1 ⟨q, hq⟩
  have h2 := pb2 ⟨q, hq⟩
  simp only [] at h h2
  rw [c_M_numberOf, h.1.1, h.1.2, h.2.1, h.2.2, h2]
theorem c_X_doingsOf {q : Nat} (hq : q < 1024) : ab_run (d + 2) 100 [vI (nI q)] g I J Q ↔ Q (some (vI (nI (nu_ q)))) g I J := by
  have h2 := pb2 ⟨q, hq⟩
  simp only [] at h2
  rw [e100]
  simp only [k100_0, k100_3, k100_4, k100_5, k100_8, k100_9, k100_11, k100_12, k100_13, k100_16, k100_17, k100_18, k100_20, k100_21, k100_22, k100_25, k100_26, k100_27, k100_28, k100_29, k100_32, k100_33, ab_inv_I, ab_inv_R, ab_inv_L, ab_inv_0, ab_push_some, ab_push_none, ab_E_sw, ab_E_sw0, true_and, and_true, not_false_eq_true, bit_ite, s2, s3, s4, s5, s7, qi_ite2, ab_bit0, ab_bit1, qi_ite, ql_ite, Nat.reduceLeDiff, d128, d16, d8, d4, d1000, d100, d10, if_true, if_false, ite_self, tn0, tn1, tn2, tn3, tn4, tn5, tn6, tn7, tn8, tn9, tn10, tn11, tn12, tn13, tn14, tn15, tn16, tn17, tn18, tn19, c_X_careOf0 hq, c_X_careOf1 hq, c_X_goingOf0 hq, c_X_goingOf1 hq, h2]
end P22
