/-! ===== single steps of texts ===== -/
def jn (s a b : Int32) : Int32 := if s = -6 then a + b else if s = -7 then a - b else if s = -8 then a * b else if s = -9 then (if b = 0 then 0 else a / b) else if s = -10 then (if a < b then 1 else 0) else (if a = b then 1 else 0)
section P20
variable {d SL : Nat} {g : ab_G} {I : ab_I} {J : ab_J} {Q : ab_Q}
theorem c_M_worked {s a b : Int32} : ab_run (d + 1) 192 [vI s, vI a, vI b] g I J Q ↔ Q (some (vI (wk s a b))) g I J := by
  rw [e192]
  unfold wk
  simp only [k192_0, k192_1, k192_52, k192_53, k192_54, k192_55, k192_56, k192_57, k192_58, k192_59, k192_60, k192_61, k192_62, k192_63, k192_64, k192_65, k192_68, k192_69, k192_72, k192_73, k192_74, k192_75, k192_76, k192_77, k192_78, k192_81, k192_82, k192_85, k192_86, k192_87, k192_88, k192_89, k192_92, k192_93, k192_96, k192_97, ab_inv_I, ab_inv_R, ab_inv_L, ab_inv_0, ab_push_some, ab_push_none, ab_E_sw, ab_E_sw0, true_and, and_true, not_false_eq_true, bit_ite, s2, s3, s4, s5, s7, qi_ite2, ab_bit0, ab_bit1, qi_ite, ql_ite, Nat.reduceLeDiff, d128, d16, d8, d4, d1000, d100, d10, if_true, if_false, ite_self, tn0, tn1, tn2, tn3, tn4, tn5, tn6, tn7, tn8, tn9, tn10, tn11, tn12, tn13, tn14, tn15, tn16, tn17, tn18, tn19]
  by_cases h1 : s = 43
  · simp [h1]
  by_cases h2 : s = 45
  · simp [h1, h2]
  by_cases h3 : s = 42
  · simp [h1, h2, h3]
  by_cases h4 : s = 47
  · by_cases h5 : b = 0 <;> simp [h1, h2, h3, h4, h5]
  simp [h1, h2, h3, h4]
theorem c_Tx_join {s a b : Int32} : ab_run (d + 1) 62 [vI s, vI a, vI b] g I J Q ↔ Q (some (vI (jn s a b))) g I J := by
  rw [e62]
  unfold jn
  simp only [k62_0, k62_1, k62_36, k62_37, k62_38, k62_39, k62_40, k62_41, k62_42, k62_43, k62_44, k62_45, k62_46, k62_47, k62_48, k62_49, k62_52, k62_53, k62_56, k62_57, k62_58, k62_59, k62_60, k62_61, k62_62, k62_65, k62_66, k62_69, k62_70, k62_71, k62_72, k62_73, k62_76, k62_77, k62_80, k62_81, ab_inv_I, ab_inv_R, ab_inv_L, ab_inv_0, ab_push_some, ab_push_none, ab_E_sw, ab_E_sw0, true_and, and_true, not_false_eq_true, bit_ite, s2, s3, s4, s5, s7, qi_ite2, ab_bit0, ab_bit1, qi_ite, ql_ite, Nat.reduceLeDiff, d128, d16, d8, d4, d1000, d100, d10, if_true, if_false, ite_self, tn0, tn1, tn2, tn3, tn4, tn5, tn6, tn7, tn8, tn9, tn10, tn11, tn12, tn13, tn14, tn15, tn16, tn17, tn18, tn19]
  by_cases h1 : s = -6
  · simp [h1]
  by_cases h2 : s = -7
  · simp [h1, h2]
  by_cases h3 : s = -8
  · simp [h1, h2, h3]
  by_cases h4 : s = -9
  · by_cases h5 : b = 0 <;> simp [h1, h2, h3, h4, h5]
  simp [h1, h2, h3, h4]
end P20
