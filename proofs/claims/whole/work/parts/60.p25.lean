/-! ===== goes ===== -/
section P25
variable {d SL : Nat} {g : ab_G} {I : ab_I} {J : ab_J} {Q : ab_Q}
theorem c_M_goes {r N : Nat} {a b c e : Int32} (hg : gx g) (hr : r < 22) (hN : I 107 (125 * r) = nI N) (hgd : gd (cr (I 107) r) N) (hQ : ∀ I', (∀ x, x ≠ 115 → I' x = I x) → Q (some (vI (ev a b c e (cr (I 107) r) N))) g I' J) : ab_run (d + 2) 191 [vR (some 101), vI (nI r), vI a, vI b, vI c, vI e] g I J Q := by
  rw [e191]
  simp only [k191_0, k191_1, k191_3, k191_4, ab_inv_I, ab_inv_R, ab_inv_L, ab_inv_0, ab_push_some, ab_push_none, ab_E_sw, ab_E_sw0, true_and, and_true, not_false_eq_true, bit_ite, s2, s3, s4, s5, s7, qi_ite2, ab_bit0, ab_bit1, qi_ite, ql_ite, Nat.reduceLeDiff, d128, d16, d8, d4, d1000, d100, d10, if_true, if_false, ite_self, tn0, tn1, tn2, tn3, tn4, tn5, tn6, tn7, tn8, tn9, tn10, tn11, tn12, tn13, tn14, tn15, tn16, tn17, tn18, tn19]
  have q := lp_goes (d := d) (J := J) (Q := Q) (a := a) (b := b) (c := c) (e := e) hg hr hN hgd.2.1 hgd N 0 I none (by omega) rfl trivial hQ
  exact q
end P25
