/-! ===== a Rule that covers another; fuel of dues ===== -/
theorem du_fuel {ru co : Nat → Int32} (s o : Int32) (i : Nat) : (∀ j, j ≤ i → rwOK ru co j) → ∀ f, i < f → du ru co s o f i = du ru co s o (i + 1) i := by
  induction i using Nat.strongRecOn with
  | ind i ih =>
    intro w f hf
    cases f with
    | zero => omega
    | succ f =>
      show (if ru (4 * i) = 5 then _ else _) = (if ru (4 * i) = 5 then _ else _)
      by_cases k : ru (4 * i) = 5
      · have hl := ((w i (Nat.le_refl i)).2.2.2.1 k).2.1
        have hw : ∀ j, j ≤ (ru (4 * i + 1)).toNatClampNeg → rwOK ru co j := fun j hj => w j (by omega)
        rw [if_pos k, if_pos k, ih _ hl hw f (by omega), ih _ hl hw i hl]
      · rw [if_neg k, if_neg k]
section P18
variable {d SL : Nat} {xs : Nat → Int32} {g : ab_G} {I : ab_I} {J : ab_J} {Q : ab_Q}
theorem lp_cover {r a b r0 a0 b0 : Nat} {w p : Int32} {A B : Nat → Int32} (h1 : ab_ty g r = 17) (h2 : ab_R g r 0 = some a) (h3 : ab_R g r 1 = some b) (h4 : ab_ty g a = 1) (h5 : ab_ln g a = 64) (h6 : ab_ty g b = 1) (h7 : ab_ln g b = 64) (h8 : 29 ≤ a) (h9 : 29 ≤ b) (hab : a ≠ b) (c1 : ab_ty g r0 = 17) (c2 : ab_R g r0 0 = some a0) (c3 : ab_R g r0 1 = some b0) (c4 : ab_ty g a0 = 1) (c5 : ab_ln g a0 = 64) (c6 : ab_ty g b0 = 1) (c7 : ab_ln g b0 = 64) (d1 : a0 ≠ a) (d2 : a0 ≠ b) (d3 : b0 ≠ a) (d4 : b0 ≠ b) (m : Nat) : ∀ i I l, I a0 = A → I b0 = B → i + m = 64 → (ab_E d 72 18 [some (vR (some r)), some (vR (some r0)), some (vI w), some (vI p), some (vI (nI i)), l] [] 0 0 g I J Q ↔ Q none g (bbI I a b (fun q => A q - A q * p / 8) (fun q => B q + A q * p / 8) i) J) := by
  induction m with
  | zero =>
    intro i I l q1 q2 hi
    have e : i = 64 := by omega
    subst e
    have e64 : ¬ nI 64 < 64 := by decide
    rw [k72_18]
    simp only [k72_20, k72_22, k72_25, k72_26, k72_29, k72_31, k72_32, k72_33, k72_34, k72_36, k72_37, k72_39, k72_40, k72_43, k72_45, k72_46, k72_49, k72_51, k72_52, k72_54, k72_55, k72_56, k72_57, k72_60, k72_62, k72_63, k72_66, k72_68, k72_69, k72_71, k72_72, k72_73, k72_76, k72_79, ab_inv_I, ab_inv_R, ab_inv_L, ab_inv_0, ab_push_some, ab_push_none, ab_E_sw, ab_E_sw0, true_and, and_true, not_false_eq_true, bit_ite, s2, s3, s4, s5, s7, qi_ite2, ab_bit0, ab_bit1, qi_ite, ql_ite, Nat.reduceLeDiff, d128, d16, d8, d4, d1000, d100, d10, if_true, if_false, ite_self, tn0, tn1, tn2, tn3, tn4, tn5, tn6, tn7, tn8, tn9, tn10, tn11, tn12, tn13, tn14, tn15, tn16, tn17, tn18, tn19, e64, bbI_0]
  | succ m ih =>
    intro i I l q1 q2 hi
    have f1 : nI i < 64 := nI_lt (b := 64) (by omega) (by decide)
    have f2 : vp_in (nI i) 64 := vp_in_nI (by omega) (by decide)
    have f3 : (nI i).toNatClampNeg = i := nI_clamp (by omega)
    have u1 : ∀ v, ab_up I a i v b0 i = B i := fun v => by rw [up_ne d3, q2]
    rw [k72_18]
    simp only [k72_20, k72_22, k72_25, k72_26, k72_29, k72_31, k72_32, k72_33, k72_34, k72_36, k72_37, k72_39, k72_40, k72_43, k72_45, k72_46, k72_49, k72_51, k72_52, k72_54, k72_55, k72_56, k72_57, k72_60, k72_62, k72_63, k72_66, k72_68, k72_69, k72_71, k72_72, k72_73, k72_76, k72_79, ab_inv_I, ab_inv_R, ab_inv_L, ab_inv_0, ab_push_some, ab_push_none, ab_E_sw, ab_E_sw0, true_and, and_true, not_false_eq_true, bit_ite, s2, s3, s4, s5, s7, qi_ite2, ab_bit0, ab_bit1, qi_ite, ql_ite, Nat.reduceLeDiff, d128, d16, d8, d4, d1000, d100, d10, if_true, if_false, ite_self, tn0, tn1, tn2, tn3, tn4, tn5, tn6, tn7, tn8, tn9, tn10, tn11, tn12, tn13, tn14, tn15, tn16, tn17, tn18, tn19, f1, f2, f3, h1, h2, h3, h4, h5, h6, h7, h8, h9, c1, c2, c3, c4, c5, c6, c7, q1, u1, nI_1]
    rw [ih (i + 1) _ _ (by rw [up_ne d2, up_ne d1]; exact q1) (by rw [up_ne d4, up_ne d3]; exact q2) (by omega)]
    have e := bbI_s (I := I) (D := (fun q => A q - A q * p / 8)) (E := (fun q => B q + A q * p / 8)) (i := i) hab (by omega)
    exact Iff.of_eq (congrArg (fun I' => Q none g I' J) e)
theorem c_Ru_beCover {r a b r0 a0 b0 : Nat} {w p : Int32} (h0 : 29 ≤ r) (x1 : a0 ≠ r) (x2 : b0 ≠ r) (h1 : ab_ty g r = 17) (h2 : ab_R g r 0 = some a) (h3 : ab_R g r 1 = some b) (h4 : ab_ty g a = 1) (h5 : ab_ln g a = 64) (h6 : ab_ty g b = 1) (h7 : ab_ln g b = 64) (h8 : 29 ≤ a) (h9 : 29 ≤ b) (hab : a ≠ b) (c1 : ab_ty g r0 = 17) (c2 : ab_R g r0 0 = some a0) (c3 : ab_R g r0 1 = some b0) (c4 : ab_ty g a0 = 1) (c5 : ab_ln g a0 = 64) (c6 : ab_ty g b0 = 1) (c7 : ab_ln g b0 = 64) (d1 : a0 ≠ a) (d2 : a0 ≠ b) (d3 : b0 ≠ a) (d4 : b0 ≠ b) : ab_run (d + 1) 72 [vR (some r), vR (some r0), vI w, vI p] g I J Q ↔ Q none g (bbI (ab_up (ab_up (ab_up I r 2 5) r 6 w) r 7 p) a b (fun q => I a0 q - I a0 q * p / 8) (fun q => I b0 q + I a0 q * p / 8) 0) J := by
  rw [e72]
  simp only [k72_0, k72_1, k72_2, k72_5, k72_6, k72_7, k72_10, k72_11, k72_12, k72_15, k72_16, ab_inv_I, ab_inv_R, ab_inv_L, ab_inv_0, ab_push_some, ab_push_none, ab_E_sw, ab_E_sw0, true_and, and_true, not_false_eq_true, bit_ite, s2, s3, s4, s5, s7, qi_ite2, ab_bit0, ab_bit1, qi_ite, ql_ite, Nat.reduceLeDiff, d128, d16, d8, d4, d1000, d100, d10, if_true, if_false, ite_self, tn0, tn1, tn2, tn3, tn4, tn5, tn6, tn7, tn8, tn9, tn10, tn11, tn12, tn13, tn14, tn15, tn16, tn17, tn18, tn19, h0, h1]
  have e := lp_cover (d := d) (J := J) (Q := Q) (w := w) (p := p) (A := I a0) (B := I b0) h1 h2 h3 h4 h5 h6 h7 h8 h9 hab c1 c2 c3 c4 c5 c6 c7 d1 d2 d3 d4 64 0 (ab_up (ab_up (ab_up I r 2 5) r 6 w) r 7 p) none (by rw [up_ne x1, up_ne x1, up_ne x1]) (by rw [up_ne x2, up_ne x2, up_ne x2]) (by decide)
  rw [nI_0] at e
  exact e
end P18
