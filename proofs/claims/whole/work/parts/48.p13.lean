/-! ===== a new Rule; its dues by bars ===== -/
/-- g' and I' have a new Rule r with its two rows, and else what stood there -/
def nr (g g' : ab_G) (I I' : ab_I) (J J' : ab_J) : Prop := ab_n g' = ab_n g + 3 ∧ ab_ty g' (ab_n g) = 17 ∧ ab_R g' (ab_n g) 0 = some (ab_n g + 1) ∧ ab_R g' (ab_n g) 1 = some (ab_n g + 2) ∧ (ab_ty g' (ab_n g + 1) = 1 ∧ ab_ln g' (ab_n g + 1) = 64) ∧ (ab_ty g' (ab_n g + 2) = 1 ∧ ab_ln g' (ab_n g + 2) = 64) ∧ (∀ k, k < ab_n g → ab_ty g' k = ab_ty g k ∧ ab_ln g' k = ab_ln g k ∧ ab_R g' k = ab_R g k ∧ I' k = I k ∧ J' k = J k) ∧ ∀ k, ab_n g + 3 ≤ k → ab_ty g' k = ab_ty g k
theorem ty_mk {g : ab_G} {t l k : Nat} : ab_ty (ab_mk g t l) k = if k = ab_n g then t else ab_ty g k := rfl
theorem ln_mk {g : ab_G} {t l k : Nat} : ab_ln (ab_mk g t l) k = if k = ab_n g then l else ab_ln g k := rfl
theorem n_mk {g : ab_G} {t l : Nat} : ab_n (ab_mk g t l) = ab_n g + 1 := rfl
theorem R_mk_ne {g : ab_G} {t l k : Nat} (h : k ≠ ab_n g) : ab_R (ab_mk g t l) k = ab_R g k := by
  funext y
  show (if k = g.1 then none else g.2.2.2 k y) = _
  exact if_neg h
theorem ty_set {g : ab_G} {a k b : Nat} {o : Option Nat} : ab_ty (ab_setR g a k o) b = ab_ty g b := rfl
theorem ln_set {g : ab_G} {a k b : Nat} {o : Option Nat} : ab_ln (ab_setR g a k o) b = ab_ln g b := rfl
theorem n_set {g : ab_G} {a k : Nat} {o : Option Nat} : ab_n (ab_setR g a k o) = ab_n g := rfl
theorem z_ne {α : Type} {f : Nat → Nat → α} {a b k : Nat} {z : α} (h : ¬ (a ≤ k ∧ k < b)) : ab_z f a b z k = f k := by
  funext y; unfold ab_z; rw [if_neg h]
section P13
variable {d SL : Nat} {xs : Nat → Int32} {g : ab_G} {I : ab_I} {J : ab_J} {Q : ab_Q}
theorem new_rule (hn : 29 ≤ ab_n g) (hQ : ∀ g' I' J', nr g g' I I' J J' → Q none g' I' J') : ab_run (d + 1) 7 [vR (some (ab_n g))] (ab_mk g 17 0) (ab_z I (ab_n g) (ab_n g + 1) 0) (ab_z J (ab_n g) (ab_n g + 1) 0) Q := by
  rw [e7]
  have n1 : ab_n g ≠ ab_n g + 1 := by omega
  have n2 : ab_n g ≠ ab_n g + 1 + 1 := by omega
  simp (disch := omega) only [k7_0, k7_1, k7_4, k7_5, k7_7, k7_9, k7_12, k7_13, k7_15, k7_17, k7_20, k7_21, k7_22, k7_25, k7_26, k7_27, k7_30, k7_31, k7_32, k7_35, k7_36, k7_37, k7_40, k7_41, k7_42, k7_45, k7_46, k7_47, k7_50, ab_inv_I, ab_inv_R, ab_inv_L, ab_inv_0, ab_push_some, ab_push_none, ab_E_sw, ab_E_sw0, true_and, and_true, not_false_eq_true, bit_ite, s2, s3, s4, s5, s7, qi_ite2, ab_bit0, ab_bit1, qi_ite, ql_ite, Nat.reduceLeDiff, d128, d16, d8, d4, d1000, d100, d10, if_true, if_false, ite_self, tn0, tn1, tn2, tn3, tn4, tn5, tn6, tn7, tn8, tn9, tn10, tn11, tn12, tn13, tn14, tn15, tn16, tn17, tn18, tn19, Int32.reduceAdd, Int32.reduceMul, Int32.reduceSub, Int32.reduceDiv, Int32.reduceLT, Int32.reduceLE, Int32.reduceToNatClampNeg, i10, i01, ↓reduceIte, if_true, if_false, n_mk, n_set, ty_set, ty_mk, ln_set, ln_mk, hn, Nat.reduceLT, Nat.zero_add, Nat.reduceAdd, Nat.le_refl, n1, n2]
  apply hQ
  refine ⟨rfl, ?_, ?_, ?_, ⟨?_, ?_⟩, ⟨?_, ?_⟩, fun k hk => ⟨?_, ?_, ?_, ?_, ?_⟩, fun k hk => ?_⟩
  · simp only [ty_set, ty_mk, n_mk, n_set, n1, n2, if_false, if_true]
  · simp (disch := first | omega | (simp only [n_mk, n_set]; omega)) only [R_set_ne, R_set_row, R_mk_ne, fr_ne, fr_eq, up_ne, z_ne]
  · simp (disch := first | omega | (simp only [n_mk, n_set]; omega)) only [R_set_ne, R_set_row, R_mk_ne, fr_ne, fr_eq, up_ne, z_ne]
  · have e : ab_n g + 1 ≠ ab_n g + 1 + 1 := by omega
    simp only [ty_set, ty_mk, n_mk, n_set, e, if_false, if_true]
  · have e : ab_n g + 1 ≠ ab_n g + 1 + 1 := by omega
    simp only [ln_set, ln_mk, n_mk, n_set, e, if_false, if_true]
  · simp only [ty_set, ty_mk, n_mk, n_set, if_true]
  · simp only [ln_set, ln_mk, n_mk, n_set, if_true]
  · have e0 : k ≠ ab_n g := by omega
    have e1 : k ≠ ab_n g + 1 := by omega
    have e2 : k ≠ ab_n g + 1 + 1 := by omega
    simp only [ty_set, ty_mk, n_mk, n_set, e0, e1, e2, if_false]
  · have e0 : k ≠ ab_n g := by omega
    have e1 : k ≠ ab_n g + 1 := by omega
    have e2 : k ≠ ab_n g + 1 + 1 := by omega
    simp only [ln_set, ln_mk, n_mk, n_set, e0, e1, e2, if_false]
  · simp (disch := first | omega | (simp only [n_mk, n_set]; omega)) only [R_set_ne, R_set_row, R_mk_ne, fr_ne, fr_eq, up_ne, z_ne]
  · simp (disch := first | omega | (simp only [n_mk, n_set]; omega)) only [R_set_ne, R_set_row, R_mk_ne, fr_ne, fr_eq, up_ne, z_ne]
  · simp (disch := first | omega | (simp only [n_mk, n_set]; omega)) only [R_set_ne, R_set_row, R_mk_ne, fr_ne, fr_eq, up_ne, z_ne]
  · have e0 : k ≠ ab_n g := by omega
    have e1 : k ≠ ab_n g + 1 := by omega
    have e2 : k ≠ ab_n g + 1 + 1 := by omega
    simp only [ty_set, ty_mk, n_mk, n_set, e0, e1, e2, if_false]
/-- what a rule of bars lets 0 owe -/
def db (k a b c s o : Int32) : Int32 := if k = 1 then 64 else if k = 2 then (if s < a then 64 else 0) else if k = 3 then (if s < a then (if o < b then 8 * c else 64) else 0) else if k = 4 then (if o < a then 0 else 64) else 0
theorem c_Ru_dueByBars {r : Nat} {s o : Int32} (h : ab_ty g r = 17) : ab_run (d + 1) 68 [vR (some r), vI s, vI o] g I J Q ↔ Q (some (vI (db (I r 2) (I r 3) (I r 4) (I r 5) s o))) g I J := by
  rw [e68]
  unfold db
  simp only [k68_0, k68_1, k68_4, k68_36, k68_38, k68_39, k68_40, k68_41, k68_44, k68_47, k68_49, k68_52, k68_53, k68_54, k68_55, k68_56, k68_59, k68_62, k68_63, k68_64, k68_67, k68_70, k68_72, k68_73, k68_76, k68_77, k68_78, k68_79, k68_80, k68_83, k68_86, k68_88, k68_91, k68_92, k68_93, k68_94, k68_95, k68_98, k68_101, k68_102, k68_105, k68_107, k68_108, k68_109, ab_inv_I, ab_inv_R, ab_inv_L, ab_inv_0, ab_push_some, ab_push_none, ab_E_sw, ab_E_sw0, true_and, and_true, not_false_eq_true, bit_ite, s2, s3, s4, s5, s7, qi_ite2, ab_bit0, ab_bit1, qi_ite, ql_ite, Nat.reduceLeDiff, d128, d16, d8, d4, d1000, d100, d10, if_true, if_false, ite_self, tn0, tn1, tn2, tn3, tn4, tn5, tn6, tn7, tn8, tn9, tn10, tn11, tn12, tn13, tn14, tn15, tn16, tn17, tn18, tn19, h]
  by_cases h1 : I r 2 = 1 <;> by_cases h2 : I r 2 = 2 <;> by_cases h3 : I r 2 = 3 <;> by_cases h4 : I r 2 = 4 <;> by_cases h5 : s < I r 3 <;> by_cases h6 : o < I r 4 <;> simp [h1, h2, h3, h4, h5, h6]
end P13
