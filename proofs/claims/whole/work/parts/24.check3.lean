/-! ===== the rows of the law ===== -/
set_option maxRecDepth 40000 in
theorem ab_okL_0 : (cd_Law_law_0.all fun t => ab_ck "CareRulesLaw" code t && ab_ckB 259 t) = true := by decide +kernel
set_option maxRecDepth 40000 in
theorem ab_okL_1 : (cd_Law_law_1.all fun t => ab_ck "CareRulesLaw" code t && ab_ckB 259 t) = true := by decide +kernel
set_option maxRecDepth 40000 in
theorem ab_okL_2 : (cd_Law_law_2.all fun t => ab_ck "CareRulesLaw" code t && ab_ckB 259 t) = true := by decide +kernel
set_option maxRecDepth 40000 in
theorem ab_okL_3 : (cd_Law_law_3.all fun t => ab_ck "CareRulesLaw" code t && ab_ckB 259 t) = true := by decide +kernel
set_option maxRecDepth 40000 in
theorem ab_okL_4 : (cd_Law_law_4.all fun t => ab_ck "CareRulesLaw" code t && ab_ckB 259 t) = true := by decide +kernel
set_option maxRecDepth 40000 in
theorem ab_okL_5 : (cd_Law_law_5.all fun t => ab_ck "CareRulesLaw" code t && ab_ckB 259 t) = true := by decide +kernel
set_option maxRecDepth 40000 in
theorem ab_okL_6 : (cd_Law_law_6.all fun t => ab_ck "CareRulesLaw" code t && ab_ckB 259 t) = true := by decide +kernel
set_option maxRecDepth 40000 in
theorem ab_okL_7 : (cd_Law_law_7.all fun t => ab_ck "CareRulesLaw" code t && ab_ckB 259 t) = true := by decide +kernel
set_option maxRecDepth 40000 in
theorem ab_okL_8 : (cd_Law_law_8.all fun t => ab_ck "CareRulesLaw" code t && ab_ckB 259 t) = true := by decide +kernel
set_option maxRecDepth 40000 in
theorem ab_okL_9 : (cd_Law_law_9.all fun t => ab_ck "CareRulesLaw" code t && ab_ckB 259 t) = true := by decide +kernel
set_option maxRecDepth 40000 in
theorem ab_okL_10 : (cd_Law_law_10.all fun t => ab_ck "CareRulesLaw" code t && ab_ckB 259 t) = true := by decide +kernel
theorem ab_okL : ab_okM 259 = true := by
  show (cd_Law_law.all fun t => ab_ck "CareRulesLaw" code t && ab_ckB 259 t) = true
  unfold cd_Law_law
  simp only [List.all_append, ab_okL_0, ab_okL_1, ab_okL_2, ab_okL_3, ab_okL_4, ab_okL_5, ab_okL_6, ab_okL_7, ab_okL_8, ab_okL_9, ab_okL_10, Bool.and_self]
