/-! ===== the methods' words ===== -/
set_option maxRecDepth 20000 in
theorem ab_mok_0 : ∀ N, 0 ≤ N → N < 43 → ab_mok N = true := by
  have h : ((List.range 43).all fun k => ab_mok (0 + k)) = true := by decide +kernel
  intro N h1 h2
  have h3 := List.all_eq_true.mp h (N - 0) (List.mem_range.mpr (by omega))
  rw [show 0 + (N - 0) = N by omega] at h3
  exact h3
set_option maxRecDepth 20000 in
theorem ab_mok_43 : ∀ N, 43 ≤ N → N < 86 → ab_mok N = true := by
  have h : ((List.range 43).all fun k => ab_mok (43 + k)) = true := by decide +kernel
  intro N h1 h2
  have h3 := List.all_eq_true.mp h (N - 43) (List.mem_range.mpr (by omega))
  rw [show 43 + (N - 43) = N by omega] at h3
  exact h3
set_option maxRecDepth 20000 in
theorem ab_mok_86 : ∀ N, 86 ≤ N → N < 129 → ab_mok N = true := by
  have h : ((List.range 43).all fun k => ab_mok (86 + k)) = true := by decide +kernel
  intro N h1 h2
  have h3 := List.all_eq_true.mp h (N - 86) (List.mem_range.mpr (by omega))
  rw [show 86 + (N - 86) = N by omega] at h3
  exact h3
set_option maxRecDepth 20000 in
theorem ab_mok_129 : ∀ N, 129 ≤ N → N < 172 → ab_mok N = true := by
  have h : ((List.range 43).all fun k => ab_mok (129 + k)) = true := by decide +kernel
  intro N h1 h2
  have h3 := List.all_eq_true.mp h (N - 129) (List.mem_range.mpr (by omega))
  rw [show 129 + (N - 129) = N by omega] at h3
  exact h3
set_option maxRecDepth 20000 in
theorem ab_mok_172 : ∀ N, 172 ≤ N → N < 215 → ab_mok N = true := by
  have h : ((List.range 43).all fun k => ab_mok (172 + k)) = true := by decide +kernel
  intro N h1 h2
  have h3 := List.all_eq_true.mp h (N - 172) (List.mem_range.mpr (by omega))
  rw [show 172 + (N - 172) = N by omega] at h3
  exact h3
set_option maxRecDepth 20000 in
theorem ab_mok_215 : ∀ N, 215 ≤ N → N < 256 → ab_mok N = true := by
  have h : ((List.range 41).all fun k => ab_mok (215 + k)) = true := by decide +kernel
  intro N h1 h2
  have h3 := List.all_eq_true.mp h (N - 215) (List.mem_range.mpr (by omega))
  rw [show 215 + (N - 215) = N by omega] at h3
  exact h3
theorem ab_moks (N : Nat) (h : N < 256) : ab_mok N = true := by
  by_cases h0 : N < 43
  · exact ab_mok_0 N (by omega) h0
  by_cases h43 : N < 86
  · exact ab_mok_43 N (by omega) h43
  by_cases h86 : N < 129
  · exact ab_mok_86 N (by omega) h86
  by_cases h129 : N < 172
  · exact ab_mok_129 N (by omega) h129
  by_cases h172 : N < 215
  · exact ab_mok_172 N (by omega) h172
  by_cases h215 : N < 256
  · exact ab_mok_215 N (by omega) h215
  omega
theorem ab_oks (N : Nat) (h : N < 256) : ab_okM N = true := by
  by_cases h0 : N < 14
  · exact ab_ok_0 N (by omega) h0
  by_cases h14 : N < 32
  · exact ab_ok_14 N (by omega) h14
  by_cases h32 : N < 51
  · exact ab_ok_32 N (by omega) h32
  by_cases h51 : N < 62
  · exact ab_ok_51 N (by omega) h51
  by_cases h62 : N < 76
  · exact ab_ok_62 N (by omega) h62
  by_cases h76 : N < 87
  · exact ab_ok_76 N (by omega) h76
  by_cases h87 : N < 102
  · exact ab_ok_87 N (by omega) h87
  by_cases h102 : N < 111
  · exact ab_ok_102 N (by omega) h102
  by_cases h111 : N < 121
  · exact ab_ok_111 N (by omega) h111
  by_cases h121 : N < 128
  · exact ab_ok_121 N (by omega) h121
  by_cases h128 : N < 137
  · exact ab_ok_128 N (by omega) h128
  by_cases h137 : N < 148
  · exact ab_ok_137 N (by omega) h137
  by_cases h148 : N < 159
  · exact ab_ok_148 N (by omega) h148
  by_cases h159 : N < 168
  · exact ab_ok_159 N (by omega) h159
  by_cases h168 : N < 182
  · exact ab_ok_168 N (by omega) h168
  by_cases h182 : N < 192
  · exact ab_ok_182 N (by omega) h182
  by_cases h192 : N < 202
  · exact ab_ok_192 N (by omega) h192
  by_cases h202 : N < 209
  · exact ab_ok_202 N (by omega) h202
  by_cases h209 : N < 219
  · exact ab_ok_209 N (by omega) h209
  by_cases h219 : N < 228
  · exact ab_ok_219 N (by omega) h219
  by_cases h228 : N < 237
  · exact ab_ok_228 N (by omega) h228
  by_cases h237 : N < 243
  · exact ab_ok_237 N (by omega) h237
  by_cases h243 : N < 251
  · exact ab_ok_243 N (by omega) h243
  by_cases h251 : N < 256
  · exact ab_ok_251 N (by omega) h251
  omega
theorem ab_shorts (N : Nat) (h : N < 256) : (ab_meth N).2.2.2.1 ≠ some .short ∧ (ab_meth N).2.2.2.1 ≠ some .float ∧ (ab_meth N).2.2.2.1 ≠ some .double := by
  have hh : ((List.range 256).all fun k => decide ((ab_meth k).2.2.2.1 ≠ some .short ∧ (ab_meth k).2.2.2.1 ≠ some .float ∧ (ab_meth k).2.2.2.1 ≠ some .double)) = true := by decide +kernel
  exact of_decide_eq_true (List.all_eq_true.mp hh N (List.mem_range.mpr h))
