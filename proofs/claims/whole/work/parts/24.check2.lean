/-! ===== every row of every method is right, 2 ===== -/
set_option maxRecDepth 20000 in
theorem ab_ok_148 : ∀ N, 148 ≤ N → N < 159 → ab_okM N = true := by
  have h : ((List.range 11).all fun k => ab_okM (148 + k)) = true := by decide +kernel
  intro N h1 h2
  have h3 := List.all_eq_true.mp h (N - 148) (List.mem_range.mpr (by omega))
  rw [show 148 + (N - 148) = N by omega] at h3
  exact h3
set_option maxRecDepth 20000 in
theorem ab_ok_159 : ∀ N, 159 ≤ N → N < 168 → ab_okM N = true := by
  have h : ((List.range 9).all fun k => ab_okM (159 + k)) = true := by decide +kernel
  intro N h1 h2
  have h3 := List.all_eq_true.mp h (N - 159) (List.mem_range.mpr (by omega))
  rw [show 159 + (N - 159) = N by omega] at h3
  exact h3
set_option maxRecDepth 20000 in
theorem ab_ok_168 : ∀ N, 168 ≤ N → N < 182 → ab_okM N = true := by
  have h : ((List.range 14).all fun k => ab_okM (168 + k)) = true := by decide +kernel
  intro N h1 h2
  have h3 := List.all_eq_true.mp h (N - 168) (List.mem_range.mpr (by omega))
  rw [show 168 + (N - 168) = N by omega] at h3
  exact h3
set_option maxRecDepth 20000 in
theorem ab_ok_182 : ∀ N, 182 ≤ N → N < 192 → ab_okM N = true := by
  have h : ((List.range 10).all fun k => ab_okM (182 + k)) = true := by decide +kernel
  intro N h1 h2
  have h3 := List.all_eq_true.mp h (N - 182) (List.mem_range.mpr (by omega))
  rw [show 182 + (N - 182) = N by omega] at h3
  exact h3
set_option maxRecDepth 20000 in
theorem ab_ok_192 : ∀ N, 192 ≤ N → N < 202 → ab_okM N = true := by
  have h : ((List.range 10).all fun k => ab_okM (192 + k)) = true := by decide +kernel
  intro N h1 h2
  have h3 := List.all_eq_true.mp h (N - 192) (List.mem_range.mpr (by omega))
  rw [show 192 + (N - 192) = N by omega] at h3
  exact h3
set_option maxRecDepth 20000 in
theorem ab_ok_202 : ∀ N, 202 ≤ N → N < 209 → ab_okM N = true := by
  have h : ((List.range 7).all fun k => ab_okM (202 + k)) = true := by decide +kernel
  intro N h1 h2
  have h3 := List.all_eq_true.mp h (N - 202) (List.mem_range.mpr (by omega))
  rw [show 202 + (N - 202) = N by omega] at h3
  exact h3
set_option maxRecDepth 20000 in
theorem ab_ok_209 : ∀ N, 209 ≤ N → N < 219 → ab_okM N = true := by
  have h : ((List.range 10).all fun k => ab_okM (209 + k)) = true := by decide +kernel
  intro N h1 h2
  have h3 := List.all_eq_true.mp h (N - 209) (List.mem_range.mpr (by omega))
  rw [show 209 + (N - 209) = N by omega] at h3
  exact h3
set_option maxRecDepth 20000 in
theorem ab_ok_219 : ∀ N, 219 ≤ N → N < 228 → ab_okM N = true := by
  have h : ((List.range 9).all fun k => ab_okM (219 + k)) = true := by decide +kernel
  intro N h1 h2
  have h3 := List.all_eq_true.mp h (N - 219) (List.mem_range.mpr (by omega))
  rw [show 219 + (N - 219) = N by omega] at h3
  exact h3
set_option maxRecDepth 20000 in
theorem ab_ok_228 : ∀ N, 228 ≤ N → N < 237 → ab_okM N = true := by
  have h : ((List.range 9).all fun k => ab_okM (228 + k)) = true := by decide +kernel
  intro N h1 h2
  have h3 := List.all_eq_true.mp h (N - 228) (List.mem_range.mpr (by omega))
  rw [show 228 + (N - 228) = N by omega] at h3
  exact h3
set_option maxRecDepth 20000 in
theorem ab_ok_237 : ∀ N, 237 ≤ N → N < 243 → ab_okM N = true := by
  have h : ((List.range 6).all fun k => ab_okM (237 + k)) = true := by decide +kernel
  intro N h1 h2
  have h3 := List.all_eq_true.mp h (N - 237) (List.mem_range.mpr (by omega))
  rw [show 237 + (N - 237) = N by omega] at h3
  exact h3
set_option maxRecDepth 20000 in
theorem ab_ok_243 : ∀ N, 243 ≤ N → N < 251 → ab_okM N = true := by
  have h : ((List.range 8).all fun k => ab_okM (243 + k)) = true := by decide +kernel
  intro N h1 h2
  have h3 := List.all_eq_true.mp h (N - 243) (List.mem_range.mpr (by omega))
  rw [show 243 + (N - 243) = N by omega] at h3
  exact h3
set_option maxRecDepth 20000 in
theorem ab_ok_251 : ∀ N, 251 ≤ N → N < 259 → ab_okM N = true := by
  have h : ((List.range 8).all fun k => ab_okM (251 + k)) = true := by decide +kernel
  intro N h1 h2
  have h3 := List.all_eq_true.mp h (N - 251) (List.mem_range.mpr (by omega))
  rw [show 251 + (N - 251) = N by omega] at h3
  exact h3
theorem ab_oks (N : Nat) (h : N < 259) : ab_okM N = true := by
  by_cases h0 : N < 14
  · exact ab_ok_0 N (by omega) h0
  by_cases h14 : N < 32
  · exact ab_ok_14 N (by omega) h14
  by_cases h32 : N < 51
  · exact ab_ok_32 N (by omega) h32
  by_cases h51 : N < 62
  · exact ab_ok_51 N (by omega) h51
  by_cases h62 : N < 76
  · exact ab_ok_62 N (by omega) h62
  by_cases h76 : N < 87
  · exact ab_ok_76 N (by omega) h76
  by_cases h87 : N < 102
  · exact ab_ok_87 N (by omega) h87
  by_cases h102 : N < 111
  · exact ab_ok_102 N (by omega) h102
  by_cases h111 : N < 121
  · exact ab_ok_111 N (by omega) h111
  by_cases h121 : N < 128
  · exact ab_ok_121 N (by omega) h121
  by_cases h128 : N < 137
  · exact ab_ok_128 N (by omega) h128
  by_cases h137 : N < 148
  · exact ab_ok_137 N (by omega) h137
  by_cases h148 : N < 159
  · exact ab_ok_148 N (by omega) h148
  by_cases h159 : N < 168
  · exact ab_ok_159 N (by omega) h159
  by_cases h168 : N < 182
  · exact ab_ok_168 N (by omega) h168
  by_cases h182 : N < 192
  · exact ab_ok_182 N (by omega) h182
  by_cases h192 : N < 202
  · exact ab_ok_192 N (by omega) h192
  by_cases h202 : N < 209
  · exact ab_ok_202 N (by omega) h202
  by_cases h209 : N < 219
  · exact ab_ok_209 N (by omega) h209
  by_cases h219 : N < 228
  · exact ab_ok_219 N (by omega) h219
  by_cases h228 : N < 237
  · exact ab_ok_228 N (by omega) h228
  by_cases h237 : N < 243
  · exact ab_ok_237 N (by omega) h237
  by_cases h243 : N < 251
  · exact ab_ok_243 N (by omega) h243
  by_cases h251 : N < 259
  · exact ab_ok_251 N (by omega) h251
  omega
