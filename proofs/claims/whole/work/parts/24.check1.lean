/-! ===== every row of every method is right ===== -/
set_option maxRecDepth 20000 in
theorem ab_ok_0 : ∀ N, 0 ≤ N → N < 14 → ab_okM N = true := by
  have h : ((List.range 14).all fun k => ab_okM (0 + k)) = true := by decide +kernel
  intro N h1 h2
  have h3 := List.all_eq_true.mp h (N - 0) (List.mem_range.mpr (by omega))
  rw [show 0 + (N - 0) = N by omega] at h3
  exact h3
set_option maxRecDepth 20000 in
theorem ab_ok_14 : ∀ N, 14 ≤ N → N < 32 → ab_okM N = true := by
  have h : ((List.range 18).all fun k => ab_okM (14 + k)) = true := by decide +kernel
  intro N h1 h2
  have h3 := List.all_eq_true.mp h (N - 14) (List.mem_range.mpr (by omega))
  rw [show 14 + (N - 14) = N by omega] at h3
  exact h3
set_option maxRecDepth 20000 in
theorem ab_ok_32 : ∀ N, 32 ≤ N → N < 51 → ab_okM N = true := by
  have h : ((List.range 19).all fun k => ab_okM (32 + k)) = true := by decide +kernel
  intro N h1 h2
  have h3 := List.all_eq_true.mp h (N - 32) (List.mem_range.mpr (by omega))
  rw [show 32 + (N - 32) = N by omega] at h3
  exact h3
set_option maxRecDepth 20000 in
theorem ab_ok_51 : ∀ N, 51 ≤ N → N < 62 → ab_okM N = true := by
  have h : ((List.range 11).all fun k => ab_okM (51 + k)) = true := by decide +kernel
  intro N h1 h2
  have h3 := List.all_eq_true.mp h (N - 51) (List.mem_range.mpr (by omega))
  rw [show 51 + (N - 51) = N by omega] at h3
  exact h3
set_option maxRecDepth 20000 in
theorem ab_ok_62 : ∀ N, 62 ≤ N → N < 76 → ab_okM N = true := by
  have h : ((List.range 14).all fun k => ab_okM (62 + k)) = true := by decide +kernel
  intro N h1 h2
  have h3 := List.all_eq_true.mp h (N - 62) (List.mem_range.mpr (by omega))
  rw [show 62 + (N - 62) = N by omega] at h3
  exact h3
set_option maxRecDepth 20000 in
theorem ab_ok_76 : ∀ N, 76 ≤ N → N < 87 → ab_okM N = true := by
  have h : ((List.range 11).all fun k => ab_okM (76 + k)) = true := by decide +kernel
  intro N h1 h2
  have h3 := List.all_eq_true.mp h (N - 76) (List.mem_range.mpr (by omega))
  rw [show 76 + (N - 76) = N by omega] at h3
  exact h3
set_option maxRecDepth 20000 in
theorem ab_ok_87 : ∀ N, 87 ≤ N → N < 102 → ab_okM N = true := by
  have h : ((List.range 15).all fun k => ab_okM (87 + k)) = true := by decide +kernel
  intro N h1 h2
  have h3 := List.all_eq_true.mp h (N - 87) (List.mem_range.mpr (by omega))
  rw [show 87 + (N - 87) = N by omega] at h3
  exact h3
set_option maxRecDepth 20000 in
theorem ab_ok_102 : ∀ N, 102 ≤ N → N < 111 → ab_okM N = true := by
  have h : ((List.range 9).all fun k => ab_okM (102 + k)) = true := by decide +kernel
  intro N h1 h2
  have h3 := List.all_eq_true.mp h (N - 102) (List.mem_range.mpr (by omega))
  rw [show 102 + (N - 102) = N by omega] at h3
  exact h3
set_option maxRecDepth 20000 in
theorem ab_ok_111 : ∀ N, 111 ≤ N → N < 121 → ab_okM N = true := by
  have h : ((List.range 10).all fun k => ab_okM (111 + k)) = true := by decide +kernel
  intro N h1 h2
  have h3 := List.all_eq_true.mp h (N - 111) (List.mem_range.mpr (by omega))
  rw [show 111 + (N - 111) = N by omega] at h3
  exact h3
set_option maxRecDepth 20000 in
theorem ab_ok_121 : ∀ N, 121 ≤ N → N < 128 → ab_okM N = true := by
  have h : ((List.range 7).all fun k => ab_okM (121 + k)) = true := by decide +kernel
  intro N h1 h2
  have h3 := List.all_eq_true.mp h (N - 121) (List.mem_range.mpr (by omega))
  rw [show 121 + (N - 121) = N by omega] at h3
  exact h3
set_option maxRecDepth 20000 in
theorem ab_ok_128 : ∀ N, 128 ≤ N → N < 137 → ab_okM N = true := by
  have h : ((List.range 9).all fun k => ab_okM (128 + k)) = true := by decide +kernel
  intro N h1 h2
  have h3 := List.all_eq_true.mp h (N - 128) (List.mem_range.mpr (by omega))
  rw [show 128 + (N - 128) = N by omega] at h3
  exact h3
set_option maxRecDepth 20000 in
theorem ab_ok_137 : ∀ N, 137 ≤ N → N < 148 → ab_okM N = true := by
  have h : ((List.range 11).all fun k => ab_okM (137 + k)) = true := by decide +kernel
  intro N h1 h2
  have h3 := List.all_eq_true.mp h (N - 137) (List.mem_range.mpr (by omega))
  rw [show 137 + (N - 137) = N by omega] at h3
  exact h3
