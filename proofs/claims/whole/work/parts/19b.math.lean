/-! ===== Math.max, min: the kit's own rows ===== -/
def ab_isMath (N : Nat) : Bool := N == 35 || N == 40 || N == 113 || N == 210
section MATH
variable {d : Nat} {g : ab_G} {I : ab_I} {J : ab_J} {Q : ab_Q}
theorem ab_two {As : List ab_V} (h : As.length = 2) : ∃ v w, As = [v, w] := by
  match As, h with
  | [v, w], _ => exact ⟨v, w, rfl⟩
/-- the first instruction is iload_0 -/
theorem mx_ii {N : Nat} {c : List ab_T} {v w : ab_V} (hm : ab_cdm N = c) (h0 : ab_find c 0 = some (0, .iload_n 0, 1, 0, 0, [])) (h1 : ab_find c 1 = some (1, .iload_n 1, 1, 0, 0, [])) (hN : N < 260) (hn : (ab_meth N).2.2.1 = 2) (h : ab_run (d + 1) N [v, w] g I J Q) : ∃ x y, v = vI x ∧ w = vI y := by
  obtain ⟨-, -, h⟩ := h
  rw [hn] at h
  have h2 := (ab_E_at (d := d) (Q := Q) hm h0).mp h
  rcases v with x | x | x
  · have h3 := (ab_E_at (d := d) (Q := Q) hm h1).mp h2
    rcases w with y | y | y
    · exact ⟨x, y, rfl, rfl⟩
    · exact h3.elim
    · exact h3.elim
  · exact h2.elim
  · exact h2.elim
theorem mx_ll {N : Nat} {c : List ab_T} {v w : ab_V} (hm : ab_cdm N = c) (h0 : ab_find c 0 = some (0, .lload_n 0, 1, 0, 0, [])) (h1 : ab_find c 1 = some (1, .lload_n 2, 1, 0, 0, [])) (hN : N < 260) (hn : (ab_meth N).2.2.1 = 4) (h : ab_run (d + 1) N [v, w] g I J Q) : ∃ x y, v = vL x ∧ w = vL y := by
  obtain ⟨-, -, h⟩ := h
  rw [hn] at h
  have h2 := (ab_E_at (d := d) (Q := Q) hm h0).mp h
  rcases v with x | x | x
  · exact h2.elim
  · have h3 := (ab_E_at (d := d) (Q := Q) hm h1).mp h2
    rcases w with y | y | y
    · exact h3.elim
    · exact ⟨x, y, rfl, rfl⟩
    · exact h3.elim
  · exact h2.elim
theorem c_Math_min {x y : Int32} : ab_run (d + 1) 35 [vI x, vI y] g I J Q ↔ Q (some (vI (if y < x then y else x))) g I J := by
  rw [e35]
  simp only [k35_0, k35_1, k35_2, k35_5, k35_6, k35_9, k35_10]
  by_cases h : y < x <;> simp [h]
theorem c_Math_max {x y : Int32} : ab_run (d + 1) 40 [vI x, vI y] g I J Q ↔ Q (some (vI (if x < y then y else x))) g I J := by
  rw [e40]
  simp only [k40_0, k40_1, k40_2, k40_5, k40_6, k40_9, k40_10]
  by_cases h : x < y <;> simp [h]
theorem c_Math_max_l {x y : Int64} : ab_run (d + 1) 113 [vL x, vL y] g I J Q ↔ Q (some (vL (if y < x then x else y))) g I J := by
  rw [e113]
  simp only [k113_0, k113_1, k113_2, k113_3, k113_6, k113_7, k113_10, k113_11, lg_cmp_lt]
  by_cases h : x < y
  · rw [if_pos h, if_neg (Int64.not_lt.mpr (Int64.le_of_lt h))]
  · rw [if_neg h]
    by_cases h2 : y < x
    · rw [if_pos h2]
    · rw [if_neg h2, show x = y from Int64.le_antisymm (Int64.not_lt.mp h2) (Int64.not_lt.mp h)]
theorem c_Math_min_l {x y : Int64} : ab_run (d + 1) 210 [vL x, vL y] g I J Q ↔ Q (some (vL (if y < x then y else x))) g I J := by
  rw [e210]
  simp only [k210_0, k210_1, k210_2, k210_3, k210_6, k210_7, k210_10, k210_11, lg_cmp_gt]
  by_cases h : y < x
  · rw [if_pos h, if_pos h]
  · rw [if_neg h, if_neg h]
end MATH
section MATHW
variable {p : Program} {l : Launch} {e : Env} {R : Room} {s : State} {m : MethodId} {args : Array Value} {below : List Frame} {meth : Method} {c : Code} {Qm : State → Prop}
variable {base : Nat} {H0 : Heap} {sp : Nat → Nat} {D : va_G} {cA : Nat → ClassId} {SL : Nat} {xs : Nat → Int32} {cc : ByteArray} {own : String}
theorem mw_max : Cond.code Lib.Math.max.name Lib.Math.max.code 2 (some .int) ∈ tables_1 := by decide +kernel
theorem mw_min : Cond.code Lib.Math.min.name Lib.Math.min.code 2 (some .int) ∈ tables_1 := by decide +kernel
theorem mw_maxl : Cond.code Lib.MathLoose.max_long.x Lib.MathLoose.max_long.code 4 (some .long) ∈ tables_1 := by decide +kernel
theorem mw_minl : Cond.code Lib.MathLoose.min_long.x Lib.MathLoose.min_long.code 4 (some .long) ∈ tables_1 := by decide +kernel
theorem mw_s : Cond.static Lib.Math.max.name ∈ tables_1 ∧ Cond.static Lib.Math.min.name ∈ tables_1 ∧ Cond.static Lib.MathLoose.max_long.x ∈ tables_1 ∧ Cond.static Lib.MathLoose.min_long.x ∈ tables_1 ∧ Cond.initialized "java/lang/Math" ∈ tables_1 := by decide +kernel
theorem ab_so_math (B : ab_Bd p s m args c base H0 sp D cA SL xs cc own) {d : Nat} {mc ms rt pc ln r1 r2 : Nat} {rs : List Nat} {L : ab_L} {st : List ab_V} {ce sl : Nat} {g : ab_G} {I : ab_I} {J : ab_J} {Q : ab_Q} {i : Nat} (hd : decode cc pc = .ok (.invokestatic i, ln)) (hfr : 1 ≤ R.frames) (hlo : 60 ≤ R.locals) (hrc : mc ≤ R.cells) (hrs : ms ≤ R.slots) (h3 : ¬ rs.getD 0 0 = 3) (hln : ln = 3)
    (hmt : ab_isMath r1 = true) (h2 : r2 = 2) (hw : (Cond.methodLink own i (ab_yN r1)).before args s = true)
    (h : ab_st (ab_run d) ab_bud mc ms rt (pc, .invokestatic i, ln, r1, r2, rs) L st ce sl g I J Q (ab_Pk p l e R s m args below meth c base H0 sp D cA SL xs Qm)) : ab_Pk p l e R s m args below meth c base H0 sp D cA SL xs Qm pc L st ce sl g I J := by
  subst hln
  subst h2
  change (if rs.getD 0 0 = 3 then _ else _) at h
  rw [if_neg h3] at h
  obtain ⟨hlen, hcs, hb1, hb2, h⟩ := h
  obtain ⟨v, w, hv⟩ := ab_two (As := (st.take 2).reverse) (by rw [List.length_reverse, List.length_take]; omega)
  rw [hv] at h
  generalize hrest : st.drop 2 = rest at h hcs
  have hst : st = w :: v :: rest := by
    have h9 : st = ((st.take 2).reverse).reverse ++ st.drop 2 := by rw [List.reverse_reverse, List.take_append_drop]
    rw [hv, hrest] at h9
    exact h9
  subst hst
  cases d with
  | zero => exact h.elim
  | succ d =>
  intro hL H locs ls hR hl hq
  have hml : c.maxLocals = ls.size := by rw [hl.1]; exact hL.symm
  have hsum : ((rest.map (ab_cv base sp)).map fun v => v.category).sum = ab_cs rest := ab_cs_cv rest
  have hin : (Cond.initialized "java/lang/Math").before args s = true := B.2.2.2.1 _ (ab_t1_ws mw_s.2.2.2.2 rfl)
  unfold ab_isMath at hmt
  simp only [Bool.or_eq_true, beq_iff_eq] at hmt
  rcases hmt with ((rfl | rfl) | rfl) | rfl
  · obtain ⟨x, y, rfl, rfl⟩ := mx_ii m35 rfl rfl (by decide) rfl h
    rw [c_Math_min] at h
    exact va_mmin B.1 B.2.1 hml B.2.2.1 hw (B.2.2.2.1 _ (ab_t1_ws mw_s.2.1 rfl)) hin (B.2.2.2.1 _ (ab_t1_ws mw_min rfl)) hfr (by rw [hsum]; omega) (by rw [b35] at hb1; simp at hb1; omega) (by rw [b35] at hb2; simp at hb2; omega) hd (h hL H locs ls hR hl hq)
  · obtain ⟨x, y, rfl, rfl⟩ := mx_ii m40 rfl rfl (by decide) rfl h
    rw [c_Math_max] at h
    exact va_mmax B.1 B.2.1 hml B.2.2.1 hw (B.2.2.2.1 _ (ab_t1_ws mw_s.1 rfl)) hin (B.2.2.2.1 _ (ab_t1_ws mw_max rfl)) hfr (by rw [hsum]; omega) (by rw [b40] at hb1; simp at hb1; omega) (by rw [b40] at hb2; simp at hb2; omega) hd (h hL H locs ls hR hl hq)
  · obtain ⟨x, y, rfl, rfl⟩ := mx_ll m113 rfl rfl (by decide) rfl h
    rw [c_Math_max_l] at h
    exact va_mmax_long B.1 B.2.1 hml B.2.2.1 hw (B.2.2.2.1 _ (ab_t1_ws mw_s.2.2.1 rfl)) hin (B.2.2.2.1 _ (ab_t1_ws mw_maxl rfl)) hfr (by rw [hsum]; omega) (by rw [b113] at hb1; simp at hb1; omega) (by rw [b113] at hb2; simp at hb2; omega) hd (h hL H locs ls hR hl hq)
  · obtain ⟨x, y, rfl, rfl⟩ := mx_ll m210 rfl rfl (by decide) rfl h
    rw [c_Math_min_l] at h
    exact va_mmin_long B.1 B.2.1 hml B.2.2.1 hw (B.2.2.2.1 _ (ab_t1_ws mw_s.2.2.2.1 rfl)) hin (B.2.2.2.1 _ (ab_t1_ws mw_minl rfl)) hfr (by rw [hsum]; omega) (by rw [b210] at hb1; simp at hb1; omega) (by rw [b210] at hb2; simp at hb2; omega) hd (h hL H locs ls hR hl hq)
end MATHW
