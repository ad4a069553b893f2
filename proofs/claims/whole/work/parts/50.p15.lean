/-! ===== one more rule on both sides ===== -/
theorem stA_count {c p q o x y e w : Nat → Int32} {k : Int32} {nu pr ga : Nat → Int32} (h : stA c p q o x y e w k nu pr ga) {n : Nat} (hn : n < 20) : stA c p q o x y e w (nI (n + 1)) (fr nu 4 (nI (n + 1))) pr ga := by
  obtain ⟨⟨⟨h1, h2, h3, h4, h5⟩, h6, h7, h8, h9, h10⟩, h11, h15, h16⟩ := h
  refine ⟨⟨⟨h1, h2, h3, h4, rfl⟩, h6, h7, h8, h9, nI_rg (by omega) (by omega)⟩, h11, ⟨fun j hj => ?_, h15.2⟩, fun k hk => ?_, fun k hk => ?_⟩
  · rw [fr_ne (by omega)]; exact h15.1 j hj
  · rw [fr_ne (by omega)]; exact h16.1 k hk
  · rw [fr_ne (by omega)]; exact h16.2 k hk
theorem gx_tab128 : ∀ q ∈ gx_tab, q.1 < 128 := by decide
theorem gx_ref128 : ∀ q ∈ gx_ref, q.1 < 128 ∧ q.1 ≠ 41 := by decide
section P15
variable {SL : Nat} {xs : Nat → Int32} {g g' : ab_G} {I I0 I1 : ab_I} {J J' : ab_J}
theorem REL_add (hR : REL SL xs g I J) (hN : nr g g' I I0 J J') {k : Nat} (hk : k < 20) (hc : I 103 4 = nI k)
    (hI : ∀ q, q < 128 → q ≠ 30 → q ≠ 103 → q ≠ 106 → q ≠ 107 → I1 q = I q) (h33 : I1 30 7 = nI (k + 1)) (h103 : I1 103 = fr (I 103) 4 (nI (k + 1))) (h106 : ∀ y, y < 4 * k → I1 106 y = I 106 y) (h107 : ∀ y, (y < 125 * k ∨ 2500 ≤ y) → I1 107 y = I 107 y)
    (hD : ∀ q, 128 ≤ q → q < ab_n g → I1 q = I q) (hr : rlOK (ab_setR g' 41 k (some (ab_n g))) I1 (ab_n g) k (I1 106) (I1 107)) : REL SL xs (ab_setR g' 41 k (some (ab_n g))) I1 J' := by
  obtain ⟨n1, n2, n3, n4, n5, n6, n7, n8⟩ := hN
  have hn : 128 ≤ ab_n g := hR.1.1.2.2
  have hz := hR.1.2.1
  have hE : ex g (ab_setR g' 41 k (some (ab_n g))) I I1 := by
    intro q hq ht
    have hl : q < ab_n g := Nat.lt_of_not_le fun z => ht (hz q z)
    exact ⟨(n7 q hl).1, (n7 q hl).2.1, fun f => by rw [R_set_ne (by omega), (n7 q hl).2.2.1], hD q hq hl⟩
  have hRq : ∀ q, q < 128 → q ≠ 41 → ab_R (ab_setR g' 41 k (some (ab_n g))) q = ab_R g q := fun q hq h4 => by rw [R_set_ne h4, (n7 q (by omega)).2.2.1]
  have hR44 : ab_R (ab_setR g' 41 k (some (ab_n g))) 41 = fr (ab_R g 41) k (some (ab_n g)) := by rw [R_set_row, (n7 41 (by omega)).2.2.1]
  have hJ : ∀ q, q < 128 → J' q = J q := fun q hq => (n7 q (by omega)).2.2.2.2
  have hcl : (I 103 4).toNatClampNeg = k := by rw [hc, nI_clamp (by omega)]
  have hro := hR.1.2.2.2
  refine ⟨⟨⟨fun q hq => ?_, fun q hq => ?_, ?_⟩, fun q hq => ?_, fun q hq => ?_, ?_, ?_⟩, ⟨?_, ?_, ?_⟩, ⟨?_, ?_, ?_⟩, ⟨?_, ?_⟩, ?_, ?_⟩
  · have := gx_tab128 q hq
    rw [ty_set, ln_set, (n7 q.1 (by omega)).1, (n7 q.1 (by omega)).2.1]
    exact hR.1.1.1 q hq
  · have := gx_ref128 q hq
    rw [hRq q.1 this.1 this.2]
    exact hR.1.1.2.1 q hq
  · show 128 ≤ ab_n g'
    omega
  · rw [ty_set]
    have : ab_n g + 3 ≤ q := by rw [← n1]; exact hq
    rw [n8 q this]
    exact hz q (by omega)
  · have l := hR.1.2.2.1 q hq
    rw [ty_set, ln_set, (n7 q (by omega)).1, (n7 q (by omega)).2.1, hRq q (by omega) (by omega), hI q (by omega) (by omega) (by omega) (by omega) (by omega)]
    exact l
  · rw [hR44]
    intro i hi
    by_cases e : i = k
    · subst e
      exact Or.inr ⟨ab_n g, fr_eq, hn, n2⟩
    · rw [fr_ne e]
      exact ex_roK hE hro.1 i hi
  · rw [hRq 53 (by decide) (by decide)]
    exact ex_roK hE hro.2
  · rw [hI 31 (by decide) (by decide) (by decide) (by decide) (by decide), hI 33 (by decide) (by decide) (by decide) (by decide) (by decide), hI 34 (by decide) (by decide) (by decide) (by decide) (by decide), hI 35 (by decide) (by decide) (by decide) (by decide) (by decide), hI 37 (by decide) (by decide) (by decide) (by decide) (by decide), hI 38 (by decide) (by decide) (by decide) (by decide) (by decide), hI 39 (by decide) (by decide) (by decide) (by decide) (by decide), hI 40 (by decide) (by decide) (by decide) (by decide) (by decide), hI 104 (by decide) (by decide) (by decide) (by decide) (by decide), hI 105 (by decide) (by decide) (by decide) (by decide) (by decide), h33, h103]
    exact stA_count hR.2.1.1 hk
  · rw [hR44, h103, fr_eq]
    have hs := hR.2.1.2.1
    intro i hi
    rw [nI_clamp (by omega)] at hi
    by_cases e : i = k
    · subst e
      exact ⟨ab_n g, fr_eq, hr⟩
    · have hik : i < (I 103 4).toNatClampNeg := by rw [hcl]; omega
      obtain ⟨r, q1, q2⟩ := hs i hik
      refine ⟨r, by rw [fr_ne e]; exact q1, ex_rlOK hE (rlOK_ext ⟨fun y hy => h106 y (by omega), fun y hy => h107 y (Or.inl (by omega))⟩ (fun j hj => stR_rw hs (by omega)) q2)⟩
  · rw [hRq 30 (by decide) (by decide), h103, fr_ne (by decide)]
    exact ex_stH hE (stH_ext (fun y hy => h107 _ (Or.inr (by omega))) hR.2.1.2.2)
  · rw [hI 29 (by decide) (by decide) (by decide) (by decide) (by decide), hI 101 (by decide) (by decide) (by decide) (by decide) (by decide)]
    exact hR.2.2.1.1
  · rw [hI 101 (by decide) (by decide) (by decide) (by decide) (by decide)]
    exact hR.2.2.1.2.1
  · rw [hI 101 (by decide) (by decide) (by decide) (by decide) (by decide)]
    intro q
    have hK := hR.2.2.1.2.2 q
    rw [hRq 53 (by decide) (by decide), hRq 42 (by decide) (by decide), hI 108 (by decide) (by decide) (by decide) (by decide) (by decide), hI 109 (by decide) (by decide) (by decide) (by decide) (by decide), hI 110 (by decide) (by decide) (by decide) (by decide) (by decide), hI 111 (by decide) (by decide) (by decide) (by decide) (by decide), hI 112 (by decide) (by decide) (by decide) (by decide) (by decide), hI 42 (by decide) (by decide) (by decide) (by decide) (by decide), hI 43 (by decide) (by decide) (by decide) (by decide) (by decide), hI 45 (by decide) (by decide) (by decide) (by decide) (by decide), hI 46 (by decide) (by decide) (by decide) (by decide) (by decide), hI 47 (by decide) (by decide) (by decide) (by decide) (by decide), hI 49 (by decide) (by decide) (by decide) (by decide) (by decide), hI 50 (by decide) (by decide) (by decide) (by decide) (by decide), hI 51 (by decide) (by decide) (by decide) (by decide) (by decide), hI 52 (by decide) (by decide) (by decide) (by decide) (by decide)]
    exact ⟨hK.1, ex_stR hE hK.2.1, ex_stH hE hK.2.2⟩
  · rw [hI 54 (by decide) (by decide) (by decide) (by decide) (by decide), hI 55 (by decide) (by decide) (by decide) (by decide) (by decide), hI 101 (by decide) (by decide) (by decide) (by decide) (by decide), hI 113 (by decide) (by decide) (by decide) (by decide) (by decide)]
    exact hR.2.2.2.1.1
  · rw [hI 100 (by decide) (by decide) (by decide) (by decide) (by decide), hI 102 (by decide) (by decide) (by decide) (by decide) (by decide)]
    exact hR.2.2.2.1.2
  · rw [hI 92 (by decide) (by decide) (by decide) (by decide) (by decide), hI 94 (by decide) (by decide) (by decide) (by decide) (by decide), hI 96 (by decide) (by decide) (by decide) (by decide) (by decide), hI 98 (by decide) (by decide) (by decide) (by decide) (by decide), hI 125 (by decide) (by decide) (by decide) (by decide) (by decide), hI 126 (by decide) (by decide) (by decide) (by decide) (by decide), hJ 93 (by decide), hJ 95 (by decide), hJ 97 (by decide), hJ 99 (by decide), hJ 127 (by decide)]
    exact hR.2.2.2.2.1
  · rw [hRq 61 (by decide) (by decide), hI 61 (by decide) (by decide) (by decide) (by decide) (by decide), hI 62 (by decide) (by decide) (by decide) (by decide) (by decide), hI 63 (by decide) (by decide) (by decide) (by decide) (by decide), hI 64 (by decide) (by decide) (by decide) (by decide) (by decide), hI 65 (by decide) (by decide) (by decide) (by decide) (by decide)]
    exact ex_caOK hE hR.2.2.2.2.2
end P15
