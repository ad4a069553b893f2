/-! ===== what no method changes: the special cells, types, lengths; what a method returns ===== -/
def kp (g0 : ab_G) (I0 : ab_I) (g : ab_G) (I : ab_I) : Prop := (29 ≤ ab_n g0 ∧ ab_n g0 ≤ ab_n g) ∧ (∀ k, k < ab_n g0 → ab_ty g k = ab_ty g0 k ∧ ab_ln g k = ab_ln g0 k) ∧ ∀ k, k < 29 → ab_R g k = ab_R g0 k ∧ I k = I0 k
/-- what is returned is of the method's kind -/
def rty (rt : Nat) (r : Option ab_V) : Prop := (rt = 1 → ∃ x, r = some (vI x)) ∧ (rt = 2 → ∃ x, r = some (vL x))
theorem kp_refl {g : ab_G} {I : ab_I} (h : 29 ≤ ab_n g) : kp g I g I := ⟨⟨h, Nat.le_refl _⟩, fun _ _ => ⟨rfl, rfl⟩, fun _ _ => ⟨rfl, rfl⟩⟩
theorem kp_trans {g g' g'' : ab_G} {I I' I'' : ab_I} (h : kp g I g' I') (k : kp g' I' g'' I'') : kp g I g'' I'' := ⟨⟨h.1.1, Nat.le_trans h.1.2 k.1.2⟩, fun q hq => ⟨(k.2.1 q (Nat.lt_of_lt_of_le hq h.1.2)).1.trans (h.2.1 q hq).1, (k.2.1 q (Nat.lt_of_lt_of_le hq h.1.2)).2.trans (h.2.1 q hq).2⟩, fun q hq => ⟨(k.2.2 q hq).1.trans (h.2.2 q hq).1, (k.2.2 q hq).2.trans (h.2.2 q hq).2⟩⟩
theorem kp_up {g0 g : ab_G} {I0 I : ab_I} {a j : Nat} {v : Int32} (h : kp g0 I0 g I) (ha : 29 ≤ a) : kp g0 I0 g (ab_up I a j v) := ⟨h.1, h.2.1, fun q hq => ⟨(h.2.2 q hq).1, by rw [up_ne (by omega)]; exact (h.2.2 q hq).2⟩⟩
theorem kp_set {g0 g : ab_G} {I0 I : ab_I} {a j : Nat} {o : Option Nat} (h : kp g0 I0 g I) (ha : 29 ≤ a) : kp g0 I0 (ab_setR g a j o) I := ⟨h.1, h.2.1, fun q hq => ⟨by rw [R_set_ne (by omega)]; exact (h.2.2 q hq).1, (h.2.2 q hq).2⟩⟩
theorem kp_cp {g0 g : ab_G} {I0 I : ab_I} {a b s e n : Nat} (h : kp g0 I0 g I) (ha : 29 ≤ b) : kp g0 I0 g (ab_cp I a s b e n) := ⟨h.1, h.2.1, fun q hq => ⟨(h.2.2 q hq).1, by
  rw [← (h.2.2 q hq).2]; funext y; unfold ab_cp; rw [if_neg (by omega)]⟩⟩
theorem kp_mk {g0 g : ab_G} {I0 I : ab_I} {t l : Nat} (h : kp g0 I0 g I) : kp g0 I0 (ab_mk g t l) (ab_z I (ab_n g) (ab_n g + 1) 0) := by
  have h1 := h.1.1
  have h2 := h.1.2
  refine ⟨⟨h1, by rw [n_mk]; omega⟩, fun q hq => ⟨?_, ?_⟩, fun q hq => ⟨?_, ?_⟩⟩
  · rw [ty_mk, if_neg (by omega)]; exact (h.2.1 q hq).1
  · rw [ln_mk, if_neg (by omega)]; exact (h.2.1 q hq).2
  · rw [R_mk_ne (by omega)]; exact (h.2.2 q hq).1
  · rw [z_ne (by omega)]; exact (h.2.2 q hq).2
theorem kp_mk2 {g0 g : ab_G} {I0 I : ab_I} {t t1 a m : Nat} (h : kp g0 I0 g I) : kp g0 I0 (ab_mk2 g t t1 a m) (ab_z I (ab_n g) (ab_n g + 1 + a) 0) := by
  have h1 := h.1.1
  have h2 := h.1.2
  have T : ∀ k, ab_ty (ab_mk2 g t t1 a m) k = if k = ab_n g then t else if ab_n g < k ∧ k < ab_n g + 1 + a then t1 else ab_ty g k := fun k => rfl
  have LN : ∀ k, ab_ln (ab_mk2 g t t1 a m) k = if k = ab_n g then a else if ab_n g < k ∧ k < ab_n g + 1 + a then m else ab_ln g k := fun k => rfl
  have RR : ∀ k f, ab_R (ab_mk2 g t t1 a m) k f = if k = ab_n g then (if f < a then some (ab_n g + 1 + f) else none) else if ab_n g < k ∧ k < ab_n g + 1 + a then none else ab_R g k f := fun k f => rfl
  refine ⟨⟨h1, by show ab_n g0 ≤ ab_n g + 1 + a; omega⟩, fun q hq => ⟨?_, ?_⟩, fun q hq => ⟨?_, ?_⟩⟩
  · rw [T, if_neg (by omega), if_neg (by omega)]; exact (h.2.1 q hq).1
  · rw [LN, if_neg (by omega), if_neg (by omega)]; exact (h.2.1 q hq).2
  · funext f; rw [RR, if_neg (by omega), if_neg (by omega), (h.2.2 q hq).1]
  · rw [z_ne (by omega)]; exact (h.2.2 q hq).2
def kpR (run : ab_Run) : Prop := ∀ N As g I J q q', 29 ≤ ab_n g → (∀ r g' I' J', kp g I g' I' → q r g' I' J' → q' r g' I' J') → run N As g I J q → run N As g I J q'
theorem kp_call {run : ab_Run} (hr : kpR run) {bud : Nat → Nat × Nat} {mc ms N : Nat} {As rest : List ab_V} {pc : Nat} {L : ab_L} {ce sl : Nat} {g g0 : ab_G} {I I0 : ab_I} {J : ab_J} {k k' : ab_K} (K : kp g0 I0 g I) (h : ∀ pc L st ce sl g I J, kp g0 I0 g I → k pc L st ce sl g I J → k' pc L st ce sl g I J) :
    ab_call run bud mc ms N As rest pc L ce sl g I J k → ab_call run bud mc ms N As rest pc L ce sl g I J k' := fun ⟨a, b, c, d⟩ => ⟨a, b, c, hr _ _ _ _ _ _ _ (Nat.le_trans K.1.1 K.1.2) (fun _ _ _ _ K2 q => h _ _ _ _ _ _ _ _ (kp_trans K K2) q) d⟩
theorem kp_st {run : ab_Run} (hr : kpR run) {bud : Nat → Nat × Nat} {mc ms rt : Nat} {t : ab_T} {L : ab_L} {st : List ab_V} {ce sl : Nat} {g g0 : ab_G} {I I0 : ab_I} {J : ab_J} {Q Q' : ab_Q} {k k' : ab_K} (K : kp g0 I0 g I) (hq : ∀ r g I J, kp g0 I0 g I → rty rt r → Q r g I J → Q' r g I J) (h : ∀ pc L st ce sl g I J, kp g0 I0 g I → k pc L st ce sl g I J → k' pc L st ce sl g I J) :
    ab_st run bud mc ms rt t L st ce sl g I J Q k → ab_st run bud mc ms rt t L st ce sl g I J Q' k' := by
  obtain ⟨pc, ins, ln, r1, r2, rs⟩ := t
  have hk : ∀ {pc L st ce sl J}, k pc L st ce sl g I J → k' pc L st ce sl g I J := fun q => h _ _ _ _ _ _ _ _ K q
  cases ins
  case iconst => exact hk
  case bipush => exact hk
  case sipush => exact hk
  case lconst => exact hk
  case aconst_null => exact hk
  case ldc => exact ab_ite_m hk (ab_and_m hk)
  case ldc_w => exact ab_and_m hk
  case ldc2_w => exact hk
  case iload => exact ab_get_m fun _ => ab_isI_m fun _ => hk
  case iload_n => exact ab_get_m fun _ => ab_isI_m fun _ => hk
  case lload => exact ab_get_m fun _ => ab_isL_m fun _ => hk
  case lload_n => exact ab_get_m fun _ => ab_isL_m fun _ => hk
  case aload => exact ab_get_m fun _ => ab_isR_m fun _ => hk
  case aload_n => exact ab_get_m fun _ => ab_isR_m fun _ => hk
  case istore => exact ab_and_m (ab_1i_m fun _ _ => hk)
  case istore_n => exact ab_and_m (ab_1i_m fun _ _ => hk)
  case lstore => exact ab_and_m (ab_1l_m fun _ _ => hk)
  case lstore_n => exact ab_and_m (ab_1l_m fun _ _ => hk)
  case astore => exact ab_and_m (ab_1r_m fun _ _ => hk)
  case astore_n => exact ab_and_m (ab_1r_m fun _ _ => hk)
  case iinc => exact ab_and_m (ab_get_m fun _ => ab_isI_m fun _ => hk)
  case dup =>
    cases st with
    | nil => exact id
    | cons v r => exact ab_and_m hk
  case dup2 =>
    cases st with
    | nil => exact id
    | cons v r => cases r with
      | nil => exact id
      | cons w r => exact ab_and_m (ab_and_m hk)
  case pop =>
    cases st with
    | nil => exact id
    | cons v r => exact ab_and_m hk
  case iadd => exact ab_2i_m fun _ _ _ => hk
  case isub => exact ab_2i_m fun _ _ _ => hk
  case imul => exact ab_2i_m fun _ _ _ => hk
  case idiv => exact ab_2i_m fun _ _ _ => ab_and_m hk
  case irem => exact ab_2i_m fun _ _ _ => ab_and_m hk
  case ineg => exact ab_1i_m fun _ _ => hk
  case iand => exact ab_2i_m fun _ _ _ => hk
  case ior => exact ab_2i_m fun _ _ _ => hk
  case ixor => exact ab_2i_m fun _ _ _ => hk
  case ishl => exact ab_2i_m fun _ _ _ => hk
  case ishr => exact ab_2i_m fun _ _ _ => hk
  case iushr => exact ab_2i_m fun _ _ _ => hk
  case ladd => exact ab_2l_m fun _ _ _ => hk
  case lsub => exact ab_2l_m fun _ _ _ => hk
  case lmul => exact ab_2l_m fun _ _ _ => hk
  case land => exact ab_2l_m fun _ _ _ => hk
  case lor => exact ab_2l_m fun _ _ _ => hk
  case lshl => exact ab_li_m fun _ _ _ => hk
  case lcmp => exact ab_2l_m fun _ _ _ => hk
  case i2l => exact ab_1i_m fun _ _ => hk
  case l2i => exact ab_1l_m fun _ _ => hk
  case i2b => exact ab_1i_m fun _ _ => hk
  case i2s => exact ab_1i_m fun _ _ => hk
  case i2c => exact ab_1i_m fun _ _ => hk
  case goto => exact hk
  case ifCond cd _ => exact ab_1i_m fun _ _ => by cases cd <;> exact ab_ite_m hk hk
  case if_icmp cd _ => exact ab_2i_m fun _ _ _ => by cases cd <;> exact ab_ite_m hk hk
  case if_acmp cd _ => exact ab_2r_m fun _ _ _ => ab_and_m (ab_and_m (by cases cd <;> exact ab_ite_m hk hk))
  case ifnull => exact ab_1r_m fun _ _ => ab_ite_m hk hk
  case ifnonnull => exact ab_1r_m fun _ _ => ab_ite_m hk hk
  case tableswitch => exact ab_1i_m fun _ _ => hk
  case lookupswitch => exact ab_1i_m fun _ _ => hk
  case arraylength => exact ab_1a_m fun _ _ => ab_and_m (ab_and_m hk)
  case iaload => exact ab_ai_m fun _ _ _ => ab_and_m (ab_and_m hk)
  case baload => exact ab_ai_m fun _ _ _ => ab_and_m (ab_and_m hk)
  case laload => exact ab_ai_m fun _ _ _ => ab_and_m (ab_and_m hk)
  case aaload => exact ab_ai_m fun _ _ _ => ab_and_m (ab_and_m (ab_and_m hk))
  case iastore => exact ab_1i_m fun _ _ => ab_ai_m fun _ _ _ => fun ⟨z1, z2, z3, z4⟩ => ⟨z1, z2, z3, h _ _ _ _ _ _ _ _ (kp_up K z1) z4⟩
  case lastore => exact ab_1l_m fun _ _ => ab_ai_m fun _ _ _ => ab_and_m (ab_and_m (ab_and_m hk))
  case aastore => exact ab_1r_m fun _ _ => ab_ai_m fun _ _ _ => fun ⟨z1, z2, z3, z4⟩ => ⟨z1, z2, z3, h _ _ _ _ _ _ _ _ (kp_set K z1) z4⟩
  case getfield => exact ab_1a_m fun _ _ => ab_and_m (ab_sel_m hk hk hk)
  case putfield => exact ab_sel_m (ab_1i_m fun _ _ => ab_1a_m fun _ _ => fun ⟨z1, z2, z3, z4⟩ => ⟨z1, z2, z3, h _ _ _ _ _ _ _ _ (kp_up K z1) z4⟩) (ab_1l_m fun _ _ => ab_1a_m fun _ _ => ab_and_m (ab_and_m hk)) (ab_1r_m fun _ _ => ab_1a_m fun _ _ => fun ⟨z1, z2, z3⟩ => ⟨z1, z2, h _ _ _ _ _ _ _ _ (kp_set K z1) z3⟩)
  case getstatic => exact ab_sel_m hk hk (fun z o => hk (z o))
  case new => exact ab_and_m (ab_and_m (h _ _ _ _ _ _ _ _ (kp_mk K)))
  case newarray ty => exact ab_1i_m fun _ _ => ab_and_m (ab_and_m (ab_and_m (ab_and_m (by cases ty <;> first | exact h _ _ _ _ _ _ _ _ (kp_mk K) | exact id))))
  case anewarray => exact ab_1i_m fun _ _ => ab_and_m (ab_and_m (ab_and_m (ab_and_m (h _ _ _ _ _ _ _ _ (kp_mk K)))))
  case multianewarray => exact ab_2i_m fun _ _ _ => ab_and_m (ab_and_m (ab_and_m (ab_and_m (ab_and_m (ab_and_m (h _ _ _ _ _ _ _ _ (kp_mk2 K)))))))
  case invokestatic => exact ab_ite_m (ab_acp_m fun _ _ _ _ _ _ => fun ⟨z1, z2, z3, z4⟩ => ⟨z1, z2, z3, ab_and_m (ab_and_m (ab_and_m (ab_and_m (ab_and_m (Or.imp (ab_and_m (ab_and_m (h _ _ _ _ _ _ _ _ (kp_cp K z3)))) (ab_and_m (ab_and_m hk))))))) z4⟩) (ab_pop_m fun _ _ => kp_call hr K h)
  case invokespecial => exact ab_ite_m (ab_1a_m fun _ _ => ab_and_m hk) (ab_pop_m fun _ _ => ab_and_m (kp_call hr K h))
  case invokevirtual => exact ab_pop_m fun _ _ => ab_and_m (kp_call hr K h)
  case ireturn => exact ab_oi_m fun x z => ⟨z.1, z.2.1, z.2.2.1, hq _ _ _ _ K ⟨fun _ => ⟨x, rfl⟩, fun e => absurd z.2.2.1 (by rw [e]; simp)⟩ z.2.2.2⟩
  case lreturn => exact ab_ol_m fun x z => ⟨z.1, z.2.1, z.2.2.1, hq _ _ _ _ K ⟨fun e => absurd z.2.2.1 (by rw [e]; decide), fun _ => ⟨x, rfl⟩⟩ z.2.2.2⟩
  case areturn => exact ab_or_m fun x z => ⟨z.1, z.2.1, z.2.2.1, hq _ _ _ _ K ⟨fun e => absurd z.2.2.1 (by rw [e]; decide), fun e => absurd z.2.2.1 (by rw [e]; decide)⟩ z.2.2.2⟩
  case return_ => exact ab_on_m fun z => ⟨z.1, z.2.1, z.2.2.1, hq _ _ _ _ K ⟨fun e => absurd z.2.2.1 (by rw [e]; decide), fun e => absurd z.2.2.1 (by rw [e]; decide)⟩ z.2.2.2⟩
  all_goals exact id
theorem kp_lfp {run : ab_Run} (hm : ab_monoR run) (hr : kpR run) {bud : Nat → Nat × Nat} {mc ms rt : Nat} {c : List ab_T} {Q Q' : ab_Q} {g0 : ab_G} {I0 : ab_I} (hq : ∀ r g I J, kp g0 I0 g I → rty rt r → Q r g I J → Q' r g I J) {pc : Nat} {L : ab_L} {st : List ab_V} {ce sl : Nat} {g : ab_G} {I : ab_I} {J : ab_J} (K : kp g0 I0 g I)
    (h : ab_lfp run bud mc ms rt c Q pc L st ce sl g I J) : ab_lfp run bud mc ms rt c Q' pc L st ce sl g I J := by
  refine h (fun pc L st ce sl g I J => kp g0 I0 g I → ab_lfp run bud mc ms rt c Q' pc L st ce sl g I J) (fun pc L st ce sl g I J h2 K => ?_) K
  refine (ab_lfp_step hm).mpr ?_
  revert h2
  cases ab_find c pc with
  | none => exact id
  | some t => exact fun h2 => kp_st (k := fun pc L st ce sl g I J => kp g0 I0 g I → ab_lfp run bud mc ms rt c Q' pc L st ce sl g I J) (k' := ab_lfp run bud mc ms rt c Q') hr K hq (fun _ _ _ _ _ _ _ _ K2 q => q K2) h2
theorem kp_run : ∀ d, kpR (ab_run d)
  | 0 => fun _ _ _ _ _ _ _ _ _ h => h
  | d + 1 => fun _ _ _ _ _ _ _ hn hq h => ⟨h.1, h.2.1, kp_lfp (ab_run_m d) (kp_run d) (fun r g I J K _ q => hq r g I J K q) (kp_refl hn) h.2.2⟩
theorem ty_run {d N : Nat} {As : List ab_V} {g : ab_G} {I : ab_I} {J : ab_J} {Q Q' : ab_Q} (hn : 29 ≤ ab_n g) (hq : ∀ r g' I' J', kp g I g' I' → rty (ab_rt (ab_meth N).2.2.2.1) r → Q r g' I' J' → Q' r g' I' J') (h : ab_run (d + 1) N As g I J Q) : ab_run (d + 1) N As g I J Q' := ⟨h.1, h.2.1, kp_lfp (ab_run_m d) (kp_run d) hq (kp_refl hn) h.2.2⟩
theorem prI {d N M : Nat} {As Bs : List ab_V} {SL : Nat} {xs : Nat → Int32} {g : ab_G} {I : ab_I} {J : ab_J} (hn : 29 ≤ ab_n g) (hr : ab_rt (ab_meth N).2.2.2.1 = 1) {Q : ab_Q} (h : ab_run (d + 1) N As g I J (fun r g I J => ab_run (d + 1) M Bs g I J (fun r' g I J => r = r' ∧ REL SL xs g I J))) (hq : ∀ x g' I' J', kp g I g' I' → ab_run (d + 1) M Bs g' I' J' (fun r' g I J => r' = some (vI x) ∧ REL SL xs g I J) → Q (some (vI x)) g' I' J') : ab_run (d + 1) N As g I J Q :=
  ty_run hn (fun r g' I' J' K T q => by
    obtain ⟨x, rfl⟩ := T.1 hr
    exact hq x g' I' J' K (ab_run_m _ _ _ _ _ _ _ _ (fun _ _ _ _ z => ⟨z.1.symm, z.2⟩) q)) h
theorem prL {d N M : Nat} {As Bs : List ab_V} {SL : Nat} {xs : Nat → Int32} {g : ab_G} {I : ab_I} {J : ab_J} (hn : 29 ≤ ab_n g) (hr : ab_rt (ab_meth N).2.2.2.1 = 2) {Q : ab_Q} (h : ab_run (d + 1) N As g I J (fun r g I J => ab_run (d + 1) M Bs g I J (fun r' g I J => r = r' ∧ REL SL xs g I J))) (hq : ∀ x g' I' J', kp g I g' I' → ab_run (d + 1) M Bs g' I' J' (fun r' g I J => r' = some (vL x) ∧ REL SL xs g I J) → Q (some (vL x)) g' I' J') : ab_run (d + 1) N As g I J Q :=
  ty_run hn (fun r g' I' J' K T q => by
    obtain ⟨x, rfl⟩ := T.2 hr
    exact hq x g' I' J' K (ab_run_m _ _ _ _ _ _ _ _ (fun _ _ _ _ z => ⟨z.1.symm, z.2⟩) q)) h
