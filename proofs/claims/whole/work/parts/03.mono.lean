/-! ===== the transformer is monotone; the least predicate closed under it ===== -/
def ab_leK (k k' : ab_K) : Prop := ∀ pc L st ce sl g I J, k pc L st ce sl g I J → k' pc L st ce sl g I J
def ab_leQ (q q' : ab_Q) : Prop := ∀ r g I J, q r g I J → q' r g I J
def ab_monoR (run : ab_Run) : Prop := ∀ N As g I J q q', ab_leQ q q' → run N As g I J q → run N As g I J q'
theorem ab_1i_m {st : List ab_V} {f f' : Int32 → List ab_V → Prop} (h : ∀ x r, f x r → f' x r) : ab_1i st f → ab_1i st f' := by
  unfold ab_1i; split
  · exact h _ _
  · exact id
theorem ab_2i_m {st : List ab_V} {f f' : Int32 → Int32 → List ab_V → Prop} (h : ∀ x y r, f x y r → f' x y r) : ab_2i st f → ab_2i st f' := by
  unfold ab_2i; split
  · exact h _ _ _
  · exact id
theorem ab_1l_m {st : List ab_V} {f f' : Int64 → List ab_V → Prop} (h : ∀ x r, f x r → f' x r) : ab_1l st f → ab_1l st f' := by
  unfold ab_1l; split
  · exact h _ _
  · exact id
theorem ab_2l_m {st : List ab_V} {f f' : Int64 → Int64 → List ab_V → Prop} (h : ∀ x y r, f x y r → f' x y r) : ab_2l st f → ab_2l st f' := by
  unfold ab_2l; split
  · exact h _ _ _
  · exact id
theorem ab_li_m {st : List ab_V} {f f' : Int64 → Int32 → List ab_V → Prop} (h : ∀ x y r, f x y r → f' x y r) : ab_li st f → ab_li st f' := by
  unfold ab_li; split
  · exact h _ _ _
  · exact id
theorem ab_1r_m {st : List ab_V} {f f' : Option Nat → List ab_V → Prop} (h : ∀ x r, f x r → f' x r) : ab_1r st f → ab_1r st f' := by
  unfold ab_1r; split
  · exact h _ _
  · exact id
theorem ab_2r_m {st : List ab_V} {f f' : Option Nat → Option Nat → List ab_V → Prop} (h : ∀ x y r, f x y r → f' x y r) : ab_2r st f → ab_2r st f' := by
  unfold ab_2r; split
  · exact h _ _ _
  · exact id
theorem ab_1a_m {st : List ab_V} {f f' : Nat → List ab_V → Prop} (h : ∀ x r, f x r → f' x r) : ab_1a st f → ab_1a st f' := by
  unfold ab_1a; split
  · exact h _ _
  · exact id
theorem ab_ai_m {st : List ab_V} {f f' : Nat → Int32 → List ab_V → Prop} (h : ∀ x y r, f x y r → f' x y r) : ab_ai st f → ab_ai st f' := by
  unfold ab_ai; split
  · exact h _ _ _
  · exact id
theorem ab_get_m {L : ab_L} {i : Nat} {f f' : ab_V → Prop} (h : ∀ x, f x → f' x) : ab_get L i f → ab_get L i f' := by
  unfold ab_get; split
  · exact h _
  · exact id
theorem ab_isI_m {v : ab_V} {f f' : Int32 → Prop} (h : ∀ x, f x → f' x) : ab_isI v f → ab_isI v f' := by
  unfold ab_isI; split
  · exact h _
  · exact id
theorem ab_isL_m {v : ab_V} {f f' : Int64 → Prop} (h : ∀ x, f x → f' x) : ab_isL v f → ab_isL v f' := by
  unfold ab_isL; split
  · exact h _
  · exact id
theorem ab_isR_m {v : ab_V} {f f' : Option Nat → Prop} (h : ∀ x, f x → f' x) : ab_isR v f → ab_isR v f' := by
  unfold ab_isR; split
  · exact h _
  · exact id
theorem ab_oi_m {st : List ab_V} {f f' : Int32 → Prop} (h : ∀ x, f x → f' x) : ab_oi st f → ab_oi st f' := by
  unfold ab_oi; split
  · exact h _
  · exact id
theorem ab_ol_m {st : List ab_V} {f f' : Int64 → Prop} (h : ∀ x, f x → f' x) : ab_ol st f → ab_ol st f' := by
  unfold ab_ol; split
  · exact h _
  · exact id
theorem ab_or_m {st : List ab_V} {f f' : Option Nat → Prop} (h : ∀ x, f x → f' x) : ab_or st f → ab_or st f' := by
  unfold ab_or; split
  · exact h _
  · exact id
theorem ab_on_m {st : List ab_V} {f f' : Prop} (h : f → f') : ab_on st f → ab_on st f' := by
  unfold ab_on; split
  · exact h
  · exact id
theorem ab_sel_m {n : Nat} {a b c a' b' c' : Prop} (h1 : a → a') (h2 : b → b') (h3 : c → c') : ab_sel n a b c → ab_sel n a' b' c' := by
  unfold ab_sel; split
  · exact h1
  · exact h2
  · exact h3
theorem ab_pop_m {n : Nat} {st : List ab_V} {f f' : List ab_V → List ab_V → Prop} (h : ∀ x r, f x r → f' x r) : ab_pop n st f → ab_pop n st f' := fun ⟨a, b⟩ => ⟨a, h _ _ b⟩
theorem ab_acp_m {st : List ab_V} {f f' : Nat → Int32 → Nat → Int32 → Int32 → List ab_V → Prop} (h : ∀ a0 sp a1 dp n r, f a0 sp a1 dp n r → f' a0 sp a1 dp n r) : ab_acp st f → ab_acp st f' := by
  unfold ab_acp; split
  · exact h _ _ _ _ _ _
  · exact id
theorem ab_call_m {run : ab_Run} (hr : ab_monoR run) {bud : Nat → Nat × Nat} {mc ms N : Nat} {As rest : List ab_V} {pc : Nat} {L : ab_L} {ce sl : Nat} {g : ab_G} {I : ab_I} {J : ab_J} {k k' : ab_K} (h : ab_leK k k') :
    ab_call run bud mc ms N As rest pc L ce sl g I J k → ab_call run bud mc ms N As rest pc L ce sl g I J k' := fun ⟨a, b, c, d⟩ => ⟨a, b, c, hr _ _ _ _ _ _ _ (fun _ _ _ _ q => h _ _ _ _ _ _ _ _ q) d⟩
theorem ab_ite_m {c : Prop} [Decidable c] {a b a' b' : Prop} (h1 : a → a') (h2 : b → b') : (if c then a else b) → (if c then a' else b') := by
  split
  · exact h1
  · exact h2
theorem ab_and_m {a b b' : Prop} (h : b → b') : a ∧ b → a ∧ b' := fun ⟨x, y⟩ => ⟨x, h y⟩
theorem ab_st_m {run : ab_Run} (hr : ab_monoR run) {bud : Nat → Nat × Nat} {mc ms rt : Nat} {t : ab_T} {L : ab_L} {st : List ab_V} {ce sl : Nat} {g : ab_G} {I : ab_I} {J : ab_J} {Q Q' : ab_Q} {k k' : ab_K} (hq : ab_leQ Q Q') (h : ab_leK k k') :
    ab_st run bud mc ms rt t L st ce sl g I J Q k → ab_st run bud mc ms rt t L st ce sl g I J Q' k' := by
  obtain ⟨pc, ins, ln, r1, r2, rs⟩ := t
  have hk : ∀ {pc L st ce sl g I J}, k pc L st ce sl g I J → k' pc L st ce sl g I J := fun q => h _ _ _ _ _ _ _ _ q
  cases ins
  case iconst => exact hk
  case bipush => exact hk
  case sipush => exact hk
  case lconst => exact hk
  case aconst_null => exact hk
  case ldc => exact ab_ite_m hk (ab_and_m hk)
  case ldc_w => exact ab_and_m hk
  case ldc2_w => exact hk
  case iload => exact ab_get_m fun _ => ab_isI_m fun _ => hk
  case iload_n => exact ab_get_m fun _ => ab_isI_m fun _ => hk
  case lload => exact ab_get_m fun _ => ab_isL_m fun _ => hk
  case lload_n => exact ab_get_m fun _ => ab_isL_m fun _ => hk
  case aload => exact ab_get_m fun _ => ab_isR_m fun _ => hk
  case aload_n => exact ab_get_m fun _ => ab_isR_m fun _ => hk
  case istore => exact ab_and_m (ab_1i_m fun _ _ => hk)
  case istore_n => exact ab_and_m (ab_1i_m fun _ _ => hk)
  case lstore => exact ab_and_m (ab_1l_m fun _ _ => hk)
  case lstore_n => exact ab_and_m (ab_1l_m fun _ _ => hk)
  case astore => exact ab_and_m (ab_1r_m fun _ _ => hk)
  case astore_n => exact ab_and_m (ab_1r_m fun _ _ => hk)
  case iinc => exact ab_and_m (ab_get_m fun _ => ab_isI_m fun _ => hk)
  case dup =>
    cases st with
    | nil => exact id
    | cons v r => exact ab_and_m hk
  case dup2 =>
    cases st with
    | nil => exact id
    | cons v r => cases r with
      | nil => exact id
      | cons w r => exact ab_and_m (ab_and_m hk)
  case pop =>
    cases st with
    | nil => exact id
    | cons v r => exact ab_and_m hk
  case iadd => exact ab_2i_m fun _ _ _ => hk
  case isub => exact ab_2i_m fun _ _ _ => hk
  case imul => exact ab_2i_m fun _ _ _ => hk
  case idiv => exact ab_2i_m fun _ _ _ => ab_and_m hk
  case irem => exact ab_2i_m fun _ _ _ => ab_and_m hk
  case ineg => exact ab_1i_m fun _ _ => hk
  case iand => exact ab_2i_m fun _ _ _ => hk
  case ior => exact ab_2i_m fun _ _ _ => hk
  case ixor => exact ab_2i_m fun _ _ _ => hk
  case ishl => exact ab_2i_m fun _ _ _ => hk
  case ishr => exact ab_2i_m fun _ _ _ => hk
  case iushr => exact ab_2i_m fun _ _ _ => hk
  case ladd => exact ab_2l_m fun _ _ _ => hk
  case lsub => exact ab_2l_m fun _ _ _ => hk
  case lmul => exact ab_2l_m fun _ _ _ => hk
  case land => exact ab_2l_m fun _ _ _ => hk
  case lor => exact ab_2l_m fun _ _ _ => hk
  case lshl => exact ab_li_m fun _ _ _ => hk
  case lcmp => exact ab_2l_m fun _ _ _ => hk
  case i2l => exact ab_1i_m fun _ _ => hk
  case l2i => exact ab_1l_m fun _ _ => hk
  case i2b => exact ab_1i_m fun _ _ => hk
  case i2s => exact ab_1i_m fun _ _ => hk
  case i2c => exact ab_1i_m fun _ _ => hk
  case goto => exact hk
  case ifCond cd _ => exact ab_1i_m fun _ _ => by cases cd <;> exact ab_ite_m hk hk
  case if_icmp cd _ => exact ab_2i_m fun _ _ _ => by cases cd <;> exact ab_ite_m hk hk
  case if_acmp cd _ => exact ab_2r_m fun _ _ _ => ab_and_m (ab_and_m (by cases cd <;> exact ab_ite_m hk hk))
  case ifnull => exact ab_1r_m fun _ _ => ab_ite_m hk hk
  case ifnonnull => exact ab_1r_m fun _ _ => ab_ite_m hk hk
  case tableswitch => exact ab_1i_m fun _ _ => hk
  case lookupswitch => exact ab_1i_m fun _ _ => hk
  case arraylength => exact ab_1a_m fun _ _ => ab_and_m (ab_and_m hk)
  case iaload => exact ab_ai_m fun _ _ _ => ab_and_m (ab_and_m hk)
  case baload => exact ab_ai_m fun _ _ _ => ab_and_m (ab_and_m hk)
  case laload => exact ab_ai_m fun _ _ _ => ab_and_m (ab_and_m hk)
  case aaload => exact ab_ai_m fun _ _ _ => ab_and_m (ab_and_m (ab_and_m hk))
  case iastore => exact ab_1i_m fun _ _ => ab_ai_m fun _ _ _ => ab_and_m (ab_and_m (ab_and_m hk))
  case lastore => exact ab_1l_m fun _ _ => ab_ai_m fun _ _ _ => ab_and_m (ab_and_m (ab_and_m hk))
  case aastore => exact ab_1r_m fun _ _ => ab_ai_m fun _ _ _ => ab_and_m (ab_and_m (ab_and_m hk))
  case getfield => exact ab_1a_m fun _ _ => ab_and_m (ab_sel_m hk hk hk)
  case putfield => exact ab_sel_m (ab_1i_m fun _ _ => ab_1a_m fun _ _ => ab_and_m (ab_and_m (ab_and_m hk))) (ab_1l_m fun _ _ => ab_1a_m fun _ _ => ab_and_m (ab_and_m hk)) (ab_1r_m fun _ _ => ab_1a_m fun _ _ => ab_and_m (ab_and_m hk))
  case getstatic => exact ab_sel_m hk hk (fun z o => hk (z o))
  case new => exact ab_and_m (ab_and_m hk)
  case newarray ty => exact ab_1i_m fun _ _ => ab_and_m (ab_and_m (ab_and_m (ab_and_m (by cases ty <;> first | exact hk | exact id))))
  case anewarray => exact ab_1i_m fun _ _ => ab_and_m (ab_and_m (ab_and_m (ab_and_m hk)))
  case multianewarray => exact ab_2i_m fun _ _ _ => ab_and_m (ab_and_m (ab_and_m (ab_and_m (ab_and_m (ab_and_m hk)))))
  case invokestatic => exact ab_ite_m (ab_acp_m fun _ _ _ _ _ _ => ab_and_m (ab_and_m (ab_and_m (ab_and_m (ab_and_m (ab_and_m (ab_and_m (ab_and_m (Or.imp (ab_and_m (ab_and_m hk)) (ab_and_m (ab_and_m hk))))))))))) (ab_pop_m fun _ _ => ab_call_m hr h)
  case invokespecial => exact ab_ite_m (ab_1a_m fun _ _ => ab_and_m hk) (ab_pop_m fun _ _ => ab_and_m (ab_call_m hr h))
  case invokevirtual => exact ab_pop_m fun _ _ => ab_and_m (ab_call_m hr h)
  case ireturn => exact ab_oi_m fun _ z => ⟨z.1, z.2.1, z.2.2.1, hq _ _ _ _ z.2.2.2⟩
  case lreturn => exact ab_ol_m fun _ z => ⟨z.1, z.2.1, z.2.2.1, hq _ _ _ _ z.2.2.2⟩
  case areturn => exact ab_or_m fun _ z => ⟨z.1, z.2.1, z.2.2.1, hq _ _ _ _ z.2.2.2⟩
  case return_ => exact ab_on_m fun z => ⟨z.1, z.2.1, z.2.2.1, hq _ _ _ _ z.2.2.2⟩
  all_goals exact id
/-- the step of a method: its instruction at pc -/
def ab_find (c : List ab_T) (pc : Nat) : Option ab_T := match c with
  | [] => none
  | t :: r => match Nat.beq t.1 pc with
    | true => some t
    | false => ab_find r pc
def ab_stO (run : ab_Run) (bud : Nat → Nat × Nat) (mc ms rt : Nat) (o : Option ab_T) (L : ab_L) (st : List ab_V) (ce sl : Nat) (g : ab_G) (I : ab_I) (J : ab_J) (Q : ab_Q) (k : ab_K) : Prop := match o with
  | some t => ab_st run bud mc ms rt t L st ce sl g I J Q k
  | none => False
theorem ab_stO_m {run : ab_Run} (hr : ab_monoR run) {bud : Nat → Nat × Nat} {mc ms rt : Nat} {o : Option ab_T} {L : ab_L} {st : List ab_V} {ce sl : Nat} {g : ab_G} {I : ab_I} {J : ab_J} {Q Q' : ab_Q} {k k' : ab_K} (hq : ab_leQ Q Q') (h : ab_leK k k') :
    ab_stO run bud mc ms rt o L st ce sl g I J Q k → ab_stO run bud mc ms rt o L st ce sl g I J Q' k' := by
  cases o with
  | none => exact id
  | some t => exact ab_st_m hr hq h
/-- how a method ends with Q, from here: the least predicate that is closed -/
def ab_lfp (run : ab_Run) (bud : Nat → Nat × Nat) (mc ms rt : Nat) (c : List ab_T) (Q : ab_Q) (pc : Nat) (L : ab_L) (st : List ab_V) (ce sl : Nat) (g : ab_G) (I : ab_I) (J : ab_J) : Prop :=
  ∀ P : ab_K, (∀ pc L st ce sl g I J, ab_stO run bud mc ms rt (ab_find c pc) L st ce sl g I J Q P → P pc L st ce sl g I J) → P pc L st ce sl g I J
theorem ab_lfp_step {run : ab_Run} (hr : ab_monoR run) {bud : Nat → Nat × Nat} {mc ms rt : Nat} {c : List ab_T} {Q : ab_Q} {pc : Nat} {L : ab_L} {st : List ab_V} {ce sl : Nat} {g : ab_G} {I : ab_I} {J : ab_J} :
    ab_lfp run bud mc ms rt c Q pc L st ce sl g I J ↔ ab_stO run bud mc ms rt (ab_find c pc) L st ce sl g I J Q (ab_lfp run bud mc ms rt c Q) := by
  have up : ∀ pc L st ce sl g I J, ab_stO run bud mc ms rt (ab_find c pc) L st ce sl g I J Q (ab_lfp run bud mc ms rt c Q) → ab_lfp run bud mc ms rt c Q pc L st ce sl g I J := by
    intro pc L st ce sl g I J h P hP
    exact hP _ _ _ _ _ _ _ _ (ab_stO_m hr (fun _ _ _ _ q => q) (fun _ _ _ _ _ _ _ _ q => q P hP) h)
  constructor
  · intro h
    exact h (fun pc L st ce sl g I J => ab_stO run bud mc ms rt (ab_find c pc) L st ce sl g I J Q (ab_lfp run bud mc ms rt c Q)) (fun pc L st ce sl g I J h2 => ab_stO_m hr (fun _ _ _ _ q => q) up h2)
  · exact up _ _ _ _ _ _ _ _
theorem ab_lfp_m {run : ab_Run} (hr : ab_monoR run) {bud : Nat → Nat × Nat} {mc ms rt : Nat} {c : List ab_T} {Q Q' : ab_Q} (hq : ab_leQ Q Q') {pc : Nat} {L : ab_L} {st : List ab_V} {ce sl : Nat} {g : ab_G} {I : ab_I} {J : ab_J}
    (h : ab_lfp run bud mc ms rt c Q pc L st ce sl g I J) : ab_lfp run bud mc ms rt c Q' pc L st ce sl g I J :=
  fun P hP => h P (fun _ _ _ _ _ _ _ _ h2 => hP _ _ _ _ _ _ _ _ (ab_stO_m hr hq (fun _ _ _ _ _ _ _ _ q => q) h2))
/-- locals at the entry -/
def ab_sl (As : List ab_V) : ab_L := match As with
  | [] => []
  | Sum.inr (Sum.inl x) :: r => some (vL x) :: none :: ab_sl r
  | v :: r => some v :: ab_sl r
def ab_ent (As : List ab_V) (n : Nat) : ab_L := ab_sl As ++ List.replicate (n - (ab_sl As).length) none
