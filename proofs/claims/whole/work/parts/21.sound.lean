/-! ===== the machine is sound ===== -/
def ab_ckB (N : Nat) (t : ab_T) : Bool := match t with
  | (_, ins, _, r1, r2, rs) => match ins with
    | .invokestatic _ => decide (rs.getD 0 0 = 3) || (decide (260 ≤ r1) || (decide (r1 < 259) && (decide ((ab_mpN r1).1 = 0) && (decide (r2 = (ab_mpN r1).2.1) && (!ab_isMath r1 || (decide (rs.getD 0 0 = 0) && decide (r2 = 2)))))))
    | .invokespecial _ => decide (rs.getD 0 0 = 2) || (decide (260 ≤ r1) || (decide (r1 < 259) && (decide ((ab_mpN r1).1 = 2) && (decide (r2 = (ab_mpN r1).2.1) && !ab_isMath r1))))
    | .invokevirtual _ => decide (260 ≤ r1) || (decide (r1 < 259) && (decide ((ab_mpN r1).1 = 1) && (decide (r2 = (ab_mpN r1).2.1) && !ab_isMath r1)))
    | .putfield _ => decide (rs.getD 2 0 = 1 → (ab_mpN N).1 = 2)
    | .new _ => decide (r1 < 12)
    | _ => true
def ab_okM (N : Nat) : Bool := (ab_cdm N).all fun t => ab_ck (ab_yN N).cls (ab_meth N).2.1 t && ab_ckB N t
theorem ab_find_mem {c : List ab_T} {pc : Nat} {t : ab_T} (h : ab_find c pc = some t) : t ∈ c ∧ t.1 = pc := by
  induction c with
  | nil => cases h
  | cons a c ih =>
    unfold ab_find at h
    split at h
    · rename_i hb
      cases h
      exact ⟨List.mem_cons_self, Nat.eq_of_beq_eq_true hb⟩
    · obtain ⟨h1, h2⟩ := ih h
      exact ⟨List.mem_cons_of_mem _ h1, h2⟩
/-- an instruction that ends a method with r -/
def ab_rok (rt : Nat) (ins : Instr) (r : Option ab_V) : Prop :=
  (ins = .ireturn ∧ ∃ x, r = some (vI x) ∧ (rt = 1 ∨ (rt = 4 ∧ ab_bit x) ∨ (rt = 5 ∧ narrow .char (.int x) = .int x) ∨ (rt = 6 ∧ narrow .byte (.int x) = .int x))) ∨ (ins = .lreturn ∧ ∃ x, r = some (vL x) ∧ rt = 2) ∨ (ins = .areturn ∧ ∃ x, r = some (vR x) ∧ rt = 3) ∨ (ins = .return_ ∧ r = none ∧ rt = 0)
theorem ab_oi_e {st : List ab_V} {f : Int32 → Prop} (h : ab_oi st f) : ∃ x, st = [vI x] ∧ f x := by
  unfold ab_oi at h; split at h
  · exact ⟨_, rfl, h⟩
  · exact h.elim
theorem ab_ol_e {st : List ab_V} {f : Int64 → Prop} (h : ab_ol st f) : ∃ x, st = [vL x] ∧ f x := by
  unfold ab_ol at h; split at h
  · exact ⟨_, rfl, h⟩
  · exact h.elim
theorem ab_or_e {st : List ab_V} {f : Option Nat → Prop} (h : ab_or st f) : ∃ x, st = [vR x] ∧ f x := by
  unfold ab_or at h; split at h
  · exact ⟨_, rfl, h⟩
  · exact h.elim
theorem ab_on_e {st : List ab_V} {f : Prop} (h : ab_on st f) : st = [] ∧ f := by
  unfold ab_on at h; split at h
  · exact ⟨rfl, h⟩
  · exact h.elim
section SOUND
variable {p : Program} {l : Launch} {e : Env} {R : Room} {s : State} {m : MethodId} {args : Array Value} {below : List Frame} {meth : Method} {c : Code} {Qm : State → Prop}
variable {base : Nat} {H0 : Heap} {sp : Nat → Nat} {D : va_G} {cA : Nat → ClassId} {SL : Nat} {xs : Nat → Int32}
theorem ab_dead {d N : Nat} (hN : 260 ≤ N) {As : List ab_V} {g : ab_G} {I : ab_I} {J : ab_J} {Q : ab_Q} (h : ab_run d N As g I J Q) : False := by
  cases d with
  | zero => exact h
  | succ d => have := h.1; omega
set_option maxHeartbeats 4000000 in
theorem ab_sound {d N : Nat} (hmoks : ∀ N, N < 259 → ab_isMath N = false → ab_hasC N ∧ ab_mok N = true) (hok : ab_Ok l base H0 sp D cA SL xs d) (B : ab_Bd p s m args c base H0 sp D cA SL xs (ab_meth N).2.1 (ab_yN N).cls) (hM : ab_okM N = true) (hfr : d + 1 ≤ R.frames) (hlo : 64 * (d + 1) ≤ R.locals) (hrc : (ab_bud N).1 ≤ R.cells) (hrs : (ab_bud N).2 ≤ R.slots) (hin : (ab_mpN N).1 = 2 → meth.name = "<init>") {Q : ab_Q}
    (hret : ∀ (ins : Instr) (r : Option ab_V) (pc : Nat) (g : ab_G) (I : ab_I) (J : ab_J) (H : Heap) (locs : List Loc) (ls : Array Slot) (ce sl : Nat), ab_rok (ab_rt (ab_meth N).2.2.2.1) ins r → decode (ab_meth N).2.1 pc = .ok (ins, 1) → Q r g I J → ab_Rep base H0 sp D cA SL xs g I J H → (∀ q ∈ locs, base ≤ q.base) → ce ≤ (ab_bud N).1 → sl ≤ (ab_bud N).2 → W p l e R s m args below meth c H locs ce sl Qm (F0 m pc ls ((r.map (ab_cv base sp)).toList)))
    {pc : Nat} {L : ab_L} {st : List ab_V} {ce sl : Nat} {g : ab_G} {I : ab_I} {J : ab_J} (h : ab_E d N pc L st ce sl g I J Q) : ab_Pk p l e R s m args below meth c base H0 sp D cA SL xs Qm pc L st ce sl g I J := by
  refine h (ab_Pk p l e R s m args below meth c base H0 sp D cA SL xs Qm) ?_
  clear h pc L st ce sl g I J
  intro pc L st ce sl g I J h
  cases hf : ab_find (ab_meth N).2.2.2.2.2.2 pc with
  | none => rw [hf] at h; exact h.elim
  | some t =>
  rw [hf] at h
  obtain ⟨hmem, hpc⟩ := ab_find_mem hf
  have hck0 := List.all_eq_true.mp hM t hmem
  obtain ⟨pc0, ins, ln, r1, r2, rs⟩ := t
  subst hpc
  rw [Bool.and_eq_true] at hck0
  obtain ⟨hck1, hckB⟩ := hck0
  unfold ab_ck at hck1
  simp only [Bool.and_eq_true, decide_eq_true_eq, Bool.or_eq_true] at hck1
  obtain ⟨⟨hd, hln⟩, hck⟩ := hck1
  have hl1 : 1 ≤ R.frames := by omega
  have hl60 : 60 ≤ R.locals := by omega
  change ab_st (ab_run d) ab_bud (ab_bud N).1 (ab_bud N).2 (ab_rt (ab_meth N).2.2.2.1) (pc0, ins, ln, r1, r2, rs) L st ce sl g I J Q (ab_Pk p l e R s m args below meth c base H0 sp D cA SL xs Qm) at h
  show ab_Pk p l e R s m args below meth c base H0 sp D cA SL xs Qm pc0 L st ce sl g I J
  cases ins
  case iadd => exact ab_so_iadd B hd (hln.resolve_left (fun z => by cases z)) h
  case isub => exact ab_so_isub B hd (hln.resolve_left (fun z => by cases z)) h
  case imul => exact ab_so_imul B hd (hln.resolve_left (fun z => by cases z)) h
  case idiv => exact ab_so_idiv B hd (hln.resolve_left (fun z => by cases z)) h
  case irem => exact ab_so_irem B hd (hln.resolve_left (fun z => by cases z)) h
  case iand => exact ab_so_iand B hd (hln.resolve_left (fun z => by cases z)) h
  case ior => exact ab_so_ior B hd (hln.resolve_left (fun z => by cases z)) h
  case ixor => exact ab_so_ixor B hd (hln.resolve_left (fun z => by cases z)) h
  case ishl => exact ab_so_ishl B hd (hln.resolve_left (fun z => by cases z)) h
  case ishr => exact ab_so_ishr B hd (hln.resolve_left (fun z => by cases z)) h
  case iushr => exact ab_so_iushr B hd (hln.resolve_left (fun z => by cases z)) h
  case ineg => exact ab_so_ineg B hd (hln.resolve_left (fun z => by cases z)) h
  case ladd => exact ab_so_ladd B hd (hln.resolve_left (fun z => by cases z)) h
  case lsub => exact ab_so_lsub B hd (hln.resolve_left (fun z => by cases z)) h
  case lmul => exact ab_so_lmul B hd (hln.resolve_left (fun z => by cases z)) h
  case land => exact ab_so_land B hd (hln.resolve_left (fun z => by cases z)) h
  case lor => exact ab_so_lor B hd (hln.resolve_left (fun z => by cases z)) h
  case lshl => exact ab_so_lshl B hd (hln.resolve_left (fun z => by cases z)) h
  case lcmp => exact ab_so_lcmp B hd (hln.resolve_left (fun z => by cases z)) h
  case i2l => exact ab_so_i2l B hd (hln.resolve_left (fun z => by cases z)) h
  case l2i => exact ab_so_l2i B hd (hln.resolve_left (fun z => by cases z)) h
  case i2b => exact ab_so_i2b B hd (hln.resolve_left (fun z => by cases z)) h
  case i2s => exact ab_so_i2s B hd (hln.resolve_left (fun z => by cases z)) h
  case i2c => exact ab_so_i2c B hd (hln.resolve_left (fun z => by cases z)) h
  case lconst => exact ab_so_lconst B hd (hln.resolve_left (fun z => by cases z)) h
  case iload_n => exact ab_so_iload_n B hd (hln.resolve_left (fun z => by cases z)) h
  case lload_n => exact ab_so_lload_n B hd (hln.resolve_left (fun z => by cases z)) h
  case aload_n => exact ab_so_aload_n B hd (hln.resolve_left (fun z => by cases z)) h
  case istore_n => exact ab_so_istore_n B hd (hln.resolve_left (fun z => by cases z)) h
  case lstore_n => exact ab_so_lstore_n B hd (hln.resolve_left (fun z => by cases z)) h
  case astore_n => exact ab_so_astore_n B hd (hln.resolve_left (fun z => by cases z)) h
  case dup => exact ab_so_dup B hd (hln.resolve_left (fun z => by cases z)) h
  case dup2 => exact ab_so_dup2 B hd (hln.resolve_left (fun z => by cases z)) h
  case pop => exact ab_so_pop B hd (hln.resolve_left (fun z => by cases z)) h
  case arraylength => exact ab_so_arraylength B hd (hln.resolve_left (fun z => by cases z)) h
  case iaload => exact ab_so_iaload B hd (hln.resolve_left (fun z => by cases z)) h
  case baload => exact ab_so_baload B hd (hln.resolve_left (fun z => by cases z)) h
  case laload => exact ab_so_laload B hd (hln.resolve_left (fun z => by cases z)) h
  case aaload => exact ab_so_aaload B hd (hln.resolve_left (fun z => by cases z)) h
  case iastore => exact ab_so_iastore B hd (hln.resolve_left (fun z => by cases z)) h
  case lastore => exact ab_so_lastore B hd (hln.resolve_left (fun z => by cases z)) h
  case aastore => exact ab_so_aastore B hd (hln.resolve_left (fun z => by cases z)) h
  case iconst => exact ab_so_iconst B hd (hln.resolve_left (fun z => by cases z)) h
  case iload => exact ab_so_iload B hd (hln.resolve_left (fun z => by cases z)) h
  case lload => exact ab_so_lload B hd (hln.resolve_left (fun z => by cases z)) h
  case aload => exact ab_so_aload B hd (hln.resolve_left (fun z => by cases z)) h
  case istore => exact ab_so_istore B hd (hln.resolve_left (fun z => by cases z)) h
  case lstore => exact ab_so_lstore B hd (hln.resolve_left (fun z => by cases z)) h
  case astore => exact ab_so_astore B hd (hln.resolve_left (fun z => by cases z)) h
  case aconst_null => exact ab_so_null B hd (hln.resolve_left (fun z => by cases z)) h
  case bipush n => exact ab_so_bipush B hd (hln.resolve_left (fun z => by cases z)) (of_decide_eq_true hck) h
  case sipush n => exact ab_so_sipush B hd (hln.resolve_left (fun z => by cases z)) (of_decide_eq_true hck) h
  case ldc i => exact ab_so_ldc B hd (hln.resolve_left (fun z => by cases z)) hck h
  case ldc_w i => exact ab_so_ldc_w B hd (hln.resolve_left (fun z => by cases z)) hck h
  case ldc2_w i => exact ab_so_ldc2_w B hd (hln.resolve_left (fun z => by cases z)) hck h
  case iinc => exact ab_so_iinc B hd (hln.resolve_left (fun z => by cases z)) h
  case goto => exact ab_so_goto B hd (hln.resolve_left (fun z => by cases z)) (of_decide_eq_true hck) h
  case ifCond => exact ab_so_ifCond B hd (hln.resolve_left (fun z => by cases z)) (of_decide_eq_true hck) h
  case if_icmp => exact ab_so_if_icmp B hd (hln.resolve_left (fun z => by cases z)) (of_decide_eq_true hck) h
  case if_acmp => exact ab_so_if_acmp B hd (hln.resolve_left (fun z => by cases z)) (of_decide_eq_true hck) h
  case ifnull => exact ab_so_ifnull B hd (hln.resolve_left (fun z => by cases z)) (of_decide_eq_true hck) h
  case ifnonnull => exact ab_so_ifnonnull B hd (hln.resolve_left (fun z => by cases z)) (of_decide_eq_true hck) h
  case tableswitch =>
    unfold ab_ckO at hck
    simp only [Bool.and_eq_true, decide_eq_true_eq] at hck
    exact ab_so_tableswitch B hd hck.1.1.1.1 hck.1.1.1.2 hck.1.1.2 hck.1.2 hck.2 h
  case lookupswitch =>
    unfold ab_ckO at hck
    dsimp only at hck
    rw [Bool.and_eq_true, Bool.and_eq_true, Bool.and_eq_true, decide_eq_true_eq, decide_eq_true_eq] at hck
    exact ab_so_lookupswitch B hd hck.1.1.1 hck.1.1.2 hck.1.2 hck.2 h
  case getfield =>
    unfold ab_ckO at hck
    dsimp only at hck
    rw [Bool.and_eq_true, Bool.and_eq_true, decide_eq_true_eq] at hck
    exact ab_so_getfield B hd (hln.resolve_left (fun z => by cases z)) hck.1.1 hck.1.2 hck.2 h
  case putfield =>
    unfold ab_ckO at hck
    dsimp only at hck
    simp only [Bool.and_eq_true, decide_eq_true_eq] at hck
    obtain ⟨⟨⟨⟨⟨⟨k1, k2⟩, k3⟩, k4⟩, k5⟩, k6⟩, k7⟩ := hck
    refine ab_so_putfield B hd (hln.resolve_left (fun z => by cases z)) k1 k2 k3 k4 (fun hz => ?_) k7 h
    rw [hz] at k5
    have k8 : rs.getD 2 0 = 1 := by simpa using k5.symm
    rw [if_pos k8, decide_eq_true_eq] at k6
    exact ⟨k6, hin (of_decide_eq_true hckB k8)⟩
  case getstatic => exact ab_so_getstatic B hd (hln.resolve_left (fun z => by cases z)) hck h
  case new =>
    have k0 : r1 < 12 := of_decide_eq_true hckB
    unfold ab_ckO at hck
    dsimp only at hck
    rw [if_pos k0, Bool.and_eq_true, decide_eq_true_eq] at hck
    exact ab_so_new B hd (hln.resolve_left (fun z => by cases z)) hrc hrs k0 hck.1 hck.2 h
  case newarray ty =>
    cases ty
    case int => exact ab_so_newI B hd (hln.resolve_left (fun z => by cases z)) hrc hrs h
    case long => exact ab_so_newL B hd (hln.resolve_left (fun z => by cases z)) hrc hrs h
    all_goals (obtain ⟨x, r, rfl, -, -, -, -, h⟩ := ab_1i_e h; exact h.elim)
  case anewarray =>
    unfold ab_ckO at hck
    dsimp only at hck
    rw [Bool.and_eq_true, decide_eq_true_eq] at hck
    exact ab_so_anew B hd (hln.resolve_left (fun z => by cases z)) hrc hrs hck.1 hck.2 h
  case multianewarray =>
    unfold ab_ckO at hck
    dsimp only at hck
    simp only [Bool.and_eq_true, Bool.or_eq_true, decide_eq_true_eq] at hck
    exact ab_so_multi B hd (hln.resolve_left (fun z => by cases z)) hrc hrs hck.1.1 hck.1.2 hck.2 h
  case invokestatic i =>
    unfold ab_ckO at hck
    dsimp only at hck
    by_cases h3 : rs.getD 0 0 = 3
    · rw [if_pos h3] at hck
      exact ab_so_arraycopy B hd hl1 hl60 h3 (hln.resolve_left (fun z => by cases z)) hck h
    · rw [if_neg h3] at hck
      unfold ab_ckB at hckB
      simp only [Bool.or_eq_true, Bool.and_eq_true, decide_eq_true_eq] at hckB
      rcases hckB with k | k | ⟨k1, k2, k3, k4⟩
      · exact absurd k h3
      · change (if rs.getD 0 0 = 3 then _ else _) at h
        rw [if_neg h3] at h
        exact (ab_dead k h.2.2.2.2).elim
      · rw [if_pos k1] at hck
        by_cases hmt : ab_isMath r1 = true
        · rw [hmt] at k4
          obtain ⟨k5, k6⟩ := k4.resolve_left (by simp)
          rw [if_neg (by rw [k5]; decide)] at hck
          exact ab_so_math B hd hl1 hl60 hrc hrs h3 (hln.resolve_left (fun z => by cases z)) hmt k6 (ab_wd_use B hck) h
        · have hmf : ab_isMath r1 = false := by simpa using hmt
          exact ab_so_static B hok hd hfr hlo hrc hrs h3 (hln.resolve_left (fun z => by cases z)) k1 (hmoks r1 k1 hmf) hmf k2 k3 hck h
  case invokespecial i =>
    unfold ab_ckO at hck
    dsimp only at hck
    by_cases h3 : rs.getD 0 0 = 2
    · rw [if_pos h3] at hck
      exact ab_so_objInit B hd hl1 hl60 h3 (hln.resolve_left (fun z => by cases z)) hck h
    · rw [if_neg h3] at hck
      unfold ab_ckB at hckB
      simp only [Bool.or_eq_true, Bool.and_eq_true, decide_eq_true_eq] at hckB
      rcases hckB with k | k | ⟨k1, k2, k3, k4⟩
      · exact absurd k h3
      · change (if rs.getD 0 0 = 2 then _ else _) at h
        rw [if_neg h3] at h
        exact (ab_dead k h.2.2.2.2.2).elim
      · rw [if_pos k1] at hck
        have hmf : ab_isMath r1 = false := by simpa using k4
        exact ab_so_special B hok hd hfr hlo hrc hrs h3 (hln.resolve_left (fun z => by cases z)) k1 (hmoks r1 k1 hmf) hmf k2 k3 hck h
  case invokevirtual i =>
    unfold ab_ckO at hck
    dsimp only at hck
    unfold ab_ckB at hckB
    simp only [Bool.or_eq_true, Bool.and_eq_true, decide_eq_true_eq] at hckB
    rcases hckB with k | ⟨k1, k2, k3, k4⟩
    · exact (ab_dead k h.2.2.2.2.2).elim
    · rw [if_pos k1] at hck
      simp only [Bool.and_eq_true, decide_eq_true_eq] at hck
      have hmf : ab_isMath r1 = false := by simpa using k4
      exact ab_so_virtual B hok hd hfr hlo hrc hrs (hln.resolve_left (fun z => by cases z)) k1 (hmoks r1 k1 hmf) hmf k2 k3 hck.1.2 hck.2 hck.1.1.1 h
  case ireturn =>
    have e1 := hln.resolve_left (fun z => by cases z)
    change ln = 1 at e1
    subst e1
    obtain ⟨x, rfl, hc, hs, hr, hQ⟩ := ab_oi_e h
    exact fun hL H locs ls hR hl hq => hret _ _ _ _ _ _ H locs ls ce sl (Or.inl ⟨rfl, x, rfl, hr⟩) hd hQ hR hq hc hs
  case lreturn =>
    have e1 := hln.resolve_left (fun z => by cases z)
    change ln = 1 at e1
    subst e1
    obtain ⟨x, rfl, hc, hs, hr, hQ⟩ := ab_ol_e h
    exact fun hL H locs ls hR hl hq => hret _ _ _ _ _ _ H locs ls ce sl (Or.inr (Or.inl ⟨rfl, x, rfl, hr⟩)) hd hQ hR hq hc hs
  case areturn =>
    have e1 := hln.resolve_left (fun z => by cases z)
    change ln = 1 at e1
    subst e1
    obtain ⟨x, rfl, hc, hs, hr, hQ⟩ := ab_or_e h
    exact fun hL H locs ls hR hl hq => hret _ _ _ _ _ _ H locs ls ce sl (Or.inr (Or.inr (Or.inl ⟨rfl, x, rfl, hr⟩))) hd hQ hR hq hc hs
  case return_ =>
    have e1 := hln.resolve_left (fun z => by cases z)
    change ln = 1 at e1
    subst e1
    obtain ⟨rfl, hc, hs, hr, hQ⟩ := ab_on_e h
    exact fun hL H locs ls hR hl hq => hret _ _ _ _ _ _ H locs ls ce sl (Or.inr (Or.inr (Or.inr ⟨rfl, rfl, hr⟩))) hd hQ hR hq hc hs
  all_goals exact h.elim
end SOUND
