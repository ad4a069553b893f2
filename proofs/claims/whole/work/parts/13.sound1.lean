/-! ===== soundness of the instructions that touch no heap ===== -/
theorem ab_1i_e {st : List ab_V} {f : Int32 → List ab_V → Prop} (h : ab_1i st f) : ∃ x r, st = vI x :: r ∧ f x r := by
  unfold ab_1i at h; split at h
  · exact ⟨_, _, rfl, h⟩
  · exact h.elim
theorem ab_2i_e {st : List ab_V} {f : Int32 → Int32 → List ab_V → Prop} (h : ab_2i st f) : ∃ x y r, st = vI y :: vI x :: r ∧ f x y r := by
  unfold ab_2i at h; split at h
  · exact ⟨_, _, _, rfl, h⟩
  · exact h.elim
theorem ab_1l_e {st : List ab_V} {f : Int64 → List ab_V → Prop} (h : ab_1l st f) : ∃ x r, st = vL x :: r ∧ f x r := by
  unfold ab_1l at h; split at h
  · exact ⟨_, _, rfl, h⟩
  · exact h.elim
theorem ab_2l_e {st : List ab_V} {f : Int64 → Int64 → List ab_V → Prop} (h : ab_2l st f) : ∃ x y r, st = vL y :: vL x :: r ∧ f x y r := by
  unfold ab_2l at h; split at h
  · exact ⟨_, _, _, rfl, h⟩
  · exact h.elim
theorem ab_li_e {st : List ab_V} {f : Int64 → Int32 → List ab_V → Prop} (h : ab_li st f) : ∃ x y r, st = vI y :: vL x :: r ∧ f x y r := by
  unfold ab_li at h; split at h
  · exact ⟨_, _, _, rfl, h⟩
  · exact h.elim
theorem ab_1r_e {st : List ab_V} {f : Option Nat → List ab_V → Prop} (h : ab_1r st f) : ∃ x r, st = vR x :: r ∧ f x r := by
  unfold ab_1r at h; split at h
  · exact ⟨_, _, rfl, h⟩
  · exact h.elim
theorem ab_2r_e {st : List ab_V} {f : Option Nat → Option Nat → List ab_V → Prop} (h : ab_2r st f) : ∃ x y r, st = vR y :: vR x :: r ∧ f x y r := by
  unfold ab_2r at h; split at h
  · exact ⟨_, _, _, rfl, h⟩
  · exact h.elim
theorem ab_1a_e {st : List ab_V} {f : Nat → List ab_V → Prop} (h : ab_1a st f) : ∃ a r, st = vR (some a) :: r ∧ f a r := by
  unfold ab_1a at h; split at h
  · exact ⟨_, _, rfl, h⟩
  · exact h.elim
theorem ab_ai_e {st : List ab_V} {f : Nat → Int32 → List ab_V → Prop} (h : ab_ai st f) : ∃ a j r, st = vI j :: vR (some a) :: r ∧ f a j r := by
  unfold ab_ai at h; split at h
  · exact ⟨_, _, _, rfl, h⟩
  · exact h.elim
theorem ab_get_e {L : ab_L} {i : Nat} {f : ab_V → Prop} (h : ab_get L i f) : ∃ v, L[i]? = some (some v) ∧ f v := by
  unfold ab_get at h; split at h
  · rename_i hv; exact ⟨_, hv, h⟩
  · exact h.elim
theorem ab_isI_e {v : ab_V} {f : Int32 → Prop} (h : ab_isI v f) : ∃ x, v = vI x ∧ f x := by
  unfold ab_isI at h; split at h
  · exact ⟨_, rfl, h⟩
  · exact h.elim
theorem ab_isL_e {v : ab_V} {f : Int64 → Prop} (h : ab_isL v f) : ∃ x, v = vL x ∧ f x := by
  unfold ab_isL at h; split at h
  · exact ⟨_, rfl, h⟩
  · exact h.elim
theorem ab_isR_e {v : ab_V} {f : Option Nat → Prop} (h : ab_isR v f) : ∃ x, v = vR x ∧ f x := by
  unfold ab_isR at h; split at h
  · exact ⟨_, rfl, h⟩
  · exact h.elim
section SND
variable {p : Program} {l : Launch} {e : Env} {R : Room} {s : State} {m : MethodId} {args : Array Value} {below : List Frame} {meth : Method} {c : Code} {Qm : State → Prop}
variable {base : Nat} {H0 : Heap} {sp : Nat → Nat} {D : va_G} {cA : Nat → ClassId} {SL : Nat} {xs : Nat → Int32} {cc : ByteArray} {own : String}
/-- the machine's side of the continuation -/
def ab_Pk (p : Program) (l : Launch) (e : Env) (R : Room) (s : State) (m : MethodId) (args : Array Value) (below : List Frame) (meth : Method) (c : Code) (base : Nat) (H0 : Heap) (sp : Nat → Nat) (D : va_G) (cA : Nat → ClassId) (SL : Nat) (xs : Nat → Int32) (Qm : State → Prop) : ab_K := fun pc L st ce sl g I J =>
  L.length = c.maxLocals → ∀ (H : Heap) (locs : List Loc) (ls : Array Slot), ab_Rep base H0 sp D cA SL xs g I J H → ab_lv base sp ls L → (∀ q ∈ locs, base ≤ q.base) → W p l e R s m args below meth c H locs ce sl Qm (F0 m pc ls (st.map (ab_cv base sp)))
/-- what a body knows -/
def ab_Bd (p : Program) (s : State) (m : MethodId) (args : Array Value) (c : Code) (base : Nat) (H0 : Heap) (sp : Nat → Nat) (D : va_G) (cA : Nat → ClassId) (SL : Nat) (xs : Nat → Int32) (cc : ByteArray) (own : String) : Prop :=
  p.tables.exec = Jvm.exec ∧ c.code = cc ∧ s.vm.findClass own = some m.cls ∧ (∀ w ∈ ab_ws, w.before args s = true) ∧ ab_Kn base H0 sp D cA SL xs s
theorem ab_wd_use (B : ab_Bd p s m args c base H0 sp D cA SL xs cc own) {q : Nat} {w : Cond} (h : ab_wd q w = true) : w.before args s = true := by
  unfold ab_wd at h
  rw [Bool.and_eq_true, decide_eq_true_eq] at h
  exact B.2.2.2.1 _ (ab_in_ws h.1 h.2)
theorem ab_nd_use (B : ab_Bd p s m args c base H0 sp D cA SL xs cc own) {q : Nat} {w : Cond} (h : ab_nd q w = true) : va_Nw w s := by
  unfold ab_nd at h
  rw [Bool.and_eq_true, decide_eq_true_eq] at h
  exact B.2.2.2.2.2.1 _ (ab_in_nest h.1 h.2)
theorem ab_sw_table {pc : Nat} : ∀ (rs : List Nat) (os : List Int) (lo : Int) (x : Int32) (d : Nat), os.map (fun o => (pc : Int) + o) = rs.map (fun (t : Nat) => (t : Int)) → -2147483648 ≤ lo → lo + rs.length ≤ 2147483648 →
    (x.toInt < lo ∨ lo + rs.length ≤ x.toInt → ab_sw x (ab_keys lo rs) d = d) ∧ (¬ x.toInt < lo → x.toInt < lo + rs.length → ∃ off, os[(x.toInt - lo).toNat]? = some off ∧ (pc : Int) + off = (ab_sw x (ab_keys lo rs) d : Nat)) := by
  intro rs
  induction rs with
  | nil =>
    intro os lo x d ho h1 h2
    exact ⟨fun _ => rfl, fun a b => by simp at b; omega⟩
  | cons t rs ih =>
    intro os lo x d ho h1 h2
    cases os with
    | nil => simp at ho
    | cons o os =>
      simp only [List.map_cons, List.cons.injEq] at ho
      simp only [List.length_cons, Int.natCast_add, Int.natCast_one] at h2 ⊢
      have key : x = Int32.ofInt lo ↔ x.toInt = lo := by
        constructor
        · intro hx
          rw [hx, Int32.toInt_ofInt_of_le (by simpa using h1) (by simp; omega)]
        · intro hx
          rw [← hx, Int32.ofInt_toInt]
      obtain ⟨ih1, ih2⟩ := ih os (lo + 1) x d ho.2 (by omega) (by omega)
      show (_ → (if x = Int32.ofInt lo then t else ab_sw x (ab_keys (lo + 1) rs) d) = d) ∧ (_ → _ → ∃ off, _ ∧ (pc : Int) + off = ((if x = Int32.ofInt lo then t else ab_sw x (ab_keys (lo + 1) rs) d : Nat) : Int))
      by_cases hx : x = Int32.ofInt lo
      · rw [if_pos hx]
        have h3 := key.mp hx
        exact ⟨fun h => by omega, fun _ _ => ⟨o, by rw [h3]; simp, ho.1⟩⟩
      · rw [if_neg hx]
        have h3 : ¬ x.toInt = lo := fun h => hx (key.mpr h)
        refine ⟨fun h => ih1 (by omega), fun a b => ?_⟩
        obtain ⟨off, h4, h5⟩ := ih2 (by omega) (by omega)
        refine ⟨off, ?_, h5⟩
        rw [show (x.toInt - lo).toNat = (x.toInt - (lo + 1)).toNat + 1 by omega, List.getElem?_cons_succ]
        exact h4
theorem ab_so_iadd (B : ab_Bd p s m args c base H0 sp D cA SL xs cc own) {run : ab_Run} {bud : Nat → Nat × Nat} {mc ms rt pc ln r1 r2 : Nat} {rs : List Nat} {L : ab_L} {st : List ab_V} {ce sl : Nat} {g : ab_G} {I : ab_I} {J : ab_J} {Q : ab_Q}  (hd : decode cc pc = .ok (.iadd, ln)) (hln : ln = 1) (h : ab_st run bud mc ms rt (pc, .iadd, ln, r1, r2, rs) L st ce sl g I J Q (ab_Pk p l e R s m args below meth c base H0 sp D cA SL xs Qm)) : ab_Pk p l e R s m args below meth c base H0 sp D cA SL xs Qm pc L st ce sl g I J := by
  subst hln
  obtain ⟨x, y, r, rfl, hk⟩ := ab_2i_e h
  exact fun hL H locs ls hR hl hq => lv_iadd B.1 B.2.1 hd (hk hL H locs ls hR hl hq)
theorem ab_so_isub (B : ab_Bd p s m args c base H0 sp D cA SL xs cc own) {run : ab_Run} {bud : Nat → Nat × Nat} {mc ms rt pc ln r1 r2 : Nat} {rs : List Nat} {L : ab_L} {st : List ab_V} {ce sl : Nat} {g : ab_G} {I : ab_I} {J : ab_J} {Q : ab_Q}  (hd : decode cc pc = .ok (.isub, ln)) (hln : ln = 1) (h : ab_st run bud mc ms rt (pc, .isub, ln, r1, r2, rs) L st ce sl g I J Q (ab_Pk p l e R s m args below meth c base H0 sp D cA SL xs Qm)) : ab_Pk p l e R s m args below meth c base H0 sp D cA SL xs Qm pc L st ce sl g I J := by
  subst hln
  obtain ⟨x, y, r, rfl, hk⟩ := ab_2i_e h
  exact fun hL H locs ls hR hl hq => lv_isub B.1 B.2.1 hd (hk hL H locs ls hR hl hq)
theorem ab_so_imul (B : ab_Bd p s m args c base H0 sp D cA SL xs cc own) {run : ab_Run} {bud : Nat → Nat × Nat} {mc ms rt pc ln r1 r2 : Nat} {rs : List Nat} {L : ab_L} {st : List ab_V} {ce sl : Nat} {g : ab_G} {I : ab_I} {J : ab_J} {Q : ab_Q}  (hd : decode cc pc = .ok (.imul, ln)) (hln : ln = 1) (h : ab_st run bud mc ms rt (pc, .imul, ln, r1, r2, rs) L st ce sl g I J Q (ab_Pk p l e R s m args below meth c base H0 sp D cA SL xs Qm)) : ab_Pk p l e R s m args below meth c base H0 sp D cA SL xs Qm pc L st ce sl g I J := by
  subst hln
  obtain ⟨x, y, r, rfl, hk⟩ := ab_2i_e h
  exact fun hL H locs ls hR hl hq => lv_imul B.1 B.2.1 hd (hk hL H locs ls hR hl hq)
theorem ab_so_iand (B : ab_Bd p s m args c base H0 sp D cA SL xs cc own) {run : ab_Run} {bud : Nat → Nat × Nat} {mc ms rt pc ln r1 r2 : Nat} {rs : List Nat} {L : ab_L} {st : List ab_V} {ce sl : Nat} {g : ab_G} {I : ab_I} {J : ab_J} {Q : ab_Q}  (hd : decode cc pc = .ok (.iand, ln)) (hln : ln = 1) (h : ab_st run bud mc ms rt (pc, .iand, ln, r1, r2, rs) L st ce sl g I J Q (ab_Pk p l e R s m args below meth c base H0 sp D cA SL xs Qm)) : ab_Pk p l e R s m args below meth c base H0 sp D cA SL xs Qm pc L st ce sl g I J := by
  subst hln
  obtain ⟨x, y, r, rfl, hk⟩ := ab_2i_e h
  exact fun hL H locs ls hR hl hq => lv_iand B.1 B.2.1 hd (hk hL H locs ls hR hl hq)
theorem ab_so_ior (B : ab_Bd p s m args c base H0 sp D cA SL xs cc own) {run : ab_Run} {bud : Nat → Nat × Nat} {mc ms rt pc ln r1 r2 : Nat} {rs : List Nat} {L : ab_L} {st : List ab_V} {ce sl : Nat} {g : ab_G} {I : ab_I} {J : ab_J} {Q : ab_Q}  (hd : decode cc pc = .ok (.ior, ln)) (hln : ln = 1) (h : ab_st run bud mc ms rt (pc, .ior, ln, r1, r2, rs) L st ce sl g I J Q (ab_Pk p l e R s m args below meth c base H0 sp D cA SL xs Qm)) : ab_Pk p l e R s m args below meth c base H0 sp D cA SL xs Qm pc L st ce sl g I J := by
  subst hln
  obtain ⟨x, y, r, rfl, hk⟩ := ab_2i_e h
  exact fun hL H locs ls hR hl hq => lv_ior B.1 B.2.1 hd (hk hL H locs ls hR hl hq)
theorem ab_so_ixor (B : ab_Bd p s m args c base H0 sp D cA SL xs cc own) {run : ab_Run} {bud : Nat → Nat × Nat} {mc ms rt pc ln r1 r2 : Nat} {rs : List Nat} {L : ab_L} {st : List ab_V} {ce sl : Nat} {g : ab_G} {I : ab_I} {J : ab_J} {Q : ab_Q}  (hd : decode cc pc = .ok (.ixor, ln)) (hln : ln = 1) (h : ab_st run bud mc ms rt (pc, .ixor, ln, r1, r2, rs) L st ce sl g I J Q (ab_Pk p l e R s m args below meth c base H0 sp D cA SL xs Qm)) : ab_Pk p l e R s m args below meth c base H0 sp D cA SL xs Qm pc L st ce sl g I J := by
  subst hln
  obtain ⟨x, y, r, rfl, hk⟩ := ab_2i_e h
  exact fun hL H locs ls hR hl hq => lv_ixor B.1 B.2.1 hd (hk hL H locs ls hR hl hq)
theorem ab_so_ishl (B : ab_Bd p s m args c base H0 sp D cA SL xs cc own) {run : ab_Run} {bud : Nat → Nat × Nat} {mc ms rt pc ln r1 r2 : Nat} {rs : List Nat} {L : ab_L} {st : List ab_V} {ce sl : Nat} {g : ab_G} {I : ab_I} {J : ab_J} {Q : ab_Q}  (hd : decode cc pc = .ok (.ishl, ln)) (hln : ln = 1) (h : ab_st run bud mc ms rt (pc, .ishl, ln, r1, r2, rs) L st ce sl g I J Q (ab_Pk p l e R s m args below meth c base H0 sp D cA SL xs Qm)) : ab_Pk p l e R s m args below meth c base H0 sp D cA SL xs Qm pc L st ce sl g I J := by
  subst hln
  obtain ⟨x, y, r, rfl, hk⟩ := ab_2i_e h
  exact fun hL H locs ls hR hl hq => lv_ishl B.1 B.2.1 hd (hk hL H locs ls hR hl hq)
theorem ab_so_ishr (B : ab_Bd p s m args c base H0 sp D cA SL xs cc own) {run : ab_Run} {bud : Nat → Nat × Nat} {mc ms rt pc ln r1 r2 : Nat} {rs : List Nat} {L : ab_L} {st : List ab_V} {ce sl : Nat} {g : ab_G} {I : ab_I} {J : ab_J} {Q : ab_Q}  (hd : decode cc pc = .ok (.ishr, ln)) (hln : ln = 1) (h : ab_st run bud mc ms rt (pc, .ishr, ln, r1, r2, rs) L st ce sl g I J Q (ab_Pk p l e R s m args below meth c base H0 sp D cA SL xs Qm)) : ab_Pk p l e R s m args below meth c base H0 sp D cA SL xs Qm pc L st ce sl g I J := by
  subst hln
  obtain ⟨x, y, r, rfl, hk⟩ := ab_2i_e h
  exact fun hL H locs ls hR hl hq => lv_ishr B.1 B.2.1 hd (hk hL H locs ls hR hl hq)
theorem ab_so_idiv (B : ab_Bd p s m args c base H0 sp D cA SL xs cc own) {run : ab_Run} {bud : Nat → Nat × Nat} {mc ms rt pc ln r1 r2 : Nat} {rs : List Nat} {L : ab_L} {st : List ab_V} {ce sl : Nat} {g : ab_G} {I : ab_I} {J : ab_J} {Q : ab_Q}  (hd : decode cc pc = .ok (.idiv, ln)) (hln : ln = 1) (h : ab_st run bud mc ms rt (pc, .idiv, ln, r1, r2, rs) L st ce sl g I J Q (ab_Pk p l e R s m args below meth c base H0 sp D cA SL xs Qm)) : ab_Pk p l e R s m args below meth c base H0 sp D cA SL xs Qm pc L st ce sl g I J := by
  subst hln
  obtain ⟨x, y, r, rfl, hne, hk⟩ := ab_2i_e h
  exact fun hL H locs ls hR hl hq => lv_idiv B.1 B.2.1 hd hne (hk hL H locs ls hR hl hq)
theorem ab_so_irem (B : ab_Bd p s m args c base H0 sp D cA SL xs cc own) {run : ab_Run} {bud : Nat → Nat × Nat} {mc ms rt pc ln r1 r2 : Nat} {rs : List Nat} {L : ab_L} {st : List ab_V} {ce sl : Nat} {g : ab_G} {I : ab_I} {J : ab_J} {Q : ab_Q}  (hd : decode cc pc = .ok (.irem, ln)) (hln : ln = 1) (h : ab_st run bud mc ms rt (pc, .irem, ln, r1, r2, rs) L st ce sl g I J Q (ab_Pk p l e R s m args below meth c base H0 sp D cA SL xs Qm)) : ab_Pk p l e R s m args below meth c base H0 sp D cA SL xs Qm pc L st ce sl g I J := by
  subst hln
  obtain ⟨x, y, r, rfl, hne, hk⟩ := ab_2i_e h
  exact fun hL H locs ls hR hl hq => lv_irem B.1 B.2.1 hd hne (hk hL H locs ls hR hl hq)
theorem ab_so_iushr (B : ab_Bd p s m args c base H0 sp D cA SL xs cc own) {run : ab_Run} {bud : Nat → Nat × Nat} {mc ms rt pc ln r1 r2 : Nat} {rs : List Nat} {L : ab_L} {st : List ab_V} {ce sl : Nat} {g : ab_G} {I : ab_I} {J : ab_J} {Q : ab_Q}  (hd : decode cc pc = .ok (.iushr, ln)) (hln : ln = 1) (h : ab_st run bud mc ms rt (pc, .iushr, ln, r1, r2, rs) L st ce sl g I J Q (ab_Pk p l e R s m args below meth c base H0 sp D cA SL xs Qm)) : ab_Pk p l e R s m args below meth c base H0 sp D cA SL xs Qm pc L st ce sl g I J := by
  subst hln
  obtain ⟨x, y, r, rfl, hk⟩ := ab_2i_e h
  exact fun hL H locs ls hR hl hq => lv_iushr B.1 B.2.1 hd rfl (hk hL H locs ls hR hl hq)
theorem ab_so_ineg (B : ab_Bd p s m args c base H0 sp D cA SL xs cc own) {run : ab_Run} {bud : Nat → Nat × Nat} {mc ms rt pc ln r1 r2 : Nat} {rs : List Nat} {L : ab_L} {st : List ab_V} {ce sl : Nat} {g : ab_G} {I : ab_I} {J : ab_J} {Q : ab_Q}  (hd : decode cc pc = .ok (.ineg, ln)) (hln : ln = 1) (h : ab_st run bud mc ms rt (pc, .ineg, ln, r1, r2, rs) L st ce sl g I J Q (ab_Pk p l e R s m args below meth c base H0 sp D cA SL xs Qm)) : ab_Pk p l e R s m args below meth c base H0 sp D cA SL xs Qm pc L st ce sl g I J := by
  subst hln
  obtain ⟨x, r, rfl, hk⟩ := ab_1i_e h
  exact fun hL H locs ls hR hl hq => lv_ineg B.1 B.2.1 hd (hk hL H locs ls hR hl hq)
theorem ab_so_ladd (B : ab_Bd p s m args c base H0 sp D cA SL xs cc own) {run : ab_Run} {bud : Nat → Nat × Nat} {mc ms rt pc ln r1 r2 : Nat} {rs : List Nat} {L : ab_L} {st : List ab_V} {ce sl : Nat} {g : ab_G} {I : ab_I} {J : ab_J} {Q : ab_Q}  (hd : decode cc pc = .ok (.ladd, ln)) (hln : ln = 1) (h : ab_st run bud mc ms rt (pc, .ladd, ln, r1, r2, rs) L st ce sl g I J Q (ab_Pk p l e R s m args below meth c base H0 sp D cA SL xs Qm)) : ab_Pk p l e R s m args below meth c base H0 sp D cA SL xs Qm pc L st ce sl g I J := by
  subst hln
  obtain ⟨x, y, r, rfl, hk⟩ := ab_2l_e h
  exact fun hL H locs ls hR hl hq => lv_ladd B.1 B.2.1 hd (hk hL H locs ls hR hl hq)
theorem ab_so_lsub (B : ab_Bd p s m args c base H0 sp D cA SL xs cc own) {run : ab_Run} {bud : Nat → Nat × Nat} {mc ms rt pc ln r1 r2 : Nat} {rs : List Nat} {L : ab_L} {st : List ab_V} {ce sl : Nat} {g : ab_G} {I : ab_I} {J : ab_J} {Q : ab_Q}  (hd : decode cc pc = .ok (.lsub, ln)) (hln : ln = 1) (h : ab_st run bud mc ms rt (pc, .lsub, ln, r1, r2, rs) L st ce sl g I J Q (ab_Pk p l e R s m args below meth c base H0 sp D cA SL xs Qm)) : ab_Pk p l e R s m args below meth c base H0 sp D cA SL xs Qm pc L st ce sl g I J := by
  subst hln
  obtain ⟨x, y, r, rfl, hk⟩ := ab_2l_e h
  exact fun hL H locs ls hR hl hq => lv_lsub B.1 B.2.1 hd (hk hL H locs ls hR hl hq)
theorem ab_so_lmul (B : ab_Bd p s m args c base H0 sp D cA SL xs cc own) {run : ab_Run} {bud : Nat → Nat × Nat} {mc ms rt pc ln r1 r2 : Nat} {rs : List Nat} {L : ab_L} {st : List ab_V} {ce sl : Nat} {g : ab_G} {I : ab_I} {J : ab_J} {Q : ab_Q}  (hd : decode cc pc = .ok (.lmul, ln)) (hln : ln = 1) (h : ab_st run bud mc ms rt (pc, .lmul, ln, r1, r2, rs) L st ce sl g I J Q (ab_Pk p l e R s m args below meth c base H0 sp D cA SL xs Qm)) : ab_Pk p l e R s m args below meth c base H0 sp D cA SL xs Qm pc L st ce sl g I J := by
  subst hln
  obtain ⟨x, y, r, rfl, hk⟩ := ab_2l_e h
  exact fun hL H locs ls hR hl hq => lv_lmul B.1 B.2.1 hd (hk hL H locs ls hR hl hq)
theorem ab_so_land (B : ab_Bd p s m args c base H0 sp D cA SL xs cc own) {run : ab_Run} {bud : Nat → Nat × Nat} {mc ms rt pc ln r1 r2 : Nat} {rs : List Nat} {L : ab_L} {st : List ab_V} {ce sl : Nat} {g : ab_G} {I : ab_I} {J : ab_J} {Q : ab_Q}  (hd : decode cc pc = .ok (.land, ln)) (hln : ln = 1) (h : ab_st run bud mc ms rt (pc, .land, ln, r1, r2, rs) L st ce sl g I J Q (ab_Pk p l e R s m args below meth c base H0 sp D cA SL xs Qm)) : ab_Pk p l e R s m args below meth c base H0 sp D cA SL xs Qm pc L st ce sl g I J := by
  subst hln
  obtain ⟨x, y, r, rfl, hk⟩ := ab_2l_e h
  exact fun hL H locs ls hR hl hq => lv_land B.1 B.2.1 hd (hk hL H locs ls hR hl hq)
theorem ab_so_lor (B : ab_Bd p s m args c base H0 sp D cA SL xs cc own) {run : ab_Run} {bud : Nat → Nat × Nat} {mc ms rt pc ln r1 r2 : Nat} {rs : List Nat} {L : ab_L} {st : List ab_V} {ce sl : Nat} {g : ab_G} {I : ab_I} {J : ab_J} {Q : ab_Q}  (hd : decode cc pc = .ok (.lor, ln)) (hln : ln = 1) (h : ab_st run bud mc ms rt (pc, .lor, ln, r1, r2, rs) L st ce sl g I J Q (ab_Pk p l e R s m args below meth c base H0 sp D cA SL xs Qm)) : ab_Pk p l e R s m args below meth c base H0 sp D cA SL xs Qm pc L st ce sl g I J := by
  subst hln
  obtain ⟨x, y, r, rfl, hk⟩ := ab_2l_e h
  exact fun hL H locs ls hR hl hq => lv_lor B.1 B.2.1 hd (hk hL H locs ls hR hl hq)
theorem ab_so_lshl (B : ab_Bd p s m args c base H0 sp D cA SL xs cc own) {run : ab_Run} {bud : Nat → Nat × Nat} {mc ms rt pc ln r1 r2 : Nat} {rs : List Nat} {L : ab_L} {st : List ab_V} {ce sl : Nat} {g : ab_G} {I : ab_I} {J : ab_J} {Q : ab_Q}  (hd : decode cc pc = .ok (.lshl, ln)) (hln : ln = 1) (h : ab_st run bud mc ms rt (pc, .lshl, ln, r1, r2, rs) L st ce sl g I J Q (ab_Pk p l e R s m args below meth c base H0 sp D cA SL xs Qm)) : ab_Pk p l e R s m args below meth c base H0 sp D cA SL xs Qm pc L st ce sl g I J := by
  subst hln
  obtain ⟨x, y, r, rfl, hk⟩ := ab_li_e h
  exact fun hL H locs ls hR hl hq => lv_lshl B.1 B.2.1 hd rfl (hk hL H locs ls hR hl hq)
theorem ab_so_lcmp (B : ab_Bd p s m args c base H0 sp D cA SL xs cc own) {run : ab_Run} {bud : Nat → Nat × Nat} {mc ms rt pc ln r1 r2 : Nat} {rs : List Nat} {L : ab_L} {st : List ab_V} {ce sl : Nat} {g : ab_G} {I : ab_I} {J : ab_J} {Q : ab_Q}  (hd : decode cc pc = .ok (.lcmp, ln)) (hln : ln = 1) (h : ab_st run bud mc ms rt (pc, .lcmp, ln, r1, r2, rs) L st ce sl g I J Q (ab_Pk p l e R s m args below meth c base H0 sp D cA SL xs Qm)) : ab_Pk p l e R s m args below meth c base H0 sp D cA SL xs Qm pc L st ce sl g I J := by
  subst hln
  obtain ⟨x, y, r, rfl, hk⟩ := ab_2l_e h
  exact fun hL H locs ls hR hl hq => W.lcmp B.1 B.2.1 hd (hk hL H locs ls hR hl hq)
theorem ab_so_i2l (B : ab_Bd p s m args c base H0 sp D cA SL xs cc own) {run : ab_Run} {bud : Nat → Nat × Nat} {mc ms rt pc ln r1 r2 : Nat} {rs : List Nat} {L : ab_L} {st : List ab_V} {ce sl : Nat} {g : ab_G} {I : ab_I} {J : ab_J} {Q : ab_Q}  (hd : decode cc pc = .ok (.i2l, ln)) (hln : ln = 1) (h : ab_st run bud mc ms rt (pc, .i2l, ln, r1, r2, rs) L st ce sl g I J Q (ab_Pk p l e R s m args below meth c base H0 sp D cA SL xs Qm)) : ab_Pk p l e R s m args below meth c base H0 sp D cA SL xs Qm pc L st ce sl g I J := by
  subst hln
  obtain ⟨x, r, rfl, hk⟩ := ab_1i_e h
  exact fun hL H locs ls hR hl hq => by
    first
      | exact lv_i2l B.1 B.2.1 hd (hk hL H locs ls hR hl hq)
      | exact lv_i2l B.1 B.2.1 hd rfl (hk hL H locs ls hR hl hq)
theorem ab_so_l2i (B : ab_Bd p s m args c base H0 sp D cA SL xs cc own) {run : ab_Run} {bud : Nat → Nat × Nat} {mc ms rt pc ln r1 r2 : Nat} {rs : List Nat} {L : ab_L} {st : List ab_V} {ce sl : Nat} {g : ab_G} {I : ab_I} {J : ab_J} {Q : ab_Q}  (hd : decode cc pc = .ok (.l2i, ln)) (hln : ln = 1) (h : ab_st run bud mc ms rt (pc, .l2i, ln, r1, r2, rs) L st ce sl g I J Q (ab_Pk p l e R s m args below meth c base H0 sp D cA SL xs Qm)) : ab_Pk p l e R s m args below meth c base H0 sp D cA SL xs Qm pc L st ce sl g I J := by
  subst hln
  obtain ⟨x, r, rfl, hk⟩ := ab_1l_e h
  exact fun hL H locs ls hR hl hq => by
    first
      | exact lv_l2i B.1 B.2.1 hd (hk hL H locs ls hR hl hq)
      | exact lv_l2i B.1 B.2.1 hd rfl (hk hL H locs ls hR hl hq)
theorem ab_so_i2b (B : ab_Bd p s m args c base H0 sp D cA SL xs cc own) {run : ab_Run} {bud : Nat → Nat × Nat} {mc ms rt pc ln r1 r2 : Nat} {rs : List Nat} {L : ab_L} {st : List ab_V} {ce sl : Nat} {g : ab_G} {I : ab_I} {J : ab_J} {Q : ab_Q}  (hd : decode cc pc = .ok (.i2b, ln)) (hln : ln = 1) (h : ab_st run bud mc ms rt (pc, .i2b, ln, r1, r2, rs) L st ce sl g I J Q (ab_Pk p l e R s m args below meth c base H0 sp D cA SL xs Qm)) : ab_Pk p l e R s m args below meth c base H0 sp D cA SL xs Qm pc L st ce sl g I J := by
  subst hln
  obtain ⟨x, r, rfl, hk⟩ := ab_1i_e h
  exact fun hL H locs ls hR hl hq => by
    first
      | exact lv_i2b B.1 B.2.1 hd (hk hL H locs ls hR hl hq)
      | exact lv_i2b B.1 B.2.1 hd rfl (hk hL H locs ls hR hl hq)
theorem ab_so_i2s (B : ab_Bd p s m args c base H0 sp D cA SL xs cc own) {run : ab_Run} {bud : Nat → Nat × Nat} {mc ms rt pc ln r1 r2 : Nat} {rs : List Nat} {L : ab_L} {st : List ab_V} {ce sl : Nat} {g : ab_G} {I : ab_I} {J : ab_J} {Q : ab_Q}  (hd : decode cc pc = .ok (.i2s, ln)) (hln : ln = 1) (h : ab_st run bud mc ms rt (pc, .i2s, ln, r1, r2, rs) L st ce sl g I J Q (ab_Pk p l e R s m args below meth c base H0 sp D cA SL xs Qm)) : ab_Pk p l e R s m args below meth c base H0 sp D cA SL xs Qm pc L st ce sl g I J := by
  subst hln
  obtain ⟨x, r, rfl, hk⟩ := ab_1i_e h
  exact fun hL H locs ls hR hl hq => by
    first
      | exact lv_i2s B.1 B.2.1 hd (hk hL H locs ls hR hl hq)
      | exact lv_i2s B.1 B.2.1 hd rfl (hk hL H locs ls hR hl hq)
theorem ab_so_i2c (B : ab_Bd p s m args c base H0 sp D cA SL xs cc own) {run : ab_Run} {bud : Nat → Nat × Nat} {mc ms rt pc ln r1 r2 : Nat} {rs : List Nat} {L : ab_L} {st : List ab_V} {ce sl : Nat} {g : ab_G} {I : ab_I} {J : ab_J} {Q : ab_Q}  (hd : decode cc pc = .ok (.i2c, ln)) (hln : ln = 1) (h : ab_st run bud mc ms rt (pc, .i2c, ln, r1, r2, rs) L st ce sl g I J Q (ab_Pk p l e R s m args below meth c base H0 sp D cA SL xs Qm)) : ab_Pk p l e R s m args below meth c base H0 sp D cA SL xs Qm pc L st ce sl g I J := by
  subst hln
  obtain ⟨x, r, rfl, hk⟩ := ab_1i_e h
  exact fun hL H locs ls hR hl hq => by
    first
      | exact lv_i2c B.1 B.2.1 hd (hk hL H locs ls hR hl hq)
      | exact lv_i2c B.1 B.2.1 hd rfl (hk hL H locs ls hR hl hq)
theorem ab_so_iconst (B : ab_Bd p s m args c base H0 sp D cA SL xs cc own) {run : ab_Run} {bud : Nat → Nat × Nat} {mc ms rt pc ln r1 r2 : Nat} {rs : List Nat} {L : ab_L} {st : List ab_V} {ce sl : Nat} {g : ab_G} {I : ab_I} {J : ab_J} {Q : ab_Q} {n : Int} (hd : decode cc pc = .ok (.iconst n, ln)) (hln : ln = 1) (h : ab_st run bud mc ms rt (pc, .iconst n, ln, r1, r2, rs) L st ce sl g I J Q (ab_Pk p l e R s m args below meth c base H0 sp D cA SL xs Qm)) : ab_Pk p l e R s m args below meth c base H0 sp D cA SL xs Qm pc L st ce sl g I J := by
  subst hln
  exact fun hL H locs ls hR hl hq => lv_iconst B.1 B.2.1 hd rfl (h hL H locs ls hR hl hq)
theorem ab_so_bipush (B : ab_Bd p s m args c base H0 sp D cA SL xs cc own) {run : ab_Run} {bud : Nat → Nat × Nat} {mc ms rt pc ln r1 r2 : Nat} {rs : List Nat} {L : ab_L} {st : List ab_V} {ce sl : Nat} {g : ab_G} {I : ab_I} {J : ab_J} {Q : ab_Q} {n : Int} (hd : decode cc pc = .ok (.bipush n, ln)) (hln : ln = 2) (hn : (Int8.ofInt n).toInt32 = Int32.ofInt n) (h : ab_st run bud mc ms rt (pc, .bipush n, ln, r1, r2, rs) L st ce sl g I J Q (ab_Pk p l e R s m args below meth c base H0 sp D cA SL xs Qm)) : ab_Pk p l e R s m args below meth c base H0 sp D cA SL xs Qm pc L st ce sl g I J := by
  subst hln
  exact fun hL H locs ls hR hl hq => lv_bipush B.1 B.2.1 hd hn (h hL H locs ls hR hl hq)
theorem ab_so_sipush (B : ab_Bd p s m args c base H0 sp D cA SL xs cc own) {run : ab_Run} {bud : Nat → Nat × Nat} {mc ms rt pc ln r1 r2 : Nat} {rs : List Nat} {L : ab_L} {st : List ab_V} {ce sl : Nat} {g : ab_G} {I : ab_I} {J : ab_J} {Q : ab_Q} {n : Int} (hd : decode cc pc = .ok (.sipush n, ln)) (hln : ln = 3) (hn : (Int16.ofInt n).toInt32 = Int32.ofInt n) (h : ab_st run bud mc ms rt (pc, .sipush n, ln, r1, r2, rs) L st ce sl g I J Q (ab_Pk p l e R s m args below meth c base H0 sp D cA SL xs Qm)) : ab_Pk p l e R s m args below meth c base H0 sp D cA SL xs Qm pc L st ce sl g I J := by
  subst hln
  exact fun hL H locs ls hR hl hq => lv_sipush B.1 B.2.1 hd hn (h hL H locs ls hR hl hq)
theorem ab_so_lconst (B : ab_Bd p s m args c base H0 sp D cA SL xs cc own) {run : ab_Run} {bud : Nat → Nat × Nat} {mc ms rt pc ln r1 r2 : Nat} {rs : List Nat} {L : ab_L} {st : List ab_V} {ce sl : Nat} {g : ab_G} {I : ab_I} {J : ab_J} {Q : ab_Q} {n : Fin 2} (hd : decode cc pc = .ok (.lconst n, ln)) (hln : ln = 1) (h : ab_st run bud mc ms rt (pc, .lconst n, ln, r1, r2, rs) L st ce sl g I J Q (ab_Pk p l e R s m args below meth c base H0 sp D cA SL xs Qm)) : ab_Pk p l e R s m args below meth c base H0 sp D cA SL xs Qm pc L st ce sl g I J := by
  subst hln
  exact fun hL H locs ls hR hl hq => lv_lconst B.1 B.2.1 hd rfl (h hL H locs ls hR hl hq)
theorem ab_so_null (B : ab_Bd p s m args c base H0 sp D cA SL xs cc own) {run : ab_Run} {bud : Nat → Nat × Nat} {mc ms rt pc ln r1 r2 : Nat} {rs : List Nat} {L : ab_L} {st : List ab_V} {ce sl : Nat} {g : ab_G} {I : ab_I} {J : ab_J} {Q : ab_Q}  (hd : decode cc pc = .ok (.aconst_null, ln)) (hln : ln = 1) (h : ab_st run bud mc ms rt (pc, .aconst_null, ln, r1, r2, rs) L st ce sl g I J Q (ab_Pk p l e R s m args below meth c base H0 sp D cA SL xs Qm)) : ab_Pk p l e R s m args below meth c base H0 sp D cA SL xs Qm pc L st ce sl g I J := by
  subst hln
  exact fun hL H locs ls hR hl hq => lv_null B.1 B.2.1 hd (h hL H locs ls hR hl hq)
theorem ab_so_iload (B : ab_Bd p s m args c base H0 sp D cA SL xs cc own) {run : ab_Run} {bud : Nat → Nat × Nat} {mc ms rt pc ln r1 r2 : Nat} {rs : List Nat} {L : ab_L} {st : List ab_V} {ce sl : Nat} {g : ab_G} {I : ab_I} {J : ab_J} {Q : ab_Q} {i : Nat} (hd : decode cc pc = .ok (.iload i, ln)) (hln : ln = 2) (h : ab_st run bud mc ms rt (pc, .iload i, ln, r1, r2, rs) L st ce sl g I J Q (ab_Pk p l e R s m args below meth c base H0 sp D cA SL xs Qm)) : ab_Pk p l e R s m args below meth c base H0 sp D cA SL xs Qm pc L st ce sl g I J := by
  subst hln
  obtain ⟨v, hv, h2⟩ := ab_get_e h
  obtain ⟨x, rfl, hk⟩ := ab_isI_e h2
  exact fun hL H locs ls hR hl hq => lv_iload B.1 B.2.1 hd (ab_lv_get hl hv) (hk hL H locs ls hR hl hq)
theorem ab_so_iload_n (B : ab_Bd p s m args c base H0 sp D cA SL xs cc own) {run : ab_Run} {bud : Nat → Nat × Nat} {mc ms rt pc ln r1 r2 : Nat} {rs : List Nat} {L : ab_L} {st : List ab_V} {ce sl : Nat} {g : ab_G} {I : ab_I} {J : ab_J} {Q : ab_Q} {i : Fin 4} (hd : decode cc pc = .ok (.iload_n i, ln)) (hln : ln = 1) (h : ab_st run bud mc ms rt (pc, .iload_n i, ln, r1, r2, rs) L st ce sl g I J Q (ab_Pk p l e R s m args below meth c base H0 sp D cA SL xs Qm)) : ab_Pk p l e R s m args below meth c base H0 sp D cA SL xs Qm pc L st ce sl g I J := by
  subst hln
  obtain ⟨v, hv, h2⟩ := ab_get_e h
  obtain ⟨x, rfl, hk⟩ := ab_isI_e h2
  exact fun hL H locs ls hR hl hq => lv_iload_n B.1 B.2.1 hd rfl (ab_lv_get hl hv) (hk hL H locs ls hR hl hq)
theorem ab_so_lload (B : ab_Bd p s m args c base H0 sp D cA SL xs cc own) {run : ab_Run} {bud : Nat → Nat × Nat} {mc ms rt pc ln r1 r2 : Nat} {rs : List Nat} {L : ab_L} {st : List ab_V} {ce sl : Nat} {g : ab_G} {I : ab_I} {J : ab_J} {Q : ab_Q} {i : Nat} (hd : decode cc pc = .ok (.lload i, ln)) (hln : ln = 2) (h : ab_st run bud mc ms rt (pc, .lload i, ln, r1, r2, rs) L st ce sl g I J Q (ab_Pk p l e R s m args below meth c base H0 sp D cA SL xs Qm)) : ab_Pk p l e R s m args below meth c base H0 sp D cA SL xs Qm pc L st ce sl g I J := by
  subst hln
  obtain ⟨v, hv, h2⟩ := ab_get_e h
  obtain ⟨x, rfl, hk⟩ := ab_isL_e h2
  exact fun hL H locs ls hR hl hq => lv_lload B.1 B.2.1 hd (ab_lv_get hl hv) (hk hL H locs ls hR hl hq)
theorem ab_so_lload_n (B : ab_Bd p s m args c base H0 sp D cA SL xs cc own) {run : ab_Run} {bud : Nat → Nat × Nat} {mc ms rt pc ln r1 r2 : Nat} {rs : List Nat} {L : ab_L} {st : List ab_V} {ce sl : Nat} {g : ab_G} {I : ab_I} {J : ab_J} {Q : ab_Q} {i : Fin 4} (hd : decode cc pc = .ok (.lload_n i, ln)) (hln : ln = 1) (h : ab_st run bud mc ms rt (pc, .lload_n i, ln, r1, r2, rs) L st ce sl g I J Q (ab_Pk p l e R s m args below meth c base H0 sp D cA SL xs Qm)) : ab_Pk p l e R s m args below meth c base H0 sp D cA SL xs Qm pc L st ce sl g I J := by
  subst hln
  obtain ⟨v, hv, h2⟩ := ab_get_e h
  obtain ⟨x, rfl, hk⟩ := ab_isL_e h2
  exact fun hL H locs ls hR hl hq => lv_lload_n B.1 B.2.1 hd rfl (ab_lv_get hl hv) (hk hL H locs ls hR hl hq)
theorem ab_so_aload (B : ab_Bd p s m args c base H0 sp D cA SL xs cc own) {run : ab_Run} {bud : Nat → Nat × Nat} {mc ms rt pc ln r1 r2 : Nat} {rs : List Nat} {L : ab_L} {st : List ab_V} {ce sl : Nat} {g : ab_G} {I : ab_I} {J : ab_J} {Q : ab_Q} {i : Nat} (hd : decode cc pc = .ok (.aload i, ln)) (hln : ln = 2) (h : ab_st run bud mc ms rt (pc, .aload i, ln, r1, r2, rs) L st ce sl g I J Q (ab_Pk p l e R s m args below meth c base H0 sp D cA SL xs Qm)) : ab_Pk p l e R s m args below meth c base H0 sp D cA SL xs Qm pc L st ce sl g I J := by
  subst hln
  obtain ⟨v, hv, h2⟩ := ab_get_e h
  obtain ⟨x, rfl, hk⟩ := ab_isR_e h2
  intro hL H locs ls hR hl hq
  have h3 := ab_lv_get hl hv
  have h4 := hk hL H locs ls hR hl hq
  cases x with
  | none => exact lv_aloadN B.1 B.2.1 hd h3 h4
  | some a => exact lv_aload B.1 B.2.1 hd h3 h4
theorem ab_so_aload_n (B : ab_Bd p s m args c base H0 sp D cA SL xs cc own) {run : ab_Run} {bud : Nat → Nat × Nat} {mc ms rt pc ln r1 r2 : Nat} {rs : List Nat} {L : ab_L} {st : List ab_V} {ce sl : Nat} {g : ab_G} {I : ab_I} {J : ab_J} {Q : ab_Q} {i : Fin 4} (hd : decode cc pc = .ok (.aload_n i, ln)) (hln : ln = 1) (h : ab_st run bud mc ms rt (pc, .aload_n i, ln, r1, r2, rs) L st ce sl g I J Q (ab_Pk p l e R s m args below meth c base H0 sp D cA SL xs Qm)) : ab_Pk p l e R s m args below meth c base H0 sp D cA SL xs Qm pc L st ce sl g I J := by
  subst hln
  obtain ⟨v, hv, h2⟩ := ab_get_e h
  obtain ⟨x, rfl, hk⟩ := ab_isR_e h2
  intro hL H locs ls hR hl hq
  have h3 := ab_lv_get hl hv
  have h4 := hk hL H locs ls hR hl hq
  cases x with
  | none => exact lv_aload_nN B.1 B.2.1 hd rfl h3 h4
  | some a => exact lv_aload_n B.1 B.2.1 hd rfl h3 h4
theorem ab_s1_len (L : ab_L) (i : Nat) (v : ab_V) : (ab_s1 L i v).length = L.length := by simp [ab_s1, ab_kl_len]
theorem ab_s2_len (L : ab_L) (i : Nat) (v : ab_V) : (ab_s2 L i v).length = L.length := by simp [ab_s2, ab_kl_len]
theorem ab_so_istore (B : ab_Bd p s m args c base H0 sp D cA SL xs cc own) {run : ab_Run} {bud : Nat → Nat × Nat} {mc ms rt pc ln r1 r2 : Nat} {rs : List Nat} {L : ab_L} {st : List ab_V} {ce sl : Nat} {g : ab_G} {I : ab_I} {J : ab_J} {Q : ab_Q} {i : Nat} (hd : decode cc pc = .ok (.istore i, ln)) (hln : ln = 2) (h : ab_st run bud mc ms rt (pc, .istore i, ln, r1, r2, rs) L st ce sl g I J Q (ab_Pk p l e R s m args below meth c base H0 sp D cA SL xs Qm)) : ab_Pk p l e R s m args below meth c base H0 sp D cA SL xs Qm pc L st ce sl g I J := by
  subst hln
  obtain ⟨hi, h⟩ := h
  obtain ⟨x, r, rfl, hk⟩ := ab_1i_e h
  exact fun hL H locs ls hR hl hq => lv_istore B.1 B.2.1 hd hl hi rfl (fun ls' h' => hk (by rw [ab_s1_len]; exact hL) H locs ls' hR (ab_lv_s1 (v := vI x) (ls := ls) hi rfl h') hq)
theorem ab_so_istore_n (B : ab_Bd p s m args c base H0 sp D cA SL xs cc own) {run : ab_Run} {bud : Nat → Nat × Nat} {mc ms rt pc ln r1 r2 : Nat} {rs : List Nat} {L : ab_L} {st : List ab_V} {ce sl : Nat} {g : ab_G} {I : ab_I} {J : ab_J} {Q : ab_Q} {i : Fin 4} (hd : decode cc pc = .ok (.istore_n i, ln)) (hln : ln = 1) (h : ab_st run bud mc ms rt (pc, .istore_n i, ln, r1, r2, rs) L st ce sl g I J Q (ab_Pk p l e R s m args below meth c base H0 sp D cA SL xs Qm)) : ab_Pk p l e R s m args below meth c base H0 sp D cA SL xs Qm pc L st ce sl g I J := by
  subst hln
  obtain ⟨hi, h⟩ := h
  obtain ⟨x, r, rfl, hk⟩ := ab_1i_e h
  exact fun hL H locs ls hR hl hq => lv_istore_n B.1 B.2.1 hd rfl hl hi rfl (fun ls' h' => hk (by rw [ab_s1_len]; exact hL) H locs ls' hR (ab_lv_s1 (v := vI x) (ls := ls) hi rfl h') hq)
theorem ab_so_lstore (B : ab_Bd p s m args c base H0 sp D cA SL xs cc own) {run : ab_Run} {bud : Nat → Nat × Nat} {mc ms rt pc ln r1 r2 : Nat} {rs : List Nat} {L : ab_L} {st : List ab_V} {ce sl : Nat} {g : ab_G} {I : ab_I} {J : ab_J} {Q : ab_Q} {i : Nat} (hd : decode cc pc = .ok (.lstore i, ln)) (hln : ln = 2) (h : ab_st run bud mc ms rt (pc, .lstore i, ln, r1, r2, rs) L st ce sl g I J Q (ab_Pk p l e R s m args below meth c base H0 sp D cA SL xs Qm)) : ab_Pk p l e R s m args below meth c base H0 sp D cA SL xs Qm pc L st ce sl g I J := by
  subst hln
  obtain ⟨hi, h⟩ := h
  obtain ⟨x, r, rfl, hk⟩ := ab_1l_e h
  exact fun hL H locs ls hR hl hq => lv_lstore B.1 B.2.1 hd hl hi rfl (fun ls' h' => hk (by rw [ab_s2_len]; exact hL) H locs ls' hR (ab_lv_s2 (v := vL x) (ls := ls) hi h') hq)
theorem ab_so_lstore_n (B : ab_Bd p s m args c base H0 sp D cA SL xs cc own) {run : ab_Run} {bud : Nat → Nat × Nat} {mc ms rt pc ln r1 r2 : Nat} {rs : List Nat} {L : ab_L} {st : List ab_V} {ce sl : Nat} {g : ab_G} {I : ab_I} {J : ab_J} {Q : ab_Q} {i : Fin 4} (hd : decode cc pc = .ok (.lstore_n i, ln)) (hln : ln = 1) (h : ab_st run bud mc ms rt (pc, .lstore_n i, ln, r1, r2, rs) L st ce sl g I J Q (ab_Pk p l e R s m args below meth c base H0 sp D cA SL xs Qm)) : ab_Pk p l e R s m args below meth c base H0 sp D cA SL xs Qm pc L st ce sl g I J := by
  subst hln
  obtain ⟨hi, h⟩ := h
  obtain ⟨x, r, rfl, hk⟩ := ab_1l_e h
  exact fun hL H locs ls hR hl hq => lv_lstore_n B.1 B.2.1 hd rfl hl hi rfl (fun ls' h' => hk (by rw [ab_s2_len]; exact hL) H locs ls' hR (ab_lv_s2 (v := vL x) (ls := ls) hi h') hq)
theorem ab_so_astore (B : ab_Bd p s m args c base H0 sp D cA SL xs cc own) {run : ab_Run} {bud : Nat → Nat × Nat} {mc ms rt pc ln r1 r2 : Nat} {rs : List Nat} {L : ab_L} {st : List ab_V} {ce sl : Nat} {g : ab_G} {I : ab_I} {J : ab_J} {Q : ab_Q} {i : Nat} (hd : decode cc pc = .ok (.astore i, ln)) (hln : ln = 2) (h : ab_st run bud mc ms rt (pc, .astore i, ln, r1, r2, rs) L st ce sl g I J Q (ab_Pk p l e R s m args below meth c base H0 sp D cA SL xs Qm)) : ab_Pk p l e R s m args below meth c base H0 sp D cA SL xs Qm pc L st ce sl g I J := by
  subst hln
  obtain ⟨hi, h⟩ := h
  obtain ⟨x, r, rfl, hk⟩ := ab_1r_e h
  intro hL H locs ls hR hl hq
  cases x with
  | none => exact lv_astoreN B.1 B.2.1 hd hl hi rfl (fun ls' h' => hk (by rw [ab_s1_len]; exact hL) H locs ls' hR (ab_lv_s1 (v := vR none) (ls := ls) hi rfl h') hq)
  | some a => exact lv_astore B.1 B.2.1 hd hl hi rfl (fun ls' h' => hk (by rw [ab_s1_len]; exact hL) H locs ls' hR (ab_lv_s1 (v := vR (some a)) (ls := ls) hi rfl h') hq)
theorem ab_so_astore_n (B : ab_Bd p s m args c base H0 sp D cA SL xs cc own) {run : ab_Run} {bud : Nat → Nat × Nat} {mc ms rt pc ln r1 r2 : Nat} {rs : List Nat} {L : ab_L} {st : List ab_V} {ce sl : Nat} {g : ab_G} {I : ab_I} {J : ab_J} {Q : ab_Q} {i : Fin 4} (hd : decode cc pc = .ok (.astore_n i, ln)) (hln : ln = 1) (h : ab_st run bud mc ms rt (pc, .astore_n i, ln, r1, r2, rs) L st ce sl g I J Q (ab_Pk p l e R s m args below meth c base H0 sp D cA SL xs Qm)) : ab_Pk p l e R s m args below meth c base H0 sp D cA SL xs Qm pc L st ce sl g I J := by
  subst hln
  obtain ⟨hi, h⟩ := h
  obtain ⟨x, r, rfl, hk⟩ := ab_1r_e h
  intro hL H locs ls hR hl hq
  cases x with
  | none => exact lv_astore_nN B.1 B.2.1 hd rfl hl hi rfl (fun ls' h' => hk (by rw [ab_s1_len]; exact hL) H locs ls' hR (ab_lv_s1 (v := vR none) (ls := ls) hi rfl h') hq)
  | some a => exact lv_astore_n B.1 B.2.1 hd rfl hl hi rfl (fun ls' h' => hk (by rw [ab_s1_len]; exact hL) H locs ls' hR (ab_lv_s1 (v := vR (some a)) (ls := ls) hi rfl h') hq)
theorem ab_so_iinc (B : ab_Bd p s m args c base H0 sp D cA SL xs cc own) {run : ab_Run} {bud : Nat → Nat × Nat} {mc ms rt pc ln r1 r2 : Nat} {rs : List Nat} {L : ab_L} {st : List ab_V} {ce sl : Nat} {g : ab_G} {I : ab_I} {J : ab_J} {Q : ab_Q} {i : Nat} {n : Int} (hd : decode cc pc = .ok (.iinc i n, ln)) (hln : ln = 3) (h : ab_st run bud mc ms rt (pc, .iinc i n, ln, r1, r2, rs) L st ce sl g I J Q (ab_Pk p l e R s m args below meth c base H0 sp D cA SL xs Qm)) : ab_Pk p l e R s m args below meth c base H0 sp D cA SL xs Qm pc L st ce sl g I J := by
  subst hln
  obtain ⟨hi, h⟩ := h
  obtain ⟨v, hv, h2⟩ := ab_get_e h
  obtain ⟨x, rfl, hk⟩ := ab_isI_e h2
  intro hL H locs ls hR hl hq
  have hm : (i, ab_cv base sp (vI x)) ∈ ab_prs base sp L := ab_prs_mem.mpr ⟨_, hv, rfl⟩
  obtain ⟨k, hk2⟩ := List.getElem?_of_mem hm
  exact lv_iinc B.1 B.2.1 hd hl hk2 rfl hi rfl (fun ls' h' => hk (by rw [ab_s1_len]; exact hL) H locs ls' hR (ab_lv_s1 (v := vI (x + Int32.ofInt n)) (ls := ls) hi rfl h') hq)
theorem ab_so_dup (B : ab_Bd p s m args c base H0 sp D cA SL xs cc own) {run : ab_Run} {bud : Nat → Nat × Nat} {mc ms rt pc ln r1 r2 : Nat} {rs : List Nat} {L : ab_L} {st : List ab_V} {ce sl : Nat} {g : ab_G} {I : ab_I} {J : ab_J} {Q : ab_Q}  (hd : decode cc pc = .ok (.dup, ln)) (hln : ln = 1) (h : ab_st run bud mc ms rt (pc, .dup, ln, r1, r2, rs) L st ce sl g I J Q (ab_Pk p l e R s m args below meth c base H0 sp D cA SL xs Qm)) : ab_Pk p l e R s m args below meth c base H0 sp D cA SL xs Qm pc L st ce sl g I J := by
  subst hln
  cases st with
  | nil => exact h.elim
  | cons v r =>
    obtain ⟨hv, hk⟩ := h
    exact fun hL H locs ls hR hl hq => lv_dup B.1 B.2.1 hd (by rw [ab_cat_cv]; exact hv) (hk hL H locs ls hR hl hq)
theorem ab_so_pop (B : ab_Bd p s m args c base H0 sp D cA SL xs cc own) {run : ab_Run} {bud : Nat → Nat × Nat} {mc ms rt pc ln r1 r2 : Nat} {rs : List Nat} {L : ab_L} {st : List ab_V} {ce sl : Nat} {g : ab_G} {I : ab_I} {J : ab_J} {Q : ab_Q}  (hd : decode cc pc = .ok (.pop, ln)) (hln : ln = 1) (h : ab_st run bud mc ms rt (pc, .pop, ln, r1, r2, rs) L st ce sl g I J Q (ab_Pk p l e R s m args below meth c base H0 sp D cA SL xs Qm)) : ab_Pk p l e R s m args below meth c base H0 sp D cA SL xs Qm pc L st ce sl g I J := by
  subst hln
  cases st with
  | nil => exact h.elim
  | cons v r =>
    obtain ⟨hv, hk⟩ := h
    exact fun hL H locs ls hR hl hq => lv_pop B.1 B.2.1 hd (by rw [ab_cat_cv]; exact hv) (hk hL H locs ls hR hl hq)
theorem ab_so_dup2 (B : ab_Bd p s m args c base H0 sp D cA SL xs cc own) {run : ab_Run} {bud : Nat → Nat × Nat} {mc ms rt pc ln r1 r2 : Nat} {rs : List Nat} {L : ab_L} {st : List ab_V} {ce sl : Nat} {g : ab_G} {I : ab_I} {J : ab_J} {Q : ab_Q}  (hd : decode cc pc = .ok (.dup2, ln)) (hln : ln = 1) (h : ab_st run bud mc ms rt (pc, .dup2, ln, r1, r2, rs) L st ce sl g I J Q (ab_Pk p l e R s m args below meth c base H0 sp D cA SL xs Qm)) : ab_Pk p l e R s m args below meth c base H0 sp D cA SL xs Qm pc L st ce sl g I J := by
  subst hln
  cases st with
  | nil => exact h.elim
  | cons v r =>
    cases r with
    | nil => exact h.elim
    | cons w r =>
      obtain ⟨hv, hw, hk⟩ := h
      exact fun hL H locs ls hR hl hq => lv_dup2_11 B.1 B.2.1 hd (by rw [ab_cat_cv]; exact hv) (by rw [ab_cat_cv]; exact hw) (hk hL H locs ls hR hl hq)
theorem ab_so_goto (B : ab_Bd p s m args c base H0 sp D cA SL xs cc own) {run : ab_Run} {bud : Nat → Nat × Nat} {mc ms rt pc ln r1 r2 : Nat} {rs : List Nat} {L : ab_L} {st : List ab_V} {ce sl : Nat} {g : ab_G} {I : ab_I} {J : ab_J} {Q : ab_Q} {o : Int} (hd : decode cc pc = .ok (.goto o, ln)) (hln : ln = 3) (ho : (pc : Int) + o = r1) (h : ab_st run bud mc ms rt (pc, .goto o, ln, r1, r2, rs) L st ce sl g I J Q (ab_Pk p l e R s m args below meth c base H0 sp D cA SL xs Qm)) : ab_Pk p l e R s m args below meth c base H0 sp D cA SL xs Qm pc L st ce sl g I J := by
  exact fun hL H locs ls hR hl hq => lv_goto B.1 B.2.1 (by rw [hd, hln]) ho (h hL H locs ls hR hl hq)
theorem ab_i_nlt {x y : Int32} : ¬ x < y ↔ y ≤ x := Int32.not_lt
theorem ab_so_ifCond (B : ab_Bd p s m args c base H0 sp D cA SL xs cc own) {run : ab_Run} {bud : Nat → Nat × Nat} {mc ms rt pc ln r1 r2 : Nat} {rs : List Nat} {L : ab_L} {st : List ab_V} {ce sl : Nat} {g : ab_G} {I : ab_I} {J : ab_J} {Q : ab_Q} {o : Int} {cd : ClassFile.Cond} (hd : decode cc pc = .ok (.ifCond cd o, ln)) (hln : ln = 3) (ho : (pc : Int) + o = r1) (h : ab_st run bud mc ms rt (pc, .ifCond cd o, ln, r1, r2, rs) L st ce sl g I J Q (ab_Pk p l e R s m args below meth c base H0 sp D cA SL xs Qm)) : ab_Pk p l e R s m args below meth c base H0 sp D cA SL xs Qm pc L st ce sl g I J := by
  subst hln
  obtain ⟨x, r, rfl, hk⟩ := ab_1i_e h
  intro hL H locs ls hR hl hq
  cases cd with
  | eq =>
    dsimp only at hk
    exact lv_if_eq B.1 B.2.1 hd ho (fun z => by rw [if_pos z] at hk; exact hk hL H locs ls hR hl hq) (fun z => by rw [if_neg z] at hk; exact hk hL H locs ls hR hl hq)
  | ne =>
    dsimp only at hk
    exact lv_if_ne B.1 B.2.1 hd ho (fun z => by rw [if_neg z] at hk; exact hk hL H locs ls hR hl hq) (fun z => by rw [if_pos (by simpa using z)] at hk; exact hk hL H locs ls hR hl hq)
  | lt =>
    dsimp only at hk
    exact lv_if_lt B.1 B.2.1 hd ho (fun z => by rw [if_pos z] at hk; exact hk hL H locs ls hR hl hq) (fun z => by rw [if_neg z] at hk; exact hk hL H locs ls hR hl hq)
  | ge =>
    dsimp only at hk
    exact lv_if_ge B.1 B.2.1 hd ho (fun z => by rw [if_neg (ab_i_nlt.mpr z)] at hk; exact hk hL H locs ls hR hl hq) (fun z => by rw [if_pos (Int32.not_le.mp z)] at hk; exact hk hL H locs ls hR hl hq)
  | gt =>
    dsimp only at hk
    exact lv_if_gt B.1 B.2.1 hd ho (fun z => by rw [if_pos z] at hk; exact hk hL H locs ls hR hl hq) (fun z => by rw [if_neg z] at hk; exact hk hL H locs ls hR hl hq)
  | le =>
    dsimp only at hk
    exact lv_if_le B.1 B.2.1 hd ho (fun z => by rw [if_neg (ab_i_nlt.mpr z)] at hk; exact hk hL H locs ls hR hl hq) (fun z => by rw [if_pos (Int32.not_le.mp z)] at hk; exact hk hL H locs ls hR hl hq)
theorem ab_so_if_icmp (B : ab_Bd p s m args c base H0 sp D cA SL xs cc own) {run : ab_Run} {bud : Nat → Nat × Nat} {mc ms rt pc ln r1 r2 : Nat} {rs : List Nat} {L : ab_L} {st : List ab_V} {ce sl : Nat} {g : ab_G} {I : ab_I} {J : ab_J} {Q : ab_Q} {o : Int} {cd : ClassFile.Cond} (hd : decode cc pc = .ok (.if_icmp cd o, ln)) (hln : ln = 3) (ho : (pc : Int) + o = r1) (h : ab_st run bud mc ms rt (pc, .if_icmp cd o, ln, r1, r2, rs) L st ce sl g I J Q (ab_Pk p l e R s m args below meth c base H0 sp D cA SL xs Qm)) : ab_Pk p l e R s m args below meth c base H0 sp D cA SL xs Qm pc L st ce sl g I J := by
  subst hln
  obtain ⟨x, y, r, rfl, hk⟩ := ab_2i_e h
  intro hL H locs ls hR hl hq
  cases cd with
  | eq =>
    dsimp only at hk
    exact lv_icmp_eq B.1 B.2.1 hd ho (fun z => by rw [if_pos z] at hk; exact hk hL H locs ls hR hl hq) (fun z => by rw [if_neg z] at hk; exact hk hL H locs ls hR hl hq)
  | ne =>
    dsimp only at hk
    exact lv_icmp_ne B.1 B.2.1 hd ho (fun z => by rw [if_neg z] at hk; exact hk hL H locs ls hR hl hq) (fun z => by rw [if_pos (by simpa using z)] at hk; exact hk hL H locs ls hR hl hq)
  | lt =>
    dsimp only at hk
    exact lv_icmp_lt B.1 B.2.1 hd ho (fun z => by rw [if_pos z] at hk; exact hk hL H locs ls hR hl hq) (fun z => by rw [if_neg z] at hk; exact hk hL H locs ls hR hl hq)
  | ge =>
    dsimp only at hk
    exact lv_icmp_ge B.1 B.2.1 hd ho (fun z => by rw [if_neg (ab_i_nlt.mpr z)] at hk; exact hk hL H locs ls hR hl hq) (fun z => by rw [if_pos (Int32.not_le.mp z)] at hk; exact hk hL H locs ls hR hl hq)
  | gt =>
    dsimp only at hk
    exact lv_icmp_gt B.1 B.2.1 hd ho (fun z => by rw [if_pos z] at hk; exact hk hL H locs ls hR hl hq) (fun z => by rw [if_neg z] at hk; exact hk hL H locs ls hR hl hq)
  | le =>
    dsimp only at hk
    exact lv_icmp_le B.1 B.2.1 hd ho (fun z => by rw [if_neg (ab_i_nlt.mpr z)] at hk; exact hk hL H locs ls hR hl hq) (fun z => by rw [if_pos (Int32.not_le.mp z)] at hk; exact hk hL H locs ls hR hl hq)
theorem ab_so_ifnull (B : ab_Bd p s m args c base H0 sp D cA SL xs cc own) {run : ab_Run} {bud : Nat → Nat × Nat} {mc ms rt pc ln r1 r2 : Nat} {rs : List Nat} {L : ab_L} {st : List ab_V} {ce sl : Nat} {g : ab_G} {I : ab_I} {J : ab_J} {Q : ab_Q} {o : Int} (hd : decode cc pc = .ok (.ifnull o, ln)) (hln : ln = 3) (ho : (pc : Int) + o = r1) (h : ab_st run bud mc ms rt (pc, .ifnull o, ln, r1, r2, rs) L st ce sl g I J Q (ab_Pk p l e R s m args below meth c base H0 sp D cA SL xs Qm)) : ab_Pk p l e R s m args below meth c base H0 sp D cA SL xs Qm pc L st ce sl g I J := by
  subst hln
  obtain ⟨x, r, rfl, hk⟩ := ab_1r_e h
  intro hL H locs ls hR hl hq
  cases x with
  | none => rw [if_pos rfl] at hk; exact lv_ifnullN B.1 B.2.1 hd ho (hk hL H locs ls hR hl hq)
  | some a => rw [if_neg (by simp)] at hk; exact lv_ifnull B.1 B.2.1 hd (hk hL H locs ls hR hl hq)
theorem ab_so_ifnonnull (B : ab_Bd p s m args c base H0 sp D cA SL xs cc own) {run : ab_Run} {bud : Nat → Nat × Nat} {mc ms rt pc ln r1 r2 : Nat} {rs : List Nat} {L : ab_L} {st : List ab_V} {ce sl : Nat} {g : ab_G} {I : ab_I} {J : ab_J} {Q : ab_Q} {o : Int} (hd : decode cc pc = .ok (.ifnonnull o, ln)) (hln : ln = 3) (ho : (pc : Int) + o = r1) (h : ab_st run bud mc ms rt (pc, .ifnonnull o, ln, r1, r2, rs) L st ce sl g I J Q (ab_Pk p l e R s m args below meth c base H0 sp D cA SL xs Qm)) : ab_Pk p l e R s m args below meth c base H0 sp D cA SL xs Qm pc L st ce sl g I J := by
  subst hln
  obtain ⟨x, r, rfl, hk⟩ := ab_1r_e h
  intro hL H locs ls hR hl hq
  cases x with
  | none => rw [if_pos rfl] at hk; exact lv_ifnonnullN B.1 B.2.1 hd (hk hL H locs ls hR hl hq)
  | some a => rw [if_neg (by simp)] at hk; exact lv_ifnonnull B.1 B.2.1 hd ho (hk hL H locs ls hR hl hq)
theorem ab_ad_inj {x y : Option Nat} (hx : ab_own x) (hy : ab_own y) : x.map (ab_ad base sp) = y.map (ab_ad base sp) ↔ x = y := by
  cases x <;> cases y <;> simp only [Option.map_none, Option.map_some, Option.some.injEq, reduceCtorEq]
  rename_i a b
  simp only [ab_own] at hx hy
  unfold ab_ad
  rw [if_neg (by omega), if_neg (by omega)]
  omega
theorem ab_so_if_acmp (B : ab_Bd p s m args c base H0 sp D cA SL xs cc own) {run : ab_Run} {bud : Nat → Nat × Nat} {mc ms rt pc ln r1 r2 : Nat} {rs : List Nat} {L : ab_L} {st : List ab_V} {ce sl : Nat} {g : ab_G} {I : ab_I} {J : ab_J} {Q : ab_Q} {o : Int} {cd : ClassFile.ACond} (hd : decode cc pc = .ok (.if_acmp cd o, ln)) (hln : ln = 3) (ho : (pc : Int) + o = r1) (h : ab_st run bud mc ms rt (pc, .if_acmp cd o, ln, r1, r2, rs) L st ce sl g I J Q (ab_Pk p l e R s m args below meth c base H0 sp D cA SL xs Qm)) : ab_Pk p l e R s m args below meth c base H0 sp D cA SL xs Qm pc L st ce sl g I J := by
  subst hln
  obtain ⟨x, y, r, rfl, hox, hoy, hk⟩ := ab_2r_e h
  intro hL H locs ls hR hl hq
  have hi := ab_ad_inj (base := base) (sp := sp) hox hoy
  cases cd with
  | eq =>
    dsimp only at hk
    exact lv_acmp_eq B.1 B.2.1 hd ho (fun z => by rw [if_pos (hi.mp z)] at hk; exact hk hL H locs ls hR hl hq) (fun z => by rw [if_neg (fun q => z (hi.mpr q))] at hk; exact hk hL H locs ls hR hl hq)
  | ne =>
    dsimp only at hk
    exact lv_acmp_ne B.1 B.2.1 hd ho (fun z => by rw [if_neg (fun q => z (hi.mpr q))] at hk; exact hk hL H locs ls hR hl hq) (fun z => by rw [if_pos (hi.mp (by simpa using z))] at hk; exact hk hL H locs ls hR hl hq)
theorem ab_so_tableswitch (B : ab_Bd p s m args c base H0 sp D cA SL xs cc own) {run : ab_Run} {bud : Nat → Nat × Nat} {mc ms rt pc ln r1 r2 : Nat} {rs : List Nat} {L : ab_L} {st : List ab_V} {ce sl : Nat} {g : ab_G} {I : ab_I} {J : ab_J} {Q : ab_Q} {dd lo hi : Int} {os : Array Int} (hd : decode cc pc = .ok (.tableswitch dd lo hi os, ln)) (h1 : (pc : Int) + dd = r1) (h2 : os.toList.map (fun o => (pc : Int) + o) = rs.map (fun (t : Nat) => (t : Int))) (h3 : hi + 1 = lo + rs.length) (h4 : -2147483648 ≤ lo) (h5 : hi ≤ 2147483647) (h : ab_st run bud mc ms rt (pc, .tableswitch dd lo hi os, ln, r1, r2, rs) L st ce sl g I J Q (ab_Pk p l e R s m args below meth c base H0 sp D cA SL xs Qm)) : ab_Pk p l e R s m args below meth c base H0 sp D cA SL xs Qm pc L st ce sl g I J := by
  obtain ⟨x, r, rfl, hk⟩ := ab_1i_e h
  intro hL H locs ls hR hl hq
  have h9 := hk hL H locs ls hR hl hq
  obtain ⟨a1, a2⟩ := ab_sw_table rs os.toList lo x r1 h2 h4 (by omega)
  by_cases hlo : x.toInt < lo
  · rw [a1 (Or.inl hlo)] at h9
    exact lv_tableOut B.1 B.2.1 hd (Or.inl hlo) h1 h9
  · by_cases hhi : hi < x.toInt
    · rw [a1 (Or.inr (by omega))] at h9
      exact lv_tableOut B.1 B.2.1 hd (Or.inr hhi) h1 h9
    · obtain ⟨off, b1, b2⟩ := a2 hlo (by omega)
      exact lv_tableIn B.1 B.2.1 hd hlo hhi (by rw [← Array.getElem?_toList]; exact b1) b2 h9
theorem ab_so_ldc (B : ab_Bd p s m args c base H0 sp D cA SL xs cc own) {run : ab_Run} {bud : Nat → Nat × Nat} {mc ms rt pc ln r1 r2 : Nat} {rs : List Nat} {L : ab_L} {st : List ab_V} {ce sl : Nat} {g : ab_G} {I : ab_I} {J : ab_J} {Q : ab_Q} {i : Nat} (hd : decode cc pc = .ok (.ldc i, ln)) (hln : ln = 2) (hck : (if rs.getD 0 0 = 0 then ab_wd (rs.getD 1 0) (.constant own i (Int32.ofInt (if r2 = 1 then -(r1 : Int) else r1))) else decide (own = "CareRules$TextReader") && decide (ab_six.getD r1 0 = i)) = true) (h : ab_st run bud mc ms rt (pc, .ldc i, ln, r1, r2, rs) L st ce sl g I J Q (ab_Pk p l e R s m args below meth c base H0 sp D cA SL xs Qm)) : ab_Pk p l e R s m args below meth c base H0 sp D cA SL xs Qm pc L st ce sl g I J := by
  subst hln
  change (if rs.getD 0 0 = 0 then _ else _) at h
  by_cases h0 : rs.getD 0 0 = 0
  · rw [if_pos h0] at h
    rw [if_pos h0] at hck
    exact fun hL H locs ls hR hl hq => lv_ldc B.1 B.2.1 B.2.2.1 (ab_wd_use B hck) hd (h hL H locs ls hR hl hq)
  · rw [if_neg h0] at h
    rw [if_neg h0, Bool.and_eq_true, decide_eq_true_eq, decide_eq_true_eq] at hck
    obtain ⟨h8, h⟩ := h
    obtain ⟨ho, hi⟩ := hck
    intro hL H locs ls hR hl hq
    have hz := B.2.2.2.2.2.2.2.2.2.2.1 r1 h8
    rw [hi, ← ho] at hz
    have h9 := h hL H locs ls hR hl hq
    have e : ab_cv base sp (vR (some r1)) = .ref (sp r1) := by
      show Value.ref (ab_ad base sp r1) = _
      unfold ab_ad
      rw [if_pos (by omega)]
    simp only [List.map_cons, e] at h9
    exact va_ldcS B.1 B.2.1 B.2.2.1 hz hd h9
theorem ab_so_ldc_w (B : ab_Bd p s m args c base H0 sp D cA SL xs cc own) {run : ab_Run} {bud : Nat → Nat × Nat} {mc ms rt pc ln r1 r2 : Nat} {rs : List Nat} {L : ab_L} {st : List ab_V} {ce sl : Nat} {g : ab_G} {I : ab_I} {J : ab_J} {Q : ab_Q} {i : Nat} (hd : decode cc pc = .ok (.ldc_w i, ln)) (hln : ln = 3) (hck : ab_wd (rs.getD 1 0) (.constant own i (Int32.ofInt (if r2 = 1 then -(r1 : Int) else r1))) = true) (h : ab_st run bud mc ms rt (pc, .ldc_w i, ln, r1, r2, rs) L st ce sl g I J Q (ab_Pk p l e R s m args below meth c base H0 sp D cA SL xs Qm)) : ab_Pk p l e R s m args below meth c base H0 sp D cA SL xs Qm pc L st ce sl g I J := by
  subst hln
  obtain ⟨h0, h⟩ := h
  exact fun hL H locs ls hR hl hq => lv_ldcw B.1 B.2.1 B.2.2.1 (ab_wd_use B hck) hd (h hL H locs ls hR hl hq)
theorem ab_so_ldc2_w (B : ab_Bd p s m args c base H0 sp D cA SL xs cc own) {run : ab_Run} {bud : Nat → Nat × Nat} {mc ms rt pc ln r1 r2 : Nat} {rs : List Nat} {L : ab_L} {st : List ab_V} {ce sl : Nat} {g : ab_G} {I : ab_I} {J : ab_J} {Q : ab_Q} {i : Nat} (hd : decode cc pc = .ok (.ldc2_w i, ln)) (hln : ln = 3) (hck : ab_wd (rs.getD 1 0) (.constantLong own i (Int64.ofNat r1)) = true) (h : ab_st run bud mc ms rt (pc, .ldc2_w i, ln, r1, r2, rs) L st ce sl g I J Q (ab_Pk p l e R s m args below meth c base H0 sp D cA SL xs Qm)) : ab_Pk p l e R s m args below meth c base H0 sp D cA SL xs Qm pc L st ce sl g I J := by
  subst hln
  exact fun hL H locs ls hR hl hq => lv_ldc2 B.1 B.2.1 B.2.2.1 (ab_wd_use B hck) hd (h hL H locs ls hR hl hq)
end SND
