/-! ===== lookupswitch ===== -/
section LKS
variable {p : Program} {l : Launch} {e : Env} {R : Room} {s : State} {m : MethodId} {args : Array Value} {below : List Frame} {meth : Method} {c : Code} {Qm : State → Prop}
variable {base : Nat} {H0 : Heap} {sp : Nat → Nat} {D : va_G} {cA : Nat → ClassId} {SL : Nat} {xs : Nat → Int32} {cc : ByteArray} {own : String}
theorem ab_sw_look {pc : Nat} : ∀ (ps : List (Int × Int)) (rs : List Nat) (x : Int32) (d : Int) (r1 : Nat), (pc : Int) + d = r1 → ps.map (fun o => (pc : Int) + o.2) = rs.map (fun (t : Nat) => (t : Int)) → (ps.all (fun q => decide (-2147483648 ≤ q.1) && decide (q.1 ≤ 2147483647))) = true →
    (pc : Int) + Op.lookupswitch.offset ps d x.toInt = (ab_sw x (ab_zip ps rs) r1 : Nat) := by
  intro ps
  induction ps with
  | nil =>
    intro rs x d r1 h1 h2 h3
    cases rs with
    | nil => exact h1
    | cons t rs => cases h2
  | cons q ps ih =>
    intro rs x d r1 h1 h2 h3
    cases rs with
    | nil => cases h2
    | cons t rs =>
      simp only [List.map_cons, List.cons.injEq] at h2
      simp only [List.all_cons, Bool.and_eq_true, decide_eq_true_eq] at h3
      have key : x = Int32.ofInt q.1 ↔ x.toInt = q.1 := by
        constructor
        · intro hx
          rw [hx, Int32.toInt_ofInt_of_le (by simpa using h3.1.1) (by simp; omega)]
        · intro hx
          rw [← hx, Int32.ofInt_toInt]
      have ih2 := ih rs x d r1 h1 h2.2 h3.2
      show (pc : Int) + Op.lookupswitch.offset (q :: ps) d x.toInt = ((if x = Int32.ofInt q.1 then t else ab_sw x (ab_zip ps rs) r1 : Nat) : Int)
      by_cases hx : x = Int32.ofInt q.1
      · rw [if_pos hx, ← h2.1]
        have := key.mp hx
        obtain ⟨q1, q2⟩ := q
        simp only at this
        simp [Op.lookupswitch.offset, this]
      · rw [if_neg hx, ← ih2]
        have h9 : ¬ x.toInt = q.1 := fun z => hx (key.mpr z)
        obtain ⟨q1, q2⟩ := q
        simp only at h9
        simp [Op.lookupswitch.offset, h9, Ne.symm h9]
theorem ab_so_lookupswitch (B : ab_Bd p s m args c base H0 sp D cA SL xs cc own) {run : ab_Run} {bud : Nat → Nat × Nat} {mc ms rt pc ln r1 r2 : Nat} {rs : List Nat} {L : ab_L} {st : List ab_V} {ce sl : Nat} {g : ab_G} {I : ab_I} {J : ab_J} {Q : ab_Q} {dd : Int} {ps : Array (Int × Int)} (hd : decode cc pc = .ok (.lookupswitch dd ps, ln)) (h1 : (pc : Int) + dd = r1) (h2 : ps.toList.map (fun o => (pc : Int) + o.2) = rs.map (fun (t : Nat) => (t : Int))) (h3 : (ps.toList.zip (ps.toList.drop 1)).all (fun (a, next) => a.1 < next.1) = true) (h4 : (ps.toList.all (fun q => decide (-2147483648 ≤ q.1) && decide (q.1 ≤ 2147483647))) = true)
    (h : ab_st run bud mc ms rt (pc, .lookupswitch dd ps, ln, r1, r2, rs) L st ce sl g I J Q (ab_Pk p l e R s m args below meth c base H0 sp D cA SL xs Qm)) : ab_Pk p l e R s m args below meth c base H0 sp D cA SL xs Qm pc L st ce sl g I J := by
  obtain ⟨x, r, rfl, hk⟩ := ab_1i_e h
  intro hL H locs ls hR hl hq
  exact lv_lookup B.1 B.2.1 hd h3 rfl (ab_sw_look ps.toList rs x dd r1 h1 h2 h4) (hk hL H locs ls hR hl hq)
end LKS
