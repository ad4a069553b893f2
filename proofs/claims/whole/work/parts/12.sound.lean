/-! ===== SOUNDNESS: the abstract machine against the kit's W ===== -/
def ab_ws : List Cond := lw_tbl.filter goodWord
def ab_isN (w : Cond) : Bool := match w with
  | .methodLinkNest .. => true
  | .fieldLinkNest .. => true
  | _ => false
def ab_nest : List Cond := tables_1.filter ab_isN
theorem ab_in_ws {p : Nat} {w : Cond} (h : tables_1[p]? = some w) (hg : goodWord w = true) : w ∈ ab_ws := List.mem_filter.mpr ⟨List.mem_append_right _ (List.mem_of_getElem? h), hg⟩
theorem ab_in_nest {p : Nat} {w : Cond} (h : tables_1[p]? = some w) (hg : ab_isN w = true) : w ∈ ab_nest := List.mem_filter.mpr ⟨List.mem_of_getElem? h, hg⟩
theorem ab_ws_good : GoodIn ab_ws ab_ws := fun w h => ⟨h, good_of_word (List.mem_filter.mp h).2⟩
theorem ab_nest_warm {w : Cond} (h : w ∈ ab_nest) {s U : State} (hW : s.WarmedH U.vm) (hZ : va_Nw w s) : va_Nw w U := by
  have h2 := (List.mem_filter.mp h).2
  cases w <;> first | exact absurd h2 Bool.false_ne_true | exact va_Nw.warmF hW hZ | exact va_Nw.warmM hW hZ
def ab_aty (t : Nat) : FieldType := match t with
  | 1 => .int
  | 2 => .long
  | 3 => .object "CareRules$Rule"
  | 4 => .object "CareRules$Sheet"
  | 5 => .array .int
  | 6 => .array .long
  | _ => .byte
def ab_tys (cA : Nat → ClassId) : List (ClassId × FieldType) := [(cA 1, .int), (cA 2, .long), (cA 3, .object "CareRules$Rule"), (cA 4, .object "CareRules$Sheet"), (cA 5, .array .int), (cA 6, .array .long)]
def ab_ad (base : Nat) (sp : Nat → Nat) (k : Nat) : Nat := if k < 29 then sp k else base + (k - 29)
def ab_rf (base : Nat) (sp : Nat → Nat) (o : Option Nat) : Value := va_rf (o.map (ab_ad base sp))
def ab_cv (base : Nat) (sp : Nat → Nat) (v : ab_V) : Value := match v with
  | Sum.inl x => .int x
  | Sum.inr (Sum.inl x) => .long x
  | Sum.inr (Sum.inr o) => ab_rf base sp o
theorem ab_rf_none {base : Nat} {sp : Nat → Nat} : ab_rf base sp none = .null := rfl
theorem ab_rf_some {base : Nat} {sp : Nat → Nat} {a : Nat} : ab_rf base sp (some a) = .ref (ab_ad base sp a) := rfl
theorem ab_cat_cv {base : Nat} {sp : Nat → Nat} (v : ab_V) : (ab_cv base sp v).category = ab_cat v := by
  rcases v with x | x | o
  · rfl
  · rfl
  · cases o <;> rfl
theorem ab_cs_cv {base : Nat} {sp : Nat → Nat} : ∀ st : List ab_V, ((st.map (ab_cv base sp)).map fun v => v.category).sum = ab_cs st
  | [] => rfl
  | v :: r => by
    have h := ab_cs_cv (base := base) (sp := sp) r
    simp only [List.map_cons, List.sum_cons, ab_cat_cv, h, ab_cs]
/-! the strings, as the document's tables have them -/
def ab_txt : List String := ["chance", "size", "pays", ";<=+-*/()"]
def ab_six : List Nat := [123, 129, 130, 116]
def ab_byt : List (List Int32) := [[99, 104, 97, 110, 99, 101], [115, 105, 122, 101], [112, 97, 121, 115], [59, 60, 61, 43, 45, 42, 47, 40, 41]]
def ab_len : List Nat := [6, 4, 4, 9]
/-- what the special cells (numbers below 29) hold -/
def ab_ty0 (k : Nat) : Nat := if k < 4 then 22 else if k < 8 then 0 else if k < 11 then 1 else if k < 15 then 7 else 0
def ab_ln0 (SL k : Nat) : Nat := if k < 8 then 0 else if k < 10 then 5 else if k = 10 then SL else if k < 15 then ab_len.getD (k - 11) 0 else 0
def ab_R0 (k j : Nat) : Option Nat := if k < 4 ∧ j = 0 then some (k + 11) else none
def ab_I0 (xs : Nat → Int32) (k j : Nat) : Int32 := if k < 8 then 0 else if k = 8 then [0, 0, 0, 0, -64].getD j 0 else if k = 9 then [8, 9999, 9999, 9999, 64].getD j 0 else if k = 10 then xs j else if k < 15 then (ab_byt.getD (k - 11) []).getD j 0 else 0
def ab_fix (SL : Nat) (xs : Nat → Int32) (g : ab_G) (I : ab_I) : Prop := ∀ k, k < 29 → ab_ty g k = ab_ty0 k ∧ ab_ln g k = ab_ln0 SL k ∧ (∀ j, ab_R g k j = ab_R0 k j) ∧ ∀ j, I k j = ab_I0 xs k j
/-- the special cells at a state, over the heap at the law's start -/
def ab_Sp (base : Nat) (H0 : Heap) (sp : Nat → Nat) (SL : Nat) (xs : Nat → Int32) (U : State) : Prop :=
  vk_S 4 ab_len ab_byt (fun i => sp i) (fun i => sp (i + 11)) (fun q => base ≤ q) U H0 ∧
  (va_Z "CareRules" "LEAST_SETTINGS" "[I" (.ref (sp 8)) (fun q => base ≤ q) U H0 ∧ va_T .int (sp 8) 5 (fun j => .int (ab_I0 xs 8 j)) (fun q => base ≤ q) U H0) ∧
  (va_Z "CareRules" "MOST_SETTINGS" "[I" (.ref (sp 9)) (fun q => base ≤ q) U H0 ∧ va_T .int (sp 9) 5 (fun j => .int (ab_I0 xs 9 j)) (fun q => base ≤ q) U H0) ∧
  va_T .int (sp 10) SL (fun j => .int (xs j)) (fun q => base ≤ q) U H0 ∧
  va_Z "java/lang/String" "COMPACT_STRINGS" "Z" (.int 1) (fun q => base ≤ q) U H0 ∧
  (∃ o : Option Nat, (o = none ∨ o = some 19) ∧ va_Z "jdk/internal/util/Preconditions" "SIOOBE_FORMATTER" "Ljava/util/function/BiFunction;" (va_rf (o.map sp)) (fun q => base ≤ q) U H0)
theorem ab_Sp.moved {base : Nat} {H0 : Heap} {sp : Nat → Nat} {SL : Nat} {xs : Nat → Int32} {u U : State} (hvm : u.vm.Alike U.vm) (h : ab_Sp base H0 sp SL xs u) : ab_Sp base H0 sp SL xs U := by
  obtain ⟨h1, ⟨h2, h3⟩, ⟨h4, h5⟩, h6, h7, o, ho, h8⟩ := h
  exact ⟨h1.moved hvm, ⟨h2.moved hvm, h3.moved hvm⟩, ⟨h4.moved hvm, h5.moved hvm⟩, h6.moved hvm, h7.moved hvm, o, ho, h8.moved hvm⟩
/-- all that is known of the tables at a state -/
def ab_Kn (base : Nat) (H0 : Heap) (sp : Nat → Nat) (D : va_G) (cA : Nat → ClassId) (SL : Nat) (xs : Nat → Int32) (U : State) : Prop :=
  va_K D ab_cls (ab_tys cA) U ∧ (∀ w ∈ ab_nest, va_Nw w U) ∧ va_AO "CareRules$Rule" U ∧ va_AO "CareRules$Sheet" U ∧ (Cond.arrayOver (.array .int)).before #[] U = true ∧ (Cond.arrayOver (.array .long)).before #[] U = true ∧
  (∀ i, i < 4 → vk_R "CareRules$TextReader" (ab_six.getD i 0) (ab_txt.getD i "") (sp i) U) ∧ ab_Sp base H0 sp SL xs U
theorem ab_Kn.warm {base : Nat} {H0 : Heap} {sp : Nat → Nat} {D : va_G} {cA : Nat → ClassId} {SL : Nat} {xs : Nat → Int32} {s U : State} (hW : s.WarmedH U.vm) (h : ab_Kn base H0 sp D cA SL xs s) : ab_Kn base H0 sp D cA SL xs U := by
  obtain ⟨h1, h2, h3, h4, h5, h6, h7, h8⟩ := h
  have hal := hW.alike
  exact ⟨va_K.moved hal h1, fun w hw => ab_nest_warm hw hW (h2 w hw), h3.moved hal, h4.moved hal, over_moved hal h5, over_moved hal h6, fun i hi => (h7 i hi).warm hW, h8.moved hal⟩
/-- a state that differs in its frames alone -/
theorem ab_Kn.same {base : Nat} {H0 : Heap} {sp : Nat → Nat} {D : va_G} {cA : Nat → ClassId} {SL : Nat} {xs : Nat → Int32} {s U : State} (hv : U.vm = s.vm) (h : ab_Kn base H0 sp D cA SL xs s) : ab_Kn base H0 sp D cA SL xs U := by
  obtain ⟨h1, h2, h3, h4, h5, h6, h7, h8⟩ := h
  have hal : s.vm.Alike U.vm := by rw [hv]; exact Vm.Alike.refl _
  exact ⟨va_K.moved hal h1, fun w hw => by
    have h9 := (List.mem_filter.mp hw).2
    have hZ := h2 w hw
    cases w <;> first | exact absurd h9 Bool.false_ne_true | exact va_Nw.same rfl hv.symm hZ, h3.moved hal, h4.moved hal, over_moved hal h5, over_moved hal h6, fun i hi => (h7 i hi).same hv, h8.moved hal⟩
/-- fields' values, as a cell has them -/
def ab_fv (base : Nat) (sp : Nat → Nat) (g : ab_G) (I : ab_I) (J : ab_J) (c k f : Nat) : Value := match ab_ft c f with
  | 0 => .int (I k f)
  | 1 => .long (J k f)
  | _ => ab_rf base sp (ab_R g k f)
def ab_nf (c : Nat) : Nat := (ab_cls.getD c ("", (fun _ => ("", "", "", false)), 0)).2.2
/-- a cell of the law's own -/
def ab_cell (base : Nat) (sp : Nat → Nat) (D : va_G) (cA : Nat → ClassId) (g : ab_G) (I : ab_I) (J : ab_J) (H : Heap) (k : Nat) : Prop :=
  (ab_ty g k = 1 → H[base + (k - 29)]? = some (arrV (cA 1) (ab_ln g k) (fun j => .int (I k j)))) ∧
  (ab_ty g k = 2 → H[base + (k - 29)]? = some (arrV (cA 2) (ab_ln g k) (fun j => .long (J k j)))) ∧
  (3 ≤ ab_ty g k → ab_ty g k ≤ 6 → H[base + (k - 29)]? = some (arrV (cA (ab_ty g k)) (ab_ln g k) (fun j => ab_rf base sp (ab_R g k j)))) ∧
  (∀ c, c < 12 → ab_ty g k = 10 + c → t_OB (base + (k - 29)) (D.1 c) (ab_nf c) (D.2 c) H (ab_fv base sp g I J c k)) ∧
  (ab_ty g k < 7 ∨ (10 ≤ ab_ty g k ∧ ab_ty g k < 22))
def ab_Rep (base : Nat) (H0 : Heap) (sp : Nat → Nat) (D : va_G) (cA : Nat → ClassId) (SL : Nat) (xs : Nat → Int32) (g : ab_G) (I : ab_I) (J : ab_J) (H : Heap) : Prop :=
  29 ≤ ab_n g ∧ H.size = base + (ab_n g - 29) ∧ H0.size = base ∧ (∀ q, q < base → H[q]? = H0[q]?) ∧ ab_fix SL xs g I ∧ (∀ k, ab_n g ≤ k → ab_ty g k = 0) ∧ ∀ k, 29 ≤ k → k < ab_n g → ab_cell base sp D cA g I J H k
/-- locals -/
def ab_prs (base : Nat) (sp : Nat → Nat) (L : ab_L) : List (Nat × Value) := (L.zipIdx).filterMap fun q => q.1.map fun v => (q.2, ab_cv base sp v)
def ab_lv (base : Nat) (sp : Nat → Nat) (ls : Array Slot) (L : ab_L) : Prop := lv_has ls L.length (ab_prs base sp L)
theorem ab_prs_mem {base : Nat} {sp : Nat → Nat} {L : ab_L} {q : Nat × Value} : q ∈ ab_prs base sp L ↔ ∃ v, L[q.1]? = some (some v) ∧ q.2 = ab_cv base sp v := by
  unfold ab_prs
  rw [List.mem_filterMap]
  constructor
  · rintro ⟨⟨o, i⟩, h1, h2⟩
    obtain ⟨v, hv, rfl⟩ := Option.map_eq_some_iff.mp h2
    have h3 := List.mem_zipIdx' h1
    dsimp only at hv h3
    refine ⟨v, ?_, rfl⟩
    rw [List.getElem?_eq_getElem h3.1, ← h3.2, hv]
  · rintro ⟨v, h1, h2⟩
    refine ⟨(some v, q.1), ?_, ?_⟩
    · rw [List.mem_zipIdx_iff_getElem?]
      exact h1
    · simp [← h2]
theorem ab_lv_get {base : Nat} {sp : Nat → Nat} {ls : Array Slot} {L : ab_L} (h : ab_lv base sp ls L) {i : Nat} {v : ab_V} (hi : L[i]? = some (some v)) : ls[i]? = some (.val (ab_cv base sp v)) := h.2.2 (i, _) (ab_prs_mem.mpr ⟨v, hi, rfl⟩)
theorem ab_lv_of {base : Nat} {sp : Nat → Nat} {ls : Array Slot} {n : Nat} {l : List (Nat × Value)} {L : ab_L} (h : lv_has ls n l) (hn : L.length = n) (hl : ∀ i v, L[i]? = some (some v) → (i, ab_cv base sp v) ∈ l) : ab_lv base sp ls L :=
  ⟨h.1.trans hn.symm, h.2.1, fun q hq => by
    obtain ⟨v, h1, h2⟩ := ab_prs_mem.mp hq
    have h3 := h.2.2 _ (hl _ _ h1)
    rw [← h2] at h3
    exact h3⟩
theorem ab_kl_len (L : ab_L) (i : Nat) : (ab_kl L i).length = L.length := by cases i <;> simp [ab_kl]
theorem ab_kl_get {L : ab_L} {i j : Nat} {v : ab_V} (hj : (ab_kl L i)[j]? = some (some v)) : L[j]? = some (some v) ∧ ¬ (j + 1 = i ∧ ab_cat v = 2) := by
  cases i with
  | zero => exact ⟨hj, fun h => by omega⟩
  | succ i =>
    unfold ab_kl at hj
    dsimp only at hj
    rw [List.getElem?_modify] at hj
    by_cases e : i = j
    · subst e
      simp only [if_true, Option.map_eq_map] at hj
      obtain ⟨o, ho, h2⟩ := Option.map_eq_some_iff.mp hj
      cases o with
      | none => cases h2
      | some w =>
        rcases w with x | x | x
        · cases h2; exact ⟨ho, fun h => by cases h.2⟩
        · cases h2
        · cases h2; exact ⟨ho, fun h => by cases h.2⟩
    · simp only [if_neg e, Option.map_eq_map] at hj
      refine ⟨by simpa using hj, fun h => e (by omega)⟩
theorem ab_lv_s1 {base : Nat} {sp : Nat → Nat} {ls : Array Slot} {L : ab_L} {i : Nat} {v : ab_V} (hi : i < L.length) (hc : ab_cat v = 1) {ls' : Array Slot}
    (h' : lv_has ls' L.length ((i, ab_cv base sp v) :: (ab_prs base sp L).filter (fun q => !(q.1 == i) && !(q.1 + 1 == i && q.2.category == 2)))) : ab_lv base sp ls' (ab_s1 L i v) := by
  refine ab_lv_of h' (by simp [ab_s1, ab_kl_len]) fun j w hj => ?_
  unfold ab_s1 at hj
  by_cases e : i = j
  · subst e
    rw [List.getElem?_set_self (by rw [ab_kl_len]; exact hi)] at hj
    cases hj
    exact List.mem_cons_self
  · rw [List.getElem?_set_ne e] at hj
    obtain ⟨h1, h2⟩ := ab_kl_get hj
    refine List.mem_cons_of_mem _ (List.mem_filter.mpr ⟨ab_prs_mem.mpr ⟨w, h1, rfl⟩, ?_⟩)
    dsimp only
    rw [ab_cat_cv]
    simp only [Bool.and_eq_true, Bool.not_eq_true', beq_eq_false_iff_ne, Bool.and_eq_false_iff, ne_eq]
    refine ⟨fun q => e q.symm, ?_⟩
    by_cases e2 : j + 1 = i
    · exact Or.inr (fun h3 => h2 ⟨e2, h3⟩)
    · exact Or.inl e2
theorem ab_lv_s2 {base : Nat} {sp : Nat → Nat} {ls : Array Slot} {L : ab_L} {i : Nat} {v : ab_V} (hi : i + 1 < L.length) {ls' : Array Slot}
    (h' : lv_has ls' L.length ((i, ab_cv base sp v) :: (ab_prs base sp L).filter (fun q => !(q.1 == i) && (!(q.1 == i + 1) && !(q.1 + 1 == i && q.2.category == 2))))) : ab_lv base sp ls' (ab_s2 L i v) := by
  refine ab_lv_of h' (by simp [ab_s2, ab_kl_len]) fun j w hj => ?_
  unfold ab_s2 at hj
  by_cases e1 : i + 1 = j
  · subst e1
    rw [List.getElem?_set_self (by simp [ab_kl_len]; exact hi)] at hj
    cases hj
  · rw [List.getElem?_set_ne e1] at hj
    by_cases e : i = j
    · subst e
      rw [List.getElem?_set_self (by rw [ab_kl_len]; omega)] at hj
      cases hj
      exact List.mem_cons_self
    · rw [List.getElem?_set_ne e] at hj
      obtain ⟨h1, h2⟩ := ab_kl_get hj
      refine List.mem_cons_of_mem _ (List.mem_filter.mpr ⟨ab_prs_mem.mpr ⟨w, h1, rfl⟩, ?_⟩)
      dsimp only
      rw [ab_cat_cv]
      simp only [Bool.and_eq_true, Bool.not_eq_true', beq_eq_false_iff_ne, Bool.and_eq_false_iff, ne_eq]
      refine ⟨fun q => e q.symm, fun q => e1 q.symm, ?_⟩
      by_cases e2 : j + 1 = i
      · exact Or.inr (fun h3 => h2 ⟨e2, h3⟩)
      · exact Or.inl e2
/-! ===== the checker of an instruction's row ===== -/
def ab_wd (p : Nat) (w : Cond) : Bool := decide (tables_1[p]? = some w) && goodWord w
def ab_nd (p : Nat) (w : Cond) : Bool := decide (tables_1[p]? = some w) && ab_isN w
def ab_nmC (c : Nat) : String := if c = 12 then "java/lang/String" else (ab_cls.getD c ("", (fun _ => ("", "", "", false)), 0)).1
def ab_fld (c k : Nat) : String × String × String × Bool := if c = 12 then (if k = 0 then ("java/lang/String", "value", "[B", true) else ("java/lang/String", "coder", "B", true)) else (ab_cls.getD c ("", (fun _ => ("", "", "", false)), 0)).2.1 k
def ab_yN (N : Nat) : MethodName := (ab_meth N).1
def ab_ckO (own : String) (pc : Nat) (ins : Instr) (r1 r2 : Nat) (rs : List Nat) : Bool := match ins with
  | .bipush n => decide ((Int8.ofInt n).toInt32 = Int32.ofInt n)
  | .sipush n => decide ((Int16.ofInt n).toInt32 = Int32.ofInt n)
  | .ldc i => if rs.getD 0 0 = 0 then ab_wd (rs.getD 1 0) (.constant own i (Int32.ofInt (if r2 = 1 then -(r1 : Int) else r1))) else decide (own = "CareRules$TextReader") && decide (ab_six.getD r1 0 = i)
  | .ldc_w i => ab_wd (rs.getD 1 0) (.constant own i (Int32.ofInt (if r2 = 1 then -(r1 : Int) else r1)))
  | .ldc2_w i => ab_wd (rs.getD 1 0) (.constantLong own i (Int64.ofNat r1))
  | .goto o => decide ((pc : Int) + o = r1)
  | .ifCond _ o => decide ((pc : Int) + o = r1)
  | .if_icmp _ o => decide ((pc : Int) + o = r1)
  | .if_acmp _ o => decide ((pc : Int) + o = r1)
  | .ifnull o => decide ((pc : Int) + o = r1)
  | .ifnonnull o => decide ((pc : Int) + o = r1)
  | .tableswitch d lo hi os => decide ((pc : Int) + d = r1) && decide (os.toList.map (fun o => (pc : Int) + o) = rs.map (fun (t : Nat) => (t : Int))) && decide (hi + 1 = lo + rs.length) && decide (-2147483648 ≤ lo) && decide (hi ≤ 2147483647)
  | .lookupswitch d ps => decide ((pc : Int) + d = r1) && decide (ps.toList.map (fun o => (pc : Int) + o.2) = rs.map (fun (t : Nat) => (t : Int))) && (ps.toList.zip (ps.toList.drop 1)).all (fun (a, next) => a.1 < next.1) && ps.toList.all (fun q => decide (-2147483648 ≤ q.1) && decide (q.1 ≤ 2147483647))
  | .getfield i => decide (r1 ≤ 12) && ab_wd (rs.getD 1 0) (.fieldLink own i (ab_nmC r1) (ab_fld r1 r2).2.1 (ab_fld r1 r2).2.2.1) && (if r1 = 12 then decide (r2 = 0 ∧ rs.getD 0 0 = 2 ∨ r2 = 1 ∧ rs.getD 0 0 = 0) else decide (r2 < ab_nf r1) && decide (rs.getD 0 0 = ab_ft r1 r2))
  | .putfield i => decide (r1 < 12) && decide (r2 < ab_nf r1) && ab_wd (rs.getD 1 0) (.fieldLink own i (ab_nmC r1) (ab_fld r1 r2).2.1 (ab_fld r1 r2).2.2.1) && decide (rs.getD 0 0 = ab_ft r1 r2) && decide ((ab_fld r1 r2).2.2.2 = (rs.getD 2 0 == 1)) && (if rs.getD 2 0 = 1 then decide (own = ab_nmC r1) else true) && decide (((ab_fld r1 r2).2.2.1 = "Z") = (rs.getD 3 0 = 1))
  | .getstatic i => (match rs.getD 0 0 with
    | 0 => decide (r1 = 8 ∨ r1 = 9) && (if rs.getD 2 0 = 1 then ab_nd (rs.getD 1 0) (.fieldLinkNest own i "CareRules" (if r1 = 8 then "LEAST_SETTINGS" else "MOST_SETTINGS") "[I" "CareRules") else ab_wd (rs.getD 1 0) (.fieldLink own i "CareRules" (if r1 = 8 then "LEAST_SETTINGS" else "MOST_SETTINGS") "[I"))
    | 1 => decide (r1 = 1) && ab_wd (rs.getD 1 0) (.fieldLink own i "java/lang/String" "COMPACT_STRINGS" "Z")
    | _ => ab_wd (rs.getD 1 0) (.fieldLink own i "jdk/internal/util/Preconditions" "SIOOBE_FORMATTER" "Ljava/util/function/BiFunction;"))
  | .new i => if r1 < 12 then decide (r2 = ab_nf r1) && ab_wd (rs.getD 1 0) (.classLink own i (ab_nmC r1)) else decide (7302249 < r2)
  | .anewarray i => decide (r1 = 3 ∨ r1 = 4) && ab_wd (rs.getD 1 0) (.classLink own i (if r1 = 3 then "CareRules$Rule" else "CareRules$Sheet"))
  | .multianewarray i k => decide (k = 2) && (decide (r1 = 5 ∧ r2 = 1) || decide (r1 = 6 ∧ r2 = 2)) && ab_wd (rs.getD 1 0) (.classLink own i (if r1 = 5 then "[[I" else "[[J"))
  | .invokestatic i => if rs.getD 0 0 = 3 then ab_wd (rs.getD 1 0) (.methodLink own i arraycopyName) else if r1 < 259 then (if rs.getD 0 0 = 1 then ab_nd (rs.getD 1 0) (.methodLinkNest own i (ab_yN r1) "CareRules") else ab_wd (rs.getD 1 0) (.methodLink own i (ab_yN r1))) else true
  | .invokespecial i => if rs.getD 0 0 = 2 then ab_wd (rs.getD 1 0) (.methodLink own i objectInit) else if r1 < 259 then (if rs.getD 0 0 = 1 then ab_nd (rs.getD 1 0) (.methodLinkNest own i (ab_yN r1) "CareRules") else ab_wd (rs.getD 1 0) (.methodLink own i (ab_yN r1))) else true
  | .invokevirtual i => if r1 < 259 then ab_wd (rs.getD 1 0) (.methodLink own i (ab_yN r1)) && decide (rs.getD 0 0 = 0) && decide (rs.getD 2 0 ≤ 12) && decide ((ab_yN r1).cls = ab_nmC (rs.getD 2 0)) else true
  | _ => true
def ab_lnI (ins : Instr) : Nat := match ins with
  | .bipush _ | .ldc _ | .iload _ | .lload _ | .aload _ | .istore _ | .lstore _ | .astore _ | .newarray _ => 2
  | .sipush _ | .ldc_w _ | .ldc2_w _ | .iinc _ _ | .goto _ | .ifCond _ _ | .if_icmp _ _ | .if_acmp _ _ | .ifnull _ | .ifnonnull _ | .getfield _ | .putfield _ | .getstatic _ | .new _ | .anewarray _ | .invokestatic _ | .invokespecial _ | .invokevirtual _ | .checkcast _ => 3
  | .multianewarray _ _ => 4
  | .tableswitch _ _ _ _ | .lookupswitch _ _ => 0
  | _ => 1
def ab_ck (own : String) (cc : ByteArray) (t : ab_T) : Bool := match t with
  | (pc, ins, ln, r1, r2, rs) => decide (decode cc pc = .ok (ins, ln)) && (decide (ab_lnI ins = 0) || decide (ln = ab_lnI ins)) && ab_ckO own pc ins r1 r2 rs
