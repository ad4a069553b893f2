/-! ===== what the tables say of the classes ===== -/
def ab_tyf (c k : Nat) : FieldType := (parseFieldDescriptor (ab_fld c k).2.2.1).getD .int
def ab_kd (ty : FieldType) : Nat := match ty with
  | .int => 0
  | .boolean => 0
  | .long => 1
  | .object _ => 2
  | .array _ => 2
  | _ => 9
def ab_okC (c : Nat) : Bool :=
  (u_ws (ab_nmC c) (ab_fld c) (ab_nf c)).all (fun w => decide (w ∈ tables_1) && goodWord w) &&
  ((List.range (ab_nf c)).all (fun k => decide (parseFieldDescriptor (ab_fld c k).2.2.1 = some (ab_tyf c k)) && (decide ((ab_fld c k).1 = ab_nmC c) && (decide (ab_kd (ab_tyf c k) = ab_ft c k) && (decide (((ab_fld c k).2.2.1 = "Z") ↔ (ab_tyf c k = .boolean)) && (List.range (ab_nf c)).all (fun j => decide (k = j) || decide ((ab_fld c k).2.1 ≠ (ab_fld c j).2.1)))))) &&
  (decide (Cond.instantiable (ab_nmC c) (ab_nf c) ∈ tables_1) && decide (Cond.initialized (ab_nmC c) ∈ tables_1)))
theorem ab_okC_0 : ab_okC 0 = true := by decide +kernel
theorem ab_okC_1 : ab_okC 1 = true := by decide +kernel
theorem ab_okC_2 : ab_okC 2 = true := by decide +kernel
theorem ab_okC_3 : ab_okC 3 = true := by decide +kernel
theorem ab_okC_4 : ab_okC 4 = true := by decide +kernel
theorem ab_okC_5 : ab_okC 5 = true := by decide +kernel
theorem ab_okC_6 : ab_okC 6 = true := by decide +kernel
theorem ab_okC_7 : ab_okC 7 = true := by decide +kernel
theorem ab_okC_8 : ab_okC 8 = true := by decide +kernel
theorem ab_okC_9 : ab_okC 9 = true := by decide +kernel
theorem ab_okC_10 : ab_okC 10 = true := by decide +kernel
theorem ab_okC_11 : ab_okC 11 = true := by decide +kernel
theorem ab_okC_all (c : Nat) (h : c < 12) : ab_okC c = true := by
  have : c = 0 ∨ c = 1 ∨ c = 2 ∨ c = 3 ∨ c = 4 ∨ c = 5 ∨ c = 6 ∨ c = 7 ∨ c = 8 ∨ c = 9 ∨ c = 10 ∨ c = 11 := by omega
  rcases this with rfl | rfl | rfl | rfl | rfl | rfl | rfl | rfl | rfl | rfl | rfl | rfl
  · exact ab_okC_0
  · exact ab_okC_1
  · exact ab_okC_2
  · exact ab_okC_3
  · exact ab_okC_4
  · exact ab_okC_5
  · exact ab_okC_6
  · exact ab_okC_7
  · exact ab_okC_8
  · exact ab_okC_9
  · exact ab_okC_10
  · exact ab_okC_11
theorem ab_t1_ws {w : Cond} (h : w ∈ tables_1) (hg : goodWord w = true) : w ∈ ab_ws := List.mem_filter.mpr ⟨List.mem_append_right _ h, hg⟩
theorem ab_cls_at {c : Nat} (h : c < 12) : ab_cls[c]? = some (ab_nmC c, ab_fld c, ab_nf c) := by
  have hl : c < ab_cls.length := h
  have e : ab_cls[c]? = some (ab_cls.getD c ("", (fun _ => ("", "", "", false)), 0)) := by
    rw [List.getD_eq_getElem?_getD, List.getElem?_eq_getElem hl]
    rfl
  rw [e]
  have e2 : ab_fld c = (ab_cls.getD c ("", (fun _ => ("", "", "", false)), 0)).2.1 := by
    funext k
    unfold ab_fld
    rw [if_neg (by omega)]
  unfold ab_nmC ab_nf
  rw [if_neg (by omega), e2]
/-- the class's facts -/
theorem ab_cls_f {c : Nat} (h : c < 12) : (∀ w ∈ u_ws (ab_nmC c) (ab_fld c) (ab_nf c), w ∈ ab_ws) ∧ (∀ k, k < ab_nf c → parseFieldDescriptor (ab_fld c k).2.2.1 = some (ab_tyf c k)) ∧ (∀ k, k < ab_nf c → (ab_fld c k).1 = ab_nmC c) ∧ (∀ k, k < ab_nf c → ab_kd (ab_tyf c k) = ab_ft c k) ∧ (∀ k, k < ab_nf c → (((ab_fld c k).2.2.1 = "Z") ↔ (ab_tyf c k = .boolean))) ∧
    (∀ a, a < ab_nf c → ∀ b, b < ab_nf c → a ≠ b → (ab_fld c a).2.1 ≠ (ab_fld c b).2.1) ∧ Cond.instantiable (ab_nmC c) (ab_nf c) ∈ ab_ws ∧ Cond.initialized (ab_nmC c) ∈ ab_ws := by
  have hk := ab_okC_all c h
  unfold ab_okC at hk
  simp only [Bool.and_eq_true, List.all_eq_true, decide_eq_true_eq, List.mem_range, Bool.or_eq_true] at hk
  obtain ⟨h1, h2, h3, h4⟩ := hk
  refine ⟨fun w hw => ab_t1_ws (h1 w hw).1 (h1 w hw).2, fun k q => (h2 k q).1, fun k q => (h2 k q).2.1, fun k q => (h2 k q).2.2.1, fun k q => (h2 k q).2.2.2.1, fun a ha b hb hne => ?_, ab_t1_ws h3 rfl, ab_t1_ws h4 rfl⟩
  rcases (h2 a ha).2.2.2.2 b hb with e | e
  · exact absurd e hne
  · exact e
