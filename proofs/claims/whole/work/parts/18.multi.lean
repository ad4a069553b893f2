/-! ===== multianewarray of two dimensions, over the model's own words ===== -/
def mu_in (comp : ClassId) (M : Nat) (dv : Value) : Cell := { cls := comp, slots := Array.replicate M dv, vm := .none }
/-- the outer array when i rows stand -/
def mu_out (cl : ClassId) (N h0 i : Nat) : Cell := arrV cl N (fun j => if j < i then .ref (h0 + 1 + j) else .null)
theorem mu_out_set (cl : ClassId) (N h0 i : Nat) : (mu_out cl N h0 i).setSlot i (.ref (h0 + 1 + i)) = mu_out cl N h0 (i + 1) := by
  unfold mu_out
  rw [arrV_store]
  congr 1
  funext j
  unfold updV
  by_cases e : j = i
  · subst e; simp
  · rw [if_neg e]
    dsimp only
    by_cases h : j < i
    · rw [if_pos h, if_pos (by omega)]
    · rw [if_neg h, if_neg (by omega)]
/-- the state when i rows stand -/
def mu_st (s : State) (cl comp : ClassId) (N M : Nat) (dv : Value) : Nat → State
  | 0 => s.pushCell (mu_out cl N s.heap.size 0)
  | i + 1 => ((mu_st s cl comp N M dv i).pushCell (mu_in comp M dv)).setCell s.heap.size (mu_out cl N s.heap.size (i + 1))
theorem mu_st_facts (s : State) (cl comp : ClassId) (N M : Nat) (dv : Value) : ∀ i, (mu_st s cl comp N M dv i).heap.size = s.heap.size + 1 + i ∧ (mu_st s cl comp N M dv i).heap[s.heap.size]? = some (mu_out cl N s.heap.size i) ∧ (mu_st s cl comp N M dv i).vm = s.vm ∧ (mu_st s cl comp N M dv i).slotsUsed = s.slotsUsed + N + i * M ∧
    (∀ a, a < s.heap.size → (mu_st s cl comp N M dv i).heap[a]? = s.heap[a]?) ∧ ∀ j, j < i → (mu_st s cl comp N M dv i).heap[s.heap.size + 1 + j]? = some (mu_in comp M dv)
  | 0 => ⟨by simp [mu_st], by simp [mu_st], rfl, by simp [mu_st, mu_out, arrV], fun a ha => State.heap_pushCell_of_lt _ _ ha, fun j h => absurd h (Nat.not_lt_zero _)⟩
  | i + 1 => by
    obtain ⟨a, b, d, u, f, r⟩ := mu_st_facts s cl comp N M dv i
    have hlt : s.heap.size < (mu_st s cl comp N M dv i).heap.size := by omega
    have hb' : ((mu_st s cl comp N M dv i).pushCell (mu_in comp M dv)).heap[s.heap.size]? = some (mu_out cl N s.heap.size i) := by rw [State.heap_pushCell_of_lt (h := hlt)]; exact b
    refine ⟨?_, State.heap_setCell_self hb', by simp [mu_st, d], ?_, fun x hx => ?_, fun j hj => ?_⟩
    · simp [mu_st, State.setCell, a]; omega
    · simp [mu_st, u, mu_in, Nat.succ_mul]; omega
    · show (((mu_st s cl comp N M dv i).pushCell (mu_in comp M dv)).setCell s.heap.size _).heap[x]? = _
      have hx2 : x < (mu_st s cl comp N M dv i).heap.size := by omega
      rw [State.heap_setCell_other (show s.heap.size ≠ x by omega), State.heap_pushCell_of_lt (h := hx2)]
      exact f x hx
    · show (((mu_st s cl comp N M dv i).pushCell (mu_in comp M dv)).setCell s.heap.size _).heap[s.heap.size + 1 + j]? = _
      rw [State.heap_setCell_other (show s.heap.size ≠ s.heap.size + 1 + j by omega)]
      by_cases e : j < i
      · have hx2 : s.heap.size + 1 + j < (mu_st s cl comp N M dv i).heap.size := by omega
        rw [State.heap_pushCell_of_lt (h := hx2)]
        exact r j e
      · rw [show j = i by omega, ← a]
        exact State.heap_pushCell_size _ _
theorem mu_st_top (s : State) (f : JFrame) (cl comp : ClassId) (N M : Nat) (dv : Value) : ∀ i, mu_st (s.setTop f) cl comp N M dv i = (mu_st s cl comp N M dv i).setTop f
  | 0 => rfl
  | i + 1 => by simp only [mu_st, mu_st_top s f cl comp N M dv i, State.heap_setTop, State.pushCell_setTop, State.setCell_setTop]
section MUW
variable {E : CtlPost} {e : Env} {d : Bool} {acts : List Action} {s : State}
theorem mu_new {cl comp : ClassId} {k : Class} {type : FieldType} {len : Nat} {init : Value} (hk : s.vm.classes[cl]? = some k) (hkind : k.kind = .array comp type)
    (hlimit : ¬ len > e.platform.arrayLengthLimit) (hheap : ¬ len * componentBytes type > e.platform.maxHeapBytes) (hfit : fits type init = true) (hdef : init.isDefault = true) {Q : Addr → Pre}
    (h1 : s.heap.size < e.platform.maxCells) (h2 : s.slotsUsed + len ≤ e.platform.maxSlots)
    (hq : Q s.heap.size d acts (s.pushCell { cls := cl, slots := Array.replicate len init, vm := .none })) : wp (Jvm.newArray cl len init) Q E e d acts s := by
  have hf : ∀ i v, (Array.replicate len init)[i]? = some v → s.fitsSlot cl .none i v = true := by
    intro i v hv
    rw [Array.getElem?_replicate] at hv
    by_cases hi : i < len
    · rw [if_pos hi] at hv; cases hv; simp [State.fitsSlot, State.slotType?, hk, hkind, hfit]
    · rw [if_neg hi] at hv; cases hv
  have ha : allocActs (Array.replicate len init) s.heap.size acts = acts := by
    unfold allocActs
    rw [if_pos (by rw [Array.all_replicate]; split <;> simp [hdef])]
  simp only [Jvm.newArray, Jvm.arrayFits, wp_bind', Jvm.W.ask, Jvm.W.ite, hlimit, if_false, wp_pure', Jvm.W.theClass, hk, hkind, hheap, Jvm.W.alloc, Jvm.W.stop, Option.some.injEq, exists_eq_left', Array.size_replicate, ha]
  rw [if_neg (by omega)]
  exact ⟨h1, h2, hf, hq⟩
theorem mu_make {cl comp cc : ClassId} {k kc : Class} {t0 type : FieldType} {n m : Int32} (hk : s.vm.classes[cl]? = some k) (hkind : k.kind = .array comp t0) (href : t0.isReference = true)
    (hkc : s.vm.classes[comp]? = some kc) (hkindc : kc.kind = .array cc type) (hn : ¬ n < 0) (hm : ¬ m < 0)
    (hl1 : ¬ n.toNatClampNeg > e.platform.arrayLengthLimit) (hh1 : ¬ n.toNatClampNeg * componentBytes t0 > e.platform.maxHeapBytes)
    (hl2 : ¬ m.toNatClampNeg > e.platform.arrayLengthLimit) (hh2 : ¬ m.toNatClampNeg * componentBytes type > e.platform.maxHeapBytes)
    (hdf : fits type (defaultValue type) = true) (hdd : (defaultValue type).isDefault = true) (hrf : ∀ v : Value, (v = .null ∨ ∃ a, v = .ref a) → fits t0 v = true)
    (hc : s.heap.size + 1 + n.toNatClampNeg ≤ e.platform.maxCells) (hs : s.slotsUsed + n.toNatClampNeg + n.toNatClampNeg * m.toNatClampNeg ≤ e.platform.maxSlots)
    {Q : Addr → Pre} (hq : ∀ d' acts', Q s.heap.size d' acts' (mu_st s cl comp n.toNatClampNeg m.toNatClampNeg (defaultValue type) n.toNatClampNeg)) :
    wp (multianewarray.make cl [n, m]) Q E e d acts s := by
  have hfind : ([m].find? (· < 0)) = none := by simp [hm]
  rw [multianewarray.make]
  simp only [wp_bind', Jvm.W.ite, hn, if_false, wp_pure', Jvm.W.theClass, hk, hkind, Option.some.injEq, exists_eq_left']
  refine mu_new hk hkind hl1 hh1 (hrf _ (Or.inl rfl)) rfl (by omega) (by have := Nat.zero_le (n.toNatClampNeg * m.toNatClampNeg); omega) ?_
  simp only [hfind]
  rw [ite_self, wp_bind', Std.Legacy.Range.forIn_eq_forIn_range']
  have hsz : ([:n.toNatClampNeg] : Std.Legacy.Range).size = n.toNatClampNeg := by simp [Std.Legacy.Range.size]
  rw [hsz]
  show wp (forIn (List.range' 0 n.toNatClampNeg 1) PUnit.unit _) _ E e d acts _
  have st0 : s.pushCell { cls := cl, slots := Array.replicate n.toNatClampNeg .null, vm := .none } = mu_st s cl comp n.toNatClampNeg m.toNatClampNeg (defaultValue type) 0 := by
    show _ = s.pushCell (mu_out cl n.toNatClampNeg s.heap.size 0)
    rw [arrV_new]
    rfl
  rw [st0]
  refine wp_forIn_inv (fun rest s' => ∃ i, i ≤ n.toNatClampNeg ∧ rest = List.range' i (n.toNatClampNeg - i) ∧ s' = mu_st s cl comp n.toNatClampNeg m.toNatClampNeg (defaultValue type) i) _ _ ⟨0, Nat.zero_le _, rfl, rfl⟩ ?_ ?_
  · rintro x rest s' d' acts' Q' ⟨i, hi, hl, rfl⟩ hnext
    have hlt : i < n.toNatClampNeg := by
      refine Nat.not_le.mp fun h => ?_
      rw [show n.toNatClampNeg - i = 0 by omega] at hl
      cases hl
    rw [show n.toNatClampNeg - i = (n.toNatClampNeg - (i + 1)) + 1 by omega, List.range'_succ] at hl
    obtain ⟨rfl, hrest⟩ := List.cons.inj hl
    obtain ⟨f1, f2, f3, f4, f5, f6⟩ := mu_st_facts s cl comp n.toNatClampNeg m.toNatClampNeg (defaultValue type) x
    have hmul : x * m.toNatClampNeg + m.toNatClampNeg ≤ n.toNatClampNeg * m.toNatClampNeg := by
      have := Nat.mul_le_mul_right m.toNatClampNeg (show x + 1 ≤ n.toNatClampNeg from hlt)
      rw [Nat.succ_mul] at this; exact this
    simp only [wp_bind']
    rw [multianewarray.make]
    simp only [wp_bind', Jvm.W.ite, hm, if_false, wp_pure', Jvm.W.theClass, f3, hkc, hkindc, Option.some.injEq, exists_eq_left']
    refine mu_new (by rw [f3]; exact hkc) hkindc hl2 hh2 hdf hdd (by rw [f1]; omega) (by rw [f4]; omega) ?_
    have hlt0 : s.heap.size < (mu_st s cl comp n.toNatClampNeg m.toNatClampNeg (defaultValue type) x).heap.size := by rw [f1]; omega
    simp only [wp_bind', Jvm.W.writeLoc, wp_pure']
    refine ⟨mu_out cl n.toNatClampNeg s.heap.size x, by rw [State.heap_pushCell_of_lt (h := hlt0)]; exact f2, (fun h => (by cases h)), (by unfold mu_out; rw [arrV_size]; exact hlt), ?_, hnext _ _ _ ⟨x + 1, hlt, hrest, ?_⟩⟩
    · unfold mu_out arrV
      simp [State.fitsSlot, State.slotType?, f3, hk, hkind, hrf _ (Or.inr ⟨_, rfl⟩)]
    · rw [f1, mu_out_set]; rfl
  · rintro s' d' acts' ⟨i, hi, hl, rfl⟩
    have hiN : i = n.toNatClampNeg := by
      refine Nat.le_antisymm hi (Nat.not_lt.mp fun h => ?_)
      rw [show n.toNatClampNeg - i = (n.toNatClampNeg - (i + 1)) + 1 by omega, List.range'_succ] at hl
      cases hl
    subst hiN
    simp only [wp_pure']
    exact hq _ _
end MUW
section MUS
variable {p : Program} {l : Launch} {e : Env} {R : Room} {s : State} {m : MethodId} {args : Array Value} {below : List Frame} {meth : Method} {c : Code} {T : State} {locs : List Loc} {cells slots : Nat}
theorem mu_stand (X : Stand p l e R s m args below meth c T locs cells slots) (cl comp : ClassId) (N M : Nat) (dv : Value) :
    ∀ i, Stand p l e R s m args below meth c (mu_st T cl comp N M dv i) (locs ++ (List.range i).map fun j => ⟨T.heap.size, j⟩) (cells + 1 + i) (slots + N + i * M)
  | 0 => by
    have h := X.pushed (mu_out cl N T.heap.size 0)
    rw [show (mu_out cl N T.heap.size 0).slots.size = N from arrV_size _ _ _] at h
    simpa [mu_st] using h
  | i + 1 => by
    have Xi := mu_stand X cl comp N M dv i
    obtain ⟨f1, f2, -⟩ := mu_st_facts T cl comp N M dv i
    have hcell : ((mu_st T cl comp N M dv i).pushCell (mu_in comp M dv)).heap[T.heap.size]? = some (mu_out cl N T.heap.size i) := by
      have hx2 : T.heap.size < (mu_st T cl comp N M dv i).heap.size := by omega
      rw [State.heap_pushCell_of_lt (h := hx2)]; exact f2
    have h := (Xi.pushed (mu_in comp M dv)).stored hcell i (.ref (T.heap.size + 1 + i))
    have e1 : (mu_in comp M dv).slots.size = M := by simp [mu_in]
    rw [e1, mu_out_set] at h
    have e2 : (locs ++ (List.range (i + 1)).map fun j => (⟨T.heap.size, j⟩ : Loc)) = (locs ++ (List.range i).map fun j => (⟨T.heap.size, j⟩ : Loc)) ++ [⟨T.heap.size, i⟩] := by simp [List.range_succ, List.append_assoc]
    rw [e2, show slots + N + (i + 1) * M = slots + N + i * M + M by rw [Nat.succ_mul]; omega]
    exact h
theorem mu_step (X : Stand p l e R s m args below meth c T locs cells slots) (hexec : p.tables.exec = Jvm.exec) {own : String} {index : Nat} {ty : FieldType}
    (hown : s.vm.findClass own = some m.cls) (hclink : (Cond.classLink own index ("[" ++ (FieldType.array ty).toString)).before args s = true)
    {cA comp cc2 : ClassId} {kA kC : Class} (hfA : s.vm.findClass ("[" ++ (FieldType.array ty).toString) = some cA) (hkA : s.vm.classes[cA]? = some kA) (hkindA : kA.kind = .array comp (.array ty)) (hkC : s.vm.classes[comp]? = some kC) (hkindC : kC.kind = .array cc2 ty)
    {g : JFrame} (hg : g.method = m) (hdg : decode c.code g.pc = .ok (.multianewarray index 2, 4)) {n k : Int32} {rest : List Value} (hstack : g.stack = .int k :: .int n :: rest)
    (hn : ¬ n < 0) (hk : ¬ k < 0) (hb1 : n.toNatClampNeg * 4 ≤ 536870912) (hb2 : k.toNatClampNeg * componentBytes ty ≤ 536870912) (hb3 : k.toNatClampNeg ≤ 536870912)
    (hdf : fits ty (defaultValue ty) = true) (hdd : (defaultValue ty).isDefault = true)
    (hcells : cells + (1 + n.toNatClampNeg) ≤ R.cells) (hslots : slots + (n.toNatClampNeg + n.toNatClampNeg * k.toNatClampNeg) ≤ R.slots) :
    ∃ vm₁ : Vm, Stand p l e R s m args below meth c (mu_st (T.setVm vm₁) cA comp n.toNatClampNeg k.toNatClampNeg (defaultValue ty) n.toNatClampNeg) (locs ++ (List.range n.toNatClampNeg).map fun j => ⟨T.heap.size, j⟩) (cells + 1 + n.toNatClampNeg) (slots + n.toNatClampNeg + n.toNatClampNeg * k.toNatClampNeg) ∧
      ∀ target, Steps p.tables e below ((mu_st (T.setVm vm₁) cA comp n.toNatClampNeg k.toNatClampNeg (defaultValue ty) n.toNatClampNeg).setTop { g with pc := g.pc + 4, stack := .ref T.heap.size :: rest }) target → Steps p.tables e below (T.setTop g) target := by
  subst hg
  have hpl : e.platform.magicAccessors = ({} : Platform).magicAccessors := by rw [X.admits.platform]
  obtain ⟨c0, hfc0, hcl⟩ := Cond.classLink_spec hown hclink e.platform hpl
  cases hfA.symm.trans hfc0
  obtain ⟨hg₁, hwarm₁, hready₁⟩ := State.classEntry (e := e) X.warmed hcl
  generalize T.vm.noted g.method.cls index (.cls cA) = vm₁ at hg₁ hwarm₁ hready₁
  obtain ⟨kA₁, hkA₁, heA⟩ := hwarm₁.alike.2.2 _ _ hkA
  obtain ⟨kC₁, hkC₁, heC⟩ := hwarm₁.alike.2.2 _ _ hkC
  have hkindA₁ : kA₁.kind = .array comp (.array ty) := by rw [heA]; exact hkindA
  have hkindC₁ : kC₁.kind = .array cc2 ty := by rw [heC]; exact hkindC
  have X₁ := X.noted hwarm₁
  obtain ⟨hr1, hr2⟩ := X.roomAbove hcells hslots
  refine ⟨vm₁, mu_stand X₁ cA comp _ _ _ _, fun target hrest => ?_⟩
  have hl1 : ¬ n.toNatClampNeg > e.platform.arrayLengthLimit := by rw [Launch.admits_arrayLengthLimit X.admits]; omega
  have hh1 : ¬ n.toNatClampNeg * componentBytes (.array ty) > e.platform.maxHeapBytes := by
    rw [Launch.admits_maxHeapBytes X.admits]; show ¬ n.toNatClampNeg * 4 > 536870912; omega
  have hl2 : ¬ k.toNatClampNeg > e.platform.arrayLengthLimit := by rw [Launch.admits_arrayLengthLimit X.admits]; omega
  have hh2 : ¬ k.toNatClampNeg * componentBytes ty > e.platform.maxHeapBytes := by rw [Launch.admits_maxHeapBytes X.admits]; omega
  jvm_step X.here [hexec, hdg]
  simp only [multianewarray.sem, wp_bind', Jvm.W.resolveClassAt_links (State.method?_setTop g X.here.top) hg₁]
  rw [Jvm.W.popN, if_neg (by decide)]
  refine ⟨g, State.topJava?_setTop' (s := T.setVm vm₁) g X.here.top, [.int n, .int k], rest, rfl, hstack, ?_⟩
  simp only [List.mapM_cons, List.mapM_nil, wp_bind', wp_pure']
  refine mu_make (k := kA₁) (kc := kC₁) (comp := comp) (cc := cc2) (t0 := .array ty) (type := ty) hkA₁ hkindA₁ rfl hkC₁ hkindC₁ hn hk hl1 hh1 hl2 hh2 hdf hdd (fun v hv => by rcases hv with rfl | ⟨a, rfl⟩ <;> rfl) (by show T.heap.size + 1 + _ ≤ _; omega) (by show T.slotsUsed + _ + _ ≤ _; omega) (fun d' acts' => ?_)
  have XF := mu_stand X₁ cA comp n.toNatClampNeg k.toNatClampNeg (defaultValue ty) n.toNatClampNeg
  have eS : ((T.setTop g).setVm vm₁).setTop { g with stack := rest } = (T.setVm vm₁).setTop { g with stack := rest } := by
    show ((T.setVm vm₁).setTop g).setTop _ = _
    rw [State.setTop_setTop]
  rw [eS, mu_st_top]
  simp only [wp_bind', Jvm.W.mark, Jvm.W.pushRef, State.topJava?_setTop' _ XF.here.top, Option.some.injEq, exists_eq_left', State.setTop_setTop, State.heap_setTop]
  intro acts
  simp [jvm, XF.here.top]
  exact hrest
end MUS
