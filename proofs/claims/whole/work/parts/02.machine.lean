/-! ===== AN ABSTRACT MACHINE: values, cells by number, one instruction as a predicate transformer ===== -/
abbrev ab_V : Type := Int32 ⊕ (Int64 ⊕ Option Nat)
abbrev vI (x : Int32) : ab_V := Sum.inl x
abbrev vL (x : Int64) : ab_V := Sum.inr (Sum.inl x)
abbrev vR (x : Option Nat) : ab_V := Sum.inr (Sum.inr x)
abbrev ab_I : Type := Nat → Nat → Int32
abbrev ab_J : Type := Nat → Nat → Int64
/-- how many cells, a cell's type, its length, its references -/
abbrev ab_G : Type := Nat × (Nat → Nat) × (Nat → Nat) × (Nat → Nat → Option Nat)
def ab_n (g : ab_G) : Nat := g.1
def ab_ty (g : ab_G) (a : Nat) : Nat := g.2.1 a
def ab_ln (g : ab_G) (a : Nat) : Nat := g.2.2.1 a
def ab_R (g : ab_G) (a k : Nat) : Option Nat := g.2.2.2 a k
def ab_up {α : Type} (f : Nat → Nat → α) (a k : Nat) (v : α) : Nat → Nat → α := fun x y => if x = a ∧ y = k then v else f x y
/-- a row of a cell's own -/
def ab_row {α : Type} (f : Nat → Nat → α) (a : Nat) (r : Nat → α) : Nat → Nat → α := fun x y => if x = a then r y else f x y
def ab_setR (g : ab_G) (a k : Nat) (o : Option Nat) : ab_G := (g.1, g.2.1, g.2.2.1, ab_up g.2.2.2 a k o)
/-- one more cell -/
def ab_mk (g : ab_G) (t len : Nat) : ab_G := (g.1 + 1, (fun a => if a = g.1 then t else g.2.1 a), (fun a => if a = g.1 then len else g.2.2.1 a), ab_row g.2.2.2 g.1 (fun _ => none))
/-- an array of n rows of length m -/
def ab_mk2 (g : ab_G) (t t1 n m : Nat) : ab_G := (g.1 + 1 + n, (fun a => if a = g.1 then t else if g.1 < a ∧ a < g.1 + 1 + n then t1 else g.2.1 a), (fun a => if a = g.1 then n else if g.1 < a ∧ a < g.1 + 1 + n then m else g.2.2.1 a),
  fun a k => if a = g.1 then (if k < n then some (g.1 + 1 + k) else none) else if g.1 < a ∧ a < g.1 + 1 + n then none else g.2.2.2 a k)
/-- zeros in the cells from a to b -/
def ab_z {α : Type} (f : Nat → Nat → α) (a b : Nat) (z : α) : Nat → Nat → α := fun x y => if a ≤ x ∧ x < b then z else f x y
def ab_cp {α : Type} (f : Nat → Nat → α) (a0 sp a1 dp n : Nat) : Nat → Nat → α := fun x y => if x = a1 ∧ dp ≤ y ∧ y < dp + n then f a0 (sp + (y - dp)) else f x y
abbrev ab_T : Type := Nat × Instr × Nat × Nat × Nat × List Nat
abbrev ab_L : Type := List (Option ab_V)
abbrev ab_Q : Type := Option ab_V → ab_G → ab_I → ab_J → Prop
abbrev ab_K : Type := Nat → ab_L → List ab_V → Nat → Nat → ab_G → ab_I → ab_J → Prop
abbrev ab_Run : Type := Nat → List ab_V → ab_G → ab_I → ab_J → ab_Q → Prop
/-- name, bytes, locals, what it returns, cells and slots that it may make, its instructions -/
abbrev ab_M : Type := MethodName × ByteArray × Nat × Option FieldType × Nat × Nat × List ab_T
def ab_1i (st : List ab_V) (f : Int32 → List ab_V → Prop) : Prop := match st with
  | Sum.inl x :: r => f x r
  | _ => False
def ab_2i (st : List ab_V) (f : Int32 → Int32 → List ab_V → Prop) : Prop := match st with
  | Sum.inl y :: Sum.inl x :: r => f x y r
  | _ => False
def ab_1l (st : List ab_V) (f : Int64 → List ab_V → Prop) : Prop := match st with
  | Sum.inr (Sum.inl x) :: r => f x r
  | _ => False
def ab_2l (st : List ab_V) (f : Int64 → Int64 → List ab_V → Prop) : Prop := match st with
  | Sum.inr (Sum.inl y) :: Sum.inr (Sum.inl x) :: r => f x y r
  | _ => False
def ab_li (st : List ab_V) (f : Int64 → Int32 → List ab_V → Prop) : Prop := match st with
  | Sum.inl y :: Sum.inr (Sum.inl x) :: r => f x y r
  | _ => False
def ab_1r (st : List ab_V) (f : Option Nat → List ab_V → Prop) : Prop := match st with
  | Sum.inr (Sum.inr x) :: r => f x r
  | _ => False
def ab_2r (st : List ab_V) (f : Option Nat → Option Nat → List ab_V → Prop) : Prop := match st with
  | Sum.inr (Sum.inr y) :: Sum.inr (Sum.inr x) :: r => f x y r
  | _ => False
/-- a reference that isn't null on top -/
def ab_1a (st : List ab_V) (f : Nat → List ab_V → Prop) : Prop := match st with
  | Sum.inr (Sum.inr (some a)) :: r => f a r
  | _ => False
/-- an index over a reference -/
def ab_ai (st : List ab_V) (f : Nat → Int32 → List ab_V → Prop) : Prop := match st with
  | Sum.inl j :: Sum.inr (Sum.inr (some a)) :: r => f a j r
  | _ => False
def ab_oi (st : List ab_V) (f : Int32 → Prop) : Prop := match st with
  | [Sum.inl x] => f x
  | _ => False
def ab_ol (st : List ab_V) (f : Int64 → Prop) : Prop := match st with
  | [Sum.inr (Sum.inl x)] => f x
  | _ => False
def ab_or (st : List ab_V) (f : Option Nat → Prop) : Prop := match st with
  | [Sum.inr (Sum.inr x)] => f x
  | _ => False
def ab_on (st : List ab_V) (f : Prop) : Prop := match st with
  | [] => f
  | _ => False
def ab_sel (n : Nat) (a b c : Prop) : Prop := match n with
  | 0 => a
  | 1 => b
  | _ => c
def ab_cat (v : ab_V) : Nat := match v with
  | Sum.inr (Sum.inl _) => 2
  | _ => 1
def ab_cs (st : List ab_V) : Nat := match st with
  | [] => 0
  | v :: r => ab_cat v + ab_cs r
def ab_get (L : ab_L) (i : Nat) (f : ab_V → Prop) : Prop := match L[i]? with
  | some (some v) => f v
  | _ => False
def ab_isI (v : ab_V) (f : Int32 → Prop) : Prop := match v with
  | Sum.inl x => f x
  | _ => False
def ab_isL (v : ab_V) (f : Int64 → Prop) : Prop := match v with
  | Sum.inr (Sum.inl x) => f x
  | _ => False
def ab_isR (v : ab_V) (f : Option Nat → Prop) : Prop := match v with
  | Sum.inr (Sum.inr x) => f x
  | _ => False
def ab_inv (o : Option ab_V) : Option ab_V := match o with
  | some (Sum.inr (Sum.inl _)) => none
  | x => x
def ab_kl (L : ab_L) (i : Nat) : ab_L := match i with
  | 0 => L
  | j + 1 => L.modify j ab_inv
def ab_s1 (L : ab_L) (i : Nat) (v : ab_V) : ab_L := (ab_kl L i).set i (some v)
def ab_s2 (L : ab_L) (i : Nat) (v : ab_V) : ab_L := ((ab_kl L i).set i (some v)).set (i + 1) none
def ab_push (r : Option ab_V) (st : List ab_V) : List ab_V := match r with
  | some v => v :: st
  | none => st
def ab_bit (x : Int32) : Prop := x = 0 ∨ x = 1
/-- two references, of own cells or null: the same? -/
def ab_own (o : Option Nat) : Prop := match o with
  | none => True
  | some a => 29 ≤ a
def ab_lc (x y : Int64) : Int32 := lg_cmp x y
/-- a switch by a list of keys and targets, else d -/
def ab_sw (x : Int32) (ks : List (Int32 × Nat)) (d : Nat) : Nat := match ks with
  | [] => d
  | q :: r => if x = q.1 then q.2 else ab_sw x r d
def ab_keys (lo : Int) (ts : List Nat) : List (Int32 × Nat) := match ts with
  | [] => []
  | t :: r => (Int32.ofInt lo, t) :: ab_keys (lo + 1) r
def ab_zip (ps : List (Int × Int)) (ts : List Nat) : List (Int32 × Nat) := match ps, ts with
  | p :: ps, t :: ts => (Int32.ofInt p.1, t) :: ab_zip ps ts
  | _, _ => []
/-- what a call does: r1 the method, its budget -/
def ab_call (run : ab_Run) (bud : Nat → Nat × Nat) (mc ms : Nat) (N : Nat) (As rest : List ab_V) (pc : Nat) (L : ab_L) (ce sl : Nat) (g : ab_G) (I : ab_I) (J : ab_J) (k : ab_K) : Prop :=
  ab_cs rest ≤ 8 ∧ ce + (bud N).1 ≤ mc ∧ sl + (bud N).2 ≤ ms ∧ run N As g I J (fun r g' I' J' => k (pc + 3) L (ab_push r rest) (ce + (bud N).1) (sl + (bud N).2) g' I' J')
def ab_pop (n : Nat) (st : List ab_V) (f : List ab_V → List ab_V → Prop) : Prop := n ≤ st.length ∧ f (st.take n).reverse (st.drop n)
/-- arraycopy, of ints or longs -/
def ab_acp (st : List ab_V) (f : Nat → Int32 → Nat → Int32 → Int32 → List ab_V → Prop) : Prop := match st with
  | Sum.inl n :: Sum.inl dp :: Sum.inr (Sum.inr (some a1)) :: Sum.inl sp :: Sum.inr (Sum.inr (some a0)) :: r => f a0 sp a1 dp n r
  | _ => False
/-- one instruction -/
def ab_st (run : ab_Run) (bud : Nat → Nat × Nat) (mc ms rt : Nat) (t : ab_T) (L : ab_L) (st : List ab_V) (ce sl : Nat) (g : ab_G) (I : ab_I) (J : ab_J) (Q : ab_Q) (k : ab_K) : Prop :=
  match t with
  | (pc, ins, ln, r1, r2, rs) =>
  match ins with
  | .iconst n => k (pc + ln) L (vI (Int32.ofInt n) :: st) ce sl g I J
  | .bipush n => k (pc + ln) L (vI (Int32.ofInt n) :: st) ce sl g I J
  | .sipush n => k (pc + ln) L (vI (Int32.ofInt n) :: st) ce sl g I J
  | .lconst n => k (pc + ln) L (vL (Int64.ofNat n.val) :: st) ce sl g I J
  | .aconst_null => k (pc + ln) L (vR none :: st) ce sl g I J
  | .ldc _ => if rs.getD 0 0 = 0 then k (pc + ln) L (vI (Int32.ofInt (if r2 = 1 then -(r1 : Int) else r1)) :: st) ce sl g I J else r1 < 4 ∧ k (pc + ln) L (vR (some r1) :: st) ce sl g I J
  | .ldc_w _ => rs.getD 0 0 = 0 ∧ k (pc + ln) L (vI (Int32.ofInt (if r2 = 1 then -(r1 : Int) else r1)) :: st) ce sl g I J
  | .ldc2_w _ => k (pc + ln) L (vL (Int64.ofNat r1) :: st) ce sl g I J
  | .iload i => ab_get L i fun v => ab_isI v fun x => k (pc + ln) L (vI x :: st) ce sl g I J
  | .iload_n i => ab_get L i.val fun v => ab_isI v fun x => k (pc + ln) L (vI x :: st) ce sl g I J
  | .lload i => ab_get L i fun v => ab_isL v fun x => k (pc + ln) L (vL x :: st) ce sl g I J
  | .lload_n i => ab_get L i.val fun v => ab_isL v fun x => k (pc + ln) L (vL x :: st) ce sl g I J
  | .aload i => ab_get L i fun v => ab_isR v fun x => k (pc + ln) L (vR x :: st) ce sl g I J
  | .aload_n i => ab_get L i.val fun v => ab_isR v fun x => k (pc + ln) L (vR x :: st) ce sl g I J
  | .istore i => i < L.length ∧ ab_1i st fun x r => k (pc + ln) (ab_s1 L i (vI x)) r ce sl g I J
  | .istore_n i => i.val < L.length ∧ ab_1i st fun x r => k (pc + ln) (ab_s1 L i.val (vI x)) r ce sl g I J
  | .lstore i => i + 1 < L.length ∧ ab_1l st fun x r => k (pc + ln) (ab_s2 L i (vL x)) r ce sl g I J
  | .lstore_n i => i.val + 1 < L.length ∧ ab_1l st fun x r => k (pc + ln) (ab_s2 L i.val (vL x)) r ce sl g I J
  | .astore i => i < L.length ∧ ab_1r st fun x r => k (pc + ln) (ab_s1 L i (vR x)) r ce sl g I J
  | .astore_n i => i.val < L.length ∧ ab_1r st fun x r => k (pc + ln) (ab_s1 L i.val (vR x)) r ce sl g I J
  | .iinc i n => i < L.length ∧ ab_get L i fun v => ab_isI v fun x => k (pc + ln) (ab_s1 L i (vI (x + Int32.ofInt n))) st ce sl g I J
  | .dup => match st with
    | v :: r => ab_cat v = 1 ∧ k (pc + ln) L (v :: v :: r) ce sl g I J
    | [] => False
  | .dup2 => match st with
    | v :: w :: r => ab_cat v = 1 ∧ ab_cat w = 1 ∧ k (pc + ln) L (v :: w :: v :: w :: r) ce sl g I J
    | _ => False
  | .pop => match st with
    | v :: r => ab_cat v = 1 ∧ k (pc + ln) L r ce sl g I J
    | [] => False
  | .iadd => ab_2i st fun x y r => k (pc + ln) L (vI (x + y) :: r) ce sl g I J
  | .isub => ab_2i st fun x y r => k (pc + ln) L (vI (x - y) :: r) ce sl g I J
  | .imul => ab_2i st fun x y r => k (pc + ln) L (vI (x * y) :: r) ce sl g I J
  | .idiv => ab_2i st fun x y r => ¬ y = 0 ∧ k (pc + ln) L (vI (x / y) :: r) ce sl g I J
  | .irem => ab_2i st fun x y r => ¬ y = 0 ∧ k (pc + ln) L (vI (x - x / y * y) :: r) ce sl g I J
  | .ineg => ab_1i st fun x r => k (pc + ln) L (vI (-x) :: r) ce sl g I J
  | .iand => ab_2i st fun x y r => k (pc + ln) L (vI (x &&& y) :: r) ce sl g I J
  | .ior => ab_2i st fun x y r => k (pc + ln) L (vI (x ||| y) :: r) ce sl g I J
  | .ixor => ab_2i st fun x y r => k (pc + ln) L (vI (x ^^^ y) :: r) ce sl g I J
  | .ishl => ab_2i st fun x y r => k (pc + ln) L (vI (x <<< (y &&& 31)) :: r) ce sl g I J
  | .ishr => ab_2i st fun x y r => k (pc + ln) L (vI (x >>> (y &&& 31)) :: r) ce sl g I J
  | .iushr => ab_2i st fun x y r => k (pc + ln) L (vI ((x.toUInt32 >>> (y.toUInt32 &&& Int32.toUInt32 31)).toInt32) :: r) ce sl g I J
  | .ladd => ab_2l st fun x y r => k (pc + ln) L (vL (x + y) :: r) ce sl g I J
  | .lsub => ab_2l st fun x y r => k (pc + ln) L (vL (x - y) :: r) ce sl g I J
  | .lmul => ab_2l st fun x y r => k (pc + ln) L (vL (x * y) :: r) ce sl g I J
  | .land => ab_2l st fun x y r => k (pc + ln) L (vL (x &&& y) :: r) ce sl g I J
  | .lor => ab_2l st fun x y r => k (pc + ln) L (vL (x ||| y) :: r) ce sl g I J
  | .lshl => ab_li st fun x y r => k (pc + ln) L (vL (x <<< (y.toInt64 &&& 63)) :: r) ce sl g I J
  | .lcmp => ab_2l st fun x y r => k (pc + ln) L (vI (lg_cmp x y) :: r) ce sl g I J
  | .i2l => ab_1i st fun x r => k (pc + ln) L (vL x.toInt64 :: r) ce sl g I J
  | .l2i => ab_1l st fun x r => k (pc + ln) L (vI x.toInt32 :: r) ce sl g I J
  | .i2b => ab_1i st fun x r => k (pc + ln) L (vI x.toInt8.toInt32 :: r) ce sl g I J
  | .i2s => ab_1i st fun x r => k (pc + ln) L (vI x.toInt16.toInt32 :: r) ce sl g I J
  | .i2c => ab_1i st fun x r => k (pc + ln) L (vI (x.toUInt32 % 65536).toInt32 :: r) ce sl g I J
  | .goto _ => k r1 L st ce sl g I J
  | .ifCond cd _ => ab_1i st fun x r => (match cd with
    | .eq => if x = 0 then k r1 L r ce sl g I J else k (pc + ln) L r ce sl g I J
    | .ne => if x = 0 then k (pc + ln) L r ce sl g I J else k r1 L r ce sl g I J
    | .lt => if x < 0 then k r1 L r ce sl g I J else k (pc + ln) L r ce sl g I J
    | .ge => if x < 0 then k (pc + ln) L r ce sl g I J else k r1 L r ce sl g I J
    | .gt => if 0 < x then k r1 L r ce sl g I J else k (pc + ln) L r ce sl g I J
    | .le => if 0 < x then k (pc + ln) L r ce sl g I J else k r1 L r ce sl g I J)
  | .if_icmp cd _ => ab_2i st fun x y r => (match cd with
    | .eq => if x = y then k r1 L r ce sl g I J else k (pc + ln) L r ce sl g I J
    | .ne => if x = y then k (pc + ln) L r ce sl g I J else k r1 L r ce sl g I J
    | .lt => if x < y then k r1 L r ce sl g I J else k (pc + ln) L r ce sl g I J
    | .ge => if x < y then k (pc + ln) L r ce sl g I J else k r1 L r ce sl g I J
    | .gt => if y < x then k r1 L r ce sl g I J else k (pc + ln) L r ce sl g I J
    | .le => if y < x then k (pc + ln) L r ce sl g I J else k r1 L r ce sl g I J)
  | .if_acmp cd _ => ab_2r st fun x y r => ab_own x ∧ ab_own y ∧ (match cd with
    | .eq => if x = y then k r1 L r ce sl g I J else k (pc + ln) L r ce sl g I J
    | .ne => if x = y then k (pc + ln) L r ce sl g I J else k r1 L r ce sl g I J)
  | .ifnull _ => ab_1r st fun x r => if x = none then k r1 L r ce sl g I J else k (pc + ln) L r ce sl g I J
  | .ifnonnull _ => ab_1r st fun x r => if x = none then k (pc + ln) L r ce sl g I J else k r1 L r ce sl g I J
  | .tableswitch _ lo _ _ => ab_1i st fun x r => k (ab_sw x (ab_keys lo rs) r1) L r ce sl g I J
  | .lookupswitch _ ps => ab_1i st fun x r => k (ab_sw x (ab_zip ps.toList rs) r1) L r ce sl g I J
  | .arraylength => ab_1a st fun a r => 0 < ab_ty g a ∧ ab_ty g a < 10 ∧ k (pc + ln) L (vI (nI (ab_ln g a)) :: r) ce sl g I J
  | .iaload => ab_ai st fun a j r => ab_ty g a = 1 ∧ vp_in j (ab_ln g a) ∧ k (pc + ln) L (vI (I a j.toNatClampNeg) :: r) ce sl g I J
  | .baload => ab_ai st fun a j r => ab_ty g a = 7 ∧ vp_in j (ab_ln g a) ∧ k (pc + ln) L (vI (I a j.toNatClampNeg) :: r) ce sl g I J
  | .laload => ab_ai st fun a j r => ab_ty g a = 2 ∧ vp_in j (ab_ln g a) ∧ k (pc + ln) L (vL (J a j.toNatClampNeg) :: r) ce sl g I J
  | .aaload => ab_ai st fun a j r => 3 ≤ ab_ty g a ∧ ab_ty g a ≤ 6 ∧ vp_in j (ab_ln g a) ∧ k (pc + ln) L (vR (ab_R g a j.toNatClampNeg) :: r) ce sl g I J
  | .iastore => ab_1i st fun x r0 => ab_ai r0 fun a j r => 29 ≤ a ∧ ab_ty g a = 1 ∧ vp_in j (ab_ln g a) ∧ k (pc + ln) L r ce sl g (ab_up I a j.toNatClampNeg x) J
  | .lastore => ab_1l st fun x r0 => ab_ai r0 fun a j r => 29 ≤ a ∧ ab_ty g a = 2 ∧ vp_in j (ab_ln g a) ∧ k (pc + ln) L r ce sl g I (ab_up J a j.toNatClampNeg x)
  | .aastore => ab_1r st fun x r0 => ab_ai r0 fun a j r => 29 ≤ a ∧ vp_in j (ab_ln g a) ∧ (x = none ∧ (ab_ty g a = 3 ∨ ab_ty g a = 4) ∨ ∃ b, x = some b ∧ (ab_ty g a = 3 ∧ ab_ty g b = 17 ∨ ab_ty g a = 4 ∧ ab_ty g b = 18)) ∧ k (pc + ln) L r ce sl (ab_setR g a j.toNatClampNeg x) I J
  | .getfield _ => ab_1a st fun a r => ab_ty g a = 10 + r1 ∧ ab_sel (rs.getD 0 0) (k (pc + ln) L (vI (I a r2) :: r) ce sl g I J) (k (pc + ln) L (vL (J a r2) :: r) ce sl g I J) (k (pc + ln) L (vR (ab_R g a r2) :: r) ce sl g I J)
  | .putfield _ => ab_sel (rs.getD 0 0)
    (ab_1i st fun x r0 => ab_1a r0 fun a r => 29 ≤ a ∧ ab_ty g a = 10 + r1 ∧ (rs.getD 3 0 = 1 → ab_bit x) ∧ k (pc + ln) L r ce sl g (ab_up I a r2 x) J)
    (ab_1l st fun x r0 => ab_1a r0 fun a r => 29 ≤ a ∧ ab_ty g a = 10 + r1 ∧ k (pc + ln) L r ce sl g I (ab_up J a r2 x))
    (ab_1r st fun x r0 => ab_1a r0 fun a r => 29 ≤ a ∧ ab_ty g a = 10 + r1 ∧ k (pc + ln) L r ce sl (ab_setR g a r2 x) I J)
  | .getstatic _ => ab_sel (rs.getD 0 0) (k (pc + ln) L (vR (some r1) :: st) ce sl g I J) (k (pc + ln) L (vI (nI r1) :: st) ce sl g I J) (∀ o : Option Nat, k (pc + ln) L (vR o :: st) ce sl g I J)
  | .new _ => ce + 1 ≤ mc ∧ sl + r2 ≤ ms ∧ k (pc + ln) L (vR (some (ab_n g)) :: st) (ce + 1) (sl + r2) (ab_mk g (10 + r1) 0) (ab_z I (ab_n g) (ab_n g + 1) 0) (ab_z J (ab_n g) (ab_n g + 1) 0)
  | .newarray ty => ab_1i st fun x r => ¬ x < 0 ∧ x.toNatClampNeg < 65536 ∧ ce + 1 ≤ mc ∧ sl + x.toNatClampNeg ≤ ms ∧ (match ty with
    | .int => k (pc + ln) L (vR (some (ab_n g)) :: r) (ce + 1) (sl + x.toNatClampNeg) (ab_mk g 1 x.toNatClampNeg) (ab_z I (ab_n g) (ab_n g + 1) 0) (ab_z J (ab_n g) (ab_n g + 1) 0)
    | .long => k (pc + ln) L (vR (some (ab_n g)) :: r) (ce + 1) (sl + x.toNatClampNeg) (ab_mk g 2 x.toNatClampNeg) (ab_z I (ab_n g) (ab_n g + 1) 0) (ab_z J (ab_n g) (ab_n g + 1) 0)
    | _ => False)
  | .anewarray _ => ab_1i st fun x r => ¬ x < 0 ∧ x.toNatClampNeg < 65536 ∧ ce + 1 ≤ mc ∧ sl + x.toNatClampNeg ≤ ms ∧ k (pc + ln) L (vR (some (ab_n g)) :: r) (ce + 1) (sl + x.toNatClampNeg) (ab_mk g r1 x.toNatClampNeg) (ab_z I (ab_n g) (ab_n g + 1) 0) (ab_z J (ab_n g) (ab_n g + 1) 0)
  | .multianewarray _ _ => ab_2i st fun x y r => ¬ x < 0 ∧ ¬ y < 0 ∧ x.toNatClampNeg < 65536 ∧ y.toNatClampNeg < 65536 ∧ ce + 1 + x.toNatClampNeg ≤ mc ∧ sl + x.toNatClampNeg + x.toNatClampNeg * y.toNatClampNeg ≤ ms ∧
      k (pc + ln) L (vR (some (ab_n g)) :: r) (ce + 1 + x.toNatClampNeg) (sl + x.toNatClampNeg + x.toNatClampNeg * y.toNatClampNeg) (ab_mk2 g r1 r2 x.toNatClampNeg y.toNatClampNeg) (ab_z I (ab_n g) (ab_n g + 1 + x.toNatClampNeg) 0) (ab_z J (ab_n g) (ab_n g + 1 + x.toNatClampNeg) 0)
  | .invokestatic _ => if rs.getD 0 0 = 3 then
      ab_acp st fun a0 sp a1 dp n r => ab_cs r ≤ 8 ∧ 29 ≤ a0 ∧ 29 ≤ a1 ∧ ¬ sp < 0 ∧ ¬ dp < 0 ∧ ¬ n < 0 ∧ sp.toNatClampNeg + n.toNatClampNeg ≤ ab_ln g a0 ∧ dp.toNatClampNeg + n.toNatClampNeg ≤ ab_ln g a1 ∧
        ((ab_ty g a0 = 1 ∧ ab_ty g a1 = 1 ∧ k (pc + 3) L r ce sl g (ab_cp I a0 sp.toNatClampNeg a1 dp.toNatClampNeg n.toNatClampNeg) J) ∨ (ab_ty g a0 = 2 ∧ ab_ty g a1 = 2 ∧ k (pc + 3) L r ce sl g I (ab_cp J a0 sp.toNatClampNeg a1 dp.toNatClampNeg n.toNatClampNeg)))
    else ab_pop r2 st fun As r => ab_call run bud mc ms r1 As r pc L ce sl g I J k
  | .invokespecial _ => if rs.getD 0 0 = 2 then ab_1a st fun a r => ab_cs r ≤ 8 ∧ k (pc + 3) L r ce sl g I J
    else ab_pop (r2 + 1) st fun As r => (∃ b, As.head? = some (vR (some b))) ∧ ab_call run bud mc ms r1 As r pc L ce sl g I J k
  | .invokevirtual _ => ab_pop (r2 + 1) st fun As r => (∃ b, As.head? = some (vR (some b)) ∧ ab_ty g b = 10 + rs.getD 2 0) ∧ ab_call run bud mc ms r1 As r pc L ce sl g I J k
  | .ireturn => ab_oi st fun x => ce ≤ mc ∧ sl ≤ ms ∧ (rt = 1 ∨ (rt = 4 ∧ ab_bit x) ∨ (rt = 5 ∧ narrow .char (.int x) = .int x) ∨ (rt = 6 ∧ narrow .byte (.int x) = .int x)) ∧ Q (some (vI x)) g I J
  | .lreturn => ab_ol st fun x => ce ≤ mc ∧ sl ≤ ms ∧ rt = 2 ∧ Q (some (vL x)) g I J
  | .areturn => ab_or st fun x => ce ≤ mc ∧ sl ≤ ms ∧ rt = 3 ∧ Q (some (vR x)) g I J
  | .return_ => ab_on st (ce ≤ mc ∧ sl ≤ ms ∧ rt = 0 ∧ Q none g I J)
  | _ => False
