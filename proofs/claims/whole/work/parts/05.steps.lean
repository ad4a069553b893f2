/-! ===== one instruction of a method, as an equivalence ===== -/
def ab_cdm (N : Nat) : List ab_T := (ab_meth N).2.2.2.2.2.2
section KE
variable {d N pc : Nat} {L : ab_L} {st : List ab_V} {ce sl : Nat} {g : ab_G} {I : ab_I} {J : ab_J} {Q : ab_Q} {c : List ab_T} {pc0 ln r1 r2 : Nat} {rs : List Nat}
theorem ab_E_step : ab_E d N pc L st ce sl g I J Q ↔ ab_stO (ab_run d) ab_bud (ab_bud N).1 (ab_bud N).2 (ab_rt (ab_meth N).2.2.2.1) (ab_find (ab_cdm N) pc) L st ce sl g I J Q (fun pc L st ce sl g I J => ab_E d N pc L st ce sl g I J Q) := ab_lfp_step (ab_run_m d)
theorem ab_E_at {t : ab_T} (hm : ab_cdm N = c) (hf : ab_find c pc = some t) : ab_E d N pc L st ce sl g I J Q ↔ ab_st (ab_run d) ab_bud (ab_bud N).1 (ab_bud N).2 (ab_rt (ab_meth N).2.2.2.1) t L st ce sl g I J Q (fun pc L st ce sl g I J => ab_E d N pc L st ce sl g I J Q) := by
  rw [ab_E_step, hm, hf]
  rfl
theorem ab_and_t {a b : Prop} (h : a) : (a ∧ b) ↔ b := ⟨fun q => q.2, fun q => ⟨h, q⟩⟩
theorem ke_iconst {n : Int} {v : Int32} (hm : ab_cdm N = c) (hf : ab_find c pc = some (pc0, .iconst n, ln, r1, r2, rs)) (hv : Int32.ofInt n = v) : ab_E d N pc L st ce sl g I J Q ↔ ab_E d N (pc0 + ln) L (vI v :: st) ce sl g I J Q := by subst hv; exact ab_E_at hm hf
theorem ke_bipush {n : Int} {v : Int32} (hm : ab_cdm N = c) (hf : ab_find c pc = some (pc0, .bipush n, ln, r1, r2, rs)) (hv : Int32.ofInt n = v) : ab_E d N pc L st ce sl g I J Q ↔ ab_E d N (pc0 + ln) L (vI v :: st) ce sl g I J Q := by subst hv; exact ab_E_at hm hf
theorem ke_sipush {n : Int} {v : Int32} (hm : ab_cdm N = c) (hf : ab_find c pc = some (pc0, .sipush n, ln, r1, r2, rs)) (hv : Int32.ofInt n = v) : ab_E d N pc L st ce sl g I J Q ↔ ab_E d N (pc0 + ln) L (vI v :: st) ce sl g I J Q := by subst hv; exact ab_E_at hm hf
theorem ke_lconst {n : Fin 2} {v : Int64} (hm : ab_cdm N = c) (hf : ab_find c pc = some (pc0, .lconst n, ln, r1, r2, rs)) (hv : Int64.ofNat n.val = v) : ab_E d N pc L st ce sl g I J Q ↔ ab_E d N (pc0 + ln) L (vL v :: st) ce sl g I J Q := by subst hv; exact ab_E_at hm hf
theorem ke_null (hm : ab_cdm N = c) (hf : ab_find c pc = some (pc0, .aconst_null, ln, r1, r2, rs)) : ab_E d N pc L st ce sl g I J Q ↔ ab_E d N (pc0 + ln) L (vR none :: st) ce sl g I J Q := ab_E_at hm hf
theorem ke_ldc {i : Nat} {v : Int32} (hm : ab_cdm N = c) (hf : ab_find c pc = some (pc0, .ldc i, ln, r1, r2, rs)) (h0 : rs.getD 0 0 = 0) (hv : Int32.ofInt (if r2 = 1 then -(r1 : Int) else r1) = v) : ab_E d N pc L st ce sl g I J Q ↔ ab_E d N (pc0 + ln) L (vI v :: st) ce sl g I J Q := by
  subst hv; exact (ab_E_at hm hf).trans (by show (if _ then _ else _) ↔ _; rw [if_pos h0])
theorem ke_ldcS {i : Nat} (hm : ab_cdm N = c) (hf : ab_find c pc = some (pc0, .ldc i, ln, r1, r2, rs)) (h0 : ¬ rs.getD 0 0 = 0) (hv : r1 < 4) : ab_E d N pc L st ce sl g I J Q ↔ ab_E d N (pc0 + ln) L (vR (some r1) :: st) ce sl g I J Q :=
  (ab_E_at hm hf).trans (by show (if _ then _ else _) ↔ _; rw [if_neg h0]; exact ab_and_t hv)
theorem ke_ldc_w {i : Nat} {v : Int32} (hm : ab_cdm N = c) (hf : ab_find c pc = some (pc0, .ldc_w i, ln, r1, r2, rs)) (h0 : rs.getD 0 0 = 0) (hv : Int32.ofInt (if r2 = 1 then -(r1 : Int) else r1) = v) : ab_E d N pc L st ce sl g I J Q ↔ ab_E d N (pc0 + ln) L (vI v :: st) ce sl g I J Q := by
  subst hv; exact (ab_E_at hm hf).trans (ab_and_t h0)
theorem ke_ldc2_w {i : Nat} {v : Int64} (hm : ab_cdm N = c) (hf : ab_find c pc = some (pc0, .ldc2_w i, ln, r1, r2, rs)) (hv : Int64.ofNat r1 = v) : ab_E d N pc L st ce sl g I J Q ↔ ab_E d N (pc0 + ln) L (vL v :: st) ce sl g I J Q := by subst hv; exact ab_E_at hm hf
theorem ab_get_at {i : Nat} {v : ab_V} {f : ab_V → Prop} (h : L[i]? = some (some v)) : ab_get L i f ↔ f v := by unfold ab_get; rw [h]
theorem ke_iload {i : Nat} {x : Int32} (hm : ab_cdm N = c) (hf : ab_find c pc = some (pc0, .iload i, ln, r1, r2, rs)) (hl : L[i]? = some (some (vI x))) : ab_E d N pc L st ce sl g I J Q ↔ ab_E d N (pc0 + ln) L (vI x :: st) ce sl g I J Q := (ab_E_at hm hf).trans (ab_get_at hl)
theorem ke_iload_n {i : Fin 4} {x : Int32} (hm : ab_cdm N = c) (hf : ab_find c pc = some (pc0, .iload_n i, ln, r1, r2, rs)) (hl : L[i.val]? = some (some (vI x))) : ab_E d N pc L st ce sl g I J Q ↔ ab_E d N (pc0 + ln) L (vI x :: st) ce sl g I J Q := (ab_E_at hm hf).trans (ab_get_at hl)
theorem ke_lload {i : Nat} {x : Int64} (hm : ab_cdm N = c) (hf : ab_find c pc = some (pc0, .lload i, ln, r1, r2, rs)) (hl : L[i]? = some (some (vL x))) : ab_E d N pc L st ce sl g I J Q ↔ ab_E d N (pc0 + ln) L (vL x :: st) ce sl g I J Q := (ab_E_at hm hf).trans (ab_get_at hl)
theorem ke_lload_n {i : Fin 4} {x : Int64} (hm : ab_cdm N = c) (hf : ab_find c pc = some (pc0, .lload_n i, ln, r1, r2, rs)) (hl : L[i.val]? = some (some (vL x))) : ab_E d N pc L st ce sl g I J Q ↔ ab_E d N (pc0 + ln) L (vL x :: st) ce sl g I J Q := (ab_E_at hm hf).trans (ab_get_at hl)
theorem ke_aload {i : Nat} {x : Option Nat} (hm : ab_cdm N = c) (hf : ab_find c pc = some (pc0, .aload i, ln, r1, r2, rs)) (hl : L[i]? = some (some (vR x))) : ab_E d N pc L st ce sl g I J Q ↔ ab_E d N (pc0 + ln) L (vR x :: st) ce sl g I J Q := (ab_E_at hm hf).trans (ab_get_at hl)
theorem ke_aload_n {i : Fin 4} {x : Option Nat} (hm : ab_cdm N = c) (hf : ab_find c pc = some (pc0, .aload_n i, ln, r1, r2, rs)) (hl : L[i.val]? = some (some (vR x))) : ab_E d N pc L st ce sl g I J Q ↔ ab_E d N (pc0 + ln) L (vR x :: st) ce sl g I J Q := (ab_E_at hm hf).trans (ab_get_at hl)
theorem ke_istore {i : Nat} {x : Int32} (hm : ab_cdm N = c) (hf : ab_find c pc = some (pc0, .istore i, ln, r1, r2, rs)) (hl : i < L.length) : ab_E d N pc L (vI x :: st) ce sl g I J Q ↔ ab_E d N (pc0 + ln) (ab_s1 L i (vI x)) st ce sl g I J Q := (ab_E_at hm hf).trans (ab_and_t hl)
theorem ke_istore_n {i : Fin 4} {x : Int32} (hm : ab_cdm N = c) (hf : ab_find c pc = some (pc0, .istore_n i, ln, r1, r2, rs)) (hl : i.val < L.length) : ab_E d N pc L (vI x :: st) ce sl g I J Q ↔ ab_E d N (pc0 + ln) (ab_s1 L i.val (vI x)) st ce sl g I J Q := (ab_E_at hm hf).trans (ab_and_t hl)
theorem ke_lstore {i : Nat} {x : Int64} (hm : ab_cdm N = c) (hf : ab_find c pc = some (pc0, .lstore i, ln, r1, r2, rs)) (hl : i + 1 < L.length) : ab_E d N pc L (vL x :: st) ce sl g I J Q ↔ ab_E d N (pc0 + ln) (ab_s2 L i (vL x)) st ce sl g I J Q := (ab_E_at hm hf).trans (ab_and_t hl)
theorem ke_lstore_n {i : Fin 4} {x : Int64} (hm : ab_cdm N = c) (hf : ab_find c pc = some (pc0, .lstore_n i, ln, r1, r2, rs)) (hl : i.val + 1 < L.length) : ab_E d N pc L (vL x :: st) ce sl g I J Q ↔ ab_E d N (pc0 + ln) (ab_s2 L i.val (vL x)) st ce sl g I J Q := (ab_E_at hm hf).trans (ab_and_t hl)
theorem ke_astore {i : Nat} {x : Option Nat} (hm : ab_cdm N = c) (hf : ab_find c pc = some (pc0, .astore i, ln, r1, r2, rs)) (hl : i < L.length) : ab_E d N pc L (vR x :: st) ce sl g I J Q ↔ ab_E d N (pc0 + ln) (ab_s1 L i (vR x)) st ce sl g I J Q := (ab_E_at hm hf).trans (ab_and_t hl)
theorem ke_astore_n {i : Fin 4} {x : Option Nat} (hm : ab_cdm N = c) (hf : ab_find c pc = some (pc0, .astore_n i, ln, r1, r2, rs)) (hl : i.val < L.length) : ab_E d N pc L (vR x :: st) ce sl g I J Q ↔ ab_E d N (pc0 + ln) (ab_s1 L i.val (vR x)) st ce sl g I J Q := (ab_E_at hm hf).trans (ab_and_t hl)
theorem ke_iinc {i : Nat} {n : Int} {x v : Int32} (hm : ab_cdm N = c) (hf : ab_find c pc = some (pc0, .iinc i n, ln, r1, r2, rs)) (hl : i < L.length) (hx : L[i]? = some (some (vI x))) (hv : Int32.ofInt n = v) : ab_E d N pc L st ce sl g I J Q ↔ ab_E d N (pc0 + ln) (ab_s1 L i (vI (x + v))) st ce sl g I J Q := by
  subst hv; exact (ab_E_at hm hf).trans ((ab_and_t hl).trans (ab_get_at hx))
theorem ke_dup {v : ab_V} (hm : ab_cdm N = c) (hf : ab_find c pc = some (pc0, .dup, ln, r1, r2, rs)) (hv : ab_cat v = 1) : ab_E d N pc L (v :: st) ce sl g I J Q ↔ ab_E d N (pc0 + ln) L (v :: v :: st) ce sl g I J Q := (ab_E_at hm hf).trans (ab_and_t hv)
theorem ke_dup2 {v w : ab_V} (hm : ab_cdm N = c) (hf : ab_find c pc = some (pc0, .dup2, ln, r1, r2, rs)) (hv : ab_cat v = 1) (hw : ab_cat w = 1) : ab_E d N pc L (v :: w :: st) ce sl g I J Q ↔ ab_E d N (pc0 + ln) L (v :: w :: v :: w :: st) ce sl g I J Q := (ab_E_at hm hf).trans ((ab_and_t hv).trans (ab_and_t hw))
theorem ke_pop {v : ab_V} (hm : ab_cdm N = c) (hf : ab_find c pc = some (pc0, .pop, ln, r1, r2, rs)) (hv : ab_cat v = 1) : ab_E d N pc L (v :: st) ce sl g I J Q ↔ ab_E d N (pc0 + ln) L st ce sl g I J Q := (ab_E_at hm hf).trans (ab_and_t hv)
theorem ke_iadd {x y : Int32} (hm : ab_cdm N = c) (hf : ab_find c pc = some (pc0, .iadd, ln, r1, r2, rs)) : ab_E d N pc L (vI y :: vI x :: st) ce sl g I J Q ↔ ab_E d N (pc0 + ln) L (vI (x + y) :: st) ce sl g I J Q := ab_E_at hm hf
theorem ke_isub {x y : Int32} (hm : ab_cdm N = c) (hf : ab_find c pc = some (pc0, .isub, ln, r1, r2, rs)) : ab_E d N pc L (vI y :: vI x :: st) ce sl g I J Q ↔ ab_E d N (pc0 + ln) L (vI (x - y) :: st) ce sl g I J Q := ab_E_at hm hf
theorem ke_imul {x y : Int32} (hm : ab_cdm N = c) (hf : ab_find c pc = some (pc0, .imul, ln, r1, r2, rs)) : ab_E d N pc L (vI y :: vI x :: st) ce sl g I J Q ↔ ab_E d N (pc0 + ln) L (vI (x * y) :: st) ce sl g I J Q := ab_E_at hm hf
theorem ke_idiv {x y : Int32} (hm : ab_cdm N = c) (hf : ab_find c pc = some (pc0, .idiv, ln, r1, r2, rs)) : ab_E d N pc L (vI y :: vI x :: st) ce sl g I J Q ↔ ¬ y = 0 ∧ ab_E d N (pc0 + ln) L (vI (x / y) :: st) ce sl g I J Q := ab_E_at hm hf
theorem ke_irem {x y : Int32} (hm : ab_cdm N = c) (hf : ab_find c pc = some (pc0, .irem, ln, r1, r2, rs)) : ab_E d N pc L (vI y :: vI x :: st) ce sl g I J Q ↔ ¬ y = 0 ∧ ab_E d N (pc0 + ln) L (vI (x - x / y * y) :: st) ce sl g I J Q := ab_E_at hm hf
theorem ke_ineg {x : Int32} (hm : ab_cdm N = c) (hf : ab_find c pc = some (pc0, .ineg, ln, r1, r2, rs)) : ab_E d N pc L (vI x :: st) ce sl g I J Q ↔ ab_E d N (pc0 + ln) L (vI (-x) :: st) ce sl g I J Q := ab_E_at hm hf
theorem ke_iand {x y : Int32} (hm : ab_cdm N = c) (hf : ab_find c pc = some (pc0, .iand, ln, r1, r2, rs)) : ab_E d N pc L (vI y :: vI x :: st) ce sl g I J Q ↔ ab_E d N (pc0 + ln) L (vI (x &&& y) :: st) ce sl g I J Q := ab_E_at hm hf
theorem ke_ior {x y : Int32} (hm : ab_cdm N = c) (hf : ab_find c pc = some (pc0, .ior, ln, r1, r2, rs)) : ab_E d N pc L (vI y :: vI x :: st) ce sl g I J Q ↔ ab_E d N (pc0 + ln) L (vI (x ||| y) :: st) ce sl g I J Q := ab_E_at hm hf
theorem ke_ixor {x y : Int32} (hm : ab_cdm N = c) (hf : ab_find c pc = some (pc0, .ixor, ln, r1, r2, rs)) : ab_E d N pc L (vI y :: vI x :: st) ce sl g I J Q ↔ ab_E d N (pc0 + ln) L (vI (x ^^^ y) :: st) ce sl g I J Q := ab_E_at hm hf
theorem ke_ishl {x y : Int32} (hm : ab_cdm N = c) (hf : ab_find c pc = some (pc0, .ishl, ln, r1, r2, rs)) : ab_E d N pc L (vI y :: vI x :: st) ce sl g I J Q ↔ ab_E d N (pc0 + ln) L (vI (x <<< (y &&& 31)) :: st) ce sl g I J Q := ab_E_at hm hf
theorem ke_ishr {x y : Int32} (hm : ab_cdm N = c) (hf : ab_find c pc = some (pc0, .ishr, ln, r1, r2, rs)) : ab_E d N pc L (vI y :: vI x :: st) ce sl g I J Q ↔ ab_E d N (pc0 + ln) L (vI (x >>> (y &&& 31)) :: st) ce sl g I J Q := ab_E_at hm hf
theorem ke_iushr {x y : Int32} (hm : ab_cdm N = c) (hf : ab_find c pc = some (pc0, .iushr, ln, r1, r2, rs)) : ab_E d N pc L (vI y :: vI x :: st) ce sl g I J Q ↔ ab_E d N (pc0 + ln) L (vI ((x.toUInt32 >>> (y.toUInt32 &&& Int32.toUInt32 31)).toInt32) :: st) ce sl g I J Q := ab_E_at hm hf
theorem ke_ladd {x y : Int64} (hm : ab_cdm N = c) (hf : ab_find c pc = some (pc0, .ladd, ln, r1, r2, rs)) : ab_E d N pc L (vL y :: vL x :: st) ce sl g I J Q ↔ ab_E d N (pc0 + ln) L (vL (x + y) :: st) ce sl g I J Q := ab_E_at hm hf
theorem ke_lsub {x y : Int64} (hm : ab_cdm N = c) (hf : ab_find c pc = some (pc0, .lsub, ln, r1, r2, rs)) : ab_E d N pc L (vL y :: vL x :: st) ce sl g I J Q ↔ ab_E d N (pc0 + ln) L (vL (x - y) :: st) ce sl g I J Q := ab_E_at hm hf
theorem ke_lmul {x y : Int64} (hm : ab_cdm N = c) (hf : ab_find c pc = some (pc0, .lmul, ln, r1, r2, rs)) : ab_E d N pc L (vL y :: vL x :: st) ce sl g I J Q ↔ ab_E d N (pc0 + ln) L (vL (x * y) :: st) ce sl g I J Q := ab_E_at hm hf
theorem ke_land {x y : Int64} (hm : ab_cdm N = c) (hf : ab_find c pc = some (pc0, .land, ln, r1, r2, rs)) : ab_E d N pc L (vL y :: vL x :: st) ce sl g I J Q ↔ ab_E d N (pc0 + ln) L (vL (x &&& y) :: st) ce sl g I J Q := ab_E_at hm hf
theorem ke_lor {x y : Int64} (hm : ab_cdm N = c) (hf : ab_find c pc = some (pc0, .lor, ln, r1, r2, rs)) : ab_E d N pc L (vL y :: vL x :: st) ce sl g I J Q ↔ ab_E d N (pc0 + ln) L (vL (x ||| y) :: st) ce sl g I J Q := ab_E_at hm hf
theorem ke_lshl {x : Int64} {y : Int32} (hm : ab_cdm N = c) (hf : ab_find c pc = some (pc0, .lshl, ln, r1, r2, rs)) : ab_E d N pc L (vI y :: vL x :: st) ce sl g I J Q ↔ ab_E d N (pc0 + ln) L (vL (x <<< (y.toInt64 &&& 63)) :: st) ce sl g I J Q := ab_E_at hm hf
theorem ke_lcmp {x y : Int64} (hm : ab_cdm N = c) (hf : ab_find c pc = some (pc0, .lcmp, ln, r1, r2, rs)) : ab_E d N pc L (vL y :: vL x :: st) ce sl g I J Q ↔ ab_E d N (pc0 + ln) L (vI (lg_cmp x y) :: st) ce sl g I J Q := ab_E_at hm hf
theorem ke_i2l {x : Int32} (hm : ab_cdm N = c) (hf : ab_find c pc = some (pc0, .i2l, ln, r1, r2, rs)) : ab_E d N pc L (vI x :: st) ce sl g I J Q ↔ ab_E d N (pc0 + ln) L (vL x.toInt64 :: st) ce sl g I J Q := ab_E_at hm hf
theorem ke_l2i {x : Int64} (hm : ab_cdm N = c) (hf : ab_find c pc = some (pc0, .l2i, ln, r1, r2, rs)) : ab_E d N pc L (vL x :: st) ce sl g I J Q ↔ ab_E d N (pc0 + ln) L (vI x.toInt32 :: st) ce sl g I J Q := ab_E_at hm hf
theorem ke_i2b {x : Int32} (hm : ab_cdm N = c) (hf : ab_find c pc = some (pc0, .i2b, ln, r1, r2, rs)) : ab_E d N pc L (vI x :: st) ce sl g I J Q ↔ ab_E d N (pc0 + ln) L (vI x.toInt8.toInt32 :: st) ce sl g I J Q := ab_E_at hm hf
theorem ke_i2s {x : Int32} (hm : ab_cdm N = c) (hf : ab_find c pc = some (pc0, .i2s, ln, r1, r2, rs)) : ab_E d N pc L (vI x :: st) ce sl g I J Q ↔ ab_E d N (pc0 + ln) L (vI x.toInt16.toInt32 :: st) ce sl g I J Q := ab_E_at hm hf
theorem ke_i2c {x : Int32} (hm : ab_cdm N = c) (hf : ab_find c pc = some (pc0, .i2c, ln, r1, r2, rs)) : ab_E d N pc L (vI x :: st) ce sl g I J Q ↔ ab_E d N (pc0 + ln) L (vI (x.toUInt32 % 65536).toInt32 :: st) ce sl g I J Q := ab_E_at hm hf
theorem ke_goto {o : Int} (hm : ab_cdm N = c) (hf : ab_find c pc = some (pc0, .goto o, ln, r1, r2, rs)) : ab_E d N pc L st ce sl g I J Q ↔ ab_E d N r1 L st ce sl g I J Q := ab_E_at hm hf
theorem ke_if_eq {o : Int} {x : Int32} (hm : ab_cdm N = c) (hf : ab_find c pc = some (pc0, .ifCond .eq o, ln, r1, r2, rs)) : ab_E d N pc L (vI x :: st) ce sl g I J Q ↔ if x = 0 then ab_E d N r1 L st ce sl g I J Q else ab_E d N (pc0 + ln) L st ce sl g I J Q := ab_E_at hm hf
theorem ke_if_ne {o : Int} {x : Int32} (hm : ab_cdm N = c) (hf : ab_find c pc = some (pc0, .ifCond .ne o, ln, r1, r2, rs)) : ab_E d N pc L (vI x :: st) ce sl g I J Q ↔ if x = 0 then ab_E d N (pc0 + ln) L st ce sl g I J Q else ab_E d N r1 L st ce sl g I J Q := ab_E_at hm hf
theorem ke_if_lt {o : Int} {x : Int32} (hm : ab_cdm N = c) (hf : ab_find c pc = some (pc0, .ifCond .lt o, ln, r1, r2, rs)) : ab_E d N pc L (vI x :: st) ce sl g I J Q ↔ if x < 0 then ab_E d N r1 L st ce sl g I J Q else ab_E d N (pc0 + ln) L st ce sl g I J Q := ab_E_at hm hf
theorem ke_if_ge {o : Int} {x : Int32} (hm : ab_cdm N = c) (hf : ab_find c pc = some (pc0, .ifCond .ge o, ln, r1, r2, rs)) : ab_E d N pc L (vI x :: st) ce sl g I J Q ↔ if x < 0 then ab_E d N (pc0 + ln) L st ce sl g I J Q else ab_E d N r1 L st ce sl g I J Q := ab_E_at hm hf
theorem ke_if_gt {o : Int} {x : Int32} (hm : ab_cdm N = c) (hf : ab_find c pc = some (pc0, .ifCond .gt o, ln, r1, r2, rs)) : ab_E d N pc L (vI x :: st) ce sl g I J Q ↔ if 0 < x then ab_E d N r1 L st ce sl g I J Q else ab_E d N (pc0 + ln) L st ce sl g I J Q := ab_E_at hm hf
theorem ke_if_le {o : Int} {x : Int32} (hm : ab_cdm N = c) (hf : ab_find c pc = some (pc0, .ifCond .le o, ln, r1, r2, rs)) : ab_E d N pc L (vI x :: st) ce sl g I J Q ↔ if 0 < x then ab_E d N (pc0 + ln) L st ce sl g I J Q else ab_E d N r1 L st ce sl g I J Q := ab_E_at hm hf
theorem ke_icmp_eq {o : Int} {x y : Int32} (hm : ab_cdm N = c) (hf : ab_find c pc = some (pc0, .if_icmp .eq o, ln, r1, r2, rs)) : ab_E d N pc L (vI y :: vI x :: st) ce sl g I J Q ↔ if x = y then ab_E d N r1 L st ce sl g I J Q else ab_E d N (pc0 + ln) L st ce sl g I J Q := ab_E_at hm hf
theorem ke_icmp_ne {o : Int} {x y : Int32} (hm : ab_cdm N = c) (hf : ab_find c pc = some (pc0, .if_icmp .ne o, ln, r1, r2, rs)) : ab_E d N pc L (vI y :: vI x :: st) ce sl g I J Q ↔ if x = y then ab_E d N (pc0 + ln) L st ce sl g I J Q else ab_E d N r1 L st ce sl g I J Q := ab_E_at hm hf
theorem ke_icmp_lt {o : Int} {x y : Int32} (hm : ab_cdm N = c) (hf : ab_find c pc = some (pc0, .if_icmp .lt o, ln, r1, r2, rs)) : ab_E d N pc L (vI y :: vI x :: st) ce sl g I J Q ↔ if x < y then ab_E d N r1 L st ce sl g I J Q else ab_E d N (pc0 + ln) L st ce sl g I J Q := ab_E_at hm hf
theorem ke_icmp_ge {o : Int} {x y : Int32} (hm : ab_cdm N = c) (hf : ab_find c pc = some (pc0, .if_icmp .ge o, ln, r1, r2, rs)) : ab_E d N pc L (vI y :: vI x :: st) ce sl g I J Q ↔ if x < y then ab_E d N (pc0 + ln) L st ce sl g I J Q else ab_E d N r1 L st ce sl g I J Q := ab_E_at hm hf
theorem ke_icmp_gt {o : Int} {x y : Int32} (hm : ab_cdm N = c) (hf : ab_find c pc = some (pc0, .if_icmp .gt o, ln, r1, r2, rs)) : ab_E d N pc L (vI y :: vI x :: st) ce sl g I J Q ↔ if y < x then ab_E d N r1 L st ce sl g I J Q else ab_E d N (pc0 + ln) L st ce sl g I J Q := ab_E_at hm hf
theorem ke_icmp_le {o : Int} {x y : Int32} (hm : ab_cdm N = c) (hf : ab_find c pc = some (pc0, .if_icmp .le o, ln, r1, r2, rs)) : ab_E d N pc L (vI y :: vI x :: st) ce sl g I J Q ↔ if y < x then ab_E d N (pc0 + ln) L st ce sl g I J Q else ab_E d N r1 L st ce sl g I J Q := ab_E_at hm hf
theorem ke_acmp_eq {o : Int} {x y : Option Nat} (hm : ab_cdm N = c) (hf : ab_find c pc = some (pc0, .if_acmp .eq o, ln, r1, r2, rs)) : ab_E d N pc L (vR y :: vR x :: st) ce sl g I J Q ↔ ab_own x ∧ ab_own y ∧ if x = y then ab_E d N r1 L st ce sl g I J Q else ab_E d N (pc0 + ln) L st ce sl g I J Q := ab_E_at hm hf
theorem ke_acmp_ne {o : Int} {x y : Option Nat} (hm : ab_cdm N = c) (hf : ab_find c pc = some (pc0, .if_acmp .ne o, ln, r1, r2, rs)) : ab_E d N pc L (vR y :: vR x :: st) ce sl g I J Q ↔ ab_own x ∧ ab_own y ∧ if x = y then ab_E d N (pc0 + ln) L st ce sl g I J Q else ab_E d N r1 L st ce sl g I J Q := ab_E_at hm hf
theorem ke_ifnull {o : Int} {x : Option Nat} (hm : ab_cdm N = c) (hf : ab_find c pc = some (pc0, .ifnull o, ln, r1, r2, rs)) : ab_E d N pc L (vR x :: st) ce sl g I J Q ↔ if x = none then ab_E d N r1 L st ce sl g I J Q else ab_E d N (pc0 + ln) L st ce sl g I J Q := ab_E_at hm hf
theorem ke_ifnonnull {o : Int} {x : Option Nat} (hm : ab_cdm N = c) (hf : ab_find c pc = some (pc0, .ifnonnull o, ln, r1, r2, rs)) : ab_E d N pc L (vR x :: st) ce sl g I J Q ↔ if x = none then ab_E d N (pc0 + ln) L st ce sl g I J Q else ab_E d N r1 L st ce sl g I J Q := ab_E_at hm hf
theorem ke_tableswitch {a lo b : Int} {os : Array Int} {x : Int32} {ks : List (Int32 × Nat)} (hm : ab_cdm N = c) (hf : ab_find c pc = some (pc0, .tableswitch a lo b os, ln, r1, r2, rs)) (hk : ab_keys lo rs = ks) : ab_E d N pc L (vI x :: st) ce sl g I J Q ↔ ab_E d N (ab_sw x ks r1) L st ce sl g I J Q := by subst hk; exact ab_E_at hm hf
theorem ke_lookupswitch {a : Int} {ps : Array (Int × Int)} {x : Int32} {ks : List (Int32 × Nat)} (hm : ab_cdm N = c) (hf : ab_find c pc = some (pc0, .lookupswitch a ps, ln, r1, r2, rs)) (hk : ab_zip ps.toList rs = ks) : ab_E d N pc L (vI x :: st) ce sl g I J Q ↔ ab_E d N (ab_sw x ks r1) L st ce sl g I J Q := by subst hk; exact ab_E_at hm hf
theorem ab_E_sw {x q : Int32} {t D : Nat} {r : List (Int32 × Nat)} : ab_E d N (ab_sw x ((q, t) :: r) D) L st ce sl g I J Q ↔ if x = q then ab_E d N t L st ce sl g I J Q else ab_E d N (ab_sw x r D) L st ce sl g I J Q := by
  show ab_E d N (if x = q then t else ab_sw x r D) L st ce sl g I J Q ↔ _
  by_cases h : x = q
  · rw [if_pos h, if_pos h]
  · rw [if_neg h, if_neg h]
theorem ab_E_sw0 {x : Int32} {D : Nat} : ab_E d N (ab_sw x [] D) L st ce sl g I J Q ↔ ab_E d N D L st ce sl g I J Q := Iff.rfl
theorem ke_arraylength {a : Nat} (hm : ab_cdm N = c) (hf : ab_find c pc = some (pc0, .arraylength, ln, r1, r2, rs)) : ab_E d N pc L (vR (some a) :: st) ce sl g I J Q ↔ 0 < ab_ty g a ∧ ab_ty g a < 10 ∧ ab_E d N (pc0 + ln) L (vI (nI (ab_ln g a)) :: st) ce sl g I J Q := ab_E_at hm hf
theorem ke_iaload {a : Nat} {j : Int32} (hm : ab_cdm N = c) (hf : ab_find c pc = some (pc0, .iaload, ln, r1, r2, rs)) : ab_E d N pc L (vI j :: vR (some a) :: st) ce sl g I J Q ↔ ab_ty g a = 1 ∧ vp_in j (ab_ln g a) ∧ ab_E d N (pc0 + ln) L (vI (I a j.toNatClampNeg) :: st) ce sl g I J Q := ab_E_at hm hf
theorem ke_baload {a : Nat} {j : Int32} (hm : ab_cdm N = c) (hf : ab_find c pc = some (pc0, .baload, ln, r1, r2, rs)) : ab_E d N pc L (vI j :: vR (some a) :: st) ce sl g I J Q ↔ ab_ty g a = 7 ∧ vp_in j (ab_ln g a) ∧ ab_E d N (pc0 + ln) L (vI (I a j.toNatClampNeg) :: st) ce sl g I J Q := ab_E_at hm hf
theorem ke_laload {a : Nat} {j : Int32} (hm : ab_cdm N = c) (hf : ab_find c pc = some (pc0, .laload, ln, r1, r2, rs)) : ab_E d N pc L (vI j :: vR (some a) :: st) ce sl g I J Q ↔ ab_ty g a = 2 ∧ vp_in j (ab_ln g a) ∧ ab_E d N (pc0 + ln) L (vL (J a j.toNatClampNeg) :: st) ce sl g I J Q := ab_E_at hm hf
theorem ke_aaload {a : Nat} {j : Int32} (hm : ab_cdm N = c) (hf : ab_find c pc = some (pc0, .aaload, ln, r1, r2, rs)) : ab_E d N pc L (vI j :: vR (some a) :: st) ce sl g I J Q ↔ 3 ≤ ab_ty g a ∧ ab_ty g a ≤ 6 ∧ vp_in j (ab_ln g a) ∧ ab_E d N (pc0 + ln) L (vR (ab_R g a j.toNatClampNeg) :: st) ce sl g I J Q := ab_E_at hm hf
theorem ke_iastore {a : Nat} {j x : Int32} (hm : ab_cdm N = c) (hf : ab_find c pc = some (pc0, .iastore, ln, r1, r2, rs)) : ab_E d N pc L (vI x :: vI j :: vR (some a) :: st) ce sl g I J Q ↔ 29 ≤ a ∧ ab_ty g a = 1 ∧ vp_in j (ab_ln g a) ∧ ab_E d N (pc0 + ln) L st ce sl g (ab_up I a j.toNatClampNeg x) J Q := ab_E_at hm hf
theorem ke_lastore {a : Nat} {j : Int32} {x : Int64} (hm : ab_cdm N = c) (hf : ab_find c pc = some (pc0, .lastore, ln, r1, r2, rs)) : ab_E d N pc L (vL x :: vI j :: vR (some a) :: st) ce sl g I J Q ↔ 29 ≤ a ∧ ab_ty g a = 2 ∧ vp_in j (ab_ln g a) ∧ ab_E d N (pc0 + ln) L st ce sl g I (ab_up J a j.toNatClampNeg x) Q := ab_E_at hm hf
theorem ke_aastore {a : Nat} {j : Int32} {x : Option Nat} (hm : ab_cdm N = c) (hf : ab_find c pc = some (pc0, .aastore, ln, r1, r2, rs)) : ab_E d N pc L (vR x :: vI j :: vR (some a) :: st) ce sl g I J Q ↔ 29 ≤ a ∧ vp_in j (ab_ln g a) ∧ (x = none ∧ (ab_ty g a = 3 ∨ ab_ty g a = 4) ∨ ∃ b, x = some b ∧ (ab_ty g a = 3 ∧ ab_ty g b = 17 ∨ ab_ty g a = 4 ∧ ab_ty g b = 18)) ∧ ab_E d N (pc0 + ln) L st ce sl (ab_setR g a j.toNatClampNeg x) I J Q := ab_E_at hm hf
theorem ke_getI {a i : Nat} (hm : ab_cdm N = c) (hf : ab_find c pc = some (pc0, .getfield i, ln, r1, r2, 0 :: rs)) : ab_E d N pc L (vR (some a) :: st) ce sl g I J Q ↔ ab_ty g a = 10 + r1 ∧ ab_E d N (pc0 + ln) L (vI (I a r2) :: st) ce sl g I J Q := ab_E_at hm hf
theorem ke_getL {a i : Nat} (hm : ab_cdm N = c) (hf : ab_find c pc = some (pc0, .getfield i, ln, r1, r2, 1 :: rs)) : ab_E d N pc L (vR (some a) :: st) ce sl g I J Q ↔ ab_ty g a = 10 + r1 ∧ ab_E d N (pc0 + ln) L (vL (J a r2) :: st) ce sl g I J Q := ab_E_at hm hf
theorem ke_getR {a i : Nat} (hm : ab_cdm N = c) (hf : ab_find c pc = some (pc0, .getfield i, ln, r1, r2, 2 :: rs)) : ab_E d N pc L (vR (some a) :: st) ce sl g I J Q ↔ ab_ty g a = 10 + r1 ∧ ab_E d N (pc0 + ln) L (vR (ab_R g a r2) :: st) ce sl g I J Q := ab_E_at hm hf
theorem ke_putI {a i p q : Nat} {x : Int32} (hm : ab_cdm N = c) (hf : ab_find c pc = some (pc0, .putfield i, ln, r1, r2, [0, p, q, 0])) : ab_E d N pc L (vI x :: vR (some a) :: st) ce sl g I J Q ↔ 29 ≤ a ∧ ab_ty g a = 10 + r1 ∧ ab_E d N (pc0 + ln) L st ce sl g (ab_up I a r2 x) J Q :=
  (ab_E_at hm hf).trans (and_congr_right fun _ => and_congr_right fun _ => ab_and_t (fun h => by cases h))
theorem ke_putZ {a i p q : Nat} {x : Int32} (hm : ab_cdm N = c) (hf : ab_find c pc = some (pc0, .putfield i, ln, r1, r2, [0, p, q, 1])) : ab_E d N pc L (vI x :: vR (some a) :: st) ce sl g I J Q ↔ 29 ≤ a ∧ ab_ty g a = 10 + r1 ∧ ab_bit x ∧ ab_E d N (pc0 + ln) L st ce sl g (ab_up I a r2 x) J Q :=
  (ab_E_at hm hf).trans (and_congr_right fun _ => and_congr_right fun _ => and_congr_left fun _ => ⟨fun h => h rfl, fun h _ => h⟩)
theorem ke_putL {a i : Nat} {x : Int64} (hm : ab_cdm N = c) (hf : ab_find c pc = some (pc0, .putfield i, ln, r1, r2, 1 :: rs)) : ab_E d N pc L (vL x :: vR (some a) :: st) ce sl g I J Q ↔ 29 ≤ a ∧ ab_ty g a = 10 + r1 ∧ ab_E d N (pc0 + ln) L st ce sl g I (ab_up J a r2 x) Q := ab_E_at hm hf
theorem ke_putR {a i : Nat} {x : Option Nat} (hm : ab_cdm N = c) (hf : ab_find c pc = some (pc0, .putfield i, ln, r1, r2, 2 :: rs)) : ab_E d N pc L (vR x :: vR (some a) :: st) ce sl g I J Q ↔ 29 ≤ a ∧ ab_ty g a = 10 + r1 ∧ ab_E d N (pc0 + ln) L st ce sl (ab_setR g a r2 x) I J Q := ab_E_at hm hf
theorem ke_gets0 {i : Nat} (hm : ab_cdm N = c) (hf : ab_find c pc = some (pc0, .getstatic i, ln, r1, r2, 0 :: rs)) : ab_E d N pc L st ce sl g I J Q ↔ ab_E d N (pc0 + ln) L (vR (some r1) :: st) ce sl g I J Q := ab_E_at hm hf
theorem ke_gets1 {i : Nat} (hm : ab_cdm N = c) (hf : ab_find c pc = some (pc0, .getstatic i, ln, r1, r2, 1 :: rs)) : ab_E d N pc L st ce sl g I J Q ↔ ab_E d N (pc0 + ln) L (vI (nI r1) :: st) ce sl g I J Q := ab_E_at hm hf
theorem ke_gets2 {i : Nat} (hm : ab_cdm N = c) (hf : ab_find c pc = some (pc0, .getstatic i, ln, r1, r2, 2 :: rs)) : ab_E d N pc L st ce sl g I J Q ↔ ∀ o : Option Nat, ab_E d N (pc0 + ln) L (vR o :: st) ce sl g I J Q := ab_E_at hm hf
theorem ke_new {i mc ms : Nat} (hm : ab_cdm N = c) (hf : ab_find c pc = some (pc0, .new i, ln, r1, r2, rs)) (hb : ab_bud N = (mc, ms)) : ab_E d N pc L st ce sl g I J Q ↔ ce + 1 ≤ mc ∧ sl + r2 ≤ ms ∧ ab_E d N (pc0 + ln) L (vR (some (ab_n g)) :: st) (ce + 1) (sl + r2) (ab_mk g (10 + r1) 0) (ab_z I (ab_n g) (ab_n g + 1) 0) (ab_z J (ab_n g) (ab_n g + 1) 0) Q := by
  have h := @ab_E_at d N pc L st ce sl g I J Q c _ hm hf
  rw [hb] at h
  exact h
theorem ke_newI {mc ms : Nat} {x : Int32} (hm : ab_cdm N = c) (hf : ab_find c pc = some (pc0, .newarray .int, ln, r1, r2, rs)) (hb : ab_bud N = (mc, ms)) : ab_E d N pc L (vI x :: st) ce sl g I J Q ↔ ¬ x < 0 ∧ x.toNatClampNeg < 65536 ∧ ce + 1 ≤ mc ∧ sl + x.toNatClampNeg ≤ ms ∧ ab_E d N (pc0 + ln) L (vR (some (ab_n g)) :: st) (ce + 1) (sl + x.toNatClampNeg) (ab_mk g 1 x.toNatClampNeg) (ab_z I (ab_n g) (ab_n g + 1) 0) (ab_z J (ab_n g) (ab_n g + 1) 0) Q := by
  have h := @ab_E_at d N pc L (vI x :: st) ce sl g I J Q c _ hm hf
  rw [hb] at h
  exact h
theorem ke_newL {mc ms : Nat} {x : Int32} (hm : ab_cdm N = c) (hf : ab_find c pc = some (pc0, .newarray .long, ln, r1, r2, rs)) (hb : ab_bud N = (mc, ms)) : ab_E d N pc L (vI x :: st) ce sl g I J Q ↔ ¬ x < 0 ∧ x.toNatClampNeg < 65536 ∧ ce + 1 ≤ mc ∧ sl + x.toNatClampNeg ≤ ms ∧ ab_E d N (pc0 + ln) L (vR (some (ab_n g)) :: st) (ce + 1) (sl + x.toNatClampNeg) (ab_mk g 2 x.toNatClampNeg) (ab_z I (ab_n g) (ab_n g + 1) 0) (ab_z J (ab_n g) (ab_n g + 1) 0) Q := by
  have h := @ab_E_at d N pc L (vI x :: st) ce sl g I J Q c _ hm hf
  rw [hb] at h
  exact h
theorem ke_anew {mc ms i : Nat} {x : Int32} (hm : ab_cdm N = c) (hf : ab_find c pc = some (pc0, .anewarray i, ln, r1, r2, rs)) (hb : ab_bud N = (mc, ms)) : ab_E d N pc L (vI x :: st) ce sl g I J Q ↔ ¬ x < 0 ∧ x.toNatClampNeg < 65536 ∧ ce + 1 ≤ mc ∧ sl + x.toNatClampNeg ≤ ms ∧ ab_E d N (pc0 + ln) L (vR (some (ab_n g)) :: st) (ce + 1) (sl + x.toNatClampNeg) (ab_mk g r1 x.toNatClampNeg) (ab_z I (ab_n g) (ab_n g + 1) 0) (ab_z J (ab_n g) (ab_n g + 1) 0) Q := by
  have h := @ab_E_at d N pc L (vI x :: st) ce sl g I J Q c _ hm hf
  rw [hb] at h
  exact h
theorem ke_multi {mc ms i k : Nat} {x y : Int32} (hm : ab_cdm N = c) (hf : ab_find c pc = some (pc0, .multianewarray i k, ln, r1, r2, rs)) (hb : ab_bud N = (mc, ms)) : ab_E d N pc L (vI y :: vI x :: st) ce sl g I J Q ↔ ¬ x < 0 ∧ ¬ y < 0 ∧ x.toNatClampNeg < 65536 ∧ y.toNatClampNeg < 65536 ∧ ce + 1 + x.toNatClampNeg ≤ mc ∧ sl + x.toNatClampNeg + x.toNatClampNeg * y.toNatClampNeg ≤ ms ∧
      ab_E d N (pc0 + ln) L (vR (some (ab_n g)) :: st) (ce + 1 + x.toNatClampNeg) (sl + x.toNatClampNeg + x.toNatClampNeg * y.toNatClampNeg) (ab_mk2 g r1 r2 x.toNatClampNeg y.toNatClampNeg) (ab_z I (ab_n g) (ab_n g + 1 + x.toNatClampNeg) 0) (ab_z J (ab_n g) (ab_n g + 1 + x.toNatClampNeg) 0) Q := by
  have h := @ab_E_at d N pc L (vI y :: vI x :: st) ce sl g I J Q c _ hm hf
  rw [hb] at h
  exact h
theorem ke_copy {i p : Nat} {a0 a1 : Nat} {sp dp n : Int32} (hm : ab_cdm N = c) (hf : ab_find c pc = some (pc0, .invokestatic i, ln, r1, r2, [3, p])) (hs : ab_cs st ≤ 8) : ab_E d N pc L (vI n :: vI dp :: vR (some a1) :: vI sp :: vR (some a0) :: st) ce sl g I J Q ↔ 29 ≤ a0 ∧ 29 ≤ a1 ∧ ¬ sp < 0 ∧ ¬ dp < 0 ∧ ¬ n < 0 ∧ sp.toNatClampNeg + n.toNatClampNeg ≤ ab_ln g a0 ∧ dp.toNatClampNeg + n.toNatClampNeg ≤ ab_ln g a1 ∧
        ((ab_ty g a0 = 1 ∧ ab_ty g a1 = 1 ∧ ab_E d N (pc0 + 3) L st ce sl g (ab_cp I a0 sp.toNatClampNeg a1 dp.toNatClampNeg n.toNatClampNeg) J Q) ∨ (ab_ty g a0 = 2 ∧ ab_ty g a1 = 2 ∧ ab_E d N (pc0 + 3) L st ce sl g I (ab_cp J a0 sp.toNatClampNeg a1 dp.toNatClampNeg n.toNatClampNeg) Q)) := (ab_E_at hm hf).trans (ab_and_t hs)
theorem ke_objInit {i p : Nat} {a : Nat} (hm : ab_cdm N = c) (hf : ab_find c pc = some (pc0, .invokespecial i, ln, r1, r2, [2, p])) (hs : ab_cs st ≤ 8) : ab_E d N pc L (vR (some a) :: st) ce sl g I J Q ↔ ab_E d N (pc0 + 3) L st ce sl g I J Q := (ab_E_at hm hf).trans (ab_and_t hs)
theorem ab_call_0 {mc ms : Nat} {As rest : List ab_V} {k : ab_K} (hb : ab_bud r1 = (mc, ms)) (hs : ab_cs rest ≤ 8) {mc0 ms0 : Nat} : ab_call (ab_run d) ab_bud mc0 ms0 r1 As rest pc0 L ce sl g I J k ↔ ce + mc ≤ mc0 ∧ sl + ms ≤ ms0 ∧ ab_run d r1 As g I J (fun r g I J => k (pc0 + 3) L (ab_push r rest) (ce + mc) (sl + ms) g I J) := by
  unfold ab_call
  rw [hb]
  exact ab_and_t hs
theorem ke_static {i k p mc ms mc0 ms0 : Nat} {As rest : List ab_V} (hm : ab_cdm N = c) (hf : ab_find c pc = some (pc0, .invokestatic i, ln, r1, k, [p, r2])) (hp : ¬ p = 3) (hst : k ≤ st.length ∧ (st.take k).reverse = As ∧ st.drop k = rest) (hb0 : ab_bud N = (mc0, ms0)) (hb : ab_bud r1 = (mc, ms)) (hs : ab_cs rest ≤ 8) :
    ab_E d N pc L st ce sl g I J Q ↔ ce + mc ≤ mc0 ∧ sl + ms ≤ ms0 ∧ ab_run d r1 As g I J (fun r g I J => ab_E d N (pc0 + 3) L (ab_push r rest) (ce + mc) (sl + ms) g I J Q) := by
  obtain ⟨h1, rfl, rfl⟩ := hst
  refine (ab_E_at hm hf).trans ?_
  show (if [p, r2].getD 0 0 = 3 then _ else ab_pop k st _) ↔ _
  rw [if_neg (show ¬ [p, r2].getD 0 0 = 3 from hp), hb0]
  exact (ab_and_t h1).trans (ab_call_0 hb hs)
theorem ke_special {i k p mc ms mc0 ms0 b : Nat} {As rest : List ab_V} (hm : ab_cdm N = c) (hf : ab_find c pc = some (pc0, .invokespecial i, ln, r1, k, [p, r2])) (hp : ¬ p = 2) (hst : k + 1 ≤ st.length ∧ (st.take (k + 1)).reverse = vR (some b) :: As ∧ st.drop (k + 1) = rest) (hb0 : ab_bud N = (mc0, ms0)) (hb : ab_bud r1 = (mc, ms)) (hs : ab_cs rest ≤ 8) :
    ab_E d N pc L st ce sl g I J Q ↔ ce + mc ≤ mc0 ∧ sl + ms ≤ ms0 ∧ ab_run d r1 (vR (some b) :: As) g I J (fun r g I J => ab_E d N (pc0 + 3) L (ab_push r rest) (ce + mc) (sl + ms) g I J Q) := by
  obtain ⟨h1, h2, rfl⟩ := hst
  refine (ab_E_at hm hf).trans ?_
  show (if [p, r2].getD 0 0 = 2 then _ else ab_pop (k + 1) st _) ↔ _
  rw [if_neg (show ¬ [p, r2].getD 0 0 = 2 from hp), hb0]
  refine (ab_and_t h1).trans ?_
  rw [h2]
  exact (ab_and_t ⟨b, rfl⟩).trans (ab_call_0 hb hs)
theorem ke_virtual {i k p mc ms mc0 ms0 b C : Nat} {As rest : List ab_V} (hm : ab_cdm N = c) (hf : ab_find c pc = some (pc0, .invokevirtual i, ln, r1, k, [p, r2, C])) (hst : k + 1 ≤ st.length ∧ (st.take (k + 1)).reverse = vR (some b) :: As ∧ st.drop (k + 1) = rest) (hb0 : ab_bud N = (mc0, ms0)) (hb : ab_bud r1 = (mc, ms)) (hs : ab_cs rest ≤ 8) :
    ab_E d N pc L st ce sl g I J Q ↔ ab_ty g b = 10 + C ∧ ce + mc ≤ mc0 ∧ sl + ms ≤ ms0 ∧ ab_run d r1 (vR (some b) :: As) g I J (fun r g I J => ab_E d N (pc0 + 3) L (ab_push r rest) (ce + mc) (sl + ms) g I J Q) := by
  obtain ⟨h1, h2, rfl⟩ := hst
  refine (ab_E_at hm hf).trans ?_
  unfold ab_st
  dsimp only
  rw [hb0]
  refine (ab_and_t h1).trans ?_
  rw [h2]
  have e : (∃ b', (vR (some b) :: As).head? = some (vR (some b')) ∧ ab_ty g b' = 10 + [p, r2, C].getD 2 0) ↔ ab_ty g b = 10 + C := by
    constructor
    · rintro ⟨b', h, h3⟩
      cases h
      exact h3
    · exact fun h => ⟨b, rfl, h⟩
  exact and_congr e (ab_call_0 hb hs)
theorem ke_iret {x : Int32} {mc ms rt : Nat} (hm : ab_cdm N = c) (hf : ab_find c pc = some (pc0, .ireturn, ln, r1, r2, rs)) (hb : ab_bud N = (mc, ms)) (hr : ab_rt (ab_meth N).2.2.2.1 = rt) : ab_E d N pc L [vI x] ce sl g I J Q ↔ ce ≤ mc ∧ sl ≤ ms ∧ (rt = 1 ∨ (rt = 4 ∧ ab_bit x) ∨ (rt = 5 ∧ narrow .char (.int x) = .int x) ∨ (rt = 6 ∧ narrow .byte (.int x) = .int x)) ∧ Q (some (vI x)) g I J := by
  have h := @ab_E_at d N pc L [vI x] ce sl g I J Q c _ hm hf
  rw [hb, hr] at h
  exact h
theorem ke_lret {x : Int64} {mc ms : Nat} (hm : ab_cdm N = c) (hf : ab_find c pc = some (pc0, .lreturn, ln, r1, r2, rs)) (hb : ab_bud N = (mc, ms)) (hr : ab_rt (ab_meth N).2.2.2.1 = 2) : ab_E d N pc L [vL x] ce sl g I J Q ↔ ce ≤ mc ∧ sl ≤ ms ∧ Q (some (vL x)) g I J := by
  have h := @ab_E_at d N pc L [vL x] ce sl g I J Q c _ hm hf
  rw [hb, hr] at h
  exact h.trans (and_congr_right fun _ => and_congr_right fun _ => ab_and_t rfl)
theorem ke_aret {x : Option Nat} {mc ms : Nat} (hm : ab_cdm N = c) (hf : ab_find c pc = some (pc0, .areturn, ln, r1, r2, rs)) (hb : ab_bud N = (mc, ms)) (hr : ab_rt (ab_meth N).2.2.2.1 = 3) : ab_E d N pc L [vR x] ce sl g I J Q ↔ ce ≤ mc ∧ sl ≤ ms ∧ Q (some (vR x)) g I J := by
  have h := @ab_E_at d N pc L [vR x] ce sl g I J Q c _ hm hf
  rw [hb, hr] at h
  exact h.trans (and_congr_right fun _ => and_congr_right fun _ => ab_and_t rfl)
theorem ke_vret {mc ms : Nat} (hm : ab_cdm N = c) (hf : ab_find c pc = some (pc0, .return_, ln, r1, r2, rs)) (hb : ab_bud N = (mc, ms)) (hr : ab_rt (ab_meth N).2.2.2.1 = 0) : ab_E d N pc L [] ce sl g I J Q ↔ ce ≤ mc ∧ sl ≤ ms ∧ Q none g I J := by
  have h := @ab_E_at d N pc L [] ce sl g I J Q c _ hm hf
  rw [hb, hr] at h
  exact h.trans (and_congr_right fun _ => and_congr_right fun _ => ab_and_t rfl)
/-- the entry of a method -/
theorem ab_run_ent {As : List ab_V} {n : Nat} {L0 : ab_L} (hN : N < 260) (hn : (ab_meth N).2.2.1 = n) (hl : (ab_sl As).length ≤ n) (hL : ab_ent As n = L0) : ab_run (d + 1) N As g I J Q ↔ ab_E d N 0 L0 [] 0 0 g I J Q := by
  subst hn; subst hL
  exact (ab_and_t hN).trans (ab_and_t hl)
end KE
theorem ab_bit0 : ab_bit 0 := Or.inl rfl
theorem ab_bit1 : ab_bit 1 := Or.inr rfl
theorem ab_inv_I (x : Int32) : ab_inv (some (vI x)) = some (vI x) := rfl
theorem ab_inv_R (x : Option Nat) : ab_inv (some (vR x)) = some (vR x) := rfl
theorem ab_inv_L (x : Int64) : ab_inv (some (vL x)) = none := rfl
theorem ab_inv_0 : ab_inv none = none := rfl
theorem ab_push_some (v : ab_V) (st : List ab_V) : ab_push (some v) st = v :: st := rfl
theorem ab_push_none (st : List ab_V) : ab_push none st = st := rfl
