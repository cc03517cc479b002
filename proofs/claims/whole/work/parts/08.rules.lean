/-! Forward rules of the small machine. (Printed by gen_rules.py.) -/
def xm_gf (own : String) (k ci j : Nat) : Prop := ∃ C T N ty, xm_cl ci C T N ty ∧ j < N ∧ xm_fk own k (T j)
def xm_pf (y : MethodName) (k ci j : Nat) (t : FieldType) : Prop := ∃ C T N ty, xm_cl ci C T N ty ∧ j < N ∧ xm_fk y.cls k (T j) ∧ ((T j).2.2.2 = false ∨ ((T j).2.2.2 = true ∧ (T j).1 = y.cls ∧ y.name = "<init>" ∧ Cond.fieldLink y.cls k (T j).1 (T j).2.1 (T j).2.2.1 ∈ tb_all)) ∧ ty j = t
def xm_nf (own : String) (k ci N : Nat) (fs : List Value) : Prop := ∃ C T ty, xm_cl ci C T N ty ∧ Cond.classLink own k C ∈ tb_all ∧ Cond.instantiable C N ∈ tb_all ∧ Cond.initialized C ∈ tb_all ∧ (∀ j, j < N → defaultValue (ty j) = vp_V fs j) ∧ fs.all xm_plain = true
def xm_cs (own : String) (k : Nat) (Mj : xm_M) (n : Nat) : Prop := xm_ok Mj ∧ xm_lk own k (xm_y Mj) ∧ Cond.static (xm_y Mj) ∈ tb_all ∧ xm_np (xm_y Mj) n
def xm_cv (own : String) (k : Nat) (Mj : xm_M) (n ci : Nat) : Prop := xm_ok Mj ∧ xm_lk own k (xm_y Mj) ∧ Cond.instanceMethod (xm_y Mj) ∈ tb_all ∧ Cond.selects (xm_y Mj).cls (xm_y Mj) (xm_y Mj) ∈ tb_all ∧ xm_np (xm_y Mj) n ∧ ∃ C T N ty, xm_cl ci C T N ty ∧ C = (xm_y Mj).cls
def xm_cn (own : String) (k : Nat) (Mj : xm_M) (n : Nat) : Prop := xm_ok Mj ∧ xm_rt Mj = none ∧ xm_lk own k (xm_y Mj) ∧ (xm_y Mj).name = "<init>" ∧ Cond.instanceMethod (xm_y Mj) ∈ tb_all ∧ xm_np (xm_y Mj) n
section XU
variable {L : Nat} {xs : Nat → Int32} {call : xm_K} {M : xm_M} {Q : xm_Q} {pc pc' : Nat} {lo lo' st st' : List Value} {h h' : xm_H} {c s c' s' : Nat}
theorem x_iconst {n : Int} {v : Int32} (d : decode (xm_by M) pc = .ok (.iconst n, 1)) (e : pc + 1 = pc') (hv : Int32.ofInt n = v) (k : xm_X L xs call M (pc', lo, .int v :: st, h, c, s) Q) : xm_X L xs call M (pc, lo, st, h, c, s) Q := by
  subst e; subst hv
  exact fun P hP => hP _ _ _ _ _ _ _ _ d ⟨rfl, k P hP⟩
theorem x_bipush {n : Int} {v : Int32} (d : decode (xm_by M) pc = .ok (.bipush n, 2)) (e : pc + 2 = pc') (hv : (Int8.ofInt n).toInt32 = v) (k : xm_X L xs call M (pc', lo, .int v :: st, h, c, s) Q) : xm_X L xs call M (pc, lo, st, h, c, s) Q := by
  subst e; subst hv
  exact fun P hP => hP _ _ _ _ _ _ _ _ d ⟨rfl, k P hP⟩
theorem x_sipush {n : Int} {v : Int32} (d : decode (xm_by M) pc = .ok (.sipush n, 3)) (e : pc + 3 = pc') (hv : (Int16.ofInt n).toInt32 = v) (k : xm_X L xs call M (pc', lo, .int v :: st, h, c, s) Q) : xm_X L xs call M (pc, lo, st, h, c, s) Q := by
  subst e; subst hv
  exact fun P hP => hP _ _ _ _ _ _ _ _ d ⟨rfl, k P hP⟩
theorem x_lconst {n : Fin 2} {v : Int64} (d : decode (xm_by M) pc = .ok (.lconst n, 1)) (e : pc + 1 = pc') (hv : Int64.ofNat (n : Nat) = v) (k : xm_X L xs call M (pc', lo, .long v :: st, h, c, s) Q) : xm_X L xs call M (pc, lo, st, h, c, s) Q := by
  subst e; subst hv
  exact fun P hP => hP _ _ _ _ _ _ _ _ d ⟨rfl, k P hP⟩
theorem x_ldc2_w {j : Nat} {x : Int64} (d : decode (xm_by M) pc = .ok (.ldc2_w j, 3)) (e : pc + 3 = pc') (hx : Cond.constantLong (xm_y M).cls j x ∈ tb_all) (k : xm_X L xs call M (pc', lo, .long x :: st, h, c, s) Q) : xm_X L xs call M (pc, lo, st, h, c, s) Q := by
  subst e
  exact fun P hP => hP _ _ _ _ _ _ _ _ d ⟨rfl, x, hx, k P hP⟩
theorem x_iload_n {n : Fin 4} {x : Int32} (d : decode (xm_by M) pc = .ok (.iload_n n, 1)) (e : pc + 1 = pc') (hl : lo[(n : Nat)]? = some (.int x)) (k : xm_X L xs call M (pc', lo, .int x :: st, h, c, s) Q) : xm_X L xs call M (pc, lo, st, h, c, s) Q := by
  subst e
  exact fun P hP => hP _ _ _ _ _ _ _ _ d ⟨rfl, x, hl, k P hP⟩
theorem x_lload_n {n : Fin 4} {x : Int64} {z : UInt32} (d : decode (xm_by M) pc = .ok (.lload_n n, 1)) (e : pc + 1 = pc') (hl : lo[(n : Nat)]? = some (.long x)) (hz : lo[(n : Nat) + 1]? = some (.float z)) (k : xm_X L xs call M (pc', lo, .long x :: st, h, c, s) Q) : xm_X L xs call M (pc, lo, st, h, c, s) Q := by
  subst e
  exact fun P hP => hP _ _ _ _ _ _ _ _ d ⟨rfl, x, z, hl, hz, k P hP⟩
theorem x_aload_n {n : Fin 4} {a : Nat} (d : decode (xm_by M) pc = .ok (.aload_n n, 1)) (e : pc + 1 = pc') (hl : lo[(n : Nat)]? = some (.ref a)) (k : xm_X L xs call M (pc', lo, .ref a :: st, h, c, s) Q) : xm_X L xs call M (pc, lo, st, h, c, s) Q := by
  subst e
  exact fun P hP => hP _ _ _ _ _ _ _ _ d ⟨rfl, _, hl, Or.inl ⟨a, rfl⟩, k P hP⟩
theorem x_sload_n {n : Fin 4} (d : decode (xm_by M) pc = .ok (.aload_n n, 1)) (e : pc + 1 = pc') (hl : lo[(n : Nat)]? = some (.retAddr 0)) (k : xm_X L xs call M (pc', lo, .retAddr 0 :: st, h, c, s) Q) : xm_X L xs call M (pc, lo, st, h, c, s) Q := by
  subst e
  exact fun P hP => hP _ _ _ _ _ _ _ _ d ⟨rfl, _, hl, Or.inr rfl, k P hP⟩
theorem x_istore_n {n : Fin 4} {x : Int32} (d : decode (xm_by M) pc = .ok (.istore_n n, 1)) (e : pc + 1 = pc') (hn : (n : Nat) < lo.length) (hl : lo.set (n : Nat) (.int x) = lo') (k : xm_X L xs call M (pc', lo', st, h, c, s) Q) : xm_X L xs call M (pc, lo, .int x :: st, h, c, s) Q := by
  subst e; subst hl
  exact fun P hP => hP _ _ _ _ _ _ _ _ d ⟨rfl, x, st, rfl, hn, k P hP⟩
theorem x_lstore_n {n : Fin 4} {x : Int64} (d : decode (xm_by M) pc = .ok (.lstore_n n, 1)) (e : pc + 1 = pc') (hn : (n : Nat) + 1 < lo.length) (hl : (lo.set (n : Nat) (.long x)).set ((n : Nat) + 1) (.float 0) = lo') (k : xm_X L xs call M (pc', lo', st, h, c, s) Q) : xm_X L xs call M (pc, lo, .long x :: st, h, c, s) Q := by
  subst e; subst hl
  exact fun P hP => hP _ _ _ _ _ _ _ _ d ⟨rfl, x, st, rfl, hn, k P hP⟩
theorem x_astore_n {n : Fin 4} {a : Nat} (d : decode (xm_by M) pc = .ok (.astore_n n, 1)) (e : pc + 1 = pc') (hn : (n : Nat) < lo.length) (hl : lo.set (n : Nat) (.ref a) = lo') (k : xm_X L xs call M (pc', lo', st, h, c, s) Q) : xm_X L xs call M (pc, lo, .ref a :: st, h, c, s) Q := by
  subst e; subst hl
  exact fun P hP => hP _ _ _ _ _ _ _ _ d ⟨rfl, a, st, rfl, hn, k P hP⟩
theorem x_iload {n : Nat} {x : Int32} (d : decode (xm_by M) pc = .ok (.iload n, 2)) (e : pc + 2 = pc') (hl : lo[n]? = some (.int x)) (k : xm_X L xs call M (pc', lo, .int x :: st, h, c, s) Q) : xm_X L xs call M (pc, lo, st, h, c, s) Q := by
  subst e
  exact fun P hP => hP _ _ _ _ _ _ _ _ d ⟨rfl, x, hl, k P hP⟩
theorem x_lload {n : Nat} {x : Int64} {z : UInt32} (d : decode (xm_by M) pc = .ok (.lload n, 2)) (e : pc + 2 = pc') (hl : lo[n]? = some (.long x)) (hz : lo[n + 1]? = some (.float z)) (k : xm_X L xs call M (pc', lo, .long x :: st, h, c, s) Q) : xm_X L xs call M (pc, lo, st, h, c, s) Q := by
  subst e
  exact fun P hP => hP _ _ _ _ _ _ _ _ d ⟨rfl, x, z, hl, hz, k P hP⟩
theorem x_aload {n : Nat} {a : Nat} (d : decode (xm_by M) pc = .ok (.aload n, 2)) (e : pc + 2 = pc') (hl : lo[n]? = some (.ref a)) (k : xm_X L xs call M (pc', lo, .ref a :: st, h, c, s) Q) : xm_X L xs call M (pc, lo, st, h, c, s) Q := by
  subst e
  exact fun P hP => hP _ _ _ _ _ _ _ _ d ⟨rfl, _, hl, Or.inl ⟨a, rfl⟩, k P hP⟩
theorem x_sload {n : Nat} (d : decode (xm_by M) pc = .ok (.aload n, 2)) (e : pc + 2 = pc') (hl : lo[n]? = some (.retAddr 0)) (k : xm_X L xs call M (pc', lo, .retAddr 0 :: st, h, c, s) Q) : xm_X L xs call M (pc, lo, st, h, c, s) Q := by
  subst e
  exact fun P hP => hP _ _ _ _ _ _ _ _ d ⟨rfl, _, hl, Or.inr rfl, k P hP⟩
theorem x_istore {n : Nat} {x : Int32} (d : decode (xm_by M) pc = .ok (.istore n, 2)) (e : pc + 2 = pc') (hn : n < lo.length) (hl : lo.set n (.int x) = lo') (k : xm_X L xs call M (pc', lo', st, h, c, s) Q) : xm_X L xs call M (pc, lo, .int x :: st, h, c, s) Q := by
  subst e; subst hl
  exact fun P hP => hP _ _ _ _ _ _ _ _ d ⟨rfl, x, st, rfl, hn, k P hP⟩
theorem x_lstore {n : Nat} {x : Int64} (d : decode (xm_by M) pc = .ok (.lstore n, 2)) (e : pc + 2 = pc') (hn : n + 1 < lo.length) (hl : (lo.set n (.long x)).set (n + 1) (.float 0) = lo') (k : xm_X L xs call M (pc', lo', st, h, c, s) Q) : xm_X L xs call M (pc, lo, .long x :: st, h, c, s) Q := by
  subst e; subst hl
  exact fun P hP => hP _ _ _ _ _ _ _ _ d ⟨rfl, x, st, rfl, hn, k P hP⟩
theorem x_astore {n : Nat} {a : Nat} (d : decode (xm_by M) pc = .ok (.astore n, 2)) (e : pc + 2 = pc') (hn : n < lo.length) (hl : lo.set n (.ref a) = lo') (k : xm_X L xs call M (pc', lo', st, h, c, s) Q) : xm_X L xs call M (pc, lo, .ref a :: st, h, c, s) Q := by
  subst e; subst hl
  exact fun P hP => hP _ _ _ _ _ _ _ _ d ⟨rfl, a, st, rfl, hn, k P hP⟩
theorem x_iinc {n : Nat} {j : Int} {x y : Int32} (d : decode (xm_by M) pc = .ok (.iinc n j, 3)) (e : pc + 3 = pc') (hx : lo[n]? = some (.int x)) (hy : x + Int32.ofInt j = y) (hl : lo.set n (.int y) = lo') (k : xm_X L xs call M (pc', lo', st, h, c, s) Q) : xm_X L xs call M (pc, lo, st, h, c, s) Q := by
  subst e; subst hy; subst hl
  exact fun P hP => hP _ _ _ _ _ _ _ _ d ⟨rfl, x, hx, k P hP⟩
theorem x_iadd {x : Int32} {y : Int32} {z : Int32} (d : decode (xm_by M) pc = .ok (.iadd, 1)) (e : pc + 1 = pc') (hz : (x + y) = z) (k : xm_X L xs call M (pc', lo, .int z :: st, h, c, s) Q) : xm_X L xs call M (pc, lo, .int y :: .int x :: st, h, c, s) Q := by
  subst e; subst hz
  exact fun P hP => hP _ _ _ _ _ _ _ _ d ⟨rfl, x, y, st, rfl, k P hP⟩
theorem x_isub {x : Int32} {y : Int32} {z : Int32} (d : decode (xm_by M) pc = .ok (.isub, 1)) (e : pc + 1 = pc') (hz : (x - y) = z) (k : xm_X L xs call M (pc', lo, .int z :: st, h, c, s) Q) : xm_X L xs call M (pc, lo, .int y :: .int x :: st, h, c, s) Q := by
  subst e; subst hz
  exact fun P hP => hP _ _ _ _ _ _ _ _ d ⟨rfl, x, y, st, rfl, k P hP⟩
theorem x_imul {x : Int32} {y : Int32} {z : Int32} (d : decode (xm_by M) pc = .ok (.imul, 1)) (e : pc + 1 = pc') (hz : (x * y) = z) (k : xm_X L xs call M (pc', lo, .int z :: st, h, c, s) Q) : xm_X L xs call M (pc, lo, .int y :: .int x :: st, h, c, s) Q := by
  subst e; subst hz
  exact fun P hP => hP _ _ _ _ _ _ _ _ d ⟨rfl, x, y, st, rfl, k P hP⟩
theorem x_iand {x : Int32} {y : Int32} {z : Int32} (d : decode (xm_by M) pc = .ok (.iand, 1)) (e : pc + 1 = pc') (hz : (x &&& y) = z) (k : xm_X L xs call M (pc', lo, .int z :: st, h, c, s) Q) : xm_X L xs call M (pc, lo, .int y :: .int x :: st, h, c, s) Q := by
  subst e; subst hz
  exact fun P hP => hP _ _ _ _ _ _ _ _ d ⟨rfl, x, y, st, rfl, k P hP⟩
theorem x_ladd {x : Int64} {y : Int64} {z : Int64} (d : decode (xm_by M) pc = .ok (.ladd, 1)) (e : pc + 1 = pc') (hz : (x + y) = z) (k : xm_X L xs call M (pc', lo, .long z :: st, h, c, s) Q) : xm_X L xs call M (pc, lo, .long y :: .long x :: st, h, c, s) Q := by
  subst e; subst hz
  exact fun P hP => hP _ _ _ _ _ _ _ _ d ⟨rfl, x, y, st, rfl, k P hP⟩
theorem x_lsub {x : Int64} {y : Int64} {z : Int64} (d : decode (xm_by M) pc = .ok (.lsub, 1)) (e : pc + 1 = pc') (hz : (x - y) = z) (k : xm_X L xs call M (pc', lo, .long z :: st, h, c, s) Q) : xm_X L xs call M (pc, lo, .long y :: .long x :: st, h, c, s) Q := by
  subst e; subst hz
  exact fun P hP => hP _ _ _ _ _ _ _ _ d ⟨rfl, x, y, st, rfl, k P hP⟩
theorem x_land {x : Int64} {y : Int64} {z : Int64} (d : decode (xm_by M) pc = .ok (.land, 1)) (e : pc + 1 = pc') (hz : (x &&& y) = z) (k : xm_X L xs call M (pc', lo, .long z :: st, h, c, s) Q) : xm_X L xs call M (pc, lo, .long y :: .long x :: st, h, c, s) Q := by
  subst e; subst hz
  exact fun P hP => hP _ _ _ _ _ _ _ _ d ⟨rfl, x, y, st, rfl, k P hP⟩
theorem x_lor {x : Int64} {y : Int64} {z : Int64} (d : decode (xm_by M) pc = .ok (.lor, 1)) (e : pc + 1 = pc') (hz : (x ||| y) = z) (k : xm_X L xs call M (pc', lo, .long z :: st, h, c, s) Q) : xm_X L xs call M (pc, lo, .long y :: .long x :: st, h, c, s) Q := by
  subst e; subst hz
  exact fun P hP => hP _ _ _ _ _ _ _ _ d ⟨rfl, x, y, st, rfl, k P hP⟩
theorem x_lxor {x : Int64} {y : Int64} {z : Int64} (d : decode (xm_by M) pc = .ok (.lxor, 1)) (e : pc + 1 = pc') (hz : (x ^^^ y) = z) (k : xm_X L xs call M (pc', lo, .long z :: st, h, c, s) Q) : xm_X L xs call M (pc, lo, .long y :: .long x :: st, h, c, s) Q := by
  subst e; subst hz
  exact fun P hP => hP _ _ _ _ _ _ _ _ d ⟨rfl, x, y, st, rfl, k P hP⟩
theorem x_lshl {x : Int64} {y : Int32} {z : Int64} (d : decode (xm_by M) pc = .ok (.lshl, 1)) (e : pc + 1 = pc') (hz : (x <<< (y.toInt64 &&& 63)) = z) (k : xm_X L xs call M (pc', lo, .long z :: st, h, c, s) Q) : xm_X L xs call M (pc, lo, .int y :: .long x :: st, h, c, s) Q := by
  subst e; subst hz
  exact fun P hP => hP _ _ _ _ _ _ _ _ d ⟨rfl, x, y, st, rfl, k P hP⟩
theorem x_lshr {x : Int64} {y : Int32} {z : Int64} (d : decode (xm_by M) pc = .ok (.lshr, 1)) (e : pc + 1 = pc') (hz : (x >>> (y.toInt64 &&& 63)) = z) (k : xm_X L xs call M (pc', lo, .long z :: st, h, c, s) Q) : xm_X L xs call M (pc, lo, .int y :: .long x :: st, h, c, s) Q := by
  subst e; subst hz
  exact fun P hP => hP _ _ _ _ _ _ _ _ d ⟨rfl, x, y, st, rfl, k P hP⟩
theorem x_lushr {x : Int64} {y : Int32} {z : Int64} (d : decode (xm_by M) pc = .ok (.lushr, 1)) (e : pc + 1 = pc') (hz : (x.toUInt64 >>> (y.toInt64.toUInt64 &&& Int64.toUInt64 63)).toInt64 = z) (k : xm_X L xs call M (pc', lo, .long z :: st, h, c, s) Q) : xm_X L xs call M (pc, lo, .int y :: .long x :: st, h, c, s) Q := by
  subst e; subst hz
  exact fun P hP => hP _ _ _ _ _ _ _ _ d ⟨rfl, x, y, st, rfl, k P hP⟩
theorem x_lcmp {x : Int64} {y : Int64} {z : Int32} (d : decode (xm_by M) pc = .ok (.lcmp, 1)) (e : pc + 1 = pc') (hz : (lg_cmp x y) = z) (k : xm_X L xs call M (pc', lo, .int z :: st, h, c, s) Q) : xm_X L xs call M (pc, lo, .long y :: .long x :: st, h, c, s) Q := by
  subst e; subst hz
  exact fun P hP => hP _ _ _ _ _ _ _ _ d ⟨rfl, x, y, st, rfl, k P hP⟩
theorem x_i2l {x : Int32} {z : Int64} (d : decode (xm_by M) pc = .ok (.i2l, 1)) (e : pc + 1 = pc') (hz : x.toInt64 = z) (k : xm_X L xs call M (pc', lo, .long z :: st, h, c, s) Q) : xm_X L xs call M (pc, lo, .int x :: st, h, c, s) Q := by
  subst e; subst hz
  exact fun P hP => hP _ _ _ _ _ _ _ _ d ⟨rfl, x, st, rfl, k P hP⟩
theorem x_l2i {x : Int64} {z : Int32} (d : decode (xm_by M) pc = .ok (.l2i, 1)) (e : pc + 1 = pc') (hz : x.toInt32 = z) (k : xm_X L xs call M (pc', lo, .int z :: st, h, c, s) Q) : xm_X L xs call M (pc, lo, .long x :: st, h, c, s) Q := by
  subst e; subst hz
  exact fun P hP => hP _ _ _ _ _ _ _ _ d ⟨rfl, x, st, rfl, k P hP⟩
theorem x_dup {v : Value} (d : decode (xm_by M) pc = .ok (.dup, 1)) (e : pc + 1 = pc') (hv : v.category = 1) (k : xm_X L xs call M (pc', lo, v :: v :: st, h, c, s) Q) : xm_X L xs call M (pc, lo, v :: st, h, c, s) Q := by
  subst e
  exact fun P hP => hP _ _ _ _ _ _ _ _ d ⟨rfl, v, st, rfl, hv, k P hP⟩
theorem x_pop {v : Value} (d : decode (xm_by M) pc = .ok (.pop, 1)) (e : pc + 1 = pc') (hv : v.category = 1) (k : xm_X L xs call M (pc', lo, st, h, c, s) Q) : xm_X L xs call M (pc, lo, v :: st, h, c, s) Q := by
  subst e
  exact fun P hP => hP _ _ _ _ _ _ _ _ d ⟨rfl, v, st, rfl, hv, k P hP⟩
theorem x_ifeq {x : Int32} {off : Int} {t : Nat} (d : decode (xm_by M) pc = .ok (.ifCond .eq off, 3)) (e : pc + 3 = pc') (ht : (pc : Int) + off = (t : Int)) (kt : x = 0 → xm_X L xs call M (t, lo, st, h, c, s) Q) (kf : ¬ x = 0 → xm_X L xs call M (pc', lo, st, h, c, s) Q) : xm_X L xs call M (pc, lo, .int x :: st, h, c, s) Q := by
  subst e
  exact fun P hP => hP _ _ _ _ _ _ _ _ d ⟨rfl, t, x, st, ht, rfl, fun q => kt q P hP, fun q => kf q P hP⟩
theorem x_ifne {x : Int32} {off : Int} {t : Nat} (d : decode (xm_by M) pc = .ok (.ifCond .ne off, 3)) (e : pc + 3 = pc') (ht : (pc : Int) + off = (t : Int)) (kt : ¬ x = 0 → xm_X L xs call M (t, lo, st, h, c, s) Q) (kf : x = 0 → xm_X L xs call M (pc', lo, st, h, c, s) Q) : xm_X L xs call M (pc, lo, .int x :: st, h, c, s) Q := by
  subst e
  exact fun P hP => hP _ _ _ _ _ _ _ _ d ⟨rfl, t, x, st, ht, rfl, fun q => kt q P hP, fun q => kf q P hP⟩
theorem x_iflt {x : Int32} {off : Int} {t : Nat} (d : decode (xm_by M) pc = .ok (.ifCond .lt off, 3)) (e : pc + 3 = pc') (ht : (pc : Int) + off = (t : Int)) (kt : x < 0 → xm_X L xs call M (t, lo, st, h, c, s) Q) (kf : ¬ x < 0 → xm_X L xs call M (pc', lo, st, h, c, s) Q) : xm_X L xs call M (pc, lo, .int x :: st, h, c, s) Q := by
  subst e
  exact fun P hP => hP _ _ _ _ _ _ _ _ d ⟨rfl, t, x, st, ht, rfl, fun q => kt q P hP, fun q => kf q P hP⟩
theorem x_ifge {x : Int32} {off : Int} {t : Nat} (d : decode (xm_by M) pc = .ok (.ifCond .ge off, 3)) (e : pc + 3 = pc') (ht : (pc : Int) + off = (t : Int)) (kt : 0 ≤ x → xm_X L xs call M (t, lo, st, h, c, s) Q) (kf : ¬ 0 ≤ x → xm_X L xs call M (pc', lo, st, h, c, s) Q) : xm_X L xs call M (pc, lo, .int x :: st, h, c, s) Q := by
  subst e
  exact fun P hP => hP _ _ _ _ _ _ _ _ d ⟨rfl, t, x, st, ht, rfl, fun q => kt q P hP, fun q => kf q P hP⟩
theorem x_ifgt {x : Int32} {off : Int} {t : Nat} (d : decode (xm_by M) pc = .ok (.ifCond .gt off, 3)) (e : pc + 3 = pc') (ht : (pc : Int) + off = (t : Int)) (kt : 0 < x → xm_X L xs call M (t, lo, st, h, c, s) Q) (kf : ¬ 0 < x → xm_X L xs call M (pc', lo, st, h, c, s) Q) : xm_X L xs call M (pc, lo, .int x :: st, h, c, s) Q := by
  subst e
  exact fun P hP => hP _ _ _ _ _ _ _ _ d ⟨rfl, t, x, st, ht, rfl, fun q => kt q P hP, fun q => kf q P hP⟩
theorem x_ifle {x : Int32} {off : Int} {t : Nat} (d : decode (xm_by M) pc = .ok (.ifCond .le off, 3)) (e : pc + 3 = pc') (ht : (pc : Int) + off = (t : Int)) (kt : x ≤ 0 → xm_X L xs call M (t, lo, st, h, c, s) Q) (kf : ¬ x ≤ 0 → xm_X L xs call M (pc', lo, st, h, c, s) Q) : xm_X L xs call M (pc, lo, .int x :: st, h, c, s) Q := by
  subst e
  exact fun P hP => hP _ _ _ _ _ _ _ _ d ⟨rfl, t, x, st, ht, rfl, fun q => kt q P hP, fun q => kf q P hP⟩
theorem x_icmpeq {x y : Int32} {off : Int} {t : Nat} (d : decode (xm_by M) pc = .ok (.if_icmp .eq off, 3)) (e : pc + 3 = pc') (ht : (pc : Int) + off = (t : Int)) (kt : x = y → xm_X L xs call M (t, lo, st, h, c, s) Q) (kf : ¬ x = y → xm_X L xs call M (pc', lo, st, h, c, s) Q) : xm_X L xs call M (pc, lo, .int y :: .int x :: st, h, c, s) Q := by
  subst e
  exact fun P hP => hP _ _ _ _ _ _ _ _ d ⟨rfl, t, x, y, st, ht, rfl, fun q => kt q P hP, fun q => kf q P hP⟩
theorem x_icmpne {x y : Int32} {off : Int} {t : Nat} (d : decode (xm_by M) pc = .ok (.if_icmp .ne off, 3)) (e : pc + 3 = pc') (ht : (pc : Int) + off = (t : Int)) (kt : ¬ x = y → xm_X L xs call M (t, lo, st, h, c, s) Q) (kf : x = y → xm_X L xs call M (pc', lo, st, h, c, s) Q) : xm_X L xs call M (pc, lo, .int y :: .int x :: st, h, c, s) Q := by
  subst e
  exact fun P hP => hP _ _ _ _ _ _ _ _ d ⟨rfl, t, x, y, st, ht, rfl, fun q => kt q P hP, fun q => kf q P hP⟩
theorem x_icmplt {x y : Int32} {off : Int} {t : Nat} (d : decode (xm_by M) pc = .ok (.if_icmp .lt off, 3)) (e : pc + 3 = pc') (ht : (pc : Int) + off = (t : Int)) (kt : x < y → xm_X L xs call M (t, lo, st, h, c, s) Q) (kf : ¬ x < y → xm_X L xs call M (pc', lo, st, h, c, s) Q) : xm_X L xs call M (pc, lo, .int y :: .int x :: st, h, c, s) Q := by
  subst e
  exact fun P hP => hP _ _ _ _ _ _ _ _ d ⟨rfl, t, x, y, st, ht, rfl, fun q => kt q P hP, fun q => kf q P hP⟩
theorem x_icmpge {x y : Int32} {off : Int} {t : Nat} (d : decode (xm_by M) pc = .ok (.if_icmp .ge off, 3)) (e : pc + 3 = pc') (ht : (pc : Int) + off = (t : Int)) (kt : y ≤ x → xm_X L xs call M (t, lo, st, h, c, s) Q) (kf : ¬ y ≤ x → xm_X L xs call M (pc', lo, st, h, c, s) Q) : xm_X L xs call M (pc, lo, .int y :: .int x :: st, h, c, s) Q := by
  subst e
  exact fun P hP => hP _ _ _ _ _ _ _ _ d ⟨rfl, t, x, y, st, ht, rfl, fun q => kt q P hP, fun q => kf q P hP⟩
theorem x_icmpgt {x y : Int32} {off : Int} {t : Nat} (d : decode (xm_by M) pc = .ok (.if_icmp .gt off, 3)) (e : pc + 3 = pc') (ht : (pc : Int) + off = (t : Int)) (kt : y < x → xm_X L xs call M (t, lo, st, h, c, s) Q) (kf : ¬ y < x → xm_X L xs call M (pc', lo, st, h, c, s) Q) : xm_X L xs call M (pc, lo, .int y :: .int x :: st, h, c, s) Q := by
  subst e
  exact fun P hP => hP _ _ _ _ _ _ _ _ d ⟨rfl, t, x, y, st, ht, rfl, fun q => kt q P hP, fun q => kf q P hP⟩
theorem x_icmple {x y : Int32} {off : Int} {t : Nat} (d : decode (xm_by M) pc = .ok (.if_icmp .le off, 3)) (e : pc + 3 = pc') (ht : (pc : Int) + off = (t : Int)) (kt : x ≤ y → xm_X L xs call M (t, lo, st, h, c, s) Q) (kf : ¬ x ≤ y → xm_X L xs call M (pc', lo, st, h, c, s) Q) : xm_X L xs call M (pc, lo, .int y :: .int x :: st, h, c, s) Q := by
  subst e
  exact fun P hP => hP _ _ _ _ _ _ _ _ d ⟨rfl, t, x, y, st, ht, rfl, fun q => kt q P hP, fun q => kf q P hP⟩
theorem x_goto {off : Int} {t : Nat} (d : decode (xm_by M) pc = .ok (.goto off, 3)) (ht : (pc : Int) + off = (t : Int)) (k : xm_X L xs call M (t, lo, st, h, c, s) Q) : xm_X L xs call M (pc, lo, st, h, c, s) Q := fun P hP => hP _ _ _ _ _ _ _ _ d ⟨rfl, t, ht, k P hP⟩
theorem x_tsOut {x : Int32} {d0 l0 h0 : Int} {offs : Array Int} {len t : Nat} (d : decode (xm_by M) pc = .ok (.tableswitch d0 l0 h0 offs, len)) (hx : x.toInt < l0 ∨ h0 < x.toInt) (ht : (pc : Int) + d0 = (t : Int)) (k : xm_X L xs call M (t, lo, st, h, c, s) Q) : xm_X L xs call M (pc, lo, .int x :: st, h, c, s) Q := fun P hP => hP _ _ _ _ _ _ _ _ d ⟨x, st, rfl, t, Or.inl ⟨hx, ht⟩, k P hP⟩
theorem x_tsIn {x : Int32} {d0 l0 h0 off : Int} {offs : Array Int} {len t : Nat} (d : decode (xm_by M) pc = .ok (.tableswitch d0 l0 h0 offs, len)) (h1 : ¬ x.toInt < l0) (h2 : ¬ h0 < x.toInt) (ho : offs[(x.toInt - l0).toNat]? = some off) (ht : (pc : Int) + off = (t : Int)) (k : xm_X L xs call M (t, lo, st, h, c, s) Q) : xm_X L xs call M (pc, lo, .int x :: st, h, c, s) Q := fun P hP => hP _ _ _ _ _ _ _ _ d ⟨x, st, rfl, t, Or.inr ⟨h1, h2, off, ho, ht⟩, k P hP⟩
theorem x_slen {n : Int32} (d : decode (xm_by M) pc = .ok (.arraylength, 1)) (e : pc + 1 = pc') (hn : Int32.ofNat L = n) (k : xm_X L xs call M (pc', lo, .int n :: st, h, c, s) Q) : xm_X L xs call M (pc, lo, .retAddr 0 :: st, h, c, s) Q := by
  subst e; subst hn
  exact fun P hP => hP _ _ _ _ _ _ _ _ d ⟨rfl, st, rfl, k P hP⟩
theorem x_sld {i v : Int32} (d : decode (xm_by M) pc = .ok (.iaload, 1)) (e : pc + 1 = pc') (hi : vp_in i L) (hv : xs i.toNatClampNeg = v) (k : xm_X L xs call M (pc', lo, .int v :: st, h, c, s) Q) : xm_X L xs call M (pc, lo, .int i :: .retAddr 0 :: st, h, c, s) Q := by
  subst e; subst hv
  exact fun P hP => hP _ _ _ _ _ _ _ _ d ⟨rfl, Or.inl ⟨i, st, rfl, hi, k P hP⟩⟩
theorem x_iaload {i v : Int32} {a n : Nat} {f : Nat → Int32} (d : decode (xm_by M) pc = .ok (.iaload, 1)) (e : pc + 1 = pc') (ha : h[a]? = some (.inl (.int, n, .inl f))) (hi : vp_in i n) (hv : f i.toNatClampNeg = v) (k : xm_X L xs call M (pc', lo, .int v :: st, h, c, s) Q) : xm_X L xs call M (pc, lo, .int i :: .ref a :: st, h, c, s) Q := by
  subst e; subst hv
  exact fun P hP => hP _ _ _ _ _ _ _ _ d ⟨rfl, Or.inr ⟨i, a, st, n, f, rfl, ha, hi, k P hP⟩⟩
theorem x_laload {i : Int32} {v : Int64} {a n : Nat} {f : Nat → Int64} (d : decode (xm_by M) pc = .ok (.laload, 1)) (e : pc + 1 = pc') (ha : h[a]? = some (.inl (.long, n, .inr (.inl f)))) (hi : vp_in i n) (hv : f i.toNatClampNeg = v) (k : xm_X L xs call M (pc', lo, .long v :: st, h, c, s) Q) : xm_X L xs call M (pc, lo, .int i :: .ref a :: st, h, c, s) Q := by
  subst e; subst hv
  exact fun P hP => hP _ _ _ _ _ _ _ _ d ⟨rfl, i, a, st, n, f, rfl, ha, hi, k P hP⟩
theorem x_aaload {i : Int32} {a n q : Nat} {ty : FieldType} {f : Nat → Option Nat} (d : decode (xm_by M) pc = .ok (.aaload, 1)) (e : pc + 1 = pc') (ha : h[a]? = some (.inl (ty, n, .inr (.inr (.inr (.inr f)))))) (hty : ty = .array .int ∨ ty = .object tb_rc) (hi : vp_in i n) (hv : f i.toNatClampNeg = some q) (k : xm_X L xs call M (pc', lo, .ref q :: st, h, c, s) Q) : xm_X L xs call M (pc, lo, .int i :: .ref a :: st, h, c, s) Q := by
  subst e
  exact fun P hP => hP _ _ _ _ _ _ _ _ d ⟨rfl, i, a, st, ty, n, f, q, rfl, ha, hty, hi, hv, k P hP⟩
theorem x_iastore {x i : Int32} {a n : Nat} {f : Nat → Int32} (d : decode (xm_by M) pc = .ok (.iastore, 1)) (e : pc + 1 = pc') (ha : h[a]? = some (.inl (.int, n, .inl f))) (hi : vp_in i n) (hh : h.set a (.inl (.int, n, .inl (upd f i.toNatClampNeg x))) = h') (k : xm_X L xs call M (pc', lo, st, h', c, s) Q) : xm_X L xs call M (pc, lo, .int x :: .int i :: .ref a :: st, h, c, s) Q := by
  subst e; subst hh
  exact fun P hP => hP _ _ _ _ _ _ _ _ d ⟨rfl, x, i, a, st, n, f, rfl, ha, hi, k P hP⟩
theorem x_lastore {x : Int64} {i : Int32} {a n : Nat} {f : Nat → Int64} (d : decode (xm_by M) pc = .ok (.lastore, 1)) (e : pc + 1 = pc') (ha : h[a]? = some (.inl (.long, n, .inr (.inl f)))) (hi : vp_in i n) (hh : h.set a (.inl (.long, n, .inr (.inl (vp_updL f i.toNatClampNeg x)))) = h') (k : xm_X L xs call M (pc', lo, st, h', c, s) Q) : xm_X L xs call M (pc, lo, .long x :: .int i :: .ref a :: st, h, c, s) Q := by
  subst e; subst hh
  exact fun P hP => hP _ _ _ _ _ _ _ _ d ⟨rfl, x, i, a, st, n, f, rfl, ha, hi, k P hP⟩
theorem x_aastore {i : Int32} {v a ci n : Nat} {fs : List Value} {f : Nat → Option Nat} (d : decode (xm_by M) pc = .ok (.aastore, 1)) (e : pc + 1 = pc') (ha : h[a]? = some (.inl (.object tb_rc, n, .inr (.inr (.inr (.inr f)))))) (hc : ∃ q, vwCl[ci]? = some q ∧ q.1 = tb_rc) (hv : h[v]? = some (.inr (ci, fs))) (hi : vp_in i n) (hh : h.set a (.inl (.object tb_rc, n, .inr (.inr (.inr (.inr (va_up f i.toNatClampNeg (some v))))))) = h') (k : xm_X L xs call M (pc', lo, st, h', c, s) Q) : xm_X L xs call M (pc, lo, .ref v :: .int i :: .ref a :: st, h, c, s) Q := by
  subst e; subst hh
  exact fun P hP => hP _ _ _ _ _ _ _ _ d ⟨rfl, v, i, a, st, ci, fs, n, f, rfl, ha, hc, hv, hi, k P hP⟩
theorem x_getfield {j ci a i : Nat} {fs : List Value} {v : Value} (d : decode (xm_by M) pc = .ok (.getfield j, 3)) (e : pc + 3 = pc') (hf : xm_gf (xm_y M).cls j ci i) (ha : h[a]? = some (.inr (ci, fs))) (hv : fs[i]? = some v) (k : xm_X L xs call M (pc', lo, v :: st, h, c, s) Q) : xm_X L xs call M (pc, lo, .ref a :: st, h, c, s) Q := by
  subst e
  obtain ⟨C, T, N, ty, h1, h2, h3⟩ := hf
  exact fun P hP => hP _ _ _ _ _ _ _ _ d ⟨rfl, a, st, ci, i, fs, v, C, T, N, ty, h1, h2, h3, rfl, ha, hv, k P hP⟩
theorem x_putfield {j ci a i : Nat} {fs : List Value} {v : Value} {t : FieldType} (d : decode (xm_by M) pc = .ok (.putfield j, 3)) (e : pc + 3 = pc') (hf : xm_pf (xm_y M) j ci i t) (ha : h[a]? = some (.inr (ci, fs))) (hl : i < fs.length) (hn : narrow t v = v) (hfit : fits t v = true) (hh : h.set a (.inr (ci, fs.set i v)) = h') (k : xm_X L xs call M (pc', lo, st, h', c, s) Q) : xm_X L xs call M (pc, lo, v :: .ref a :: st, h, c, s) Q := by
  subst e; subst hh
  obtain ⟨C, T, N, ty, h1, h2, h3, h4, h5⟩ := hf
  subst h5
  exact fun P hP => hP _ _ _ _ _ _ _ _ d ⟨rfl, v, a, st, ci, i, fs, C, T, N, ty, h1, h2, h3, h4, rfl, ha, hl, hn, hfit, k P hP⟩
theorem x_newarray_int {n : Int32} {N a : Nat} (d : decode (xm_by M) pc = .ok (.newarray .int, 2)) (e : pc + 2 = pc') (hw : Cond.arrayClass .int ∈ tb_all) (hn : ¬ n < 0) (hN : n.toNatClampNeg = N) (hb : N ≤ 65536) (hc : c + 1 ≤ xm_mc M) (hs : s + N ≤ xm_ms M) (ha : h.length = a) (hh : h ++ [.inl (.int, N, .inl (fun _ => 0))] = h') (hc' : c + 1 = c') (hs' : s + N = s') (k : xm_X L xs call M (pc', lo, .ref a :: st, h', c', s') Q) : xm_X L xs call M (pc, lo, .int n :: st, h, c, s) Q := by
  subst e; subst hN; subst ha; subst hh; subst hc'; subst hs'
  exact fun P hP => hP _ _ _ _ _ _ _ _ d ⟨rfl, n, st, rfl, hn, hb, hc, hs, hw, k P hP⟩
theorem x_newarray_long {n : Int32} {N a : Nat} (d : decode (xm_by M) pc = .ok (.newarray .long, 2)) (e : pc + 2 = pc') (hw : Cond.arrayClass .long ∈ tb_all) (hn : ¬ n < 0) (hN : n.toNatClampNeg = N) (hb : N ≤ 65536) (hc : c + 1 ≤ xm_mc M) (hs : s + N ≤ xm_ms M) (ha : h.length = a) (hh : h ++ [.inl (.long, N, .inr (.inl (fun _ => 0)))] = h') (hc' : c + 1 = c') (hs' : s + N = s') (k : xm_X L xs call M (pc', lo, .ref a :: st, h', c', s') Q) : xm_X L xs call M (pc, lo, .int n :: st, h, c, s) Q := by
  subst e; subst hN; subst ha; subst hh; subst hc'; subst hs'
  exact fun P hP => hP _ _ _ _ _ _ _ _ d ⟨rfl, n, st, rfl, hn, hb, hc, hs, hw, k P hP⟩
theorem x_anewarray {j : Nat} {n : Int32} {N a : Nat} (d : decode (xm_by M) pc = .ok (.anewarray j, 3)) (e : pc + 3 = pc') (hw : Cond.classLink (xm_y M).cls j tb_rc ∈ tb_all) (hn : ¬ n < 0) (hN : n.toNatClampNeg = N) (hb : N ≤ 65536) (hc : c + 1 ≤ xm_mc M) (hs : s + N ≤ xm_ms M) (ha : h.length = a) (hh : h ++ [.inl (.object tb_rc, N, .inr (.inr (.inr (.inr (fun _ => none)))))] = h') (hc' : c + 1 = c') (hs' : s + N = s') (k : xm_X L xs call M (pc', lo, .ref a :: st, h', c', s') Q) : xm_X L xs call M (pc, lo, .int n :: st, h, c, s) Q := by
  subst e; subst hN; subst ha; subst hh; subst hc'; subst hs'
  exact fun P hP => hP _ _ _ _ _ _ _ _ d ⟨rfl, n, st, hw, rfl, hn, hb, hc, hs, k P hP⟩
theorem x_multi {j a : Nat} (d : decode (xm_by M) pc = .ok (.multianewarray j 2, 4)) (e : pc + 4 = pc') (hw : Cond.classLink (xm_y M).cls j "[[I" ∈ tb_all) (hc : c + 10 ≤ xm_mc M) (hs : s + 90 ≤ xm_ms M) (ha : h.length = a) (hh : h ++ .inl (.array .int, 9, .inr (.inr (.inr (.inr (fun j => some (a + 1 + j)))))) :: List.replicate 9 (.inl (.int, 9, .inl (fun _ => 0))) = h') (hc' : c + 10 = c') (hs' : s + 90 = s') (k : xm_X L xs call M (pc', lo, .ref a :: st, h', c', s') Q) : xm_X L xs call M (pc, lo, .int 9 :: .int 9 :: st, h, c, s) Q := by
  subst e; subst ha; subst hh; subst hc'; subst hs'
  exact fun P hP => hP _ _ _ _ _ _ _ _ d ⟨rfl, st, rfl, hw, rfl, hc, hs, k P hP⟩
theorem x_new {j ci N a : Nat} {fs : List Value} (d : decode (xm_by M) pc = .ok (.new j, 3)) (e : pc + 3 = pc') (hf : xm_nf (xm_y M).cls j ci N fs) (hc : c + 1 ≤ xm_mc M) (hs : s + N ≤ xm_ms M) (ha : h.length = a) (hh : h ++ [.inr (ci, fs)] = h') (hc' : c + 1 = c') (hs' : s + N = s') (k : xm_X L xs call M (pc', lo, .ref a :: st, h', c', s') Q) : xm_X L xs call M (pc, lo, st, h, c, s) Q := by
  subst e; subst ha; subst hh; subst hc'; subst hs'
  obtain ⟨C, T, ty, h1, h2, h3, h4, h5, h6⟩ := hf
  exact fun P hP => hP _ _ _ _ _ _ _ _ d ⟨rfl, ci, C, T, N, ty, fs, h1, h2, h3, h4, h5, h6, hc, hs, k P hP⟩
theorem x_objInit {j a : Nat} (d : decode (xm_by M) pc = .ok (.invokespecial j, 3)) (e : pc + 3 = pc') (hf : xm_oi (xm_y M).cls j) (hr : xm_sum st ≤ 8) (k : xm_X L xs call M (pc', lo, st, h, c, s) Q) : xm_X L xs call M (pc, lo, .ref a :: st, h, c, s) Q := by
  subst e
  exact fun P hP => hP _ _ _ _ _ _ _ _ d ⟨rfl, Or.inl ⟨hf, a, st, rfl, hr, k P hP⟩⟩
theorem x_mmax {j : Nat} {x y z : Int32} (d : decode (xm_by M) pc = .ok (.invokestatic j, 3)) (e : pc + 3 = pc') (hf : xm_mx (xm_y M).cls j) (hr : xm_sum st ≤ 8) (hz : (if x < y then y else x) = z) (k : xm_X L xs call M (pc', lo, .int z :: st, h, c, s) Q) : xm_X L xs call M (pc, lo, .int y :: .int x :: st, h, c, s) Q := by
  subst e; subst hz
  exact fun P hP => hP _ _ _ _ _ _ _ _ d ⟨rfl, Or.inl ⟨hf, x, y, st, rfl, hr, k P hP⟩⟩
theorem x_static {j n : Nat} {Mj : xm_M} {as r : List Value} {v : Option Value} (d : decode (xm_by M) pc = .ok (.invokestatic j, 3)) (e : pc + 3 = pc') (hf : xm_cs (xm_y M).cls j Mj n) (hst : st = as.reverse ++ r) (hn : as.length = n) (hr : xm_sum r ≤ 8) (hc : c + xm_mc Mj ≤ xm_mc M) (hs : s + xm_ms Mj ≤ xm_ms M) (hcall : ∀ Q', Q' v h' → call Mj as h Q') (hst' : v.toList ++ r = st') (hc' : c + xm_mc Mj = c') (hs' : s + xm_ms Mj = s') (k : xm_X L xs call M (pc', lo, st', h', c', s') Q) : xm_X L xs call M (pc, lo, st, h, c, s) Q := by
  subst e; subst hst; subst hn; subst hst'; subst hc'; subst hs'
  exact fun P hP => hP _ _ _ _ _ _ _ _ d ⟨rfl, Or.inr ⟨Mj, as, hf.1, hf.2.1, hf.2.2.1, hf.2.2.2, r, rfl, hr, hc, hs, hcall _ (k P hP)⟩⟩
theorem x_virtual {j n ci a : Nat} {Mj : xm_M} {as r fs : List Value} {v : Option Value} (d : decode (xm_by M) pc = .ok (.invokevirtual j, 3)) (e : pc + 3 = pc') (hf : xm_cv (xm_y M).cls j Mj n ci) (ha : h[a]? = some (.inr (ci, fs))) (hst : st = (Value.ref a :: as).reverse ++ r) (hn : as.length = n) (hr : xm_sum r ≤ 8) (hc : c + xm_mc Mj ≤ xm_mc M) (hs : s + xm_ms Mj ≤ xm_ms M) (hcall : ∀ Q', Q' v h' → call Mj (.ref a :: as) h Q') (hst' : v.toList ++ r = st') (hc' : c + xm_mc Mj = c') (hs' : s + xm_ms Mj = s') (k : xm_X L xs call M (pc', lo, st', h', c', s') Q) : xm_X L xs call M (pc, lo, st, h, c, s) Q := by
  subst e; subst hst; subst hn; subst hst'; subst hc'; subst hs'
  obtain ⟨h1, h2, h3, h4, h5, C, T, N, ty, h6, h7⟩ := hf
  exact fun P hP => hP _ _ _ _ _ _ _ _ d ⟨rfl, Mj, as, a, ci, fs, C, T, N, ty, h1, h2, h3, h4, h5, h6, h7, ha, r, rfl, hr, hc, hs, hcall _ (k P hP)⟩
theorem x_special {j n a : Nat} {Mj : xm_M} {as r : List Value} {v : Option Value} (d : decode (xm_by M) pc = .ok (.invokespecial j, 3)) (e : pc + 3 = pc') (hf : xm_cn (xm_y M).cls j Mj n) (hst : st = (Value.ref a :: as).reverse ++ r) (hn : as.length = n) (hr : xm_sum r ≤ 8) (hc : c + xm_mc Mj ≤ xm_mc M) (hs : s + xm_ms Mj ≤ xm_ms M) (hcall : ∀ Q', Q' v h' → call Mj (.ref a :: as) h Q') (hst' : v.toList ++ r = st') (hc' : c + xm_mc Mj = c') (hs' : s + xm_ms Mj = s') (k : xm_X L xs call M (pc', lo, st', h', c', s') Q) : xm_X L xs call M (pc, lo, st, h, c, s) Q := by
  subst e; subst hst; subst hn; subst hst'; subst hc'; subst hs'
  exact fun P hP => hP _ _ _ _ _ _ _ _ d ⟨rfl, Or.inr ⟨Mj, as, a, hf.1, hf.2.1, hf.2.2.1, hf.2.2.2.1, hf.2.2.2.2.1, hf.2.2.2.2.2, r, rfl, hr, hc, hs, hcall _ (k P hP)⟩⟩
theorem x_ireturn {x : Int32} {ty : FieldType} (d : decode (xm_by M) pc = .ok (.ireturn, 1)) (hrt : xm_rt M = some ty) (hn : narrow ty (.int x) = .int x) (hq : Q (some (.int x)) h) : xm_X L xs call M (pc, lo, [.int x], h, c, s) Q := fun P hP => hP _ _ _ _ _ _ _ _ d ⟨rfl, x, ty, rfl, hrt, hn, hq⟩
theorem x_lreturn {x : Int64} (d : decode (xm_by M) pc = .ok (.lreturn, 1)) (hrt : xm_rt M = some .long) (hq : Q (some (.long x)) h) : xm_X L xs call M (pc, lo, [.long x], h, c, s) Q := fun P hP => hP _ _ _ _ _ _ _ _ d ⟨rfl, x, rfl, hrt, hq⟩
theorem x_return (d : decode (xm_by M) pc = .ok (.return_, 1)) (hrt : xm_rt M = none) (hq : Q none h) : xm_X L xs call M (pc, lo, [], h, c, s) Q := fun P hP => hP _ _ _ _ _ _ _ _ d ⟨rfl, rfl, hrt, hq⟩
end XU
/-- a call begins -/
theorem x_call {L : Nat} {xs : Nat → Int32} {d : Nat} {M : xm_M} {as lo : List Value} {h : xm_H} {Q : xm_Q} (hl : (xm_lay as).length ≤ xm_ml M) (he : xm_ent (xm_ml M) as = lo) (k : xm_X L xs (xm_call L xs d) M (0, lo, [], h, 0, 0) Q) : xm_call L xs (d + 1) M as h Q := by
  subst he
  exact ⟨hl, k⟩
