/-! A small machine over a list heap: what a method's bytecode does, as a predicate transformer.
Values: .int, .long, .null, .ref k (the k-th cell of the list heap), .retAddr 0 (the script, which no method writes); .float 0 fills unset locals and the second half of a long. -/
def xm_isn : Cond → Bool
  | .fieldLinkNest _ _ _ _ _ _ => true
  | .methodLinkNest _ _ _ _ => true
  | _ => false
def tb_all : List Cond := lw_tbl.filter goodWord
def tb_nest : List Cond := lw_tbl.filter xm_isn
theorem tb_in {w : Cond} (h : w ∈ lw_tbl) (g : goodWord w = true) : w ∈ tb_all := List.mem_filter.mpr ⟨h, g⟩
theorem tb_nin {w : Cond} (h : w ∈ lw_tbl) (g : xm_isn w = true) : w ∈ tb_nest := List.mem_filter.mpr ⟨h, g⟩
theorem tb_good {w : Cond} (hw : w ∈ tb_all) : GoodIn tb_all (w :: tb_all) := fun v h => by
  have hv : v ∈ tb_all := by
    rcases List.mem_cons.mp h with rfl | h
    · exact hw
    · exact h
  exact ⟨hv, good_of_word (List.mem_filter.mp hv).2⟩
abbrev xm_C : Type := (FieldType × vp_A) ⊕ (Nat × List Value)
abbrev xm_H : Type := List xm_C
/-- a method: name, code, locals, what it answers, the cells and slots that a call of it may make -/
abbrev xm_M : Type := MethodName × ByteArray × Nat × Option FieldType × Nat × Nat
abbrev xm_y (M : xm_M) : MethodName := M.1
abbrev xm_by (M : xm_M) : ByteArray := M.2.1
abbrev xm_ml (M : xm_M) : Nat := M.2.2.1
abbrev xm_rt (M : xm_M) : Option FieldType := M.2.2.2.1
abbrev xm_mc (M : xm_M) : Nat := M.2.2.2.2.1
abbrev xm_ms (M : xm_M) : Nat := M.2.2.2.2.2
/-- pc, locals, stack, heap, cells made so far, slots made so far -/
abbrev xm_S : Type := Nat × List Value × List Value × xm_H × Nat × Nat
abbrev xm_Q : Type := Option Value → xm_H → Prop
abbrev xm_K : Type := xm_M → List Value → xm_H → xm_Q → Prop
abbrev xm_J : Type := xm_S → Prop
def xm_sum (st : List Value) : Nat := (st.map fun v => v.category).sum
/-- the words that a method's own call needs -/
def xm_ok (M : xm_M) : Prop := Cond.code (xm_y M) (xm_by M) (xm_ml M) (xm_rt M) ∈ tb_all ∧ Cond.initialized (xm_y M).cls ∈ tb_all ∧ plainName (xm_y M).cls = true ∧ ((xm_y M).cls ≠ "java/lang/invoke/MethodHandle" ∧ (xm_y M).cls ≠ "java/lang/invoke/VarHandle") ∧ xm_ml M ≤ 29
def xm_lk (own : String) (k : Nat) (y : MethodName) : Prop := Cond.methodLink own k y ∈ tb_all ∨ ∃ host, Cond.methodLinkNest own k y host ∈ tb_nest
def xm_fk (own : String) (k : Nat) (q : String × String × String × Bool) : Prop := Cond.fieldLink own k q.1 q.2.1 q.2.2.1 ∈ tb_all ∨ ∃ host, Cond.fieldLinkNest own k q.1 q.2.1 q.2.2.1 host ∈ tb_nest
def xm_np (y : MethodName) (n : Nat) : Prop := (parseMethodDescriptor y.desc).map (fun d => d.parameters.length) = some n
/-- a class whose objects the heap holds -/
def xm_cl (ci : Nat) (C : String) (T : u_T) (N : Nat) (ty : Nat → FieldType) : Prop := vwCl[ci]? = some (C, T, N) ∧ (∀ w ∈ u_ws C T N, w ∈ tb_all) ∧ (∀ k, k < N → parseFieldDescriptor (T k).2.2.1 = some (ty k)) ∧ (∀ a, a < N → ∀ b, b < N → a ≠ b → (T a).2.1 ≠ (T b).2.1)
def xm_oi (own : String) (k : Nat) : Prop := Cond.methodLink own k Lib.objectInit ∈ tb_all ∧ Cond.instanceMethod Lib.objectInit ∈ tb_all ∧ Cond.code Lib.objectInit ⟨#[0xb1]⟩ 1 none ∈ tb_all
def xm_mx (own : String) (k : Nat) : Prop := Cond.methodLink own k Lib.Math.max.name ∈ tb_all ∧ Cond.static Lib.Math.max.name ∈ tb_all ∧ Cond.initialized "java/lang/Math" ∈ tb_all ∧ Cond.code Lib.Math.max.name Lib.Math.max.code 2 (some .int) ∈ tb_all
def xm_plain : Value → Bool
  | .int _ => true
  | .long _ => true
  | .null => true
  | _ => false
def xm_isr (v : Value) : Prop := (∃ k, v = .ref k) ∨ v = .retAddr 0
/-- a call of method M with the arguments as on the stack -/
def xm_inv (call : xm_K) (mi M : xm_M) (pc : Nat) (lo st as : List Value) (h : xm_H) (c s : Nat) (K : xm_J) : Prop :=
  ∃ r, st = as.reverse ++ r ∧ xm_sum r ≤ 8 ∧ c + xm_mc M ≤ xm_mc mi ∧ s + xm_ms M ≤ xm_ms mi ∧
    call M as h (fun v h' => K (pc + 3, lo, v.toList ++ r, h', c + xm_mc M, s + xm_ms M))
def xm_op (L : Nat) (xs : Nat → Int32) (call : xm_K) (mi : xm_M) (i : Instr) (len pc : Nat) (lo st : List Value) (h : xm_H) (c s : Nat) (K : xm_J) (Q : xm_Q) : Prop :=
  match i with
  | .iconst n => len = 1 ∧ K (pc + 1, lo, .int (Int32.ofInt n) :: st, h, c, s)
  | .bipush n => len = 2 ∧ K (pc + 2, lo, .int (Int8.ofInt n).toInt32 :: st, h, c, s)
  | .sipush n => len = 3 ∧ K (pc + 3, lo, .int (Int16.ofInt n).toInt32 :: st, h, c, s)
  | .lconst n => len = 1 ∧ K (pc + 1, lo, .long (Int64.ofNat (n : Nat)) :: st, h, c, s)
  | .ldc2_w k => len = 3 ∧ ∃ x, Cond.constantLong (xm_y mi).cls k x ∈ tb_all ∧ K (pc + 3, lo, .long x :: st, h, c, s)
  | .iload_n n => len = 1 ∧ ∃ x, lo[(n : Nat)]? = some (.int x) ∧ K (pc + 1, lo, .int x :: st, h, c, s)
  | .iload n => len = 2 ∧ ∃ x, lo[n]? = some (.int x) ∧ K (pc + 2, lo, .int x :: st, h, c, s)
  | .lload_n n => len = 1 ∧ ∃ x z, lo[(n : Nat)]? = some (.long x) ∧ lo[(n : Nat) + 1]? = some (.float z) ∧ K (pc + 1, lo, .long x :: st, h, c, s)
  | .lload n => len = 2 ∧ ∃ x z, lo[n]? = some (.long x) ∧ lo[n + 1]? = some (.float z) ∧ K (pc + 2, lo, .long x :: st, h, c, s)
  | .aload_n n => len = 1 ∧ ∃ v, lo[(n : Nat)]? = some v ∧ xm_isr v ∧ K (pc + 1, lo, v :: st, h, c, s)
  | .aload n => len = 2 ∧ ∃ v, lo[n]? = some v ∧ xm_isr v ∧ K (pc + 2, lo, v :: st, h, c, s)
  | .istore_n n => len = 1 ∧ ∃ x r, st = .int x :: r ∧ (n : Nat) < lo.length ∧ K (pc + 1, lo.set n (.int x), r, h, c, s)
  | .istore n => len = 2 ∧ ∃ x r, st = .int x :: r ∧ n < lo.length ∧ K (pc + 2, lo.set n (.int x), r, h, c, s)
  | .lstore_n n => len = 1 ∧ ∃ x r, st = .long x :: r ∧ (n : Nat) + 1 < lo.length ∧ K (pc + 1, (lo.set n (.long x)).set (n + 1) (.float 0), r, h, c, s)
  | .lstore n => len = 2 ∧ ∃ x r, st = .long x :: r ∧ n + 1 < lo.length ∧ K (pc + 2, (lo.set n (.long x)).set (n + 1) (.float 0), r, h, c, s)
  | .astore_n n => len = 1 ∧ ∃ k r, st = .ref k :: r ∧ (n : Nat) < lo.length ∧ K (pc + 1, lo.set n (.ref k), r, h, c, s)
  | .astore n => len = 2 ∧ ∃ k r, st = .ref k :: r ∧ n < lo.length ∧ K (pc + 2, lo.set n (.ref k), r, h, c, s)
  | .iinc n k => len = 3 ∧ ∃ x, lo[n]? = some (.int x) ∧ K (pc + 3, lo.set n (.int (x + Int32.ofInt k)), st, h, c, s)
  | .iadd => len = 1 ∧ ∃ x y r, st = .int y :: .int x :: r ∧ K (pc + 1, lo, .int (x + y) :: r, h, c, s)
  | .isub => len = 1 ∧ ∃ x y r, st = .int y :: .int x :: r ∧ K (pc + 1, lo, .int (x - y) :: r, h, c, s)
  | .imul => len = 1 ∧ ∃ x y r, st = .int y :: .int x :: r ∧ K (pc + 1, lo, .int (x * y) :: r, h, c, s)
  | .iand => len = 1 ∧ ∃ x y r, st = .int y :: .int x :: r ∧ K (pc + 1, lo, .int (x &&& y) :: r, h, c, s)
  | .ladd => len = 1 ∧ ∃ x y r, st = .long y :: .long x :: r ∧ K (pc + 1, lo, .long (x + y) :: r, h, c, s)
  | .lsub => len = 1 ∧ ∃ x y r, st = .long y :: .long x :: r ∧ K (pc + 1, lo, .long (x - y) :: r, h, c, s)
  | .land => len = 1 ∧ ∃ x y r, st = .long y :: .long x :: r ∧ K (pc + 1, lo, .long (x &&& y) :: r, h, c, s)
  | .lor => len = 1 ∧ ∃ x y r, st = .long y :: .long x :: r ∧ K (pc + 1, lo, .long (x ||| y) :: r, h, c, s)
  | .lxor => len = 1 ∧ ∃ x y r, st = .long y :: .long x :: r ∧ K (pc + 1, lo, .long (x ^^^ y) :: r, h, c, s)
  | .lshl => len = 1 ∧ ∃ (x : Int64) (y : Int32) (r : List Value), st = .int y :: .long x :: r ∧ K (pc + 1, lo, .long (x <<< (y.toInt64 &&& 63)) :: r, h, c, s)
  | .lshr => len = 1 ∧ ∃ (x : Int64) (y : Int32) (r : List Value), st = .int y :: .long x :: r ∧ K (pc + 1, lo, .long (x >>> (y.toInt64 &&& 63)) :: r, h, c, s)
  | .lushr => len = 1 ∧ ∃ (x : Int64) (y : Int32) (r : List Value), st = .int y :: .long x :: r ∧ K (pc + 1, lo, .long (x.toUInt64 >>> (y.toInt64.toUInt64 &&& Int64.toUInt64 63)).toInt64 :: r, h, c, s)
  | .i2l => len = 1 ∧ ∃ (x : Int32) (r : List Value), st = .int x :: r ∧ K (pc + 1, lo, .long x.toInt64 :: r, h, c, s)
  | .l2i => len = 1 ∧ ∃ (x : Int64) (r : List Value), st = .long x :: r ∧ K (pc + 1, lo, .int x.toInt32 :: r, h, c, s)
  | .lcmp => len = 1 ∧ ∃ x y r, st = .long y :: .long x :: r ∧ K (pc + 1, lo, .int (lg_cmp x y) :: r, h, c, s)
  | .dup => len = 1 ∧ ∃ v r, st = v :: r ∧ v.category = 1 ∧ K (pc + 1, lo, v :: v :: r, h, c, s)
  | .pop => len = 1 ∧ ∃ v r, st = v :: r ∧ v.category = 1 ∧ K (pc + 1, lo, r, h, c, s)
  | .ifCond o off => len = 3 ∧ ∃ (t : Nat) (x : Int32) (r : List Value), (pc : Int) + off = (t : Int) ∧ st = .int x :: r ∧ (match o with
    | .eq => (x = 0 → K (t, lo, r, h, c, s)) ∧ (¬ x = 0 → K (pc + 3, lo, r, h, c, s))
    | .ne => (¬ x = 0 → K (t, lo, r, h, c, s)) ∧ (x = 0 → K (pc + 3, lo, r, h, c, s))
    | .lt => (x < 0 → K (t, lo, r, h, c, s)) ∧ (¬ x < 0 → K (pc + 3, lo, r, h, c, s))
    | .ge => (0 ≤ x → K (t, lo, r, h, c, s)) ∧ (¬ 0 ≤ x → K (pc + 3, lo, r, h, c, s))
    | .gt => (0 < x → K (t, lo, r, h, c, s)) ∧ (¬ 0 < x → K (pc + 3, lo, r, h, c, s))
    | .le => (x ≤ 0 → K (t, lo, r, h, c, s)) ∧ (¬ x ≤ 0 → K (pc + 3, lo, r, h, c, s)))
  | .if_icmp o off => len = 3 ∧ ∃ (t : Nat) (x y : Int32) (r : List Value), (pc : Int) + off = (t : Int) ∧ st = .int y :: .int x :: r ∧ (match o with
    | .eq => (x = y → K (t, lo, r, h, c, s)) ∧ (¬ x = y → K (pc + 3, lo, r, h, c, s))
    | .ne => (¬ x = y → K (t, lo, r, h, c, s)) ∧ (x = y → K (pc + 3, lo, r, h, c, s))
    | .lt => (x < y → K (t, lo, r, h, c, s)) ∧ (¬ x < y → K (pc + 3, lo, r, h, c, s))
    | .ge => (y ≤ x → K (t, lo, r, h, c, s)) ∧ (¬ y ≤ x → K (pc + 3, lo, r, h, c, s))
    | .gt => (y < x → K (t, lo, r, h, c, s)) ∧ (¬ y < x → K (pc + 3, lo, r, h, c, s))
    | .le => (x ≤ y → K (t, lo, r, h, c, s)) ∧ (¬ x ≤ y → K (pc + 3, lo, r, h, c, s)))
  | .goto off => len = 3 ∧ ∃ t : Nat, (pc : Int) + off = (t : Int) ∧ K (t, lo, st, h, c, s)
  | .tableswitch d0 l0 h0 offs => ∃ x r, st = .int x :: r ∧ ∃ tg : Nat, (((x.toInt < l0 ∨ h0 < x.toInt) ∧ (pc : Int) + d0 = (tg : Int)) ∨ (¬ x.toInt < l0 ∧ ¬ h0 < x.toInt ∧ ∃ off, offs[(x.toInt - l0).toNat]? = some off ∧ (pc : Int) + off = (tg : Int))) ∧ K (tg, lo, r, h, c, s)
  | .arraylength => len = 1 ∧ ∃ r, st = .retAddr 0 :: r ∧ K (pc + 1, lo, .int (Int32.ofNat L) :: r, h, c, s)
  | .iaload => len = 1 ∧ ((∃ i r, st = .int i :: .retAddr 0 :: r ∧ vp_in i L ∧ K (pc + 1, lo, .int (xs i.toNatClampNeg) :: r, h, c, s)) ∨
      ∃ i a r n f, st = .int i :: .ref a :: r ∧ h[a]? = some (.inl (.int, n, .inl f)) ∧ vp_in i n ∧ K (pc + 1, lo, .int (f i.toNatClampNeg) :: r, h, c, s))
  | .laload => len = 1 ∧ ∃ i a r n f, st = .int i :: .ref a :: r ∧ h[a]? = some (.inl (.long, n, .inr (.inl f))) ∧ vp_in i n ∧ K (pc + 1, lo, .long (f i.toNatClampNeg) :: r, h, c, s)
  | .aaload => len = 1 ∧ ∃ i a r ty n f q, st = .int i :: .ref a :: r ∧ h[a]? = some (.inl (ty, n, .inr (.inr (.inr (.inr f))))) ∧ (ty = .array .int ∨ ty = .object tb_rc) ∧ vp_in i n ∧ f i.toNatClampNeg = some q ∧ K (pc + 1, lo, .ref q :: r, h, c, s)
  | .iastore => len = 1 ∧ ∃ x i a r n f, st = .int x :: .int i :: .ref a :: r ∧ h[a]? = some (.inl (.int, n, .inl f)) ∧ vp_in i n ∧ K (pc + 1, lo, r, h.set a (.inl (.int, n, .inl (upd f i.toNatClampNeg x))), c, s)
  | .lastore => len = 1 ∧ ∃ x i a r n f, st = .long x :: .int i :: .ref a :: r ∧ h[a]? = some (.inl (.long, n, .inr (.inl f))) ∧ vp_in i n ∧ K (pc + 1, lo, r, h.set a (.inl (.long, n, .inr (.inl (vp_updL f i.toNatClampNeg x)))), c, s)
  | .aastore => len = 1 ∧ ∃ v i a r ci fs n f, st = .ref v :: .int i :: .ref a :: r ∧ h[a]? = some (.inl (.object tb_rc, n, .inr (.inr (.inr (.inr f))))) ∧ (∃ q, vwCl[ci]? = some q ∧ q.1 = tb_rc) ∧ h[v]? = some (.inr (ci, fs)) ∧ vp_in i n ∧ K (pc + 1, lo, r, h.set a (.inl (.object tb_rc, n, .inr (.inr (.inr (.inr (va_up f i.toNatClampNeg (some v))))))), c, s)
  | .getfield k => len = 3 ∧ ∃ a r ci j fs v C T N ty, xm_cl ci C T N ty ∧ j < N ∧ xm_fk (xm_y mi).cls k (T j) ∧ st = .ref a :: r ∧ h[a]? = some (.inr (ci, fs)) ∧ fs[j]? = some v ∧ K (pc + 3, lo, v :: r, h, c, s)
  | .putfield k => len = 3 ∧ ∃ v a r ci j fs C T N ty, xm_cl ci C T N ty ∧ j < N ∧ xm_fk (xm_y mi).cls k (T j) ∧ ((T j).2.2.2 = false ∨ ((T j).2.2.2 = true ∧ (T j).1 = (xm_y mi).cls ∧ (xm_y mi).name = "<init>" ∧ Cond.fieldLink (xm_y mi).cls k (T j).1 (T j).2.1 (T j).2.2.1 ∈ tb_all)) ∧
      st = v :: .ref a :: r ∧ h[a]? = some (.inr (ci, fs)) ∧ j < fs.length ∧ narrow (ty j) v = v ∧ fits (ty j) v = true ∧ K (pc + 3, lo, r, h.set a (.inr (ci, fs.set j v)), c, s)
  | .newarray ty => len = 2 ∧ ∃ n r, st = .int n :: r ∧ ¬ n < 0 ∧ n.toNatClampNeg ≤ 65536 ∧ c + 1 ≤ xm_mc mi ∧ s + n.toNatClampNeg ≤ xm_ms mi ∧ (match ty with
    | .int => Cond.arrayClass .int ∈ tb_all ∧ K (pc + 2, lo, .ref h.length :: r, h ++ [.inl (.int, n.toNatClampNeg, .inl (fun _ => 0))], c + 1, s + n.toNatClampNeg)
    | .long => Cond.arrayClass .long ∈ tb_all ∧ K (pc + 2, lo, .ref h.length :: r, h ++ [.inl (.long, n.toNatClampNeg, .inr (.inl (fun _ => 0)))], c + 1, s + n.toNatClampNeg)
    | _ => False)
  | .anewarray k => len = 3 ∧ ∃ n r, Cond.classLink (xm_y mi).cls k tb_rc ∈ tb_all ∧ st = .int n :: r ∧ ¬ n < 0 ∧ n.toNatClampNeg ≤ 65536 ∧ c + 1 ≤ xm_mc mi ∧ s + n.toNatClampNeg ≤ xm_ms mi ∧ K (pc + 3, lo, .ref h.length :: r, h ++ [.inl (.object tb_rc, n.toNatClampNeg, .inr (.inr (.inr (.inr (fun _ => none)))))], c + 1, s + n.toNatClampNeg)
  | .multianewarray k d0 => len = 4 ∧ ∃ r, d0 = 2 ∧ Cond.classLink (xm_y mi).cls k "[[I" ∈ tb_all ∧ st = .int 9 :: .int 9 :: r ∧ c + 10 ≤ xm_mc mi ∧ s + 90 ≤ xm_ms mi ∧ K (pc + 4, lo, .ref h.length :: r, h ++ .inl (.array .int, 9, .inr (.inr (.inr (.inr (fun j => some (h.length + 1 + j)))))) :: List.replicate 9 (.inl (.int, 9, .inl (fun _ => 0))), c + 10, s + 90)
  | .new k => len = 3 ∧ ∃ ci C T N ty fs, xm_cl ci C T N ty ∧ Cond.classLink (xm_y mi).cls k C ∈ tb_all ∧ Cond.instantiable C N ∈ tb_all ∧ Cond.initialized C ∈ tb_all ∧ (∀ j, j < N → defaultValue (ty j) = vp_V fs j) ∧ fs.all xm_plain = true ∧ c + 1 ≤ xm_mc mi ∧ s + N ≤ xm_ms mi ∧ K (pc + 3, lo, .ref h.length :: st, h ++ [.inr (ci, fs)], c + 1, s + N)
  | .invokestatic k => len = 3 ∧ ((xm_mx (xm_y mi).cls k ∧ ∃ x y r, st = .int y :: .int x :: r ∧ xm_sum r ≤ 8 ∧ K (pc + 3, lo, .int (if x < y then y else x) :: r, h, c, s)) ∨
      ∃ M as, xm_ok M ∧ xm_lk (xm_y mi).cls k (xm_y M) ∧ Cond.static (xm_y M) ∈ tb_all ∧ xm_np (xm_y M) as.length ∧ xm_inv call mi M pc lo st as h c s K)
  | .invokevirtual k => len = 3 ∧ ∃ M as a ci fs C T N ty, xm_ok M ∧ xm_lk (xm_y mi).cls k (xm_y M) ∧ Cond.instanceMethod (xm_y M) ∈ tb_all ∧ Cond.selects (xm_y M).cls (xm_y M) (xm_y M) ∈ tb_all ∧ xm_np (xm_y M) as.length ∧ xm_cl ci C T N ty ∧ C = (xm_y M).cls ∧ h[a]? = some (.inr (ci, fs)) ∧ xm_inv call mi M pc lo st (.ref a :: as) h c s K
  | .invokespecial k => len = 3 ∧ ((xm_oi (xm_y mi).cls k ∧ ∃ a r, st = .ref a :: r ∧ xm_sum r ≤ 8 ∧ K (pc + 3, lo, r, h, c, s)) ∨
      ∃ M as a, xm_ok M ∧ xm_rt M = none ∧ xm_lk (xm_y mi).cls k (xm_y M) ∧ (xm_y M).name = "<init>" ∧ Cond.instanceMethod (xm_y M) ∈ tb_all ∧ xm_np (xm_y M) as.length ∧ xm_inv call mi M pc lo st (.ref a :: as) h c s K)
  | .ireturn => len = 1 ∧ ∃ x ty, st = [.int x] ∧ xm_rt mi = some ty ∧ narrow ty (.int x) = .int x ∧ Q (some (.int x)) h
  | .lreturn => len = 1 ∧ ∃ x, st = [.long x] ∧ xm_rt mi = some .long ∧ Q (some (.long x)) h
  | .return_ => len = 1 ∧ st = [] ∧ xm_rt mi = none ∧ Q none h
  | _ => False
/-- P holds where a step leads to P, or to a return with Q -/
def xm_cls (L : Nat) (xs : Nat → Int32) (call : xm_K) (mi : xm_M) (Q : xm_Q) (P : xm_J) : Prop :=
  ∀ (pc : Nat) (lo st : List Value) (h : xm_H) (c s : Nat) (i : Instr) (len : Nat), decode (xm_by mi) pc = .ok (i, len) → xm_op L xs call mi i len pc lo st h c s P Q → P (pc, lo, st, h, c, s)
/-- the machine comes from σ to a return with Q -/
def xm_X (L : Nat) (xs : Nat → Int32) (call : xm_K) (mi : xm_M) (σ : xm_S) (Q : xm_Q) : Prop := ∀ P : xm_J, xm_cls L xs call mi Q P → P σ
/-- the locals with which a method begins -/
def xm_lay : List Value → List Value
  | [] => []
  | v :: vs => if v.category = 2 then v :: .float 0 :: xm_lay vs else v :: xm_lay vs
def xm_ent (nL : Nat) (as : List Value) : List Value := xm_lay as ++ List.replicate (nL - (xm_lay as).length) (.float 0)
def xm_call (L : Nat) (xs : Nat → Int32) : Nat → xm_K
  | 0, _, _, _, _ => False
  | d + 1, M, as, h, Q => (xm_lay as).length ≤ xm_ml M ∧ xm_X L xs (xm_call L xs d) M (0, xm_ent (xm_ml M) as, [], h, 0, 0) Q
