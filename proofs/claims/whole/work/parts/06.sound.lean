/-! What the small machine does, the real one does: a row an instruction. (Printed by gen_sound.py.) -/
section XS
variable {p : Program} {l : Launch} {e : Env} {R : Room} {s : State} {m : MethodId} {args : Array Value} {below : List Frame} {meth : Method} {c : Code} {Qw : State → Prop} {M : xm_M} {d : Nat} {D : va_G} {dA : FieldType → ClassId} {ad : List Nat} {b B0 L : Nat} {xs : Nat → Int32}
variable {len pc : Nat} {lo st : List Value} {h : xm_H} {cn sn : Nat}
theorem xs_iadd  (F : xm_F p R s m args meth c M d D dA b B0 L xs) (hd : decode (xm_by M) pc = .ok (.iadd, len)) (ho : len = 1 ∧ ∃ (x : Int32) (y : Int32) (r : List Value), st = .int y :: .int x :: r ∧ xm_G p l e R s m args below meth c Qw D dA ad b B0 (xm_ml M) (pc + 1, lo, .int (x + y) :: r, h, cn, sn)) : xm_G p l e R s m args below meth c Qw D dA ad b B0 (xm_ml M) (pc, lo, st, h, cn, sn) := by
  obtain ⟨rfl, x, y, r, rfl, hk⟩ := ho
  intro ws H locs ls rst hc hs hI
  obtain ⟨iR, iP, iD, iS, iL, w1, r1, rfl, e1, w2, r2, rfl, e2, iT⟩ := hI
  have e1 : w1 = .int y := e1
  have e2 : w2 = .int x := e2
  subst e1; subst e2
  exact lv_iadd F.1.1 F.1.2.1 hd (hk ws H locs ls _ hc hs ⟨iR, iP, iD, iS, iL, _, _, rfl, rfl, iT⟩)
theorem xs_isub  (F : xm_F p R s m args meth c M d D dA b B0 L xs) (hd : decode (xm_by M) pc = .ok (.isub, len)) (ho : len = 1 ∧ ∃ (x : Int32) (y : Int32) (r : List Value), st = .int y :: .int x :: r ∧ xm_G p l e R s m args below meth c Qw D dA ad b B0 (xm_ml M) (pc + 1, lo, .int (x - y) :: r, h, cn, sn)) : xm_G p l e R s m args below meth c Qw D dA ad b B0 (xm_ml M) (pc, lo, st, h, cn, sn) := by
  obtain ⟨rfl, x, y, r, rfl, hk⟩ := ho
  intro ws H locs ls rst hc hs hI
  obtain ⟨iR, iP, iD, iS, iL, w1, r1, rfl, e1, w2, r2, rfl, e2, iT⟩ := hI
  have e1 : w1 = .int y := e1
  have e2 : w2 = .int x := e2
  subst e1; subst e2
  exact lv_isub F.1.1 F.1.2.1 hd (hk ws H locs ls _ hc hs ⟨iR, iP, iD, iS, iL, _, _, rfl, rfl, iT⟩)
theorem xs_imul  (F : xm_F p R s m args meth c M d D dA b B0 L xs) (hd : decode (xm_by M) pc = .ok (.imul, len)) (ho : len = 1 ∧ ∃ (x : Int32) (y : Int32) (r : List Value), st = .int y :: .int x :: r ∧ xm_G p l e R s m args below meth c Qw D dA ad b B0 (xm_ml M) (pc + 1, lo, .int (x * y) :: r, h, cn, sn)) : xm_G p l e R s m args below meth c Qw D dA ad b B0 (xm_ml M) (pc, lo, st, h, cn, sn) := by
  obtain ⟨rfl, x, y, r, rfl, hk⟩ := ho
  intro ws H locs ls rst hc hs hI
  obtain ⟨iR, iP, iD, iS, iL, w1, r1, rfl, e1, w2, r2, rfl, e2, iT⟩ := hI
  have e1 : w1 = .int y := e1
  have e2 : w2 = .int x := e2
  subst e1; subst e2
  exact lv_imul F.1.1 F.1.2.1 hd (hk ws H locs ls _ hc hs ⟨iR, iP, iD, iS, iL, _, _, rfl, rfl, iT⟩)
theorem xs_iand  (F : xm_F p R s m args meth c M d D dA b B0 L xs) (hd : decode (xm_by M) pc = .ok (.iand, len)) (ho : len = 1 ∧ ∃ (x : Int32) (y : Int32) (r : List Value), st = .int y :: .int x :: r ∧ xm_G p l e R s m args below meth c Qw D dA ad b B0 (xm_ml M) (pc + 1, lo, .int (x &&& y) :: r, h, cn, sn)) : xm_G p l e R s m args below meth c Qw D dA ad b B0 (xm_ml M) (pc, lo, st, h, cn, sn) := by
  obtain ⟨rfl, x, y, r, rfl, hk⟩ := ho
  intro ws H locs ls rst hc hs hI
  obtain ⟨iR, iP, iD, iS, iL, w1, r1, rfl, e1, w2, r2, rfl, e2, iT⟩ := hI
  have e1 : w1 = .int y := e1
  have e2 : w2 = .int x := e2
  subst e1; subst e2
  exact lv_iand F.1.1 F.1.2.1 hd (hk ws H locs ls _ hc hs ⟨iR, iP, iD, iS, iL, _, _, rfl, rfl, iT⟩)
theorem xs_ladd  (F : xm_F p R s m args meth c M d D dA b B0 L xs) (hd : decode (xm_by M) pc = .ok (.ladd, len)) (ho : len = 1 ∧ ∃ (x : Int64) (y : Int64) (r : List Value), st = .long y :: .long x :: r ∧ xm_G p l e R s m args below meth c Qw D dA ad b B0 (xm_ml M) (pc + 1, lo, .long (x + y) :: r, h, cn, sn)) : xm_G p l e R s m args below meth c Qw D dA ad b B0 (xm_ml M) (pc, lo, st, h, cn, sn) := by
  obtain ⟨rfl, x, y, r, rfl, hk⟩ := ho
  intro ws H locs ls rst hc hs hI
  obtain ⟨iR, iP, iD, iS, iL, w1, r1, rfl, e1, w2, r2, rfl, e2, iT⟩ := hI
  have e1 : w1 = .long y := e1
  have e2 : w2 = .long x := e2
  subst e1; subst e2
  exact lv_ladd F.1.1 F.1.2.1 hd (hk ws H locs ls _ hc hs ⟨iR, iP, iD, iS, iL, _, _, rfl, rfl, iT⟩)
theorem xs_lsub  (F : xm_F p R s m args meth c M d D dA b B0 L xs) (hd : decode (xm_by M) pc = .ok (.lsub, len)) (ho : len = 1 ∧ ∃ (x : Int64) (y : Int64) (r : List Value), st = .long y :: .long x :: r ∧ xm_G p l e R s m args below meth c Qw D dA ad b B0 (xm_ml M) (pc + 1, lo, .long (x - y) :: r, h, cn, sn)) : xm_G p l e R s m args below meth c Qw D dA ad b B0 (xm_ml M) (pc, lo, st, h, cn, sn) := by
  obtain ⟨rfl, x, y, r, rfl, hk⟩ := ho
  intro ws H locs ls rst hc hs hI
  obtain ⟨iR, iP, iD, iS, iL, w1, r1, rfl, e1, w2, r2, rfl, e2, iT⟩ := hI
  have e1 : w1 = .long y := e1
  have e2 : w2 = .long x := e2
  subst e1; subst e2
  exact lv_lsub F.1.1 F.1.2.1 hd (hk ws H locs ls _ hc hs ⟨iR, iP, iD, iS, iL, _, _, rfl, rfl, iT⟩)
theorem xs_land  (F : xm_F p R s m args meth c M d D dA b B0 L xs) (hd : decode (xm_by M) pc = .ok (.land, len)) (ho : len = 1 ∧ ∃ (x : Int64) (y : Int64) (r : List Value), st = .long y :: .long x :: r ∧ xm_G p l e R s m args below meth c Qw D dA ad b B0 (xm_ml M) (pc + 1, lo, .long (x &&& y) :: r, h, cn, sn)) : xm_G p l e R s m args below meth c Qw D dA ad b B0 (xm_ml M) (pc, lo, st, h, cn, sn) := by
  obtain ⟨rfl, x, y, r, rfl, hk⟩ := ho
  intro ws H locs ls rst hc hs hI
  obtain ⟨iR, iP, iD, iS, iL, w1, r1, rfl, e1, w2, r2, rfl, e2, iT⟩ := hI
  have e1 : w1 = .long y := e1
  have e2 : w2 = .long x := e2
  subst e1; subst e2
  exact lv_land F.1.1 F.1.2.1 hd (hk ws H locs ls _ hc hs ⟨iR, iP, iD, iS, iL, _, _, rfl, rfl, iT⟩)
theorem xs_lor  (F : xm_F p R s m args meth c M d D dA b B0 L xs) (hd : decode (xm_by M) pc = .ok (.lor, len)) (ho : len = 1 ∧ ∃ (x : Int64) (y : Int64) (r : List Value), st = .long y :: .long x :: r ∧ xm_G p l e R s m args below meth c Qw D dA ad b B0 (xm_ml M) (pc + 1, lo, .long (x ||| y) :: r, h, cn, sn)) : xm_G p l e R s m args below meth c Qw D dA ad b B0 (xm_ml M) (pc, lo, st, h, cn, sn) := by
  obtain ⟨rfl, x, y, r, rfl, hk⟩ := ho
  intro ws H locs ls rst hc hs hI
  obtain ⟨iR, iP, iD, iS, iL, w1, r1, rfl, e1, w2, r2, rfl, e2, iT⟩ := hI
  have e1 : w1 = .long y := e1
  have e2 : w2 = .long x := e2
  subst e1; subst e2
  exact lv_lor F.1.1 F.1.2.1 hd (hk ws H locs ls _ hc hs ⟨iR, iP, iD, iS, iL, _, _, rfl, rfl, iT⟩)
theorem xs_lxor  (F : xm_F p R s m args meth c M d D dA b B0 L xs) (hd : decode (xm_by M) pc = .ok (.lxor, len)) (ho : len = 1 ∧ ∃ (x : Int64) (y : Int64) (r : List Value), st = .long y :: .long x :: r ∧ xm_G p l e R s m args below meth c Qw D dA ad b B0 (xm_ml M) (pc + 1, lo, .long (x ^^^ y) :: r, h, cn, sn)) : xm_G p l e R s m args below meth c Qw D dA ad b B0 (xm_ml M) (pc, lo, st, h, cn, sn) := by
  obtain ⟨rfl, x, y, r, rfl, hk⟩ := ho
  intro ws H locs ls rst hc hs hI
  obtain ⟨iR, iP, iD, iS, iL, w1, r1, rfl, e1, w2, r2, rfl, e2, iT⟩ := hI
  have e1 : w1 = .long y := e1
  have e2 : w2 = .long x := e2
  subst e1; subst e2
  exact lv_lxor F.1.1 F.1.2.1 hd (hk ws H locs ls _ hc hs ⟨iR, iP, iD, iS, iL, _, _, rfl, rfl, iT⟩)
theorem xs_lshl  (F : xm_F p R s m args meth c M d D dA b B0 L xs) (hd : decode (xm_by M) pc = .ok (.lshl, len)) (ho : len = 1 ∧ ∃ (x : Int64) (y : Int32) (r : List Value), st = .int y :: .long x :: r ∧ xm_G p l e R s m args below meth c Qw D dA ad b B0 (xm_ml M) (pc + 1, lo, .long (x <<< (y.toInt64 &&& 63)) :: r, h, cn, sn)) : xm_G p l e R s m args below meth c Qw D dA ad b B0 (xm_ml M) (pc, lo, st, h, cn, sn) := by
  obtain ⟨rfl, x, y, r, rfl, hk⟩ := ho
  intro ws H locs ls rst hc hs hI
  obtain ⟨iR, iP, iD, iS, iL, w1, r1, rfl, e1, w2, r2, rfl, e2, iT⟩ := hI
  have e1 : w1 = .int y := e1
  have e2 : w2 = .long x := e2
  subst e1; subst e2
  exact lv_lshl F.1.1 F.1.2.1 hd rfl (hk ws H locs ls _ hc hs ⟨iR, iP, iD, iS, iL, _, _, rfl, rfl, iT⟩)
theorem xs_lshr  (F : xm_F p R s m args meth c M d D dA b B0 L xs) (hd : decode (xm_by M) pc = .ok (.lshr, len)) (ho : len = 1 ∧ ∃ (x : Int64) (y : Int32) (r : List Value), st = .int y :: .long x :: r ∧ xm_G p l e R s m args below meth c Qw D dA ad b B0 (xm_ml M) (pc + 1, lo, .long (x >>> (y.toInt64 &&& 63)) :: r, h, cn, sn)) : xm_G p l e R s m args below meth c Qw D dA ad b B0 (xm_ml M) (pc, lo, st, h, cn, sn) := by
  obtain ⟨rfl, x, y, r, rfl, hk⟩ := ho
  intro ws H locs ls rst hc hs hI
  obtain ⟨iR, iP, iD, iS, iL, w1, r1, rfl, e1, w2, r2, rfl, e2, iT⟩ := hI
  have e1 : w1 = .int y := e1
  have e2 : w2 = .long x := e2
  subst e1; subst e2
  exact lv_lshr F.1.1 F.1.2.1 hd rfl (hk ws H locs ls _ hc hs ⟨iR, iP, iD, iS, iL, _, _, rfl, rfl, iT⟩)
theorem xs_lushr  (F : xm_F p R s m args meth c M d D dA b B0 L xs) (hd : decode (xm_by M) pc = .ok (.lushr, len)) (ho : len = 1 ∧ ∃ (x : Int64) (y : Int32) (r : List Value), st = .int y :: .long x :: r ∧ xm_G p l e R s m args below meth c Qw D dA ad b B0 (xm_ml M) (pc + 1, lo, .long (x.toUInt64 >>> (y.toInt64.toUInt64 &&& Int64.toUInt64 63)).toInt64 :: r, h, cn, sn)) : xm_G p l e R s m args below meth c Qw D dA ad b B0 (xm_ml M) (pc, lo, st, h, cn, sn) := by
  obtain ⟨rfl, x, y, r, rfl, hk⟩ := ho
  intro ws H locs ls rst hc hs hI
  obtain ⟨iR, iP, iD, iS, iL, w1, r1, rfl, e1, w2, r2, rfl, e2, iT⟩ := hI
  have e1 : w1 = .int y := e1
  have e2 : w2 = .long x := e2
  subst e1; subst e2
  exact lv_lushr F.1.1 F.1.2.1 hd rfl (hk ws H locs ls _ hc hs ⟨iR, iP, iD, iS, iL, _, _, rfl, rfl, iT⟩)
theorem xs_lcmp  (F : xm_F p R s m args meth c M d D dA b B0 L xs) (hd : decode (xm_by M) pc = .ok (.lcmp, len)) (ho : len = 1 ∧ ∃ (x : Int64) (y : Int64) (r : List Value), st = .long y :: .long x :: r ∧ xm_G p l e R s m args below meth c Qw D dA ad b B0 (xm_ml M) (pc + 1, lo, .int (lg_cmp x y) :: r, h, cn, sn)) : xm_G p l e R s m args below meth c Qw D dA ad b B0 (xm_ml M) (pc, lo, st, h, cn, sn) := by
  obtain ⟨rfl, x, y, r, rfl, hk⟩ := ho
  intro ws H locs ls rst hc hs hI
  obtain ⟨iR, iP, iD, iS, iL, w1, r1, rfl, e1, w2, r2, rfl, e2, iT⟩ := hI
  have e1 : w1 = .long y := e1
  have e2 : w2 = .long x := e2
  subst e1; subst e2
  exact W.lcmp F.1.1 F.1.2.1 hd (hk ws H locs ls _ hc hs ⟨iR, iP, iD, iS, iL, _, _, rfl, rfl, iT⟩)
theorem xs_i2l  (F : xm_F p R s m args meth c M d D dA b B0 L xs) (hd : decode (xm_by M) pc = .ok (.i2l, len)) (ho : len = 1 ∧ ∃ (x : Int32) (r : List Value), st = .int x :: r ∧ xm_G p l e R s m args below meth c Qw D dA ad b B0 (xm_ml M) (pc + 1, lo, .long x.toInt64 :: r, h, cn, sn)) : xm_G p l e R s m args below meth c Qw D dA ad b B0 (xm_ml M) (pc, lo, st, h, cn, sn) := by
  obtain ⟨rfl, x, r, rfl, hk⟩ := ho
  intro ws H locs ls rst hc hs hI
  obtain ⟨iR, iP, iD, iS, iL, w1, r1, rfl, e1, iT⟩ := hI
  have e1 : w1 = .int x := e1
  subst e1
  exact lv_i2l F.1.1 F.1.2.1 hd rfl (hk ws H locs ls _ hc hs ⟨iR, iP, iD, iS, iL, _, _, rfl, rfl, iT⟩)
theorem xs_l2i  (F : xm_F p R s m args meth c M d D dA b B0 L xs) (hd : decode (xm_by M) pc = .ok (.l2i, len)) (ho : len = 1 ∧ ∃ (x : Int64) (r : List Value), st = .long x :: r ∧ xm_G p l e R s m args below meth c Qw D dA ad b B0 (xm_ml M) (pc + 1, lo, .int x.toInt32 :: r, h, cn, sn)) : xm_G p l e R s m args below meth c Qw D dA ad b B0 (xm_ml M) (pc, lo, st, h, cn, sn) := by
  obtain ⟨rfl, x, r, rfl, hk⟩ := ho
  intro ws H locs ls rst hc hs hI
  obtain ⟨iR, iP, iD, iS, iL, w1, r1, rfl, e1, iT⟩ := hI
  have e1 : w1 = .long x := e1
  subst e1
  exact lv_l2i F.1.1 F.1.2.1 hd rfl (hk ws H locs ls _ hc hs ⟨iR, iP, iD, iS, iL, _, _, rfl, rfl, iT⟩)
theorem xs_ifeq {off : Int} (F : xm_F p R s m args meth c M d D dA b B0 L xs) (hd : decode (xm_by M) pc = .ok (.ifCond .eq off, len)) (ho : len = 3 ∧ ∃ (t : Nat) (x : Int32) (r : List Value), (pc : Int) + off = (t : Int) ∧ st = .int x :: r ∧ (x = 0 → xm_G p l e R s m args below meth c Qw D dA ad b B0 (xm_ml M) (t, lo, r, h, cn, sn)) ∧ (¬ x = 0 → xm_G p l e R s m args below meth c Qw D dA ad b B0 (xm_ml M) (pc + 3, lo, r, h, cn, sn))) : xm_G p l e R s m args below meth c Qw D dA ad b B0 (xm_ml M) (pc, lo, st, h, cn, sn) := by
  obtain ⟨rfl, t, x, r, ht, rfl, hk, hk2⟩ := ho
  intro ws H locs ls rst hc hs hI
  obtain ⟨iR, iP, iD, iS, iL, w1, r1, rfl, e1, iT⟩ := hI
  have e1 : w1 = .int x := e1
  subst e1
  exact lv_if_eq F.1.1 F.1.2.1 hd ht (fun q => hk q ws H locs ls _ hc hs ⟨iR, iP, iD, iS, iL, iT⟩) (fun q => hk2 q ws H locs ls _ hc hs ⟨iR, iP, iD, iS, iL, iT⟩)
theorem xs_ifne {off : Int} (F : xm_F p R s m args meth c M d D dA b B0 L xs) (hd : decode (xm_by M) pc = .ok (.ifCond .ne off, len)) (ho : len = 3 ∧ ∃ (t : Nat) (x : Int32) (r : List Value), (pc : Int) + off = (t : Int) ∧ st = .int x :: r ∧ (¬ x = 0 → xm_G p l e R s m args below meth c Qw D dA ad b B0 (xm_ml M) (t, lo, r, h, cn, sn)) ∧ (x = 0 → xm_G p l e R s m args below meth c Qw D dA ad b B0 (xm_ml M) (pc + 3, lo, r, h, cn, sn))) : xm_G p l e R s m args below meth c Qw D dA ad b B0 (xm_ml M) (pc, lo, st, h, cn, sn) := by
  obtain ⟨rfl, t, x, r, ht, rfl, hk, hk2⟩ := ho
  intro ws H locs ls rst hc hs hI
  obtain ⟨iR, iP, iD, iS, iL, w1, r1, rfl, e1, iT⟩ := hI
  have e1 : w1 = .int x := e1
  subst e1
  exact lv_if_ne F.1.1 F.1.2.1 hd ht (fun q => hk q ws H locs ls _ hc hs ⟨iR, iP, iD, iS, iL, iT⟩) (fun q => hk2 q ws H locs ls _ hc hs ⟨iR, iP, iD, iS, iL, iT⟩)
theorem xs_iflt {off : Int} (F : xm_F p R s m args meth c M d D dA b B0 L xs) (hd : decode (xm_by M) pc = .ok (.ifCond .lt off, len)) (ho : len = 3 ∧ ∃ (t : Nat) (x : Int32) (r : List Value), (pc : Int) + off = (t : Int) ∧ st = .int x :: r ∧ (x < 0 → xm_G p l e R s m args below meth c Qw D dA ad b B0 (xm_ml M) (t, lo, r, h, cn, sn)) ∧ (¬ x < 0 → xm_G p l e R s m args below meth c Qw D dA ad b B0 (xm_ml M) (pc + 3, lo, r, h, cn, sn))) : xm_G p l e R s m args below meth c Qw D dA ad b B0 (xm_ml M) (pc, lo, st, h, cn, sn) := by
  obtain ⟨rfl, t, x, r, ht, rfl, hk, hk2⟩ := ho
  intro ws H locs ls rst hc hs hI
  obtain ⟨iR, iP, iD, iS, iL, w1, r1, rfl, e1, iT⟩ := hI
  have e1 : w1 = .int x := e1
  subst e1
  exact lv_if_lt F.1.1 F.1.2.1 hd ht (fun q => hk q ws H locs ls _ hc hs ⟨iR, iP, iD, iS, iL, iT⟩) (fun q => hk2 q ws H locs ls _ hc hs ⟨iR, iP, iD, iS, iL, iT⟩)
theorem xs_ifge {off : Int} (F : xm_F p R s m args meth c M d D dA b B0 L xs) (hd : decode (xm_by M) pc = .ok (.ifCond .ge off, len)) (ho : len = 3 ∧ ∃ (t : Nat) (x : Int32) (r : List Value), (pc : Int) + off = (t : Int) ∧ st = .int x :: r ∧ (0 ≤ x → xm_G p l e R s m args below meth c Qw D dA ad b B0 (xm_ml M) (t, lo, r, h, cn, sn)) ∧ (¬ 0 ≤ x → xm_G p l e R s m args below meth c Qw D dA ad b B0 (xm_ml M) (pc + 3, lo, r, h, cn, sn))) : xm_G p l e R s m args below meth c Qw D dA ad b B0 (xm_ml M) (pc, lo, st, h, cn, sn) := by
  obtain ⟨rfl, t, x, r, ht, rfl, hk, hk2⟩ := ho
  intro ws H locs ls rst hc hs hI
  obtain ⟨iR, iP, iD, iS, iL, w1, r1, rfl, e1, iT⟩ := hI
  have e1 : w1 = .int x := e1
  subst e1
  exact lv_if_ge F.1.1 F.1.2.1 hd ht (fun q => hk q ws H locs ls _ hc hs ⟨iR, iP, iD, iS, iL, iT⟩) (fun q => hk2 q ws H locs ls _ hc hs ⟨iR, iP, iD, iS, iL, iT⟩)
theorem xs_ifgt {off : Int} (F : xm_F p R s m args meth c M d D dA b B0 L xs) (hd : decode (xm_by M) pc = .ok (.ifCond .gt off, len)) (ho : len = 3 ∧ ∃ (t : Nat) (x : Int32) (r : List Value), (pc : Int) + off = (t : Int) ∧ st = .int x :: r ∧ (0 < x → xm_G p l e R s m args below meth c Qw D dA ad b B0 (xm_ml M) (t, lo, r, h, cn, sn)) ∧ (¬ 0 < x → xm_G p l e R s m args below meth c Qw D dA ad b B0 (xm_ml M) (pc + 3, lo, r, h, cn, sn))) : xm_G p l e R s m args below meth c Qw D dA ad b B0 (xm_ml M) (pc, lo, st, h, cn, sn) := by
  obtain ⟨rfl, t, x, r, ht, rfl, hk, hk2⟩ := ho
  intro ws H locs ls rst hc hs hI
  obtain ⟨iR, iP, iD, iS, iL, w1, r1, rfl, e1, iT⟩ := hI
  have e1 : w1 = .int x := e1
  subst e1
  exact lv_if_gt F.1.1 F.1.2.1 hd ht (fun q => hk q ws H locs ls _ hc hs ⟨iR, iP, iD, iS, iL, iT⟩) (fun q => hk2 q ws H locs ls _ hc hs ⟨iR, iP, iD, iS, iL, iT⟩)
theorem xs_ifle {off : Int} (F : xm_F p R s m args meth c M d D dA b B0 L xs) (hd : decode (xm_by M) pc = .ok (.ifCond .le off, len)) (ho : len = 3 ∧ ∃ (t : Nat) (x : Int32) (r : List Value), (pc : Int) + off = (t : Int) ∧ st = .int x :: r ∧ (x ≤ 0 → xm_G p l e R s m args below meth c Qw D dA ad b B0 (xm_ml M) (t, lo, r, h, cn, sn)) ∧ (¬ x ≤ 0 → xm_G p l e R s m args below meth c Qw D dA ad b B0 (xm_ml M) (pc + 3, lo, r, h, cn, sn))) : xm_G p l e R s m args below meth c Qw D dA ad b B0 (xm_ml M) (pc, lo, st, h, cn, sn) := by
  obtain ⟨rfl, t, x, r, ht, rfl, hk, hk2⟩ := ho
  intro ws H locs ls rst hc hs hI
  obtain ⟨iR, iP, iD, iS, iL, w1, r1, rfl, e1, iT⟩ := hI
  have e1 : w1 = .int x := e1
  subst e1
  exact lv_if_le F.1.1 F.1.2.1 hd ht (fun q => hk q ws H locs ls _ hc hs ⟨iR, iP, iD, iS, iL, iT⟩) (fun q => hk2 q ws H locs ls _ hc hs ⟨iR, iP, iD, iS, iL, iT⟩)
theorem xs_icmpeq {off : Int} (F : xm_F p R s m args meth c M d D dA b B0 L xs) (hd : decode (xm_by M) pc = .ok (.if_icmp .eq off, len)) (ho : len = 3 ∧ ∃ (t : Nat) (x y : Int32) (r : List Value), (pc : Int) + off = (t : Int) ∧ st = .int y :: .int x :: r ∧ (x = y → xm_G p l e R s m args below meth c Qw D dA ad b B0 (xm_ml M) (t, lo, r, h, cn, sn)) ∧ (¬ x = y → xm_G p l e R s m args below meth c Qw D dA ad b B0 (xm_ml M) (pc + 3, lo, r, h, cn, sn))) : xm_G p l e R s m args below meth c Qw D dA ad b B0 (xm_ml M) (pc, lo, st, h, cn, sn) := by
  obtain ⟨rfl, t, x, y, r, ht, rfl, hk, hk2⟩ := ho
  intro ws H locs ls rst hc hs hI
  obtain ⟨iR, iP, iD, iS, iL, w1, r1, rfl, e1, w2, r2, rfl, e2, iT⟩ := hI
  have e1 : w1 = .int y := e1
  have e2 : w2 = .int x := e2
  subst e1; subst e2
  exact lv_icmp_eq F.1.1 F.1.2.1 hd ht (fun q => hk q ws H locs ls _ hc hs ⟨iR, iP, iD, iS, iL, iT⟩) (fun q => hk2 q ws H locs ls _ hc hs ⟨iR, iP, iD, iS, iL, iT⟩)
theorem xs_icmpne {off : Int} (F : xm_F p R s m args meth c M d D dA b B0 L xs) (hd : decode (xm_by M) pc = .ok (.if_icmp .ne off, len)) (ho : len = 3 ∧ ∃ (t : Nat) (x y : Int32) (r : List Value), (pc : Int) + off = (t : Int) ∧ st = .int y :: .int x :: r ∧ (¬ x = y → xm_G p l e R s m args below meth c Qw D dA ad b B0 (xm_ml M) (t, lo, r, h, cn, sn)) ∧ (x = y → xm_G p l e R s m args below meth c Qw D dA ad b B0 (xm_ml M) (pc + 3, lo, r, h, cn, sn))) : xm_G p l e R s m args below meth c Qw D dA ad b B0 (xm_ml M) (pc, lo, st, h, cn, sn) := by
  obtain ⟨rfl, t, x, y, r, ht, rfl, hk, hk2⟩ := ho
  intro ws H locs ls rst hc hs hI
  obtain ⟨iR, iP, iD, iS, iL, w1, r1, rfl, e1, w2, r2, rfl, e2, iT⟩ := hI
  have e1 : w1 = .int y := e1
  have e2 : w2 = .int x := e2
  subst e1; subst e2
  exact lv_icmp_ne F.1.1 F.1.2.1 hd ht (fun q => hk q ws H locs ls _ hc hs ⟨iR, iP, iD, iS, iL, iT⟩) (fun q => hk2 q ws H locs ls _ hc hs ⟨iR, iP, iD, iS, iL, iT⟩)
theorem xs_icmplt {off : Int} (F : xm_F p R s m args meth c M d D dA b B0 L xs) (hd : decode (xm_by M) pc = .ok (.if_icmp .lt off, len)) (ho : len = 3 ∧ ∃ (t : Nat) (x y : Int32) (r : List Value), (pc : Int) + off = (t : Int) ∧ st = .int y :: .int x :: r ∧ (x < y → xm_G p l e R s m args below meth c Qw D dA ad b B0 (xm_ml M) (t, lo, r, h, cn, sn)) ∧ (¬ x < y → xm_G p l e R s m args below meth c Qw D dA ad b B0 (xm_ml M) (pc + 3, lo, r, h, cn, sn))) : xm_G p l e R s m args below meth c Qw D dA ad b B0 (xm_ml M) (pc, lo, st, h, cn, sn) := by
  obtain ⟨rfl, t, x, y, r, ht, rfl, hk, hk2⟩ := ho
  intro ws H locs ls rst hc hs hI
  obtain ⟨iR, iP, iD, iS, iL, w1, r1, rfl, e1, w2, r2, rfl, e2, iT⟩ := hI
  have e1 : w1 = .int y := e1
  have e2 : w2 = .int x := e2
  subst e1; subst e2
  exact lv_icmp_lt F.1.1 F.1.2.1 hd ht (fun q => hk q ws H locs ls _ hc hs ⟨iR, iP, iD, iS, iL, iT⟩) (fun q => hk2 q ws H locs ls _ hc hs ⟨iR, iP, iD, iS, iL, iT⟩)
theorem xs_icmpge {off : Int} (F : xm_F p R s m args meth c M d D dA b B0 L xs) (hd : decode (xm_by M) pc = .ok (.if_icmp .ge off, len)) (ho : len = 3 ∧ ∃ (t : Nat) (x y : Int32) (r : List Value), (pc : Int) + off = (t : Int) ∧ st = .int y :: .int x :: r ∧ (y ≤ x → xm_G p l e R s m args below meth c Qw D dA ad b B0 (xm_ml M) (t, lo, r, h, cn, sn)) ∧ (¬ y ≤ x → xm_G p l e R s m args below meth c Qw D dA ad b B0 (xm_ml M) (pc + 3, lo, r, h, cn, sn))) : xm_G p l e R s m args below meth c Qw D dA ad b B0 (xm_ml M) (pc, lo, st, h, cn, sn) := by
  obtain ⟨rfl, t, x, y, r, ht, rfl, hk, hk2⟩ := ho
  intro ws H locs ls rst hc hs hI
  obtain ⟨iR, iP, iD, iS, iL, w1, r1, rfl, e1, w2, r2, rfl, e2, iT⟩ := hI
  have e1 : w1 = .int y := e1
  have e2 : w2 = .int x := e2
  subst e1; subst e2
  exact lv_icmp_ge F.1.1 F.1.2.1 hd ht (fun q => hk q ws H locs ls _ hc hs ⟨iR, iP, iD, iS, iL, iT⟩) (fun q => hk2 q ws H locs ls _ hc hs ⟨iR, iP, iD, iS, iL, iT⟩)
theorem xs_icmpgt {off : Int} (F : xm_F p R s m args meth c M d D dA b B0 L xs) (hd : decode (xm_by M) pc = .ok (.if_icmp .gt off, len)) (ho : len = 3 ∧ ∃ (t : Nat) (x y : Int32) (r : List Value), (pc : Int) + off = (t : Int) ∧ st = .int y :: .int x :: r ∧ (y < x → xm_G p l e R s m args below meth c Qw D dA ad b B0 (xm_ml M) (t, lo, r, h, cn, sn)) ∧ (¬ y < x → xm_G p l e R s m args below meth c Qw D dA ad b B0 (xm_ml M) (pc + 3, lo, r, h, cn, sn))) : xm_G p l e R s m args below meth c Qw D dA ad b B0 (xm_ml M) (pc, lo, st, h, cn, sn) := by
  obtain ⟨rfl, t, x, y, r, ht, rfl, hk, hk2⟩ := ho
  intro ws H locs ls rst hc hs hI
  obtain ⟨iR, iP, iD, iS, iL, w1, r1, rfl, e1, w2, r2, rfl, e2, iT⟩ := hI
  have e1 : w1 = .int y := e1
  have e2 : w2 = .int x := e2
  subst e1; subst e2
  exact lv_icmp_gt F.1.1 F.1.2.1 hd ht (fun q => hk q ws H locs ls _ hc hs ⟨iR, iP, iD, iS, iL, iT⟩) (fun q => hk2 q ws H locs ls _ hc hs ⟨iR, iP, iD, iS, iL, iT⟩)
theorem xs_icmple {off : Int} (F : xm_F p R s m args meth c M d D dA b B0 L xs) (hd : decode (xm_by M) pc = .ok (.if_icmp .le off, len)) (ho : len = 3 ∧ ∃ (t : Nat) (x y : Int32) (r : List Value), (pc : Int) + off = (t : Int) ∧ st = .int y :: .int x :: r ∧ (x ≤ y → xm_G p l e R s m args below meth c Qw D dA ad b B0 (xm_ml M) (t, lo, r, h, cn, sn)) ∧ (¬ x ≤ y → xm_G p l e R s m args below meth c Qw D dA ad b B0 (xm_ml M) (pc + 3, lo, r, h, cn, sn))) : xm_G p l e R s m args below meth c Qw D dA ad b B0 (xm_ml M) (pc, lo, st, h, cn, sn) := by
  obtain ⟨rfl, t, x, y, r, ht, rfl, hk, hk2⟩ := ho
  intro ws H locs ls rst hc hs hI
  obtain ⟨iR, iP, iD, iS, iL, w1, r1, rfl, e1, w2, r2, rfl, e2, iT⟩ := hI
  have e1 : w1 = .int y := e1
  have e2 : w2 = .int x := e2
  subst e1; subst e2
  exact lv_icmp_le F.1.1 F.1.2.1 hd ht (fun q => hk q ws H locs ls _ hc hs ⟨iR, iP, iD, iS, iL, iT⟩) (fun q => hk2 q ws H locs ls _ hc hs ⟨iR, iP, iD, iS, iL, iT⟩)
theorem xs_goto {off : Int} (F : xm_F p R s m args meth c M d D dA b B0 L xs) (hd : decode (xm_by M) pc = .ok (.goto off, len)) (ho : len = 3 ∧ ∃ t : Nat, (pc : Int) + off = (t : Int) ∧ xm_G p l e R s m args below meth c Qw D dA ad b B0 (xm_ml M) (t, lo, st, h, cn, sn)) : xm_G p l e R s m args below meth c Qw D dA ad b B0 (xm_ml M) (pc, lo, st, h, cn, sn) := by
  obtain ⟨rfl, t, ht, hk⟩ := ho
  intro ws H locs ls rst hc hs hI
  exact lv_goto F.1.1 F.1.2.1 hd ht (hk ws H locs ls _ hc hs hI)
theorem xs_tableswitch {d0 l0 h0 : Int} {offs : Array Int} (F : xm_F p R s m args meth c M d D dA b B0 L xs) (hd : decode (xm_by M) pc = .ok (.tableswitch d0 l0 h0 offs, len)) (ho : ∃ (x : Int32) (r : List Value), st = .int x :: r ∧ ∃ tg : Nat, (((x.toInt < l0 ∨ h0 < x.toInt) ∧ (pc : Int) + d0 = (tg : Int)) ∨ (¬ x.toInt < l0 ∧ ¬ h0 < x.toInt ∧ ∃ off, offs[(x.toInt - l0).toNat]? = some off ∧ (pc : Int) + off = (tg : Int))) ∧ xm_G p l e R s m args below meth c Qw D dA ad b B0 (xm_ml M) (tg, lo, r, h, cn, sn)) : xm_G p l e R s m args below meth c Qw D dA ad b B0 (xm_ml M) (pc, lo, st, h, cn, sn) := by
  obtain ⟨x, r, rfl, tg, ht, hk⟩ := ho
  intro ws H locs ls rst hc hs hI
  obtain ⟨iR, iP, iD, iS, iL, w1, r1, rfl, e1, iT⟩ := hI
  have e1 : w1 = .int x := e1
  subst e1
  have hw := hk ws H locs ls _ hc hs ⟨iR, iP, iD, iS, iL, iT⟩
  rcases ht with ⟨h1, h2⟩ | ⟨h1, h2, off, h3, h4⟩
  · exact lv_tableOut F.1.1 F.1.2.1 hd h1 h2 hw
  · exact lv_tableIn F.1.1 F.1.2.1 hd h1 h2 h3 h4 hw
theorem xs_iconst {n : Int} (F : xm_F p R s m args meth c M d D dA b B0 L xs) (hd : decode (xm_by M) pc = .ok (.iconst n, len)) (ho : len = 1 ∧ xm_G p l e R s m args below meth c Qw D dA ad b B0 (xm_ml M) (pc + 1, lo, .int (Int32.ofInt n) :: st, h, cn, sn)) : xm_G p l e R s m args below meth c Qw D dA ad b B0 (xm_ml M) (pc, lo, st, h, cn, sn) := by
  obtain ⟨rfl, hk⟩ := ho
  intro ws H locs ls rst hc hs hI
  obtain ⟨iR, iP, iD, iS, iL, iT⟩ := hI
  exact lv_iconst F.1.1 F.1.2.1 hd rfl (hk ws H locs ls _ hc hs ⟨iR, iP, iD, iS, iL, _, _, rfl, rfl, iT⟩)
theorem xs_bipush {n : Int} (F : xm_F p R s m args meth c M d D dA b B0 L xs) (hd : decode (xm_by M) pc = .ok (.bipush n, len)) (ho : len = 2 ∧ xm_G p l e R s m args below meth c Qw D dA ad b B0 (xm_ml M) (pc + 2, lo, .int ((Int8.ofInt n).toInt32) :: st, h, cn, sn)) : xm_G p l e R s m args below meth c Qw D dA ad b B0 (xm_ml M) (pc, lo, st, h, cn, sn) := by
  obtain ⟨rfl, hk⟩ := ho
  intro ws H locs ls rst hc hs hI
  obtain ⟨iR, iP, iD, iS, iL, iT⟩ := hI
  exact lv_bipush F.1.1 F.1.2.1 hd rfl (hk ws H locs ls _ hc hs ⟨iR, iP, iD, iS, iL, _, _, rfl, rfl, iT⟩)
theorem xs_sipush {n : Int} (F : xm_F p R s m args meth c M d D dA b B0 L xs) (hd : decode (xm_by M) pc = .ok (.sipush n, len)) (ho : len = 3 ∧ xm_G p l e R s m args below meth c Qw D dA ad b B0 (xm_ml M) (pc + 3, lo, .int ((Int16.ofInt n).toInt32) :: st, h, cn, sn)) : xm_G p l e R s m args below meth c Qw D dA ad b B0 (xm_ml M) (pc, lo, st, h, cn, sn) := by
  obtain ⟨rfl, hk⟩ := ho
  intro ws H locs ls rst hc hs hI
  obtain ⟨iR, iP, iD, iS, iL, iT⟩ := hI
  exact lv_sipush F.1.1 F.1.2.1 hd rfl (hk ws H locs ls _ hc hs ⟨iR, iP, iD, iS, iL, _, _, rfl, rfl, iT⟩)
theorem xs_lconst {n : Fin 2} (F : xm_F p R s m args meth c M d D dA b B0 L xs) (hd : decode (xm_by M) pc = .ok (.lconst n, len)) (ho : len = 1 ∧ xm_G p l e R s m args below meth c Qw D dA ad b B0 (xm_ml M) (pc + 1, lo, .long (Int64.ofNat (n : Nat)) :: st, h, cn, sn)) : xm_G p l e R s m args below meth c Qw D dA ad b B0 (xm_ml M) (pc, lo, st, h, cn, sn) := by
  obtain ⟨rfl, hk⟩ := ho
  intro ws H locs ls rst hc hs hI
  obtain ⟨iR, iP, iD, iS, iL, iT⟩ := hI
  exact lv_lconst F.1.1 F.1.2.1 hd rfl (hk ws H locs ls _ hc hs ⟨iR, iP, iD, iS, iL, _, _, rfl, rfl, iT⟩)
theorem xs_ldc2_w {k : Nat} (F : xm_F p R s m args meth c M d D dA b B0 L xs) (hd : decode (xm_by M) pc = .ok (.ldc2_w k, len)) (ho : len = 3 ∧ ∃ x : Int64, Cond.constantLong (xm_y M).cls k x ∈ tb_all ∧ xm_G p l e R s m args below meth c Qw D dA ad b B0 (xm_ml M) (pc + 3, lo, .long x :: st, h, cn, sn)) : xm_G p l e R s m args below meth c Qw D dA ad b B0 (xm_ml M) (pc, lo, st, h, cn, sn) := by
  obtain ⟨rfl, x, hx, hk⟩ := ho
  intro ws H locs ls rst hc hs hI
  obtain ⟨iR, iP, iD, iS, iL, iT⟩ := hI
  exact lv_ldc2 F.1.1 F.1.2.1 F.1.2.2.2.1 (F.1.2.2.2.2 _ hx) hd (hk ws H locs ls _ hc hs ⟨iR, iP, iD, iS, iL, _, _, rfl, rfl, iT⟩)
theorem xs_iload_n {n : Fin 4} (F : xm_F p R s m args meth c M d D dA b B0 L xs) (hd : decode (xm_by M) pc = .ok (.iload_n n, len)) (ho : len = 1 ∧ ∃ x, lo[(n : Nat)]? = some (.int x) ∧ xm_G p l e R s m args below meth c Qw D dA ad b B0 (xm_ml M) (pc + 1, lo, .int x :: st, h, cn, sn)) : xm_G p l e R s m args below meth c Qw D dA ad b B0 (xm_ml M) (pc, lo, st, h, cn, sn) := by
  obtain ⟨rfl, x, hx, hk⟩ := ho
  intro ws H locs ls rst hc hs hI
  obtain ⟨iR, iP, iD, iS, iL, iT⟩ := hI
  obtain ⟨w, e1, e2⟩ := iL.2.2.2 _ _ ⟨hx, trivial⟩
  have e1 : w = .int x := e1
  subst e1
  exact lv_iload_n F.1.1 F.1.2.1 hd rfl e2 (hk ws H locs ls _ hc hs ⟨iR, iP, iD, iS, iL, _, _, rfl, rfl, iT⟩)
theorem xs_iload {n : Nat} (F : xm_F p R s m args meth c M d D dA b B0 L xs) (hd : decode (xm_by M) pc = .ok (.iload n, len)) (ho : len = 2 ∧ ∃ x, lo[n]? = some (.int x) ∧ xm_G p l e R s m args below meth c Qw D dA ad b B0 (xm_ml M) (pc + 2, lo, .int x :: st, h, cn, sn)) : xm_G p l e R s m args below meth c Qw D dA ad b B0 (xm_ml M) (pc, lo, st, h, cn, sn) := by
  obtain ⟨rfl, x, hx, hk⟩ := ho
  intro ws H locs ls rst hc hs hI
  obtain ⟨iR, iP, iD, iS, iL, iT⟩ := hI
  obtain ⟨w, e1, e2⟩ := iL.2.2.2 _ _ ⟨hx, trivial⟩
  have e1 : w = .int x := e1
  subst e1
  exact lv_iload F.1.1 F.1.2.1 hd e2 (hk ws H locs ls _ hc hs ⟨iR, iP, iD, iS, iL, _, _, rfl, rfl, iT⟩)
theorem xs_lload_n {n : Fin 4} (F : xm_F p R s m args meth c M d D dA b B0 L xs) (hd : decode (xm_by M) pc = .ok (.lload_n n, len)) (ho : len = 1 ∧ ∃ x z, lo[(n : Nat)]? = some (.long x) ∧ lo[(n : Nat) + 1]? = some (.float z) ∧ xm_G p l e R s m args below meth c Qw D dA ad b B0 (xm_ml M) (pc + 1, lo, .long x :: st, h, cn, sn)) : xm_G p l e R s m args below meth c Qw D dA ad b B0 (xm_ml M) (pc, lo, st, h, cn, sn) := by
  obtain ⟨rfl, x, z, hx, hz, hk⟩ := ho
  intro ws H locs ls rst hc hs hI
  obtain ⟨iR, iP, iD, iS, iL, iT⟩ := hI
  obtain ⟨w, e1, e2⟩ := iL.2.2.2 _ _ ⟨hx, z, hz⟩
  have e1 : w = .long x := e1
  subst e1
  exact lv_lload_n F.1.1 F.1.2.1 hd rfl e2 (hk ws H locs ls _ hc hs ⟨iR, iP, iD, iS, iL, _, _, rfl, rfl, iT⟩)
theorem xs_lload {n : Nat} (F : xm_F p R s m args meth c M d D dA b B0 L xs) (hd : decode (xm_by M) pc = .ok (.lload n, len)) (ho : len = 2 ∧ ∃ x z, lo[n]? = some (.long x) ∧ lo[n + 1]? = some (.float z) ∧ xm_G p l e R s m args below meth c Qw D dA ad b B0 (xm_ml M) (pc + 2, lo, .long x :: st, h, cn, sn)) : xm_G p l e R s m args below meth c Qw D dA ad b B0 (xm_ml M) (pc, lo, st, h, cn, sn) := by
  obtain ⟨rfl, x, z, hx, hz, hk⟩ := ho
  intro ws H locs ls rst hc hs hI
  obtain ⟨iR, iP, iD, iS, iL, iT⟩ := hI
  obtain ⟨w, e1, e2⟩ := iL.2.2.2 _ _ ⟨hx, z, hz⟩
  have e1 : w = .long x := e1
  subst e1
  exact lv_lload F.1.1 F.1.2.1 hd e2 (hk ws H locs ls _ hc hs ⟨iR, iP, iD, iS, iL, _, _, rfl, rfl, iT⟩)
theorem xs_istore_n {n : Fin 4} (F : xm_F p R s m args meth c M d D dA b B0 L xs) (hd : decode (xm_by M) pc = .ok (.istore_n n, len)) (ho : len = 1 ∧ ∃ x r, st = .int x :: r ∧ (n : Nat) < lo.length ∧ xm_G p l e R s m args below meth c Qw D dA ad b B0 (xm_ml M) (pc + 1, lo.set (n : Nat) (.int x), r, h, cn, sn)) : xm_G p l e R s m args below meth c Qw D dA ad b B0 (xm_ml M) (pc, lo, st, h, cn, sn) := by
  obtain ⟨rfl, x, r, rfl, hn, hk⟩ := ho
  intro ws H locs ls rst hc hs hI
  obtain ⟨iR, iP, iD, iS, iL, w1, r1, rfl, e1, iT⟩ := hI
  have e1 : w1 = .int x := e1
  subst e1
  exact lv_istore_n F.1.1 F.1.2.1 hd rfl (xm_all_has iL) (by rw [← iL.2.2.1]; exact hn) rfl (fun ls' hl => hk ws H locs ls' _ hc hs ⟨iR, iP, iD, iS, xm_l_set1 iL hn rfl rfl hl, iT⟩)
theorem xs_istore {n : Nat} (F : xm_F p R s m args meth c M d D dA b B0 L xs) (hd : decode (xm_by M) pc = .ok (.istore n, len)) (ho : len = 2 ∧ ∃ x r, st = .int x :: r ∧ n < lo.length ∧ xm_G p l e R s m args below meth c Qw D dA ad b B0 (xm_ml M) (pc + 2, lo.set n (.int x), r, h, cn, sn)) : xm_G p l e R s m args below meth c Qw D dA ad b B0 (xm_ml M) (pc, lo, st, h, cn, sn) := by
  obtain ⟨rfl, x, r, rfl, hn, hk⟩ := ho
  intro ws H locs ls rst hc hs hI
  obtain ⟨iR, iP, iD, iS, iL, w1, r1, rfl, e1, iT⟩ := hI
  have e1 : w1 = .int x := e1
  subst e1
  exact lv_istore F.1.1 F.1.2.1 hd (xm_all_has iL) (by rw [← iL.2.2.1]; exact hn) rfl (fun ls' hl => hk ws H locs ls' _ hc hs ⟨iR, iP, iD, iS, xm_l_set1 iL hn rfl rfl hl, iT⟩)
theorem xs_lstore_n {n : Fin 4} (F : xm_F p R s m args meth c M d D dA b B0 L xs) (hd : decode (xm_by M) pc = .ok (.lstore_n n, len)) (ho : len = 1 ∧ ∃ x r, st = .long x :: r ∧ (n : Nat) + 1 < lo.length ∧ xm_G p l e R s m args below meth c Qw D dA ad b B0 (xm_ml M) (pc + 1, (lo.set (n : Nat) (.long x)).set ((n : Nat) + 1) (.float 0), r, h, cn, sn)) : xm_G p l e R s m args below meth c Qw D dA ad b B0 (xm_ml M) (pc, lo, st, h, cn, sn) := by
  obtain ⟨rfl, x, r, rfl, hn, hk⟩ := ho
  intro ws H locs ls rst hc hs hI
  obtain ⟨iR, iP, iD, iS, iL, w1, r1, rfl, e1, iT⟩ := hI
  have e1 : w1 = .long x := e1
  subst e1
  exact lv_lstore_n F.1.1 F.1.2.1 hd rfl (xm_all_has iL) (by rw [← iL.2.2.1]; exact hn) rfl (fun ls' hl => hk ws H locs ls' _ hc hs ⟨iR, iP, iD, iS, xm_l_set2 iL hn hl, iT⟩)
theorem xs_lstore {n : Nat} (F : xm_F p R s m args meth c M d D dA b B0 L xs) (hd : decode (xm_by M) pc = .ok (.lstore n, len)) (ho : len = 2 ∧ ∃ x r, st = .long x :: r ∧ n + 1 < lo.length ∧ xm_G p l e R s m args below meth c Qw D dA ad b B0 (xm_ml M) (pc + 2, (lo.set n (.long x)).set (n + 1) (.float 0), r, h, cn, sn)) : xm_G p l e R s m args below meth c Qw D dA ad b B0 (xm_ml M) (pc, lo, st, h, cn, sn) := by
  obtain ⟨rfl, x, r, rfl, hn, hk⟩ := ho
  intro ws H locs ls rst hc hs hI
  obtain ⟨iR, iP, iD, iS, iL, w1, r1, rfl, e1, iT⟩ := hI
  have e1 : w1 = .long x := e1
  subst e1
  exact lv_lstore F.1.1 F.1.2.1 hd (xm_all_has iL) (by rw [← iL.2.2.1]; exact hn) rfl (fun ls' hl => hk ws H locs ls' _ hc hs ⟨iR, iP, iD, iS, xm_l_set2 iL hn hl, iT⟩)
theorem xs_astore_n {n : Fin 4} (F : xm_F p R s m args meth c M d D dA b B0 L xs) (hd : decode (xm_by M) pc = .ok (.astore_n n, len)) (ho : len = 1 ∧ ∃ k r, st = .ref k :: r ∧ (n : Nat) < lo.length ∧ xm_G p l e R s m args below meth c Qw D dA ad b B0 (xm_ml M) (pc + 1, lo.set (n : Nat) (.ref k), r, h, cn, sn)) : xm_G p l e R s m args below meth c Qw D dA ad b B0 (xm_ml M) (pc, lo, st, h, cn, sn) := by
  obtain ⟨rfl, k, r, rfl, hn, hk⟩ := ho
  intro ws H locs ls rst hc hs hI
  obtain ⟨iR, iP, iD, iS, iL, w1, r1, rfl, e1, iT⟩ := hI
  obtain ⟨a, e3, rfl⟩ : ∃ a, (xm_ad ws)[k]? = some a ∧ w1 = .ref a := e1
  exact lv_astore_n F.1.1 F.1.2.1 hd rfl (xm_all_has iL) (by rw [← iL.2.2.1]; exact hn) rfl (fun ls' hl => hk ws H locs ls' _ hc hs ⟨iR, iP, iD, iS, xm_l_set1 iL hn (v := .ref k) ⟨a, e3, rfl⟩ rfl hl, iT⟩)
theorem xs_astore {n : Nat} (F : xm_F p R s m args meth c M d D dA b B0 L xs) (hd : decode (xm_by M) pc = .ok (.astore n, len)) (ho : len = 2 ∧ ∃ k r, st = .ref k :: r ∧ n < lo.length ∧ xm_G p l e R s m args below meth c Qw D dA ad b B0 (xm_ml M) (pc + 2, lo.set n (.ref k), r, h, cn, sn)) : xm_G p l e R s m args below meth c Qw D dA ad b B0 (xm_ml M) (pc, lo, st, h, cn, sn) := by
  obtain ⟨rfl, k, r, rfl, hn, hk⟩ := ho
  intro ws H locs ls rst hc hs hI
  obtain ⟨iR, iP, iD, iS, iL, w1, r1, rfl, e1, iT⟩ := hI
  obtain ⟨a, e3, rfl⟩ : ∃ a, (xm_ad ws)[k]? = some a ∧ w1 = .ref a := e1
  exact lv_astore F.1.1 F.1.2.1 hd (xm_all_has iL) (by rw [← iL.2.2.1]; exact hn) rfl (fun ls' hl => hk ws H locs ls' _ hc hs ⟨iR, iP, iD, iS, xm_l_set1 iL hn (v := .ref k) ⟨a, e3, rfl⟩ rfl hl, iT⟩)
theorem xs_aload_n {n : Fin 4} (F : xm_F p R s m args meth c M d D dA b B0 L xs) (hd : decode (xm_by M) pc = .ok (.aload_n n, len)) (ho : len = 1 ∧ ∃ v, lo[(n : Nat)]? = some v ∧ xm_isr v ∧ xm_G p l e R s m args below meth c Qw D dA ad b B0 (xm_ml M) (pc + 1, lo, v :: st, h, cn, sn)) : xm_G p l e R s m args below meth c Qw D dA ad b B0 (xm_ml M) (pc, lo, st, h, cn, sn) := by
  obtain ⟨rfl, v, hx, hv, hk⟩ := ho
  intro ws H locs ls rst hc hs hI
  obtain ⟨iR, iP, iD, iS, iL, iT⟩ := hI
  rcases hv with ⟨k, rfl⟩ | rfl
  · obtain ⟨w, e1, e2⟩ := iL.2.2.2 _ _ ⟨hx, trivial⟩
    obtain ⟨a, e3, rfl⟩ : ∃ a, (xm_ad ws)[k]? = some a ∧ w = .ref a := e1
    exact lv_aload_n F.1.1 F.1.2.1 hd rfl e2 (hk ws H locs ls _ hc hs ⟨iR, iP, iD, iS, iL, _, _, rfl, ⟨a, e3, rfl⟩, iT⟩)
  · obtain ⟨w, e1, e2⟩ := iL.2.2.2 _ _ ⟨hx, trivial⟩
    have e1 : w = .ref b := e1
    subst e1
    exact lv_aload_n F.1.1 F.1.2.1 hd rfl e2 (hk ws H locs ls _ hc hs ⟨iR, iP, iD, iS, iL, _, _, rfl, rfl, iT⟩)
theorem xs_aload {n : Nat} (F : xm_F p R s m args meth c M d D dA b B0 L xs) (hd : decode (xm_by M) pc = .ok (.aload n, len)) (ho : len = 2 ∧ ∃ v, lo[n]? = some v ∧ xm_isr v ∧ xm_G p l e R s m args below meth c Qw D dA ad b B0 (xm_ml M) (pc + 2, lo, v :: st, h, cn, sn)) : xm_G p l e R s m args below meth c Qw D dA ad b B0 (xm_ml M) (pc, lo, st, h, cn, sn) := by
  obtain ⟨rfl, v, hx, hv, hk⟩ := ho
  intro ws H locs ls rst hc hs hI
  obtain ⟨iR, iP, iD, iS, iL, iT⟩ := hI
  rcases hv with ⟨k, rfl⟩ | rfl
  · obtain ⟨w, e1, e2⟩ := iL.2.2.2 _ _ ⟨hx, trivial⟩
    obtain ⟨a, e3, rfl⟩ : ∃ a, (xm_ad ws)[k]? = some a ∧ w = .ref a := e1
    exact lv_aload F.1.1 F.1.2.1 hd e2 (hk ws H locs ls _ hc hs ⟨iR, iP, iD, iS, iL, _, _, rfl, ⟨a, e3, rfl⟩, iT⟩)
  · obtain ⟨w, e1, e2⟩ := iL.2.2.2 _ _ ⟨hx, trivial⟩
    have e1 : w = .ref b := e1
    subst e1
    exact lv_aload F.1.1 F.1.2.1 hd e2 (hk ws H locs ls _ hc hs ⟨iR, iP, iD, iS, iL, _, _, rfl, rfl, iT⟩)
theorem xs_iinc {n : Nat} {k : Int} (F : xm_F p R s m args meth c M d D dA b B0 L xs) (hd : decode (xm_by M) pc = .ok (.iinc n k, len)) (ho : len = 3 ∧ ∃ x, lo[n]? = some (.int x) ∧ xm_G p l e R s m args below meth c Qw D dA ad b B0 (xm_ml M) (pc + 3, lo.set n (.int (x + Int32.ofInt k)), st, h, cn, sn)) : xm_G p l e R s m args below meth c Qw D dA ad b B0 (xm_ml M) (pc, lo, st, h, cn, sn) := by
  obtain ⟨rfl, x, hx, hk⟩ := ho
  intro ws H locs ls rst hc hs hI
  obtain ⟨iR, iP, iD, iS, iL, iT⟩ := hI
  obtain ⟨w, e1, e2⟩ := iL.2.2.2 _ _ ⟨hx, trivial⟩
  have e1 : w = .int x := e1
  subst e1
  obtain ⟨q, hq⟩ := List.getElem?_of_mem (xm_all_mem.mpr e2)
  have hn : n < lo.length := (List.getElem?_eq_some_iff.mp hx).1
  exact lv_iinc F.1.1 F.1.2.1 hd (xm_all_has iL) hq rfl (by rw [← iL.2.2.1]; exact hn) rfl (fun ls' hl => hk ws H locs ls' _ hc hs ⟨iR, iP, iD, iS, xm_l_set1 iL hn rfl rfl hl, iT⟩)
theorem xs_dup  (F : xm_F p R s m args meth c M d D dA b B0 L xs) (hd : decode (xm_by M) pc = .ok (.dup, len)) (ho : len = 1 ∧ ∃ v r, st = v :: r ∧ v.category = 1 ∧ xm_G p l e R s m args below meth c Qw D dA ad b B0 (xm_ml M) (pc + 1, lo, v :: v :: r, h, cn, sn)) : xm_G p l e R s m args below meth c Qw D dA ad b B0 (xm_ml M) (pc, lo, st, h, cn, sn) := by
  obtain ⟨rfl, v, r, rfl, hv, hk⟩ := ho
  intro ws H locs ls rst hc hs hI
  obtain ⟨iR, iP, iD, iS, iL, w1, r1, rfl, e1, iT⟩ := hI
  exact lv_dup F.1.1 F.1.2.1 hd (by rw [xm_v_cat e1]; exact hv) (hk ws H locs ls _ hc hs ⟨iR, iP, iD, iS, iL, _, _, rfl, e1, _, _, rfl, e1, iT⟩)
theorem xs_pop  (F : xm_F p R s m args meth c M d D dA b B0 L xs) (hd : decode (xm_by M) pc = .ok (.pop, len)) (ho : len = 1 ∧ ∃ v r, st = v :: r ∧ v.category = 1 ∧ xm_G p l e R s m args below meth c Qw D dA ad b B0 (xm_ml M) (pc + 1, lo, r, h, cn, sn)) : xm_G p l e R s m args below meth c Qw D dA ad b B0 (xm_ml M) (pc, lo, st, h, cn, sn) := by
  obtain ⟨rfl, v, r, rfl, hv, hk⟩ := ho
  intro ws H locs ls rst hc hs hI
  obtain ⟨iR, iP, iD, iS, iL, w1, r1, rfl, e1, iT⟩ := hI
  exact lv_pop F.1.1 F.1.2.1 hd (by rw [xm_v_cat e1]; exact hv) (hk ws H locs ls _ hc hs ⟨iR, iP, iD, iS, iL, iT⟩)
theorem xs_arraylength  (F : xm_F p R s m args meth c M d D dA b B0 L xs) (hd : decode (xm_by M) pc = .ok (.arraylength, len)) (ho : len = 1 ∧ ∃ r, st = .retAddr 0 :: r ∧ xm_G p l e R s m args below meth c Qw D dA ad b B0 (xm_ml M) (pc + 1, lo, .int (Int32.ofNat L) :: r, h, cn, sn)) : xm_G p l e R s m args below meth c Qw D dA ad b B0 (xm_ml M) (pc, lo, st, h, cn, sn) := by
  obtain ⟨rfl, r, rfl, hk⟩ := ho
  intro ws H locs ls rst hc hs hI
  obtain ⟨iR, iP, iD, iS, iL, w1, r1, rfl, e1, iT⟩ := hI
  have e1 : w1 = .ref b := e1
  subst e1
  have E := F.2.1
  exact va_slen F.1.1 F.1.2.1 E.2.1 (Nat.lt_of_lt_of_le E.2.2.1 E.2.2.2.1) (fun q => absurd q (Nat.not_le_of_lt E.2.2.1)) iS hd (hk ws H locs ls _ hc hs ⟨iR, iP, iD, iS, iL, _, _, rfl, rfl, iT⟩)
theorem xs_iaload  (F : xm_F p R s m args meth c M d D dA b B0 L xs) (hd : decode (xm_by M) pc = .ok (.iaload, len)) (ho : len = 1 ∧ ((∃ i r, st = .int i :: .retAddr 0 :: r ∧ vp_in i L ∧ xm_G p l e R s m args below meth c Qw D dA ad b B0 (xm_ml M) (pc + 1, lo, .int (xs i.toNatClampNeg) :: r, h, cn, sn)) ∨ ∃ i a r n f, st = .int i :: .ref a :: r ∧ h[a]? = some (.inl (.int, n, .inl f)) ∧ vp_in i n ∧ xm_G p l e R s m args below meth c Qw D dA ad b B0 (xm_ml M) (pc + 1, lo, .int (f i.toNatClampNeg) :: r, h, cn, sn))) : xm_G p l e R s m args below meth c Qw D dA ad b B0 (xm_ml M) (pc, lo, st, h, cn, sn) := by
  obtain ⟨rfl, ho⟩ := ho
  have E := F.2.1
  rcases ho with ⟨i, r, rfl, hin, hk⟩ | ⟨i, a, r, n, f, rfl, ha, hin, hk⟩
  · intro ws H locs ls rst hc hs hI
    obtain ⟨iR, iP, iD, iS, iL, w1, r1, rfl, e1, w2, r2, rfl, e2, iT⟩ := hI
    have e1 : w1 = .int i := e1
    have e2 : w2 = .ref b := e2
    subst e1; subst e2
    exact va_sld F.1.1 F.1.2.1 E.2.1 (Nat.lt_of_lt_of_le E.2.2.1 E.2.2.2.1) (fun q => absurd q (Nat.not_le_of_lt E.2.2.1)) iS hin hd (hk ws H locs ls _ hc hs ⟨iR, iP, iD, iS, iL, _, _, rfl, rfl, iT⟩)
  · intro ws H locs ls rst hc hs hI
    obtain ⟨iR, iP, iD, iS, iL, w1, r1, rfl, e1, w2, r2, rfl, e2, iT⟩ := hI
    have e1 : w1 = .int i := e1
    subst e1
    obtain ⟨q, e3, rfl⟩ : ∃ q, (xm_ad ws)[a]? = some q ∧ w2 = .ref q := e2
    obtain ⟨q2, ec, f1, f2, f3⟩ := xm_R_get iR ha
    have f3 : ec = .inl (dA .int, n, .inl f) := f3
    subst f3
    obtain rfl : q = q2 := Option.some.inj (e3.symm.trans f2)
    exact va_iald F.1.1 F.1.2.1 E.1 iP a 0 f1 rfl hin hd (hk ws H locs ls _ hc hs ⟨iR, iP, iD, iS, iL, _, _, rfl, rfl, iT⟩)
theorem xs_laload  (F : xm_F p R s m args meth c M d D dA b B0 L xs) (hd : decode (xm_by M) pc = .ok (.laload, len)) (ho : len = 1 ∧ ∃ i a r n f, st = .int i :: .ref a :: r ∧ h[a]? = some (.inl (.long, n, .inr (.inl f))) ∧ vp_in i n ∧ xm_G p l e R s m args below meth c Qw D dA ad b B0 (xm_ml M) (pc + 1, lo, .long (f i.toNatClampNeg) :: r, h, cn, sn)) : xm_G p l e R s m args below meth c Qw D dA ad b B0 (xm_ml M) (pc, lo, st, h, cn, sn) := by
  obtain ⟨rfl, i, a, r, n, f, rfl, ha, hin, hk⟩ := ho
  intro ws H locs ls rst hc hs hI
  obtain ⟨iR, iP, iD, iS, iL, w1, r1, rfl, e1, w2, r2, rfl, e2, iT⟩ := hI
  have e1 : w1 = .int i := e1
  subst e1
  obtain ⟨q, e3, rfl⟩ : ∃ q, (xm_ad ws)[a]? = some q ∧ w2 = .ref q := e2
  obtain ⟨q2, ec, f1, f2, f3⟩ := xm_R_get iR ha
  have f3 : ec = .inl (dA .long, n, .inr (.inl f)) := f3
  subst f3
  obtain rfl : q = q2 := Option.some.inj (e3.symm.trans f2)
  exact va_lald F.1.1 F.1.2.1 F.2.1.1 iP a 1 f1 rfl hin hd (hk ws H locs ls _ hc hs ⟨iR, iP, iD, iS, iL, _, _, rfl, rfl, iT⟩)
theorem xs_aaload  (F : xm_F p R s m args meth c M d D dA b B0 L xs) (hd : decode (xm_by M) pc = .ok (.aaload, len)) (ho : len = 1 ∧ ∃ i a r ty n f q, st = .int i :: .ref a :: r ∧ h[a]? = some (.inl (ty, n, .inr (.inr (.inr (.inr f))))) ∧ (ty = .array .int ∨ ty = .object tb_rc) ∧ vp_in i n ∧ f i.toNatClampNeg = some q ∧ xm_G p l e R s m args below meth c Qw D dA ad b B0 (xm_ml M) (pc + 1, lo, .ref q :: r, h, cn, sn)) : xm_G p l e R s m args below meth c Qw D dA ad b B0 (xm_ml M) (pc, lo, st, h, cn, sn) := by
  obtain ⟨rfl, i, a, r, ty, n, f, q0, rfl, ha, hty, hin, hq, hk⟩ := ho
  intro ws H locs ls rst hc hs hI
  obtain ⟨iR, iP, iD, iS, iL, w1, r1, rfl, e1, w2, r2, rfl, e2, iT⟩ := hI
  have e1 : w1 = .int i := e1
  subst e1
  obtain ⟨q, e3, rfl⟩ : ∃ q, (xm_ad ws)[a]? = some q ∧ w2 = .ref q := e2
  obtain ⟨q2, ec, f1, f2, f3⟩ := xm_R_get iR ha
  obtain ⟨g, rfl, hg⟩ : ∃ g, ec = .inl (dA ty, n, .inr (.inr (.inr (.inr g)))) ∧ ∀ j, j < n → xm_o (xm_ad ws) (f j) (g j) := f3
  obtain rfl : q = q2 := Option.some.inj (e3.symm.trans f2)
  have hlt : i.toNatClampNeg < n := Nat.not_le.mp fun q => hin (Or.inr q)
  have hgi := hg _ hlt
  rw [hq] at hgi
  obtain ⟨z, hz1, hz2⟩ : ∃ z, (xm_ad ws)[q0]? = some z ∧ g i.toNatClampNeg = some z := hgi
  have hAr : ArrOfT s (dA ty) ty ∧ ty.isReference = true := by
    rcases hty with rfl | rfl
    · exact ⟨(F.2.1.1.2 2 (dA (.array .int), .array .int) rfl).1, rfl⟩
    · exact ⟨(F.2.1.1.2 3 (dA (.object tb_rc), .object tb_rc) rfl).1, rfl⟩
  exact W.aald (v := .ref z) (ty := ty) F.1.1 F.1.2.1 (iP a _ f1) (hAr.1 n (fun j => va_rf (g j))) hAr.2 (fun q => by cases q) (by show ¬ (i < 0 ∨ (arrV _ _ _).slots.size ≤ _); rw [arrV_size]; exact hin) (by show (arrV _ _ _).slots[_]? = _; rw [arrV_read _ _ hlt, hz2]; rfl) rfl rfl hd (hk ws H locs ls _ hc hs ⟨iR, iP, iD, iS, iL, _, _, rfl, ⟨z, hz1, rfl⟩, iT⟩)
theorem xs_iastore  (F : xm_F p R s m args meth c M d D dA b B0 L xs) (hd : decode (xm_by M) pc = .ok (.iastore, len)) (ho : len = 1 ∧ ∃ x i a r n f, st = .int x :: .int i :: .ref a :: r ∧ h[a]? = some (.inl (.int, n, .inl f)) ∧ vp_in i n ∧ xm_G p l e R s m args below meth c Qw D dA ad b B0 (xm_ml M) (pc + 1, lo, r, h.set a (.inl (.int, n, .inl (upd f i.toNatClampNeg x))), cn, sn)) : xm_G p l e R s m args below meth c Qw D dA ad b B0 (xm_ml M) (pc, lo, st, h, cn, sn) := by
  obtain ⟨rfl, x, i, a, r, n, f, rfl, ha, hin, hk⟩ := ho
  intro ws H locs ls rst hc hs hI
  obtain ⟨iR, iP, iD, iS, iL, w0, r0, rfl, e0, w1, r1, rfl, e1, w2, r2, rfl, e2, iT⟩ := hI
  have e0 : w0 = .int x := e0
  have e1 : w1 = .int i := e1
  subst e0; subst e1
  obtain ⟨q, e3, rfl⟩ : ∃ q, (xm_ad ws)[a]? = some q ∧ w2 = .ref q := e2
  obtain ⟨q2, ec, f1, f2, f3⟩ := xm_R_get iR ha
  have f3 : ec = .inl (dA .int, n, .inl f) := f3
  subst f3
  obtain rfl : q = q2 := Option.some.inj (e3.symm.trans f2)
  have had := xm_ad_set (e := .inl (dA .int, n, .inl (upd f i.toNatClampNeg x))) f1
  exact va_iast F.1.1 F.1.2.1 F.2.1.1 iP iD iS a 0 f1 rfl hin hd (fun H1 locs1 hP1 hD1 hS1 => hk _ H1 locs1 ls _ hc hs ⟨xm_R_set iR f1 rfl, hP1, hD1, hS1, by show xm_l (xm_ad _) b _ lo ls; rw [had]; exact iL, by show xm_st (xm_ad _) b r _; rw [had]; exact iT⟩)
theorem xs_lastore  (F : xm_F p R s m args meth c M d D dA b B0 L xs) (hd : decode (xm_by M) pc = .ok (.lastore, len)) (ho : len = 1 ∧ ∃ x i a r n f, st = .long x :: .int i :: .ref a :: r ∧ h[a]? = some (.inl (.long, n, .inr (.inl f))) ∧ vp_in i n ∧ xm_G p l e R s m args below meth c Qw D dA ad b B0 (xm_ml M) (pc + 1, lo, r, h.set a (.inl (.long, n, .inr (.inl (vp_updL f i.toNatClampNeg x)))), cn, sn)) : xm_G p l e R s m args below meth c Qw D dA ad b B0 (xm_ml M) (pc, lo, st, h, cn, sn) := by
  obtain ⟨rfl, x, i, a, r, n, f, rfl, ha, hin, hk⟩ := ho
  intro ws H locs ls rst hc hs hI
  obtain ⟨iR, iP, iD, iS, iL, w0, r0, rfl, e0, w1, r1, rfl, e1, w2, r2, rfl, e2, iT⟩ := hI
  have e0 : w0 = .long x := e0
  have e1 : w1 = .int i := e1
  subst e0; subst e1
  obtain ⟨q, e3, rfl⟩ : ∃ q, (xm_ad ws)[a]? = some q ∧ w2 = .ref q := e2
  obtain ⟨q2, ec, f1, f2, f3⟩ := xm_R_get iR ha
  have f3 : ec = .inl (dA .long, n, .inr (.inl f)) := f3
  subst f3
  obtain rfl : q = q2 := Option.some.inj (e3.symm.trans f2)
  have had := xm_ad_set (e := .inl (dA .long, n, .inr (.inl (vp_updL f i.toNatClampNeg x)))) f1
  exact va_last F.1.1 F.1.2.1 F.2.1.1 iP iD iS a 1 f1 rfl hin hd (fun H1 locs1 hP1 hD1 hS1 => hk _ H1 locs1 ls _ hc hs ⟨xm_R_set iR f1 rfl, hP1, hD1, hS1, by show xm_l (xm_ad _) b _ lo ls; rw [had]; exact iL, by show xm_st (xm_ad _) b r _; rw [had]; exact iT⟩)
theorem xs_aastore  (F : xm_F p R s m args meth c M d D dA b B0 L xs) (hd : decode (xm_by M) pc = .ok (.aastore, len)) (ho : len = 1 ∧ ∃ v i a r ci fs n f, st = .ref v :: .int i :: .ref a :: r ∧ h[a]? = some (.inl (.object tb_rc, n, .inr (.inr (.inr (.inr f))))) ∧ (∃ q, vwCl[ci]? = some q ∧ q.1 = tb_rc) ∧ h[v]? = some (.inr (ci, fs)) ∧ vp_in i n ∧ xm_G p l e R s m args below meth c Qw D dA ad b B0 (xm_ml M) (pc + 1, lo, r, h.set a (.inl (.object tb_rc, n, .inr (.inr (.inr (.inr (va_up f i.toNatClampNeg (some v))))))), cn, sn)) : xm_G p l e R s m args below meth c Qw D dA ad b B0 (xm_ml M) (pc, lo, st, h, cn, sn) := by
  obtain ⟨rfl, v, i, a, r, ci, fs, n, f, rfl, ha, ⟨cq, hcq, hcn⟩, hv, hin, hk⟩ := ho
  intro ws H locs ls rst hc hs hI
  obtain ⟨iR, iP, iD, iS, iL, w0, r0, rfl, e0, w1, r1, rfl, e1, w2, r2, rfl, e2, iT⟩ := hI
  have e1 : w1 = .int i := e1
  subst e1
  obtain ⟨q, e3, rfl⟩ : ∃ q, (xm_ad ws)[a]? = some q ∧ w2 = .ref q := e2
  obtain ⟨qv, e4, rfl⟩ : ∃ q, (xm_ad ws)[v]? = some q ∧ w0 = .ref q := e0
  obtain ⟨q2, ec, f1, f2, f3⟩ := xm_R_get iR ha
  obtain ⟨g, rfl, hg⟩ : ∃ g, ec = .inl (dA (.object tb_rc), n, .inr (.inr (.inr (.inr g)))) ∧ ∀ j, j < n → xm_o (xm_ad ws) (f j) (g j) := f3
  obtain rfl : q = q2 := Option.some.inj (e3.symm.trans f2)
  obtain ⟨q3, ev, f4, f5, f6⟩ := xm_R_get iR hv
  obtain ⟨gs, rfl, hgs⟩ : ∃ gs, ev = .inr (ci, gs) ∧ xm_st (xm_ad ws) b fs gs := f6
  obtain rfl : qv = q3 := Option.some.inj (e4.symm.trans f5)
  have had := xm_ad_set (e := .inl (dA (.object tb_rc), n, .inr (.inr (.inr (.inr (va_up g i.toNatClampNeg (some qv))))))) f1
  have hcc : xm_c (xm_ad ws) b dA (.inl (.object tb_rc, n, .inr (.inr (.inr (.inr (va_up f i.toNatClampNeg (some v))))))) (.inl (dA (.object tb_rc), n, .inr (.inr (.inr (.inr (va_up g i.toNatClampNeg (some qv))))))) := by
    refine ⟨_, rfl, fun j hj => ?_⟩
    unfold va_up
    split
    · exact ⟨qv, e4, rfl⟩
    · exact hg j hj
  exact va_astq F.1.1 F.1.2.1 F.2.1.1 iP iD iS a 3 v ci f1 (by rw [hcn]; rfl) f4 hcq hin hd (fun H1 locs1 hP1 hD1 hS1 => hk _ H1 locs1 ls _ hc hs ⟨xm_R_set iR f1 hcc, hP1, hD1, hS1, by show xm_l (xm_ad _) b _ lo ls; rw [had]; exact iL, by show xm_st (xm_ad _) b r _; rw [had]; exact iT⟩)
theorem xs_getfield {k : Nat} (F : xm_F p R s m args meth c M d D dA b B0 L xs) (hd : decode (xm_by M) pc = .ok (.getfield k, len)) (ho : len = 3 ∧ ∃ a r ci j fs v C T N ty, xm_cl ci C T N ty ∧ j < N ∧ xm_fk (xm_y M).cls k (T j) ∧ st = .ref a :: r ∧ h[a]? = some (.inr (ci, fs)) ∧ fs[j]? = some v ∧ xm_G p l e R s m args below meth c Qw D dA ad b B0 (xm_ml M) (pc + 3, lo, v :: r, h, cn, sn)) : xm_G p l e R s m args below meth c Qw D dA ad b B0 (xm_ml M) (pc, lo, st, h, cn, sn) := by
  obtain ⟨rfl, a, r, ci, j, fs, v, C, T, N, ty, hcl, hj, hfk, rfl, ha, hv, hk⟩ := ho
  intro ws H locs ls rst hc hs hI
  obtain ⟨iR, iP, iD, iS, iL, w1, r1, rfl, e1, iT⟩ := hI
  obtain ⟨q, e3, rfl⟩ : ∃ q, (xm_ad ws)[a]? = some q ∧ w1 = .ref q := e1
  obtain ⟨q2, ec, f1, f2, f3⟩ := xm_R_get iR ha
  obtain ⟨gs, rfl, hgs⟩ : ∃ gs, ec = .inr (ci, gs) ∧ xm_st (xm_ad ws) b fs gs := f3
  obtain rfl : q = q2 := Option.some.inj (e3.symm.trans f2)
  obtain ⟨u, hu, hvu⟩ := xm_st_get hgs hv
  have hw := hk ws H locs ls _ hc hs ⟨iR, iP, iD, iS, iL, _, _, rfl, hvu, iT⟩
  rcases hfk with hf | ⟨host, hf⟩
  · exact va_get F.1.1 F.1.2.1 F.1.2.2.2.2 hcl.2.1 F.1.2.2.2.1 F.2.1.1 iP a f1 hcl.1 j hj (F.1.2.2.2.2 _ hf) (fun _ h9 => h9) hu hd hw
  · exact va_getN F.1.1 F.1.2.1 F.1.2.2.2.2 hcl.2.1 F.1.2.2.2.1 F.2.1.1 iP a f1 hcl.1 j hj (va_Nw.use rfl (F.2.1.2.2.2.2.1 _ hf)) (fun _ h9 => h9) hu hd hw
theorem xs_putfield {k : Nat} (F : xm_F p R s m args meth c M d D dA b B0 L xs) (hd : decode (xm_by M) pc = .ok (.putfield k, len)) (ho : len = 3 ∧ ∃ v a r ci j fs C T N ty, xm_cl ci C T N ty ∧ j < N ∧ xm_fk (xm_y M).cls k (T j) ∧ ((T j).2.2.2 = false ∨ ((T j).2.2.2 = true ∧ (T j).1 = (xm_y M).cls ∧ (xm_y M).name = "<init>" ∧ Cond.fieldLink (xm_y M).cls k (T j).1 (T j).2.1 (T j).2.2.1 ∈ tb_all)) ∧ st = v :: .ref a :: r ∧ h[a]? = some (.inr (ci, fs)) ∧ j < fs.length ∧ narrow (ty j) v = v ∧ fits (ty j) v = true ∧ xm_G p l e R s m args below meth c Qw D dA ad b B0 (xm_ml M) (pc + 3, lo, r, h.set a (.inr (ci, fs.set j v)), cn, sn)) : xm_G p l e R s m args below meth c Qw D dA ad b B0 (xm_ml M) (pc, lo, st, h, cn, sn) := by
  obtain ⟨rfl, v, a, r, ci, j, fs, C, T, N, ty, hcl, hj, hfk, hfin, rfl, ha, hjl, hn, hfit, hk⟩ := ho
  intro ws H locs ls rst hc hs hI
  obtain ⟨iR, iP, iD, iS, iL, w0, r0, rfl, e0, w1, r1, rfl, e1, iT⟩ := hI
  obtain ⟨q, e3, rfl⟩ : ∃ q, (xm_ad ws)[a]? = some q ∧ w1 = .ref q := e1
  obtain ⟨q2, ec, f1, f2, f3⟩ := xm_R_get iR ha
  obtain ⟨gs, rfl, hgs⟩ : ∃ gs, ec = .inr (ci, gs) ∧ xm_st (xm_ad ws) b fs gs := f3
  obtain rfl : q = q2 := Option.some.inj (e3.symm.trans f2)
  have had := xm_ad_set (e := .inr (ci, gs.set j w0)) f1
  have hgl : j < gs.length := by rw [xm_st_len hgs]; exact hjl
  have hcc : xm_c (xm_ad ws) b dA (.inr (ci, fs.set j v)) (.inr (ci, gs.set j w0)) := ⟨_, rfl, xm_st_set hgs e0⟩
  have hw : ∀ (H1 : Heap) (locs1 : List Loc), va_P D vwCl (ws.set a (q, .inr (ci, gs.set j w0))) H1 → va_D (xm_A B0) (ws.set a (q, .inr (ci, gs.set j w0))) → va_S (xm_A B0) s.heap H1 locs1 → W p l e R s m args below meth c H1 locs1 cn sn Qw (F0 m (pc + 3) ls r1) := fun H1 locs1 hP1 hD1 hS1 => hk _ H1 locs1 ls _ hc hs ⟨xm_R_set iR f1 hcc, hP1, hD1, hS1, by show xm_l (xm_ad _) b _ lo ls; rw [had]; exact iL, by show xm_st (xm_ad _) b r _; rw [had]; exact iT⟩
  have hn2 := xm_v_narrow e0 hn
  have hf2 := xm_v_fits e0 hfit
  rcases hfin with hfin | ⟨hfin, hown, hnm, hlk⟩
  · rcases hfk with hf | ⟨host, hf⟩
    · exact va_put F.1.1 F.1.2.1 F.1.2.2.2.2 hcl.2.1 ty hcl.2.2.1 hcl.2.2.2 F.1.2.2.2.1 F.2.1.1 iP iD iS a f1 hcl.1 j hj (F.1.2.2.2.2 _ hf) (fun _ h9 => h9) hfin (hcl.2.2.1 j hj) hn2 hf2 hgl hd hw
    · exact va_putN F.1.1 F.1.2.1 F.1.2.2.2.2 hcl.2.1 ty hcl.2.2.1 hcl.2.2.2 F.1.2.2.2.1 F.2.1.1 iP iD iS a f1 hcl.1 j hj (va_Nw.use rfl (F.2.1.2.2.2.2.1 _ hf)) (fun _ h9 => h9) hfin (hcl.2.2.1 j hj) hn2 hf2 hgl hd hw
  · exact va_putF F.1.1 F.1.2.1 F.1.2.2.2.2 hcl.2.1 ty hcl.2.2.1 hcl.2.2.2 F.1.2.2.2.1 F.2.1.1 iP iD iS a f1 hcl.1 j hj (F.1.2.2.2.2 _ hlk) (fun _ h9 => h9) hfin (F.2.2.2.2.trans hnm) hown (hcl.2.2.1 j hj) hn2 hf2 hgl hd hw
theorem xs_newarray_int  (F : xm_F p R s m args meth c M d D dA b B0 L xs) (hd : decode (xm_by M) pc = .ok (.newarray .int, len)) (ho : len = 2 ∧ ∃ n r, st = .int n :: r ∧ ¬ n < 0 ∧ n.toNatClampNeg ≤ 65536 ∧ cn + 1 ≤ xm_mc M ∧ sn + n.toNatClampNeg ≤ xm_ms M ∧ Cond.arrayClass .int ∈ tb_all ∧ xm_G p l e R s m args below meth c Qw D dA ad b B0 (xm_ml M) (pc + 2, lo, .ref h.length :: r, h ++ [.inl (.int, n.toNatClampNeg, .inl (fun _ => 0))], cn + 1, sn + n.toNatClampNeg)) : xm_G p l e R s m args below meth c Qw D dA ad b B0 (xm_ml M) (pc, lo, st, h, cn, sn) := by
  obtain ⟨rfl, n, r, rfl, hn, hb, hcl, hsl, hw, hk⟩ := ho
  intro ws H locs ls rst hc hs hI
  obtain ⟨iR, iP, iD, iS, iL, w1, r1, rfl, e1, iT⟩ := hI
  have e1 : w1 = .int n := e1
  subst e1
  have E := F.2.1
  refine va_newa (atype := .int) (ty := .int) (N' := n.toNatClampNeg) (a0 := (n.toNatClampNeg, .inl (fun _ => 0))) F.1.1 F.1.2.1 (F.1.2.2.2.2 _ hw) rfl E.1 iP iD iS (fun q hq => Nat.le_trans E.2.2.2.1 hq) (fun cA => rfl) hn rfl (by show _ * _ ≤ _; simp only [componentBytes]; omega) (by rw [F.2.2.1.1]; exact hcl) (by rw [F.2.2.1.2]; exact hsl) hd (fun q cA H1 hK1 hP1 hD1 hS1 => ?_)
  have hA : cA = dA .int := by
    have h1 := (hK1.2 4 (cA, .int) rfl).2
    have h2 := (E.1.2 0 (dA .int, .int) rfl).2
    exact Option.some.inj (h1.symm.trans h2)
  subst hA
  exact hk _ H1 locs ls _ (by show _ ≤ R.cells; rw [F.2.2.1.1]; exact hcl) (by show _ ≤ R.slots; rw [F.2.2.1.2]; exact hsl) ⟨xm_R_push iR (rfl), hP1, hD1, hS1, by show xm_l (xm_ad _) b _ lo ls; rw [xm_ad_push]; exact xm_l_mono _ iL, _, _, rfl, ⟨q, by show (xm_ad _)[h.length]? = some q; rw [xm_ad_push, ← iR.1]; exact xm_ad_new ws q, rfl⟩, by show xm_st (xm_ad _) b r _; rw [xm_ad_push]; exact xm_st_mono _ iT⟩
theorem xs_newarray_long  (F : xm_F p R s m args meth c M d D dA b B0 L xs) (hd : decode (xm_by M) pc = .ok (.newarray .long, len)) (ho : len = 2 ∧ ∃ n r, st = .int n :: r ∧ ¬ n < 0 ∧ n.toNatClampNeg ≤ 65536 ∧ cn + 1 ≤ xm_mc M ∧ sn + n.toNatClampNeg ≤ xm_ms M ∧ Cond.arrayClass .long ∈ tb_all ∧ xm_G p l e R s m args below meth c Qw D dA ad b B0 (xm_ml M) (pc + 2, lo, .ref h.length :: r, h ++ [.inl (.long, n.toNatClampNeg, .inr (.inl (fun _ => 0)))], cn + 1, sn + n.toNatClampNeg)) : xm_G p l e R s m args below meth c Qw D dA ad b B0 (xm_ml M) (pc, lo, st, h, cn, sn) := by
  obtain ⟨rfl, n, r, rfl, hn, hb, hcl, hsl, hw, hk⟩ := ho
  intro ws H locs ls rst hc hs hI
  obtain ⟨iR, iP, iD, iS, iL, w1, r1, rfl, e1, iT⟩ := hI
  have e1 : w1 = .int n := e1
  subst e1
  have E := F.2.1
  refine va_newa (atype := .long) (ty := .long) (N' := n.toNatClampNeg) (a0 := (n.toNatClampNeg, .inr (.inl (fun _ => 0)))) F.1.1 F.1.2.1 (F.1.2.2.2.2 _ hw) rfl E.1 iP iD iS (fun q hq => Nat.le_trans E.2.2.2.1 hq) (fun cA => rfl) hn rfl (by show _ * _ ≤ _; simp only [componentBytes]; omega) (by rw [F.2.2.1.1]; exact hcl) (by rw [F.2.2.1.2]; exact hsl) hd (fun q cA H1 hK1 hP1 hD1 hS1 => ?_)
  have hA : cA = dA .long := by
    have h1 := (hK1.2 4 (cA, .long) rfl).2
    have h2 := (E.1.2 1 (dA .long, .long) rfl).2
    exact Option.some.inj (h1.symm.trans h2)
  subst hA
  exact hk _ H1 locs ls _ (by show _ ≤ R.cells; rw [F.2.2.1.1]; exact hcl) (by show _ ≤ R.slots; rw [F.2.2.1.2]; exact hsl) ⟨xm_R_push iR (rfl), hP1, hD1, hS1, by show xm_l (xm_ad _) b _ lo ls; rw [xm_ad_push]; exact xm_l_mono _ iL, _, _, rfl, ⟨q, by show (xm_ad _)[h.length]? = some q; rw [xm_ad_push, ← iR.1]; exact xm_ad_new ws q, rfl⟩, by show xm_st (xm_ad _) b r _; rw [xm_ad_push]; exact xm_st_mono _ iT⟩
theorem xs_anewarray {k : Nat} (F : xm_F p R s m args meth c M d D dA b B0 L xs) (hd : decode (xm_by M) pc = .ok (.anewarray k, len)) (ho : len = 3 ∧ ∃ n r, Cond.classLink (xm_y M).cls k tb_rc ∈ tb_all ∧ st = .int n :: r ∧ ¬ n < 0 ∧ n.toNatClampNeg ≤ 65536 ∧ cn + 1 ≤ xm_mc M ∧ sn + n.toNatClampNeg ≤ xm_ms M ∧ xm_G p l e R s m args below meth c Qw D dA ad b B0 (xm_ml M) (pc + 3, lo, .ref h.length :: r, h ++ [.inl (.object tb_rc, n.toNatClampNeg, .inr (.inr (.inr (.inr (fun _ => none)))))], cn + 1, sn + n.toNatClampNeg)) : xm_G p l e R s m args below meth c Qw D dA ad b B0 (xm_ml M) (pc, lo, st, h, cn, sn) := by
  obtain ⟨rfl, n, r, hw, rfl, hn, hb, hcl, hsl, hk⟩ := ho
  intro ws H locs ls rst hc hs hI
  obtain ⟨iR, iP, iD, iS, iL, w1, r1, rfl, e1, iT⟩ := hI
  have e1 : w1 = .int n := e1
  subst e1
  have E := F.2.1
  refine va_newq (C := tb_rc) (N' := n.toNatClampNeg) F.1.1 F.1.2.1 F.1.2.2.2.1 (F.1.2.2.2.2 _ hw) E.2.2.2.2.2.1 E.1 iP iD iS (fun q hq => Nat.le_trans E.2.2.2.1 hq) hn rfl (by omega) (by rw [F.2.2.1.1]; exact hcl) (by rw [F.2.2.1.2]; exact hsl) hd (fun q cA H1 hK1 hP1 hD1 hS1 => ?_)
  have hA : cA = dA (.object tb_rc) := by
    obtain ⟨_, _, -, -, -, h1⟩ := (hK1.2 4 (cA, .object tb_rc) rfl).2
    obtain ⟨_, _, -, -, -, h2⟩ := (E.1.2 3 (dA (.object tb_rc), .object tb_rc) rfl).2
    exact Option.some.inj (h1.symm.trans h2)
  subst hA
  exact hk _ H1 locs ls _ (by show _ ≤ R.cells; rw [F.2.2.1.1]; exact hcl) (by show _ ≤ R.slots; rw [F.2.2.1.2]; exact hsl) ⟨xm_R_push iR (⟨_, rfl, fun _ _ => rfl⟩), hP1, hD1, hS1, by show xm_l (xm_ad _) b _ lo ls; rw [xm_ad_push]; exact xm_l_mono _ iL, _, _, rfl, ⟨q, by show (xm_ad _)[h.length]? = some q; rw [xm_ad_push, ← iR.1]; exact xm_ad_new ws q, rfl⟩, by show xm_st (xm_ad _) b r _; rw [xm_ad_push]; exact xm_st_mono _ iT⟩
theorem xs_new {k : Nat} (F : xm_F p R s m args meth c M d D dA b B0 L xs) (hd : decode (xm_by M) pc = .ok (.new k, len)) (ho : len = 3 ∧ ∃ ci C T N ty fs, xm_cl ci C T N ty ∧ Cond.classLink (xm_y M).cls k C ∈ tb_all ∧ Cond.instantiable C N ∈ tb_all ∧ Cond.initialized C ∈ tb_all ∧ (∀ j, j < N → defaultValue (ty j) = vp_V fs j) ∧ fs.all xm_plain = true ∧ cn + 1 ≤ xm_mc M ∧ sn + N ≤ xm_ms M ∧ xm_G p l e R s m args below meth c Qw D dA ad b B0 (xm_ml M) (pc + 3, lo, .ref h.length :: st, h ++ [.inr (ci, fs)], cn + 1, sn + N)) : xm_G p l e R s m args below meth c Qw D dA ad b B0 (xm_ml M) (pc, lo, st, h, cn, sn) := by
  obtain ⟨rfl, ci, C, T, N, ty, fs, hcl, hw1, hw2, hw3, hdf, hpl, hcl1, hsl, hk⟩ := ho
  intro ws H locs ls rst hc hs hI
  obtain ⟨iR, iP, iD, iS, iL, iT⟩ := hI
  have E := F.2.1
  refine va_new (ci := ci) (fs := fs) F.1.1 F.1.2.1 F.1.2.2.2.2 hcl.2.1 ty hcl.2.2.1 F.1.2.2.2.1 (F.1.2.2.2.2 _ hw1) (F.1.2.2.2.2 _ hw2) (F.1.2.2.2.2 _ hw3) E.1 iP iD iS (fun q hq => Nat.le_trans E.2.2.2.1 hq) hcl.1 hdf (by rw [F.2.2.1.1]; exact hcl1) (by rw [F.2.2.1.2]; exact hsl) hd (fun q H1 hP1 hD1 hS1 => ?_)
  exact hk _ H1 locs ls _ (by show _ ≤ R.cells; rw [F.2.2.1.1]; exact hcl1) (by show _ ≤ R.slots; rw [F.2.2.1.2]; exact hsl) ⟨xm_R_push iR (⟨_, rfl, xm_st_plain hpl⟩), hP1, hD1, hS1, by show xm_l (xm_ad _) b _ lo ls; rw [xm_ad_push]; exact xm_l_mono _ iL, _, _, rfl, ⟨q, by show (xm_ad _)[h.length]? = some q; rw [xm_ad_push, ← iR.1]; exact xm_ad_new ws q, rfl⟩, by show xm_st (xm_ad _) b st _; rw [xm_ad_push]; exact xm_st_mono _ iT⟩
theorem xs_objInit {k : Nat} (F : xm_F p R s m args meth c M d D dA b B0 L xs) (hd : decode (xm_by M) pc = .ok (.invokespecial k, len)) (ho : len = 3 ∧ xm_oi (xm_y M).cls k ∧ ∃ a r, st = .ref a :: r ∧ xm_sum r ≤ 8 ∧ xm_G p l e R s m args below meth c Qw D dA ad b B0 (xm_ml M) (pc + 3, lo, r, h, cn, sn)) : xm_G p l e R s m args below meth c Qw D dA ad b B0 (xm_ml M) (pc, lo, st, h, cn, sn) := by
  obtain ⟨rfl, ⟨hw1, hw2, hw3⟩, a, r, rfl, hr, hk⟩ := ho
  intro ws H locs ls rst hc hs hI
  obtain ⟨iR, iP, iD, iS, iL, w1, r1, rfl, e1, iT⟩ := hI
  obtain ⟨q, e3, rfl⟩ : ∃ q, (xm_ad ws)[a]? = some q ∧ w1 = .ref q := e1
  have hsum : (r1.map fun v => v.category).sum ≤ 8 := by
    have := xm_st_sum iT
    unfold xm_sum at this hr
    omega
  have h0 := lv_room (m := m) (pc := pc) (ls := ls) (rest := .ref q :: r1) hsum
  refine W.objInit F.1.1 F.1.2.1 F.1.2.2.2.1 (F.1.2.2.2.2 _ hw1) (F.1.2.2.2.2 _ hw2) (F.1.2.2.2.2 _ hw3) rfl (by rw [F.1.2.2.1]; exact iL.1) rfl hd (by have := F.2.2.2.1.1; omega) (Nat.le_trans (Nat.add_le_add_right h0 12) (by have := F.2.2.2.1.2; omega)) ?_
  exact hk ws H locs ls _ hc hs ⟨iR, iP, iD, iS, iL, iT⟩
theorem xs_mmax {k : Nat} (F : xm_F p R s m args meth c M d D dA b B0 L xs) (hd : decode (xm_by M) pc = .ok (.invokestatic k, len)) (ho : len = 3 ∧ xm_mx (xm_y M).cls k ∧ ∃ x y r, st = .int y :: .int x :: r ∧ xm_sum r ≤ 8 ∧ xm_G p l e R s m args below meth c Qw D dA ad b B0 (xm_ml M) (pc + 3, lo, .int (if x < y then y else x) :: r, h, cn, sn)) : xm_G p l e R s m args below meth c Qw D dA ad b B0 (xm_ml M) (pc, lo, st, h, cn, sn) := by
  obtain ⟨rfl, ⟨hw1, hw2, hw3, hw4⟩, x, y, r, rfl, hr, hk⟩ := ho
  intro ws H locs ls rst hc hs hI
  obtain ⟨iR, iP, iD, iS, iL, w1, r1, rfl, e1, w2, r2, rfl, e2, iT⟩ := hI
  have e1 : w1 = .int y := e1
  have e2 : w2 = .int x := e2
  subst e1; subst e2
  have hsum : (r2.map fun v => v.category).sum ≤ 8 := by
    have := xm_st_sum iT
    unfold xm_sum at this hr
    omega
  exact va_mmax F.1.1 F.1.2.1 (by rw [F.1.2.2.1]; exact iL.1.symm) F.1.2.2.2.1 (F.1.2.2.2.2 _ hw1) (F.1.2.2.2.2 _ hw2) (F.1.2.2.2.2 _ hw3) (F.1.2.2.2.2 _ hw4) (by have := F.2.2.2.1.1; omega) (by have := F.2.2.2.1.2; omega) hc hs hd (hk ws H locs ls _ hc hs ⟨iR, iP, iD, iS, iL, _, _, rfl, rfl, iT⟩)
/-- what a call's run needs beside its words; what comes behind it -/
theorem xs_inv (F : xm_F p R s m args meth c M d D dA b B0 L xs) {Mj : xm_M} {as : List Value} {call : xm_K} (hM : ∀ (M' : xm_M) (as' : List Value) (h' : xm_H) (Q' : xm_Q), call M' as' h' Q' → xm_ok M' → xm_Met l d D dA b B0 L xs M' as' h' Q') (ok : xm_ok Mj) (ho : ∃ r, st = as.reverse ++ r ∧ xm_sum r ≤ 8 ∧ cn + xm_mc Mj ≤ xm_mc M ∧ sn + xm_ms Mj ≤ xm_ms M ∧ call Mj as h (fun v h' => xm_G p l e R s m args below meth c Qw D dA ad b B0 (xm_ml M) (pc + 3, lo, v.toList ++ r, h', cn + xm_mc Mj, sn + xm_ms Mj)))
    (run : ∀ (ws : va_W) (H : Heap) (locs : List Loc) (ls : Array Slot) (ras r1 : List Value), ls.size = xm_ml M → xm_R ad b dA h ws → va_P D vwCl ws H → xm_st (xm_ad ws) b as ras → PreS s H (va_Pc ras (fun U => xm_E D dA b B0 L xs U ∧ va_P D vwCl ws U.heap)) ras → (r1.map fun v => v.category).sum ≤ 8 → (cn + xm_mc Mj ≤ R.cells ∧ sn + xm_ms Mj ≤ R.slots) → (∀ (Qc : Array Value → State → Outcome → State → Prop), Met l (xm_y Mj) (xm_ws Mj) (xm_rm d Mj) (va_Pc ras (fun U => xm_E D dA b B0 L xs U ∧ va_P D vwCl ws U.heap)) Qc (xm_mc Mj) (xm_ms Mj) (xm_A B0) → va_Run p l e R s m args below meth c H locs cn sn (xm_mc Mj) (xm_ms Mj) (F0 m pc ls (ras.reverse ++ r1)) r1 (Qc ras.toArray) (xm_A B0))) : xm_G p l e R s m args below meth c Qw D dA ad b B0 (xm_ml M) (pc, lo, st, h, cn, sn) := by
  obtain ⟨r, rfl, hr, hcl, hsl, hcall⟩ := ho
  intro ws H locs ls rst hc hs hI
  obtain ⟨iR, iP, iD, iS, iL, iT⟩ := hI
  obtain ⟨w1, r1, rfl, iT1, iT2⟩ := xm_st_app iT
  have hras : xm_st (xm_ad ws) b as w1.reverse := by
    have := xm_st_rev iT1
    rw [List.reverse_reverse] at this
    exact this
  have hMet := hM _ _ _ _ hcall ok ws w1.reverse ⟨iR.1, iR.2.1, xm_ad ws, rfl⟩ iD hras
  have hsum : (r1.map fun v => v.category).sum ≤ 8 := by
    have := xm_st_sum iT2
    unfold xm_sum at this hr
    omega
  have hcs : cn + xm_mc Mj ≤ R.cells ∧ sn + xm_ms Mj ≤ R.slots := ⟨by rw [F.2.2.1.1]; exact hcl, by rw [F.2.2.1.2]; exact hsl⟩
  have hpre : PreS s H (va_Pc w1.reverse (fun U => xm_E D dA b B0 L xs U ∧ va_P D vwCl ws U.heap)) w1.reverse := ⟨xm_E_blind, fun U hU hW => ⟨rfl, xm_E_go F.2.1 iS hU hW, by rw [hU]; exact iP⟩⟩
  have hrun := run ws H locs ls w1.reverse r1 iL.1 iR iP hras hpre hsum hcs _ hMet
  rw [List.reverse_reverse] at hrun
  refine xs_run hrun iS (fun v w h1 ws1 H1 locs1 hov hq hR1 hP1 hD1 hS1 => ?_)
  obtain ⟨x, hx⟩ := hR1.2.2
  refine hq ws1 H1 locs1 ls _ hcs.1 hcs.2 ⟨xm_R_trans iR hR1, hP1, hD1, hS1, by rw [hx]; exact xm_l_mono x iL, ?_⟩
  have hrest : xm_st (xm_ad ws1) b r r1 := by rw [hx]; exact xm_st_mono x iT2
  cases v with
  | none =>
    have hov : w = none := hov
    subst hov
    exact hrest
  | some v =>
    obtain ⟨u, rfl, hu⟩ : ∃ u, w = some u ∧ xm_v (xm_ad ws1) b v u := hov
    exact ⟨u, r1, rfl, hu, hrest⟩
theorem xs_static {k : Nat} (F : xm_F p R s m args meth c M d D dA b B0 L xs) {Mj : xm_M} {as : List Value} {call : xm_K} (hM : ∀ (M' : xm_M) (as' : List Value) (h' : xm_H) (Q' : xm_Q), call M' as' h' Q' → xm_ok M' → xm_Met l d D dA b B0 L xs M' as' h' Q') (hd : decode (xm_by M) pc = .ok (.invokestatic k, len)) (hl : len = 3) (ok : xm_ok Mj) (hlk : xm_lk (xm_y M).cls k (xm_y Mj)) (hst : Cond.static (xm_y Mj) ∈ tb_all) (hnp : xm_np (xm_y Mj) as.length) (ho : ∃ r, st = as.reverse ++ r ∧ xm_sum r ≤ 8 ∧ cn + xm_mc Mj ≤ xm_mc M ∧ sn + xm_ms Mj ≤ xm_ms M ∧ call Mj as h (fun v h' => xm_G p l e R s m args below meth c Qw D dA ad b B0 (xm_ml M) (pc + 3, lo, v.toList ++ r, h', cn + xm_mc Mj, sn + xm_ms Mj))) : xm_G p l e R s m args below meth c Qw D dA ad b B0 (xm_ml M) (pc, lo, st, h, cn, sn) := by
  subst hl
  refine xs_inv F hM ok ho (fun ws H locs ls ras r1 hsz iR iP hras hpre hsum hcs Qc hMet => ?_)
  have hlen : ras.length = as.length := xm_st_len hras
  have hini := F.1.2.2.2.2 _ ok.2.1
  rcases hlk with hlk | ⟨host, hlk⟩
  · exact va_runS (n := as.length) F.1 hMet ⟨callB_of as.length F.1.2.2.2.2 (tb_good ok.1) rfl rfl rfl hini (F.1.2.2.2.2 _ hlk) ⟨ok.2.2.2.1.1, ok.2.2.2.1.2, hnp⟩ ⟨by show d + 1 ≤ R.frames; exact F.2.2.2.1.1, by show 8 + (xm_ml Mj + 11) + 48 * d ≤ R.locals; have h1 := F.2.2.2.1.2; have h2 : xm_ml Mj ≤ 29 := ok.2.2.2.2; omega⟩, F.1.2.2.2.2 _ hst⟩ hpre rfl hlen hsz rfl (lv_room hsum) hd hcs
  · exact va_runSN (n := as.length) F.1 hMet ⟨va_cnB as.length F.1.2.2.2.2 (tb_good ok.1) rfl rfl rfl (F.2.1.2.2.2.2.1 _ hlk) hini ⟨ok.2.2.2.1.1, ok.2.2.2.1.2, hnp⟩ ⟨by show d + 1 ≤ R.frames; exact F.2.2.2.1.1, by show 8 + (xm_ml Mj + 11) + 48 * d ≤ R.locals; have h1 := F.2.2.2.1.2; have h2 : xm_ml Mj ≤ 29 := ok.2.2.2.2; omega⟩, F.1.2.2.2.2 _ hst, trivial⟩ hpre rfl hlen hsz rfl (lv_room hsum) hd hcs
theorem xs_special {k a : Nat} (F : xm_F p R s m args meth c M d D dA b B0 L xs) {Mj : xm_M} {as : List Value} {call : xm_K} (hM : ∀ (M' : xm_M) (as' : List Value) (h' : xm_H) (Q' : xm_Q), call M' as' h' Q' → xm_ok M' → xm_Met l d D dA b B0 L xs M' as' h' Q') (hd : decode (xm_by M) pc = .ok (.invokespecial k, len)) (hl : len = 3) (ok : xm_ok Mj) (hrt : xm_rt Mj = none) (hlk : xm_lk (xm_y M).cls k (xm_y Mj)) (hnm : (xm_y Mj).name = "<init>") (hin : Cond.instanceMethod (xm_y Mj) ∈ tb_all) (hnp : xm_np (xm_y Mj) as.length) (ho : ∃ r, st = (Value.ref a :: as).reverse ++ r ∧ xm_sum r ≤ 8 ∧ cn + xm_mc Mj ≤ xm_mc M ∧ sn + xm_ms Mj ≤ xm_ms M ∧ call Mj (.ref a :: as) h (fun v h' => xm_G p l e R s m args below meth c Qw D dA ad b B0 (xm_ml M) (pc + 3, lo, v.toList ++ r, h', cn + xm_mc Mj, sn + xm_ms Mj))) : xm_G p l e R s m args below meth c Qw D dA ad b B0 (xm_ml M) (pc, lo, st, h, cn, sn) := by
  subst hl
  refine xs_inv F hM ok ho (fun ws H locs ls ras r1 hsz iR iP hras hpre hsum hcs Qc hMet => ?_)
  obtain ⟨w, ras, rfl, hw, hras⟩ : ∃ w r, ras = w :: r ∧ xm_v (xm_ad ws) b (.ref a) w ∧ xm_st (xm_ad ws) b as r := hras
  obtain ⟨q, e3, rfl⟩ : ∃ q, (xm_ad ws)[a]? = some q ∧ w = .ref q := hw
  have hlen : ras.length = as.length := xm_st_len hras
  have hini := F.1.2.2.2.2 _ ok.2.1
  have hcode := ok.1
  have hst0 : (Value.ref q :: ras).reverse ++ r1 = ras.reverse ++ .ref q :: r1 := by simp
  rw [hst0]
  obtain ⟨y, bytes, maxL, ret, mc, ms⟩ := Mj
  have hrt : ret = none := hrt
  subst hrt
  rcases hlk with hlk | ⟨host, hlk⟩
  · exact va_runI (n := as.length) F.1 hMet ⟨callB_of as.length F.1.2.2.2.2 (tb_good hcode) rfl rfl rfl hini (F.1.2.2.2.2 _ hlk) ⟨ok.2.2.2.1.1, ok.2.2.2.1.2, hnp⟩ ⟨by show d + 1 ≤ R.frames; exact F.2.2.2.1.1, by show 8 + (maxL + 11) + 48 * d ≤ R.locals; have h1 := F.2.2.2.1.2; have h2 : maxL ≤ 29 := ok.2.2.2.2; omega⟩, hnm, F.1.2.2.2.2 _ hin⟩ hpre rfl hlen hsz rfl (lv_room hsum) hd hcs
  · exact va_runIN (n := as.length) F.1 hMet ⟨va_cnB as.length F.1.2.2.2.2 (tb_good hcode) rfl rfl rfl (F.2.1.2.2.2.2.1 _ hlk) hini ⟨ok.2.2.2.1.1, ok.2.2.2.1.2, hnp⟩ ⟨by show d + 1 ≤ R.frames; exact F.2.2.2.1.1, by show 8 + (maxL + 11) + 48 * d ≤ R.locals; have h1 := F.2.2.2.1.2; have h2 : maxL ≤ 29 := ok.2.2.2.2; omega⟩, hnm, F.1.2.2.2.2 _ hin⟩ hpre rfl hlen hsz rfl (lv_room hsum) hd hcs
theorem xs_virtual {k a ci : Nat} {fs : List Value} {C : String} {T : u_T} {N : Nat} {ty : Nat → FieldType} (F : xm_F p R s m args meth c M d D dA b B0 L xs) {Mj : xm_M} {as : List Value} {call : xm_K} (hM : ∀ (M' : xm_M) (as' : List Value) (h' : xm_H) (Q' : xm_Q), call M' as' h' Q' → xm_ok M' → xm_Met l d D dA b B0 L xs M' as' h' Q') (hd : decode (xm_by M) pc = .ok (.invokevirtual k, len)) (hl : len = 3) (ok : xm_ok Mj) (hlk : xm_lk (xm_y M).cls k (xm_y Mj)) (hin : Cond.instanceMethod (xm_y Mj) ∈ tb_all) (hsel : Cond.selects (xm_y Mj).cls (xm_y Mj) (xm_y Mj) ∈ tb_all) (hnp : xm_np (xm_y Mj) as.length) (hcl : xm_cl ci C T N ty) (hC : C = (xm_y Mj).cls) (ha : h[a]? = some (.inr (ci, fs))) (ho : ∃ r, st = (Value.ref a :: as).reverse ++ r ∧ xm_sum r ≤ 8 ∧ cn + xm_mc Mj ≤ xm_mc M ∧ sn + xm_ms Mj ≤ xm_ms M ∧ call Mj (.ref a :: as) h (fun v h' => xm_G p l e R s m args below meth c Qw D dA ad b B0 (xm_ml M) (pc + 3, lo, v.toList ++ r, h', cn + xm_mc Mj, sn + xm_ms Mj))) : xm_G p l e R s m args below meth c Qw D dA ad b B0 (xm_ml M) (pc, lo, st, h, cn, sn) := by
  subst hl
  refine xs_inv F hM ok ho (fun ws H locs ls ras r1 hsz iR iP hras hpre hsum hcs Qc hMet => ?_)
  obtain ⟨w, ras, rfl, hw, hras⟩ : ∃ w r, ras = w :: r ∧ xm_v (xm_ad ws) b (.ref a) w ∧ xm_st (xm_ad ws) b as r := hras
  obtain ⟨q, e3, rfl⟩ : ∃ q, (xm_ad ws)[a]? = some q ∧ w = .ref q := hw
  obtain ⟨q2, ec, f1, f2, f3⟩ := xm_R_get iR ha
  obtain ⟨gs, rfl, hgs⟩ : ∃ gs, ec = .inr (ci, gs) ∧ xm_st (xm_ad ws) b fs gs := f3
  obtain rfl : q = q2 := Option.some.inj (e3.symm.trans f2)
  have hlen : ras.length = as.length := xm_st_len hras
  have hini := F.1.2.2.2.2 _ ok.2.1
  have hrecv := va_recv F.2.1.1 iP hcl.1 f1
  rw [show (C, T, N).1 = (xm_y Mj).cls from hC] at hrecv
  have hst0 : (Value.ref q :: ras).reverse ++ r1 = ras.reverse ++ .ref q :: r1 := by simp
  rw [hst0]
  have hpv : PreV s H (xm_y Mj).cls q (va_Pc (.ref q :: ras) (fun U => xm_E D dA b B0 L xs U ∧ va_P D vwCl ws U.heap)) ras := ⟨hpre.1, hrecv, hpre.2⟩
  rcases hlk with hlk | ⟨host, hlk⟩
  · exact va_runV (n := as.length) F.1 hMet ⟨callB_of as.length F.1.2.2.2.2 (tb_good ok.1) rfl rfl rfl hini (F.1.2.2.2.2 _ hlk) ⟨ok.2.2.2.1.1, ok.2.2.2.1.2, hnp⟩ ⟨by show d + 1 ≤ R.frames; exact F.2.2.2.1.1, by show 8 + (xm_ml Mj + 11) + 48 * d ≤ R.locals; have h1 := F.2.2.2.1.2; have h2 : xm_ml Mj ≤ 29 := ok.2.2.2.2; omega⟩, F.1.2.2.2.2 _ hin, F.1.2.2.2.2 _ hsel⟩ hpv rfl hlen hsz rfl (lv_room hsum) hd hcs
  · exact va_runVN (n := as.length) F.1 hMet ⟨va_cnB as.length F.1.2.2.2.2 (tb_good ok.1) rfl rfl rfl (F.2.1.2.2.2.2.1 _ hlk) hini ⟨ok.2.2.2.1.1, ok.2.2.2.1.2, hnp⟩ ⟨by show d + 1 ≤ R.frames; exact F.2.2.2.1.1, by show 8 + (xm_ml Mj + 11) + 48 * d ≤ R.locals; have h1 := F.2.2.2.1.2; have h2 : xm_ml Mj ≤ 29 := ok.2.2.2.2; omega⟩, F.1.2.2.2.2 _ hin, F.1.2.2.2.2 _ hsel⟩ hpv rfl hlen hsz rfl (lv_room hsum) hd hcs
end XS
