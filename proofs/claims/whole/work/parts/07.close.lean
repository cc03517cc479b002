/-! The steps together; a method's contract out of its small machine. (Printed by gen_close.py.) -/
section XC
variable {p : Program} {l : Launch} {e : Env} {R : Room} {s : State} {m : MethodId} {args : Array Value} {below : List Frame} {meth : Method} {c : Code} {Qw : State → Prop} {M : xm_M} {d : Nat} {D : va_G} {dA : FieldType → ClassId} {ad : List Nat} {b B0 L : Nat} {xs : Nat → Int32}
set_option maxHeartbeats 4000000 in
set_option maxRecDepth 100000 in
theorem xs_cls (F : xm_F p R s m args meth c M d D dA b B0 L xs) (hM : ∀ (M' : xm_M) (as' : List Value) (h' : xm_H) (Q' : xm_Q), xm_call L xs d M' as' h' Q' → xm_ok M' → xm_Met l d D dA b B0 L xs M' as' h' Q') {Q : xm_Q}
    (hret : ∀ (i : Instr) (len pc : Nat) (lo st : List Value) (h : xm_H) (cn sn : Nat), (i = .ireturn ∨ i = .lreturn ∨ i = .return_) → decode (xm_by M) pc = .ok (i, len) → xm_op L xs (xm_call L xs d) M i len pc lo st h cn sn (xm_G p l e R s m args below meth c Qw D dA ad b B0 (xm_ml M)) Q → xm_G p l e R s m args below meth c Qw D dA ad b B0 (xm_ml M) (pc, lo, st, h, cn, sn)) :
    xm_cls L xs (xm_call L xs d) M Q (xm_G p l e R s m args below meth c Qw D dA ad b B0 (xm_ml M)) := by
  intro pc lo st h cn sn i len hd ho
  cases i with
  | iconst n => exact xs_iconst F hd ho
  | bipush n => exact xs_bipush F hd ho
  | sipush n => exact xs_sipush F hd ho
  | lconst n => exact xs_lconst F hd ho
  | ldc2_w k => exact xs_ldc2_w F hd ho
  | iload_n n => exact xs_iload_n F hd ho
  | iload n => exact xs_iload F hd ho
  | lload_n n => exact xs_lload_n F hd ho
  | lload n => exact xs_lload F hd ho
  | aload_n n => exact xs_aload_n F hd ho
  | aload n => exact xs_aload F hd ho
  | istore_n n => exact xs_istore_n F hd ho
  | istore n => exact xs_istore F hd ho
  | lstore_n n => exact xs_lstore_n F hd ho
  | lstore n => exact xs_lstore F hd ho
  | astore_n n => exact xs_astore_n F hd ho
  | astore n => exact xs_astore F hd ho
  | iinc n k => exact xs_iinc F hd ho
  | iadd => exact xs_iadd F hd ho
  | isub => exact xs_isub F hd ho
  | imul => exact xs_imul F hd ho
  | iand => exact xs_iand F hd ho
  | ladd => exact xs_ladd F hd ho
  | lsub => exact xs_lsub F hd ho
  | land => exact xs_land F hd ho
  | lor => exact xs_lor F hd ho
  | lxor => exact xs_lxor F hd ho
  | lshl => exact xs_lshl F hd ho
  | lshr => exact xs_lshr F hd ho
  | lushr => exact xs_lushr F hd ho
  | i2l => exact xs_i2l F hd ho
  | l2i => exact xs_l2i F hd ho
  | lcmp => exact xs_lcmp F hd ho
  | dup => exact xs_dup F hd ho
  | pop => exact xs_pop F hd ho
  | goto off => exact xs_goto F hd ho
  | tableswitch d0 l0 h0 offs => exact xs_tableswitch F hd ho
  | arraylength => exact xs_arraylength F hd ho
  | iaload => exact xs_iaload F hd ho
  | laload => exact xs_laload F hd ho
  | aaload => exact xs_aaload F hd ho
  | iastore => exact xs_iastore F hd ho
  | lastore => exact xs_lastore F hd ho
  | aastore => exact xs_aastore F hd ho
  | getfield k => exact xs_getfield F hd ho
  | putfield k => exact xs_putfield F hd ho
  | anewarray k => exact xs_anewarray F hd ho
  | new k => exact xs_new F hd ho
  | ifCond o off =>
    obtain ⟨h1, t, x, r, h2, h3, h4⟩ := ho
    cases o with
    | eq => exact xs_ifeq F hd ⟨h1, t, x, r, h2, h3, h4⟩
    | ne => exact xs_ifne F hd ⟨h1, t, x, r, h2, h3, h4⟩
    | lt => exact xs_iflt F hd ⟨h1, t, x, r, h2, h3, h4⟩
    | ge => exact xs_ifge F hd ⟨h1, t, x, r, h2, h3, h4⟩
    | gt => exact xs_ifgt F hd ⟨h1, t, x, r, h2, h3, h4⟩
    | le => exact xs_ifle F hd ⟨h1, t, x, r, h2, h3, h4⟩
  | if_icmp o off =>
    obtain ⟨h1, t, x, y, r, h2, h3, h4⟩ := ho
    cases o with
    | eq => exact xs_icmpeq F hd ⟨h1, t, x, y, r, h2, h3, h4⟩
    | ne => exact xs_icmpne F hd ⟨h1, t, x, y, r, h2, h3, h4⟩
    | lt => exact xs_icmplt F hd ⟨h1, t, x, y, r, h2, h3, h4⟩
    | ge => exact xs_icmpge F hd ⟨h1, t, x, y, r, h2, h3, h4⟩
    | gt => exact xs_icmpgt F hd ⟨h1, t, x, y, r, h2, h3, h4⟩
    | le => exact xs_icmple F hd ⟨h1, t, x, y, r, h2, h3, h4⟩
  | newarray ty =>
    obtain ⟨h1, n, r, h2, h3, h4, h5, h6, h7⟩ := ho
    cases ty with
    | int => exact xs_newarray_int F hd ⟨h1, n, r, h2, h3, h4, h5, h6, h7⟩
    | long => exact xs_newarray_long F hd ⟨h1, n, r, h2, h3, h4, h5, h6, h7⟩
    | _ => exact False.elim h7
  | multianewarray k d0 => exact xs_multi F hd ho
  | invokestatic k =>
    obtain ⟨h1, ho⟩ := ho
    rcases ho with ⟨h2, h3⟩ | ⟨Mj, as, ok, hlk, hst, hnp, ho⟩
    · exact xs_mmax F hd ⟨h1, h2, h3⟩
    · exact xs_static F hM hd h1 ok hlk hst hnp ho
  | invokevirtual k =>
    obtain ⟨h1, Mj, as, a, ci, fs, C, T, N, ty, ok, hlk, hin, hsel, hnp, hcl, hC, ha, ho⟩ := ho
    exact xs_virtual F hM hd h1 ok hlk hin hsel hnp hcl hC ha ho
  | invokespecial k =>
    obtain ⟨h1, ho⟩ := ho
    rcases ho with ⟨h2, h3⟩ | ⟨Mj, as, a, ok, hrt, hlk, hnm, hin, hnp, ho⟩
    · exact xs_objInit F hd ⟨h1, h2, h3⟩
    · exact xs_special F hM hd h1 ok hrt hlk hnm hin hnp ho
  | ireturn => exact hret _ _ _ _ _ _ _ _ (Or.inl rfl) hd ho
  | lreturn => exact hret _ _ _ _ _ _ _ _ (Or.inr (Or.inl rfl)) hd ho
  | return_ => exact hret _ _ _ _ _ _ _ _ (Or.inr (Or.inr rfl)) hd ho
  | _ => exact False.elim ho
end XC
section XD
variable {p : Program} {l : Launch} {e : Env} {R : Room} {s : State} {m : MethodId} {args : Array Value} {below : List Frame} {meth : Method} {c : Code} {M : xm_M} {d : Nat} {D : va_G} {dA : FieldType → ClassId} {ad : List Nat} {b B0 L : Nat} {xs : Nat → Int32}
/-- a method's own returns -/
theorem xs_ret_met (F : xm_F p R s m args meth c M d D dA b B0 L xs) (hr : meth.sig.returnType = xm_rt M) (hlocks : meth.locks = false) {Q : xm_Q} {call : xm_K} (i : Instr) (len pc : Nat) (lo st : List Value) (h : xm_H) (cn sn : Nat) (hi : i = .ireturn ∨ i = .lreturn ∨ i = .return_) (hd : decode (xm_by M) pc = .ok (i, len))
    (ho : xm_op L xs call M i len pc lo st h cn sn (xm_G p l e R s m args below meth c (MQ below (xm_Qc D dA b B0 ad Q) args s (xm_mc M) (xm_ms M) (xm_A B0)) D dA ad b B0 (xm_ml M)) Q) : xm_G p l e R s m args below meth c (MQ below (xm_Qc D dA b B0 ad Q) args s (xm_mc M) (xm_ms M) (xm_A B0)) D dA ad b B0 (xm_ml M) (pc, lo, st, h, cn, sn) := by
  rcases hi with rfl | rfl | rfl
  · obtain ⟨rfl, x, ty, rfl, hrt, hn, hq⟩ := ho
    intro ws H locs ls rst hc hs hI
    obtain ⟨iR, iP, iD, iS, iL, w1, r1, rfl, e1, e2⟩ := hI
    have e1 : w1 = .int x := e1
    have e2 : r1 = [] := e2
    subst e1; subst e2
    refine W.widen (k := xm_mc M) (n := xm_ms M) (by rw [← F.2.2.1.1]; exact hc) (by rw [← F.2.2.1.2]; exact hs) ?_
    exact W.zret F.1.1 F.1.2.1 (hr.trans hrt) hn (fun t ht hW => ⟨⟨some (.int x), some (.int x), h, ws, rfl, ⟨_, rfl, rfl⟩, hq, iR, by rw [ht]; exact iP, iD⟩, iS.F ht⟩) iS.2.2 hd hlocks
  · obtain ⟨rfl, x, rfl, hrt, hq⟩ := ho
    intro ws H locs ls rst hc hs hI
    obtain ⟨iR, iP, iD, iS, iL, w1, r1, rfl, e1, e2⟩ := hI
    have e1 : w1 = .long x := e1
    have e2 : r1 = [] := e2
    subst e1; subst e2
    refine W.widen (k := xm_mc M) (n := xm_ms M) (by rw [← F.2.2.1.1]; exact hc) (by rw [← F.2.2.1.2]; exact hs) ?_
    exact W.lret F.1.1 F.1.2.1 (hr.trans hrt) (fun t ht hW => ⟨⟨some (.long x), some (.long x), h, ws, rfl, ⟨_, rfl, rfl⟩, hq, iR, by rw [ht]; exact iP, iD⟩, iS.F ht⟩) iS.2.2 hd hlocks
  · obtain ⟨rfl, rfl, hrt, hq⟩ := ho
    intro ws H locs ls rst hc hs hI
    obtain ⟨iR, iP, iD, iS, iL, e2⟩ := hI
    have e2 : rst = [] := e2
    subst e2
    refine W.widen (k := xm_mc M) (n := xm_ms M) (by rw [← F.2.2.1.1]; exact hc) (by rw [← F.2.2.1.2]; exact hs) ?_
    exact W.vret F.1.1 F.1.2.1 (hr.trans hrt) (fun t ht hW => ⟨⟨none, none, h, ws, rfl, rfl, hq, iR, by rw [ht]; exact iP, iD⟩, iS.F ht⟩) iS.2.2 hd hlocks
end XD
theorem xm_lay_len {ad : List Nat} {b : Nat} : ∀ {as ras : List Value}, xm_st ad b as ras → (lg_sl ras).length = (xm_lay as).length
  | [], _, h => by rw [show _ = [] from h]; rfl
  | v :: vs, _, ⟨w, r, h1, h2, h3⟩ => by
    have ih := xm_lay_len h3
    have hcat := xm_v_cat h2
    rw [h1]
    unfold lg_sl at ih ⊢
    rw [List.flatMap_cons, List.length_append, ih, hcat]
    rw [show xm_lay (v :: vs) = if v.category = 2 then v :: .float 0 :: xm_lay vs else v :: xm_lay vs from rfl]
    split <;> simp <;> omega
theorem xm_lay_at {ad : List Nat} {b : Nat} : ∀ {as ras : List Value} (k i : Nat) {v : Value}, xm_st ad b as ras → (xm_lay as)[i]? = some v → (∀ z, v ≠ .float z) → ∃ w, xm_v ad b v w ∧ (k + i, w) ∈ lv_args k ras
  | [], _, k, i, v, _, h, _ => by simp [xm_lay] at h
  | a :: as, _, k, i, v, ⟨w, r, h1, h2, h3⟩, h, hv => by
    have hcat := xm_v_cat h2
    rw [h1]
    unfold xm_lay at h
    unfold lv_args
    rw [hcat]
    split at h
    · rename_i hc
      rw [if_pos hc]
      match i, h with
      | 0, h =>
        rw [List.getElem?_cons_zero] at h
        cases h
        exact ⟨w, h2, List.mem_cons_self⟩
      | 1, h =>
        rw [List.getElem?_cons_succ, List.getElem?_cons_zero] at h
        exact absurd (Option.some.inj h).symm (hv 0)
      | i + 2, h =>
        rw [List.getElem?_cons_succ, List.getElem?_cons_succ] at h
        obtain ⟨u, e1, e2⟩ := xm_lay_at (k + 2) i h3 h hv
        exact ⟨u, e1, List.mem_cons_of_mem _ (by rw [show k + (i + 2) = k + 2 + i by omega]; exact e2)⟩
    · rename_i hc
      rw [if_neg hc]
      match i, h with
      | 0, h =>
        rw [List.getElem?_cons_zero] at h
        cases h
        exact ⟨w, h2, List.mem_cons_self⟩
      | i + 1, h =>
        rw [List.getElem?_cons_succ] at h
        obtain ⟨u, e1, e2⟩ := xm_lay_at (k + 1) i h3 h hv
        exact ⟨u, e1, List.mem_cons_of_mem _ (by rw [show k + (i + 1) = k + 1 + i by omega]; exact e2)⟩
theorem xm_l_ent {ad : List Nat} {b n : Nat} {as ras : List Value} (h : xm_st ad b as ras) (hn : (xm_lay as).length ≤ n) : xm_l ad b n (xm_ent n as) ((lg_sl ras ++ List.replicate (n - (lg_sl ras).length) Slot.unset).toArray) := by
  have hl := xm_lay_len h
  obtain ⟨g1, g2, g3⟩ := lv_entry ras (n := n) (by rw [hl]; exact hn)
  refine ⟨g1, g2, ?_, fun i v hv => ?_⟩
  · unfold xm_ent
    rw [List.length_append, List.length_replicate]
    omega
  · have hfl : ∀ z, v ≠ .float z := fun z hz => by
      have := hv.2
      rw [hz] at this
      exact this
    have hlay : (xm_lay as)[i]? = some v := by
      have h1 := hv.1
      unfold xm_ent at h1
      by_cases hi : i < (xm_lay as).length
      · rw [List.getElem?_append_left hi] at h1
        exact h1
      · rw [List.getElem?_append_right (by omega)] at h1
        exact absurd (List.eq_of_mem_replicate (List.mem_of_getElem? h1)) (hfl 0)
    obtain ⟨w, e1, e2⟩ := xm_lay_at 0 i h hlay hfl
    rw [Nat.zero_add] at e2
    exact ⟨w, e1, g3 _ e2⟩
theorem xs_met (l : Launch) {D : va_G} {dA : FieldType → ClassId} {b B0 L : Nat} {xs : Nat → Int32} : ∀ (d : Nat) (M : xm_M) (as : List Value) (h : xm_H) (Q : xm_Q), xm_call L xs d M as h Q → xm_ok M → xm_Met l d D dA b B0 L xs M as h Q
  | 0, M, as, h, Q, hc, _ => False.elim hc
  | d + 1, M, as, h, Q, ⟨hlen, hc⟩, ok => by
    intro ws ras hR hD hst
    refine Met.ofW (cc := xm_by M) (maxL := xm_ml M) (ret := xm_rt M) ok.2.2.1 rfl ?_
    intro p e s m args below meth c s₁ B hml hv
    obtain ⟨rfl, hE, hP⟩ := hv
    have hts := atoms_spec (ws := xm_ws M) B.pre
    have hown : s.vm.findClass (xm_y M).cls = some m.cls := findClass_of_methodNamed B.named
    have F : xm_F p (headSpec (xm_ws M) (xm_rm (d + 1) M)).room s m ras.toArray meth c M d D dA b B0 L xs := ⟨⟨B.exec, B.bytes, hml, hown, fun w hw => hts w (List.mem_cons_of_mem _ hw)⟩, hE, ⟨rfl, rfl⟩, ⟨Nat.le_refl _, Nat.le_of_eq (by show 48 * d + 48 = 48 * (d + 1); omega)⟩, (name_of_methodNamed B.named B.method).1⟩
    have hX := hc _ (xs_cls (e := e) (l := l) (below := below) (ad := xm_ad ws) F (fun M' as' h' Q' => xs_met l d M' as' h' Q') (xs_ret_met F B.returns B.notSynchronized))
    rw [lg_entry_eq]
    exact hX ws s.heap [] _ [] (Nat.zero_le _) (Nat.zero_le _) ⟨xm_R_self hR, hP, hD, va_S.rf, xm_l_ent hst hlen, rfl⟩
