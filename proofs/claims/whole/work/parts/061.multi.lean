/-! An int[9][9] is made (multianewarray): the outer row, then the nine inner ones, each put into its place as it comes. -/
def xg_o (cA : ClassId) (z i : Nat) : Cell := arrV cA 9 (fun j => if j < i then .ref (z + 1 + j) else .null)
def xg_i (cI : ClassId) : Cell := arrV cI 9 (fun _ => .int 0)
def xg_s (T : State) (cA cI : ClassId) : Nat → State
  | 0 => T.pushCell (xg_o cA T.heap.size 0)
  | i + 1 => ((xg_s T cA cI i).pushCell (xg_i cI)).setCell T.heap.size (xg_o cA T.heap.size (i + 1))
theorem xg_o_set (cA : ClassId) (z i : Nat) : (xg_o cA z i).setSlot i (.ref (z + 1 + i)) = xg_o cA z (i + 1) := by
  unfold xg_o
  rw [arrV_store]
  congr 1
  funext j
  unfold updV
  by_cases h : j = i
  · subst h
    rw [if_pos rfl, if_pos (Nat.lt_succ_self _)]
  · rw [if_neg h]
    dsimp only
    by_cases h2 : j < i
    · rw [if_pos h2, if_pos (by omega)]
    · rw [if_neg h2, if_neg (by omega)]
theorem xg_o_size (cA : ClassId) (z i : Nat) : (xg_o cA z i).slots.size = 9 := arrV_size _ _ _
theorem xg_i_size (cI : ClassId) : (xg_i cI).slots.size = 9 := arrV_size _ _ _
theorem xg_fact (T : State) (cA cI : ClassId) : ∀ i, (xg_s T cA cI i).heap.size = T.heap.size + 1 + i ∧ (xg_s T cA cI i).heap[T.heap.size]? = some (xg_o cA T.heap.size i) ∧ (xg_s T cA cI i).vm = T.vm ∧ (xg_s T cA cI i).slotsUsed = T.slotsUsed + 9 + 9 * i ∧
    (∀ q, q < T.heap.size → (xg_s T cA cI i).heap[q]? = T.heap[q]?) ∧ (∀ j, j < i → (xg_s T cA cI i).heap[T.heap.size + 1 + j]? = some (xg_i cI))
  | 0 => by
    refine ⟨size_pushCell _ _, State.heap_pushCell_size _ _, rfl, ?_, fun q hq => State.heap_pushCell_of_lt _ _ hq, fun j hj => absurd hj (Nat.not_lt_zero _)⟩
    show T.slotsUsed + (xg_o cA T.heap.size 0).slots.size = _
    rw [xg_o_size]
  | i + 1 => by
    obtain ⟨f1, f2, f3, f4, f5, f6⟩ := xg_fact T cA cI i
    have hz : T.heap.size < (xg_s T cA cI i).heap.size := by omega
    have hz2 : ((xg_s T cA cI i).pushCell (xg_i cI)).heap[T.heap.size]? = some (xg_o cA T.heap.size i) := by rw [State.heap_pushCell_of_lt _ _ hz]; exact f2
    refine ⟨?_, State.heap_setCell_self hz2, f3, ?_, fun q hq => ?_, fun j hj => ?_⟩
    · show (((xg_s T cA cI i).pushCell (xg_i cI)).setCell _ _).heap.size = _
      rw [size_setCell, size_pushCell, f1]
      omega
    · show (xg_s T cA cI i).slotsUsed + (xg_i cI).slots.size = _
      rw [xg_i_size, f4]
      omega
    · show (((xg_s T cA cI i).pushCell (xg_i cI)).setCell _ _).heap[q]? = _
      rw [State.heap_setCell_other (Nat.ne_of_gt hq), State.heap_pushCell_of_lt _ _ (show q < (xg_s T cA cI i).heap.size by omega)]
      exact f5 q hq
    · show (((xg_s T cA cI i).pushCell (xg_i cI)).setCell _ _).heap[_]? = _
      rw [State.heap_setCell_other (show T.heap.size ≠ T.heap.size + 1 + j by omega)]
      by_cases hji : j = i
      · subst hji
        rw [← f1]
        exact State.heap_pushCell_size _ _
      · rw [State.heap_pushCell_of_lt _ _ (show T.heap.size + 1 + j < (xg_s T cA cI i).heap.size by omega)]
        exact f6 j (by omega)
theorem xg_top (T : State) (g : JFrame) (cA cI : ClassId) : ∀ i, xg_s (T.setTop g) cA cI i = (xg_s T cA cI i).setTop g
  | 0 => rfl
  | i + 1 => by
    unfold xg_s
    rw [xg_top T g cA cI i]
    rfl
section XG
variable {p : Program} {l : Launch} {e : Env} {R : Room} {s : State} {m : MethodId} {args : Array Value} {below : List Frame} {meth : Method} {c : Code} {T : State} {locs : List Loc} {cells slots : Nat}
theorem xg_stand (X : Stand p l e R s m args below meth c T locs cells slots) (cA cI : ClassId) : ∀ i, ∃ L : List Loc, (∀ q ∈ L, q.base = T.heap.size) ∧ Stand p l e R s m args below meth c (xg_s T cA cI i) (locs ++ L) (cells + 1 + i) (slots + 9 + 9 * i)
  | 0 => by
    have h := X.pushed (xg_o cA T.heap.size 0)
    rw [xg_o_size] at h
    exact ⟨[], fun q hq => (by cases hq), by rw [List.append_nil]; exact h⟩
  | i + 1 => by
    obtain ⟨L, hL, Xi⟩ := xg_stand X cA cI i
    obtain ⟨f1, f2, -⟩ := xg_fact T cA cI i
    have hz : T.heap.size < (xg_s T cA cI i).heap.size := by omega
    have hz2 : ((xg_s T cA cI i).pushCell (xg_i cI)).heap[T.heap.size]? = some (xg_o cA T.heap.size i) := by rw [State.heap_pushCell_of_lt _ _ hz]; exact f2
    have h := (Xi.pushed (xg_i cI)).stored hz2 i (.ref (T.heap.size + 1 + i))
    rw [xg_i_size, xg_o_set, List.append_assoc] at h
    refine ⟨L ++ [⟨T.heap.size, i⟩], fun q hq => ?_, ?_⟩
    · rcases List.mem_append.mp hq with h | h
      · exact hL q h
      · rw [List.mem_singleton] at h
        rw [h]
    · have e1 : slots + 9 + 9 * (i + 1) = slots + 9 + 9 * i + 9 := by omega
      rw [e1]
      exact h
end XG
section XH
variable {E : CtlPost} {e : Env} {d : Bool} {acts : List Action} {s : State}
theorem xg_make1 {cI pI : ClassId} {kI : Class} {Q : Addr → Pre} (hk : s.vm.classes[cI]? = some kI) (hkind : kI.kind = .array pI .int) (hlim : ¬ 9 > e.platform.arrayLengthLimit) (hmem : ¬ 9 * componentBytes .int > e.platform.maxHeapBytes)
    (hc : s.heap.size < e.platform.maxCells) (hs : s.slotsUsed + 9 ≤ e.platform.maxSlots) (hq : ∀ acts', Q s.heap.size d acts' (s.pushCell (xg_i cI))) : wp (multianewarray.make cI [9]) Q E e d acts s := by
  rw [multianewarray.make]
  have h9 : ¬ (9 : Int32) < 0 := by decide
  have hc9 : (9 : Int32).toNatClampNeg = 9 := by decide
  simp only [wp_bind', W.ite, h9, if_false, wp_pure', W.theClass, hk, hkind, Option.some.injEq, exists_eq_left', hc9]
  refine W.newArray_of hk hkind hlim hmem hc hs rfl (fun acts' => ?_)
  have e1 : ({ cls := cI, slots := Array.replicate 9 (defaultValue .int) } : Cell) = xg_i cI := arrV_new cI 9 (.int 0)
  rw [e1]
  exact hq acts'
theorem xg_make2 {cA cI pI : ClassId} {kA kI : Class} {Q : Addr → Pre} (hkA : s.vm.classes[cA]? = some kA) (hkindA : kA.kind = .array cI (.array .int)) (hk : s.vm.classes[cI]? = some kI) (hkind : kI.kind = .array pI .int) (hlim : ¬ 9 > e.platform.arrayLengthLimit)
    (hmem : ¬ 9 * 4 > e.platform.maxHeapBytes) (hc : s.heap.size + 10 ≤ e.platform.maxCells) (hs : s.slotsUsed + 90 ≤ e.platform.maxSlots) (hq : ∀ d' acts', Q s.heap.size d' acts' (xg_s s cA cI 9)) : wp (multianewarray.make cA [9, 9]) Q E e d acts s := by
  rw [multianewarray.make]
  have h9 : ¬ (9 : Int32) < 0 := by decide
  have hc9 : (9 : Int32).toNatClampNeg = 9 := by decide
  have hfind : ([(9 : Int32)].find? (· < 0)) = none := by decide
  simp only [wp_bind', W.ite, h9, if_false, wp_pure', W.theClass, hkA, hkindA, Option.some.injEq, exists_eq_left', hc9]
  refine W.newArray_of hkA hkindA hlim hmem (by omega) (by omega) rfl (fun acts' => ?_)
  have e1 : ({ cls := cA, slots := Array.replicate 9 .null } : Cell) = xg_o cA s.heap.size 0 := by
    rw [show ({ cls := cA, slots := Array.replicate 9 .null } : Cell) = arrV cA 9 (fun _ => .null) from arrV_new cA 9 .null]
    rfl
  rw [e1]
  simp only [hfind]
  rw [ite_self, wp_bind', Std.Legacy.Range.forIn_eq_forIn_range']
  have hsz : ([:9] : Std.Legacy.Range).size = 9 := by simp [Std.Legacy.Range.size]
  rw [hsz]
  show wp (forIn (List.range' 0 9 1) PUnit.unit _) _ E e d acts' _
  refine wp_forIn_inv (fun rest s' => ∃ i, i ≤ 9 ∧ rest = List.range' i (9 - i) ∧ s' = xg_s s cA cI i) _ _ ⟨0, Nat.zero_le _, rfl, rfl⟩ ?_ ?_
  · rintro x rest s' d' acts2 Q' ⟨i, hi, hl, rfl⟩ hnext
    have hlt : i < 9 := by
      rcases Nat.lt_or_ge i 9 with h | h
      · exact h
      · rw [show 9 - i = 0 by omega] at hl
        cases hl
    rw [show 9 - i = (9 - (i + 1)) + 1 by omega, List.range'_succ] at hl
    obtain ⟨rfl, hrest⟩ : x = i ∧ rest = List.range' (i + 1) (9 - (i + 1)) := ⟨(List.cons.inj hl).1, (List.cons.inj hl).2⟩
    obtain ⟨f1, f2, f3, f4, f5, f6⟩ := xg_fact s cA cI x
    simp only [wp_bind']
    refine xg_make1 (by rw [f3]; exact hk) hkind hlim hmem (by omega) (by omega) (fun acts3 => ?_)
    have hz : s.heap.size < (xg_s s cA cI x).heap.size := by omega
    simp only [wp_bind', W.writeLoc, wp_pure']
    refine ⟨xg_o cA s.heap.size x, by rw [State.heap_pushCell_of_lt _ _ hz]; exact f2, (fun h => by cases h), by rw [xg_o_size]; exact hlt, ?_, hnext _ _ _ ⟨x + 1, hlt, hrest, ?_⟩⟩
    · show ((xg_s s cA cI x).pushCell (xg_i cI)).fitsSlot cA .none x _ = true
      simp [State.fitsSlot, State.slotType?, f3, hkA, hkindA, fits]
    · rw [f1, xg_o_set]
      rfl
  · rintro s' d' acts2 ⟨i, hi, hl, rfl⟩
    have hi9 : i = 9 := by
      rcases Nat.lt_or_ge i 9 with h | h
      · rw [show 9 - i = (9 - (i + 1)) + 1 by omega, List.range'_succ] at hl
        cases hl
      · omega
    subst hi9
    simp only [wp_pure']
    exact hq _ _
end XH
section XI
variable {p : Program} {l : Launch} {e : Env} {R : Room} {s : State} {m : MethodId} {args : Array Value} {below : List Frame} {meth : Method} {c : Code} {H : Heap} {locs : List Loc} {cells slots : Nat} {Q : State → Prop}
theorem xg_W {cc : ByteArray} (hexec : p.tables.exec = Jvm.exec) (hb : c.code = cc) {own : String} {index : Nat} (hown : s.vm.findClass own = some m.cls) (hclink : (Cond.classLink own index "[[I").before args s = true)
    {cA cI pI : ClassId} {kA kI : Class} (hfA : s.vm.findClass "[[I" = some cA) (hkA : s.vm.classes[cA]? = some kA) (hkindA : kA.kind = .array cI (.array .int)) (hkI : s.vm.classes[cI]? = some kI) (hkind : kI.kind = .array pI .int)
    {pc : Nat} {ls : Array Slot} {rest : List Value} (hdg : decode cc pc = .ok (.multianewarray index 2, 4)) (hcells : cells + 10 ≤ R.cells) (hslots : slots + 90 ≤ R.slots)
    (kk : ∀ (H1 : Heap) (L : List Loc), (∀ q ∈ L, q.base = H.size) → H1.size = H.size + 10 → H1[H.size]? = some (xg_o cA H.size 9) → (∀ q, q < H.size → H1[q]? = H[q]?) → (∀ j, j < 9 → H1[H.size + 1 + j]? = some (xg_i cI)) →
      W p l e R s m args below meth c H1 (locs ++ L) (cells + 10) (slots + 90) Q (F0 m (pc + 4) ls (.ref H.size :: rest))) : W p l e R s m args below meth c H locs cells slots Q (F0 m pc ls (.int 9 :: .int 9 :: rest)) := by
  intro T hT X
  subst hT; subst hb
  have hpl : e.platform.magicAccessors = ({} : Platform).magicAccessors := by rw [X.admits.platform]
  obtain ⟨c0, hfc0, hcl⟩ := Cond.classLink_spec hown hclink e.platform hpl
  cases hfA.symm.trans hfc0
  obtain ⟨hg₁, hwarm₁, hready₁⟩ := State.classEntry (e := e) X.warmed hcl
  generalize T.vm.noted m.cls index (.cls cA) = vm₁ at hg₁ hwarm₁ hready₁
  have hal : s.vm.Alike vm₁ := hwarm₁.alike
  obtain ⟨kA₁, hkA₁, heA⟩ := hal.2.2 _ _ hkA
  obtain ⟨kI₁, hkI₁, heI⟩ := hal.2.2 _ _ hkI
  have hkindA₁ : kA₁.kind = .array cI (.array .int) := by rw [heA]; exact hkindA
  have hkind₁ : kI₁.kind = .array pI .int := by rw [heI]; exact hkind
  have X₁ := X.noted hwarm₁
  obtain ⟨hr1, hr2⟩ := X.roomAbove hcells hslots
  obtain ⟨L, hL, XF⟩ := xg_stand X₁ cA cI 9
  obtain ⟨f1, f2, f3, f4, f5, f6⟩ := xg_fact (T.setVm vm₁) cA cI 9
  obtain ⟨t, a1, b1⟩ := kk (xg_s (T.setVm vm₁) cA cI 9).heap L hL f1 f2 f5 f6 _ rfl XF
  refine ⟨t, ?_, b1⟩
  have hlim : ¬ 9 > e.platform.arrayLengthLimit := by rw [Launch.admits_arrayLengthLimit X.admits]; omega
  have hmem : ¬ 9 * 4 > e.platform.maxHeapBytes := by rw [Launch.admits_maxHeapBytes X.admits]; omega
  jvm_step X.here [hexec, hdg]
  simp only [multianewarray.sem, wp_bind', W.resolveClassAt_links (State.method?_setTop (F0 m pc ls (.int 9 :: .int 9 :: rest)) X.here.top) hg₁]
  rw [W.popN, if_neg (by decide)]
  refine ⟨_, State.topJava?_setTop' (s := T.setVm vm₁) _ X.here.top, [.int 9, .int 9], rest, rfl, rfl, ?_⟩
  simp only [List.mapM_cons, List.mapM_nil, wp_bind', wp_pure']
  refine xg_make2 (kA := kA₁) (kI := kI₁) hkA₁ hkindA₁ hkI₁ hkind₁ hlim hmem (by show T.heap.size + 10 ≤ _; omega) (by show T.slotsUsed + 90 ≤ _; omega) (fun d' acts' => ?_)
  have eS : ∀ g g2 : JFrame, ((T.setTop g).setVm vm₁).setTop g2 = (T.setVm vm₁).setTop g2 := fun g g2 => by
    show ((T.setVm vm₁).setTop g).setTop g2 = _
    rw [State.setTop_setTop]
  rw [eS, xg_top]
  simp only [wp_bind', W.mark, W.pushRef, State.topJava?_setTop' _ XF.here.top, Option.some.injEq, exists_eq_left', State.setTop_setTop, State.heap_setTop]
  intro acts
  simp [jvm, XF.here.top]
  exact a1
end XI
theorem xm_R_app {ad : List Nat} {b : Nat} {dA : FieldType → ClassId} {h cs : xm_H} {ws qs : va_W} (hR : xm_R ad b dA h ws) (hl : qs.length = cs.length) (hc : ∀ (k : Nat) (v : xm_C) (q : Nat × va_E), cs[k]? = some v → qs[k]? = some q → xm_c (xm_ad ws ++ xm_ad qs) b dA v q.2) : xm_R ad b dA (h ++ cs) (ws ++ qs) := by
  have e1 : xm_ad (ws ++ qs) = xm_ad ws ++ xm_ad qs := by simp [xm_ad]
  refine ⟨by rw [List.length_append, List.length_append, hR.1, hl], fun j u x hj hx => ?_, by obtain ⟨x, hx⟩ := hR.2.2; exact ⟨x ++ xm_ad qs, by rw [e1, hx, List.append_assoc]⟩⟩
  rw [e1]
  by_cases hl : j < h.length
  · rw [List.getElem?_append_left hl] at hj
    rw [List.getElem?_append_left (by rw [hR.1]; exact hl)] at hx
    exact xm_c_mono _ (hR.2.1 j u x hj hx)
  · rw [List.getElem?_append_right (by omega)] at hj
    rw [List.getElem?_append_right (by rw [hR.1]; omega), hR.1] at hx
    exact hc _ u x hj hx
section XJ
variable {p : Program} {l : Launch} {e : Env} {R : Room} {s : State} {m : MethodId} {args : Array Value} {below : List Frame} {meth : Method} {c : Code} {Qw : State → Prop} {M : xm_M} {d : Nat} {D : va_G} {dA : FieldType → ClassId} {ad : List Nat} {b B0 L : Nat} {xs : Nat → Int32}
variable {len pc : Nat} {lo st : List Value} {h : xm_H} {cn sn : Nat}
theorem xs_multi {k d0 : Nat} (F : xm_F p R s m args meth c M d D dA b B0 L xs) (hd : decode (xm_by M) pc = .ok (.multianewarray k d0, len))
    (ho : len = 4 ∧ ∃ r, d0 = 2 ∧ Cond.classLink (xm_y M).cls k "[[I" ∈ tb_all ∧ st = .int 9 :: .int 9 :: r ∧ cn + 10 ≤ xm_mc M ∧ sn + 90 ≤ xm_ms M ∧ xm_G p l e R s m args below meth c Qw D dA ad b B0 (xm_ml M) (pc + 4, lo, .ref h.length :: r, h ++ .inl (.array .int, 9, .inr (.inr (.inr (.inr (fun j => some (h.length + 1 + j)))))) :: List.replicate 9 (.inl (.int, 9, .inl (fun _ => 0))), cn + 10, sn + 90)) :
    xm_G p l e R s m args below meth c Qw D dA ad b B0 (xm_ml M) (pc, lo, st, h, cn, sn) := by
  obtain ⟨rfl, r, rfl, hw, rfl, hcl, hsl, hk⟩ := ho
  intro ws H locs ls rst hc hs hI
  obtain ⟨iR, iP, iD, iS, iL, w1, r1, rfl, e1, w2, r2, rfl, e2, iT⟩ := hI
  have e1 : w1 = .int 9 := e1
  have e2 : w2 = .int 9 := e2
  subst e1; subst e2
  have E := F.2.1
  obtain ⟨kA, hkA, hkindA⟩ := E.2.2.2.2.2.2
  have hfA : s.vm.findClass "[[I" = some (dA (.array .int)) := (E.1.2 2 (dA (.array .int), .array .int) rfl).2
  obtain ⟨-, kI, hkI, pI, hkind⟩ := (E.1.2 0 (dA .int, .int) rfl).1 0 (fun _ => .int 0)
  have hcl' : cn + 10 ≤ R.cells := by rw [F.2.2.1.1]; exact hcl
  have hsl' : sn + 90 ≤ R.slots := by rw [F.2.2.1.2]; exact hsl
  refine xg_W F.1.1 F.1.2.1 F.1.2.2.2.1 (F.1.2.2.2.2 _ hw) hfA hkA hkindA hkI hkind hd hcl' hsl' (fun H1 L1 hL1 z1 g1 g2 g3 => ?_)
  have hnew : ∀ q, H.size ≤ q → xm_A B0 q := fun q hq => Nat.le_trans E.2.2.2.1 (Nat.le_trans iS.1 hq)
  have hlen9 : ∀ k, k < 10 → ((H.size, (.inl (dA (.array .int), 9, .inr (.inr (.inr (.inr (fun j => some (H.size + 1 + j)))))) : va_E)) :: (List.range 9).map (fun j => (H.size + 1 + j, (.inl (dA .int, 9, .inl (fun _ => 0)) : va_E))))[k]? = some (H.size + k, if k = 0 then .inl (dA (.array .int), 9, .inr (.inr (.inr (.inr (fun j => some (H.size + 1 + j)))))) else .inl (dA .int, 9, .inl (fun _ => 0))) := by
    intro k hk
    cases k with
    | zero => rfl
    | succ k =>
      rw [List.getElem?_cons_succ, List.getElem?_map, List.getElem?_range (by omega)]
      simp
      omega
  generalize hqs : ((H.size, (.inl (dA (.array .int), 9, .inr (.inr (.inr (.inr (fun j => some (H.size + 1 + j)))))) : va_E)) :: (List.range 9).map (fun j => (H.size + 1 + j, (.inl (dA .int, 9, .inl (fun _ => 0)) : va_E)))) = qs at hlen9
  have hql : qs.length = 10 := by rw [← hqs]; rfl
  have hqk : ∀ (k : Nat) (q : Nat × va_E), qs[k]? = some q → k < 10 ∧ q = (H.size + k, if k = 0 then .inl (dA (.array .int), 9, .inr (.inr (.inr (.inr (fun j => some (H.size + 1 + j)))))) else .inl (dA .int, 9, .inl (fun _ => 0))) := fun k q hq => by
    have hk10 : k < 10 := by rw [← hql]; exact (List.getElem?_eq_some_iff.mp hq).1
    exact ⟨hk10, Option.some.inj (hq.symm.trans (hlen9 k hk10))⟩
  have hadq : ∀ k, k < 10 → (xm_ad ws ++ xm_ad qs)[h.length + k]? = some (H.size + k) := fun k hk => by
    rw [List.getElem?_append_right (by simp [iR.1]), List.length_map, iR.1, Nat.add_sub_cancel_left, List.getElem?_map, hlen9 k hk]
    rfl
  have hP1 : va_P D vwCl (ws ++ qs) H1 := by
    refine (iP.kept (fun k q hq => g2 q.1 ((iP k q hq).lt))).app (fun k q hq => ?_)
    obtain ⟨hk10, rfl⟩ := hqk k q hq
    cases k with
    | zero =>
      show H1[H.size]? = some (vp_cell _ _)
      rw [g1, vp_cell_q]
      refine congrArg some ?_
      unfold xg_o
      show arrV _ 9 _ = arrV _ 9 _
      unfold arrV
      congr 1
    | succ k =>
      show H1[H.size + (k + 1)]? = some (vp_cell (dA .int) (9, .inl (fun _ => 0)))
      rw [show H.size + (k + 1) = H.size + 1 + k by omega, g3 k (by omega)]
      rfl
  have hD1 : va_D (xm_A B0) (ws ++ qs) := by
    refine va_D.app iD ⟨fun i j x y hx hy hxy => ?_, fun k q hq => ?_⟩ (fun i j x y hx hy hxy => ?_)
    · obtain ⟨-, rfl⟩ := hqk i x hx
      obtain ⟨-, rfl⟩ := hqk j y hy
      have hxy : H.size + i = H.size + j := hxy
      omega
    · obtain ⟨-, rfl⟩ := hqk k q hq
      exact hnew _ (Nat.le_add_right _ _)
    · obtain ⟨-, rfl⟩ := hqk j y hy
      have h1 := (iP i x hx).lt
      have hxy : x.1 = H.size + j := hxy
      omega
  have hS1 : va_S (xm_A B0) s.heap H1 (locs ++ L1) := by
    refine ⟨by have := iS.1; omega, fun q h1 h2 => (g2 q (Nat.lt_of_lt_of_le h1 iS.1)).trans (iS.2.1 q h1 h2), fun q hq => ?_⟩
    rcases List.mem_append.mp hq with h | h
    · exact iS.2.2 q h
    · rw [hL1 q h]
      exact hnew _ (Nat.le_refl _)
  have hR1 : xm_R ad b dA (h ++ .inl (.array .int, 9, .inr (.inr (.inr (.inr (fun j => some (h.length + 1 + j)))))) :: List.replicate 9 (.inl (.int, 9, .inl (fun _ => 0)))) (ws ++ qs) := by
    refine xm_R_app iR (by rw [hql]; rfl) (fun k v q hv hq => ?_)
    obtain ⟨hk10, rfl⟩ := hqk k q hq
    cases k with
    | zero =>
      cases hv
      refine ⟨_, rfl, fun j hj => ⟨H.size + 1 + j, ?_, rfl⟩⟩
      rw [Nat.add_assoc, hadq (1 + j) (by omega), Nat.add_assoc]
    | succ k =>
      rw [List.getElem?_cons_succ] at hv
      have hv := List.eq_of_mem_replicate (List.mem_of_getElem? hv)
      subst hv
      rfl
  have e3 : xm_ad (ws ++ qs) = xm_ad ws ++ xm_ad qs := by simp [xm_ad]
  refine hk _ H1 _ ls _ hcl' hsl' ⟨hR1, hP1, hD1, hS1, ?_, _, _, rfl, ⟨H.size, ?_, rfl⟩, ?_⟩
  · show xm_l (xm_ad _) b _ lo ls
    rw [e3]
    exact xm_l_mono _ iL
  · show (xm_ad _)[h.length]? = some H.size
    rw [e3]
    have := hadq 0 (by omega)
    rw [Nat.add_zero, Nat.add_zero] at this
    exact this
  · show xm_st (xm_ad _) b r _
    rw [e3]
    exact xm_st_mono _ iT
end XJ
