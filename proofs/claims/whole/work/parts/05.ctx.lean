/-! What a frame stands on; what a state of the small machine is in the real one. -/
def xm_tys (dA : FieldType → ClassId) : List (ClassId × FieldType) := [(dA .int, .int), (dA .long, .long), (dA (.array .int), .array .int), (dA (.object tb_rc), .object tb_rc)]
abbrev xm_A (B0 : Nat) : Nat → Prop := fun q => B0 ≤ q
/-- what every method's start says beside the cells -/
def xm_E (D : va_G) (dA : FieldType → ClassId) (b B0 L : Nat) (xs : Nat → Int32) (U : State) : Prop := va_K D vwCl (xm_tys dA) U ∧ va_X b L xs U U.heap ∧ b < B0 ∧ B0 ≤ U.heap.size ∧ (∀ w ∈ tb_nest, va_Nw w U) ∧ va_AO tb_rc U ∧ ∃ kA : Class, U.vm.classes[dA (.array .int)]? = some kA ∧ kA.kind = .array (dA .int) (.array .int)
theorem xm_isn_on {w : Cond} (hw : xm_isn w = true) : w.onTables = true := by
  cases w <;> first | rfl | cases hw
theorem xm_nw {w : Cond} {s U : State} (hw : xm_isn w = true) (hW : s.WarmedH U.vm) (h : va_Nw w s) : va_Nw w U := by
  cases w <;> first | exact va_Nw.warmF hW h | exact va_Nw.warmM hW h | cases hw
theorem xm_E_go {D : va_G} {dA : FieldType → ClassId} {b B0 L : Nat} {xs : Nat → Int32} {s U : State} {H : Heap} {locs : List Loc} (h : xm_E D dA b B0 L xs s) (hS : va_S (xm_A B0) s.heap H locs) (hU : U.heap = H) (hW : s.WarmedH U.vm) : xm_E D dA b B0 L xs U := by
  obtain ⟨h1, h2, h3, h4, h5, h6, kA, h7, h8⟩ := h
  have hb : b < s.heap.size := Nat.lt_of_lt_of_le h3 h4
  refine ⟨va_K.moved hW.alike h1, ?_, h3, ?_, fun w hw => xm_nw (List.mem_filter.mp hw).2 hW (h5 w hw), va_AO.moved hW.alike h6, ?_⟩
  · rw [hU]
    exact va_X.moved hW.alike (va_X.kept h2 (hS.2.1 b hb (fun q => absurd q (Nat.not_le_of_lt h3))))
  · rw [hU]
    exact Nat.le_trans h4 hS.1
  · obtain ⟨k', hk', he⟩ := hW.alike.2.2 _ _ h7
    exact ⟨k', hk', by rw [he]; exact h8⟩
def xm_F (p : Program) (R : Room) (s : State) (m : MethodId) (args : Array Value) (meth : Method) (c : Code) (M : xm_M) (d : Nat) (D : va_G) (dA : FieldType → ClassId) (b B0 L : Nat) (xs : Nat → Int32) : Prop :=
  CallFix p m c (xm_by M) (xm_ml M) s args tb_all (xm_y M).cls ∧ xm_E D dA b B0 L xs s ∧ (R.cells = xm_mc M ∧ R.slots = xm_ms M) ∧ (d + 1 ≤ R.frames ∧ 48 * d + 48 ≤ R.locals) ∧ meth.name = (xm_y M).name
def xm_I (s : State) (D : va_G) (dA : FieldType → ClassId) (ad : List Nat) (b B0 nL : Nat) (lo st : List Value) (h : xm_H) (ws : va_W) (H : Heap) (locs : List Loc) (ls : Array Slot) (rst : List Value) : Prop :=
  xm_R ad b dA h ws ∧ va_P D vwCl ws H ∧ va_D (xm_A B0) ws ∧ va_S (xm_A B0) s.heap H locs ∧ xm_l (xm_ad ws) b nL lo ls ∧ xm_st (xm_ad ws) b st rst
def xm_G (p : Program) (l : Launch) (e : Env) (R : Room) (s : State) (m : MethodId) (args : Array Value) (below : List Frame) (meth : Method) (c : Code) (Qw : State → Prop) (D : va_G) (dA : FieldType → ClassId) (ad : List Nat) (b B0 nL : Nat) (σ : xm_S) : Prop :=
  ∀ (ws : va_W) (H : Heap) (locs : List Loc) (ls : Array Slot) (rst : List Value), σ.2.2.2.2.1 ≤ R.cells → σ.2.2.2.2.2 ≤ R.slots → xm_I s D dA ad b B0 nL σ.2.1 σ.2.2.1 σ.2.2.2.1 ws H locs ls rst → W p l e R s m args below meth c H locs σ.2.2.2.2.1 σ.2.2.2.2.2 Qw (F0 m σ.1 ls rst)
def xm_ov (ad : List Nat) (b : Nat) (v w : Option Value) : Prop := match v with
  | none => w = none
  | some x => ∃ u, w = some u ∧ xm_v ad b x u
def xm_Qc (D : va_G) (dA : FieldType → ClassId) (b B0 : Nat) (ad : List Nat) (Q : xm_Q) : Array Value → State → Outcome → State → Prop := fun _ st o t =>
  (∃ (v w : Option Value) (h : xm_H) (ws : va_W), o = .returned w ∧ xm_ov (xm_ad ws) b v w ∧ Q v h ∧ xm_R ad b dA h ws ∧ va_P D vwCl ws t.heap ∧ va_D (xm_A B0) ws) ∧ va_F (xm_A B0) st t
abbrev xm_ws (M : xm_M) : List Cond := .code (xm_y M) (xm_by M) (xm_ml M) (xm_rt M) :: tb_all
abbrev xm_rm (d : Nat) (M : xm_M) : Room := { frames := d, cells := xm_mc M, slots := xm_ms M, locals := 48 * d }
def xm_Met (l : Launch) (d : Nat) (D : va_G) (dA : FieldType → ClassId) (b B0 L : Nat) (xs : Nat → Int32) (M : xm_M) (as : List Value) (h : xm_H) (Q : xm_Q) : Prop :=
  ∀ (ws : va_W) (ras : List Value), xm_R [] b dA h ws → va_D (xm_A B0) ws → xm_st (xm_ad ws) b as ras →
    Met l (xm_y M) (xm_ws M) (xm_rm d M) (va_Pc ras (fun U => xm_E D dA b B0 L xs U ∧ va_P D vwCl ws U.heap)) (xm_Qc D dA b B0 (xm_ad ws) Q) (xm_mc M) (xm_ms M) (xm_A B0)
theorem xm_E_blind {D : va_G} {dA : FieldType → ClassId} {b B0 L : Nat} {xs : Nat → Int32} {ws : va_W} {ras : List Value} : FrameBlind (va_Pc ras (fun U => xm_E D dA b B0 L xs U ∧ va_P D vwCl ws U.heap)) := by
  intro a U g mk q
  obtain ⟨q0, ⟨q1, q2, q3, q4, q5, q7, q8⟩, q6⟩ := q
  exact ⟨q0, ⟨va_K.moved (u := U) (U := U.calling g mk a) (Vm.Alike.refl U.vm) q1, va_X.moved (u := U) (U := U.calling g mk a) (Vm.Alike.refl U.vm) q2, q3, q4, fun w hw => va_Nw.same (u := U) (xm_isn_on (List.mem_filter.mp hw).2) rfl (q5 w hw), q7, q8⟩, q6⟩
theorem xm_st_get {ad : List Nat} {b : Nat} : ∀ {fs gs : List Value} {j : Nat} {v : Value}, xm_st ad b fs gs → fs[j]? = some v → ∃ u, gs[j]? = some u ∧ xm_v ad b v u
  | [], _, j, v, _, h => by simp at h
  | _ :: _, _, 0, v, ⟨w, r, h1, h2, _⟩, h => by rw [List.getElem?_cons_zero] at h; cases h; exact ⟨w, by rw [h1]; rfl, h2⟩
  | _ :: _, _, j + 1, v, ⟨w, r, h1, _, h3⟩, h => by
    rw [List.getElem?_cons_succ] at h
    obtain ⟨u, e1, e2⟩ := xm_st_get h3 h
    exact ⟨u, by rw [h1, List.getElem?_cons_succ]; exact e1, e2⟩
theorem xm_st_set {ad : List Nat} {b : Nat} : ∀ {fs gs : List Value} {j : Nat} {v u : Value}, xm_st ad b fs gs → xm_v ad b v u → xm_st ad b (fs.set j v) (gs.set j u)
  | [], gs, j, v, u, h, _ => by rw [show gs = [] from h]; exact rfl
  | _ :: _, _, 0, v, u, ⟨w, r, h1, h2, h3⟩, hv => by rw [h1]; exact ⟨u, r, rfl, hv, h3⟩
  | _ :: _, _, j + 1, v, u, ⟨w, r, h1, h2, h3⟩, hv => by rw [h1]; exact ⟨w, r.set j u, rfl, h2, xm_st_set h3 hv⟩
theorem xm_v_narrow {ad : List Nat} {b : Nat} {v u : Value} {ty : FieldType} (h : xm_v ad b v u) (hn : narrow ty v = v) : narrow ty u = u := by
  cases v with
  | int x => rw [show u = .int x from h]; exact hn
  | long x => rw [show u = .long x from h]; exact hn
  | null => rw [show u = .null from h]; exact hn
  | ref k => obtain ⟨a, -, h2⟩ := h; rw [h2]; cases ty <;> rfl
  | retAddr k => rw [show u = .ref b from h]; cases ty <;> rfl
  | float x => exact h.elim
  | double x => exact h.elim
theorem xm_v_fits {ad : List Nat} {b : Nat} {v u : Value} {ty : FieldType} (h : xm_v ad b v u) (hn : fits ty v = true) : fits ty u = true := by
  cases v with
  | int x => rw [show u = .int x from h]; exact hn
  | long x => rw [show u = .long x from h]; exact hn
  | null => rw [show u = .null from h]; exact hn
  | ref k => obtain ⟨a, -, h2⟩ := h; rw [h2]; cases ty <;> first | exact hn | (simp [fits] at hn)
  | retAddr k => cases ty <;> simp [fits] at hn
  | float x => exact h.elim
  | double x => exact h.elim
theorem xm_st_plain {ad : List Nat} {b : Nat} : ∀ {fs : List Value}, fs.all xm_plain = true → xm_st ad b fs fs
  | [], _ => rfl
  | v :: vs, h => by
    rw [List.all_cons, Bool.and_eq_true] at h
    refine ⟨v, vs, rfl, ?_, xm_st_plain h.2⟩
    cases v <;> first | exact rfl | exact absurd h.1 (by decide) | exact absurd h.1 (by simp [xm_plain])
theorem xm_ad_push (ws : va_W) (q : Nat) (e : va_E) : xm_ad (ws ++ [(q, e)]) = xm_ad ws ++ [q] := by simp [xm_ad]
theorem xm_ad_new (ws : va_W) (q : Nat) : (xm_ad ws ++ [q])[ws.length]? = some q := by
  rw [List.getElem?_append_right (by simp [xm_ad])]
  simp [xm_ad]
section XR
variable {p : Program} {l : Launch} {e : Env} {R : Room} {s : State} {m : MethodId} {args : Array Value} {below : List Frame} {meth : Method} {c : Code} {H : Heap} {locs : List Loc} {cells slots : Nat} {Qw : State → Prop}
variable {pc : Nat} {ls : Array Slot} {rest st0 : List Value} {a : Array Value} {mc ms : Nat} {D : va_G} {dA : FieldType → ClassId} {b B0 : Nat} {ad : List Nat} {Q : xm_Q}
/-- behind a call -/
theorem xs_run (hr : va_Run p l e R s m args below meth c H locs cells slots mc ms (F0 m pc ls st0) rest (xm_Qc D dA b B0 ad Q a) (xm_A B0)) (hS : va_S (xm_A B0) s.heap H locs)
    (kk : ∀ (v w : Option Value) (h : xm_H) (ws : va_W) (H1 : Heap) (locs1 : List Loc), xm_ov (xm_ad ws) b v w → Q v h → xm_R ad b dA h ws → va_P D vwCl ws H1 → va_D (xm_A B0) ws → va_S (xm_A B0) s.heap H1 locs1 → W p l e R s m args below meth c H1 locs1 (cells + mc) (slots + ms) Qw (F0 m (pc + 3) ls (w.toList ++ rest))) : W p l e R s m args below meth c H locs cells slots Qw (F0 m pc ls st0) := by
  intro T hT X
  obtain ⟨v0, st₀, t, T', Lc, h0, X', hL, e1, e2, ⟨⟨v, w, h, ws, hv, hov, hq, hR, hP, hD⟩, hz, hk⟩, st⟩ := hr T hT X
  cases hv
  rw [h0] at hz hk
  obtain ⟨t2, a1, b1⟩ := kk v v0 h ws T'.heap (locs ++ Lc) hov hq hR (by rw [e1]; exact hP) hD
    ⟨Nat.le_trans hS.1 (by rw [e1]; exact hz), fun q h1 h2 => by rw [e1, hk q (Nat.lt_of_lt_of_le h1 hS.1) h2]; exact hS.2.1 q h1 h2, fun q hq => by
      rcases List.mem_append.mp hq with h | h
      · exact hS.2.2 q h
      · exact hL q h⟩ T' rfl X'
  exact ⟨t2, st t2 a1, b1⟩
end XR
