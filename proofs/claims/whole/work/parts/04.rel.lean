/-! The list heap and the real one: a world ws (the kit's va_W), position by position. -/
/-- a value of the small machine and the real one: ad, the real addresses of the cells; b, the script -/
def xm_v (ad : List Nat) (b : Nat) (v w : Value) : Prop := match v with
  | .int x => w = .int x
  | .long x => w = .long x
  | .null => w = .null
  | .ref k => ∃ a, ad[k]? = some a ∧ w = .ref a
  | .retAddr _ => w = .ref b
  | _ => False
theorem xm_get_app {α : Type} {l x : List α} {k : Nat} {a : α} (h : l[k]? = some a) : (l ++ x)[k]? = some a := by
  rw [List.getElem?_append_left (List.getElem?_eq_some_iff.mp h).1]; exact h
theorem xm_v_mono {ad : List Nat} (x : List Nat) {b : Nat} {v w : Value} (h : xm_v ad b v w) : xm_v (ad ++ x) b v w := by
  cases v with
  | ref k => obtain ⟨a, h1, h2⟩ := h; exact ⟨a, xm_get_app h1, h2⟩
  | _ => exact h
theorem xm_v_cat {ad : List Nat} {b : Nat} {v w : Value} (h : xm_v ad b v w) : w.category = v.category := by
  cases v with
  | int x => rw [show w = .int x from h]
  | long x => rw [show w = .long x from h]
  | null => rw [show w = .null from h]
  | ref k => obtain ⟨a, -, h2⟩ := h; rw [h2]; rfl
  | retAddr k => rw [show w = .ref b from h]; rfl
  | float x => exact h.elim
  | double x => exact h.elim
def xm_o (ad : List Nat) (f g : Option Nat) : Prop := match f with
  | none => g = none
  | some k => ∃ a, ad[k]? = some a ∧ g = some a
theorem xm_o_mono {ad : List Nat} (x : List Nat) {f g : Option Nat} (h : xm_o ad f g) : xm_o (ad ++ x) f g := by
  cases f with
  | none => exact h
  | some k => obtain ⟨a, h1, h2⟩ := h; exact ⟨a, xm_get_app h1, h2⟩
/-- stacks and argument lists -/
def xm_st (ad : List Nat) (b : Nat) : List Value → List Value → Prop
  | [], ws => ws = []
  | v :: vs, ws => ∃ w r, ws = w :: r ∧ xm_v ad b v w ∧ xm_st ad b vs r
theorem xm_st_mono {ad : List Nat} (x : List Nat) {b : Nat} : ∀ {vs ws : List Value}, xm_st ad b vs ws → xm_st (ad ++ x) b vs ws
  | [], _, h => h
  | _ :: _, _, ⟨w, r, h1, h2, h3⟩ => ⟨w, r, h1, xm_v_mono x h2, xm_st_mono x h3⟩
theorem xm_st_len {ad : List Nat} {b : Nat} : ∀ {vs ws : List Value}, xm_st ad b vs ws → ws.length = vs.length
  | [], _, h => by rw [show _ = [] from h]
  | _ :: _, _, ⟨w, r, h1, _, h3⟩ => by rw [h1, List.length_cons, List.length_cons, xm_st_len h3]
theorem xm_st_sum {ad : List Nat} {b : Nat} : ∀ {vs ws : List Value}, xm_st ad b vs ws → xm_sum ws = xm_sum vs
  | [], _, h => by rw [show _ = [] from h]
  | _ :: _, _, ⟨w, r, h1, h2, h3⟩ => by
    have e := xm_st_sum h3
    unfold xm_sum at e ⊢
    rw [h1]
    simp only [List.map_cons, List.sum_cons]
    rw [e, xm_v_cat h2]
theorem xm_st_app {ad : List Nat} {b : Nat} : ∀ {xs ys ws : List Value}, xm_st ad b (xs ++ ys) ws → ∃ w1 w2, ws = w1 ++ w2 ∧ xm_st ad b xs w1 ∧ xm_st ad b ys w2
  | [], _, ws, h => ⟨[], ws, rfl, rfl, h⟩
  | _ :: _, _, _, ⟨w, r, h1, h2, h3⟩ => by
    obtain ⟨w1, w2, e1, e2, e3⟩ := xm_st_app h3
    exact ⟨w :: w1, w2, by rw [h1, e1]; rfl, ⟨w, w1, rfl, h2, e2⟩, e3⟩
theorem xm_st_join {ad : List Nat} {b : Nat} : ∀ {xs ys w1 w2 : List Value}, xm_st ad b xs w1 → xm_st ad b ys w2 → xm_st ad b (xs ++ ys) (w1 ++ w2)
  | [], _, _, _, h1, h2 => by rw [show _ = [] from h1]; exact h2
  | _ :: _, _, _, _, ⟨w, r, h1, h2, h3⟩, h4 => by rw [h1]; exact ⟨w, r ++ _, rfl, h2, xm_st_join h3 h4⟩
theorem xm_st_rev {ad : List Nat} {b : Nat} : ∀ {xs ws : List Value}, xm_st ad b xs ws → xm_st ad b xs.reverse ws.reverse
  | [], _, h => by rw [show _ = [] from h]; exact rfl
  | _ :: _, _, ⟨w, r, h1, h2, h3⟩ => by
    rw [h1, List.reverse_cons, List.reverse_cons]
    exact xm_st_join (xm_st_rev h3) ⟨w, [], rfl, h2, rfl⟩
/-- cells -/
def xm_c (ad : List Nat) (b : Nat) (dA : FieldType → ClassId) (v : xm_C) (w : va_E) : Prop := match v with
  | .inl (ty, n, .inl f) => w = .inl (dA ty, n, .inl f)
  | .inl (ty, n, .inr (.inl f)) => w = .inl (dA ty, n, .inr (.inl f))
  | .inl (ty, n, .inr (.inr (.inr (.inr f)))) => ∃ g, w = .inl (dA ty, n, .inr (.inr (.inr (.inr g)))) ∧ ∀ j, j < n → xm_o ad (f j) (g j)
  | .inl _ => False
  | .inr (ci, fs) => ∃ gs, w = .inr (ci, gs) ∧ xm_st ad b fs gs
theorem xm_c_mono {ad : List Nat} (x : List Nat) {b : Nat} {dA : FieldType → ClassId} {v : xm_C} {w : va_E} (h : xm_c ad b dA v w) : xm_c (ad ++ x) b dA v w := by
  match v, h with
  | .inl (ty, n, .inl f), h => exact h
  | .inl (ty, n, .inr (.inl f)), h => exact h
  | .inl (ty, n, .inr (.inr (.inr (.inr f)))), ⟨g, h1, h2⟩ => exact ⟨g, h1, fun j hj => xm_o_mono x (h2 j hj)⟩
  | .inr (ci, fs), ⟨gs, h1, h2⟩ => exact ⟨gs, h1, xm_st_mono x h2⟩
abbrev xm_ad (ws : va_W) : List Nat := ws.map (fun q => q.1)
def xm_R (ad : List Nat) (b : Nat) (dA : FieldType → ClassId) (h : xm_H) (ws : va_W) : Prop := ws.length = h.length ∧ (∀ (k : Nat) (v : xm_C) (q : Nat × va_E), h[k]? = some v → ws[k]? = some q → xm_c (xm_ad ws) b dA v q.2) ∧ ∃ x, xm_ad ws = ad ++ x
theorem xm_R_self {ad : List Nat} {b : Nat} {dA : FieldType → ClassId} {h : xm_H} {ws : va_W} (hR : xm_R ad b dA h ws) : xm_R (xm_ad ws) b dA h ws := ⟨hR.1, hR.2.1, [], by simp⟩
theorem xm_R_trans {ad : List Nat} {b : Nat} {dA : FieldType → ClassId} {h h1 : xm_H} {ws ws1 : va_W} (hR : xm_R ad b dA h ws) (hR1 : xm_R (xm_ad ws) b dA h1 ws1) : xm_R ad b dA h1 ws1 := by
  obtain ⟨x, hx⟩ := hR.2.2
  obtain ⟨y, hy⟩ := hR1.2.2
  exact ⟨hR1.1, hR1.2.1, x ++ y, by rw [hy, hx, List.append_assoc]⟩
theorem xm_R_get {ad : List Nat} {b : Nat} {dA : FieldType → ClassId} {h : xm_H} {ws : va_W} (hR : xm_R ad b dA h ws) {k : Nat} {v : xm_C} (hk : h[k]? = some v) : ∃ a e, ws[k]? = some (a, e) ∧ (xm_ad ws)[k]? = some a ∧ xm_c (xm_ad ws) b dA v e := by
  have hl : k < ws.length := by rw [hR.1]; exact (List.getElem?_eq_some_iff.mp hk).1
  have e1 : ws[k]? = some ws[k] := List.getElem?_eq_getElem hl
  exact ⟨ws[k].1, ws[k].2, e1, by rw [List.getElem?_map, e1]; rfl, hR.2.1 k v _ hk e1⟩
theorem xm_ad_set {ws : va_W} {k a : Nat} {e0 e : va_E} (hk : ws[k]? = some (a, e0)) : xm_ad (ws.set k (a, e)) = xm_ad ws := by
  apply List.ext_getElem?
  intro j
  rw [List.getElem?_map, List.getElem?_map, List.getElem?_set]
  split
  · rename_i h
    subst h
    rw [hk]
    split
    · rfl
    · rename_i h2
      exact absurd (List.getElem?_eq_some_iff.mp hk).1 h2
  · rfl
theorem xm_R_set {ad : List Nat} {b : Nat} {dA : FieldType → ClassId} {h : xm_H} {ws : va_W} (hR : xm_R ad b dA h ws) {k a : Nat} {e0 e : va_E} {v : xm_C} (hk : ws[k]? = some (a, e0)) (hc : xm_c (xm_ad ws) b dA v e) : xm_R ad b dA (h.set k v) (ws.set k (a, e)) := by
  refine ⟨by rw [List.length_set, List.length_set]; exact hR.1, fun j u q hj hq => ?_, by rw [xm_ad_set hk]; exact hR.2.2⟩
  rw [xm_ad_set hk]
  rw [List.getElem?_set] at hj hq
  split at hj
  · rename_i h1
    rw [if_pos h1] at hq
    split at hj
    · split at hq
      · cases hj; cases hq; exact hc
      · cases hq
    · cases hj
  · rename_i h1
    rw [if_neg h1] at hq
    exact hR.2.1 j u q hj hq
theorem xm_R_push {ad : List Nat} {b : Nat} {dA : FieldType → ClassId} {h : xm_H} {ws : va_W} (hR : xm_R ad b dA h ws) {q : Nat} {e : va_E} {v : xm_C} (hc : xm_c (xm_ad ws ++ [q]) b dA v e) : xm_R ad b dA (h ++ [v]) (ws ++ [(q, e)]) := by
  have e1 : xm_ad (ws ++ [(q, e)]) = xm_ad ws ++ [q] := by simp [xm_ad]
  refine ⟨by simp [hR.1], fun j u x hj hx => ?_, by obtain ⟨x, hx⟩ := hR.2.2; exact ⟨x ++ [q], by rw [e1, hx, List.append_assoc]⟩⟩
  rw [e1]
  by_cases hl : j < h.length
  · rw [List.getElem?_append_left hl] at hj
    rw [List.getElem?_append_left (by rw [hR.1]; exact hl)] at hx
    exact xm_c_mono [q] (hR.2.1 j u x hj hx)
  · rw [List.getElem?_append_right (by omega)] at hj
    rw [List.getElem?_append_right (by rw [hR.1]; omega), hR.1] at hx
    have hz : j - h.length < 1 := (List.getElem?_eq_some_iff.mp hj).1
    rw [show j - h.length = 0 by omega] at hj hx
    cases hj
    cases hx
    exact hc
/-- locals -/
def xm_live (lo : List Value) (i : Nat) (v : Value) : Prop := lo[i]? = some v ∧ match v with
  | .long _ => ∃ z, lo[i + 1]? = some (.float z)
  | .float _ => False
  | .double _ => False
  | _ => True
def xm_l (ad : List Nat) (b nL : Nat) (lo : List Value) (ls : Array Slot) : Prop := ls.size = nL ∧ lv_wf ls ∧ lo.length = nL ∧ ∀ (i : Nat) (v : Value), xm_live lo i v → ∃ w, xm_v ad b v w ∧ ls[i]? = some (.val w)
theorem xm_l_mono {ad : List Nat} (x : List Nat) {b nL : Nat} {lo : List Value} {ls : Array Slot} (h : xm_l ad b nL lo ls) : xm_l (ad ++ x) b nL lo ls := ⟨h.1, h.2.1, h.2.2.1, fun i v hv => by
  obtain ⟨w, h1, h2⟩ := h.2.2.2 i v hv
  exact ⟨w, xm_v_mono x h1, h2⟩⟩
/-- all that the real locals hold -/
def xm_sv (i : Nat) (z : Option Slot) : Option (Nat × Value) := match z with
  | some (Slot.val w) => some (i, w)
  | _ => none
def xm_all (ls : Array Slot) : List (Nat × Value) := (List.range ls.size).filterMap (fun i => xm_sv i ls[i]?)
theorem xm_all_mem {ls : Array Slot} {i : Nat} {w : Value} : (i, w) ∈ xm_all ls ↔ ls[i]? = some (.val w) := by
  unfold xm_all
  rw [List.mem_filterMap]
  constructor
  · rintro ⟨j, -, h⟩
    unfold xm_sv at h
    split at h
    · rename_i u hu
      cases h
      exact hu
    · cases h
  · intro h
    exact ⟨i, List.mem_range.mpr (Array.getElem?_eq_some_iff.mp h).1, by rw [h]; rfl⟩
theorem xm_all_has {ad : List Nat} {b nL : Nat} {lo : List Value} {ls : Array Slot} (h : xm_l ad b nL lo ls) : lv_has ls nL (xm_all ls) := ⟨h.1, h.2.1, fun q hq => xm_all_mem.mp hq⟩
theorem xm_l_set1 {ad : List Nat} {b nL : Nat} {lo : List Value} {ls ls' : Array Slot} {i : Nat} {v w : Value} (h : xm_l ad b nL lo ls) (hi : i < lo.length) (hv : xm_v ad b v w) (hc : v.category = 1)
    (h' : lv_has ls' nL ((i, w) :: (xm_all ls).filter (fun q => !(q.1 == i) && !(q.1 + 1 == i && q.2.category == 2)))) : xm_l ad b nL (lo.set i v) ls' := by
  refine ⟨h'.1, h'.2.1, by rw [List.length_set]; exact h.2.2.1, fun j u hu => ?_⟩
  by_cases hj : j = i
  · subst hj
    have e1 : u = v := by
      have := hu.1
      rw [List.getElem?_set_self hi] at this
      exact (Option.some.inj this).symm
    subst e1
    exact ⟨w, hv, h'.2.2 (j, w) List.mem_cons_self⟩
  · have e1 : lo[j]? = some u := by rw [← hu.1, List.getElem?_set_ne (fun q => hj q.symm)]
    have hlive : xm_live lo j u := by
      refine ⟨e1, ?_⟩
      have h2 := hu.2
      cases u with
      | long x =>
        obtain ⟨z, hz⟩ := h2
        by_cases hji : i = j + 1
        · subst hji
          rw [List.getElem?_set_self hi] at hz
          have e2 := Option.some.inj hz
          rw [e2] at hv
          exact hv.elim
        · rw [List.getElem?_set_ne hji] at hz
          exact ⟨z, hz⟩
      | _ => exact h2
    obtain ⟨w2, h1, h2⟩ := h.2.2.2 j u hlive
    refine ⟨w2, h1, h'.2.2 (j, w2) (List.mem_cons_of_mem _ (List.mem_filter.mpr ⟨xm_all_mem.mpr h2, ?_⟩))⟩
    simp only [Bool.and_eq_true, Bool.not_eq_true', beq_eq_false_iff_ne, ne_eq, Bool.and_eq_false_iff]
    refine ⟨hj, ?_⟩
    by_cases hji : j + 1 = i
    · right
      rw [xm_v_cat h1]
      intro hcat
      have hu2 := hu.2
      cases u with
      | long x =>
        obtain ⟨z, hz⟩ := hu2
        rw [hji, List.getElem?_set_self hi] at hz
        have e2 := Option.some.inj hz
        rw [e2] at hv
        exact hv.elim
      | double x => exact hu2.elim
      | _ => simp [Value.category] at hcat
    · left
      exact hji
theorem xm_l_set2 {ad : List Nat} {b nL : Nat} {lo : List Value} {ls ls' : Array Slot} {i : Nat} {x : Int64} (h : xm_l ad b nL lo ls) (hi : i + 1 < lo.length)
    (h' : lv_has ls' nL ((i, Value.long x) :: (xm_all ls).filter (fun q => !(q.1 == i) && (!(q.1 == i + 1) && !(q.1 + 1 == i && q.2.category == 2))))) : xm_l ad b nL ((lo.set i (.long x)).set (i + 1) (.float 0)) ls' := by
  have hlen : ((lo.set i (.long x)).set (i + 1) (.float 0)).length = nL := by rw [List.length_set, List.length_set]; exact h.2.2.1
  have hself : ((lo.set i (.long x)).set (i + 1) (.float 0))[i + 1]? = some (.float 0) := List.getElem?_set_self (by rw [List.length_set]; exact hi)
  have hat : ((lo.set i (.long x)).set (i + 1) (.float 0))[i]? = some (.long x) := by
    rw [List.getElem?_set_ne (by omega), List.getElem?_set_self (by omega)]
  have hne : ∀ j, j ≠ i → j ≠ i + 1 → ((lo.set i (.long x)).set (i + 1) (.float 0))[j]? = lo[j]? := fun j h1 h2 => by
    rw [List.getElem?_set_ne (fun q => h2 q.symm), List.getElem?_set_ne (fun q => h1 q.symm)]
  refine ⟨h'.1, h'.2.1, hlen, fun j u hu => ?_⟩
  by_cases hj : j = i
  · subst hj
    have e1 := hu.1
    rw [hat] at e1
    have e2 := (Option.some.inj e1).symm
    subst e2
    exact ⟨.long x, rfl, h'.2.2 (j, .long x) List.mem_cons_self⟩
  · by_cases hj1 : j = i + 1
    · subst hj1
      have e1 := hu.1
      rw [hself] at e1
      have e2 := (Option.some.inj e1).symm
      subst e2
      exact hu.2.elim
    · have e1 : lo[j]? = some u := by rw [← hne j hj hj1]; exact hu.1
      have hno : ∀ y, u = .long y → j + 1 ≠ i := fun y hy hji => by
        have h2 := hu.2
        rw [hy] at h2
        obtain ⟨z, hz⟩ := h2
        rw [hji, hat] at hz
        cases hz
      have hlive : xm_live lo j u := by
        refine ⟨e1, ?_⟩
        have h2 := hu.2
        cases u with
        | long y =>
          obtain ⟨z, hz⟩ := h2
          rw [hne (j + 1) (hno y rfl) (by omega)] at hz
          exact ⟨z, hz⟩
        | _ => exact h2
      obtain ⟨w2, h1, h2⟩ := h.2.2.2 j u hlive
      refine ⟨w2, h1, h'.2.2 (j, w2) (List.mem_cons_of_mem _ (List.mem_filter.mpr ⟨xm_all_mem.mpr h2, ?_⟩))⟩
      simp only [Bool.and_eq_true, Bool.not_eq_true', beq_eq_false_iff_ne, ne_eq, Bool.and_eq_false_iff]
      refine ⟨hj, hj1, ?_⟩
      by_cases hji : j + 1 = i
      · right
        rw [xm_v_cat h1]
        intro hcat
        cases u with
        | long y => exact hno y rfl hji
        | double y => exact hu.2
        | _ => simp [Value.category] at hcat
      · left
        exact hji
