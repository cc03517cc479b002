/-! remove, stage, branch, drop, write, moveTo, checkout of the reference. (Printed by c_m7.py.) -/
theorem sp_upg {α : Type} {F : Nat → sp_R} {r : Nat} {R R' : sp_R} (φ : sp_R → α) (e : φ R' = φ R) (k : Nat) : φ (sp_up F r R' k) = φ (sp_up F r R k) := by
  by_cases h : k = r
  · rw [h, sp_up_at, sp_up_at]; exact e
  · rw [sp_up_ne h, sp_up_ne h]
theorem sp_set_self {S : sp_S} {r : Nat} : sp_set S r (S.2 r) = S := by
  unfold sp_set
  have : sp_up S.2 r (S.2 r) = S.2 := by
    funext k
    by_cases h : k = r
    · rw [h, sp_up_at]
    · rw [sp_up_ne h]
  rw [this]
theorem mk_tip {h : xm_H} {S : sp_S} {r : Nat} {R : sp_R} (hr : r < 2) {F : Nat → Int32} (hF : h[34]? = some (.inl (.int, 8, .inl F))) {f : Nat} (hf : f < 4) (c : Option Nat) (a : mk h (sp_set S r R)) : mk (h.set 34 (.inl (.int, 8, .inl (upd F (nI (4 * r + f)).toNatClampNeg (sp_vi c))))) (sp_set S r (sp_up (sp_tip R) f c, sp_cur R, sp_held R, sp_wk R, sp_ix R)) := by
  obtain ⟨h0, ⟨T, t1, t2⟩, ⟨P, p1, p2⟩, ⟨P', q1, q2⟩, ⟨g, g1, g2⟩, ⟨t, u1, u2⟩, ⟨w, w1, w2⟩, ⟨x, x1, x2⟩, ⟨y, y1, y2⟩⟩ := a
  refine ⟨h0, ⟨T, (xl_ne (by decide)).trans t1, t2⟩, ⟨P, (xl_ne (by decide)).trans p1, p2⟩, ⟨P', (xl_ne (by decide)).trans q1, q2⟩, ⟨g, (xl_ne (by decide)).trans g1, fun k hk => (g2 k hk).trans (congrArg lN (sp_upg (F := S.2) (r := r) (R := R) (R' := (sp_up (sp_tip R) f c, sp_cur R, sp_held R, sp_wk R, sp_ix R)) sp_held rfl k).symm)⟩, ⟨_, xl_at hF, fun k hk j hj => ?_⟩, ⟨w, (xl_ne (by decide)).trans w1, fun k hk => (w2 k hk).trans (congrArg nI (sp_upg (F := S.2) (r := r) (R := R) (R' := (sp_up (sp_tip R) f c, sp_cur R, sp_held R, sp_wk R, sp_ix R)) sp_cur rfl k).symm)⟩, ⟨x, (xl_ne (by decide)).trans x1, fun k hk f9 hf9 => (x2 k hk f9 hf9).trans (congrArg sp_tv (congrFun (sp_upg (F := S.2) (r := r) (R := R) (R' := (sp_up (sp_tip R) f c, sp_cur R, sp_held R, sp_wk R, sp_ix R)) sp_wk rfl k).symm f9))⟩, ⟨y, (xl_ne (by decide)).trans y1, fun k hk f9 hf9 => (y2 k hk f9 hf9).trans (congrArg sp_tv (congrFun (sp_upg (F := S.2) (r := r) (R := R) (R' := (sp_up (sp_tip R) f c, sp_cur R, sp_held R, sp_wk R, sp_ix R)) sp_ix rfl k).symm f9))⟩⟩
  rw [hF] at u1
  have e0 := Sum.inl.inj (Option.some.inj u1)
  show upd F (nI (4 * r + f)).toNatClampNeg _ (4 * k + j) = sp_vi (sp_tip (sp_up S.2 r _ k) j)
  have e1 : F = t := Sum.inl.inj (Prod.mk.inj (Prod.mk.inj e0).2).2
  rw [nI_clamp (by omega), e1]
  by_cases e : k = r
  · rw [e, sp_up_at]
    show _ = sp_vi (sp_up (sp_tip R) f _ j)
    by_cases ej : j = f
    · rw [ej, sp_up_at, sp_upd_at]
    · rw [sp_up_ne ej, sp_upd_ne (by omega)]
      have := u2 r hr j hj
      rwa [show (sp_set S r R).2 r = R from sp_up_at] at this
  · rw [sp_up_ne e, sp_upd_ne (by omega)]
    have := u2 k hk j hj
    rwa [show (sp_set S r R).2 k = S.2 k from sp_up_ne e] at this
theorem mk_wk {h : xm_H} {S : sp_S} {r : Nat} {R : sp_R} (hr : r < 2) {F : Nat → Int64} (hF : h[36]? = some (.inl (.long, 8, .inr (.inl F)))) {f : Nat} (hf : f < 4) (c : Option (List Nat)) (a : mk h (sp_set S r R)) : mk (h.set 36 (.inl (.long, 8, .inr (.inl (vp_updL F (nI (4 * r + f)).toNatClampNeg (sp_tv c)))))) (sp_set S r (sp_tip R, sp_cur R, sp_held R, sp_up (sp_wk R) f c, sp_ix R)) := by
  obtain ⟨h0, ⟨T, t1, t2⟩, ⟨P, p1, p2⟩, ⟨P', q1, q2⟩, ⟨g, g1, g2⟩, ⟨t, u1, u2⟩, ⟨w, w1, w2⟩, ⟨x, x1, x2⟩, ⟨y, y1, y2⟩⟩ := a
  refine ⟨h0, ⟨T, (xl_ne (by decide)).trans t1, t2⟩, ⟨P, (xl_ne (by decide)).trans p1, p2⟩, ⟨P', (xl_ne (by decide)).trans q1, q2⟩, ⟨g, (xl_ne (by decide)).trans g1, fun k hk => (g2 k hk).trans (congrArg lN (sp_upg (F := S.2) (r := r) (R := R) (R' := (sp_tip R, sp_cur R, sp_held R, sp_up (sp_wk R) f c, sp_ix R)) sp_held rfl k).symm)⟩, ⟨t, (xl_ne (by decide)).trans u1, fun k hk b9 hb9 => (u2 k hk b9 hb9).trans (congrArg sp_vi (congrFun (sp_upg (F := S.2) (r := r) (R := R) (R' := (sp_tip R, sp_cur R, sp_held R, sp_up (sp_wk R) f c, sp_ix R)) sp_tip rfl k).symm b9))⟩, ⟨w, (xl_ne (by decide)).trans w1, fun k hk => (w2 k hk).trans (congrArg nI (sp_upg (F := S.2) (r := r) (R := R) (R' := (sp_tip R, sp_cur R, sp_held R, sp_up (sp_wk R) f c, sp_ix R)) sp_cur rfl k).symm)⟩, ⟨_, xl_at hF, fun k hk j hj => ?_⟩, ⟨y, (xl_ne (by decide)).trans y1, fun k hk f9 hf9 => (y2 k hk f9 hf9).trans (congrArg sp_tv (congrFun (sp_upg (F := S.2) (r := r) (R := R) (R' := (sp_tip R, sp_cur R, sp_held R, sp_up (sp_wk R) f c, sp_ix R)) sp_ix rfl k).symm f9))⟩⟩
  rw [hF] at x1
  have e0 := Sum.inl.inj (Option.some.inj x1)
  show vp_updL F (nI (4 * r + f)).toNatClampNeg _ (4 * k + j) = sp_tv (sp_wk (sp_up S.2 r _ k) j)
  have e1 : F = x := Sum.inl.inj (Sum.inr.inj (Prod.mk.inj (Prod.mk.inj e0).2).2)
  rw [nI_clamp (by omega), e1]
  by_cases e : k = r
  · rw [e, sp_up_at]
    show _ = sp_tv (sp_up (sp_wk R) f _ j)
    by_cases ej : j = f
    · rw [ej, sp_up_at, sp_updL_at]
    · rw [sp_up_ne ej, sp_updL_ne (by omega)]
      have := x2 r hr j hj
      rwa [show (sp_set S r R).2 r = R from sp_up_at] at this
  · rw [sp_up_ne e, sp_updL_ne (by omega)]
    have := x2 k hk j hj
    rwa [show (sp_set S r R).2 k = S.2 k from sp_up_ne e] at this
theorem mk_ix {h : xm_H} {S : sp_S} {r : Nat} {R : sp_R} (hr : r < 2) {F : Nat → Int64} (hF : h[37]? = some (.inl (.long, 8, .inr (.inl F)))) {f : Nat} (hf : f < 4) (c : Option (List Nat)) (a : mk h (sp_set S r R)) : mk (h.set 37 (.inl (.long, 8, .inr (.inl (vp_updL F (nI (4 * r + f)).toNatClampNeg (sp_tv c)))))) (sp_set S r (sp_tip R, sp_cur R, sp_held R, sp_wk R, sp_up (sp_ix R) f c)) := by
  obtain ⟨h0, ⟨T, t1, t2⟩, ⟨P, p1, p2⟩, ⟨P', q1, q2⟩, ⟨g, g1, g2⟩, ⟨t, u1, u2⟩, ⟨w, w1, w2⟩, ⟨x, x1, x2⟩, ⟨y, y1, y2⟩⟩ := a
  refine ⟨h0, ⟨T, (xl_ne (by decide)).trans t1, t2⟩, ⟨P, (xl_ne (by decide)).trans p1, p2⟩, ⟨P', (xl_ne (by decide)).trans q1, q2⟩, ⟨g, (xl_ne (by decide)).trans g1, fun k hk => (g2 k hk).trans (congrArg lN (sp_upg (F := S.2) (r := r) (R := R) (R' := (sp_tip R, sp_cur R, sp_held R, sp_wk R, sp_up (sp_ix R) f c)) sp_held rfl k).symm)⟩, ⟨t, (xl_ne (by decide)).trans u1, fun k hk b9 hb9 => (u2 k hk b9 hb9).trans (congrArg sp_vi (congrFun (sp_upg (F := S.2) (r := r) (R := R) (R' := (sp_tip R, sp_cur R, sp_held R, sp_wk R, sp_up (sp_ix R) f c)) sp_tip rfl k).symm b9))⟩, ⟨w, (xl_ne (by decide)).trans w1, fun k hk => (w2 k hk).trans (congrArg nI (sp_upg (F := S.2) (r := r) (R := R) (R' := (sp_tip R, sp_cur R, sp_held R, sp_wk R, sp_up (sp_ix R) f c)) sp_cur rfl k).symm)⟩, ⟨x, (xl_ne (by decide)).trans x1, fun k hk f9 hf9 => (x2 k hk f9 hf9).trans (congrArg sp_tv (congrFun (sp_upg (F := S.2) (r := r) (R := R) (R' := (sp_tip R, sp_cur R, sp_held R, sp_wk R, sp_up (sp_ix R) f c)) sp_wk rfl k).symm f9))⟩, ⟨_, xl_at hF, fun k hk j hj => ?_⟩⟩
  rw [hF] at y1
  have e0 := Sum.inl.inj (Option.some.inj y1)
  show vp_updL F (nI (4 * r + f)).toNatClampNeg _ (4 * k + j) = sp_tv (sp_ix (sp_up S.2 r _ k) j)
  have e1 : F = y := Sum.inl.inj (Sum.inr.inj (Prod.mk.inj (Prod.mk.inj e0).2).2)
  rw [nI_clamp (by omega), e1]
  by_cases e : k = r
  · rw [e, sp_up_at]
    show _ = sp_tv (sp_up (sp_ix R) f _ j)
    by_cases ej : j = f
    · rw [ej, sp_up_at, sp_updL_at]
    · rw [sp_up_ne ej, sp_updL_ne (by omega)]
      have := y2 r hr j hj
      rwa [show (sp_set S r R).2 r = R from sp_up_at] at this
  · rw [sp_up_ne e, sp_updL_ne (by omega)]
    have := y2 k hk j hj
    rwa [show (sp_set S r R).2 k = S.2 k from sp_up_ne e] at this
theorem mk_cur {h : xm_H} {S : sp_S} {r : Nat} {R : sp_R} (hr : r < 2) {F : Nat → Int32} (hF : h[35]? = some (.inl (.int, 2, .inl F))) (c : Nat) (a : mk h (sp_set S r R)) : mk (h.set 35 (.inl (.int, 2, .inl (upd F (nI r).toNatClampNeg (nI c))))) (sp_set S r (sp_tip R, c, sp_held R, sp_wk R, sp_ix R)) := by
  obtain ⟨h0, ⟨T, t1, t2⟩, ⟨P, p1, p2⟩, ⟨P', q1, q2⟩, ⟨g, g1, g2⟩, ⟨t, u1, u2⟩, ⟨w, w1, w2⟩, ⟨x, x1, x2⟩, ⟨y, y1, y2⟩⟩ := a
  refine ⟨h0, ⟨T, (xl_ne (by decide)).trans t1, t2⟩, ⟨P, (xl_ne (by decide)).trans p1, p2⟩, ⟨P', (xl_ne (by decide)).trans q1, q2⟩, ⟨g, (xl_ne (by decide)).trans g1, fun k hk => (g2 k hk).trans (congrArg lN (sp_upg (F := S.2) (r := r) (R := R) (R' := (sp_tip R, c, sp_held R, sp_wk R, sp_ix R)) sp_held rfl k).symm)⟩, ⟨t, (xl_ne (by decide)).trans u1, fun k hk b9 hb9 => (u2 k hk b9 hb9).trans (congrArg sp_vi (congrFun (sp_upg (F := S.2) (r := r) (R := R) (R' := (sp_tip R, c, sp_held R, sp_wk R, sp_ix R)) sp_tip rfl k).symm b9))⟩, ⟨_, xl_at hF, fun k hk => ?_⟩, ⟨x, (xl_ne (by decide)).trans x1, fun k hk f9 hf9 => (x2 k hk f9 hf9).trans (congrArg sp_tv (congrFun (sp_upg (F := S.2) (r := r) (R := R) (R' := (sp_tip R, c, sp_held R, sp_wk R, sp_ix R)) sp_wk rfl k).symm f9))⟩, ⟨y, (xl_ne (by decide)).trans y1, fun k hk f9 hf9 => (y2 k hk f9 hf9).trans (congrArg sp_tv (congrFun (sp_upg (F := S.2) (r := r) (R := R) (R' := (sp_tip R, c, sp_held R, sp_wk R, sp_ix R)) sp_ix rfl k).symm f9))⟩⟩
  rw [hF] at w1
  have e0 := Sum.inl.inj (Option.some.inj w1)
  show upd F (nI r).toNatClampNeg _ k = nI (sp_cur (sp_up S.2 r _ k))
  have e1 : F = w := Sum.inl.inj (Prod.mk.inj (Prod.mk.inj e0).2).2
  rw [nI_clamp (by omega), e1]
  by_cases e : k = r
  · rw [e, sp_up_at, sp_upd_at]
  · rw [sp_up_ne e, sp_upd_ne e]
    have := w2 k hk
    rwa [show (sp_set S r R).2 k = S.2 k from sp_up_ne e] at this
theorem mk_held {h : xm_H} {S : sp_S} {r : Nat} {R : sp_R} (hr : r < 2) {F : Nat → Int64} (hF : h[33]? = some (.inl (.long, 2, .inr (.inl F)))) (m : Nat) (a : mk h (sp_set S r R)) : mk (h.set 33 (.inl (.long, 2, .inr (.inl (vp_updL F (nI r).toNatClampNeg (lN m)))))) (sp_set S r (sp_tip R, sp_cur R, m, sp_wk R, sp_ix R)) := by
  obtain ⟨h0, ⟨T, t1, t2⟩, ⟨P, p1, p2⟩, ⟨P', q1, q2⟩, ⟨g, g1, g2⟩, ⟨t, u1, u2⟩, ⟨w, w1, w2⟩, ⟨x, x1, x2⟩, ⟨y, y1, y2⟩⟩ := a
  refine ⟨h0, ⟨T, (xl_ne (by decide)).trans t1, t2⟩, ⟨P, (xl_ne (by decide)).trans p1, p2⟩, ⟨P', (xl_ne (by decide)).trans q1, q2⟩, ⟨_, xl_at hF, fun k hk => ?_⟩, ⟨t, (xl_ne (by decide)).trans u1, fun k hk b9 hb9 => (u2 k hk b9 hb9).trans (congrArg sp_vi (congrFun (sp_upg (F := S.2) (r := r) (R := R) (R' := (sp_tip R, sp_cur R, m, sp_wk R, sp_ix R)) sp_tip rfl k).symm b9))⟩, ⟨w, (xl_ne (by decide)).trans w1, fun k hk => (w2 k hk).trans (congrArg nI (sp_upg (F := S.2) (r := r) (R := R) (R' := (sp_tip R, sp_cur R, m, sp_wk R, sp_ix R)) sp_cur rfl k).symm)⟩, ⟨x, (xl_ne (by decide)).trans x1, fun k hk f9 hf9 => (x2 k hk f9 hf9).trans (congrArg sp_tv (congrFun (sp_upg (F := S.2) (r := r) (R := R) (R' := (sp_tip R, sp_cur R, m, sp_wk R, sp_ix R)) sp_wk rfl k).symm f9))⟩, ⟨y, (xl_ne (by decide)).trans y1, fun k hk f9 hf9 => (y2 k hk f9 hf9).trans (congrArg sp_tv (congrFun (sp_upg (F := S.2) (r := r) (R := R) (R' := (sp_tip R, sp_cur R, m, sp_wk R, sp_ix R)) sp_ix rfl k).symm f9))⟩⟩
  rw [hF] at g1
  have e0 := Sum.inl.inj (Option.some.inj g1)
  show vp_updL F (nI r).toNatClampNeg _ k = lN (sp_held (sp_up S.2 r _ k))
  have e1 : F = g := Sum.inl.inj (Sum.inr.inj (Prod.mk.inj (Prod.mk.inj e0).2).2)
  rw [nI_clamp (by omega), e1]
  by_cases e : k = r
  · rw [e, sp_up_at, sp_updL_at]
  · rw [sp_up_ne e, sp_updL_ne e]
    have := g2 k hk
    rwa [show (sp_set S r R).2 k = S.2 k from sp_up_ne e] at this
theorem mk_self {h : xm_H} {S : sp_S} {r : Nat} (a : mk h S) : mk h (sp_set S r (S.2 r)) := by rw [sp_set_self]; exact a
theorem mh_set {h : xm_H} {S S' : sp_S} {q : Nat} {c : xm_C} (hM : mh h S) (hq : 30 ≤ q ∧ q ≤ 37) (hn : sp_n S'.1 = sp_n S.1) (hk : mk (h.set q c) S') : mh (h.set q c) S' := by
  obtain ⟨-, ⟨tk, a2⟩, a3⟩ := hM
  refine ⟨hk, ⟨tk, ?_⟩, mw_go a3 (fun k z1 z2 => xl_ne (by omega))⟩
  rw [hn]
  exact (xl_ne (by omega)).trans a2
theorem c_M_remove {L : Nat} {xs : Nat → Int32} {d : Nat} {h : xm_H} {Q : xm_Q} {S : sp_S} (hM : mh h S) (hS : sp_WS S) {x y : Int32} (hQ : ∀ h', mh h' (sp_remove S x y).2 → xl_fr sp_M29 h h' → Q (some (.int (sp_remove S x y).1)) h') : xm_call L xs (d + 2) m_M_remove [.ref 29, .int x, .int y] h Q := by
  obtain ⟨hK, ⟨tk, hO⟩, hw⟩ := id hM
  have h40 := hK.1
  obtain ⟨t, t1, t2⟩ := hK.2.2.2.2.2.1
  obtain ⟨v, v1, v2⟩ := hK.2.2.2.2.2.2.1
  obtain ⟨w, w1, w2⟩ := hK.2.2.2.2.2.2.2.1
  obtain ⟨u, u1, u2⟩ := hK.2.2.2.2.2.2.2.2
  have key : ∀ z, sp_remove S x y = (z, S) → Q (some (.int z)) h := fun z e9 => by
    rw [e9] at hQ
    exact hQ h hM xl_rf
  refine x_call (lo := [.ref 29, .int x, .int y]) (Nat.le_of_ble_eq_true rfl) rfl ?_
  rcases sp_in_cases 2 (by decide) x with ⟨_, ex⟩ | ⟨_, _, ex⟩ | ⟨r, hr, rfl, er⟩
  · refine x_iload_n (pc' := 1) d_M_remove_0 rfl rfl ?_
    refine x_iconst (v := nI 2) (pc' := 2) d_M_remove_1 rfl (by decide) ?_
    refine x_static (as := [.int x, .int (nI 2)]) (r := []) (v := (some (.int 1))) (h' := h) (st' := [.int 1]) (c' := 0) (s' := 0) (pc' := 5) d_M_remove_2 rfl c_M_123 rfl rfl (Nat.le_of_ble_eq_true rfl) (Nat.le_of_ble_eq_true rfl) (Nat.le_of_ble_eq_true rfl) (fun Q' hq => c_M_out1 (by decide) ex hq) rfl rfl rfl ?_
    refine x_ifne (t := 16) (pc' := 8) d_M_remove_5 rfl rfl (fun _ => ?_) (fun q => absurd q (by decide))
    refine x_iconst (v := 0) (pc' := 17) d_M_remove_16 rfl (by decide) ?_
    exact x_ireturn d_M_remove_17 rfl rfl (key _ (by unfold sp_remove; rw [ex]))
  · refine x_iload_n (pc' := 1) d_M_remove_0 rfl rfl ?_
    refine x_iconst (v := nI 2) (pc' := 2) d_M_remove_1 rfl (by decide) ?_
    refine x_static (as := [.int x, .int (nI 2)]) (r := []) (v := (some (.int 1))) (h' := h) (st' := [.int 1]) (c' := 0) (s' := 0) (pc' := 5) d_M_remove_2 rfl c_M_123 rfl rfl (Nat.le_of_ble_eq_true rfl) (Nat.le_of_ble_eq_true rfl) (Nat.le_of_ble_eq_true rfl) (fun Q' hq => c_M_out1 (by decide) ex hq) rfl rfl rfl ?_
    refine x_ifne (t := 16) (pc' := 8) d_M_remove_5 rfl rfl (fun _ => ?_) (fun q => absurd q (by decide))
    refine x_iconst (v := 0) (pc' := 17) d_M_remove_16 rfl (by decide) ?_
    exact x_ireturn d_M_remove_17 rfl rfl (key _ (by unfold sp_remove; rw [ex]))
  · rcases sp_in_cases 4 (by decide) y with ⟨_, ey⟩ | ⟨_, _, ey⟩ | ⟨b, hb, rfl, eb⟩
    · refine x_iload_n (pc' := 1) d_M_remove_0 rfl rfl ?_
      refine x_iconst (v := nI 2) (pc' := 2) d_M_remove_1 rfl (by decide) ?_
      refine x_static (as := [.int (nI r), .int (nI 2)]) (r := []) (v := (some (.int 0))) (h' := h) (st' := [.int 0]) (c' := 0) (s' := 0) (pc' := 5) d_M_remove_2 rfl c_M_123 rfl rfl (Nat.le_of_ble_eq_true rfl) (Nat.le_of_ble_eq_true rfl) (Nat.le_of_ble_eq_true rfl) (fun Q' hq => c_M_out0 hr (by decide) hq) rfl rfl rfl ?_
      refine x_ifne (t := 16) (pc' := 8) d_M_remove_5 rfl rfl (fun q => absurd rfl q) (fun _ => ?_)
      refine x_iload_n (pc' := 9) d_M_remove_8 rfl rfl ?_
      refine x_iconst (v := nI 4) (pc' := 10) d_M_remove_9 rfl (by decide) ?_
      refine x_static (as := [.int y, .int (nI 4)]) (r := []) (v := (some (.int 1))) (h' := h) (st' := [.int 1]) (c' := 0) (s' := 0) (pc' := 13) d_M_remove_10 rfl c_M_123 rfl rfl (Nat.le_of_ble_eq_true rfl) (Nat.le_of_ble_eq_true rfl) (Nat.le_of_ble_eq_true rfl) (fun Q' hq => c_M_out1 (by decide) ey hq) rfl rfl rfl ?_
      refine x_ifeq (t := 18) (pc' := 16) d_M_remove_13 rfl rfl (fun q => absurd q (by decide)) (fun _ => ?_)
      refine x_iconst (v := 0) (pc' := 17) d_M_remove_16 rfl (by decide) ?_
      exact x_ireturn d_M_remove_17 rfl rfl (key _ (by unfold sp_remove; rw [er, ey]))
    · refine x_iload_n (pc' := 1) d_M_remove_0 rfl rfl ?_
      refine x_iconst (v := nI 2) (pc' := 2) d_M_remove_1 rfl (by decide) ?_
      refine x_static (as := [.int (nI r), .int (nI 2)]) (r := []) (v := (some (.int 0))) (h' := h) (st' := [.int 0]) (c' := 0) (s' := 0) (pc' := 5) d_M_remove_2 rfl c_M_123 rfl rfl (Nat.le_of_ble_eq_true rfl) (Nat.le_of_ble_eq_true rfl) (Nat.le_of_ble_eq_true rfl) (fun Q' hq => c_M_out0 hr (by decide) hq) rfl rfl rfl ?_
      refine x_ifne (t := 16) (pc' := 8) d_M_remove_5 rfl rfl (fun q => absurd rfl q) (fun _ => ?_)
      refine x_iload_n (pc' := 9) d_M_remove_8 rfl rfl ?_
      refine x_iconst (v := nI 4) (pc' := 10) d_M_remove_9 rfl (by decide) ?_
      refine x_static (as := [.int y, .int (nI 4)]) (r := []) (v := (some (.int 1))) (h' := h) (st' := [.int 1]) (c' := 0) (s' := 0) (pc' := 13) d_M_remove_10 rfl c_M_123 rfl rfl (Nat.le_of_ble_eq_true rfl) (Nat.le_of_ble_eq_true rfl) (Nat.le_of_ble_eq_true rfl) (fun Q' hq => c_M_out1 (by decide) ey hq) rfl rfl rfl ?_
      refine x_ifeq (t := 18) (pc' := 16) d_M_remove_13 rfl rfl (fun q => absurd q (by decide)) (fun _ => ?_)
      refine x_iconst (v := 0) (pc' := 17) d_M_remove_16 rfl (by decide) ?_
      exact x_ireturn d_M_remove_17 rfl rfl (key _ (by unfold sp_remove; rw [er, ey]))
    · have e9 : sp_remove S (nI r) (nI b) = (1, sp_set S r (sp_tip (S.2 r), sp_cur (S.2 r), sp_held (S.2 r), sp_up (sp_wk (S.2 r)) b none, sp_ix (S.2 r))) := by unfold sp_remove; rw [er, eb]
      rw [e9] at hQ
      refine x_iload_n (pc' := 1) d_M_remove_0 rfl rfl ?_
      refine x_iconst (v := nI 2) (pc' := 2) d_M_remove_1 rfl (by decide) ?_
      refine x_static (as := [.int (nI r), .int (nI 2)]) (r := []) (v := (some (.int 0))) (h' := h) (st' := [.int 0]) (c' := 0) (s' := 0) (pc' := 5) d_M_remove_2 rfl c_M_123 rfl rfl (Nat.le_of_ble_eq_true rfl) (Nat.le_of_ble_eq_true rfl) (Nat.le_of_ble_eq_true rfl) (fun Q' hq => c_M_out0 hr (by decide) hq) rfl rfl rfl ?_
      refine x_ifne (t := 16) (pc' := 8) d_M_remove_5 rfl rfl (fun q => absurd rfl q) (fun _ => ?_)
      refine x_iload_n (pc' := 9) d_M_remove_8 rfl rfl ?_
      refine x_iconst (v := nI 4) (pc' := 10) d_M_remove_9 rfl (by decide) ?_
      refine x_static (as := [.int (nI b), .int (nI 4)]) (r := []) (v := (some (.int 0))) (h' := h) (st' := [.int 0]) (c' := 0) (s' := 0) (pc' := 13) d_M_remove_10 rfl c_M_123 rfl rfl (Nat.le_of_ble_eq_true rfl) (Nat.le_of_ble_eq_true rfl) (Nat.le_of_ble_eq_true rfl) (fun Q' hq => c_M_out0 hb (by decide) hq) rfl rfl rfl ?_
      refine x_ifeq (t := 18) (pc' := 16) d_M_remove_13 rfl rfl (fun _ => ?_) (fun q => absurd rfl q)
      refine x_aload_n (pc' := 19) d_M_remove_18 rfl rfl ?_
      refine x_getfield (ci := 4) (i := 7) (v := .ref 36) (pc' := 22) d_M_remove_19 rfl g_M_29 hO rfl ?_
      refine x_iconst (v := nI 4) (pc' := 23) d_M_remove_22 rfl (by decide) ?_
      refine x_iload_n (pc' := 24) d_M_remove_23 rfl rfl ?_
      refine x_imul (z := nI (4 * r)) (pc' := 25) d_M_remove_24 rfl (pk_mul 4 r) ?_
      refine x_iload_n (pc' := 26) d_M_remove_25 rfl rfl ?_
      refine x_iadd (z := nI (4 * r + b)) (pc' := 27) d_M_remove_26 rfl (nI_add _ _) ?_
      refine x_ldc2_w (x := sp_tv none) (pc' := 30) d_M_remove_27 rfl k_M_62 ?_
      refine x_lastore (h' := (h.set 36 (.inl (.long, 8, .inr (.inl (vp_updL w (nI (4 * r + b)).toNatClampNeg (sp_tv none))))))) (pc' := 31) d_M_remove_30 rfl w1 (vp_in_nI (by omega) (by decide)) rfl ?_
      refine x_iconst (v := 1) (pc' := 32) d_M_remove_31 rfl (by decide) ?_
      exact x_ireturn d_M_remove_32 rfl rfl (hQ _ (mh_set hM (by decide) rfl (mk_wk hr w1 hb none (mk_self hK))) (xl_set (by decide)))
theorem c_M_stage {L : Nat} {xs : Nat → Int32} {d : Nat} {h : xm_H} {Q : xm_Q} {S : sp_S} (hM : mh h S) (hS : sp_WS S) {x y : Int32} (hQ : ∀ h', mh h' (sp_stage S x y).2 → xl_fr sp_M29 h h' → Q (some (.int (sp_stage S x y).1)) h') : xm_call L xs (d + 2) m_M_stage [.ref 29, .int x, .int y] h Q := by
  obtain ⟨hK, ⟨tk, hO⟩, hw⟩ := id hM
  have h40 := hK.1
  obtain ⟨t, t1, t2⟩ := hK.2.2.2.2.2.1
  obtain ⟨v, v1, v2⟩ := hK.2.2.2.2.2.2.1
  obtain ⟨w, w1, w2⟩ := hK.2.2.2.2.2.2.2.1
  obtain ⟨u, u1, u2⟩ := hK.2.2.2.2.2.2.2.2
  have key : ∀ z, sp_stage S x y = (z, S) → Q (some (.int z)) h := fun z e9 => by
    rw [e9] at hQ
    exact hQ h hM xl_rf
  refine x_call (lo := [.ref 29, .int x, .int y]) (Nat.le_of_ble_eq_true rfl) rfl ?_
  rcases sp_in_cases 2 (by decide) x with ⟨_, ex⟩ | ⟨_, _, ex⟩ | ⟨r, hr, rfl, er⟩
  · refine x_iload_n (pc' := 1) d_M_stage_0 rfl rfl ?_
    refine x_iconst (v := nI 2) (pc' := 2) d_M_stage_1 rfl (by decide) ?_
    refine x_static (as := [.int x, .int (nI 2)]) (r := []) (v := (some (.int 1))) (h' := h) (st' := [.int 1]) (c' := 0) (s' := 0) (pc' := 5) d_M_stage_2 rfl c_M_123 rfl rfl (Nat.le_of_ble_eq_true rfl) (Nat.le_of_ble_eq_true rfl) (Nat.le_of_ble_eq_true rfl) (fun Q' hq => c_M_out1 (by decide) ex hq) rfl rfl rfl ?_
    refine x_ifne (t := 16) (pc' := 8) d_M_stage_5 rfl rfl (fun _ => ?_) (fun q => absurd q (by decide))
    refine x_iconst (v := 0) (pc' := 17) d_M_stage_16 rfl (by decide) ?_
    exact x_ireturn d_M_stage_17 rfl rfl (key _ (by unfold sp_stage; rw [ex]))
  · refine x_iload_n (pc' := 1) d_M_stage_0 rfl rfl ?_
    refine x_iconst (v := nI 2) (pc' := 2) d_M_stage_1 rfl (by decide) ?_
    refine x_static (as := [.int x, .int (nI 2)]) (r := []) (v := (some (.int 1))) (h' := h) (st' := [.int 1]) (c' := 0) (s' := 0) (pc' := 5) d_M_stage_2 rfl c_M_123 rfl rfl (Nat.le_of_ble_eq_true rfl) (Nat.le_of_ble_eq_true rfl) (Nat.le_of_ble_eq_true rfl) (fun Q' hq => c_M_out1 (by decide) ex hq) rfl rfl rfl ?_
    refine x_ifne (t := 16) (pc' := 8) d_M_stage_5 rfl rfl (fun _ => ?_) (fun q => absurd q (by decide))
    refine x_iconst (v := 0) (pc' := 17) d_M_stage_16 rfl (by decide) ?_
    exact x_ireturn d_M_stage_17 rfl rfl (key _ (by unfold sp_stage; rw [ex]))
  · rcases sp_in_cases 4 (by decide) y with ⟨_, ey⟩ | ⟨_, _, ey⟩ | ⟨b, hb, rfl, eb⟩
    · refine x_iload_n (pc' := 1) d_M_stage_0 rfl rfl ?_
      refine x_iconst (v := nI 2) (pc' := 2) d_M_stage_1 rfl (by decide) ?_
      refine x_static (as := [.int (nI r), .int (nI 2)]) (r := []) (v := (some (.int 0))) (h' := h) (st' := [.int 0]) (c' := 0) (s' := 0) (pc' := 5) d_M_stage_2 rfl c_M_123 rfl rfl (Nat.le_of_ble_eq_true rfl) (Nat.le_of_ble_eq_true rfl) (Nat.le_of_ble_eq_true rfl) (fun Q' hq => c_M_out0 hr (by decide) hq) rfl rfl rfl ?_
      refine x_ifne (t := 16) (pc' := 8) d_M_stage_5 rfl rfl (fun q => absurd rfl q) (fun _ => ?_)
      refine x_iload_n (pc' := 9) d_M_stage_8 rfl rfl ?_
      refine x_iconst (v := nI 4) (pc' := 10) d_M_stage_9 rfl (by decide) ?_
      refine x_static (as := [.int y, .int (nI 4)]) (r := []) (v := (some (.int 1))) (h' := h) (st' := [.int 1]) (c' := 0) (s' := 0) (pc' := 13) d_M_stage_10 rfl c_M_123 rfl rfl (Nat.le_of_ble_eq_true rfl) (Nat.le_of_ble_eq_true rfl) (Nat.le_of_ble_eq_true rfl) (fun Q' hq => c_M_out1 (by decide) ey hq) rfl rfl rfl ?_
      refine x_ifeq (t := 18) (pc' := 16) d_M_stage_13 rfl rfl (fun q => absurd q (by decide)) (fun _ => ?_)
      refine x_iconst (v := 0) (pc' := 17) d_M_stage_16 rfl (by decide) ?_
      exact x_ireturn d_M_stage_17 rfl rfl (key _ (by unfold sp_stage; rw [er, ey]))
    · refine x_iload_n (pc' := 1) d_M_stage_0 rfl rfl ?_
      refine x_iconst (v := nI 2) (pc' := 2) d_M_stage_1 rfl (by decide) ?_
      refine x_static (as := [.int (nI r), .int (nI 2)]) (r := []) (v := (some (.int 0))) (h' := h) (st' := [.int 0]) (c' := 0) (s' := 0) (pc' := 5) d_M_stage_2 rfl c_M_123 rfl rfl (Nat.le_of_ble_eq_true rfl) (Nat.le_of_ble_eq_true rfl) (Nat.le_of_ble_eq_true rfl) (fun Q' hq => c_M_out0 hr (by decide) hq) rfl rfl rfl ?_
      refine x_ifne (t := 16) (pc' := 8) d_M_stage_5 rfl rfl (fun q => absurd rfl q) (fun _ => ?_)
      refine x_iload_n (pc' := 9) d_M_stage_8 rfl rfl ?_
      refine x_iconst (v := nI 4) (pc' := 10) d_M_stage_9 rfl (by decide) ?_
      refine x_static (as := [.int y, .int (nI 4)]) (r := []) (v := (some (.int 1))) (h' := h) (st' := [.int 1]) (c' := 0) (s' := 0) (pc' := 13) d_M_stage_10 rfl c_M_123 rfl rfl (Nat.le_of_ble_eq_true rfl) (Nat.le_of_ble_eq_true rfl) (Nat.le_of_ble_eq_true rfl) (fun Q' hq => c_M_out1 (by decide) ey hq) rfl rfl rfl ?_
      refine x_ifeq (t := 18) (pc' := 16) d_M_stage_13 rfl rfl (fun q => absurd q (by decide)) (fun _ => ?_)
      refine x_iconst (v := 0) (pc' := 17) d_M_stage_16 rfl (by decide) ?_
      exact x_ireturn d_M_stage_17 rfl rfl (key _ (by unfold sp_stage; rw [er, ey]))
    · have e9 : sp_stage S (nI r) (nI b) = (1, sp_set S r (sp_tip (S.2 r), sp_cur (S.2 r), sp_held (S.2 r), sp_wk (S.2 r), sp_up (sp_ix (S.2 r)) b (sp_wk (S.2 r) b))) := by unfold sp_stage; rw [er, eb]
      rw [e9] at hQ
      refine x_iload_n (pc' := 1) d_M_stage_0 rfl rfl ?_
      refine x_iconst (v := nI 2) (pc' := 2) d_M_stage_1 rfl (by decide) ?_
      refine x_static (as := [.int (nI r), .int (nI 2)]) (r := []) (v := (some (.int 0))) (h' := h) (st' := [.int 0]) (c' := 0) (s' := 0) (pc' := 5) d_M_stage_2 rfl c_M_123 rfl rfl (Nat.le_of_ble_eq_true rfl) (Nat.le_of_ble_eq_true rfl) (Nat.le_of_ble_eq_true rfl) (fun Q' hq => c_M_out0 hr (by decide) hq) rfl rfl rfl ?_
      refine x_ifne (t := 16) (pc' := 8) d_M_stage_5 rfl rfl (fun q => absurd rfl q) (fun _ => ?_)
      refine x_iload_n (pc' := 9) d_M_stage_8 rfl rfl ?_
      refine x_iconst (v := nI 4) (pc' := 10) d_M_stage_9 rfl (by decide) ?_
      refine x_static (as := [.int (nI b), .int (nI 4)]) (r := []) (v := (some (.int 0))) (h' := h) (st' := [.int 0]) (c' := 0) (s' := 0) (pc' := 13) d_M_stage_10 rfl c_M_123 rfl rfl (Nat.le_of_ble_eq_true rfl) (Nat.le_of_ble_eq_true rfl) (Nat.le_of_ble_eq_true rfl) (fun Q' hq => c_M_out0 hb (by decide) hq) rfl rfl rfl ?_
      refine x_ifeq (t := 18) (pc' := 16) d_M_stage_13 rfl rfl (fun _ => ?_) (fun q => absurd rfl q)
      refine x_aload_n (pc' := 19) d_M_stage_18 rfl rfl ?_
      refine x_getfield (ci := 4) (i := 8) (v := .ref 37) (pc' := 22) d_M_stage_19 rfl g_M_32 hO rfl ?_
      refine x_iconst (v := nI 4) (pc' := 23) d_M_stage_22 rfl (by decide) ?_
      refine x_iload_n (pc' := 24) d_M_stage_23 rfl rfl ?_
      refine x_imul (z := nI (4 * r)) (pc' := 25) d_M_stage_24 rfl (pk_mul 4 r) ?_
      refine x_iload_n (pc' := 26) d_M_stage_25 rfl rfl ?_
      refine x_iadd (z := nI (4 * r + b)) (pc' := 27) d_M_stage_26 rfl (nI_add _ _) ?_
      refine x_aload_n (pc' := 28) d_M_stage_27 rfl rfl ?_
      refine x_getfield (ci := 4) (i := 7) (v := .ref 36) (pc' := 31) d_M_stage_28 rfl g_M_29 hO rfl ?_
      refine x_iconst (v := nI 4) (pc' := 32) d_M_stage_31 rfl (by decide) ?_
      refine x_iload_n (pc' := 33) d_M_stage_32 rfl rfl ?_
      refine x_imul (z := nI (4 * r)) (pc' := 34) d_M_stage_33 rfl (pk_mul 4 r) ?_
      refine x_iload_n (pc' := 35) d_M_stage_34 rfl rfl ?_
      refine x_iadd (z := nI (4 * r + b)) (pc' := 36) d_M_stage_35 rfl (nI_add _ _) ?_
      refine x_laload (v := sp_tv (sp_wk (S.2 r) b)) (pc' := 37) d_M_stage_36 rfl w1 (vp_in_nI (by omega) (by decide)) (by rw [nI_clamp (by omega)]; exact w2 r hr b hb) ?_
      refine x_lastore (h' := (h.set 37 (.inl (.long, 8, .inr (.inl (vp_updL u (nI (4 * r + b)).toNatClampNeg (sp_tv (sp_wk (S.2 r) b)))))))) (pc' := 38) d_M_stage_37 rfl u1 (vp_in_nI (by omega) (by decide)) rfl ?_
      refine x_iconst (v := 1) (pc' := 39) d_M_stage_38 rfl (by decide) ?_
      exact x_ireturn d_M_stage_39 rfl rfl (hQ _ (mh_set hM (by decide) rfl (mk_ix hr u1 hb _ (mk_self hK))) (xl_set (by decide)))
theorem c_M_branch {L : Nat} {xs : Nat → Int32} {d : Nat} {h : xm_H} {Q : xm_Q} {S : sp_S} (hM : mh h S) (hS : sp_WS S) {x y : Int32} (hQ : ∀ h', mh h' (sp_branch S x y).2 → xl_fr sp_M29 h h' → Q (some (.int (sp_branch S x y).1)) h') : xm_call L xs (d + 2) m_M_branch [.ref 29, .int x, .int y] h Q := by
  obtain ⟨hK, ⟨tk, hO⟩, hw⟩ := id hM
  have h40 := hK.1
  obtain ⟨t, t1, t2⟩ := hK.2.2.2.2.2.1
  obtain ⟨v, v1, v2⟩ := hK.2.2.2.2.2.2.1
  obtain ⟨w, w1, w2⟩ := hK.2.2.2.2.2.2.2.1
  obtain ⟨u, u1, u2⟩ := hK.2.2.2.2.2.2.2.2
  have key : ∀ z, sp_branch S x y = (z, S) → Q (some (.int z)) h := fun z e9 => by
    rw [e9] at hQ
    exact hQ h hM xl_rf
  refine x_call (lo := [.ref 29, .int x, .int y]) (Nat.le_of_ble_eq_true rfl) rfl ?_
  rcases sp_in_cases 2 (by decide) x with ⟨_, ex⟩ | ⟨_, _, ex⟩ | ⟨r, hr, rfl, er⟩
  · refine x_iload_n (pc' := 1) d_M_branch_0 rfl rfl ?_
    refine x_iconst (v := nI 2) (pc' := 2) d_M_branch_1 rfl (by decide) ?_
    refine x_static (as := [.int x, .int (nI 2)]) (r := []) (v := (some (.int 1))) (h' := h) (st' := [.int 1]) (c' := 0) (s' := 0) (pc' := 5) d_M_branch_2 rfl c_M_123 rfl rfl (Nat.le_of_ble_eq_true rfl) (Nat.le_of_ble_eq_true rfl) (Nat.le_of_ble_eq_true rfl) (fun Q' hq => c_M_out1 (by decide) ex hq) rfl rfl rfl ?_
    refine x_ifne (t := 16) (pc' := 8) d_M_branch_5 rfl rfl (fun _ => ?_) (fun q => absurd q (by decide))
    refine x_iconst (v := 0) (pc' := 17) d_M_branch_16 rfl (by decide) ?_
    exact x_ireturn d_M_branch_17 rfl rfl (key _ (by unfold sp_branch; rw [ex]))
  · refine x_iload_n (pc' := 1) d_M_branch_0 rfl rfl ?_
    refine x_iconst (v := nI 2) (pc' := 2) d_M_branch_1 rfl (by decide) ?_
    refine x_static (as := [.int x, .int (nI 2)]) (r := []) (v := (some (.int 1))) (h' := h) (st' := [.int 1]) (c' := 0) (s' := 0) (pc' := 5) d_M_branch_2 rfl c_M_123 rfl rfl (Nat.le_of_ble_eq_true rfl) (Nat.le_of_ble_eq_true rfl) (Nat.le_of_ble_eq_true rfl) (fun Q' hq => c_M_out1 (by decide) ex hq) rfl rfl rfl ?_
    refine x_ifne (t := 16) (pc' := 8) d_M_branch_5 rfl rfl (fun _ => ?_) (fun q => absurd q (by decide))
    refine x_iconst (v := 0) (pc' := 17) d_M_branch_16 rfl (by decide) ?_
    exact x_ireturn d_M_branch_17 rfl rfl (key _ (by unfold sp_branch; rw [ex]))
  · rcases sp_in_cases 4 (by decide) y with ⟨_, ey⟩ | ⟨_, _, ey⟩ | ⟨b, hb, rfl, eb⟩
    · refine x_iload_n (pc' := 1) d_M_branch_0 rfl rfl ?_
      refine x_iconst (v := nI 2) (pc' := 2) d_M_branch_1 rfl (by decide) ?_
      refine x_static (as := [.int (nI r), .int (nI 2)]) (r := []) (v := (some (.int 0))) (h' := h) (st' := [.int 0]) (c' := 0) (s' := 0) (pc' := 5) d_M_branch_2 rfl c_M_123 rfl rfl (Nat.le_of_ble_eq_true rfl) (Nat.le_of_ble_eq_true rfl) (Nat.le_of_ble_eq_true rfl) (fun Q' hq => c_M_out0 hr (by decide) hq) rfl rfl rfl ?_
      refine x_ifne (t := 16) (pc' := 8) d_M_branch_5 rfl rfl (fun q => absurd rfl q) (fun _ => ?_)
      refine x_iload_n (pc' := 9) d_M_branch_8 rfl rfl ?_
      refine x_iconst (v := nI 4) (pc' := 10) d_M_branch_9 rfl (by decide) ?_
      refine x_static (as := [.int y, .int (nI 4)]) (r := []) (v := (some (.int 1))) (h' := h) (st' := [.int 1]) (c' := 0) (s' := 0) (pc' := 13) d_M_branch_10 rfl c_M_123 rfl rfl (Nat.le_of_ble_eq_true rfl) (Nat.le_of_ble_eq_true rfl) (Nat.le_of_ble_eq_true rfl) (fun Q' hq => c_M_out1 (by decide) ey hq) rfl rfl rfl ?_
      refine x_ifeq (t := 18) (pc' := 16) d_M_branch_13 rfl rfl (fun q => absurd q (by decide)) (fun _ => ?_)
      refine x_iconst (v := 0) (pc' := 17) d_M_branch_16 rfl (by decide) ?_
      exact x_ireturn d_M_branch_17 rfl rfl (key _ (by unfold sp_branch; rw [er, ey]))
    · refine x_iload_n (pc' := 1) d_M_branch_0 rfl rfl ?_
      refine x_iconst (v := nI 2) (pc' := 2) d_M_branch_1 rfl (by decide) ?_
      refine x_static (as := [.int (nI r), .int (nI 2)]) (r := []) (v := (some (.int 0))) (h' := h) (st' := [.int 0]) (c' := 0) (s' := 0) (pc' := 5) d_M_branch_2 rfl c_M_123 rfl rfl (Nat.le_of_ble_eq_true rfl) (Nat.le_of_ble_eq_true rfl) (Nat.le_of_ble_eq_true rfl) (fun Q' hq => c_M_out0 hr (by decide) hq) rfl rfl rfl ?_
      refine x_ifne (t := 16) (pc' := 8) d_M_branch_5 rfl rfl (fun q => absurd rfl q) (fun _ => ?_)
      refine x_iload_n (pc' := 9) d_M_branch_8 rfl rfl ?_
      refine x_iconst (v := nI 4) (pc' := 10) d_M_branch_9 rfl (by decide) ?_
      refine x_static (as := [.int y, .int (nI 4)]) (r := []) (v := (some (.int 1))) (h' := h) (st' := [.int 1]) (c' := 0) (s' := 0) (pc' := 13) d_M_branch_10 rfl c_M_123 rfl rfl (Nat.le_of_ble_eq_true rfl) (Nat.le_of_ble_eq_true rfl) (Nat.le_of_ble_eq_true rfl) (fun Q' hq => c_M_out1 (by decide) ey hq) rfl rfl rfl ?_
      refine x_ifeq (t := 18) (pc' := 16) d_M_branch_13 rfl rfl (fun q => absurd q (by decide)) (fun _ => ?_)
      refine x_iconst (v := 0) (pc' := 17) d_M_branch_16 rfl (by decide) ?_
      exact x_ireturn d_M_branch_17 rfl rfl (key _ (by unfold sp_branch; rw [er, ey]))
    · have hR := hS.2 r hr
      have hv := sp_vi_ge (n := 40) (by decide) (fun k hk => Nat.lt_of_lt_of_le (hR.2.1 _ hR.1 k hk) h40)
      refine x_iload_n (pc' := 1) d_M_branch_0 rfl rfl ?_
      refine x_iconst (v := nI 2) (pc' := 2) d_M_branch_1 rfl (by decide) ?_
      refine x_static (as := [.int (nI r), .int (nI 2)]) (r := []) (v := (some (.int 0))) (h' := h) (st' := [.int 0]) (c' := 0) (s' := 0) (pc' := 5) d_M_branch_2 rfl c_M_123 rfl rfl (Nat.le_of_ble_eq_true rfl) (Nat.le_of_ble_eq_true rfl) (Nat.le_of_ble_eq_true rfl) (fun Q' hq => c_M_out0 hr (by decide) hq) rfl rfl rfl ?_
      refine x_ifne (t := 16) (pc' := 8) d_M_branch_5 rfl rfl (fun q => absurd rfl q) (fun _ => ?_)
      refine x_iload_n (pc' := 9) d_M_branch_8 rfl rfl ?_
      refine x_iconst (v := nI 4) (pc' := 10) d_M_branch_9 rfl (by decide) ?_
      refine x_static (as := [.int (nI b), .int (nI 4)]) (r := []) (v := (some (.int 0))) (h' := h) (st' := [.int 0]) (c' := 0) (s' := 0) (pc' := 13) d_M_branch_10 rfl c_M_123 rfl rfl (Nat.le_of_ble_eq_true rfl) (Nat.le_of_ble_eq_true rfl) (Nat.le_of_ble_eq_true rfl) (fun Q' hq => c_M_out0 hb (by decide) hq) rfl rfl rfl ?_
      refine x_ifeq (t := 18) (pc' := 16) d_M_branch_13 rfl rfl (fun _ => ?_) (fun q => absurd rfl q)
      refine x_aload_n (pc' := 19) d_M_branch_18 rfl rfl ?_
      refine x_iload_n (pc' := 20) d_M_branch_19 rfl rfl ?_
      refine x_iload_n (pc' := 21) d_M_branch_20 rfl rfl ?_
      refine x_virtual (a := 29) (as := [.int (nI r), .int (nI b)]) (r := []) (v := (some (.int (sp_bi (decide (sp_tip (S.2 r) b ≠ none)))))) (h' := h) (st' := [.int (sp_bi (decide (sp_tip (S.2 r) b ≠ none)))]) (c' := 0) (s' := 0) (pc' := 24) d_M_branch_21 rfl c_M_130 hO rfl rfl (Nat.le_of_ble_eq_true rfl) (Nat.le_of_ble_eq_true rfl) (Nat.le_of_ble_eq_true rfl) (fun Q' hq => c_M_there hO hK hS hr hb hq) rfl rfl rfl ?_
      by_cases h1 : sp_tip (S.2 r) b = none
      · refine x_ifne (t := 35) (pc' := 27) d_M_branch_24 rfl rfl (fun q => absurd (by rw [decide_eq_false (fun z => z h1)]; rfl) q) (fun _ => ?_)
        refine x_aload_n (pc' := 28) d_M_branch_27 rfl rfl ?_
        refine x_iload_n (pc' := 29) d_M_branch_28 rfl rfl ?_
        refine x_virtual (a := 29) (as := [.int (nI r)]) (r := []) (v := (some (.int (sp_vi (sp_head (S.2 r)))))) (h' := h) (st' := [.int (sp_vi (sp_head (S.2 r)))]) (c' := 0) (s' := 0) (pc' := 32) d_M_branch_29 rfl c_M_111 hO rfl rfl (Nat.le_of_ble_eq_true rfl) (Nat.le_of_ble_eq_true rfl) (Nat.le_of_ble_eq_true rfl) (fun Q' hq => c_M_head hO hK hr hR.1 hq) rfl rfl rfl ?_
        by_cases h2 : sp_head (S.2 r) = none
        · refine x_ifge (t := 37) (pc' := 35) d_M_branch_32 rfl rfl (fun q => absurd q (by rw [h2]; decide)) (fun _ => ?_)
          refine x_iconst (v := 0) (pc' := 36) d_M_branch_35 rfl (by decide) ?_
          exact x_ireturn d_M_branch_36 rfl rfl (key _ (by unfold sp_branch; rw [er, eb]; dsimp only; rw [if_pos (Or.inr h2)]))
        · have e9 : sp_branch S (nI r) (nI b) = (1, sp_set S r (sp_up (sp_tip (S.2 r)) b (sp_head (S.2 r)), sp_cur (S.2 r), sp_held (S.2 r), sp_wk (S.2 r), sp_ix (S.2 r))) := by unfold sp_branch; rw [er, eb]; dsimp only; rw [if_neg (by rintro (z | z); exact z h1; exact h2 z)]
          rw [e9] at hQ
          refine x_ifge (t := 37) (pc' := 35) d_M_branch_32 rfl rfl (fun _ => ?_) (fun q => absurd (Int32.not_lt.mp (fun z => h2 (hv.1.mp z))) q)
          refine x_aload_n (pc' := 38) d_M_branch_37 rfl rfl ?_
          refine x_getfield (ci := 4) (i := 5) (v := .ref 34) (pc' := 41) d_M_branch_38 rfl g_M_23 hO rfl ?_
          refine x_iconst (v := nI 4) (pc' := 42) d_M_branch_41 rfl (by decide) ?_
          refine x_iload_n (pc' := 43) d_M_branch_42 rfl rfl ?_
          refine x_imul (z := nI (4 * r)) (pc' := 44) d_M_branch_43 rfl (pk_mul 4 r) ?_
          refine x_iload_n (pc' := 45) d_M_branch_44 rfl rfl ?_
          refine x_iadd (z := nI (4 * r + b)) (pc' := 46) d_M_branch_45 rfl (nI_add _ _) ?_
          refine x_aload_n (pc' := 47) d_M_branch_46 rfl rfl ?_
          refine x_iload_n (pc' := 48) d_M_branch_47 rfl rfl ?_
          refine x_virtual (a := 29) (as := [.int (nI r)]) (r := [.int (nI (4 * r + b)), .ref 34]) (v := (some (.int (sp_vi (sp_head (S.2 r)))))) (h' := h) (st' := [.int (sp_vi (sp_head (S.2 r))), .int (nI (4 * r + b)), .ref 34]) (c' := 0) (s' := 0) (pc' := 51) d_M_branch_48 rfl c_M_111 hO rfl rfl (Nat.le_of_ble_eq_true rfl) (Nat.le_of_ble_eq_true rfl) (Nat.le_of_ble_eq_true rfl) (fun Q' hq => c_M_head hO hK hr hR.1 hq) rfl rfl rfl ?_
          refine x_iastore (h' := (h.set 34 (.inl (.int, 8, .inl (upd t (nI (4 * r + b)).toNatClampNeg (sp_vi (sp_head (S.2 r)))))))) (pc' := 52) d_M_branch_51 rfl t1 (vp_in_nI (by omega) (by decide)) rfl ?_
          refine x_iconst (v := 1) (pc' := 53) d_M_branch_52 rfl (by decide) ?_
          exact x_ireturn d_M_branch_53 rfl rfl (hQ _ (mh_set hM (by decide) rfl (mk_tip hr t1 hb _ (mk_self hK))) (xl_set (by decide)))
      · refine x_ifne (t := 35) (pc' := 27) d_M_branch_24 rfl rfl (fun _ => ?_) (fun q => absurd q (by rw [decide_eq_true h1]; decide))
        refine x_iconst (v := 0) (pc' := 36) d_M_branch_35 rfl (by decide) ?_
        exact x_ireturn d_M_branch_36 rfl rfl (key _ (by unfold sp_branch; rw [er, eb]; dsimp only; rw [if_pos (Or.inl h1)]))
theorem c_M_drop {L : Nat} {xs : Nat → Int32} {d : Nat} {h : xm_H} {Q : xm_Q} {S : sp_S} (hM : mh h S) (hS : sp_WS S) {x y : Int32} (hQ : ∀ h', mh h' (sp_drop S x y).2 → xl_fr sp_M29 h h' → Q (some (.int (sp_drop S x y).1)) h') : xm_call L xs (d + 2) m_M_drop [.ref 29, .int x, .int y] h Q := by
  obtain ⟨hK, ⟨tk, hO⟩, hw⟩ := id hM
  have h40 := hK.1
  obtain ⟨t, t1, t2⟩ := hK.2.2.2.2.2.1
  obtain ⟨v, v1, v2⟩ := hK.2.2.2.2.2.2.1
  obtain ⟨w, w1, w2⟩ := hK.2.2.2.2.2.2.2.1
  obtain ⟨u, u1, u2⟩ := hK.2.2.2.2.2.2.2.2
  have key : ∀ z, sp_drop S x y = (z, S) → Q (some (.int z)) h := fun z e9 => by
    rw [e9] at hQ
    exact hQ h hM xl_rf
  refine x_call (lo := [.ref 29, .int x, .int y]) (Nat.le_of_ble_eq_true rfl) rfl ?_
  rcases sp_in_cases 2 (by decide) x with ⟨_, ex⟩ | ⟨_, _, ex⟩ | ⟨r, hr, rfl, er⟩
  · refine x_iload_n (pc' := 1) d_M_drop_0 rfl rfl ?_
    refine x_iconst (v := nI 2) (pc' := 2) d_M_drop_1 rfl (by decide) ?_
    refine x_static (as := [.int x, .int (nI 2)]) (r := []) (v := (some (.int 1))) (h' := h) (st' := [.int 1]) (c' := 0) (s' := 0) (pc' := 5) d_M_drop_2 rfl c_M_123 rfl rfl (Nat.le_of_ble_eq_true rfl) (Nat.le_of_ble_eq_true rfl) (Nat.le_of_ble_eq_true rfl) (fun Q' hq => c_M_out1 (by decide) ex hq) rfl rfl rfl ?_
    refine x_ifne (t := 16) (pc' := 8) d_M_drop_5 rfl rfl (fun _ => ?_) (fun q => absurd q (by decide))
    refine x_iconst (v := 0) (pc' := 17) d_M_drop_16 rfl (by decide) ?_
    exact x_ireturn d_M_drop_17 rfl rfl (key _ (by unfold sp_drop; rw [ex]))
  · refine x_iload_n (pc' := 1) d_M_drop_0 rfl rfl ?_
    refine x_iconst (v := nI 2) (pc' := 2) d_M_drop_1 rfl (by decide) ?_
    refine x_static (as := [.int x, .int (nI 2)]) (r := []) (v := (some (.int 1))) (h' := h) (st' := [.int 1]) (c' := 0) (s' := 0) (pc' := 5) d_M_drop_2 rfl c_M_123 rfl rfl (Nat.le_of_ble_eq_true rfl) (Nat.le_of_ble_eq_true rfl) (Nat.le_of_ble_eq_true rfl) (fun Q' hq => c_M_out1 (by decide) ex hq) rfl rfl rfl ?_
    refine x_ifne (t := 16) (pc' := 8) d_M_drop_5 rfl rfl (fun _ => ?_) (fun q => absurd q (by decide))
    refine x_iconst (v := 0) (pc' := 17) d_M_drop_16 rfl (by decide) ?_
    exact x_ireturn d_M_drop_17 rfl rfl (key _ (by unfold sp_drop; rw [ex]))
  · rcases sp_in_cases 4 (by decide) y with ⟨_, ey⟩ | ⟨_, _, ey⟩ | ⟨b, hb, rfl, eb⟩
    · refine x_iload_n (pc' := 1) d_M_drop_0 rfl rfl ?_
      refine x_iconst (v := nI 2) (pc' := 2) d_M_drop_1 rfl (by decide) ?_
      refine x_static (as := [.int (nI r), .int (nI 2)]) (r := []) (v := (some (.int 0))) (h' := h) (st' := [.int 0]) (c' := 0) (s' := 0) (pc' := 5) d_M_drop_2 rfl c_M_123 rfl rfl (Nat.le_of_ble_eq_true rfl) (Nat.le_of_ble_eq_true rfl) (Nat.le_of_ble_eq_true rfl) (fun Q' hq => c_M_out0 hr (by decide) hq) rfl rfl rfl ?_
      refine x_ifne (t := 16) (pc' := 8) d_M_drop_5 rfl rfl (fun q => absurd rfl q) (fun _ => ?_)
      refine x_iload_n (pc' := 9) d_M_drop_8 rfl rfl ?_
      refine x_iconst (v := nI 4) (pc' := 10) d_M_drop_9 rfl (by decide) ?_
      refine x_static (as := [.int y, .int (nI 4)]) (r := []) (v := (some (.int 1))) (h' := h) (st' := [.int 1]) (c' := 0) (s' := 0) (pc' := 13) d_M_drop_10 rfl c_M_123 rfl rfl (Nat.le_of_ble_eq_true rfl) (Nat.le_of_ble_eq_true rfl) (Nat.le_of_ble_eq_true rfl) (fun Q' hq => c_M_out1 (by decide) ey hq) rfl rfl rfl ?_
      refine x_ifeq (t := 18) (pc' := 16) d_M_drop_13 rfl rfl (fun q => absurd q (by decide)) (fun _ => ?_)
      refine x_iconst (v := 0) (pc' := 17) d_M_drop_16 rfl (by decide) ?_
      exact x_ireturn d_M_drop_17 rfl rfl (key _ (by unfold sp_drop; rw [er, ey]))
    · refine x_iload_n (pc' := 1) d_M_drop_0 rfl rfl ?_
      refine x_iconst (v := nI 2) (pc' := 2) d_M_drop_1 rfl (by decide) ?_
      refine x_static (as := [.int (nI r), .int (nI 2)]) (r := []) (v := (some (.int 0))) (h' := h) (st' := [.int 0]) (c' := 0) (s' := 0) (pc' := 5) d_M_drop_2 rfl c_M_123 rfl rfl (Nat.le_of_ble_eq_true rfl) (Nat.le_of_ble_eq_true rfl) (Nat.le_of_ble_eq_true rfl) (fun Q' hq => c_M_out0 hr (by decide) hq) rfl rfl rfl ?_
      refine x_ifne (t := 16) (pc' := 8) d_M_drop_5 rfl rfl (fun q => absurd rfl q) (fun _ => ?_)
      refine x_iload_n (pc' := 9) d_M_drop_8 rfl rfl ?_
      refine x_iconst (v := nI 4) (pc' := 10) d_M_drop_9 rfl (by decide) ?_
      refine x_static (as := [.int y, .int (nI 4)]) (r := []) (v := (some (.int 1))) (h' := h) (st' := [.int 1]) (c' := 0) (s' := 0) (pc' := 13) d_M_drop_10 rfl c_M_123 rfl rfl (Nat.le_of_ble_eq_true rfl) (Nat.le_of_ble_eq_true rfl) (Nat.le_of_ble_eq_true rfl) (fun Q' hq => c_M_out1 (by decide) ey hq) rfl rfl rfl ?_
      refine x_ifeq (t := 18) (pc' := 16) d_M_drop_13 rfl rfl (fun q => absurd q (by decide)) (fun _ => ?_)
      refine x_iconst (v := 0) (pc' := 17) d_M_drop_16 rfl (by decide) ?_
      exact x_ireturn d_M_drop_17 rfl rfl (key _ (by unfold sp_drop; rw [er, ey]))
    · have hR := hS.2 r hr
      have hv := sp_vi_ge (n := 40) (by decide) (fun k hk => Nat.lt_of_lt_of_le (hR.2.1 _ hR.1 k hk) h40)
      refine x_iload_n (pc' := 1) d_M_drop_0 rfl rfl ?_
      refine x_iconst (v := nI 2) (pc' := 2) d_M_drop_1 rfl (by decide) ?_
      refine x_static (as := [.int (nI r), .int (nI 2)]) (r := []) (v := (some (.int 0))) (h' := h) (st' := [.int 0]) (c' := 0) (s' := 0) (pc' := 5) d_M_drop_2 rfl c_M_123 rfl rfl (Nat.le_of_ble_eq_true rfl) (Nat.le_of_ble_eq_true rfl) (Nat.le_of_ble_eq_true rfl) (fun Q' hq => c_M_out0 hr (by decide) hq) rfl rfl rfl ?_
      refine x_ifne (t := 16) (pc' := 8) d_M_drop_5 rfl rfl (fun q => absurd rfl q) (fun _ => ?_)
      refine x_iload_n (pc' := 9) d_M_drop_8 rfl rfl ?_
      refine x_iconst (v := nI 4) (pc' := 10) d_M_drop_9 rfl (by decide) ?_
      refine x_static (as := [.int (nI b), .int (nI 4)]) (r := []) (v := (some (.int 0))) (h' := h) (st' := [.int 0]) (c' := 0) (s' := 0) (pc' := 13) d_M_drop_10 rfl c_M_123 rfl rfl (Nat.le_of_ble_eq_true rfl) (Nat.le_of_ble_eq_true rfl) (Nat.le_of_ble_eq_true rfl) (fun Q' hq => c_M_out0 hb (by decide) hq) rfl rfl rfl ?_
      refine x_ifeq (t := 18) (pc' := 16) d_M_drop_13 rfl rfl (fun _ => ?_) (fun q => absurd rfl q)
      refine x_aload_n (pc' := 19) d_M_drop_18 rfl rfl ?_
      refine x_iload_n (pc' := 20) d_M_drop_19 rfl rfl ?_
      refine x_iload_n (pc' := 21) d_M_drop_20 rfl rfl ?_
      refine x_virtual (a := 29) (as := [.int (nI r), .int (nI b)]) (r := []) (v := (some (.int (sp_bi (decide (sp_tip (S.2 r) b ≠ none)))))) (h' := h) (st' := [.int (sp_bi (decide (sp_tip (S.2 r) b ≠ none)))]) (c' := 0) (s' := 0) (pc' := 24) d_M_drop_21 rfl c_M_130 hO rfl rfl (Nat.le_of_ble_eq_true rfl) (Nat.le_of_ble_eq_true rfl) (Nat.le_of_ble_eq_true rfl) (fun Q' hq => c_M_there hO hK hS hr hb hq) rfl rfl rfl ?_
      by_cases h1 : sp_tip (S.2 r) b = none
      · refine x_ifeq (t := 37) (pc' := 27) d_M_drop_24 rfl rfl (fun _ => ?_) (fun q => absurd (by rw [decide_eq_false (fun z => z h1)]; rfl) q)
        refine x_iconst (v := 0) (pc' := 38) d_M_drop_37 rfl (by decide) ?_
        exact x_ireturn d_M_drop_38 rfl rfl (key _ (by unfold sp_drop; rw [er, eb]; dsimp only; rw [if_pos (Or.inl h1)]))
      · refine x_ifeq (t := 37) (pc' := 27) d_M_drop_24 rfl rfl (fun q => absurd q (by rw [decide_eq_true h1]; decide)) (fun _ => ?_)
        refine x_iload_n (pc' := 28) d_M_drop_27 rfl rfl ?_
        refine x_aload_n (pc' := 29) d_M_drop_28 rfl rfl ?_
        refine x_getfield (ci := 4) (i := 6) (v := .ref 35) (pc' := 32) d_M_drop_29 rfl g_M_26 hO rfl ?_
        refine x_iload_n (pc' := 33) d_M_drop_32 rfl rfl ?_
        refine x_iaload (v := nI (sp_cur (S.2 r))) (pc' := 34) d_M_drop_33 rfl v1 (vp_in_nI (by omega) (by decide)) (by rw [nI_clamp (by omega)]; exact v2 r hr) ?_
        by_cases h2 : sp_cur (S.2 r) = b
        · refine x_icmpne (t := 39) (pc' := 37) d_M_drop_34 rfl rfl (fun q => absurd (by rw [h2]) q) (fun _ => ?_)
          refine x_iconst (v := 0) (pc' := 38) d_M_drop_37 rfl (by decide) ?_
          exact x_ireturn d_M_drop_38 rfl rfl (key _ (by unfold sp_drop; rw [er, eb]; dsimp only; rw [if_pos (Or.inr h2)]))
        · have e9 : sp_drop S (nI r) (nI b) = (1, sp_set S r (sp_up (sp_tip (S.2 r)) b none, sp_cur (S.2 r), sp_held (S.2 r), sp_wk (S.2 r), sp_ix (S.2 r))) := by unfold sp_drop; rw [er, eb]; dsimp only; rw [if_neg (by rintro (z | z); exact h1 z; exact h2 z)]
          rw [e9] at hQ
          refine x_icmpne (t := 39) (pc' := 37) d_M_drop_34 rfl rfl (fun _ => ?_) (fun q => absurd q (fun z => h2 (sp_nI_inj (by omega) (by have := hR.1; omega) z).symm))
          refine x_aload_n (pc' := 40) d_M_drop_39 rfl rfl ?_
          refine x_getfield (ci := 4) (i := 5) (v := .ref 34) (pc' := 43) d_M_drop_40 rfl g_M_23 hO rfl ?_
          refine x_iconst (v := nI 4) (pc' := 44) d_M_drop_43 rfl (by decide) ?_
          refine x_iload_n (pc' := 45) d_M_drop_44 rfl rfl ?_
          refine x_imul (z := nI (4 * r)) (pc' := 46) d_M_drop_45 rfl (pk_mul 4 r) ?_
          refine x_iload_n (pc' := 47) d_M_drop_46 rfl rfl ?_
          refine x_iadd (z := nI (4 * r + b)) (pc' := 48) d_M_drop_47 rfl (nI_add _ _) ?_
          refine x_bipush (v := sp_vi none) (pc' := 50) d_M_drop_48 rfl (by decide) ?_
          refine x_iastore (h' := (h.set 34 (.inl (.int, 8, .inl (upd t (nI (4 * r + b)).toNatClampNeg (sp_vi none)))))) (pc' := 51) d_M_drop_50 rfl t1 (vp_in_nI (by omega) (by decide)) rfl ?_
          refine x_iconst (v := 1) (pc' := 52) d_M_drop_51 rfl (by decide) ?_
          exact x_ireturn d_M_drop_52 rfl rfl (hQ _ (mh_set hM (by decide) rfl (mk_tip hr t1 hb none (mk_self hK))) (xl_set (by decide)))
