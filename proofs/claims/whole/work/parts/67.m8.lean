/-! moveTo, checkout, make, putJoined, commit of the reference. (Printed by c_m8.py.) -/
def sp_mx (t u : sp_T) (k : Nat) : sp_T := fun f => if f < k then t f else u f
theorem sp_mx_s (t u : sp_T) (k : Nat) : sp_up (sp_mx t u k) k (t k) = sp_mx t u (k + 1) := by
  funext f
  unfold sp_up sp_mx
  by_cases h : f = k
  · rw [if_pos h, if_pos (by omega), h]
  · rw [if_neg h]
    by_cases h2 : f < k
    · rw [if_pos h2, if_pos (by omega)]
    · rw [if_neg h2, if_neg (by omega)]
theorem sp_mx_4 (t u : sp_T) {f : Nat} (h : f < 4) : t f = sp_mx t u 4 f := (if_pos h).symm
theorem sp_mx_0 (t u : sp_T) (f : Nat) : sp_mx t u 0 f = u f := if_neg (Nat.not_lt_zero f)
theorem mk_c4 {h : xm_H} {S : sp_S} {r : Nat} {R R' : sp_R} (hr : r < 2) (e1 : sp_tip R' = sp_tip R) (e2 : sp_cur R' = sp_cur R) (e3 : sp_held R' = sp_held R) (e4 : ∀ f, f < 4 → sp_wk R' f = sp_wk R f) (e5 : ∀ f, f < 4 → sp_ix R' f = sp_ix R f) (a : mk h (sp_set S r R)) : mk h (sp_set S r R') := by
  obtain ⟨h0, b1, b2, b3, ⟨g, g1, g2⟩, ⟨t, u1, u2⟩, ⟨w, w1, w2⟩, ⟨x, x1, x2⟩, ⟨y, y1, y2⟩⟩ := a
  refine ⟨h0, b1, b2, b3, ⟨g, g1, fun k hk => (g2 k hk).trans (congrArg lN (sp_upg (F := S.2) (r := r) (R := R) (R' := R') sp_held e3 k).symm)⟩, ⟨t, u1, fun k hk b hb => (u2 k hk b hb).trans (congrArg sp_vi (congrFun (sp_upg (F := S.2) (r := r) (R := R) (R' := R') sp_tip e1 k).symm b))⟩, ⟨w, w1, fun k hk => (w2 k hk).trans (congrArg nI (sp_upg (F := S.2) (r := r) (R := R) (R' := R') sp_cur e2 k).symm)⟩, ⟨x, x1, fun k hk f hf => (x2 k hk f hf).trans (congrArg sp_tv ?_)⟩, ⟨y, y1, fun k hk f hf => (y2 k hk f hf).trans (congrArg sp_tv ?_)⟩⟩
  · exact (sp_upg (F := S.2) (r := r) (R := R) (R' := R') (fun R => sp_wk R f) (e4 f hf) k).symm
  · exact (sp_upg (F := S.2) (r := r) (R := R) (R' := R') (fun R => sp_ix R f) (e5 f hf) k).symm
abbrev sp_MV : Nat → Prop := fun k => 34 ≤ k ∧ k ≤ 37
theorem l_M_moveTo {L : Nat} {xs : Nat → Int32} {d : Nat} {h : xm_H} {Q : xm_Q} {S : sp_S} {tk : Int32} {r c C M : Nat} {T : Nat → Option Nat} {W X : sp_T} (hr : r < 2) (hc : c < sp_n S.1) (hQ : ∀ h', mk h' (sp_set S r (T, C, M, sp_of S.1 (some c), sp_of S.1 (some c))) → mo h' (sp_n S.1) tk → xl_fr sp_MV h h' → Q (some (.int (nI c))) h') :
    ∀ z k, k + z = 4 → ∀ h1, mk h1 (sp_set S r (T, C, M, sp_mx (sp_of S.1 (some c)) W k, sp_mx (sp_of S.1 (some c)) X k)) → mo h1 (sp_n S.1) tk → xl_fr sp_MV h h1 → xm_X L xs (xm_call L xs (d + 1)) m_M_moveTo (18, [.ref 29, .int (nI r), .int (nI c), .int (nI k)], [], h1, 0, 0) Q := by
  intro z
  induction z with
  | zero =>
    intro k hk h1 a1 hO hf
    have hk : k = 4 := hk
    subst hk
    refine x_iload_n (pc' := 19) d_M_moveTo_18 rfl rfl ?_
    refine x_iconst (v := nI 4) (pc' := 20) d_M_moveTo_19 rfl (by decide) ?_
    refine x_icmpge (t := 61) (pc' := 23) d_M_moveTo_20 rfl rfl (fun _ => ?_) (fun q => absurd (nI_le (Nat.le_refl _) (by decide)) q)
    refine x_iload_n (pc' := 62) d_M_moveTo_61 rfl rfl ?_
    exact x_ireturn d_M_moveTo_62 rfl rfl (hQ h1 (mk_c4 (R := (T, C, M, sp_mx (sp_of S.1 (some c)) W 4, sp_mx (sp_of S.1 (some c)) X 4)) hr rfl rfl rfl (fun f hf => sp_mx_4 _ _ hf) (fun f hf => sp_mx_4 _ _ hf) a1) hO hf)
  | succ z ih =>
    intro k hk h1 a1 hO hf
    have hk4 : k < 4 := by omega
    obtain ⟨w, w1, w2⟩ := a1.2.2.2.2.2.2.2.1
    obtain ⟨u, u1, u2⟩ := a1.2.2.2.2.2.2.2.2
    refine x_iload_n (pc' := 19) d_M_moveTo_18 rfl rfl ?_
    refine x_iconst (v := nI 4) (pc' := 20) d_M_moveTo_19 rfl (by decide) ?_
    refine x_icmpge (t := 61) (pc' := 23) d_M_moveTo_20 rfl rfl (fun q => absurd q (nI_ge hk4 (by decide))) (fun _ => ?_)
    refine x_aload_n (pc' := 24) d_M_moveTo_23 rfl rfl ?_
    refine x_getfield (ci := 4) (i := 7) (v := .ref 36) (pc' := 27) d_M_moveTo_24 rfl g_M_29 hO rfl ?_
    refine x_iconst (v := nI 4) (pc' := 28) d_M_moveTo_27 rfl (by decide) ?_
    refine x_iload_n (pc' := 29) d_M_moveTo_28 rfl rfl ?_
    refine x_imul (z := nI (4 * r)) (pc' := 30) d_M_moveTo_29 rfl (pk_mul 4 r) ?_
    refine x_iload_n (pc' := 31) d_M_moveTo_30 rfl rfl ?_
    refine x_iadd (z := nI (4 * r + k)) (pc' := 32) d_M_moveTo_31 rfl (nI_add _ _) ?_
    refine x_aload_n (pc' := 33) d_M_moveTo_32 rfl rfl ?_
    refine x_iload_n (pc' := 34) d_M_moveTo_33 rfl rfl ?_
    refine x_iload_n (pc' := 35) d_M_moveTo_34 rfl rfl ?_
    refine x_virtual (a := 29) (as := [.int (nI c), .int (nI k)]) (r := [.int (nI (4 * r + k)), .ref 36]) (v := (some (.long (sp_tv (sp_of S.1 (some c) k))))) (h' := h1) (st' := [.long (sp_tv (sp_of S.1 (some c) k)), .int (nI (4 * r + k)), .ref 36]) (c' := 0) (s' := 0) (pc' := 38) d_M_moveTo_35 rfl c_M_115 hO rfl rfl (Nat.le_of_ble_eq_true rfl) (Nat.le_of_ble_eq_true rfl) (Nat.le_of_ble_eq_true rfl) (fun Q' hq => c_M_textOf1 (S := sp_set S r _) hO a1 hc hk4 hq) rfl rfl rfl ?_
    refine x_lastore (h' := (h1.set 36 (.inl (.long, 8, .inr (.inl (vp_updL w (nI (4 * r + k)).toNatClampNeg (sp_tv (sp_of S.1 (some c) k)))))))) (pc' := 39) d_M_moveTo_38 rfl w1 (vp_in_nI (by omega) (by decide)) rfl ?_
    have a2 := mk_wk hr w1 hk4 (sp_of S.1 (some c) k) a1
    have hO2 : mo (h1.set 36 (.inl (.long, 8, .inr (.inl (vp_updL w (nI (4 * r + k)).toNatClampNeg (sp_tv (sp_of S.1 (some c) k))))))) (sp_n S.1) tk := (xl_ne (by decide)).trans hO
    refine x_aload_n (pc' := 40) d_M_moveTo_39 rfl rfl ?_
    refine x_getfield (ci := 4) (i := 8) (v := .ref 37) (pc' := 43) d_M_moveTo_40 rfl g_M_32 hO2 rfl ?_
    refine x_iconst (v := nI 4) (pc' := 44) d_M_moveTo_43 rfl (by decide) ?_
    refine x_iload_n (pc' := 45) d_M_moveTo_44 rfl rfl ?_
    refine x_imul (z := nI (4 * r)) (pc' := 46) d_M_moveTo_45 rfl (pk_mul 4 r) ?_
    refine x_iload_n (pc' := 47) d_M_moveTo_46 rfl rfl ?_
    refine x_iadd (z := nI (4 * r + k)) (pc' := 48) d_M_moveTo_47 rfl (nI_add _ _) ?_
    refine x_aload_n (pc' := 49) d_M_moveTo_48 rfl rfl ?_
    refine x_iload_n (pc' := 50) d_M_moveTo_49 rfl rfl ?_
    refine x_iload_n (pc' := 51) d_M_moveTo_50 rfl rfl ?_
    refine x_virtual (a := 29) (as := [.int (nI c), .int (nI k)]) (r := [.int (nI (4 * r + k)), .ref 37]) (v := (some (.long (sp_tv (sp_of S.1 (some c) k))))) (h' := (h1.set 36 (.inl (.long, 8, .inr (.inl (vp_updL w (nI (4 * r + k)).toNatClampNeg (sp_tv (sp_of S.1 (some c) k)))))))) (st' := [.long (sp_tv (sp_of S.1 (some c) k)), .int (nI (4 * r + k)), .ref 37]) (c' := 0) (s' := 0) (pc' := 54) d_M_moveTo_51 rfl c_M_115 hO2 rfl rfl (Nat.le_of_ble_eq_true rfl) (Nat.le_of_ble_eq_true rfl) (Nat.le_of_ble_eq_true rfl) (fun Q' hq => c_M_textOf1 (S := sp_set S r _) hO2 a2 hc hk4 hq) rfl rfl rfl ?_
    refine x_lastore (h' := ((h1.set 36 (.inl (.long, 8, .inr (.inl (vp_updL w (nI (4 * r + k)).toNatClampNeg (sp_tv (sp_of S.1 (some c) k))))))).set 37 (.inl (.long, 8, .inr (.inl (vp_updL u (nI (4 * r + k)).toNatClampNeg (sp_tv (sp_of S.1 (some c) k)))))))) (pc' := 55) d_M_moveTo_54 rfl ((xl_ne (by decide)).trans u1) (vp_in_nI (by omega) (by decide)) rfl ?_
    refine x_iinc (y := nI (k + 1)) (lo' := [.ref 29, .int (nI r), .int (nI c), .int (nI (k + 1))]) (pc' := 58) d_M_moveTo_55 rfl rfl (sp_nI_inc k) rfl ?_
    refine x_goto (t := 18) d_M_moveTo_58 rfl ?_
    have a3 : mk ((h1.set 36 (.inl (.long, 8, .inr (.inl (vp_updL w (nI (4 * r + k)).toNatClampNeg (sp_tv (sp_of S.1 (some c) k))))))).set 37 (.inl (.long, 8, .inr (.inl (vp_updL u (nI (4 * r + k)).toNatClampNeg (sp_tv (sp_of S.1 (some c) k))))))) (sp_set S r (T, C, M, sp_mx (sp_of S.1 (some c)) W (k + 1), sp_mx (sp_of S.1 (some c)) X (k + 1))) := by
      rw [← sp_mx_s (sp_of S.1 (some c)) W k, ← sp_mx_s (sp_of S.1 (some c)) X k]
      exact mk_ix hr ((xl_ne (by decide)).trans u1) hk4 (sp_of S.1 (some c) k) a2
    exact ih (k + 1) (by omega) ((h1.set 36 (.inl (.long, 8, .inr (.inl (vp_updL w (nI (4 * r + k)).toNatClampNeg (sp_tv (sp_of S.1 (some c) k))))))).set 37 (.inl (.long, 8, .inr (.inl (vp_updL u (nI (4 * r + k)).toNatClampNeg (sp_tv (sp_of S.1 (some c) k))))))) a3 ((xl_ne (by decide)).trans hO2) (xl_tr hf (xl_tr (xl_set (by decide)) (xl_set (by decide))))
theorem c_M_moveTo {L : Nat} {xs : Nat → Int32} {d : Nat} {h : xm_H} {Q : xm_Q} {S : sp_S} {tk : Int32} {r c : Nat} {R : sp_R} (a : mk h (sp_set S r R)) (hO : mo h (sp_n S.1) tk) (hr : r < 2) (hC : sp_cur R < 4) (hc : c < sp_n S.1) (hQ : ∀ h', mk h' (sp_set S r (sp_up (sp_tip R) (sp_cur R) (some c), sp_cur R, sp_held R, sp_of S.1 (some c), sp_of S.1 (some c))) → mo h' (sp_n S.1) tk → xl_fr sp_MV h h' → Q (some (.int (nI c))) h') : xm_call L xs (d + 2) m_M_moveTo [.ref 29, .int (nI r), .int (nI c)] h Q := by
  obtain ⟨t, t1, t2⟩ := a.2.2.2.2.2.1
  obtain ⟨v, v1, v2⟩ := a.2.2.2.2.2.2.1
  refine x_call (lo := [.ref 29, .int (nI r), .int (nI c), .float 0]) (Nat.le_of_ble_eq_true rfl) rfl ?_
  refine x_aload_n (pc' := 1) d_M_moveTo_0 rfl rfl ?_
  refine x_getfield (ci := 4) (i := 5) (v := .ref 34) (pc' := 4) d_M_moveTo_1 rfl g_M_23 hO rfl ?_
  refine x_iconst (v := nI 4) (pc' := 5) d_M_moveTo_4 rfl (by decide) ?_
  refine x_iload_n (pc' := 6) d_M_moveTo_5 rfl rfl ?_
  refine x_imul (z := nI (4 * r)) (pc' := 7) d_M_moveTo_6 rfl (pk_mul 4 r) ?_
  refine x_aload_n (pc' := 8) d_M_moveTo_7 rfl rfl ?_
  refine x_getfield (ci := 4) (i := 6) (v := .ref 35) (pc' := 11) d_M_moveTo_8 rfl g_M_26 hO rfl ?_
  refine x_iload_n (pc' := 12) d_M_moveTo_11 rfl rfl ?_
  refine x_iaload (v := nI (sp_cur R)) (pc' := 13) d_M_moveTo_12 rfl v1 (vp_in_nI hr (by decide)) (by rw [nI_clamp (by omega), v2 r hr, show (sp_set S r R).2 r = R from sp_up_at]) ?_
  refine x_iadd (z := nI (4 * r + sp_cur R)) (pc' := 14) d_M_moveTo_13 rfl (nI_add _ _) ?_
  refine x_iload_n (pc' := 15) d_M_moveTo_14 rfl rfl ?_
  refine x_iastore (h' := (h.set 34 (.inl (.int, 8, .inl (upd t (nI (4 * r + sp_cur R)).toNatClampNeg (sp_vi (some c))))))) (pc' := 16) d_M_moveTo_15 rfl t1 (vp_in_nI (by omega) (by decide)) rfl ?_
  refine x_iconst (v := nI 0) (pc' := 17) d_M_moveTo_16 rfl (by decide) ?_
  refine x_istore_n (lo' := [.ref 29, .int (nI r), .int (nI c), .int (nI 0)]) (pc' := 18) d_M_moveTo_17 rfl (Nat.le_of_ble_eq_true rfl) rfl ?_
  refine l_M_moveTo (W := sp_wk R) (X := sp_ix R) hr hc (fun h' z1 z2 z3 => hQ h' z1 z2 (xl_tr (xl_set (by decide)) z3)) 4 0 rfl _ (mk_c4 (R := (sp_up (sp_tip R) (sp_cur R) (some c), sp_cur R, sp_held R, sp_wk R, sp_ix R)) hr rfl rfl rfl (fun f hf => sp_mx_0 (sp_of S.1 (some c)) (sp_wk R) f) (fun f hf => sp_mx_0 (sp_of S.1 (some c)) (sp_ix R) f) (mk_tip hr t1 hC (some c) a)) ((xl_ne (by decide)).trans hO) xl_rf
theorem mh_of {h h' : xm_H} {S S' : sp_S} {tk : Int32} (hM : mh h S) (hk : mk h' S') (hO : mo h' (sp_n S'.1) tk) (f : ∀ k, 38 ≤ k → k ≤ 46 → h'[k]? = h[k]?) : mh h' S' := ⟨hk, ⟨tk, hO⟩, mw_go hM.2.2 f⟩
set_option maxHeartbeats 4000000 in
theorem c_M_checkout {L : Nat} {xs : Nat → Int32} {d : Nat} {h : xm_H} {Q : xm_Q} {S : sp_S} (hM : mh h S) (hS : sp_WS S) {x y : Int32} (hQ : ∀ h', mh h' (sp_checkout S x y).2 → xl_fr sp_M29 h h' → Q (some (.int (sp_checkout S x y).1)) h') : xm_call L xs (d + 4) m_M_checkout [.ref 29, .int x, .int y] h Q := by
  obtain ⟨hK, ⟨tk, hO⟩, hw⟩ := id hM
  have h40 := hK.1
  obtain ⟨v, v1, v2⟩ := hK.2.2.2.2.2.2.1
  have key : ∀ z, sp_checkout S x y = (z, S) → Q (some (.int z)) h := fun z e9 => by
    rw [e9] at hQ
    exact hQ h hM xl_rf
  refine x_call (lo := [.ref 29, .int x, .int y]) (Nat.le_of_ble_eq_true rfl) rfl ?_
  rcases sp_in_cases 2 (by decide) x with ⟨_, ex⟩ | ⟨_, _, ex⟩ | ⟨r, hr, rfl, er⟩
  · refine x_iload_n (pc' := 1) d_M_checkout_0 rfl rfl ?_
    refine x_iconst (v := nI 2) (pc' := 2) d_M_checkout_1 rfl (by decide) ?_
    refine x_static (as := [.int x, .int (nI 2)]) (r := []) (v := (some (.int 1))) (h' := h) (st' := [.int 1]) (c' := 0) (s' := 0) (pc' := 5) d_M_checkout_2 rfl c_M_123 rfl rfl (Nat.le_of_ble_eq_true rfl) (Nat.le_of_ble_eq_true rfl) (Nat.le_of_ble_eq_true rfl) (fun Q' hq => c_M_out1 (by decide) ex hq) rfl rfl rfl ?_
    refine x_ifne (t := 16) (pc' := 8) d_M_checkout_5 rfl rfl (fun _ => ?_) (fun q => absurd q (by decide))
    refine x_iconst (v := (-1)) (pc' := 17) d_M_checkout_16 rfl (by decide) ?_
    exact x_ireturn d_M_checkout_17 rfl rfl (key _ (by unfold sp_checkout; rw [ex]))
  · refine x_iload_n (pc' := 1) d_M_checkout_0 rfl rfl ?_
    refine x_iconst (v := nI 2) (pc' := 2) d_M_checkout_1 rfl (by decide) ?_
    refine x_static (as := [.int x, .int (nI 2)]) (r := []) (v := (some (.int 1))) (h' := h) (st' := [.int 1]) (c' := 0) (s' := 0) (pc' := 5) d_M_checkout_2 rfl c_M_123 rfl rfl (Nat.le_of_ble_eq_true rfl) (Nat.le_of_ble_eq_true rfl) (Nat.le_of_ble_eq_true rfl) (fun Q' hq => c_M_out1 (by decide) ex hq) rfl rfl rfl ?_
    refine x_ifne (t := 16) (pc' := 8) d_M_checkout_5 rfl rfl (fun _ => ?_) (fun q => absurd q (by decide))
    refine x_iconst (v := (-1)) (pc' := 17) d_M_checkout_16 rfl (by decide) ?_
    exact x_ireturn d_M_checkout_17 rfl rfl (key _ (by unfold sp_checkout; rw [ex]))
  · rcases sp_in_cases 4 (by decide) y with ⟨_, ey⟩ | ⟨_, _, ey⟩ | ⟨b, hb, rfl, eb⟩
    · refine x_iload_n (pc' := 1) d_M_checkout_0 rfl rfl ?_
      refine x_iconst (v := nI 2) (pc' := 2) d_M_checkout_1 rfl (by decide) ?_
      refine x_static (as := [.int (nI r), .int (nI 2)]) (r := []) (v := (some (.int 0))) (h' := h) (st' := [.int 0]) (c' := 0) (s' := 0) (pc' := 5) d_M_checkout_2 rfl c_M_123 rfl rfl (Nat.le_of_ble_eq_true rfl) (Nat.le_of_ble_eq_true rfl) (Nat.le_of_ble_eq_true rfl) (fun Q' hq => c_M_out0 hr (by decide) hq) rfl rfl rfl ?_
      refine x_ifne (t := 16) (pc' := 8) d_M_checkout_5 rfl rfl (fun q => absurd rfl q) (fun _ => ?_)
      refine x_iload_n (pc' := 9) d_M_checkout_8 rfl rfl ?_
      refine x_iconst (v := nI 4) (pc' := 10) d_M_checkout_9 rfl (by decide) ?_
      refine x_static (as := [.int y, .int (nI 4)]) (r := []) (v := (some (.int 1))) (h' := h) (st' := [.int 1]) (c' := 0) (s' := 0) (pc' := 13) d_M_checkout_10 rfl c_M_123 rfl rfl (Nat.le_of_ble_eq_true rfl) (Nat.le_of_ble_eq_true rfl) (Nat.le_of_ble_eq_true rfl) (fun Q' hq => c_M_out1 (by decide) ey hq) rfl rfl rfl ?_
      refine x_ifeq (t := 18) (pc' := 16) d_M_checkout_13 rfl rfl (fun q => absurd q (by decide)) (fun _ => ?_)
      refine x_iconst (v := (-1)) (pc' := 17) d_M_checkout_16 rfl (by decide) ?_
      exact x_ireturn d_M_checkout_17 rfl rfl (key _ (by unfold sp_checkout; rw [er, ey]))
    · refine x_iload_n (pc' := 1) d_M_checkout_0 rfl rfl ?_
      refine x_iconst (v := nI 2) (pc' := 2) d_M_checkout_1 rfl (by decide) ?_
      refine x_static (as := [.int (nI r), .int (nI 2)]) (r := []) (v := (some (.int 0))) (h' := h) (st' := [.int 0]) (c' := 0) (s' := 0) (pc' := 5) d_M_checkout_2 rfl c_M_123 rfl rfl (Nat.le_of_ble_eq_true rfl) (Nat.le_of_ble_eq_true rfl) (Nat.le_of_ble_eq_true rfl) (fun Q' hq => c_M_out0 hr (by decide) hq) rfl rfl rfl ?_
      refine x_ifne (t := 16) (pc' := 8) d_M_checkout_5 rfl rfl (fun q => absurd rfl q) (fun _ => ?_)
      refine x_iload_n (pc' := 9) d_M_checkout_8 rfl rfl ?_
      refine x_iconst (v := nI 4) (pc' := 10) d_M_checkout_9 rfl (by decide) ?_
      refine x_static (as := [.int y, .int (nI 4)]) (r := []) (v := (some (.int 1))) (h' := h) (st' := [.int 1]) (c' := 0) (s' := 0) (pc' := 13) d_M_checkout_10 rfl c_M_123 rfl rfl (Nat.le_of_ble_eq_true rfl) (Nat.le_of_ble_eq_true rfl) (Nat.le_of_ble_eq_true rfl) (fun Q' hq => c_M_out1 (by decide) ey hq) rfl rfl rfl ?_
      refine x_ifeq (t := 18) (pc' := 16) d_M_checkout_13 rfl rfl (fun q => absurd q (by decide)) (fun _ => ?_)
      refine x_iconst (v := (-1)) (pc' := 17) d_M_checkout_16 rfl (by decide) ?_
      exact x_ireturn d_M_checkout_17 rfl rfl (key _ (by unfold sp_checkout; rw [er, ey]))
    · have hR := hS.2 r hr
      refine x_iload_n (pc' := 1) d_M_checkout_0 rfl rfl ?_
      refine x_iconst (v := nI 2) (pc' := 2) d_M_checkout_1 rfl (by decide) ?_
      refine x_static (as := [.int (nI r), .int (nI 2)]) (r := []) (v := (some (.int 0))) (h' := h) (st' := [.int 0]) (c' := 0) (s' := 0) (pc' := 5) d_M_checkout_2 rfl c_M_123 rfl rfl (Nat.le_of_ble_eq_true rfl) (Nat.le_of_ble_eq_true rfl) (Nat.le_of_ble_eq_true rfl) (fun Q' hq => c_M_out0 hr (by decide) hq) rfl rfl rfl ?_
      refine x_ifne (t := 16) (pc' := 8) d_M_checkout_5 rfl rfl (fun q => absurd rfl q) (fun _ => ?_)
      refine x_iload_n (pc' := 9) d_M_checkout_8 rfl rfl ?_
      refine x_iconst (v := nI 4) (pc' := 10) d_M_checkout_9 rfl (by decide) ?_
      refine x_static (as := [.int (nI b), .int (nI 4)]) (r := []) (v := (some (.int 0))) (h' := h) (st' := [.int 0]) (c' := 0) (s' := 0) (pc' := 13) d_M_checkout_10 rfl c_M_123 rfl rfl (Nat.le_of_ble_eq_true rfl) (Nat.le_of_ble_eq_true rfl) (Nat.le_of_ble_eq_true rfl) (fun Q' hq => c_M_out0 hb (by decide) hq) rfl rfl rfl ?_
      refine x_ifeq (t := 18) (pc' := 16) d_M_checkout_13 rfl rfl (fun _ => ?_) (fun q => absurd rfl q)
      refine x_aload_n (pc' := 19) d_M_checkout_18 rfl rfl ?_
      refine x_iload_n (pc' := 20) d_M_checkout_19 rfl rfl ?_
      refine x_iload_n (pc' := 21) d_M_checkout_20 rfl rfl ?_
      refine x_virtual (a := 29) (as := [.int (nI r), .int (nI b)]) (r := []) (v := (some (.int (sp_bi (decide (sp_tip (S.2 r) b ≠ none)))))) (h' := h) (st' := [.int (sp_bi (decide (sp_tip (S.2 r) b ≠ none)))]) (c' := 0) (s' := 0) (pc' := 24) d_M_checkout_21 rfl c_M_130 hO rfl rfl (Nat.le_of_ble_eq_true rfl) (Nat.le_of_ble_eq_true rfl) (Nat.le_of_ble_eq_true rfl) (fun Q' hq => c_M_there hO hK hS hr hb hq) rfl rfl rfl ?_
      rcases sp_oc (sp_tip (S.2 r) b) with h1 | ⟨c, h1⟩
      · refine x_ifne (t := 30) (pc' := 27) d_M_checkout_24 rfl rfl (fun q => absurd (by rw [h1]; rfl) q) (fun _ => ?_)
        refine x_bipush (v := (-2)) (pc' := 29) d_M_checkout_27 rfl (by decide) ?_
        exact x_ireturn d_M_checkout_29 rfl rfl (key _ (by unfold sp_checkout; rw [er, eb]; dsimp only; rw [h1]))
      · refine x_ifne (t := 30) (pc' := 27) d_M_checkout_24 rfl rfl (fun _ => ?_) (fun q => absurd q (by rw [decide_eq_true (show sp_tip (S.2 r) b ≠ none by rw [h1]; exact Option.some_ne_none _)]; decide))
        refine x_aload_n (pc' := 31) d_M_checkout_30 rfl rfl ?_
        refine x_iload_n (pc' := 32) d_M_checkout_31 rfl rfl ?_
        refine x_virtual (a := 29) (as := [.int (nI r)]) (r := []) (v := (some (.int (sp_bi (!sp_clean S.1 (S.2 r)))))) (h' := h) (st' := [.int (sp_bi (!sp_clean S.1 (S.2 r)))]) (c' := 0) (s' := 0) (pc' := 35) d_M_checkout_32 rfl c_M_133 hO rfl rfl (Nat.le_of_ble_eq_true rfl) (Nat.le_of_ble_eq_true rfl) (Nat.le_of_ble_eq_true rfl) (fun Q' hq => c_M_dirty hO hK hS hr hq) rfl rfl rfl ?_
        by_cases h2 : sp_clean S.1 (S.2 r) = true
        · have hc := hR.2.1 b hb c h1
          have a1 := mk_cur hr v1 b (mk_self (r := r) hK)
          have hO1 : mo (h.set 35 (.inl (.int, 2, .inl (upd v (nI r).toNatClampNeg (nI b))))) (sp_n S.1) tk := (xl_ne (by decide)).trans hO
          have e9 : sp_checkout S (nI r) (nI b) = (nI c, sp_set S r (sp_mv S.1 (sp_tip (S.2 r), b, sp_held (S.2 r), sp_wk (S.2 r), sp_ix (S.2 r)) c)) := by unfold sp_checkout; rw [er, eb]; dsimp only; rw [h1]; dsimp only; rw [if_pos h2]
          rw [e9] at hQ
          have hh : sp_held (S.2 r) ||| sp_rr S.1 c = sp_held (S.2 r) := by have := hR.2.2.2.1 b hb; rw [h1] at this; rw [Nat.or_comm]; exact this
          refine x_ifeq (t := 41) (pc' := 38) d_M_checkout_35 rfl rfl (fun _ => ?_) (fun q => absurd (by rw [h2]; rfl) q)
          refine x_aload_n (pc' := 42) d_M_checkout_41 rfl rfl ?_
          refine x_getfield (ci := 4) (i := 6) (v := .ref 35) (pc' := 45) d_M_checkout_42 rfl g_M_26 hO rfl ?_
          refine x_iload_n (pc' := 46) d_M_checkout_45 rfl rfl ?_
          refine x_iload_n (pc' := 47) d_M_checkout_46 rfl rfl ?_
          refine x_iastore (h' := (h.set 35 (.inl (.int, 2, .inl (upd v (nI r).toNatClampNeg (nI b)))))) (pc' := 48) d_M_checkout_47 rfl v1 (vp_in_nI hr (by decide)) rfl ?_
          refine x_aload_n (pc' := 49) d_M_checkout_48 rfl rfl ?_
          refine x_iload_n (pc' := 50) d_M_checkout_49 rfl rfl ?_
          refine x_aload_n (pc' := 51) d_M_checkout_50 rfl rfl ?_
          refine x_iload_n (pc' := 52) d_M_checkout_51 rfl rfl ?_
          refine x_virtual (a := 29) (as := [.int (nI r)]) (r := [.int (nI r), .ref 29]) (v := (some (.int (nI c)))) (h' := (h.set 35 (.inl (.int, 2, .inl (upd v (nI r).toNatClampNeg (nI b)))))) (st' := [.int (nI c), .int (nI r), .ref 29]) (c' := 0) (s' := 0) (pc' := 55) d_M_checkout_52 rfl c_M_111 hO1 rfl rfl (Nat.le_of_ble_eq_true rfl) (Nat.le_of_ble_eq_true rfl) (Nat.le_of_ble_eq_true rfl) (fun Q' hq => c_M_head (S := sp_set S r _) hO1 a1 hr (by rw [show (sp_set S r (sp_tip (S.2 r), b, sp_held (S.2 r), sp_wk (S.2 r), sp_ix (S.2 r))).2 r = (sp_tip (S.2 r), b, sp_held (S.2 r), sp_wk (S.2 r), sp_ix (S.2 r)) from sp_up_at]; exact hb) (by rw [show (sp_set S r (sp_tip (S.2 r), b, sp_held (S.2 r), sp_wk (S.2 r), sp_ix (S.2 r))).2 r = (sp_tip (S.2 r), b, sp_held (S.2 r), sp_wk (S.2 r), sp_ix (S.2 r)) from sp_up_at]; show Q' (some (.int (sp_vi (sp_tip (S.2 r) b)))) _; rw [h1]; exact hq)) rfl rfl rfl ?_
          refine x_virtualR (a := 29) (as := [.int (nI r), .int (nI c)]) (r := []) (Post := fun v9 h9 => v9 = some (.int (nI c)) ∧ mk h9 (sp_set S r (sp_up (sp_tip (S.2 r)) b (some c), b, sp_held (S.2 r), sp_of S.1 (some c), sp_of S.1 (some c))) ∧ mo h9 (sp_n S.1) tk ∧ xl_fr sp_MV (h.set 35 (.inl (.int, 2, .inl (upd v (nI r).toNatClampNeg (nI b))))) h9) (c' := 0) (s' := 0) (pc' := 58) d_M_checkout_55 rfl c_M_137 hO1 rfl rfl (Nat.le_of_ble_eq_true rfl) (Nat.le_of_ble_eq_true rfl) (Nat.le_of_ble_eq_true rfl) (fun Q' hq => c_M_moveTo a1 hO1 hr hb hc (fun h' z1 z2 z3 => hq _ h' ⟨rfl, z1, z2, z3⟩)) rfl rfl (fun v9 h2 hp => ?_)
          obtain ⟨rfl, a2, hO2, f2⟩ := hp
          show xm_X L xs (xm_call L xs (d + 3)) m_M_checkout (58, [.ref 29, .int (nI r), .int (nI b)], [.int (nI c)], h2, 0, 0) Q
          have f3 : xl_fr (fun k => 34 ≤ k ∧ k ≤ 37) h h2 := xl_tr (xl_set (by decide)) f2
          exact x_ireturn d_M_checkout_58 rfl rfl (hQ h2 (mh_of hM (by unfold sp_mv; rw [show sp_held (sp_tip (S.2 r), b, sp_held (S.2 r), sp_wk (S.2 r), sp_ix (S.2 r)) ||| sp_rr S.1 c = sp_held (S.2 r) from hh]; exact a2) hO2 (fun k z1 z2 => f3.2 k (by omega))) (xl_mono f3 (fun k z => by show 29 ≤ k; omega)))
        · refine x_ifeq (t := 41) (pc' := 38) d_M_checkout_35 rfl rfl (fun q => absurd q (by rw [Bool.eq_false_iff.mpr h2]; decide)) (fun _ => ?_)
          refine x_bipush (v := (-3)) (pc' := 40) d_M_checkout_38 rfl (by decide) ?_
          exact x_ireturn d_M_checkout_40 rfl rfl (key _ (by unfold sp_checkout; rw [er, eb]; dsimp only; rw [h1]; dsimp only; rw [if_neg h2]))
