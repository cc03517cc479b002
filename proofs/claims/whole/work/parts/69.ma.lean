/-! make, putJoined, commit of the reference. (Printed by c_ma.py.) -/
abbrev sp_MK : Nat → Prop := fun k => k = 29 ∨ (31 ≤ k ∧ k ≤ 33)
theorem mk_add {h h' : xm_H} {S : sp_S} {r : Nat} {R : sp_R} (hn : sp_n S.1 < 40) (hr : r < 2) {t : sp_T} {o1 o2 : Option Nat} {T' : Nat → Int64} (T1 : h'[30]? = some (.inl (.long, 160, .inr (.inl T')))) (T2 : ∀ j, j < 4 * sp_n S.1 → T' j = sp_tv (sp_tx S.1 j)) (T3 : ∀ f, f < 4 → T' (4 * sp_n S.1 + f) = sp_tv (t f))
    {P P' : Nat → Int32} {g : Nat → Int64} (p1 : h'[31]? = some (.inl (.int, 40, .inl (upd P (sp_n S.1) (sp_vi o1))))) (p2 : ∀ c, c < sp_n S.1 → P c = sp_vi (sp_p1 S.1 c)) (q1 : h'[32]? = some (.inl (.int, 40, .inl (upd P' (sp_n S.1) (sp_vi o2))))) (q2 : ∀ c, c < sp_n S.1 → P' c = sp_vi (sp_p2 S.1 c))
    (g1 : h'[33]? = some (.inl (.long, 2, .inr (.inl (vp_updL g r (lN (sp_held R ||| 2 ^ sp_n S.1))))))) (g2 : ∀ k, k < 2 → g k = lN (sp_held ((sp_set S r R).2 k))) (f : ∀ k, 34 ≤ k → k ≤ 37 → h'[k]? = h[k]?) (a : mk h (sp_set S r R)) :
    mk h' (sp_set (sp_add S.1 t o1 o2, S.2) r (sp_tip R, sp_cur R, sp_held R ||| 2 ^ sp_n S.1, sp_wk R, sp_ix R)) := by
  obtain ⟨-, -, -, -, -, ⟨v, u1, u2⟩, ⟨w, w1, w2⟩, ⟨x, x1, x2⟩, ⟨y, y1, y2⟩⟩ := a
  refine ⟨hn, ⟨T', T1, fun j hj => ?_⟩, ⟨_, p1, fun c hc => ?_⟩, ⟨_, q1, fun c hc => ?_⟩, ⟨_, g1, fun k hk => ?_⟩, ⟨v, (f 34 (by decide) (by decide)).trans u1, fun k hk b hb => (u2 k hk b hb).trans (congrArg sp_vi (congrFun (sp_upg (F := S.2) (r := r) (R := R) (R' := (sp_tip R, sp_cur R, sp_held R ||| 2 ^ sp_n S.1, sp_wk R, sp_ix R)) sp_tip rfl k).symm b))⟩, ⟨w, (f 35 (by decide) (by decide)).trans w1, fun k hk => (w2 k hk).trans (congrArg nI (sp_upg (F := S.2) (r := r) (R := R) (R' := (sp_tip R, sp_cur R, sp_held R ||| 2 ^ sp_n S.1, sp_wk R, sp_ix R)) sp_cur rfl k).symm)⟩, ⟨x, (f 36 (by decide) (by decide)).trans x1, fun k hk b hb => (x2 k hk b hb).trans (congrArg sp_tv (congrFun (sp_upg (F := S.2) (r := r) (R := R) (R' := (sp_tip R, sp_cur R, sp_held R ||| 2 ^ sp_n S.1, sp_wk R, sp_ix R)) sp_wk rfl k).symm b))⟩, ⟨y, (f 37 (by decide) (by decide)).trans y1, fun k hk b hb => (y2 k hk b hb).trans (congrArg sp_tv (congrFun (sp_upg (F := S.2) (r := r) (R := R) (R' := (sp_tip R, sp_cur R, sp_held R ||| 2 ^ sp_n S.1, sp_wk R, sp_ix R)) sp_ix rfl k).symm b))⟩⟩
  · have hj2 : j < 4 * (sp_n S.1 + 1) := hj
    show T' j = sp_tv (if 4 * sp_n S.1 ≤ j ∧ j < 4 * sp_n S.1 + 4 then t (j - 4 * sp_n S.1) else sp_tx S.1 j)
    by_cases e : 4 * sp_n S.1 ≤ j
    · rw [if_pos ⟨e, by omega⟩, ← T3 (j - 4 * sp_n S.1) (by omega), Nat.add_sub_cancel' e]
    · rw [if_neg (by omega)]
      exact T2 j (by omega)
  · have hc2 : c < sp_n S.1 + 1 := hc
    show upd P (sp_n S.1) (sp_vi o1) c = sp_vi (sp_up (sp_p1 S.1) (sp_n S.1) o1 c)
    by_cases e : c = sp_n S.1
    · rw [e, sp_upd_at, sp_up_at]
    · rw [sp_upd_ne e, sp_up_ne e]
      exact p2 c (by omega)
  · have hc2 : c < sp_n S.1 + 1 := hc
    show upd P' (sp_n S.1) (sp_vi o2) c = sp_vi (sp_up (sp_p2 S.1) (sp_n S.1) o2 c)
    by_cases e : c = sp_n S.1
    · rw [e, sp_upd_at, sp_up_at]
    · rw [sp_upd_ne e, sp_up_ne e]
      exact q2 c (by omega)
  · show vp_updL g r _ k = lN (sp_held (sp_up S.2 r _ k))
    by_cases e : k = r
    · rw [e, sp_updL_at, sp_up_at]
    · rw [sp_updL_ne e, sp_up_ne e, g2 k hk, show (sp_set S r R).2 k = S.2 k from sp_up_ne e]
def sp_q4 (T : Nat → Int64) (b : Nat) (v : Nat → Int64) : Nat → Int64 := vp_updL (vp_updL (vp_updL (vp_updL T (b + 0) (v 0)) (b + 1) (v 1)) (b + 2) (v 2)) (b + 3) (v 3)
theorem sp_q4_lo (T : Nat → Int64) (b : Nat) (v : Nat → Int64) {j : Nat} (h : j < b ∨ b + 4 ≤ j) : sp_q4 T b v j = T j := by
  unfold sp_q4
  rw [sp_updL_ne (by omega), sp_updL_ne (by omega), sp_updL_ne (by omega), sp_updL_ne (by omega)]
theorem sp_q4_hi (T : Nat → Int64) (b : Nat) (v : Nat → Int64) {f : Nat} (hf : f < 4) : sp_q4 T b v (b + f) = v f := by
  unfold sp_q4
  match f, hf with
  | 0, _ => rw [sp_updL_ne (by omega), sp_updL_ne (by omega), sp_updL_ne (by omega), sp_updL_at]
  | 1, _ => rw [sp_updL_ne (by omega), sp_updL_ne (by omega), sp_updL_at]
  | 2, _ => rw [sp_updL_ne (by omega), sp_updL_at]
  | 3, _ => rw [sp_updL_at]
  | k + 4, h => omega
theorem c_M_make {L : Nat} {xs : Nat → Int32} {d : Nat} {h : xm_H} {Q : xm_Q} {n : Nat} {tk : Int32} (hO : mo h n tk) (hn : n < 40) {P P' : Nat → Int32} {g : Nat → Int64} (p1 : h[31]? = some (.inl (.int, 40, .inl P))) (q1 : h[32]? = some (.inl (.int, 40, .inl P'))) (g1 : h[33]? = some (.inl (.long, 2, .inr (.inl g)))) {r m : Nat} (hr : r < 2) (g2 : g r = lN m) (hm : m < 2 ^ 64) {x y : Int32} (hQ : ∀ h', mo h' (n + 1) tk → h'[31]? = some (.inl (.int, 40, .inl (upd P n x))) → h'[32]? = some (.inl (.int, 40, .inl (upd P' n y))) → h'[33]? = some (.inl (.long, 2, .inr (.inl (vp_updL g r (lN (m ||| 2 ^ n)))))) → xl_fr sp_MK h h' → Q (some (.int (nI n))) h') : xm_call L xs (d + 1) m_M_make [.ref 29, .int (nI r), .int x, .int y] h Q := by
  have en := nI_clamp (n := n) (by omega)
  have er := nI_clamp (n := r) (by omega)
  refine x_call (lo := [.ref 29, .int (nI r), .int x, .int y, .float 0]) (Nat.le_of_ble_eq_true rfl) rfl ?_
  refine x_aload_n (pc' := 1) d_M_make_0 rfl rfl ?_
  refine x_getfield (ci := 4) (i := 0) (v := .int (nI n)) (pc' := 4) d_M_make_1 rfl g_M_104 hO rfl ?_
  refine x_istore (lo' := [.ref 29, .int (nI r), .int x, .int y, .int (nI n)]) (pc' := 6) d_M_make_4 rfl (Nat.le_of_ble_eq_true rfl) rfl ?_
  refine x_aload_n (pc' := 7) d_M_make_6 rfl rfl ?_
  refine x_getfield (ci := 4) (i := 2) (v := .ref 31) (pc' := 10) d_M_make_7 rfl g_M_13 hO rfl ?_
  refine x_iload (pc' := 12) d_M_make_10 rfl rfl ?_
  refine x_iload_n (pc' := 13) d_M_make_12 rfl rfl ?_
  refine x_iastore (h' := (h.set 31 (.inl (.int, 40, .inl (upd P n x))))) (pc' := 14) d_M_make_13 rfl p1 (vp_in_nI (by omega) (by decide)) (by rw [en]) ?_
  refine x_aload_n (pc' := 15) d_M_make_14 rfl rfl ?_
  refine x_getfield (ci := 4) (i := 3) (v := .ref 32) (pc' := 18) d_M_make_15 rfl g_M_17 ((xl_ne (by decide)).trans hO) rfl ?_
  refine x_iload (pc' := 20) d_M_make_18 rfl rfl ?_
  refine x_iload_n (pc' := 21) d_M_make_20 rfl rfl ?_
  refine x_iastore (h' := ((h.set 31 (.inl (.int, 40, .inl (upd P n x)))).set 32 (.inl (.int, 40, .inl (upd P' n y))))) (pc' := 22) d_M_make_21 rfl ((xl_ne (by decide)).trans q1) (vp_in_nI (by omega) (by decide)) (by rw [en]) ?_
  refine x_aload_n (pc' := 23) d_M_make_22 rfl rfl ?_
  refine x_getfield (ci := 4) (i := 4) (v := .ref 33) (pc' := 26) d_M_make_23 rfl g_M_20 ((xl_ne (by decide)).trans ((xl_ne (by decide)).trans hO)) rfl ?_
  refine x_iload_n (pc' := 27) d_M_make_26 rfl rfl ?_
  refine x_aload_n (pc' := 28) d_M_make_27 rfl rfl ?_
  refine x_getfield (ci := 4) (i := 4) (v := .ref 33) (pc' := 31) d_M_make_28 rfl g_M_20 ((xl_ne (by decide)).trans ((xl_ne (by decide)).trans hO)) rfl ?_
  refine x_iload_n (pc' := 32) d_M_make_31 rfl rfl ?_
  refine x_laload (v := lN m) (pc' := 33) d_M_make_32 rfl ((xl_ne (by decide)).trans ((xl_ne (by decide)).trans g1)) (vp_in_nI (by omega) (by decide)) (by rw [nI_clamp (by omega)]; exact g2) ?_
  refine x_lconst (v := lN 1) (pc' := 34) d_M_make_33 rfl (by decide) ?_
  refine x_iload (pc' := 36) d_M_make_34 rfl rfl ?_
  refine x_lshl (z := lN (2 ^ n)) (pc' := 37) d_M_make_36 rfl (sp_lsh hn) ?_
  refine x_lor (z := lN (m ||| 2 ^ n)) (pc' := 38) d_M_make_37 rfl (sp_or1 hm hn) ?_
  refine x_lastore (h' := (((h.set 31 (.inl (.int, 40, .inl (upd P n x)))).set 32 (.inl (.int, 40, .inl (upd P' n y)))).set 33 (.inl (.long, 2, .inr (.inl (vp_updL g r (lN (m ||| 2 ^ n)))))))) (pc' := 39) d_M_make_38 rfl ((xl_ne (by decide)).trans ((xl_ne (by decide)).trans g1)) (vp_in_nI (by omega) (by decide)) (by rw [er]) ?_
  refine x_aload_n (pc' := 40) d_M_make_39 rfl rfl ?_
  refine x_dup (pc' := 41) d_M_make_40 rfl rfl ?_
  refine x_getfield (ci := 4) (i := 0) (v := .int (nI n)) (pc' := 44) d_M_make_41 rfl g_M_104 ((xl_ne (by decide)).trans ((xl_ne (by decide)).trans ((xl_ne (by decide)).trans hO))) rfl ?_
  refine x_iconst (v := nI 1) (pc' := 45) d_M_make_44 rfl (by decide) ?_
  refine x_iadd (z := nI (n + 1)) (pc' := 46) d_M_make_45 rfl (nI_add _ _) ?_
  refine x_putfield (ci := 4) (i := 0) (h' := ((((h.set 31 (.inl (.int, 40, .inl (upd P n x)))).set 32 (.inl (.int, 40, .inl (upd P' n y)))).set 33 (.inl (.long, 2, .inr (.inl (vp_updL g r (lN (m ||| 2 ^ n))))))).set 29 (.inr (4, [.int (nI (n + 1)), .ref 30, .ref 31, .ref 32, .ref 33, .ref 34, .ref 35, .ref 36, .ref 37, .ref 38, .ref 39, .ref 40, .ref 41, .ref 42, .ref 43, .ref 44, .int (tk), .ref 45, .ref 46])))) (pc' := 49) d_M_make_46 rfl (p_M_104 _ rfl) ((xl_ne (by decide)).trans ((xl_ne (by decide)).trans ((xl_ne (by decide)).trans hO))) (Nat.le_of_ble_eq_true rfl) rfl rfl rfl ?_
  refine x_iload (pc' := 51) d_M_make_49 rfl rfl ?_
  exact x_ireturn d_M_make_51 rfl rfl (hQ _ (xl_at ((xl_ne (by decide)).trans ((xl_ne (by decide)).trans ((xl_ne (by decide)).trans hO)))) ((xl_ne (by decide)).trans ((xl_ne (by decide)).trans ((xl_ne (by decide)).trans (xl_at p1)))) ((xl_ne (by decide)).trans ((xl_ne (by decide)).trans (xl_at ((xl_ne (by decide)).trans q1)))) ((xl_ne (by decide)).trans (xl_at ((xl_ne (by decide)).trans ((xl_ne (by decide)).trans g1)))) (xl_tr (xl_set (by decide)) (xl_tr (xl_set (by decide)) (xl_tr (xl_set (by decide)) (xl_set (by decide))))))
theorem c_M_putJoined {L : Nat} {xs : Nat → Int32} {d : Nat} {h : xm_H} {Q : xm_Q} {n c : Nat} {tk : Int32} (hO : mo h n tk) {T v : Nat → Int64} (T1 : h[30]? = some (.inl (.long, 160, .inr (.inl T)))) (j1 : h[41]? = some (.inl (.long, 4, .inr (.inl v)))) (hc : c < 40) (hQ : Q none (h.set 30 (.inl (.long, 160, .inr (.inl (sp_q4 T (4 * c) v)))))) : xm_call L xs (d + 1) m_M_putJoined [.ref 29, .int (nI c)] h Q := by
  refine x_call (lo := [.ref 29, .int (nI c), .float 0]) (Nat.le_of_ble_eq_true rfl) rfl ?_
  refine x_iconst (v := nI 0) (pc' := 1) d_M_putJoined_0 rfl (by decide) ?_
  refine x_istore_n (lo' := [.ref 29, .int (nI c), .int (nI 0)]) (pc' := 2) d_M_putJoined_1 rfl (Nat.le_of_ble_eq_true rfl) rfl ?_
  refine x_iload_n (pc' := 3) d_M_putJoined_2 rfl rfl ?_
  refine x_iconst (v := nI 4) (pc' := 4) d_M_putJoined_3 rfl (by decide) ?_
  refine x_icmpge (t := 29) (pc' := 7) d_M_putJoined_4 rfl rfl (fun q => absurd q (nI_ge (by decide) (by decide))) (fun _ => ?_)
  refine x_aload_n (pc' := 8) d_M_putJoined_7 rfl rfl ?_
  refine x_getfield (ci := 4) (i := 1) (v := .ref 30) (pc' := 11) d_M_putJoined_8 rfl g_M_7 hO rfl ?_
  refine x_iconst (v := nI 4) (pc' := 12) d_M_putJoined_11 rfl (by decide) ?_
  refine x_iload_n (pc' := 13) d_M_putJoined_12 rfl rfl ?_
  refine x_imul (z := nI (4 * c)) (pc' := 14) d_M_putJoined_13 rfl (pk_mul 4 c) ?_
  refine x_iload_n (pc' := 15) d_M_putJoined_14 rfl rfl ?_
  refine x_iadd (z := nI (4 * c + 0)) (pc' := 16) d_M_putJoined_15 rfl (nI_add _ _) ?_
  refine x_aload_n (pc' := 17) d_M_putJoined_16 rfl rfl ?_
  refine x_getfield (ci := 4) (i := 12) (v := .ref 41) (pc' := 20) d_M_putJoined_17 rfl g_M_44 hO rfl ?_
  refine x_iload_n (pc' := 21) d_M_putJoined_20 rfl rfl ?_
  refine x_laload (v := v 0) (pc' := 22) d_M_putJoined_21 rfl j1 (vp_in_nI (by omega) (by decide)) rfl ?_
  refine x_lastore (h' := (h.set 30 (.inl (.long, 160, .inr (.inl (vp_updL T (4 * c + 0) (v 0))))))) (pc' := 23) d_M_putJoined_22 rfl T1 (vp_in_nI (by omega) (by decide)) (by rw [nI_clamp (by omega)]) ?_
  refine x_iinc (y := nI 1) (lo' := [.ref 29, .int (nI c), .int (nI 1)]) (pc' := 26) d_M_putJoined_23 rfl rfl (sp_nI_inc 0) rfl ?_
  refine x_goto (t := 2) d_M_putJoined_26 rfl ?_
  refine x_iload_n (pc' := 3) d_M_putJoined_2 rfl rfl ?_
  refine x_iconst (v := nI 4) (pc' := 4) d_M_putJoined_3 rfl (by decide) ?_
  refine x_icmpge (t := 29) (pc' := 7) d_M_putJoined_4 rfl rfl (fun q => absurd q (nI_ge (by decide) (by decide))) (fun _ => ?_)
  refine x_aload_n (pc' := 8) d_M_putJoined_7 rfl rfl ?_
  refine x_getfield (ci := 4) (i := 1) (v := .ref 30) (pc' := 11) d_M_putJoined_8 rfl g_M_7 ((xl_ne (by decide)).trans hO) rfl ?_
  refine x_iconst (v := nI 4) (pc' := 12) d_M_putJoined_11 rfl (by decide) ?_
  refine x_iload_n (pc' := 13) d_M_putJoined_12 rfl rfl ?_
  refine x_imul (z := nI (4 * c)) (pc' := 14) d_M_putJoined_13 rfl (pk_mul 4 c) ?_
  refine x_iload_n (pc' := 15) d_M_putJoined_14 rfl rfl ?_
  refine x_iadd (z := nI (4 * c + 1)) (pc' := 16) d_M_putJoined_15 rfl (nI_add _ _) ?_
  refine x_aload_n (pc' := 17) d_M_putJoined_16 rfl rfl ?_
  refine x_getfield (ci := 4) (i := 12) (v := .ref 41) (pc' := 20) d_M_putJoined_17 rfl g_M_44 ((xl_ne (by decide)).trans hO) rfl ?_
  refine x_iload_n (pc' := 21) d_M_putJoined_20 rfl rfl ?_
  refine x_laload (v := v 1) (pc' := 22) d_M_putJoined_21 rfl ((xl_ne (by decide)).trans j1) (vp_in_nI (by omega) (by decide)) rfl ?_
  refine x_lastore (h' := (h.set 30 (.inl (.long, 160, .inr (.inl (vp_updL (vp_updL T (4 * c + 0) (v 0)) (4 * c + 1) (v 1))))))) (pc' := 23) d_M_putJoined_22 rfl (xl_at T1) (vp_in_nI (by omega) (by decide)) (by rw [nI_clamp (by omega), List.set_set]) ?_
  refine x_iinc (y := nI 2) (lo' := [.ref 29, .int (nI c), .int (nI 2)]) (pc' := 26) d_M_putJoined_23 rfl rfl (sp_nI_inc 1) rfl ?_
  refine x_goto (t := 2) d_M_putJoined_26 rfl ?_
  refine x_iload_n (pc' := 3) d_M_putJoined_2 rfl rfl ?_
  refine x_iconst (v := nI 4) (pc' := 4) d_M_putJoined_3 rfl (by decide) ?_
  refine x_icmpge (t := 29) (pc' := 7) d_M_putJoined_4 rfl rfl (fun q => absurd q (nI_ge (by decide) (by decide))) (fun _ => ?_)
  refine x_aload_n (pc' := 8) d_M_putJoined_7 rfl rfl ?_
  refine x_getfield (ci := 4) (i := 1) (v := .ref 30) (pc' := 11) d_M_putJoined_8 rfl g_M_7 ((xl_ne (by decide)).trans hO) rfl ?_
  refine x_iconst (v := nI 4) (pc' := 12) d_M_putJoined_11 rfl (by decide) ?_
  refine x_iload_n (pc' := 13) d_M_putJoined_12 rfl rfl ?_
  refine x_imul (z := nI (4 * c)) (pc' := 14) d_M_putJoined_13 rfl (pk_mul 4 c) ?_
  refine x_iload_n (pc' := 15) d_M_putJoined_14 rfl rfl ?_
  refine x_iadd (z := nI (4 * c + 2)) (pc' := 16) d_M_putJoined_15 rfl (nI_add _ _) ?_
  refine x_aload_n (pc' := 17) d_M_putJoined_16 rfl rfl ?_
  refine x_getfield (ci := 4) (i := 12) (v := .ref 41) (pc' := 20) d_M_putJoined_17 rfl g_M_44 ((xl_ne (by decide)).trans hO) rfl ?_
  refine x_iload_n (pc' := 21) d_M_putJoined_20 rfl rfl ?_
  refine x_laload (v := v 2) (pc' := 22) d_M_putJoined_21 rfl ((xl_ne (by decide)).trans j1) (vp_in_nI (by omega) (by decide)) rfl ?_
  refine x_lastore (h' := (h.set 30 (.inl (.long, 160, .inr (.inl (vp_updL (vp_updL (vp_updL T (4 * c + 0) (v 0)) (4 * c + 1) (v 1)) (4 * c + 2) (v 2))))))) (pc' := 23) d_M_putJoined_22 rfl (xl_at T1) (vp_in_nI (by omega) (by decide)) (by rw [nI_clamp (by omega), List.set_set]) ?_
  refine x_iinc (y := nI 3) (lo' := [.ref 29, .int (nI c), .int (nI 3)]) (pc' := 26) d_M_putJoined_23 rfl rfl (sp_nI_inc 2) rfl ?_
  refine x_goto (t := 2) d_M_putJoined_26 rfl ?_
  refine x_iload_n (pc' := 3) d_M_putJoined_2 rfl rfl ?_
  refine x_iconst (v := nI 4) (pc' := 4) d_M_putJoined_3 rfl (by decide) ?_
  refine x_icmpge (t := 29) (pc' := 7) d_M_putJoined_4 rfl rfl (fun q => absurd q (nI_ge (by decide) (by decide))) (fun _ => ?_)
  refine x_aload_n (pc' := 8) d_M_putJoined_7 rfl rfl ?_
  refine x_getfield (ci := 4) (i := 1) (v := .ref 30) (pc' := 11) d_M_putJoined_8 rfl g_M_7 ((xl_ne (by decide)).trans hO) rfl ?_
  refine x_iconst (v := nI 4) (pc' := 12) d_M_putJoined_11 rfl (by decide) ?_
  refine x_iload_n (pc' := 13) d_M_putJoined_12 rfl rfl ?_
  refine x_imul (z := nI (4 * c)) (pc' := 14) d_M_putJoined_13 rfl (pk_mul 4 c) ?_
  refine x_iload_n (pc' := 15) d_M_putJoined_14 rfl rfl ?_
  refine x_iadd (z := nI (4 * c + 3)) (pc' := 16) d_M_putJoined_15 rfl (nI_add _ _) ?_
  refine x_aload_n (pc' := 17) d_M_putJoined_16 rfl rfl ?_
  refine x_getfield (ci := 4) (i := 12) (v := .ref 41) (pc' := 20) d_M_putJoined_17 rfl g_M_44 ((xl_ne (by decide)).trans hO) rfl ?_
  refine x_iload_n (pc' := 21) d_M_putJoined_20 rfl rfl ?_
  refine x_laload (v := v 3) (pc' := 22) d_M_putJoined_21 rfl ((xl_ne (by decide)).trans j1) (vp_in_nI (by omega) (by decide)) rfl ?_
  refine x_lastore (h' := (h.set 30 (.inl (.long, 160, .inr (.inl (vp_updL (vp_updL (vp_updL (vp_updL T (4 * c + 0) (v 0)) (4 * c + 1) (v 1)) (4 * c + 2) (v 2)) (4 * c + 3) (v 3))))))) (pc' := 23) d_M_putJoined_22 rfl (xl_at T1) (vp_in_nI (by omega) (by decide)) (by rw [nI_clamp (by omega), List.set_set]) ?_
  refine x_iinc (y := nI 4) (lo' := [.ref 29, .int (nI c), .int (nI 4)]) (pc' := 26) d_M_putJoined_23 rfl rfl (sp_nI_inc 3) rfl ?_
  refine x_goto (t := 2) d_M_putJoined_26 rfl ?_
  refine x_iload_n (pc' := 3) d_M_putJoined_2 rfl rfl ?_
  refine x_iconst (v := nI 4) (pc' := 4) d_M_putJoined_3 rfl (by decide) ?_
  refine x_icmpge (t := 29) (pc' := 7) d_M_putJoined_4 rfl rfl (fun _ => ?_) (fun q => absurd (nI_le (Nat.le_refl _) (by decide)) q)
  exact x_return d_M_putJoined_29 rfl hQ
