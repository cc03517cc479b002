/-! merge, pick of the reference. (Printed by c_md.py.) -/
theorem mk_nw {h2 h3 : xm_H} {S : sp_S} {r : Nat} (hK : mk h2 S) (hn : sp_n S.1 < 40) (hr : r < 2) {t : sp_T} {o1 o2 : Option Nat} {v T : Nat → Int64} (hv : ∀ j, j < 4 → v j = sp_tv (t j)) (T1 : h2[30]? = some (.inl (.long, 160, .inr (.inl T)))) (T2 : ∀ j, j < 4 * sp_n S.1 → T j = sp_tv (sp_tx S.1 j))
    {P P' : Nat → Int32} {g : Nat → Int64} (p2 : ∀ c, c < sp_n S.1 → P c = sp_vi (sp_p1 S.1 c)) (q2 : ∀ c, c < sp_n S.1 → P' c = sp_vi (sp_p2 S.1 c)) (g2 : ∀ k, k < 2 → g k = lN (sp_held (S.2 k)))
    (m1 : h3[31]? = some (.inl (.int, 40, .inl (upd P (sp_n S.1) (sp_vi o1))))) (m2 : h3[32]? = some (.inl (.int, 40, .inl (upd P' (sp_n S.1) (sp_vi o2))))) (m3 : h3[33]? = some (.inl (.long, 2, .inr (.inl (vp_updL g r (lN (sp_held (S.2 r) ||| 2 ^ sp_n S.1))))))) (f3 : xl_fr sp_MK h2 h3) :
    mk (h3.set 30 (.inl (.long, 160, .inr (.inl (sp_q4 T (4 * sp_n S.1) v))))) (sp_set (sp_add S.1 t o1 o2, S.2) r (sp_tip (S.2 r), sp_cur (S.2 r), sp_held (S.2 r) ||| 2 ^ sp_n S.1, sp_wk (S.2 r), sp_ix (S.2 r))) :=
  mk_add hn hr (xl_at ((f3.2 30 (by omega)).trans T1)) (fun j hj => (sp_q4_lo _ _ _ (Or.inl hj)).trans (T2 j hj)) (fun f hf => (sp_q4_hi _ _ _ hf).trans (hv f hf)) ((xl_ne (by decide)).trans m1) p2 ((xl_ne (by decide)).trans m2) q2 ((xl_ne (by decide)).trans m3) (fun k hk => by rw [sp_set_self]; exact g2 k hk) (fun k z1 z2 => (xl_ne (by omega)).trans (f3.2 k (by omega))) (mk_self hK)
theorem mv_nw {S : sp_S} {r : Nat} {t : sp_T} {o1 o2 : Option Nat} (h1 : sp_ro S.1 o1 ||| sp_held (S.2 r) = sp_held (S.2 r)) (h2 : sp_ro S.1 o2 ||| sp_held (S.2 r) = sp_held (S.2 r)) : sp_mv (sp_add S.1 t o1 o2) (S.2 r) (sp_n S.1) = (sp_up (sp_tip (S.2 r)) (sp_cur (S.2 r)) (some (sp_n S.1)), sp_cur (S.2 r), sp_held (S.2 r) ||| 2 ^ sp_n S.1, sp_of (sp_add S.1 t o1 o2) (some (sp_n S.1)), sp_of (sp_add S.1 t o1 o2) (some (sp_n S.1))) := by
  unfold sp_mv
  rw [sp_rr_new, sp_hn h1 h2]
theorem sp_rk_wt {h : xm_H} {q k : Nat} {t : sp_T} (a : sp_rk h q t 4) : sp_row4 h q t := a
set_option maxHeartbeats 4000000 in
theorem l_M_merge {L : Nat} {xs : Nat → Int32} {d : Nat} {h : xm_H} {Q : xm_Q} {S : sp_S} {tk : Int32} {r b p q : Nat} {o : Option Nat} (hok : sp_ok (sp_n S.1) o) (hp1 : p < sp_n S.1) (hq1 : q < sp_n S.1)
    (K : ∀ h1, mk h1 S → mo h1 (sp_n S.1) tk → sp_rk h1 38 (sp_of S.1 o) 4 → sp_rk h1 39 (sp_of S.1 (some p)) 4 → sp_rk h1 40 (sp_of S.1 (some q)) 4 → xl_fr (fun k => 38 ≤ k ∧ k ≤ 40) h h1 → xm_X L xs (xm_call L xs (d + 5)) m_M_merge (162, [.ref 29, .int (nI r), .int (nI b), .int (nI p), .int (nI q), .int (sp_vi o), .int (nI 4)], [], h1, 0, 0) Q) :
    ∀ z k, k + z = 4 → ∀ h1, mk h1 S → mo h1 (sp_n S.1) tk → sp_rk h1 38 (sp_of S.1 o) k → sp_rk h1 39 (sp_of S.1 (some p)) k → sp_rk h1 40 (sp_of S.1 (some q)) k → xl_fr (fun k => 38 ≤ k ∧ k ≤ 40) h h1 → xm_X L xs (xm_call L xs (d + 5)) m_M_merge (106, [.ref 29, .int (nI r), .int (nI b), .int (nI p), .int (nI q), .int (sp_vi o), .int (nI k)], [], h1, 0, 0) Q := by
  intro z
  induction z with
  | zero =>
    intro k hk h1 hM hO r1 r2 r3 hf
    have hk : k = 4 := hk
    subst hk
    refine x_iload (pc' := 108) d_M_merge_106 rfl rfl ?_
    refine x_iconst (v := nI 4) (pc' := 109) d_M_merge_108 rfl (by decide) ?_
    refine x_icmpge (t := 162) (pc' := 112) d_M_merge_109 rfl rfl (fun _ => ?_) (fun q => absurd (nI_le (Nat.le_refl _) (by decide)) q)
    exact K h1 hM hO r1 r2 r3 hf
  | succ z ih =>
    intro k hk h1 hM hO r1 r2 r3 hf
    have hk4 : k < 4 := by omega
    have h40 := hM.1
    obtain ⟨f, f1, f2⟩ := r1
    obtain ⟨g, g1, g2⟩ := r2
    obtain ⟨e, e1, e2⟩ := r3
    have M0 := hM
    have M1 : mk (h1.set 38 (.inl (.long, 4, .inr (.inl (vp_updL f (nI k).toNatClampNeg (sp_tv (sp_of S.1 o k))))))) S := mk_go M0 (fun k z1 z2 => xl_ne (by omega))
    have M2 : mk ((h1.set 38 (.inl (.long, 4, .inr (.inl (vp_updL f (nI k).toNatClampNeg (sp_tv (sp_of S.1 o k))))))).set 39 (.inl (.long, 4, .inr (.inl (vp_updL g (nI k).toNatClampNeg (sp_tv (sp_of S.1 (some p) k))))))) S := mk_go M1 (fun k z1 z2 => xl_ne (by omega))
    have M3 : mk (((h1.set 38 (.inl (.long, 4, .inr (.inl (vp_updL f (nI k).toNatClampNeg (sp_tv (sp_of S.1 o k))))))).set 39 (.inl (.long, 4, .inr (.inl (vp_updL g (nI k).toNatClampNeg (sp_tv (sp_of S.1 (some p) k))))))).set 40 (.inl (.long, 4, .inr (.inl (vp_updL e (nI k).toNatClampNeg (sp_tv (sp_of S.1 (some q) k))))))) S := mk_go M2 (fun k z1 z2 => xl_ne (by omega))
    refine x_iload (pc' := 108) d_M_merge_106 rfl rfl ?_
    refine x_iconst (v := nI 4) (pc' := 109) d_M_merge_108 rfl (by decide) ?_
    refine x_icmpge (t := 162) (pc' := 112) d_M_merge_109 rfl rfl (fun q => absurd q (nI_ge hk4 (by decide))) (fun _ => ?_)
    refine x_aload_n (pc' := 113) d_M_merge_112 rfl rfl ?_
    refine x_getfield (ci := 4) (i := 9) (v := .ref 38) (pc' := 116) d_M_merge_113 rfl g_M_35 hO rfl ?_
    refine x_iload (pc' := 118) d_M_merge_116 rfl rfl ?_
    refine x_aload_n (pc' := 119) d_M_merge_118 rfl rfl ?_
    refine x_iload (pc' := 121) d_M_merge_119 rfl rfl ?_
    refine x_iload (pc' := 123) d_M_merge_121 rfl rfl ?_
    refine x_virtual (a := 29) (as := [.int (sp_vi o), .int (nI k)]) (r := [.int (nI k), .ref 38]) (v := (some (.long (sp_tv (sp_of S.1 o k))))) (h' := h1) (st' := [.long (sp_tv (sp_of S.1 o k)), .int (nI k), .ref 38]) (c' := 0) (s' := 0) (pc' := 126) d_M_merge_123 rfl c_M_115 hO rfl rfl (Nat.le_of_ble_eq_true rfl) (Nat.le_of_ble_eq_true rfl) (Nat.le_of_ble_eq_true rfl) (fun Q' hq => c_M_textOf (c := o) hO M0 hok hk4 hq) rfl rfl rfl ?_
    refine x_lastore (h' := (h1.set 38 (.inl (.long, 4, .inr (.inl (vp_updL f (nI k).toNatClampNeg (sp_tv (sp_of S.1 o k)))))))) (pc' := 127) d_M_merge_126 rfl f1 (vp_in_nI (by omega) (by decide)) rfl ?_
    refine x_aload_n (pc' := 128) d_M_merge_127 rfl rfl ?_
    refine x_getfield (ci := 4) (i := 10) (v := .ref 39) (pc' := 131) d_M_merge_128 rfl g_M_38 ((xl_ne (by decide)).trans hO) rfl ?_
    refine x_iload (pc' := 133) d_M_merge_131 rfl rfl ?_
    refine x_aload_n (pc' := 134) d_M_merge_133 rfl rfl ?_
    refine x_iload_n (pc' := 135) d_M_merge_134 rfl rfl ?_
    refine x_iload (pc' := 137) d_M_merge_135 rfl rfl ?_
    refine x_virtual (a := 29) (as := [.int (nI p), .int (nI k)]) (r := [.int (nI k), .ref 39]) (v := (some (.long (sp_tv (sp_of S.1 (some p) k))))) (h' := (h1.set 38 (.inl (.long, 4, .inr (.inl (vp_updL f (nI k).toNatClampNeg (sp_tv (sp_of S.1 o k)))))))) (st' := [.long (sp_tv (sp_of S.1 (some p) k)), .int (nI k), .ref 39]) (c' := 0) (s' := 0) (pc' := 140) d_M_merge_137 rfl c_M_115 ((xl_ne (by decide)).trans hO) rfl rfl (Nat.le_of_ble_eq_true rfl) (Nat.le_of_ble_eq_true rfl) (Nat.le_of_ble_eq_true rfl) (fun Q' hq => c_M_textOf (c := some p) ((xl_ne (by decide)).trans hO) M1 (sp_ok_some hp1) hk4 hq) rfl rfl rfl ?_
    refine x_lastore (h' := ((h1.set 38 (.inl (.long, 4, .inr (.inl (vp_updL f (nI k).toNatClampNeg (sp_tv (sp_of S.1 o k))))))).set 39 (.inl (.long, 4, .inr (.inl (vp_updL g (nI k).toNatClampNeg (sp_tv (sp_of S.1 (some p) k)))))))) (pc' := 141) d_M_merge_140 rfl ((xl_ne (by decide)).trans g1) (vp_in_nI (by omega) (by decide)) rfl ?_
    refine x_aload_n (pc' := 142) d_M_merge_141 rfl rfl ?_
    refine x_getfield (ci := 4) (i := 11) (v := .ref 40) (pc' := 145) d_M_merge_142 rfl g_M_41 ((xl_ne (by decide)).trans ((xl_ne (by decide)).trans hO)) rfl ?_
    refine x_iload (pc' := 147) d_M_merge_145 rfl rfl ?_
    refine x_aload_n (pc' := 148) d_M_merge_147 rfl rfl ?_
    refine x_iload (pc' := 150) d_M_merge_148 rfl rfl ?_
    refine x_iload (pc' := 152) d_M_merge_150 rfl rfl ?_
    refine x_virtual (a := 29) (as := [.int (nI q), .int (nI k)]) (r := [.int (nI k), .ref 40]) (v := (some (.long (sp_tv (sp_of S.1 (some q) k))))) (h' := ((h1.set 38 (.inl (.long, 4, .inr (.inl (vp_updL f (nI k).toNatClampNeg (sp_tv (sp_of S.1 o k))))))).set 39 (.inl (.long, 4, .inr (.inl (vp_updL g (nI k).toNatClampNeg (sp_tv (sp_of S.1 (some p) k)))))))) (st' := [.long (sp_tv (sp_of S.1 (some q) k)), .int (nI k), .ref 40]) (c' := 0) (s' := 0) (pc' := 155) d_M_merge_152 rfl c_M_115 ((xl_ne (by decide)).trans ((xl_ne (by decide)).trans hO)) rfl rfl (Nat.le_of_ble_eq_true rfl) (Nat.le_of_ble_eq_true rfl) (Nat.le_of_ble_eq_true rfl) (fun Q' hq => c_M_textOf (c := some q) ((xl_ne (by decide)).trans ((xl_ne (by decide)).trans hO)) M2 (sp_ok_some hq1) hk4 hq) rfl rfl rfl ?_
    refine x_lastore (h' := (((h1.set 38 (.inl (.long, 4, .inr (.inl (vp_updL f (nI k).toNatClampNeg (sp_tv (sp_of S.1 o k))))))).set 39 (.inl (.long, 4, .inr (.inl (vp_updL g (nI k).toNatClampNeg (sp_tv (sp_of S.1 (some p) k))))))).set 40 (.inl (.long, 4, .inr (.inl (vp_updL e (nI k).toNatClampNeg (sp_tv (sp_of S.1 (some q) k)))))))) (pc' := 156) d_M_merge_155 rfl ((xl_ne (by decide)).trans ((xl_ne (by decide)).trans e1)) (vp_in_nI (by omega) (by decide)) rfl ?_
    refine x_iinc (y := nI (k + 1)) (lo' := [.ref 29, .int (nI r), .int (nI b), .int (nI p), .int (nI q), .int (sp_vi o), .int (nI (k + 1))]) (pc' := 159) d_M_merge_156 rfl rfl (sp_nI_inc k) rfl ?_
    refine x_goto (t := 106) d_M_merge_159 rfl ?_
    exact ih (k + 1) (by omega) (((h1.set 38 (.inl (.long, 4, .inr (.inl (vp_updL f (nI k).toNatClampNeg (sp_tv (sp_of S.1 o k))))))).set 39 (.inl (.long, 4, .inr (.inl (vp_updL g (nI k).toNatClampNeg (sp_tv (sp_of S.1 (some p) k))))))).set 40 (.inl (.long, 4, .inr (.inl (vp_updL e (nI k).toNatClampNeg (sp_tv (sp_of S.1 (some q) k))))))) M3 ((xl_ne (by decide)).trans ((xl_ne (by decide)).trans ((xl_ne (by decide)).trans hO))) (sp_rk_go (sp_rk_go (sp_rk_s f1 f2 hk4) (xl_ne (by decide))) (xl_ne (by decide))) (sp_rk_go (sp_rk_s ((xl_ne (by decide)).trans g1) g2 hk4) (xl_ne (by decide))) (sp_rk_s ((xl_ne (by decide)).trans ((xl_ne (by decide)).trans e1)) e2 hk4) (xl_tr hf (xl_tr (xl_set (by decide)) (xl_tr (xl_set (by decide)) (xl_set (by decide)))))
set_option maxHeartbeats 4000000 in
theorem c_M_merge {L : Nat} {xs : Nat → Int32} {d : Nat} {h : xm_H} {Q : xm_Q} {S : sp_S} (hM : mh h S) (hS : sp_WS S) {x y : Int32} (hQ : ∀ h', mh h' (sp_merge S x y).2 → xl_fr sp_M29 h h' → Q (some (.int (sp_merge S x y).1)) h') : xm_call L xs (d + 6) m_M_merge [.ref 29, .int x, .int y] h Q := by
  obtain ⟨hK, ⟨tk, hO⟩, hw⟩ := id hM
  have h40 := hK.1
  obtain ⟨t, t1, t2⟩ := hK.2.2.2.2.2.1
  have key : ∀ z, sp_merge S x y = (z, S) → Q (some (.int z)) h := fun z e9 => by
    rw [e9] at hQ
    exact hQ h hM xl_rf
  refine x_call (lo := [.ref 29, .int x, .int y, .float 0, .float 0, .float 0, .float 0]) (Nat.le_of_ble_eq_true rfl) rfl ?_
  rcases sp_in_cases 2 (by decide) x with ⟨_, ex⟩ | ⟨_, _, ex⟩ | ⟨r, hr, rfl, er⟩
  · refine x_iload_n (pc' := 1) d_M_merge_0 rfl rfl ?_
    refine x_iconst (v := nI 2) (pc' := 2) d_M_merge_1 rfl (by decide) ?_
    refine x_static (as := [.int x, .int (nI 2)]) (r := []) (v := (some (.int 1))) (h' := h) (st' := [.int 1]) (c' := 0) (s' := 0) (pc' := 5) d_M_merge_2 rfl c_M_123 rfl rfl (Nat.le_of_ble_eq_true rfl) (Nat.le_of_ble_eq_true rfl) (Nat.le_of_ble_eq_true rfl) (fun Q' hq => c_M_out1 (by decide) ex hq) rfl rfl rfl ?_
    refine x_ifne (t := 16) (pc' := 8) d_M_merge_5 rfl rfl (fun _ => ?_) (fun q => absurd q (by decide))
    refine x_iconst (v := (-1)) (pc' := 17) d_M_merge_16 rfl (by decide) ?_
    exact x_ireturn d_M_merge_17 rfl rfl (key _ (by unfold sp_merge; rw [ex]))
  · refine x_iload_n (pc' := 1) d_M_merge_0 rfl rfl ?_
    refine x_iconst (v := nI 2) (pc' := 2) d_M_merge_1 rfl (by decide) ?_
    refine x_static (as := [.int x, .int (nI 2)]) (r := []) (v := (some (.int 1))) (h' := h) (st' := [.int 1]) (c' := 0) (s' := 0) (pc' := 5) d_M_merge_2 rfl c_M_123 rfl rfl (Nat.le_of_ble_eq_true rfl) (Nat.le_of_ble_eq_true rfl) (Nat.le_of_ble_eq_true rfl) (fun Q' hq => c_M_out1 (by decide) ex hq) rfl rfl rfl ?_
    refine x_ifne (t := 16) (pc' := 8) d_M_merge_5 rfl rfl (fun _ => ?_) (fun q => absurd q (by decide))
    refine x_iconst (v := (-1)) (pc' := 17) d_M_merge_16 rfl (by decide) ?_
    exact x_ireturn d_M_merge_17 rfl rfl (key _ (by unfold sp_merge; rw [ex]))
  · rcases sp_in_cases 4 (by decide) y with ⟨_, ey⟩ | ⟨_, _, ey⟩ | ⟨b, hb, rfl, eb⟩
    · refine x_iload_n (pc' := 1) d_M_merge_0 rfl rfl ?_
      refine x_iconst (v := nI 2) (pc' := 2) d_M_merge_1 rfl (by decide) ?_
      refine x_static (as := [.int (nI r), .int (nI 2)]) (r := []) (v := (some (.int 0))) (h' := h) (st' := [.int 0]) (c' := 0) (s' := 0) (pc' := 5) d_M_merge_2 rfl c_M_123 rfl rfl (Nat.le_of_ble_eq_true rfl) (Nat.le_of_ble_eq_true rfl) (Nat.le_of_ble_eq_true rfl) (fun Q' hq => c_M_out0 hr (by decide) hq) rfl rfl rfl ?_
      refine x_ifne (t := 16) (pc' := 8) d_M_merge_5 rfl rfl (fun q => absurd rfl q) (fun _ => ?_)
      refine x_iload_n (pc' := 9) d_M_merge_8 rfl rfl ?_
      refine x_iconst (v := nI 4) (pc' := 10) d_M_merge_9 rfl (by decide) ?_
      refine x_static (as := [.int y, .int (nI 4)]) (r := []) (v := (some (.int 1))) (h' := h) (st' := [.int 1]) (c' := 0) (s' := 0) (pc' := 13) d_M_merge_10 rfl c_M_123 rfl rfl (Nat.le_of_ble_eq_true rfl) (Nat.le_of_ble_eq_true rfl) (Nat.le_of_ble_eq_true rfl) (fun Q' hq => c_M_out1 (by decide) ey hq) rfl rfl rfl ?_
      refine x_ifeq (t := 18) (pc' := 16) d_M_merge_13 rfl rfl (fun q => absurd q (by decide)) (fun _ => ?_)
      refine x_iconst (v := (-1)) (pc' := 17) d_M_merge_16 rfl (by decide) ?_
      exact x_ireturn d_M_merge_17 rfl rfl (key _ (by unfold sp_merge; rw [er, ey]))
    · refine x_iload_n (pc' := 1) d_M_merge_0 rfl rfl ?_
      refine x_iconst (v := nI 2) (pc' := 2) d_M_merge_1 rfl (by decide) ?_
      refine x_static (as := [.int (nI r), .int (nI 2)]) (r := []) (v := (some (.int 0))) (h' := h) (st' := [.int 0]) (c' := 0) (s' := 0) (pc' := 5) d_M_merge_2 rfl c_M_123 rfl rfl (Nat.le_of_ble_eq_true rfl) (Nat.le_of_ble_eq_true rfl) (Nat.le_of_ble_eq_true rfl) (fun Q' hq => c_M_out0 hr (by decide) hq) rfl rfl rfl ?_
      refine x_ifne (t := 16) (pc' := 8) d_M_merge_5 rfl rfl (fun q => absurd rfl q) (fun _ => ?_)
      refine x_iload_n (pc' := 9) d_M_merge_8 rfl rfl ?_
      refine x_iconst (v := nI 4) (pc' := 10) d_M_merge_9 rfl (by decide) ?_
      refine x_static (as := [.int y, .int (nI 4)]) (r := []) (v := (some (.int 1))) (h' := h) (st' := [.int 1]) (c' := 0) (s' := 0) (pc' := 13) d_M_merge_10 rfl c_M_123 rfl rfl (Nat.le_of_ble_eq_true rfl) (Nat.le_of_ble_eq_true rfl) (Nat.le_of_ble_eq_true rfl) (fun Q' hq => c_M_out1 (by decide) ey hq) rfl rfl rfl ?_
      refine x_ifeq (t := 18) (pc' := 16) d_M_merge_13 rfl rfl (fun q => absurd q (by decide)) (fun _ => ?_)
      refine x_iconst (v := (-1)) (pc' := 17) d_M_merge_16 rfl (by decide) ?_
      exact x_ireturn d_M_merge_17 rfl rfl (key _ (by unfold sp_merge; rw [er, ey]))
    · have hR := hS.2 r hr
      refine x_iload_n (pc' := 1) d_M_merge_0 rfl rfl ?_
      refine x_iconst (v := nI 2) (pc' := 2) d_M_merge_1 rfl (by decide) ?_
      refine x_static (as := [.int (nI r), .int (nI 2)]) (r := []) (v := (some (.int 0))) (h' := h) (st' := [.int 0]) (c' := 0) (s' := 0) (pc' := 5) d_M_merge_2 rfl c_M_123 rfl rfl (Nat.le_of_ble_eq_true rfl) (Nat.le_of_ble_eq_true rfl) (Nat.le_of_ble_eq_true rfl) (fun Q' hq => c_M_out0 hr (by decide) hq) rfl rfl rfl ?_
      refine x_ifne (t := 16) (pc' := 8) d_M_merge_5 rfl rfl (fun q => absurd rfl q) (fun _ => ?_)
      refine x_iload_n (pc' := 9) d_M_merge_8 rfl rfl ?_
      refine x_iconst (v := nI 4) (pc' := 10) d_M_merge_9 rfl (by decide) ?_
      refine x_static (as := [.int (nI b), .int (nI 4)]) (r := []) (v := (some (.int 0))) (h' := h) (st' := [.int 0]) (c' := 0) (s' := 0) (pc' := 13) d_M_merge_10 rfl c_M_123 rfl rfl (Nat.le_of_ble_eq_true rfl) (Nat.le_of_ble_eq_true rfl) (Nat.le_of_ble_eq_true rfl) (fun Q' hq => c_M_out0 hb (by decide) hq) rfl rfl rfl ?_
      refine x_ifeq (t := 18) (pc' := 16) d_M_merge_13 rfl rfl (fun _ => ?_) (fun q => absurd rfl q)
      refine x_aload_n (pc' := 19) d_M_merge_18 rfl rfl ?_
      refine x_iload_n (pc' := 20) d_M_merge_19 rfl rfl ?_
      refine x_virtual (a := 29) (as := [.int (nI r)]) (r := []) (v := (some (.int (sp_vi (sp_head (S.2 r)))))) (h' := h) (st' := [.int (sp_vi (sp_head (S.2 r)))]) (c' := 0) (s' := 0) (pc' := 23) d_M_merge_20 rfl c_M_111 hO rfl rfl (Nat.le_of_ble_eq_true rfl) (Nat.le_of_ble_eq_true rfl) (Nat.le_of_ble_eq_true rfl) (fun Q' hq => c_M_head hO hK hr hR.1 hq) rfl rfl rfl ?_
      refine x_istore_n (lo' := [.ref 29, .int (nI r), .int (nI b), .int (sp_vi (sp_head (S.2 r))), .float 0, .float 0, .float 0]) (pc' := 24) d_M_merge_23 rfl (Nat.le_of_ble_eq_true rfl) rfl ?_
      refine x_aload_n (pc' := 25) d_M_merge_24 rfl rfl ?_
      refine x_iload_n (pc' := 26) d_M_merge_25 rfl rfl ?_
      refine x_iload_n (pc' := 27) d_M_merge_26 rfl rfl ?_
      refine x_virtual (a := 29) (as := [.int (nI r), .int (nI b)]) (r := []) (v := (some (.int (sp_bi (decide (sp_tip (S.2 r) b ≠ none)))))) (h' := h) (st' := [.int (sp_bi (decide (sp_tip (S.2 r) b ≠ none)))]) (c' := 0) (s' := 0) (pc' := 30) d_M_merge_27 rfl c_M_130 hO rfl rfl (Nat.le_of_ble_eq_true rfl) (Nat.le_of_ble_eq_true rfl) (Nat.le_of_ble_eq_true rfl) (fun Q' hq => c_M_there hO hK hS hr hb hq) rfl rfl rfl ?_
      rcases sp_oc (sp_tip (S.2 r) b) with h1 | ⟨q, h1⟩
      · refine x_ifeq (t := 37) (pc' := 33) d_M_merge_30 rfl rfl (fun _ => ?_) (fun q => absurd (by rw [h1]; rfl) q)
        refine x_bipush (v := (-2)) (pc' := 39) d_M_merge_37 rfl (by decide) ?_
        exact x_ireturn d_M_merge_39 rfl rfl (key _ (by unfold sp_merge; rw [er, eb]; dsimp only; rw [h1]))
      · refine x_ifeq (t := 37) (pc' := 33) d_M_merge_30 rfl rfl (fun q => absurd q (by rw [decide_eq_true (show sp_tip (S.2 r) b ≠ none by rw [h1]; exact Option.some_ne_none _)]; decide)) (fun _ => ?_)
        refine x_iload_n (pc' := 34) d_M_merge_33 rfl rfl ?_
        have hq1 := hR.2.1 b hb q h1
        rcases sp_oc (sp_head (S.2 r)) with hd | ⟨p, hd⟩
        · refine x_ifge (t := 40) (pc' := 37) d_M_merge_34 rfl rfl (fun q => absurd q (by rw [hd]; decide)) (fun _ => ?_)
          refine x_bipush (v := (-2)) (pc' := 39) d_M_merge_37 rfl (by decide) ?_
          exact x_ireturn d_M_merge_39 rfl rfl (key _ (by unfold sp_merge; rw [er, eb]; dsimp only; rw [h1, hd]))
        · have hp1 := hR.2.1 _ hR.1 p hd
          rw [show sp_vi (sp_head (S.2 r)) = nI p by rw [hd]; rfl]
          refine x_ifge (t := 40) (pc' := 37) d_M_merge_34 rfl rfl (fun _ => ?_) (fun q => absurd (nI_pos' (by omega)) q)
          refine x_aload_n (pc' := 41) d_M_merge_40 rfl rfl ?_
          refine x_iload_n (pc' := 42) d_M_merge_41 rfl rfl ?_
          refine x_virtual (a := 29) (as := [.int (nI r)]) (r := []) (v := (some (.int (sp_bi (!sp_clean S.1 (S.2 r)))))) (h' := h) (st' := [.int (sp_bi (!sp_clean S.1 (S.2 r)))]) (c' := 0) (s' := 0) (pc' := 45) d_M_merge_42 rfl c_M_133 hO rfl rfl (Nat.le_of_ble_eq_true rfl) (Nat.le_of_ble_eq_true rfl) (Nat.le_of_ble_eq_true rfl) (fun Q' hq => c_M_dirty hO hK hS hr hq) rfl rfl rfl ?_
          by_cases h3 : sp_clean S.1 (S.2 r) = true
          · refine x_ifeq (t := 51) (pc' := 48) d_M_merge_45 rfl rfl (fun _ => ?_) (fun q => absurd (by rw [h3]; rfl) q)
            refine x_aload_n (pc' := 52) d_M_merge_51 rfl rfl ?_
            refine x_getfield (ci := 4) (i := 5) (v := .ref 34) (pc' := 55) d_M_merge_52 rfl g_M_23 hO rfl ?_
            refine x_iconst (v := nI 4) (pc' := 56) d_M_merge_55 rfl (by decide) ?_
            refine x_iload_n (pc' := 57) d_M_merge_56 rfl rfl ?_
            refine x_imul (z := nI (4 * r)) (pc' := 58) d_M_merge_57 rfl (pk_mul 4 r) ?_
            refine x_iload_n (pc' := 59) d_M_merge_58 rfl rfl ?_
            refine x_iadd (z := nI (4 * r + b)) (pc' := 60) d_M_merge_59 rfl (nI_add _ _) ?_
            refine x_iaload (v := nI q) (pc' := 61) d_M_merge_60 rfl t1 (vp_in_nI (by omega) (by decide)) (by rw [nI_clamp (by omega), t2 r hr b hb, h1]; rfl) ?_
            refine x_istore (lo' := [.ref 29, .int (nI r), .int (nI b), .int (nI p), .int (nI q), .float 0, .float 0]) (pc' := 63) d_M_merge_61 rfl (Nat.le_of_ble_eq_true rfl) rfl ?_
            refine x_aload_n (pc' := 64) d_M_merge_63 rfl rfl ?_
            refine x_iload_n (pc' := 65) d_M_merge_64 rfl rfl ?_
            refine x_iload (pc' := 67) d_M_merge_65 rfl rfl ?_
            refine x_virtual (a := 29) (as := [.int (nI p), .int (nI q)]) (r := []) (v := (some (.int (sp_bi ((sp_rr S.1 p).testBit q))))) (h' := h) (st' := [.int (sp_bi ((sp_rr S.1 p).testBit q))]) (c' := 0) (s' := 0) (pc' := 70) d_M_merge_67 rfl c_M_107 hO rfl rfl (Nat.le_of_ble_eq_true rfl) (Nat.le_of_ble_eq_true rfl) (Nat.le_of_ble_eq_true rfl) (fun Q' hq => c_M_reaches hO hK hS.1 hp1 (by omega) hq) rfl rfl rfl ?_
            by_cases h4 : (sp_rr S.1 p).testBit q = true
            · refine x_ifeq (t := 76) (pc' := 73) d_M_merge_70 rfl rfl (fun q => absurd q (by rw [h4]; decide)) (fun _ => ?_)
              refine x_bipush (v := (-4)) (pc' := 75) d_M_merge_73 rfl (by decide) ?_
              exact x_ireturn d_M_merge_75 rfl rfl (key _ (by unfold sp_merge; rw [er, eb]; dsimp only; rw [h1, hd]; dsimp only; rw [h3, h4]; rfl))
            · rw [Bool.not_eq_true] at h4
              refine x_ifeq (t := 76) (pc' := 73) d_M_merge_70 rfl rfl (fun _ => ?_) (fun q => absurd (by rw [h4]; rfl) q)
              refine x_aload_n (pc' := 77) d_M_merge_76 rfl rfl ?_
              refine x_iload (pc' := 79) d_M_merge_77 rfl rfl ?_
              refine x_iload_n (pc' := 80) d_M_merge_79 rfl rfl ?_
              refine x_virtual (a := 29) (as := [.int (nI q), .int (nI p)]) (r := []) (v := (some (.int (sp_bi ((sp_rr S.1 q).testBit p))))) (h' := h) (st' := [.int (sp_bi ((sp_rr S.1 q).testBit p))]) (c' := 0) (s' := 0) (pc' := 83) d_M_merge_80 rfl c_M_107 hO rfl rfl (Nat.le_of_ble_eq_true rfl) (Nat.le_of_ble_eq_true rfl) (Nat.le_of_ble_eq_true rfl) (fun Q' hq => c_M_reaches hO hK hS.1 hq1 (by omega) hq) rfl rfl rfl ?_
              by_cases h5 : (sp_rr S.1 q).testBit p = true
              · have e9 : sp_merge S (nI r) (nI b) = (nI q, sp_set S r (sp_mv S.1 (S.2 r) q)) := by unfold sp_merge; rw [er, eb]; dsimp only; rw [h1, hd]; dsimp only; rw [h3, h4, h5]; rfl
                rw [e9] at hQ
                have hh : sp_held (S.2 r) ||| sp_rr S.1 q = sp_held (S.2 r) := by have := hR.2.2.2.1 b hb; rw [h1] at this; rw [Nat.or_comm]; exact this
                refine x_ifeq (t := 94) (pc' := 86) d_M_merge_83 rfl rfl (fun q => absurd q (by rw [h5]; decide)) (fun _ => ?_)
                refine x_aload_n (pc' := 87) d_M_merge_86 rfl rfl ?_
                refine x_iload_n (pc' := 88) d_M_merge_87 rfl rfl ?_
                refine x_iload (pc' := 90) d_M_merge_88 rfl rfl ?_
                refine x_virtualR (a := 29) (as := [.int (nI r), .int (nI q)]) (r := []) (Post := fun v9 h9 => v9 = some (.int (nI q)) ∧ mk h9 (sp_set S r (sp_up (sp_tip (S.2 r)) (sp_cur (S.2 r)) (some q), sp_cur (S.2 r), sp_held (S.2 r), sp_of S.1 (some q), sp_of S.1 (some q))) ∧ mo h9 (sp_n S.1) tk ∧ xl_fr sp_MV h h9) (c' := 0) (s' := 0) (pc' := 93) d_M_merge_90 rfl c_M_137 hO rfl rfl (Nat.le_of_ble_eq_true rfl) (Nat.le_of_ble_eq_true rfl) (Nat.le_of_ble_eq_true rfl) (fun Q' hq => c_M_moveTo (mk_self hK) hO hr hR.1 hq1 (fun h' z1 z2 z3 => hq _ h' ⟨rfl, z1, z2, z3⟩)) rfl rfl (fun v9 h2 hp => ?_)
                obtain ⟨rfl, a2, hO2, f2⟩ := hp
                show xm_X L xs (xm_call L xs (d + 5)) m_M_merge (93, [.ref 29, .int (nI r), .int (nI b), .int (nI p), .int (nI q), .float 0, .float 0], [.int (nI q)], h2, 0, 0) Q
                exact x_ireturn d_M_merge_93 rfl rfl (hQ h2 (mh_of hM (by unfold sp_mv; rw [hh]; exact a2) hO2 (fun k z1 z2 => f2.2 k (by omega))) (xl_mono f2 (fun k z => by show 29 ≤ k; omega)))
              · rw [Bool.not_eq_true] at h5
                refine x_ifeq (t := 94) (pc' := 86) d_M_merge_83 rfl rfl (fun _ => ?_) (fun q => absurd (by rw [h5]; rfl) q)
                refine x_aload_n (pc' := 95) d_M_merge_94 rfl rfl ?_
                refine x_iload_n (pc' := 96) d_M_merge_95 rfl rfl ?_
                refine x_iload (pc' := 98) d_M_merge_96 rfl rfl ?_
                refine x_virtual (a := 29) (as := [.int (nI p), .int (nI q)]) (r := []) (v := (some (.int (sp_vi (sp_base S.1 (some p) (some q)))))) (h' := h) (st' := [.int (sp_vi (sp_base S.1 (some p) (some q)))]) (c' := 0) (s' := 0) (pc' := 101) d_M_merge_98 rfl c_M_141 hO rfl rfl (Nat.le_of_ble_eq_true rfl) (Nat.le_of_ble_eq_true rfl) (Nat.le_of_ble_eq_true rfl) (fun Q' hq => c_M_baseOf hO hK hS.1 hp1 hq1 hq) rfl rfl rfl ?_
                refine x_istore (lo' := [.ref 29, .int (nI r), .int (nI b), .int (nI p), .int (nI q), .int (sp_vi (sp_base S.1 (some p) (some q))), .float 0]) (pc' := 103) d_M_merge_101 rfl (Nat.le_of_ble_eq_true rfl) rfl ?_
                refine x_iconst (v := nI 0) (pc' := 104) d_M_merge_103 rfl (by decide) ?_
                refine x_istore (lo' := [.ref 29, .int (nI r), .int (nI b), .int (nI p), .int (nI q), .int (sp_vi (sp_base S.1 (some p) (some q))), .int (nI 0)]) (pc' := 106) d_M_merge_104 rfl (Nat.le_of_ble_eq_true rfl) rfl ?_
                refine l_M_merge sp_base_ok hp1 hq1 (fun h1' K1 O1 r1 r2 r3 f1 => ?_) 4 0 rfl h hK hO (sp_rk_0 hw.1) (sp_rk_0 hw.2.1) (sp_rk_0 hw.2.2.1) xl_rf
                have W41 : mw4 h1' 41 := mw4_go hw.2.2.2.1 (f1.2 41 (by omega))
                have MU : mu h1' (sp_n S.1) := by
                  obtain ⟨⟨f1', b1⟩, ⟨f2', b2⟩, ⟨f3', b3⟩, ⟨f4', b4⟩, -⟩ := hw.2.2.2.2
                  exact ⟨⟨_, O1⟩, ⟨f1', (f1.2 42 (by omega)).trans b1⟩, ⟨f2', (f1.2 43 (by omega)).trans b2⟩, ⟨f3', (f1.2 44 (by omega)).trans b3⟩, ⟨f4', (f1.2 45 (by omega)).trans b4⟩⟩
                have W46 : ∃ f : Nat → Int64, h1'[46]? = some (.inl (.long, 160, .inr (.inl f))) := ⟨hw.2.2.2.2.2.2.2.2.choose, (f1.2 46 (by omega)).trans hw.2.2.2.2.2.2.2.2.choose_spec⟩
                have FF : ∀ h2, xl_fr sp_MU h1' h2 → mu h2 (sp_n S.1) → mw4 h2 41 → mk h2 S ∧ mw h2 ∧ xl_fr sp_MA h h2 := fun h2 f2 m2 w2 => ⟨mk_go K1 (fun k z1 z2 => f2.2 k (by omega)), mw_mu (mw4_go (sp_rk_w r1) (f2.2 38 (by omega))) (mw4_go (sp_rk_w r2) (f2.2 39 (by omega))) (mw4_go (sp_rk_w r3) (f2.2 40 (by omega))) w2 m2 ⟨W46.choose, (f2.2 46 (by omega)).trans W46.choose_spec⟩, xl_tr (xl_mono f1 (fun k z => Or.inr (by omega))) (xl_mono f2 (fun k z => by rcases z with z | z; exact Or.inl z; exact Or.inr ⟨by omega, z.2⟩))⟩
                have e9 : sp_merge S (nI r) (nI b) = match sp_snap (sp_of S.1 (sp_base S.1 (some p) (some q))) (sp_of S.1 (some p)) (sp_of S.1 (some q)) with
      | none => (-5, S)
      | some t => if 40 ≤ sp_n S.1 then (-6, S) else (nI (sp_n S.1), sp_add S.1 t (some p) (some q), sp_up S.2 r (sp_mv (sp_add S.1 t (some p) (some q)) (S.2 r) (sp_n S.1))) := by unfold sp_merge; rw [er, eb]; dsimp only; rw [h1, hd]; dsimp only; rw [h3, h4, h5]; rfl
                rw [e9] at hQ
                refine x_aload_n (pc' := 163) d_M_merge_162 rfl rfl ?_
                refine x_virtualR (a := 29) (as := []) (r := []) (Post := fun v9 h9 => (v9 = some (.int 0) ∧ sp_snap (sp_of S.1 (sp_base S.1 (some p) (some q))) (sp_of S.1 (some p)) (sp_of S.1 (some q)) = none ∧ mu h9 (sp_n S.1) ∧ mw4 h9 41 ∧ xl_fr sp_MU h1' h9) ∨ (v9 = some (.int 1) ∧ ∃ u, sp_snap (sp_of S.1 (sp_base S.1 (some p) (some q))) (sp_of S.1 (some p)) (sp_of S.1 (some q)) = some u ∧ mu h9 (sp_n S.1) ∧ sp_rk h9 41 u 4 ∧ xl_fr sp_MU h1' h9)) (c' := 0) (s' := 0) (pc' := 166) d_M_merge_163 rfl c_M_144 O1 rfl rfl (Nat.le_of_ble_eq_true rfl) (Nat.le_of_ble_eq_true rfl) (Nat.le_of_ble_eq_true rfl) (fun Q' hq => c_M_unite (sp_WH_of hS.1 sp_base_ok) (sp_WH_of hS.1 (sp_ok_some hp1)) (sp_WH_of hS.1 (sp_ok_some hq1)) r1 r2 r3 MU W41.choose_spec (fun e h' g z1 z2 z3 => hq _ h' (Or.inl ⟨rfl, e, z1, ⟨g, z2⟩, z3⟩)) (fun u e h' g z1 z2 z3 z4 => hq _ h' (Or.inr ⟨rfl, u, e, z1, ⟨g, z2, z3⟩, z4⟩))) rfl rfl (fun v9 h2 hp => ?_)
                rcases hp with ⟨rfl, en, m2, w2', f2⟩ | ⟨rfl, t, en, m2, r41, f2⟩
                · show xm_X L xs (xm_call L xs (d + 5)) m_M_merge (166, [.ref 29, .int (nI r), .int (nI b), .int (nI p), .int (nI q), .int (sp_vi (sp_base S.1 (some p) (some q))), .int (nI 4)], [.int 0], h2, 0, 0) Q
                  rw [en] at hQ
                  obtain ⟨K2, w2, F2⟩ := FF h2 f2 m2 w2'
                  refine x_ifne (t := 172) (pc' := 169) d_M_merge_166 rfl rfl (fun q => absurd rfl q) (fun _ => ?_)
                  refine x_bipush (v := (-5)) (pc' := 171) d_M_merge_169 rfl (by decide) ?_
                  exact x_ireturn d_M_merge_171 rfl rfl (hQ h2 ⟨K2, m2.1, w2⟩ (xl_mono F2 (fun k z => by show 29 ≤ k; rcases z with z | z <;> omega)))
                · show xm_X L xs (xm_call L xs (d + 5)) m_M_merge (166, [.ref 29, .int (nI r), .int (nI b), .int (nI p), .int (nI q), .int (sp_vi (sp_base S.1 (some p) (some q))), .int (nI 4)], [.int 1], h2, 0, 0) Q
                  rw [en] at hQ
                  dsimp only at hQ
                  obtain ⟨K2, w2, F2⟩ := FF h2 f2 m2 (sp_rk_w r41)
                  obtain ⟨tk2, O2⟩ := m2.1
                  refine x_ifne (t := 172) (pc' := 169) d_M_merge_166 rfl rfl (fun _ => ?_) (fun q => absurd q (by decide))
                  refine x_aload_n (pc' := 173) d_M_merge_172 rfl rfl ?_
                  refine x_getfield (ci := 4) (i := 0) (v := .int (nI (sp_n S.1))) (pc' := 176) d_M_merge_173 rfl g_M_104 O2 rfl ?_
                  refine x_bipush (v := nI 40) (pc' := 178) d_M_merge_176 rfl (by decide) ?_
                  by_cases hn : 40 ≤ sp_n S.1
                  · rw [if_pos hn] at hQ
                    refine x_icmpne (t := 184) (pc' := 181) d_M_merge_178 rfl rfl (fun q => absurd (by rw [show sp_n S.1 = 40 by omega]) q) (fun _ => ?_)
                    refine x_bipush (v := (-6)) (pc' := 183) d_M_merge_181 rfl (by decide) ?_
                    exact x_ireturn d_M_merge_183 rfl rfl (hQ h2 ⟨K2, ⟨_, O2⟩, w2⟩ (xl_mono F2 (fun k z => by show 29 ≤ k; rcases z with z | z <;> omega)))
                  · rw [if_neg hn] at hQ
                    obtain ⟨T, T1, T2⟩ := K2.2.1
                    obtain ⟨P1, p1, p2⟩ := K2.2.2.1
                    obtain ⟨P2, q1, q2⟩ := K2.2.2.2.1
                    obtain ⟨g, g1, g2⟩ := K2.2.2.2.2.1
                    obtain ⟨v, j1, hv⟩ := r41
                    refine x_icmpne (t := 184) (pc' := 181) d_M_merge_178 rfl rfl (fun _ => ?_) (fun q => absurd q (fun z => absurd (sp_nI_inj (by omega) (by decide) z) (by omega)))
                    refine x_aload_n (pc' := 185) d_M_merge_184 rfl rfl ?_
                    refine x_iload_n (pc' := 186) d_M_merge_185 rfl rfl ?_
                    refine x_iload_n (pc' := 187) d_M_merge_186 rfl rfl ?_
                    refine x_iload (pc' := 189) d_M_merge_187 rfl rfl ?_
                    refine x_virtualR (a := 29) (as := [.int (nI r), .int (nI p), .int (nI q)]) (r := []) (Post := fun v9 h9 => v9 = some (.int (nI (sp_n S.1))) ∧ mo h9 (sp_n S.1 + 1) tk2 ∧ h9[31]? = some (.inl (.int, 40, .inl (upd P1 (sp_n S.1) (sp_vi (some p))))) ∧ h9[32]? = some (.inl (.int, 40, .inl (upd P2 (sp_n S.1) (sp_vi (some q))))) ∧ h9[33]? = some (.inl (.long, 2, .inr (.inl (vp_updL g r (lN (sp_held (S.2 r) ||| 2 ^ sp_n S.1)))))) ∧ xl_fr sp_MK h2 h9) (c' := 0) (s' := 0) (pc' := 192) d_M_merge_189 rfl c_M_126 O2 rfl rfl (Nat.le_of_ble_eq_true rfl) (Nat.le_of_ble_eq_true rfl) (Nat.le_of_ble_eq_true rfl) (fun Q' hq => c_M_make O2 (by omega) p1 q1 g1 hr (g2 r hr) (Nat.lt_of_lt_of_le hR.2.2.1 (Nat.pow_le_pow_right (by decide) (by omega))) (fun h' z1 z2 z3 z4 z5 => hq _ h' ⟨rfl, z1, z2, z3, z4, z5⟩)) rfl rfl (fun v9 h3 hp => ?_)
                    obtain ⟨rfl, O3, m1, m2, m3, f3⟩ := hp
                    show xm_X L xs (xm_call L xs (d + 5)) m_M_merge (192, [.ref 29, .int (nI r), .int (nI b), .int (nI p), .int (nI q), .int (sp_vi (sp_base S.1 (some p) (some q))), .int (nI 4)], [.int (nI (sp_n S.1))], h3, 0, 0) Q
                    have S3 := (f3.2 30 (by omega)).trans T1
                    have J3 := (f3.2 41 (by omega)).trans j1
                    refine x_istore (lo' := [.ref 29, .int (nI r), .int (nI b), .int (nI p), .int (nI q), .int (sp_vi (sp_base S.1 (some p) (some q))), .int (nI (sp_n S.1))]) (pc' := 194) d_M_merge_192 rfl (Nat.le_of_ble_eq_true rfl) rfl ?_
                    refine x_aload_n (pc' := 195) d_M_merge_194 rfl rfl ?_
                    refine x_iload (pc' := 197) d_M_merge_195 rfl rfl ?_
                    refine x_virtual (a := 29) (as := [.int (nI (sp_n S.1))]) (r := []) (v := none) (h' := (h3.set 30 (.inl (.long, 160, .inr (.inl (sp_q4 T (4 * sp_n S.1) v)))))) (st' := []) (c' := 0) (s' := 0) (pc' := 200) d_M_merge_197 rfl c_M_148 O3 rfl rfl (Nat.le_of_ble_eq_true rfl) (Nat.le_of_ble_eq_true rfl) (Nat.le_of_ble_eq_true rfl) (fun Q' hq => c_M_putJoined O3 S3 J3 (by omega) hq) rfl rfl rfl ?_
                    have a4 := mk_nw (t := t) (o1 := some p) (o2 := some q) K2 (by omega) hr hv T1 T2 p2 q2 g2 m1 m2 m3 f3
                    have O4 : mo (h3.set 30 (.inl (.long, 160, .inr (.inl (sp_q4 T (4 * sp_n S.1) v))))) (sp_n S.1 + 1) tk2 := (xl_ne (by decide)).trans O3
                    refine x_aload_n (pc' := 201) d_M_merge_200 rfl rfl ?_
                    refine x_iload_n (pc' := 202) d_M_merge_201 rfl rfl ?_
                    refine x_iload (pc' := 204) d_M_merge_202 rfl rfl ?_
                    refine x_virtualR (a := 29) (as := [.int (nI r), .int (nI (sp_n S.1))]) (r := []) (Post := fun v9 h9 => v9 = some (.int (nI (sp_n S.1))) ∧ mk h9 (sp_set ((sp_add S.1 t (some p) (some q)), S.2) r (sp_up (sp_tip (S.2 r)) (sp_cur (S.2 r)) (some (sp_n S.1)), sp_cur (S.2 r), sp_held (S.2 r) ||| 2 ^ sp_n S.1, sp_of (sp_add S.1 t (some p) (some q)) (some (sp_n S.1)), sp_of (sp_add S.1 t (some p) (some q)) (some (sp_n S.1)))) ∧ mo h9 (sp_n S.1 + 1) tk2 ∧ xl_fr sp_MV (h3.set 30 (.inl (.long, 160, .inr (.inl (sp_q4 T (4 * sp_n S.1) v))))) h9) (c' := 0) (s' := 0) (pc' := 207) d_M_merge_204 rfl c_M_137 O4 rfl rfl (Nat.le_of_ble_eq_true rfl) (Nat.le_of_ble_eq_true rfl) (Nat.le_of_ble_eq_true rfl) (fun Q' hq => c_M_moveTo (S := ((sp_add S.1 t (some p) (some q)), S.2)) a4 O4 hr hR.1 (Nat.lt_succ_self _) (fun h' z1 z2 z3 => hq _ h' ⟨rfl, z1, z2, z3⟩)) rfl rfl (fun v9 h5 hp => ?_)
                    obtain ⟨rfl, a5, O5, f5⟩ := hp
                    show xm_X L xs (xm_call L xs (d + 5)) m_M_merge (207, [.ref 29, .int (nI r), .int (nI b), .int (nI p), .int (nI q), .int (sp_vi (sp_base S.1 (some p) (some q))), .int (nI (sp_n S.1))], [.int (nI (sp_n S.1))], h5, 0, 0) Q
                    have eM := mv_nw (S := S) (r := r) (t := t) (o1 := some p) (o2 := some q) (by have := hR.2.2.2.1 _ hR.1; rw [show sp_tip (S.2 r) (sp_cur (S.2 r)) = some p from hd] at this; exact this) (by have := hR.2.2.2.1 b hb; rw [h1] at this; exact this)
                    exact x_ireturn d_M_merge_207 rfl rfl (hQ h5 (by rw [eM]; exact ⟨a5, ⟨tk2, O5⟩, mw_go w2 (fun k z1 z2 => (f5.2 k (by omega)).trans ((xl_ne (by omega)).trans (f3.2 k (by omega))))⟩) (xl_tr (xl_mono F2 (fun k z => by show 29 ≤ k; rcases z with z | z <;> omega)) (xl_tr (xl_mono f3 (fun k z => by show 29 ≤ k; rcases z with z | z <;> omega)) (xl_tr (xl_set (by decide)) (xl_mono f5 (fun k z => by show 29 ≤ k; omega))))))
          · refine x_ifeq (t := 51) (pc' := 48) d_M_merge_45 rfl rfl (fun q => absurd q (by rw [Bool.eq_false_iff.mpr h3]; decide)) (fun _ => ?_)
            refine x_bipush (v := (-3)) (pc' := 50) d_M_merge_48 rfl (by decide) ?_
            exact x_ireturn d_M_merge_50 rfl rfl (key _ (by unfold sp_merge; rw [er, eb]; dsimp only; rw [h1, hd]; dsimp only; rw [Bool.eq_false_iff.mpr h3]; rfl))
