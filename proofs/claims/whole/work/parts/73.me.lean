/-! pick of the reference. (Printed by c_me.py.) -/
theorem l_M_pick39 {L : Nat} {xs : Nat → Int32} {d : Nat} {h : xm_H} {Q : xm_Q} {S : sp_S} {tk : Int32} {p : Nat} {r c : Nat} (hp1 : p < sp_n S.1)
    (K : ∀ h1, mk h1 S → mo h1 (sp_n S.1) tk → sp_rk h1 39 (sp_of S.1 (some p)) 4 → xl_fr (fun k => k = 39) h h1 → xm_X L xs (xm_call L xs (d + 6)) m_M_pick (104, [.ref 29, .int (nI r), .int (nI c), .int (nI p), .int (nI 4)], [], h1, 0, 0) Q) :
    ∀ z k, k + z = 4 → ∀ h1, mk h1 S → mo h1 (sp_n S.1) tk → sp_rk h1 39 (sp_of S.1 (some p)) k → xl_fr (fun k => k = 39) h h1 → xm_X L xs (xm_call L xs (d + 6)) m_M_pick (78, [.ref 29, .int (nI r), .int (nI c), .int (nI p), .int (nI k)], [], h1, 0, 0) Q := by
  intro z
  induction z with
  | zero =>
    intro k hk h1 hM hO r1 hf
    have hk : k = 4 := hk
    subst hk
    refine x_iload (pc' := 80) d_M_pick_78 rfl rfl ?_
    refine x_iconst (v := nI 4) (pc' := 81) d_M_pick_80 rfl (by decide) ?_
    refine x_icmpge (t := 104) (pc' := 84) d_M_pick_81 rfl rfl (fun _ => ?_) (fun q => absurd (nI_le (Nat.le_refl _) (by decide)) q)
    exact K h1 hM hO r1 hf
  | succ z ih =>
    intro k hk h1 hM hO r1 hf
    have hk4 : k < 4 := by omega
    obtain ⟨f, f1, f2⟩ := r1
    refine x_iload (pc' := 80) d_M_pick_78 rfl rfl ?_
    refine x_iconst (v := nI 4) (pc' := 81) d_M_pick_80 rfl (by decide) ?_
    refine x_icmpge (t := 104) (pc' := 84) d_M_pick_81 rfl rfl (fun q => absurd q (nI_ge hk4 (by decide))) (fun _ => ?_)
    refine x_aload_n (pc' := 85) d_M_pick_84 rfl rfl ?_
    refine x_getfield (ci := 4) (i := 10) (v := .ref 39) (pc' := 88) d_M_pick_85 rfl g_M_38 hO rfl ?_
    refine x_iload (pc' := 90) d_M_pick_88 rfl rfl ?_
    refine x_aload_n (pc' := 91) d_M_pick_90 rfl rfl ?_
    refine x_iload_n (pc' := 92) d_M_pick_91 rfl rfl ?_
    refine x_iload (pc' := 94) d_M_pick_92 rfl rfl ?_
    refine x_virtual (a := 29) (as := [.int (nI p), .int (nI k)]) (r := [.int (nI k), .ref 39]) (v := (some (.long (sp_tv (sp_of S.1 (some p) k))))) (h' := h1) (st' := [.long (sp_tv (sp_of S.1 (some p) k)), .int (nI k), .ref 39]) (c' := 0) (s' := 0) (pc' := 97) d_M_pick_94 rfl c_M_115 hO rfl rfl (Nat.le_of_ble_eq_true rfl) (Nat.le_of_ble_eq_true rfl) (Nat.le_of_ble_eq_true rfl) (fun Q' hq => c_M_textOf1 hO hM hp1 hk4 hq) rfl rfl rfl ?_
    refine x_lastore (h' := (h1.set 39 (.inl (.long, 4, .inr (.inl (vp_updL f (nI k).toNatClampNeg (sp_tv (sp_of S.1 (some p) k)))))))) (pc' := 98) d_M_pick_97 rfl f1 (vp_in_nI (by omega) (by decide)) rfl ?_
    refine x_iinc (y := nI (k + 1)) (lo' := [.ref 29, .int (nI r), .int (nI c), .int (nI p), .int (nI (k + 1))]) (pc' := 101) d_M_pick_98 rfl rfl (sp_nI_inc k) rfl ?_
    refine x_goto (t := 78) d_M_pick_101 rfl ?_
    exact ih (k + 1) (by omega) (h1.set 39 (.inl (.long, 4, .inr (.inl (vp_updL f (nI k).toNatClampNeg (sp_tv (sp_of S.1 (some p) k))))))) (mk_go hM (fun k z1 z2 => xl_ne (by omega))) ((xl_ne (by decide)).trans hO) (sp_rk_s f1 f2 hk4) (xl_tr hf (xl_set rfl))
theorem l_M_rebase39 {L : Nat} {xs : Nat → Int32} {d : Nat} {h : xm_H} {Q : xm_Q} {S : sp_S} {tk : Int32} {p : Nat} {r b : Nat} (hp1 : p < sp_n S.1)
    (K : ∀ h1, mk h1 S → mo h1 (sp_n S.1) tk → sp_rk h1 39 (sp_of S.1 (some p)) 4 → xl_fr (fun k => k = 39) h h1 → xm_X L xs (xm_call L xs (d + 7)) m_M_rebase (89, [.ref 29, .int (nI r), .int (nI b), .int (nI p), .int (nI 4), .float 0, .float 0], [], h1, 0, 0) Q) :
    ∀ z k, k + z = 4 → ∀ h1, mk h1 S → mo h1 (sp_n S.1) tk → sp_rk h1 39 (sp_of S.1 (some p)) k → xl_fr (fun k => k = 39) h h1 → xm_X L xs (xm_call L xs (d + 7)) m_M_rebase (63, [.ref 29, .int (nI r), .int (nI b), .int (nI p), .int (nI k), .float 0, .float 0], [], h1, 0, 0) Q := by
  intro z
  induction z with
  | zero =>
    intro k hk h1 hM hO r1 hf
    have hk : k = 4 := hk
    subst hk
    refine x_iload (pc' := 65) d_M_rebase_63 rfl rfl ?_
    refine x_iconst (v := nI 4) (pc' := 66) d_M_rebase_65 rfl (by decide) ?_
    refine x_icmpge (t := 89) (pc' := 69) d_M_rebase_66 rfl rfl (fun _ => ?_) (fun q => absurd (nI_le (Nat.le_refl _) (by decide)) q)
    exact K h1 hM hO r1 hf
  | succ z ih =>
    intro k hk h1 hM hO r1 hf
    have hk4 : k < 4 := by omega
    obtain ⟨f, f1, f2⟩ := r1
    refine x_iload (pc' := 65) d_M_rebase_63 rfl rfl ?_
    refine x_iconst (v := nI 4) (pc' := 66) d_M_rebase_65 rfl (by decide) ?_
    refine x_icmpge (t := 89) (pc' := 69) d_M_rebase_66 rfl rfl (fun q => absurd q (nI_ge hk4 (by decide))) (fun _ => ?_)
    refine x_aload_n (pc' := 70) d_M_rebase_69 rfl rfl ?_
    refine x_getfield (ci := 4) (i := 10) (v := .ref 39) (pc' := 73) d_M_rebase_70 rfl g_M_38 hO rfl ?_
    refine x_iload (pc' := 75) d_M_rebase_73 rfl rfl ?_
    refine x_aload_n (pc' := 76) d_M_rebase_75 rfl rfl ?_
    refine x_iload_n (pc' := 77) d_M_rebase_76 rfl rfl ?_
    refine x_iload (pc' := 79) d_M_rebase_77 rfl rfl ?_
    refine x_virtual (a := 29) (as := [.int (nI p), .int (nI k)]) (r := [.int (nI k), .ref 39]) (v := (some (.long (sp_tv (sp_of S.1 (some p) k))))) (h' := h1) (st' := [.long (sp_tv (sp_of S.1 (some p) k)), .int (nI k), .ref 39]) (c' := 0) (s' := 0) (pc' := 82) d_M_rebase_79 rfl c_M_115 hO rfl rfl (Nat.le_of_ble_eq_true rfl) (Nat.le_of_ble_eq_true rfl) (Nat.le_of_ble_eq_true rfl) (fun Q' hq => c_M_textOf1 hO hM hp1 hk4 hq) rfl rfl rfl ?_
    refine x_lastore (h' := (h1.set 39 (.inl (.long, 4, .inr (.inl (vp_updL f (nI k).toNatClampNeg (sp_tv (sp_of S.1 (some p) k)))))))) (pc' := 83) d_M_rebase_82 rfl f1 (vp_in_nI (by omega) (by decide)) rfl ?_
    refine x_iinc (y := nI (k + 1)) (lo' := [.ref 29, .int (nI r), .int (nI b), .int (nI p), .int (nI (k + 1)), .float 0, .float 0]) (pc' := 86) d_M_rebase_83 rfl rfl (sp_nI_inc k) rfl ?_
    refine x_goto (t := 63) d_M_rebase_86 rfl ?_
    exact ih (k + 1) (by omega) (h1.set 39 (.inl (.long, 4, .inr (.inl (vp_updL f (nI k).toNatClampNeg (sp_tv (sp_of S.1 (some p) k))))))) (mk_go hM (fun k z1 z2 => xl_ne (by omega))) ((xl_ne (by decide)).trans hO) (sp_rk_s f1 f2 hk4) (xl_tr hf (xl_set rfl))
theorem mw_39 {h h1 : xm_H} (w : mw h) (r1 : mw4 h1 39) (f : xl_fr (fun k => k = 39) h h1) : mw h1 := by
  obtain ⟨a1, a2, a3, a4, ⟨f1, b1⟩, ⟨f2, b2⟩, ⟨f3, b3⟩, ⟨f4, b4⟩, ⟨f5, b5⟩⟩ := w
  exact ⟨mw4_go a1 (f.2 38 (by omega)), r1, mw4_go a3 (f.2 40 (by omega)), mw4_go a4 (f.2 41 (by omega)), ⟨f1, (f.2 42 (by omega)).trans b1⟩, ⟨f2, (f.2 43 (by omega)).trans b2⟩, ⟨f3, (f.2 44 (by omega)).trans b3⟩, ⟨f4, (f.2 45 (by omega)).trans b4⟩, ⟨f5, (f.2 46 (by omega)).trans b5⟩⟩
set_option maxHeartbeats 8000000 in
theorem c_M_pick {L : Nat} {xs : Nat → Int32} {d : Nat} {h : xm_H} {Q : xm_Q} {S : sp_S} (hM : mh h S) (hS : sp_WS S) {x y : Int32} (hQ : ∀ h', mh h' (sp_pick S x y).2 → xl_fr sp_M29 h h' → Q (some (.int (sp_pick S x y).1)) h') : xm_call L xs (d + 7) m_M_pick [.ref 29, .int x, .int y] h Q := by
  obtain ⟨hK, ⟨tk, hO⟩, hw⟩ := id hM
  have h40 := hK.1
  obtain ⟨g, g1, g2⟩ := hK.2.2.2.2.1
  obtain ⟨P2, q1, q2⟩ := hK.2.2.2.1
  have key : ∀ z, sp_pick S x y = (z, S) → Q (some (.int z)) h := fun z e9 => by
    rw [e9] at hQ
    exact hQ h hM xl_rf
  refine x_call (lo := [.ref 29, .int x, .int y, .float 0, .float 0]) (Nat.le_of_ble_eq_true rfl) rfl ?_
  rcases sp_in_cases 2 (by decide) x with ⟨_, ex⟩ | ⟨_, _, ex⟩ | ⟨r, hr, rfl, er⟩
  · refine x_iload_n (pc' := 1) d_M_pick_0 rfl rfl ?_
    refine x_iconst (v := nI 2) (pc' := 2) d_M_pick_1 rfl (by decide) ?_
    refine x_static (as := [.int x, .int (nI 2)]) (r := []) (v := (some (.int 1))) (h' := h) (st' := [.int 1]) (c' := 0) (s' := 0) (pc' := 5) d_M_pick_2 rfl c_M_123 rfl rfl (Nat.le_of_ble_eq_true rfl) (Nat.le_of_ble_eq_true rfl) (Nat.le_of_ble_eq_true rfl) (fun Q' hq => c_M_out1 (by decide) ex hq) rfl rfl rfl ?_
    refine x_ifeq (t := 10) (pc' := 8) d_M_pick_5 rfl rfl (fun q => absurd q (by decide)) (fun _ => ?_)
    refine x_iconst (v := (-1)) (pc' := 9) d_M_pick_8 rfl (by decide) ?_
    exact x_ireturn d_M_pick_9 rfl rfl (key _ (by unfold sp_pick; rw [ex]))
  · refine x_iload_n (pc' := 1) d_M_pick_0 rfl rfl ?_
    refine x_iconst (v := nI 2) (pc' := 2) d_M_pick_1 rfl (by decide) ?_
    refine x_static (as := [.int x, .int (nI 2)]) (r := []) (v := (some (.int 1))) (h' := h) (st' := [.int 1]) (c' := 0) (s' := 0) (pc' := 5) d_M_pick_2 rfl c_M_123 rfl rfl (Nat.le_of_ble_eq_true rfl) (Nat.le_of_ble_eq_true rfl) (Nat.le_of_ble_eq_true rfl) (fun Q' hq => c_M_out1 (by decide) ex hq) rfl rfl rfl ?_
    refine x_ifeq (t := 10) (pc' := 8) d_M_pick_5 rfl rfl (fun q => absurd q (by decide)) (fun _ => ?_)
    refine x_iconst (v := (-1)) (pc' := 9) d_M_pick_8 rfl (by decide) ?_
    exact x_ireturn d_M_pick_9 rfl rfl (key _ (by unfold sp_pick; rw [ex]))
  · have hR := hS.2 r hr
    rcases sp_in_cases (sp_n S.1) (by omega) y with ⟨_, ey⟩ | ⟨_, _, ey⟩ | ⟨c, hc, rfl, ec⟩
    · refine x_iload_n (pc' := 1) d_M_pick_0 rfl rfl ?_
      refine x_iconst (v := nI 2) (pc' := 2) d_M_pick_1 rfl (by decide) ?_
      refine x_static (as := [.int (nI r), .int (nI 2)]) (r := []) (v := (some (.int 0))) (h' := h) (st' := [.int 0]) (c' := 0) (s' := 0) (pc' := 5) d_M_pick_2 rfl c_M_123 rfl rfl (Nat.le_of_ble_eq_true rfl) (Nat.le_of_ble_eq_true rfl) (Nat.le_of_ble_eq_true rfl) (fun Q' hq => c_M_out0 hr (by decide) hq) rfl rfl rfl ?_
      refine x_ifeq (t := 10) (pc' := 8) d_M_pick_5 rfl rfl (fun _ => ?_) (fun q => absurd rfl q)
      refine x_aload_n (pc' := 11) d_M_pick_10 rfl rfl ?_
      refine x_iload_n (pc' := 12) d_M_pick_11 rfl rfl ?_
      refine x_virtual (a := 29) (as := [.int (nI r)]) (r := []) (v := (some (.int (sp_vi (sp_head (S.2 r)))))) (h' := h) (st' := [.int (sp_vi (sp_head (S.2 r)))]) (c' := 0) (s' := 0) (pc' := 15) d_M_pick_12 rfl c_M_111 hO rfl rfl (Nat.le_of_ble_eq_true rfl) (Nat.le_of_ble_eq_true rfl) (Nat.le_of_ble_eq_true rfl) (fun Q' hq => c_M_head hO hK hr hR.1 hq) rfl rfl rfl ?_
      refine x_istore_n (lo' := [.ref 29, .int (nI r), .int y, .int (sp_vi (sp_head (S.2 r))), .float 0]) (pc' := 16) d_M_pick_15 rfl (Nat.le_of_ble_eq_true rfl) rfl ?_
      refine x_iload_n (pc' := 17) d_M_pick_16 rfl rfl ?_
      refine x_aload_n (pc' := 18) d_M_pick_17 rfl rfl ?_
      refine x_getfield (ci := 4) (i := 0) (v := .int (nI (sp_n S.1))) (pc' := 21) d_M_pick_18 rfl g_M_104 hO rfl ?_
      refine x_static (as := [.int y, .int (nI (sp_n S.1))]) (r := []) (v := (some (.int 1))) (h' := h) (st' := [.int 1]) (c' := 0) (s' := 0) (pc' := 24) d_M_pick_21 rfl c_M_123 rfl rfl (Nat.le_of_ble_eq_true rfl) (Nat.le_of_ble_eq_true rfl) (Nat.le_of_ble_eq_true rfl) (fun Q' hq => c_M_out1 (by omega) ey hq) rfl rfl rfl ?_
      refine x_ifne (t := 31) (pc' := 27) d_M_pick_24 rfl rfl (fun _ => ?_) (fun q => absurd q (by decide))
      refine x_bipush (v := (-2)) (pc' := 33) d_M_pick_31 rfl (by decide) ?_
      exact x_ireturn d_M_pick_33 rfl rfl (key _ (by unfold sp_pick; rw [er]; dsimp only; rw [ey]))
    · refine x_iload_n (pc' := 1) d_M_pick_0 rfl rfl ?_
      refine x_iconst (v := nI 2) (pc' := 2) d_M_pick_1 rfl (by decide) ?_
      refine x_static (as := [.int (nI r), .int (nI 2)]) (r := []) (v := (some (.int 0))) (h' := h) (st' := [.int 0]) (c' := 0) (s' := 0) (pc' := 5) d_M_pick_2 rfl c_M_123 rfl rfl (Nat.le_of_ble_eq_true rfl) (Nat.le_of_ble_eq_true rfl) (Nat.le_of_ble_eq_true rfl) (fun Q' hq => c_M_out0 hr (by decide) hq) rfl rfl rfl ?_
      refine x_ifeq (t := 10) (pc' := 8) d_M_pick_5 rfl rfl (fun _ => ?_) (fun q => absurd rfl q)
      refine x_aload_n (pc' := 11) d_M_pick_10 rfl rfl ?_
      refine x_iload_n (pc' := 12) d_M_pick_11 rfl rfl ?_
      refine x_virtual (a := 29) (as := [.int (nI r)]) (r := []) (v := (some (.int (sp_vi (sp_head (S.2 r)))))) (h' := h) (st' := [.int (sp_vi (sp_head (S.2 r)))]) (c' := 0) (s' := 0) (pc' := 15) d_M_pick_12 rfl c_M_111 hO rfl rfl (Nat.le_of_ble_eq_true rfl) (Nat.le_of_ble_eq_true rfl) (Nat.le_of_ble_eq_true rfl) (fun Q' hq => c_M_head hO hK hr hR.1 hq) rfl rfl rfl ?_
      refine x_istore_n (lo' := [.ref 29, .int (nI r), .int y, .int (sp_vi (sp_head (S.2 r))), .float 0]) (pc' := 16) d_M_pick_15 rfl (Nat.le_of_ble_eq_true rfl) rfl ?_
      refine x_iload_n (pc' := 17) d_M_pick_16 rfl rfl ?_
      refine x_aload_n (pc' := 18) d_M_pick_17 rfl rfl ?_
      refine x_getfield (ci := 4) (i := 0) (v := .int (nI (sp_n S.1))) (pc' := 21) d_M_pick_18 rfl g_M_104 hO rfl ?_
      refine x_static (as := [.int y, .int (nI (sp_n S.1))]) (r := []) (v := (some (.int 1))) (h' := h) (st' := [.int 1]) (c' := 0) (s' := 0) (pc' := 24) d_M_pick_21 rfl c_M_123 rfl rfl (Nat.le_of_ble_eq_true rfl) (Nat.le_of_ble_eq_true rfl) (Nat.le_of_ble_eq_true rfl) (fun Q' hq => c_M_out1 (by omega) ey hq) rfl rfl rfl ?_
      refine x_ifne (t := 31) (pc' := 27) d_M_pick_24 rfl rfl (fun _ => ?_) (fun q => absurd q (by decide))
      refine x_bipush (v := (-2)) (pc' := 33) d_M_pick_31 rfl (by decide) ?_
      exact x_ireturn d_M_pick_33 rfl rfl (key _ (by unfold sp_pick; rw [er]; dsimp only; rw [ey]))
    · refine x_iload_n (pc' := 1) d_M_pick_0 rfl rfl ?_
      refine x_iconst (v := nI 2) (pc' := 2) d_M_pick_1 rfl (by decide) ?_
      refine x_static (as := [.int (nI r), .int (nI 2)]) (r := []) (v := (some (.int 0))) (h' := h) (st' := [.int 0]) (c' := 0) (s' := 0) (pc' := 5) d_M_pick_2 rfl c_M_123 rfl rfl (Nat.le_of_ble_eq_true rfl) (Nat.le_of_ble_eq_true rfl) (Nat.le_of_ble_eq_true rfl) (fun Q' hq => c_M_out0 hr (by decide) hq) rfl rfl rfl ?_
      refine x_ifeq (t := 10) (pc' := 8) d_M_pick_5 rfl rfl (fun _ => ?_) (fun q => absurd rfl q)
      refine x_aload_n (pc' := 11) d_M_pick_10 rfl rfl ?_
      refine x_iload_n (pc' := 12) d_M_pick_11 rfl rfl ?_
      refine x_virtual (a := 29) (as := [.int (nI r)]) (r := []) (v := (some (.int (sp_vi (sp_head (S.2 r)))))) (h' := h) (st' := [.int (sp_vi (sp_head (S.2 r)))]) (c' := 0) (s' := 0) (pc' := 15) d_M_pick_12 rfl c_M_111 hO rfl rfl (Nat.le_of_ble_eq_true rfl) (Nat.le_of_ble_eq_true rfl) (Nat.le_of_ble_eq_true rfl) (fun Q' hq => c_M_head hO hK hr hR.1 hq) rfl rfl rfl ?_
      refine x_istore_n (lo' := [.ref 29, .int (nI r), .int (nI c), .int (sp_vi (sp_head (S.2 r))), .float 0]) (pc' := 16) d_M_pick_15 rfl (Nat.le_of_ble_eq_true rfl) rfl ?_
      refine x_iload_n (pc' := 17) d_M_pick_16 rfl rfl ?_
      refine x_aload_n (pc' := 18) d_M_pick_17 rfl rfl ?_
      refine x_getfield (ci := 4) (i := 0) (v := .int (nI (sp_n S.1))) (pc' := 21) d_M_pick_18 rfl g_M_104 hO rfl ?_
      refine x_static (as := [.int (nI c), .int (nI (sp_n S.1))]) (r := []) (v := (some (.int 0))) (h' := h) (st' := [.int 0]) (c' := 0) (s' := 0) (pc' := 24) d_M_pick_21 rfl c_M_123 rfl rfl (Nat.le_of_ble_eq_true rfl) (Nat.le_of_ble_eq_true rfl) (Nat.le_of_ble_eq_true rfl) (fun Q' hq => c_M_out0 hc (by omega) hq) rfl rfl rfl ?_
      refine x_ifne (t := 31) (pc' := 27) d_M_pick_24 rfl rfl (fun q => absurd rfl q) (fun _ => ?_)
      refine x_iload_n (pc' := 28) d_M_pick_27 rfl rfl ?_
      rcases sp_oc (sp_head (S.2 r)) with hd | ⟨p, hd⟩
      · refine x_ifge (t := 34) (pc' := 31) d_M_pick_28 rfl rfl (fun q => absurd q (by rw [hd]; decide)) (fun _ => ?_)
        refine x_bipush (v := (-2)) (pc' := 33) d_M_pick_31 rfl (by decide) ?_
        exact x_ireturn d_M_pick_33 rfl rfl (key _ (by unfold sp_pick; rw [er]; dsimp only; rw [ec, hd]))
      · have hp1 := hR.2.1 _ hR.1 p hd
        rw [show sp_vi (sp_head (S.2 r)) = nI p by rw [hd]; rfl]
        refine x_ifge (t := 34) (pc' := 31) d_M_pick_28 rfl rfl (fun _ => ?_) (fun q => absurd (nI_pos' (by omega)) q)
        refine x_aload_n (pc' := 35) d_M_pick_34 rfl rfl ?_
        refine x_getfield (ci := 4) (i := 4) (v := .ref 33) (pc' := 38) d_M_pick_35 rfl g_M_20 hO rfl ?_
        refine x_iload_n (pc' := 39) d_M_pick_38 rfl rfl ?_
        refine x_laload (v := lN (sp_held (S.2 r))) (pc' := 40) d_M_pick_39 rfl g1 (vp_in_nI hr (by decide)) (by rw [nI_clamp (by omega)]; exact g2 r hr) ?_
        refine x_iload_n (pc' := 41) d_M_pick_40 rfl rfl ?_
        refine x_lshr (z := (lN (sp_held (S.2 r))) >>> ((nI c).toInt64 &&& 63)) (pc' := 42) d_M_pick_41 rfl rfl ?_
        refine x_lconst (v := 1) (pc' := 43) d_M_pick_42 rfl (by decide) ?_
        by_cases h1 : (sp_held (S.2 r)).testBit c = true
        · refine x_land (z := lN 1) (pc' := 44) d_M_pick_43 rfl (wb_sb (by omega) h1) ?_
          refine x_lconst (v := 0) (pc' := 45) d_M_pick_44 rfl (by decide) ?_
          refine x_lcmp (z := lg_cmp (lN 1) 0) (pc' := 46) d_M_pick_45 rfl rfl ?_
          refine x_ifne (t := 52) (pc' := 49) d_M_pick_46 rfl rfl (fun _ => ?_) (fun q => absurd q (by decide))
          refine x_aload_n (pc' := 53) d_M_pick_52 rfl rfl ?_
          refine x_iload_n (pc' := 54) d_M_pick_53 rfl rfl ?_
          refine x_virtual (a := 29) (as := [.int (nI r)]) (r := []) (v := (some (.int (sp_bi (!sp_clean S.1 (S.2 r)))))) (h' := h) (st' := [.int (sp_bi (!sp_clean S.1 (S.2 r)))]) (c' := 0) (s' := 0) (pc' := 57) d_M_pick_54 rfl c_M_133 hO rfl rfl (Nat.le_of_ble_eq_true rfl) (Nat.le_of_ble_eq_true rfl) (Nat.le_of_ble_eq_true rfl) (fun Q' hq => c_M_dirty hO hK hS hr hq) rfl rfl rfl ?_
          by_cases h3 : sp_clean S.1 (S.2 r) = true
          · refine x_ifeq (t := 63) (pc' := 60) d_M_pick_57 rfl rfl (fun _ => ?_) (fun q => absurd (by rw [h3]; rfl) q)
            refine x_aload_n (pc' := 64) d_M_pick_63 rfl rfl ?_
            refine x_getfield (ci := 4) (i := 3) (v := .ref 32) (pc' := 67) d_M_pick_64 rfl g_M_17 hO rfl ?_
            refine x_iload_n (pc' := 68) d_M_pick_67 rfl rfl ?_
            refine x_iaload (v := sp_vi (sp_p2 S.1 c)) (pc' := 69) d_M_pick_68 rfl q1 (vp_in_nI (by omega) (by decide)) (by rw [nI_clamp (by omega)]; exact q2 c hc) ?_
            have hv := sp_vi_ge (n := 40) (by decide) (fun k hk => Nat.lt_of_lt_of_le ((hS.1.2.1 c hc).2.1 k hk) (by omega))
            by_cases h4 : sp_p2 S.1 c = none
            · refine x_iflt (t := 75) (pc' := 72) d_M_pick_69 rfl rfl (fun _ => ?_) (fun q => absurd (hv.1.mpr h4) q)
              refine x_iconst (v := nI 0) (pc' := 76) d_M_pick_75 rfl (by decide) ?_
              refine x_istore (lo' := [.ref 29, .int (nI r), .int (nI c), .int (nI p), .int (nI 0)]) (pc' := 78) d_M_pick_76 rfl (Nat.le_of_ble_eq_true rfl) rfl ?_
              have e9 : sp_pick S (nI r) (nI c) = match sp_again S.1 c (sp_of S.1 (some p)) with
      | none => (-5, S)
      | some none => (-4, S)
      | some (some t) => if 40 ≤ sp_n S.1 then (-6, S) else (nI (sp_n S.1), sp_add S.1 t (some p) none, sp_up S.2 r (sp_mv (sp_add S.1 t (some p) none) (S.2 r) (sp_n S.1))) := by unfold sp_pick; rw [er]; dsimp only; rw [ec, hd]; dsimp only; rw [h1, h3, if_neg (by decide), if_neg (by decide), if_neg (fun z => z h4)]; rfl
              rw [e9] at hQ
              refine l_M_pick39 hp1 (fun h1' K1 O1 r1 f1 => ?_) 4 0 rfl h hK hO (sp_rk_0 hw.2.1) xl_rf
              refine x_aload_n (pc' := 105) d_M_pick_104 rfl rfl ?_
              refine x_iload_n (pc' := 106) d_M_pick_105 rfl rfl ?_
              refine x_virtualR (a := 29) (as := [.int (nI c)]) (r := []) (Post := fun v9 h9 => (v9 = some (.int 0) ∧ sp_snap (sp_of S.1 (sp_p1 S.1 c)) (sp_of S.1 (some p)) (sp_of S.1 (some c)) = none ∧ mk h9 S ∧ (∃ tk, mo h9 (sp_n S.1) tk) ∧ mw h9 ∧ sp_rk h9 39 (sp_of S.1 (some p)) 4 ∧ xl_fr sp_MA h1' h9) ∨ (v9 = some (.int 1) ∧ ∃ u, sp_snap (sp_of S.1 (sp_p1 S.1 c)) (sp_of S.1 (some p)) (sp_of S.1 (some c)) = some u ∧ mk h9 S ∧ (∃ tk, mo h9 (sp_n S.1) tk) ∧ mw h9 ∧ sp_rk h9 39 (sp_of S.1 (some p)) 4 ∧ sp_rk h9 41 u 4 ∧ xl_fr sp_MA h1' h9)) (c' := 0) (s' := 0) (pc' := 109) d_M_pick_106 rfl c_M_152 O1 rfl rfl (Nat.le_of_ble_eq_true rfl) (Nat.le_of_ble_eq_true rfl) (Nat.le_of_ble_eq_true rfl) (fun Q' hq => c_M_again hS.1 hc K1 O1 (mw_39 hw (sp_rk_w r1) f1) (sp_WH_of hS.1 (sp_ok_some hp1)) r1 (fun e h' z1 z2 z3 z4 z5 => hq _ h' (Or.inl ⟨rfl, e, z1, z2, z3, z4, z5⟩)) (fun u e h' z1 z2 z3 z4 z5 z6 => hq _ h' (Or.inr ⟨rfl, u, e, z1, z2, z3, z4, z5, z6⟩))) rfl rfl (fun v9 h2 hp => ?_)
              have FF : ∀ h2, xl_fr sp_MA h1' h2 → xl_fr sp_MA h h2 := fun h2 f2 => xl_tr (xl_mono f1 (fun k z => Or.inr (by omega))) f2
              rcases hp with ⟨rfl, en, K2, ⟨tk2, O2⟩, w2, r39, f2⟩ | ⟨rfl, t, en, K2, ⟨tk2, O2⟩, w2, r39, r41, f2⟩
              · show xm_X L xs (xm_call L xs (d + 6)) m_M_pick (109, [.ref 29, .int (nI r), .int (nI c), .int (nI p), .int (nI 4)], [.int 0], h2, 0, 0) Q
                have F2 := FF h2 f2
                rw [show sp_again S.1 c (sp_of S.1 (some p)) = none by unfold sp_again; rw [en]] at hQ
                refine x_ifne (t := 115) (pc' := 112) d_M_pick_109 rfl rfl (fun q => absurd rfl q) (fun _ => ?_)
                refine x_bipush (v := (-5)) (pc' := 114) d_M_pick_112 rfl (by decide) ?_
                exact x_ireturn d_M_pick_114 rfl rfl (hQ h2 ⟨K2, ⟨tk2, O2⟩, w2⟩ (xl_mono F2 (fun k z => by show 29 ≤ k; rcases z with z | z <;> omega)))
              · show xm_X L xs (xm_call L xs (d + 6)) m_M_pick (109, [.ref 29, .int (nI r), .int (nI c), .int (nI p), .int (nI 4)], [.int 1], h2, 0, 0) Q
                have F2 := FF h2 f2
                have wt : sp_w4 t := sp_snap_wt (sp_WH_of hS.1 (sp_ok_mono (Nat.le_of_lt hc) (hS.1.2.1 c hc).1)) (sp_WH_of hS.1 (sp_ok_some hp1)) (sp_WH_of hS.1 (sp_ok_some hc)) en
                refine x_ifne (t := 115) (pc' := 112) d_M_pick_109 rfl rfl (fun _ => ?_) (fun q => absurd q (by decide))
                refine x_aload_n (pc' := 116) d_M_pick_115 rfl rfl ?_
                refine x_virtual (a := 29) (as := []) (r := []) (v := (some (.int (sp_bi (sp_eq4 t (sp_of S.1 (some p))))))) (h' := h2) (st' := [.int (sp_bi (sp_eq4 t (sp_of S.1 (some p))))]) (c' := 0) (s' := 0) (pc' := 119) d_M_pick_116 rfl c_M_155 O2 rfl rfl (Nat.le_of_ble_eq_true rfl) (Nat.le_of_ble_eq_true rfl) (Nat.le_of_ble_eq_true rfl) (fun Q' hq => c_M_changedNothing O2 r41 r39 wt (sp_WH_of hS.1 (sp_ok_some hp1)) hq) rfl rfl rfl ?_
                by_cases h6 : sp_eq4 t (sp_of S.1 (some p)) = true
                · rw [show sp_again S.1 c (sp_of S.1 (some p)) = some none by unfold sp_again; rw [en]; dsimp only; rw [if_pos h6]] at hQ
                  refine x_ifeq (t := 125) (pc' := 122) d_M_pick_119 rfl rfl (fun q => absurd q (by rw [h6]; decide)) (fun _ => ?_)
                  refine x_bipush (v := (-4)) (pc' := 124) d_M_pick_122 rfl (by decide) ?_
                  exact x_ireturn d_M_pick_124 rfl rfl (hQ h2 ⟨K2, ⟨tk2, O2⟩, w2⟩ (xl_mono F2 (fun k z => by show 29 ≤ k; rcases z with z | z <;> omega)))
                · rw [show sp_again S.1 c (sp_of S.1 (some p)) = some (some t) by unfold sp_again; rw [en]; dsimp only; rw [if_neg h6]] at hQ
                  dsimp only at hQ
                  refine x_ifeq (t := 125) (pc' := 122) d_M_pick_119 rfl rfl (fun _ => ?_) (fun q => absurd (by rw [Bool.eq_false_iff.mpr h6]; rfl) q)
                  refine x_aload_n (pc' := 126) d_M_pick_125 rfl rfl ?_
                  refine x_getfield (ci := 4) (i := 0) (v := .int (nI (sp_n S.1))) (pc' := 129) d_M_pick_126 rfl g_M_104 O2 rfl ?_
                  refine x_bipush (v := nI 40) (pc' := 131) d_M_pick_129 rfl (by decide) ?_
                  by_cases hn : 40 ≤ sp_n S.1
                  · rw [if_pos hn] at hQ
                    refine x_icmpne (t := 137) (pc' := 134) d_M_pick_131 rfl rfl (fun q => absurd (by rw [show sp_n S.1 = 40 by omega]) q) (fun _ => ?_)
                    refine x_bipush (v := (-6)) (pc' := 136) d_M_pick_134 rfl (by decide) ?_
                    exact x_ireturn d_M_pick_136 rfl rfl (hQ h2 ⟨K2, ⟨tk2, O2⟩, w2⟩ (xl_mono F2 (fun k z => by show 29 ≤ k; rcases z with z | z <;> omega)))
                  · rw [if_neg hn] at hQ
                    obtain ⟨T, T1, T2⟩ := K2.2.1
                    obtain ⟨P1, p1, p2⟩ := K2.2.2.1
                    obtain ⟨P2, q1, q2⟩ := K2.2.2.2.1
                    obtain ⟨g, g1, g2⟩ := K2.2.2.2.2.1
                    obtain ⟨v, j1, hv⟩ := r41
                    refine x_icmpne (t := 137) (pc' := 134) d_M_pick_131 rfl rfl (fun _ => ?_) (fun q => absurd q (fun z => absurd (sp_nI_inj (by omega) (by decide) z) (by omega)))
                    refine x_aload_n (pc' := 138) d_M_pick_137 rfl rfl ?_
                    refine x_iload_n (pc' := 139) d_M_pick_138 rfl rfl ?_
                    refine x_iload_n (pc' := 140) d_M_pick_139 rfl rfl ?_
                    refine x_bipush (v := sp_vi none) (pc' := 142) d_M_pick_140 rfl (by decide) ?_
                    refine x_virtualR (a := 29) (as := [.int (nI r), .int (nI p), .int (sp_vi none)]) (r := []) (Post := fun v9 h9 => v9 = some (.int (nI (sp_n S.1))) ∧ mo h9 (sp_n S.1 + 1) tk2 ∧ h9[31]? = some (.inl (.int, 40, .inl (upd P1 (sp_n S.1) (sp_vi (some p))))) ∧ h9[32]? = some (.inl (.int, 40, .inl (upd P2 (sp_n S.1) (sp_vi (none))))) ∧ h9[33]? = some (.inl (.long, 2, .inr (.inl (vp_updL g r (lN (sp_held (S.2 r) ||| 2 ^ sp_n S.1)))))) ∧ xl_fr sp_MK h2 h9) (c' := 0) (s' := 0) (pc' := 145) d_M_pick_142 rfl c_M_126 O2 rfl rfl (Nat.le_of_ble_eq_true rfl) (Nat.le_of_ble_eq_true rfl) (Nat.le_of_ble_eq_true rfl) (fun Q' hq => c_M_make O2 (by omega) p1 q1 g1 hr (g2 r hr) (Nat.lt_of_lt_of_le hR.2.2.1 (Nat.pow_le_pow_right (by decide) (by omega))) (fun h' z1 z2 z3 z4 z5 => hq _ h' ⟨rfl, z1, z2, z3, z4, z5⟩)) rfl rfl (fun v9 h3 hp => ?_)
                    obtain ⟨rfl, O3, m1, m2, m3, f3⟩ := hp
                    show xm_X L xs (xm_call L xs (d + 6)) m_M_pick (145, [.ref 29, .int (nI r), .int (nI c), .int (nI p), .int (nI 4)], [.int (nI (sp_n S.1))], h3, 0, 0) Q
                    have S3 := (f3.2 30 (by omega)).trans T1
                    have J3 := (f3.2 41 (by omega)).trans j1
                    refine x_istore (lo' := [.ref 29, .int (nI r), .int (nI c), .int (nI p), .int (nI (sp_n S.1))]) (pc' := 147) d_M_pick_145 rfl (Nat.le_of_ble_eq_true rfl) rfl ?_
                    refine x_aload_n (pc' := 148) d_M_pick_147 rfl rfl ?_
                    refine x_iload (pc' := 150) d_M_pick_148 rfl rfl ?_
                    refine x_virtual (a := 29) (as := [.int (nI (sp_n S.1))]) (r := []) (v := none) (h' := (h3.set 30 (.inl (.long, 160, .inr (.inl (sp_q4 T (4 * sp_n S.1) v)))))) (st' := []) (c' := 0) (s' := 0) (pc' := 153) d_M_pick_150 rfl c_M_148 O3 rfl rfl (Nat.le_of_ble_eq_true rfl) (Nat.le_of_ble_eq_true rfl) (Nat.le_of_ble_eq_true rfl) (fun Q' hq => c_M_putJoined O3 S3 J3 (by omega) hq) rfl rfl rfl ?_
                    have a4 := mk_nw (t := t) (o1 := some p) (o2 := none) K2 (by omega) hr hv T1 T2 p2 q2 g2 m1 m2 m3 f3
                    have O4 : mo (h3.set 30 (.inl (.long, 160, .inr (.inl (sp_q4 T (4 * sp_n S.1) v))))) (sp_n S.1 + 1) tk2 := (xl_ne (by decide)).trans O3
                    refine x_aload_n (pc' := 154) d_M_pick_153 rfl rfl ?_
                    refine x_iload_n (pc' := 155) d_M_pick_154 rfl rfl ?_
                    refine x_iload (pc' := 157) d_M_pick_155 rfl rfl ?_
                    refine x_virtualR (a := 29) (as := [.int (nI r), .int (nI (sp_n S.1))]) (r := []) (Post := fun v9 h9 => v9 = some (.int (nI (sp_n S.1))) ∧ mk h9 (sp_set ((sp_add S.1 t (some p) (none)), S.2) r (sp_up (sp_tip (S.2 r)) (sp_cur (S.2 r)) (some (sp_n S.1)), sp_cur (S.2 r), sp_held (S.2 r) ||| 2 ^ sp_n S.1, sp_of (sp_add S.1 t (some p) (none)) (some (sp_n S.1)), sp_of (sp_add S.1 t (some p) (none)) (some (sp_n S.1)))) ∧ mo h9 (sp_n S.1 + 1) tk2 ∧ xl_fr sp_MV (h3.set 30 (.inl (.long, 160, .inr (.inl (sp_q4 T (4 * sp_n S.1) v))))) h9) (c' := 0) (s' := 0) (pc' := 160) d_M_pick_157 rfl c_M_137 O4 rfl rfl (Nat.le_of_ble_eq_true rfl) (Nat.le_of_ble_eq_true rfl) (Nat.le_of_ble_eq_true rfl) (fun Q' hq => c_M_moveTo (S := ((sp_add S.1 t (some p) (none)), S.2)) a4 O4 hr hR.1 (Nat.lt_succ_self _) (fun h' z1 z2 z3 => hq _ h' ⟨rfl, z1, z2, z3⟩)) rfl rfl (fun v9 h5 hp => ?_)
                    obtain ⟨rfl, a5, O5, f5⟩ := hp
                    show xm_X L xs (xm_call L xs (d + 6)) m_M_pick (160, [.ref 29, .int (nI r), .int (nI c), .int (nI p), .int (nI (sp_n S.1))], [.int (nI (sp_n S.1))], h5, 0, 0) Q
                    have eM := mv_nw (S := S) (r := r) (t := t) (o1 := some p) (o2 := none) (by have := hR.2.2.2.1 _ hR.1; rw [show sp_tip (S.2 r) (sp_cur (S.2 r)) = some p from hd] at this; exact this) (Nat.zero_or _)
                    exact x_ireturn d_M_pick_160 rfl rfl (hQ h5 (by rw [eM]; exact ⟨a5, ⟨tk2, O5⟩, mw_go w2 (fun k z1 z2 => (f5.2 k (by omega)).trans ((xl_ne (by omega)).trans (f3.2 k (by omega))))⟩) (xl_tr (xl_mono F2 (fun k z => by show 29 ≤ k; rcases z with z | z <;> omega)) (xl_tr (xl_mono f3 (fun k z => by show 29 ≤ k; rcases z with z | z <;> omega)) (xl_tr (xl_set (by decide)) (xl_mono f5 (fun k z => by show 29 ≤ k; omega))))))
            · refine x_iflt (t := 75) (pc' := 72) d_M_pick_69 rfl rfl (fun q => absurd q (fun z => h4 (hv.1.mp z))) (fun _ => ?_)
              refine x_bipush (v := (-4)) (pc' := 74) d_M_pick_72 rfl (by decide) ?_
              exact x_ireturn d_M_pick_74 rfl rfl (key _ (by unfold sp_pick; rw [er]; dsimp only; rw [ec, hd]; dsimp only; rw [h1, h3, if_neg (by decide), if_neg (by decide), if_pos h4]))
          · refine x_ifeq (t := 63) (pc' := 60) d_M_pick_57 rfl rfl (fun q => absurd q (by rw [Bool.eq_false_iff.mpr h3]; decide)) (fun _ => ?_)
            refine x_bipush (v := (-3)) (pc' := 62) d_M_pick_60 rfl (by decide) ?_
            exact x_ireturn d_M_pick_62 rfl rfl (key _ (by unfold sp_pick; rw [er]; dsimp only; rw [ec, hd]; dsimp only; rw [h1, Bool.eq_false_iff.mpr h3]; rfl))
        · refine x_land (z := lN 0) (pc' := 44) d_M_pick_43 rfl (wb_sb (by omega) (Bool.eq_false_iff.mpr h1)) ?_
          refine x_lconst (v := 0) (pc' := 45) d_M_pick_44 rfl (by decide) ?_
          refine x_lcmp (z := lg_cmp (lN 0) 0) (pc' := 46) d_M_pick_45 rfl rfl ?_
          refine x_ifne (t := 52) (pc' := 49) d_M_pick_46 rfl rfl (fun q => absurd (by decide) q) (fun _ => ?_)
          refine x_bipush (v := (-2)) (pc' := 51) d_M_pick_49 rfl (by decide) ?_
          exact x_ireturn d_M_pick_51 rfl rfl (key _ (by unfold sp_pick; rw [er]; dsimp only; rw [ec, hd]; dsimp only; rw [Bool.eq_false_iff.mpr h1]; rfl))
