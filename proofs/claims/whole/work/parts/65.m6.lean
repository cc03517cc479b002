/-! The reference's reading calls. (Printed by c_m6.py.) -/
abbrev sp_M29 : Nat → Prop := fun k => 29 ≤ k
theorem c_M_tip {L : Nat} {xs : Nat → Int32} {d : Nat} {h : xm_H} {Q : xm_Q} {S : sp_S} (hM : mh h S) (hS : sp_WS S) {x y : Int32} (hQ : Q (some (.int (sp_tipq S x y))) h) : xm_call L xs (d + 2) m_M_tip [.ref 29, .int x, .int y] h Q := by
  obtain ⟨hK, ⟨tk, hO⟩, hw⟩ := id hM
  have h40 := hK.1
  obtain ⟨t, t1, t2⟩ := hK.2.2.2.2.2.1
  refine x_call (lo := [.ref 29, .int x, .int y]) (Nat.le_of_ble_eq_true rfl) rfl ?_
  rcases sp_in_cases 2 (by decide) x with ⟨_, ex⟩ | ⟨_, _, ex⟩ | ⟨r, hr, rfl, er⟩
  · refine x_iload_n (pc' := 1) d_M_tip_0 rfl rfl ?_
    refine x_iconst (v := nI 2) (pc' := 2) d_M_tip_1 rfl (by decide) ?_
    refine x_static (as := [.int x, .int (nI 2)]) (r := []) (v := (some (.int 1))) (h' := h) (st' := [.int 1]) (c' := 0) (s' := 0) (pc' := 5) d_M_tip_2 rfl c_M_123 rfl rfl (Nat.le_of_ble_eq_true rfl) (Nat.le_of_ble_eq_true rfl) (Nat.le_of_ble_eq_true rfl) (fun Q' hq => c_M_out1 (by decide) ex hq) rfl rfl rfl ?_
    refine x_ifne (t := 16) (pc' := 8) d_M_tip_5 rfl rfl (fun _ => ?_) (fun q => absurd q (by decide))
    refine x_iconst (v := (-1)) (pc' := 17) d_M_tip_16 rfl (by decide) ?_
    refine x_goto (t := 30) d_M_tip_17 rfl ?_
    exact x_ireturn d_M_tip_30 rfl rfl (x_q (by unfold sp_tipq; rw [ex]) hQ)
  · refine x_iload_n (pc' := 1) d_M_tip_0 rfl rfl ?_
    refine x_iconst (v := nI 2) (pc' := 2) d_M_tip_1 rfl (by decide) ?_
    refine x_static (as := [.int x, .int (nI 2)]) (r := []) (v := (some (.int 1))) (h' := h) (st' := [.int 1]) (c' := 0) (s' := 0) (pc' := 5) d_M_tip_2 rfl c_M_123 rfl rfl (Nat.le_of_ble_eq_true rfl) (Nat.le_of_ble_eq_true rfl) (Nat.le_of_ble_eq_true rfl) (fun Q' hq => c_M_out1 (by decide) ex hq) rfl rfl rfl ?_
    refine x_ifne (t := 16) (pc' := 8) d_M_tip_5 rfl rfl (fun _ => ?_) (fun q => absurd q (by decide))
    refine x_iconst (v := (-1)) (pc' := 17) d_M_tip_16 rfl (by decide) ?_
    refine x_goto (t := 30) d_M_tip_17 rfl ?_
    exact x_ireturn d_M_tip_30 rfl rfl (x_q (by unfold sp_tipq; rw [ex]) hQ)
  · rcases sp_in_cases 4 (by decide) y with ⟨_, ey⟩ | ⟨_, _, ey⟩ | ⟨b, hb, rfl, eb⟩
    · refine x_iload_n (pc' := 1) d_M_tip_0 rfl rfl ?_
      refine x_iconst (v := nI 2) (pc' := 2) d_M_tip_1 rfl (by decide) ?_
      refine x_static (as := [.int (nI r), .int (nI 2)]) (r := []) (v := (some (.int 0))) (h' := h) (st' := [.int 0]) (c' := 0) (s' := 0) (pc' := 5) d_M_tip_2 rfl c_M_123 rfl rfl (Nat.le_of_ble_eq_true rfl) (Nat.le_of_ble_eq_true rfl) (Nat.le_of_ble_eq_true rfl) (fun Q' hq => c_M_out0 hr (by decide) hq) rfl rfl rfl ?_
      refine x_ifne (t := 16) (pc' := 8) d_M_tip_5 rfl rfl (fun q => absurd rfl q) (fun _ => ?_)
      refine x_iload_n (pc' := 9) d_M_tip_8 rfl rfl ?_
      refine x_iconst (v := nI 4) (pc' := 10) d_M_tip_9 rfl (by decide) ?_
      refine x_static (as := [.int y, .int (nI 4)]) (r := []) (v := (some (.int 1))) (h' := h) (st' := [.int 1]) (c' := 0) (s' := 0) (pc' := 13) d_M_tip_10 rfl c_M_123 rfl rfl (Nat.le_of_ble_eq_true rfl) (Nat.le_of_ble_eq_true rfl) (Nat.le_of_ble_eq_true rfl) (fun Q' hq => c_M_out1 (by decide) ey hq) rfl rfl rfl ?_
      refine x_ifeq (t := 20) (pc' := 16) d_M_tip_13 rfl rfl (fun q => absurd q (by decide)) (fun _ => ?_)
      refine x_iconst (v := (-1)) (pc' := 17) d_M_tip_16 rfl (by decide) ?_
      refine x_goto (t := 30) d_M_tip_17 rfl ?_
      exact x_ireturn d_M_tip_30 rfl rfl (x_q (by unfold sp_tipq; rw [er, ey]) hQ)
    · refine x_iload_n (pc' := 1) d_M_tip_0 rfl rfl ?_
      refine x_iconst (v := nI 2) (pc' := 2) d_M_tip_1 rfl (by decide) ?_
      refine x_static (as := [.int (nI r), .int (nI 2)]) (r := []) (v := (some (.int 0))) (h' := h) (st' := [.int 0]) (c' := 0) (s' := 0) (pc' := 5) d_M_tip_2 rfl c_M_123 rfl rfl (Nat.le_of_ble_eq_true rfl) (Nat.le_of_ble_eq_true rfl) (Nat.le_of_ble_eq_true rfl) (fun Q' hq => c_M_out0 hr (by decide) hq) rfl rfl rfl ?_
      refine x_ifne (t := 16) (pc' := 8) d_M_tip_5 rfl rfl (fun q => absurd rfl q) (fun _ => ?_)
      refine x_iload_n (pc' := 9) d_M_tip_8 rfl rfl ?_
      refine x_iconst (v := nI 4) (pc' := 10) d_M_tip_9 rfl (by decide) ?_
      refine x_static (as := [.int y, .int (nI 4)]) (r := []) (v := (some (.int 1))) (h' := h) (st' := [.int 1]) (c' := 0) (s' := 0) (pc' := 13) d_M_tip_10 rfl c_M_123 rfl rfl (Nat.le_of_ble_eq_true rfl) (Nat.le_of_ble_eq_true rfl) (Nat.le_of_ble_eq_true rfl) (fun Q' hq => c_M_out1 (by decide) ey hq) rfl rfl rfl ?_
      refine x_ifeq (t := 20) (pc' := 16) d_M_tip_13 rfl rfl (fun q => absurd q (by decide)) (fun _ => ?_)
      refine x_iconst (v := (-1)) (pc' := 17) d_M_tip_16 rfl (by decide) ?_
      refine x_goto (t := 30) d_M_tip_17 rfl ?_
      exact x_ireturn d_M_tip_30 rfl rfl (x_q (by unfold sp_tipq; rw [er, ey]) hQ)
    · refine x_iload_n (pc' := 1) d_M_tip_0 rfl rfl ?_
      refine x_iconst (v := nI 2) (pc' := 2) d_M_tip_1 rfl (by decide) ?_
      refine x_static (as := [.int (nI r), .int (nI 2)]) (r := []) (v := (some (.int 0))) (h' := h) (st' := [.int 0]) (c' := 0) (s' := 0) (pc' := 5) d_M_tip_2 rfl c_M_123 rfl rfl (Nat.le_of_ble_eq_true rfl) (Nat.le_of_ble_eq_true rfl) (Nat.le_of_ble_eq_true rfl) (fun Q' hq => c_M_out0 hr (by decide) hq) rfl rfl rfl ?_
      refine x_ifne (t := 16) (pc' := 8) d_M_tip_5 rfl rfl (fun q => absurd rfl q) (fun _ => ?_)
      refine x_iload_n (pc' := 9) d_M_tip_8 rfl rfl ?_
      refine x_iconst (v := nI 4) (pc' := 10) d_M_tip_9 rfl (by decide) ?_
      refine x_static (as := [.int (nI b), .int (nI 4)]) (r := []) (v := (some (.int 0))) (h' := h) (st' := [.int 0]) (c' := 0) (s' := 0) (pc' := 13) d_M_tip_10 rfl c_M_123 rfl rfl (Nat.le_of_ble_eq_true rfl) (Nat.le_of_ble_eq_true rfl) (Nat.le_of_ble_eq_true rfl) (fun Q' hq => c_M_out0 hb (by decide) hq) rfl rfl rfl ?_
      refine x_ifeq (t := 20) (pc' := 16) d_M_tip_13 rfl rfl (fun _ => ?_) (fun q => absurd rfl q)
      refine x_aload_n (pc' := 21) d_M_tip_20 rfl rfl ?_
      refine x_getfield (ci := 4) (i := 5) (v := .ref 34) (pc' := 24) d_M_tip_21 rfl g_M_23 hO rfl ?_
      refine x_iconst (v := nI 4) (pc' := 25) d_M_tip_24 rfl (by decide) ?_
      refine x_iload_n (pc' := 26) d_M_tip_25 rfl rfl ?_
      refine x_imul (z := nI (4 * r)) (pc' := 27) d_M_tip_26 rfl (pk_mul 4 r) ?_
      refine x_iload_n (pc' := 28) d_M_tip_27 rfl rfl ?_
      refine x_iadd (z := nI (4 * r + b)) (pc' := 29) d_M_tip_28 rfl (nI_add _ _) ?_
      refine x_iaload (v := sp_vi (sp_tip (S.2 r) b)) (pc' := 30) d_M_tip_29 rfl t1 (vp_in_nI (by omega) (by decide)) (by rw [nI_clamp (by omega)]; exact t2 r hr b hb) ?_
      exact x_ireturn d_M_tip_30 rfl rfl (x_q (by unfold sp_tipq; rw [er, eb]) hQ)
theorem c_M_working {L : Nat} {xs : Nat → Int32} {d : Nat} {h : xm_H} {Q : xm_Q} {S : sp_S} (hM : mh h S) (hS : sp_WS S) {x y : Int32} (hQ : Q (some (.long (sp_working S x y))) h) : xm_call L xs (d + 2) m_M_working [.ref 29, .int x, .int y] h Q := by
  obtain ⟨hK, ⟨tk, hO⟩, hw⟩ := id hM
  have h40 := hK.1
  obtain ⟨t, t1, t2⟩ := hK.2.2.2.2.2.2.2.1
  refine x_call (lo := [.ref 29, .int x, .int y]) (Nat.le_of_ble_eq_true rfl) rfl ?_
  rcases sp_in_cases 2 (by decide) x with ⟨_, ex⟩ | ⟨_, _, ex⟩ | ⟨r, hr, rfl, er⟩
  · refine x_iload_n (pc' := 1) d_M_working_0 rfl rfl ?_
    refine x_iconst (v := nI 2) (pc' := 2) d_M_working_1 rfl (by decide) ?_
    refine x_static (as := [.int x, .int (nI 2)]) (r := []) (v := (some (.int 1))) (h' := h) (st' := [.int 1]) (c' := 0) (s' := 0) (pc' := 5) d_M_working_2 rfl c_M_123 rfl rfl (Nat.le_of_ble_eq_true rfl) (Nat.le_of_ble_eq_true rfl) (Nat.le_of_ble_eq_true rfl) (fun Q' hq => c_M_out1 (by decide) ex hq) rfl rfl rfl ?_
    refine x_ifne (t := 16) (pc' := 8) d_M_working_5 rfl rfl (fun _ => ?_) (fun q => absurd q (by decide))
    refine x_ldc2_w (x := (-1)) (pc' := 19) d_M_working_16 rfl k_M_158 ?_
    refine x_goto (t := 32) d_M_working_19 rfl ?_
    exact x_lreturn d_M_working_32 rfl (x_ql (by unfold sp_working; rw [ex]) hQ)
  · refine x_iload_n (pc' := 1) d_M_working_0 rfl rfl ?_
    refine x_iconst (v := nI 2) (pc' := 2) d_M_working_1 rfl (by decide) ?_
    refine x_static (as := [.int x, .int (nI 2)]) (r := []) (v := (some (.int 1))) (h' := h) (st' := [.int 1]) (c' := 0) (s' := 0) (pc' := 5) d_M_working_2 rfl c_M_123 rfl rfl (Nat.le_of_ble_eq_true rfl) (Nat.le_of_ble_eq_true rfl) (Nat.le_of_ble_eq_true rfl) (fun Q' hq => c_M_out1 (by decide) ex hq) rfl rfl rfl ?_
    refine x_ifne (t := 16) (pc' := 8) d_M_working_5 rfl rfl (fun _ => ?_) (fun q => absurd q (by decide))
    refine x_ldc2_w (x := (-1)) (pc' := 19) d_M_working_16 rfl k_M_158 ?_
    refine x_goto (t := 32) d_M_working_19 rfl ?_
    exact x_lreturn d_M_working_32 rfl (x_ql (by unfold sp_working; rw [ex]) hQ)
  · rcases sp_in_cases 4 (by decide) y with ⟨_, ey⟩ | ⟨_, _, ey⟩ | ⟨b, hb, rfl, eb⟩
    · refine x_iload_n (pc' := 1) d_M_working_0 rfl rfl ?_
      refine x_iconst (v := nI 2) (pc' := 2) d_M_working_1 rfl (by decide) ?_
      refine x_static (as := [.int (nI r), .int (nI 2)]) (r := []) (v := (some (.int 0))) (h' := h) (st' := [.int 0]) (c' := 0) (s' := 0) (pc' := 5) d_M_working_2 rfl c_M_123 rfl rfl (Nat.le_of_ble_eq_true rfl) (Nat.le_of_ble_eq_true rfl) (Nat.le_of_ble_eq_true rfl) (fun Q' hq => c_M_out0 hr (by decide) hq) rfl rfl rfl ?_
      refine x_ifne (t := 16) (pc' := 8) d_M_working_5 rfl rfl (fun q => absurd rfl q) (fun _ => ?_)
      refine x_iload_n (pc' := 9) d_M_working_8 rfl rfl ?_
      refine x_iconst (v := nI 4) (pc' := 10) d_M_working_9 rfl (by decide) ?_
      refine x_static (as := [.int y, .int (nI 4)]) (r := []) (v := (some (.int 1))) (h' := h) (st' := [.int 1]) (c' := 0) (s' := 0) (pc' := 13) d_M_working_10 rfl c_M_123 rfl rfl (Nat.le_of_ble_eq_true rfl) (Nat.le_of_ble_eq_true rfl) (Nat.le_of_ble_eq_true rfl) (fun Q' hq => c_M_out1 (by decide) ey hq) rfl rfl rfl ?_
      refine x_ifeq (t := 22) (pc' := 16) d_M_working_13 rfl rfl (fun q => absurd q (by decide)) (fun _ => ?_)
      refine x_ldc2_w (x := (-1)) (pc' := 19) d_M_working_16 rfl k_M_158 ?_
      refine x_goto (t := 32) d_M_working_19 rfl ?_
      exact x_lreturn d_M_working_32 rfl (x_ql (by unfold sp_working; rw [er, ey]) hQ)
    · refine x_iload_n (pc' := 1) d_M_working_0 rfl rfl ?_
      refine x_iconst (v := nI 2) (pc' := 2) d_M_working_1 rfl (by decide) ?_
      refine x_static (as := [.int (nI r), .int (nI 2)]) (r := []) (v := (some (.int 0))) (h' := h) (st' := [.int 0]) (c' := 0) (s' := 0) (pc' := 5) d_M_working_2 rfl c_M_123 rfl rfl (Nat.le_of_ble_eq_true rfl) (Nat.le_of_ble_eq_true rfl) (Nat.le_of_ble_eq_true rfl) (fun Q' hq => c_M_out0 hr (by decide) hq) rfl rfl rfl ?_
      refine x_ifne (t := 16) (pc' := 8) d_M_working_5 rfl rfl (fun q => absurd rfl q) (fun _ => ?_)
      refine x_iload_n (pc' := 9) d_M_working_8 rfl rfl ?_
      refine x_iconst (v := nI 4) (pc' := 10) d_M_working_9 rfl (by decide) ?_
      refine x_static (as := [.int y, .int (nI 4)]) (r := []) (v := (some (.int 1))) (h' := h) (st' := [.int 1]) (c' := 0) (s' := 0) (pc' := 13) d_M_working_10 rfl c_M_123 rfl rfl (Nat.le_of_ble_eq_true rfl) (Nat.le_of_ble_eq_true rfl) (Nat.le_of_ble_eq_true rfl) (fun Q' hq => c_M_out1 (by decide) ey hq) rfl rfl rfl ?_
      refine x_ifeq (t := 22) (pc' := 16) d_M_working_13 rfl rfl (fun q => absurd q (by decide)) (fun _ => ?_)
      refine x_ldc2_w (x := (-1)) (pc' := 19) d_M_working_16 rfl k_M_158 ?_
      refine x_goto (t := 32) d_M_working_19 rfl ?_
      exact x_lreturn d_M_working_32 rfl (x_ql (by unfold sp_working; rw [er, ey]) hQ)
    · refine x_iload_n (pc' := 1) d_M_working_0 rfl rfl ?_
      refine x_iconst (v := nI 2) (pc' := 2) d_M_working_1 rfl (by decide) ?_
      refine x_static (as := [.int (nI r), .int (nI 2)]) (r := []) (v := (some (.int 0))) (h' := h) (st' := [.int 0]) (c' := 0) (s' := 0) (pc' := 5) d_M_working_2 rfl c_M_123 rfl rfl (Nat.le_of_ble_eq_true rfl) (Nat.le_of_ble_eq_true rfl) (Nat.le_of_ble_eq_true rfl) (fun Q' hq => c_M_out0 hr (by decide) hq) rfl rfl rfl ?_
      refine x_ifne (t := 16) (pc' := 8) d_M_working_5 rfl rfl (fun q => absurd rfl q) (fun _ => ?_)
      refine x_iload_n (pc' := 9) d_M_working_8 rfl rfl ?_
      refine x_iconst (v := nI 4) (pc' := 10) d_M_working_9 rfl (by decide) ?_
      refine x_static (as := [.int (nI b), .int (nI 4)]) (r := []) (v := (some (.int 0))) (h' := h) (st' := [.int 0]) (c' := 0) (s' := 0) (pc' := 13) d_M_working_10 rfl c_M_123 rfl rfl (Nat.le_of_ble_eq_true rfl) (Nat.le_of_ble_eq_true rfl) (Nat.le_of_ble_eq_true rfl) (fun Q' hq => c_M_out0 hb (by decide) hq) rfl rfl rfl ?_
      refine x_ifeq (t := 22) (pc' := 16) d_M_working_13 rfl rfl (fun _ => ?_) (fun q => absurd rfl q)
      refine x_aload_n (pc' := 23) d_M_working_22 rfl rfl ?_
      refine x_getfield (ci := 4) (i := 7) (v := .ref 36) (pc' := 26) d_M_working_23 rfl g_M_29 hO rfl ?_
      refine x_iconst (v := nI 4) (pc' := 27) d_M_working_26 rfl (by decide) ?_
      refine x_iload_n (pc' := 28) d_M_working_27 rfl rfl ?_
      refine x_imul (z := nI (4 * r)) (pc' := 29) d_M_working_28 rfl (pk_mul 4 r) ?_
      refine x_iload_n (pc' := 30) d_M_working_29 rfl rfl ?_
      refine x_iadd (z := nI (4 * r + b)) (pc' := 31) d_M_working_30 rfl (nI_add _ _) ?_
      refine x_laload (v := sp_tv (sp_wk (S.2 r) b)) (pc' := 32) d_M_working_31 rfl t1 (vp_in_nI (by omega) (by decide)) (by rw [nI_clamp (by omega)]; exact t2 r hr b hb) ?_
      exact x_lreturn d_M_working_32 rfl (x_ql (by unfold sp_working; rw [er, eb]) hQ)
theorem c_M_staged {L : Nat} {xs : Nat → Int32} {d : Nat} {h : xm_H} {Q : xm_Q} {S : sp_S} (hM : mh h S) (hS : sp_WS S) {x y : Int32} (hQ : Q (some (.long (sp_staged S x y))) h) : xm_call L xs (d + 2) m_M_staged [.ref 29, .int x, .int y] h Q := by
  obtain ⟨hK, ⟨tk, hO⟩, hw⟩ := id hM
  have h40 := hK.1
  obtain ⟨t, t1, t2⟩ := hK.2.2.2.2.2.2.2.2
  refine x_call (lo := [.ref 29, .int x, .int y]) (Nat.le_of_ble_eq_true rfl) rfl ?_
  rcases sp_in_cases 2 (by decide) x with ⟨_, ex⟩ | ⟨_, _, ex⟩ | ⟨r, hr, rfl, er⟩
  · refine x_iload_n (pc' := 1) d_M_staged_0 rfl rfl ?_
    refine x_iconst (v := nI 2) (pc' := 2) d_M_staged_1 rfl (by decide) ?_
    refine x_static (as := [.int x, .int (nI 2)]) (r := []) (v := (some (.int 1))) (h' := h) (st' := [.int 1]) (c' := 0) (s' := 0) (pc' := 5) d_M_staged_2 rfl c_M_123 rfl rfl (Nat.le_of_ble_eq_true rfl) (Nat.le_of_ble_eq_true rfl) (Nat.le_of_ble_eq_true rfl) (fun Q' hq => c_M_out1 (by decide) ex hq) rfl rfl rfl ?_
    refine x_ifne (t := 16) (pc' := 8) d_M_staged_5 rfl rfl (fun _ => ?_) (fun q => absurd q (by decide))
    refine x_ldc2_w (x := (-1)) (pc' := 19) d_M_staged_16 rfl k_M_158 ?_
    refine x_goto (t := 32) d_M_staged_19 rfl ?_
    exact x_lreturn d_M_staged_32 rfl (x_ql (by unfold sp_staged; rw [ex]) hQ)
  · refine x_iload_n (pc' := 1) d_M_staged_0 rfl rfl ?_
    refine x_iconst (v := nI 2) (pc' := 2) d_M_staged_1 rfl (by decide) ?_
    refine x_static (as := [.int x, .int (nI 2)]) (r := []) (v := (some (.int 1))) (h' := h) (st' := [.int 1]) (c' := 0) (s' := 0) (pc' := 5) d_M_staged_2 rfl c_M_123 rfl rfl (Nat.le_of_ble_eq_true rfl) (Nat.le_of_ble_eq_true rfl) (Nat.le_of_ble_eq_true rfl) (fun Q' hq => c_M_out1 (by decide) ex hq) rfl rfl rfl ?_
    refine x_ifne (t := 16) (pc' := 8) d_M_staged_5 rfl rfl (fun _ => ?_) (fun q => absurd q (by decide))
    refine x_ldc2_w (x := (-1)) (pc' := 19) d_M_staged_16 rfl k_M_158 ?_
    refine x_goto (t := 32) d_M_staged_19 rfl ?_
    exact x_lreturn d_M_staged_32 rfl (x_ql (by unfold sp_staged; rw [ex]) hQ)
  · rcases sp_in_cases 4 (by decide) y with ⟨_, ey⟩ | ⟨_, _, ey⟩ | ⟨b, hb, rfl, eb⟩
    · refine x_iload_n (pc' := 1) d_M_staged_0 rfl rfl ?_
      refine x_iconst (v := nI 2) (pc' := 2) d_M_staged_1 rfl (by decide) ?_
      refine x_static (as := [.int (nI r), .int (nI 2)]) (r := []) (v := (some (.int 0))) (h' := h) (st' := [.int 0]) (c' := 0) (s' := 0) (pc' := 5) d_M_staged_2 rfl c_M_123 rfl rfl (Nat.le_of_ble_eq_true rfl) (Nat.le_of_ble_eq_true rfl) (Nat.le_of_ble_eq_true rfl) (fun Q' hq => c_M_out0 hr (by decide) hq) rfl rfl rfl ?_
      refine x_ifne (t := 16) (pc' := 8) d_M_staged_5 rfl rfl (fun q => absurd rfl q) (fun _ => ?_)
      refine x_iload_n (pc' := 9) d_M_staged_8 rfl rfl ?_
      refine x_iconst (v := nI 4) (pc' := 10) d_M_staged_9 rfl (by decide) ?_
      refine x_static (as := [.int y, .int (nI 4)]) (r := []) (v := (some (.int 1))) (h' := h) (st' := [.int 1]) (c' := 0) (s' := 0) (pc' := 13) d_M_staged_10 rfl c_M_123 rfl rfl (Nat.le_of_ble_eq_true rfl) (Nat.le_of_ble_eq_true rfl) (Nat.le_of_ble_eq_true rfl) (fun Q' hq => c_M_out1 (by decide) ey hq) rfl rfl rfl ?_
      refine x_ifeq (t := 22) (pc' := 16) d_M_staged_13 rfl rfl (fun q => absurd q (by decide)) (fun _ => ?_)
      refine x_ldc2_w (x := (-1)) (pc' := 19) d_M_staged_16 rfl k_M_158 ?_
      refine x_goto (t := 32) d_M_staged_19 rfl ?_
      exact x_lreturn d_M_staged_32 rfl (x_ql (by unfold sp_staged; rw [er, ey]) hQ)
    · refine x_iload_n (pc' := 1) d_M_staged_0 rfl rfl ?_
      refine x_iconst (v := nI 2) (pc' := 2) d_M_staged_1 rfl (by decide) ?_
      refine x_static (as := [.int (nI r), .int (nI 2)]) (r := []) (v := (some (.int 0))) (h' := h) (st' := [.int 0]) (c' := 0) (s' := 0) (pc' := 5) d_M_staged_2 rfl c_M_123 rfl rfl (Nat.le_of_ble_eq_true rfl) (Nat.le_of_ble_eq_true rfl) (Nat.le_of_ble_eq_true rfl) (fun Q' hq => c_M_out0 hr (by decide) hq) rfl rfl rfl ?_
      refine x_ifne (t := 16) (pc' := 8) d_M_staged_5 rfl rfl (fun q => absurd rfl q) (fun _ => ?_)
      refine x_iload_n (pc' := 9) d_M_staged_8 rfl rfl ?_
      refine x_iconst (v := nI 4) (pc' := 10) d_M_staged_9 rfl (by decide) ?_
      refine x_static (as := [.int y, .int (nI 4)]) (r := []) (v := (some (.int 1))) (h' := h) (st' := [.int 1]) (c' := 0) (s' := 0) (pc' := 13) d_M_staged_10 rfl c_M_123 rfl rfl (Nat.le_of_ble_eq_true rfl) (Nat.le_of_ble_eq_true rfl) (Nat.le_of_ble_eq_true rfl) (fun Q' hq => c_M_out1 (by decide) ey hq) rfl rfl rfl ?_
      refine x_ifeq (t := 22) (pc' := 16) d_M_staged_13 rfl rfl (fun q => absurd q (by decide)) (fun _ => ?_)
      refine x_ldc2_w (x := (-1)) (pc' := 19) d_M_staged_16 rfl k_M_158 ?_
      refine x_goto (t := 32) d_M_staged_19 rfl ?_
      exact x_lreturn d_M_staged_32 rfl (x_ql (by unfold sp_staged; rw [er, ey]) hQ)
    · refine x_iload_n (pc' := 1) d_M_staged_0 rfl rfl ?_
      refine x_iconst (v := nI 2) (pc' := 2) d_M_staged_1 rfl (by decide) ?_
      refine x_static (as := [.int (nI r), .int (nI 2)]) (r := []) (v := (some (.int 0))) (h' := h) (st' := [.int 0]) (c' := 0) (s' := 0) (pc' := 5) d_M_staged_2 rfl c_M_123 rfl rfl (Nat.le_of_ble_eq_true rfl) (Nat.le_of_ble_eq_true rfl) (Nat.le_of_ble_eq_true rfl) (fun Q' hq => c_M_out0 hr (by decide) hq) rfl rfl rfl ?_
      refine x_ifne (t := 16) (pc' := 8) d_M_staged_5 rfl rfl (fun q => absurd rfl q) (fun _ => ?_)
      refine x_iload_n (pc' := 9) d_M_staged_8 rfl rfl ?_
      refine x_iconst (v := nI 4) (pc' := 10) d_M_staged_9 rfl (by decide) ?_
      refine x_static (as := [.int (nI b), .int (nI 4)]) (r := []) (v := (some (.int 0))) (h' := h) (st' := [.int 0]) (c' := 0) (s' := 0) (pc' := 13) d_M_staged_10 rfl c_M_123 rfl rfl (Nat.le_of_ble_eq_true rfl) (Nat.le_of_ble_eq_true rfl) (Nat.le_of_ble_eq_true rfl) (fun Q' hq => c_M_out0 hb (by decide) hq) rfl rfl rfl ?_
      refine x_ifeq (t := 22) (pc' := 16) d_M_staged_13 rfl rfl (fun _ => ?_) (fun q => absurd rfl q)
      refine x_aload_n (pc' := 23) d_M_staged_22 rfl rfl ?_
      refine x_getfield (ci := 4) (i := 8) (v := .ref 37) (pc' := 26) d_M_staged_23 rfl g_M_32 hO rfl ?_
      refine x_iconst (v := nI 4) (pc' := 27) d_M_staged_26 rfl (by decide) ?_
      refine x_iload_n (pc' := 28) d_M_staged_27 rfl rfl ?_
      refine x_imul (z := nI (4 * r)) (pc' := 29) d_M_staged_28 rfl (pk_mul 4 r) ?_
      refine x_iload_n (pc' := 30) d_M_staged_29 rfl rfl ?_
      refine x_iadd (z := nI (4 * r + b)) (pc' := 31) d_M_staged_30 rfl (nI_add _ _) ?_
      refine x_laload (v := sp_tv (sp_ix (S.2 r) b)) (pc' := 32) d_M_staged_31 rfl t1 (vp_in_nI (by omega) (by decide)) (by rw [nI_clamp (by omega)]; exact t2 r hr b hb) ?_
      exact x_lreturn d_M_staged_32 rfl (x_ql (by unfold sp_staged; rw [er, eb]) hQ)
theorem c_M_text {L : Nat} {xs : Nat → Int32} {d : Nat} {h : xm_H} {Q : xm_Q} {S : sp_S} (hM : mh h S) (hS : sp_WS S) {x y : Int32} (hQ : Q (some (.long (sp_text S x y))) h) : xm_call L xs (d + 2) m_M_text [.ref 29, .int x, .int y] h Q := by
  obtain ⟨hK, ⟨tk, hO⟩, hw⟩ := id hM
  have h40 := hK.1
  obtain ⟨t, t1, t2⟩ := hK.2.1
  refine x_call (lo := [.ref 29, .int x, .int y]) (Nat.le_of_ble_eq_true rfl) rfl ?_
  rcases sp_in_cases (sp_n S.1) (by omega) x with ⟨_, ex⟩ | ⟨_, _, ex⟩ | ⟨r, hr, rfl, er⟩
  · refine x_iload_n (pc' := 1) d_M_text_0 rfl rfl ?_
    refine x_aload_n (pc' := 2) d_M_text_1 rfl rfl ?_
    refine x_getfield (ci := 4) (i := 0) (v := .int (nI (sp_n S.1))) (pc' := 5) d_M_text_2 rfl g_M_104 hO rfl ?_
    refine x_static (as := [.int x, .int (nI (sp_n S.1))]) (r := []) (v := (some (.int 1))) (h' := h) (st' := [.int 1]) (c' := 0) (s' := 0) (pc' := 8) d_M_text_5 rfl c_M_123 rfl rfl (Nat.le_of_ble_eq_true rfl) (Nat.le_of_ble_eq_true rfl) (Nat.le_of_ble_eq_true rfl) (fun Q' hq => c_M_out1 (by omega) ex hq) rfl rfl rfl ?_
    refine x_ifne (t := 19) (pc' := 11) d_M_text_8 rfl rfl (fun _ => ?_) (fun q => absurd q (by decide))
    refine x_ldc2_w (x := (-1)) (pc' := 22) d_M_text_19 rfl k_M_158 ?_
    refine x_goto (t := 35) d_M_text_22 rfl ?_
    exact x_lreturn d_M_text_35 rfl (x_ql (by unfold sp_text; rw [ex]) hQ)
  · refine x_iload_n (pc' := 1) d_M_text_0 rfl rfl ?_
    refine x_aload_n (pc' := 2) d_M_text_1 rfl rfl ?_
    refine x_getfield (ci := 4) (i := 0) (v := .int (nI (sp_n S.1))) (pc' := 5) d_M_text_2 rfl g_M_104 hO rfl ?_
    refine x_static (as := [.int x, .int (nI (sp_n S.1))]) (r := []) (v := (some (.int 1))) (h' := h) (st' := [.int 1]) (c' := 0) (s' := 0) (pc' := 8) d_M_text_5 rfl c_M_123 rfl rfl (Nat.le_of_ble_eq_true rfl) (Nat.le_of_ble_eq_true rfl) (Nat.le_of_ble_eq_true rfl) (fun Q' hq => c_M_out1 (by omega) ex hq) rfl rfl rfl ?_
    refine x_ifne (t := 19) (pc' := 11) d_M_text_8 rfl rfl (fun _ => ?_) (fun q => absurd q (by decide))
    refine x_ldc2_w (x := (-1)) (pc' := 22) d_M_text_19 rfl k_M_158 ?_
    refine x_goto (t := 35) d_M_text_22 rfl ?_
    exact x_lreturn d_M_text_35 rfl (x_ql (by unfold sp_text; rw [ex]) hQ)
  · rcases sp_in_cases 4 (by decide) y with ⟨_, ey⟩ | ⟨_, _, ey⟩ | ⟨b, hb, rfl, eb⟩
    · refine x_iload_n (pc' := 1) d_M_text_0 rfl rfl ?_
      refine x_aload_n (pc' := 2) d_M_text_1 rfl rfl ?_
      refine x_getfield (ci := 4) (i := 0) (v := .int (nI (sp_n S.1))) (pc' := 5) d_M_text_2 rfl g_M_104 hO rfl ?_
      refine x_static (as := [.int (nI r), .int (nI (sp_n S.1))]) (r := []) (v := (some (.int 0))) (h' := h) (st' := [.int 0]) (c' := 0) (s' := 0) (pc' := 8) d_M_text_5 rfl c_M_123 rfl rfl (Nat.le_of_ble_eq_true rfl) (Nat.le_of_ble_eq_true rfl) (Nat.le_of_ble_eq_true rfl) (fun Q' hq => c_M_out0 hr (by omega) hq) rfl rfl rfl ?_
      refine x_ifne (t := 19) (pc' := 11) d_M_text_8 rfl rfl (fun q => absurd rfl q) (fun _ => ?_)
      refine x_iload_n (pc' := 12) d_M_text_11 rfl rfl ?_
      refine x_iconst (v := nI 4) (pc' := 13) d_M_text_12 rfl (by decide) ?_
      refine x_static (as := [.int y, .int (nI 4)]) (r := []) (v := (some (.int 1))) (h' := h) (st' := [.int 1]) (c' := 0) (s' := 0) (pc' := 16) d_M_text_13 rfl c_M_123 rfl rfl (Nat.le_of_ble_eq_true rfl) (Nat.le_of_ble_eq_true rfl) (Nat.le_of_ble_eq_true rfl) (fun Q' hq => c_M_out1 (by decide) ey hq) rfl rfl rfl ?_
      refine x_ifeq (t := 25) (pc' := 19) d_M_text_16 rfl rfl (fun q => absurd q (by decide)) (fun _ => ?_)
      refine x_ldc2_w (x := (-1)) (pc' := 22) d_M_text_19 rfl k_M_158 ?_
      refine x_goto (t := 35) d_M_text_22 rfl ?_
      exact x_lreturn d_M_text_35 rfl (x_ql (by unfold sp_text; rw [er, ey]) hQ)
    · refine x_iload_n (pc' := 1) d_M_text_0 rfl rfl ?_
      refine x_aload_n (pc' := 2) d_M_text_1 rfl rfl ?_
      refine x_getfield (ci := 4) (i := 0) (v := .int (nI (sp_n S.1))) (pc' := 5) d_M_text_2 rfl g_M_104 hO rfl ?_
      refine x_static (as := [.int (nI r), .int (nI (sp_n S.1))]) (r := []) (v := (some (.int 0))) (h' := h) (st' := [.int 0]) (c' := 0) (s' := 0) (pc' := 8) d_M_text_5 rfl c_M_123 rfl rfl (Nat.le_of_ble_eq_true rfl) (Nat.le_of_ble_eq_true rfl) (Nat.le_of_ble_eq_true rfl) (fun Q' hq => c_M_out0 hr (by omega) hq) rfl rfl rfl ?_
      refine x_ifne (t := 19) (pc' := 11) d_M_text_8 rfl rfl (fun q => absurd rfl q) (fun _ => ?_)
      refine x_iload_n (pc' := 12) d_M_text_11 rfl rfl ?_
      refine x_iconst (v := nI 4) (pc' := 13) d_M_text_12 rfl (by decide) ?_
      refine x_static (as := [.int y, .int (nI 4)]) (r := []) (v := (some (.int 1))) (h' := h) (st' := [.int 1]) (c' := 0) (s' := 0) (pc' := 16) d_M_text_13 rfl c_M_123 rfl rfl (Nat.le_of_ble_eq_true rfl) (Nat.le_of_ble_eq_true rfl) (Nat.le_of_ble_eq_true rfl) (fun Q' hq => c_M_out1 (by decide) ey hq) rfl rfl rfl ?_
      refine x_ifeq (t := 25) (pc' := 19) d_M_text_16 rfl rfl (fun q => absurd q (by decide)) (fun _ => ?_)
      refine x_ldc2_w (x := (-1)) (pc' := 22) d_M_text_19 rfl k_M_158 ?_
      refine x_goto (t := 35) d_M_text_22 rfl ?_
      exact x_lreturn d_M_text_35 rfl (x_ql (by unfold sp_text; rw [er, ey]) hQ)
    · refine x_iload_n (pc' := 1) d_M_text_0 rfl rfl ?_
      refine x_aload_n (pc' := 2) d_M_text_1 rfl rfl ?_
      refine x_getfield (ci := 4) (i := 0) (v := .int (nI (sp_n S.1))) (pc' := 5) d_M_text_2 rfl g_M_104 hO rfl ?_
      refine x_static (as := [.int (nI r), .int (nI (sp_n S.1))]) (r := []) (v := (some (.int 0))) (h' := h) (st' := [.int 0]) (c' := 0) (s' := 0) (pc' := 8) d_M_text_5 rfl c_M_123 rfl rfl (Nat.le_of_ble_eq_true rfl) (Nat.le_of_ble_eq_true rfl) (Nat.le_of_ble_eq_true rfl) (fun Q' hq => c_M_out0 hr (by omega) hq) rfl rfl rfl ?_
      refine x_ifne (t := 19) (pc' := 11) d_M_text_8 rfl rfl (fun q => absurd rfl q) (fun _ => ?_)
      refine x_iload_n (pc' := 12) d_M_text_11 rfl rfl ?_
      refine x_iconst (v := nI 4) (pc' := 13) d_M_text_12 rfl (by decide) ?_
      refine x_static (as := [.int (nI b), .int (nI 4)]) (r := []) (v := (some (.int 0))) (h' := h) (st' := [.int 0]) (c' := 0) (s' := 0) (pc' := 16) d_M_text_13 rfl c_M_123 rfl rfl (Nat.le_of_ble_eq_true rfl) (Nat.le_of_ble_eq_true rfl) (Nat.le_of_ble_eq_true rfl) (fun Q' hq => c_M_out0 hb (by decide) hq) rfl rfl rfl ?_
      refine x_ifeq (t := 25) (pc' := 19) d_M_text_16 rfl rfl (fun _ => ?_) (fun q => absurd rfl q)
      refine x_aload_n (pc' := 26) d_M_text_25 rfl rfl ?_
      refine x_getfield (ci := 4) (i := 1) (v := .ref 30) (pc' := 29) d_M_text_26 rfl g_M_7 hO rfl ?_
      refine x_iconst (v := nI 4) (pc' := 30) d_M_text_29 rfl (by decide) ?_
      refine x_iload_n (pc' := 31) d_M_text_30 rfl rfl ?_
      refine x_imul (z := nI (4 * r)) (pc' := 32) d_M_text_31 rfl (pk_mul 4 r) ?_
      refine x_iload_n (pc' := 33) d_M_text_32 rfl rfl ?_
      refine x_iadd (z := nI (4 * r + b)) (pc' := 34) d_M_text_33 rfl (nI_add _ _) ?_
      refine x_laload (v := sp_tv (sp_tx S.1 (4 * r + b))) (pc' := 35) d_M_text_34 rfl t1 (vp_in_nI (by omega) (by decide)) (by rw [nI_clamp (by omega)]; exact t2 _ (by omega)) ?_
      exact x_lreturn d_M_text_35 rfl (x_ql (by unfold sp_text; rw [er, eb]) hQ)
theorem c_M_base {L : Nat} {xs : Nat → Int32} {d : Nat} {h : xm_H} {Q : xm_Q} {S : sp_S} (hM : mh h S) (hS : sp_WS S) {x y : Int32} (hQ : Q (some (.int (sp_baseq S x y))) h) : xm_call L xs (d + 4) m_M_base [.ref 29, .int x, .int y] h Q := by
  obtain ⟨hK, ⟨tk, hO⟩, hw⟩ := id hM
  have h40 := hK.1
  refine x_call (lo := [.ref 29, .int x, .int y]) (Nat.le_of_ble_eq_true rfl) rfl ?_
  rcases sp_in_cases (sp_n S.1) (by omega) x with ⟨_, ex⟩ | ⟨_, _, ex⟩ | ⟨r, hr, rfl, er⟩
  · refine x_iload_n (pc' := 1) d_M_base_0 rfl rfl ?_
    refine x_aload_n (pc' := 2) d_M_base_1 rfl rfl ?_
    refine x_getfield (ci := 4) (i := 0) (v := .int (nI (sp_n S.1))) (pc' := 5) d_M_base_2 rfl g_M_104 hO rfl ?_
    refine x_static (as := [.int x, .int (nI (sp_n S.1))]) (r := []) (v := (some (.int 1))) (h' := h) (st' := [.int 1]) (c' := 0) (s' := 0) (pc' := 8) d_M_base_5 rfl c_M_123 rfl rfl (Nat.le_of_ble_eq_true rfl) (Nat.le_of_ble_eq_true rfl) (Nat.le_of_ble_eq_true rfl) (fun Q' hq => c_M_out1 (by omega) ex hq) rfl rfl rfl ?_
    refine x_ifne (t := 22) (pc' := 11) d_M_base_8 rfl rfl (fun _ => ?_) (fun q => absurd q (by decide))
    refine x_iconst (v := (-1)) (pc' := 23) d_M_base_22 rfl (by decide) ?_
    refine x_goto (t := 32) d_M_base_23 rfl ?_
    exact x_ireturn d_M_base_32 rfl rfl (x_q (by unfold sp_baseq; rw [ex]) hQ)
  · refine x_iload_n (pc' := 1) d_M_base_0 rfl rfl ?_
    refine x_aload_n (pc' := 2) d_M_base_1 rfl rfl ?_
    refine x_getfield (ci := 4) (i := 0) (v := .int (nI (sp_n S.1))) (pc' := 5) d_M_base_2 rfl g_M_104 hO rfl ?_
    refine x_static (as := [.int x, .int (nI (sp_n S.1))]) (r := []) (v := (some (.int 1))) (h' := h) (st' := [.int 1]) (c' := 0) (s' := 0) (pc' := 8) d_M_base_5 rfl c_M_123 rfl rfl (Nat.le_of_ble_eq_true rfl) (Nat.le_of_ble_eq_true rfl) (Nat.le_of_ble_eq_true rfl) (fun Q' hq => c_M_out1 (by omega) ex hq) rfl rfl rfl ?_
    refine x_ifne (t := 22) (pc' := 11) d_M_base_8 rfl rfl (fun _ => ?_) (fun q => absurd q (by decide))
    refine x_iconst (v := (-1)) (pc' := 23) d_M_base_22 rfl (by decide) ?_
    refine x_goto (t := 32) d_M_base_23 rfl ?_
    exact x_ireturn d_M_base_32 rfl rfl (x_q (by unfold sp_baseq; rw [ex]) hQ)
  · rcases sp_in_cases (sp_n S.1) (by omega) y with ⟨_, ey⟩ | ⟨_, _, ey⟩ | ⟨b, hb, rfl, eb⟩
    · refine x_iload_n (pc' := 1) d_M_base_0 rfl rfl ?_
      refine x_aload_n (pc' := 2) d_M_base_1 rfl rfl ?_
      refine x_getfield (ci := 4) (i := 0) (v := .int (nI (sp_n S.1))) (pc' := 5) d_M_base_2 rfl g_M_104 hO rfl ?_
      refine x_static (as := [.int (nI r), .int (nI (sp_n S.1))]) (r := []) (v := (some (.int 0))) (h' := h) (st' := [.int 0]) (c' := 0) (s' := 0) (pc' := 8) d_M_base_5 rfl c_M_123 rfl rfl (Nat.le_of_ble_eq_true rfl) (Nat.le_of_ble_eq_true rfl) (Nat.le_of_ble_eq_true rfl) (fun Q' hq => c_M_out0 hr (by omega) hq) rfl rfl rfl ?_
      refine x_ifne (t := 22) (pc' := 11) d_M_base_8 rfl rfl (fun q => absurd rfl q) (fun _ => ?_)
      refine x_iload_n (pc' := 12) d_M_base_11 rfl rfl ?_
      refine x_aload_n (pc' := 13) d_M_base_12 rfl rfl ?_
      refine x_getfield (ci := 4) (i := 0) (v := .int (nI (sp_n S.1))) (pc' := 16) d_M_base_13 rfl g_M_104 hO rfl ?_
      refine x_static (as := [.int y, .int (nI (sp_n S.1))]) (r := []) (v := (some (.int 1))) (h' := h) (st' := [.int 1]) (c' := 0) (s' := 0) (pc' := 19) d_M_base_16 rfl c_M_123 rfl rfl (Nat.le_of_ble_eq_true rfl) (Nat.le_of_ble_eq_true rfl) (Nat.le_of_ble_eq_true rfl) (fun Q' hq => c_M_out1 (by omega) ey hq) rfl rfl rfl ?_
      refine x_ifeq (t := 26) (pc' := 22) d_M_base_19 rfl rfl (fun q => absurd q (by decide)) (fun _ => ?_)
      refine x_iconst (v := (-1)) (pc' := 23) d_M_base_22 rfl (by decide) ?_
      refine x_goto (t := 32) d_M_base_23 rfl ?_
      exact x_ireturn d_M_base_32 rfl rfl (x_q (by unfold sp_baseq; rw [er, ey]) hQ)
    · refine x_iload_n (pc' := 1) d_M_base_0 rfl rfl ?_
      refine x_aload_n (pc' := 2) d_M_base_1 rfl rfl ?_
      refine x_getfield (ci := 4) (i := 0) (v := .int (nI (sp_n S.1))) (pc' := 5) d_M_base_2 rfl g_M_104 hO rfl ?_
      refine x_static (as := [.int (nI r), .int (nI (sp_n S.1))]) (r := []) (v := (some (.int 0))) (h' := h) (st' := [.int 0]) (c' := 0) (s' := 0) (pc' := 8) d_M_base_5 rfl c_M_123 rfl rfl (Nat.le_of_ble_eq_true rfl) (Nat.le_of_ble_eq_true rfl) (Nat.le_of_ble_eq_true rfl) (fun Q' hq => c_M_out0 hr (by omega) hq) rfl rfl rfl ?_
      refine x_ifne (t := 22) (pc' := 11) d_M_base_8 rfl rfl (fun q => absurd rfl q) (fun _ => ?_)
      refine x_iload_n (pc' := 12) d_M_base_11 rfl rfl ?_
      refine x_aload_n (pc' := 13) d_M_base_12 rfl rfl ?_
      refine x_getfield (ci := 4) (i := 0) (v := .int (nI (sp_n S.1))) (pc' := 16) d_M_base_13 rfl g_M_104 hO rfl ?_
      refine x_static (as := [.int y, .int (nI (sp_n S.1))]) (r := []) (v := (some (.int 1))) (h' := h) (st' := [.int 1]) (c' := 0) (s' := 0) (pc' := 19) d_M_base_16 rfl c_M_123 rfl rfl (Nat.le_of_ble_eq_true rfl) (Nat.le_of_ble_eq_true rfl) (Nat.le_of_ble_eq_true rfl) (fun Q' hq => c_M_out1 (by omega) ey hq) rfl rfl rfl ?_
      refine x_ifeq (t := 26) (pc' := 22) d_M_base_19 rfl rfl (fun q => absurd q (by decide)) (fun _ => ?_)
      refine x_iconst (v := (-1)) (pc' := 23) d_M_base_22 rfl (by decide) ?_
      refine x_goto (t := 32) d_M_base_23 rfl ?_
      exact x_ireturn d_M_base_32 rfl rfl (x_q (by unfold sp_baseq; rw [er, ey]) hQ)
    · refine x_iload_n (pc' := 1) d_M_base_0 rfl rfl ?_
      refine x_aload_n (pc' := 2) d_M_base_1 rfl rfl ?_
      refine x_getfield (ci := 4) (i := 0) (v := .int (nI (sp_n S.1))) (pc' := 5) d_M_base_2 rfl g_M_104 hO rfl ?_
      refine x_static (as := [.int (nI r), .int (nI (sp_n S.1))]) (r := []) (v := (some (.int 0))) (h' := h) (st' := [.int 0]) (c' := 0) (s' := 0) (pc' := 8) d_M_base_5 rfl c_M_123 rfl rfl (Nat.le_of_ble_eq_true rfl) (Nat.le_of_ble_eq_true rfl) (Nat.le_of_ble_eq_true rfl) (fun Q' hq => c_M_out0 hr (by omega) hq) rfl rfl rfl ?_
      refine x_ifne (t := 22) (pc' := 11) d_M_base_8 rfl rfl (fun q => absurd rfl q) (fun _ => ?_)
      refine x_iload_n (pc' := 12) d_M_base_11 rfl rfl ?_
      refine x_aload_n (pc' := 13) d_M_base_12 rfl rfl ?_
      refine x_getfield (ci := 4) (i := 0) (v := .int (nI (sp_n S.1))) (pc' := 16) d_M_base_13 rfl g_M_104 hO rfl ?_
      refine x_static (as := [.int (nI b), .int (nI (sp_n S.1))]) (r := []) (v := (some (.int 0))) (h' := h) (st' := [.int 0]) (c' := 0) (s' := 0) (pc' := 19) d_M_base_16 rfl c_M_123 rfl rfl (Nat.le_of_ble_eq_true rfl) (Nat.le_of_ble_eq_true rfl) (Nat.le_of_ble_eq_true rfl) (fun Q' hq => c_M_out0 hb (by omega) hq) rfl rfl rfl ?_
      refine x_ifeq (t := 26) (pc' := 22) d_M_base_19 rfl rfl (fun _ => ?_) (fun q => absurd rfl q)
      refine x_aload_n (pc' := 27) d_M_base_26 rfl rfl ?_
      refine x_iload_n (pc' := 28) d_M_base_27 rfl rfl ?_
      refine x_iload_n (pc' := 29) d_M_base_28 rfl rfl ?_
      refine x_virtual (a := 29) (as := [.int (nI r), .int (nI b)]) (r := []) (v := (some (.int (sp_vi (sp_base S.1 (some r) (some b)))))) (h' := h) (st' := [.int (sp_vi (sp_base S.1 (some r) (some b)))]) (c' := 0) (s' := 0) (pc' := 32) d_M_base_29 rfl c_M_141 hO rfl rfl (Nat.le_of_ble_eq_true rfl) (Nat.le_of_ble_eq_true rfl) (Nat.le_of_ble_eq_true rfl) (fun Q' hq => c_M_baseOf hO hK hS.1 hr hb hq) rfl rfl rfl ?_
      exact x_ireturn d_M_base_32 rfl rfl (x_q (by unfold sp_baseq; rw [er, eb]) hQ)
theorem c_M_holds {L : Nat} {xs : Nat → Int32} {d : Nat} {h : xm_H} {Q : xm_Q} {S : sp_S} (hM : mh h S) (hS : sp_WS S) {x y : Int32} (hQ : Q (some (.int (sp_holds S x y))) h) : xm_call L xs (d + 2) m_M_holds [.ref 29, .int x, .int y] h Q := by
  obtain ⟨hK, ⟨tk, hO⟩, hw⟩ := id hM
  have h40 := hK.1
  obtain ⟨t, t1, t2⟩ := hK.2.2.2.2.1
  refine x_call (lo := [.ref 29, .int x, .int y]) (Nat.le_of_ble_eq_true rfl) rfl ?_
  rcases sp_in_cases 2 (by decide) x with ⟨_, ex⟩ | ⟨_, _, ex⟩ | ⟨r, hr, rfl, er⟩
  · refine x_iload_n (pc' := 1) d_M_holds_0 rfl rfl ?_
    refine x_iconst (v := nI 2) (pc' := 2) d_M_holds_1 rfl (by decide) ?_
    refine x_static (as := [.int x, .int (nI 2)]) (r := []) (v := (some (.int 1))) (h' := h) (st' := [.int 1]) (c' := 0) (s' := 0) (pc' := 5) d_M_holds_2 rfl c_M_123 rfl rfl (Nat.le_of_ble_eq_true rfl) (Nat.le_of_ble_eq_true rfl) (Nat.le_of_ble_eq_true rfl) (fun Q' hq => c_M_out1 (by decide) ex hq) rfl rfl rfl ?_
    refine x_ifne (t := 38) (pc' := 8) d_M_holds_5 rfl rfl (fun _ => ?_) (fun q => absurd q (by decide))
    refine x_iconst (v := 0) (pc' := 39) d_M_holds_38 rfl (by decide) ?_
    exact x_ireturn d_M_holds_39 rfl rfl (x_q (by unfold sp_holds; rw [ex]) hQ)
  · refine x_iload_n (pc' := 1) d_M_holds_0 rfl rfl ?_
    refine x_iconst (v := nI 2) (pc' := 2) d_M_holds_1 rfl (by decide) ?_
    refine x_static (as := [.int x, .int (nI 2)]) (r := []) (v := (some (.int 1))) (h' := h) (st' := [.int 1]) (c' := 0) (s' := 0) (pc' := 5) d_M_holds_2 rfl c_M_123 rfl rfl (Nat.le_of_ble_eq_true rfl) (Nat.le_of_ble_eq_true rfl) (Nat.le_of_ble_eq_true rfl) (fun Q' hq => c_M_out1 (by decide) ex hq) rfl rfl rfl ?_
    refine x_ifne (t := 38) (pc' := 8) d_M_holds_5 rfl rfl (fun _ => ?_) (fun q => absurd q (by decide))
    refine x_iconst (v := 0) (pc' := 39) d_M_holds_38 rfl (by decide) ?_
    exact x_ireturn d_M_holds_39 rfl rfl (x_q (by unfold sp_holds; rw [ex]) hQ)
  · rcases sp_in_cases (sp_n S.1) (by omega) y with ⟨_, ey⟩ | ⟨_, _, ey⟩ | ⟨b, hb, rfl, eb⟩
    · refine x_iload_n (pc' := 1) d_M_holds_0 rfl rfl ?_
      refine x_iconst (v := nI 2) (pc' := 2) d_M_holds_1 rfl (by decide) ?_
      refine x_static (as := [.int (nI r), .int (nI 2)]) (r := []) (v := (some (.int 0))) (h' := h) (st' := [.int 0]) (c' := 0) (s' := 0) (pc' := 5) d_M_holds_2 rfl c_M_123 rfl rfl (Nat.le_of_ble_eq_true rfl) (Nat.le_of_ble_eq_true rfl) (Nat.le_of_ble_eq_true rfl) (fun Q' hq => c_M_out0 hr (by decide) hq) rfl rfl rfl ?_
      refine x_ifne (t := 38) (pc' := 8) d_M_holds_5 rfl rfl (fun q => absurd rfl q) (fun _ => ?_)
      refine x_iload_n (pc' := 9) d_M_holds_8 rfl rfl ?_
      refine x_aload_n (pc' := 10) d_M_holds_9 rfl rfl ?_
      refine x_getfield (ci := 4) (i := 0) (v := .int (nI (sp_n S.1))) (pc' := 13) d_M_holds_10 rfl g_M_104 hO rfl ?_
      refine x_static (as := [.int y, .int (nI (sp_n S.1))]) (r := []) (v := (some (.int 1))) (h' := h) (st' := [.int 1]) (c' := 0) (s' := 0) (pc' := 16) d_M_holds_13 rfl c_M_123 rfl rfl (Nat.le_of_ble_eq_true rfl) (Nat.le_of_ble_eq_true rfl) (Nat.le_of_ble_eq_true rfl) (fun Q' hq => c_M_out1 (by omega) ey hq) rfl rfl rfl ?_
      refine x_ifne (t := 38) (pc' := 19) d_M_holds_16 rfl rfl (fun _ => ?_) (fun q => absurd q (by decide))
      refine x_iconst (v := 0) (pc' := 39) d_M_holds_38 rfl (by decide) ?_
      exact x_ireturn d_M_holds_39 rfl rfl (x_q (by unfold sp_holds; rw [er, ey]) hQ)
    · refine x_iload_n (pc' := 1) d_M_holds_0 rfl rfl ?_
      refine x_iconst (v := nI 2) (pc' := 2) d_M_holds_1 rfl (by decide) ?_
      refine x_static (as := [.int (nI r), .int (nI 2)]) (r := []) (v := (some (.int 0))) (h' := h) (st' := [.int 0]) (c' := 0) (s' := 0) (pc' := 5) d_M_holds_2 rfl c_M_123 rfl rfl (Nat.le_of_ble_eq_true rfl) (Nat.le_of_ble_eq_true rfl) (Nat.le_of_ble_eq_true rfl) (fun Q' hq => c_M_out0 hr (by decide) hq) rfl rfl rfl ?_
      refine x_ifne (t := 38) (pc' := 8) d_M_holds_5 rfl rfl (fun q => absurd rfl q) (fun _ => ?_)
      refine x_iload_n (pc' := 9) d_M_holds_8 rfl rfl ?_
      refine x_aload_n (pc' := 10) d_M_holds_9 rfl rfl ?_
      refine x_getfield (ci := 4) (i := 0) (v := .int (nI (sp_n S.1))) (pc' := 13) d_M_holds_10 rfl g_M_104 hO rfl ?_
      refine x_static (as := [.int y, .int (nI (sp_n S.1))]) (r := []) (v := (some (.int 1))) (h' := h) (st' := [.int 1]) (c' := 0) (s' := 0) (pc' := 16) d_M_holds_13 rfl c_M_123 rfl rfl (Nat.le_of_ble_eq_true rfl) (Nat.le_of_ble_eq_true rfl) (Nat.le_of_ble_eq_true rfl) (fun Q' hq => c_M_out1 (by omega) ey hq) rfl rfl rfl ?_
      refine x_ifne (t := 38) (pc' := 19) d_M_holds_16 rfl rfl (fun _ => ?_) (fun q => absurd q (by decide))
      refine x_iconst (v := 0) (pc' := 39) d_M_holds_38 rfl (by decide) ?_
      exact x_ireturn d_M_holds_39 rfl rfl (x_q (by unfold sp_holds; rw [er, ey]) hQ)
    · refine x_iload_n (pc' := 1) d_M_holds_0 rfl rfl ?_
      refine x_iconst (v := nI 2) (pc' := 2) d_M_holds_1 rfl (by decide) ?_
      refine x_static (as := [.int (nI r), .int (nI 2)]) (r := []) (v := (some (.int 0))) (h' := h) (st' := [.int 0]) (c' := 0) (s' := 0) (pc' := 5) d_M_holds_2 rfl c_M_123 rfl rfl (Nat.le_of_ble_eq_true rfl) (Nat.le_of_ble_eq_true rfl) (Nat.le_of_ble_eq_true rfl) (fun Q' hq => c_M_out0 hr (by decide) hq) rfl rfl rfl ?_
      refine x_ifne (t := 38) (pc' := 8) d_M_holds_5 rfl rfl (fun q => absurd rfl q) (fun _ => ?_)
      refine x_iload_n (pc' := 9) d_M_holds_8 rfl rfl ?_
      refine x_aload_n (pc' := 10) d_M_holds_9 rfl rfl ?_
      refine x_getfield (ci := 4) (i := 0) (v := .int (nI (sp_n S.1))) (pc' := 13) d_M_holds_10 rfl g_M_104 hO rfl ?_
      refine x_static (as := [.int (nI b), .int (nI (sp_n S.1))]) (r := []) (v := (some (.int 0))) (h' := h) (st' := [.int 0]) (c' := 0) (s' := 0) (pc' := 16) d_M_holds_13 rfl c_M_123 rfl rfl (Nat.le_of_ble_eq_true rfl) (Nat.le_of_ble_eq_true rfl) (Nat.le_of_ble_eq_true rfl) (fun Q' hq => c_M_out0 hb (by omega) hq) rfl rfl rfl ?_
      refine x_ifne (t := 38) (pc' := 19) d_M_holds_16 rfl rfl (fun q => absurd rfl q) (fun _ => ?_)
      refine x_aload_n (pc' := 20) d_M_holds_19 rfl rfl ?_
      refine x_getfield (ci := 4) (i := 4) (v := .ref 33) (pc' := 23) d_M_holds_20 rfl g_M_20 hO rfl ?_
      refine x_iload_n (pc' := 24) d_M_holds_23 rfl rfl ?_
      refine x_laload (v := lN (sp_held (S.2 r))) (pc' := 25) d_M_holds_24 rfl t1 (vp_in_nI (by omega) (by decide)) (by rw [nI_clamp (by omega)]; exact t2 r hr) ?_
      refine x_iload_n (pc' := 26) d_M_holds_25 rfl rfl ?_
      refine x_lshr (z := (lN (sp_held (S.2 r))) >>> ((nI b).toInt64 &&& 63)) (pc' := 27) d_M_holds_26 rfl rfl ?_
      refine x_lconst (v := 1) (pc' := 28) d_M_holds_27 rfl (by decide) ?_
      cases hb2 : (sp_held (S.2 r)).testBit b with
      | false =>
        refine x_land (z := lN 0) (pc' := 29) d_M_holds_28 rfl (wb_sb (by omega) hb2) ?_
        refine x_lconst (v := 1) (pc' := 30) d_M_holds_29 rfl (by decide) ?_
        refine x_lcmp (z := lg_cmp (lN 0) 1) (pc' := 31) d_M_holds_30 rfl rfl ?_
        refine x_ifne (t := 38) (pc' := 34) d_M_holds_31 rfl rfl (fun _ => ?_) (fun q => absurd q (by decide))
        refine x_iconst (v := 0) (pc' := 39) d_M_holds_38 rfl (by decide) ?_
        exact x_ireturn d_M_holds_39 rfl rfl (x_q (by unfold sp_holds; rw [er, eb]; dsimp only; rw [hb2]; rfl) hQ)
      | true =>
        refine x_land (z := lN 1) (pc' := 29) d_M_holds_28 rfl (wb_sb (by omega) hb2) ?_
        refine x_lconst (v := 1) (pc' := 30) d_M_holds_29 rfl (by decide) ?_
        refine x_lcmp (z := lg_cmp (lN 1) 1) (pc' := 31) d_M_holds_30 rfl rfl ?_
        refine x_ifne (t := 38) (pc' := 34) d_M_holds_31 rfl rfl (fun q => absurd rfl q) (fun _ => ?_)
        refine x_iconst (v := 1) (pc' := 35) d_M_holds_34 rfl (by decide) ?_
        refine x_goto (t := 39) d_M_holds_35 rfl ?_
        exact x_ireturn d_M_holds_39 rfl rfl (x_q (by unfold sp_holds; rw [er, eb]; dsimp only; rw [hb2]; rfl) hQ)
theorem c_M_parent {L : Nat} {xs : Nat → Int32} {d : Nat} {h : xm_H} {Q : xm_Q} {S : sp_S} (hM : mh h S) (hS : sp_WS S) {x y : Int32} (hQ : Q (some (.int (sp_parent S x y))) h) : xm_call L xs (d + 2) m_M_parent [.ref 29, .int x, .int y] h Q := by
  obtain ⟨hK, ⟨tk, hO⟩, hw⟩ := id hM
  have h40 := hK.1
  obtain ⟨P1, p1, g1⟩ := hK.2.2.1
  obtain ⟨P2, p2, g2⟩ := hK.2.2.2.1
  refine x_call (lo := [.ref 29, .int x, .int y]) (Nat.le_of_ble_eq_true rfl) rfl ?_
  rcases sp_in_cases (sp_n S.1) (by omega) x with ⟨_, ex⟩ | ⟨_, _, ex⟩ | ⟨r, hr, rfl, er⟩
  · refine x_iload_n (pc' := 1) d_M_parent_0 rfl rfl ?_
    refine x_aload_n (pc' := 2) d_M_parent_1 rfl rfl ?_
    refine x_getfield (ci := 4) (i := 0) (v := .int (nI (sp_n S.1))) (pc' := 5) d_M_parent_2 rfl g_M_104 hO rfl ?_
    refine x_static (as := [.int x, .int (nI (sp_n S.1))]) (r := []) (v := (some (.int 1))) (h' := h) (st' := [.int 1]) (c' := 0) (s' := 0) (pc' := 8) d_M_parent_5 rfl c_M_123 rfl rfl (Nat.le_of_ble_eq_true rfl) (Nat.le_of_ble_eq_true rfl) (Nat.le_of_ble_eq_true rfl) (fun Q' hq => c_M_out1 (by omega) ex hq) rfl rfl rfl ?_
    refine x_ifne (t := 19) (pc' := 11) d_M_parent_8 rfl rfl (fun _ => ?_) (fun q => absurd q (by decide))
    refine x_iconst (v := (-1)) (pc' := 20) d_M_parent_19 rfl (by decide) ?_
    refine x_goto (t := 42) d_M_parent_20 rfl ?_
    exact x_ireturn d_M_parent_42 rfl rfl (x_q (by unfold sp_parent; rw [ex]) hQ)
  · refine x_iload_n (pc' := 1) d_M_parent_0 rfl rfl ?_
    refine x_aload_n (pc' := 2) d_M_parent_1 rfl rfl ?_
    refine x_getfield (ci := 4) (i := 0) (v := .int (nI (sp_n S.1))) (pc' := 5) d_M_parent_2 rfl g_M_104 hO rfl ?_
    refine x_static (as := [.int x, .int (nI (sp_n S.1))]) (r := []) (v := (some (.int 1))) (h' := h) (st' := [.int 1]) (c' := 0) (s' := 0) (pc' := 8) d_M_parent_5 rfl c_M_123 rfl rfl (Nat.le_of_ble_eq_true rfl) (Nat.le_of_ble_eq_true rfl) (Nat.le_of_ble_eq_true rfl) (fun Q' hq => c_M_out1 (by omega) ex hq) rfl rfl rfl ?_
    refine x_ifne (t := 19) (pc' := 11) d_M_parent_8 rfl rfl (fun _ => ?_) (fun q => absurd q (by decide))
    refine x_iconst (v := (-1)) (pc' := 20) d_M_parent_19 rfl (by decide) ?_
    refine x_goto (t := 42) d_M_parent_20 rfl ?_
    exact x_ireturn d_M_parent_42 rfl rfl (x_q (by unfold sp_parent; rw [ex]) hQ)
  · rcases sp_in_cases 2 (by decide) y with ⟨_, ey⟩ | ⟨_, _, ey⟩ | ⟨b, hb, rfl, eb⟩
    · refine x_iload_n (pc' := 1) d_M_parent_0 rfl rfl ?_
      refine x_aload_n (pc' := 2) d_M_parent_1 rfl rfl ?_
      refine x_getfield (ci := 4) (i := 0) (v := .int (nI (sp_n S.1))) (pc' := 5) d_M_parent_2 rfl g_M_104 hO rfl ?_
      refine x_static (as := [.int (nI r), .int (nI (sp_n S.1))]) (r := []) (v := (some (.int 0))) (h' := h) (st' := [.int 0]) (c' := 0) (s' := 0) (pc' := 8) d_M_parent_5 rfl c_M_123 rfl rfl (Nat.le_of_ble_eq_true rfl) (Nat.le_of_ble_eq_true rfl) (Nat.le_of_ble_eq_true rfl) (fun Q' hq => c_M_out0 hr (by omega) hq) rfl rfl rfl ?_
      refine x_ifne (t := 19) (pc' := 11) d_M_parent_8 rfl rfl (fun q => absurd rfl q) (fun _ => ?_)
      refine x_iload_n (pc' := 12) d_M_parent_11 rfl rfl ?_
      refine x_iconst (v := nI 2) (pc' := 13) d_M_parent_12 rfl (by decide) ?_
      refine x_static (as := [.int y, .int (nI 2)]) (r := []) (v := (some (.int 1))) (h' := h) (st' := [.int 1]) (c' := 0) (s' := 0) (pc' := 16) d_M_parent_13 rfl c_M_123 rfl rfl (Nat.le_of_ble_eq_true rfl) (Nat.le_of_ble_eq_true rfl) (Nat.le_of_ble_eq_true rfl) (fun Q' hq => c_M_out1 (by decide) ey hq) rfl rfl rfl ?_
      refine x_ifeq (t := 23) (pc' := 19) d_M_parent_16 rfl rfl (fun q => absurd q (by decide)) (fun _ => ?_)
      refine x_iconst (v := (-1)) (pc' := 20) d_M_parent_19 rfl (by decide) ?_
      refine x_goto (t := 42) d_M_parent_20 rfl ?_
      exact x_ireturn d_M_parent_42 rfl rfl (x_q (by unfold sp_parent; rw [er, ey]) hQ)
    · refine x_iload_n (pc' := 1) d_M_parent_0 rfl rfl ?_
      refine x_aload_n (pc' := 2) d_M_parent_1 rfl rfl ?_
      refine x_getfield (ci := 4) (i := 0) (v := .int (nI (sp_n S.1))) (pc' := 5) d_M_parent_2 rfl g_M_104 hO rfl ?_
      refine x_static (as := [.int (nI r), .int (nI (sp_n S.1))]) (r := []) (v := (some (.int 0))) (h' := h) (st' := [.int 0]) (c' := 0) (s' := 0) (pc' := 8) d_M_parent_5 rfl c_M_123 rfl rfl (Nat.le_of_ble_eq_true rfl) (Nat.le_of_ble_eq_true rfl) (Nat.le_of_ble_eq_true rfl) (fun Q' hq => c_M_out0 hr (by omega) hq) rfl rfl rfl ?_
      refine x_ifne (t := 19) (pc' := 11) d_M_parent_8 rfl rfl (fun q => absurd rfl q) (fun _ => ?_)
      refine x_iload_n (pc' := 12) d_M_parent_11 rfl rfl ?_
      refine x_iconst (v := nI 2) (pc' := 13) d_M_parent_12 rfl (by decide) ?_
      refine x_static (as := [.int y, .int (nI 2)]) (r := []) (v := (some (.int 1))) (h' := h) (st' := [.int 1]) (c' := 0) (s' := 0) (pc' := 16) d_M_parent_13 rfl c_M_123 rfl rfl (Nat.le_of_ble_eq_true rfl) (Nat.le_of_ble_eq_true rfl) (Nat.le_of_ble_eq_true rfl) (fun Q' hq => c_M_out1 (by decide) ey hq) rfl rfl rfl ?_
      refine x_ifeq (t := 23) (pc' := 19) d_M_parent_16 rfl rfl (fun q => absurd q (by decide)) (fun _ => ?_)
      refine x_iconst (v := (-1)) (pc' := 20) d_M_parent_19 rfl (by decide) ?_
      refine x_goto (t := 42) d_M_parent_20 rfl ?_
      exact x_ireturn d_M_parent_42 rfl rfl (x_q (by unfold sp_parent; rw [er, ey]) hQ)
    · refine x_iload_n (pc' := 1) d_M_parent_0 rfl rfl ?_
      refine x_aload_n (pc' := 2) d_M_parent_1 rfl rfl ?_
      refine x_getfield (ci := 4) (i := 0) (v := .int (nI (sp_n S.1))) (pc' := 5) d_M_parent_2 rfl g_M_104 hO rfl ?_
      refine x_static (as := [.int (nI r), .int (nI (sp_n S.1))]) (r := []) (v := (some (.int 0))) (h' := h) (st' := [.int 0]) (c' := 0) (s' := 0) (pc' := 8) d_M_parent_5 rfl c_M_123 rfl rfl (Nat.le_of_ble_eq_true rfl) (Nat.le_of_ble_eq_true rfl) (Nat.le_of_ble_eq_true rfl) (fun Q' hq => c_M_out0 hr (by omega) hq) rfl rfl rfl ?_
      refine x_ifne (t := 19) (pc' := 11) d_M_parent_8 rfl rfl (fun q => absurd rfl q) (fun _ => ?_)
      refine x_iload_n (pc' := 12) d_M_parent_11 rfl rfl ?_
      refine x_iconst (v := nI 2) (pc' := 13) d_M_parent_12 rfl (by decide) ?_
      refine x_static (as := [.int (nI b), .int (nI 2)]) (r := []) (v := (some (.int 0))) (h' := h) (st' := [.int 0]) (c' := 0) (s' := 0) (pc' := 16) d_M_parent_13 rfl c_M_123 rfl rfl (Nat.le_of_ble_eq_true rfl) (Nat.le_of_ble_eq_true rfl) (Nat.le_of_ble_eq_true rfl) (fun Q' hq => c_M_out0 hb (by decide) hq) rfl rfl rfl ?_
      refine x_ifeq (t := 23) (pc' := 19) d_M_parent_16 rfl rfl (fun _ => ?_) (fun q => absurd rfl q)
      refine x_iload_n (pc' := 24) d_M_parent_23 rfl rfl ?_
      by_cases hb0 : b = 0
      · refine x_ifne (t := 36) (pc' := 27) d_M_parent_24 rfl rfl (fun q => absurd (by rw [hb0]; rfl) q) (fun _ => ?_)
        refine x_aload_n (pc' := 28) d_M_parent_27 rfl rfl ?_
        refine x_getfield (ci := 4) (i := 2) (v := .ref 31) (pc' := 31) d_M_parent_28 rfl g_M_13 hO rfl ?_
        refine x_iload_n (pc' := 32) d_M_parent_31 rfl rfl ?_
        refine x_iaload (v := sp_vi (sp_p1 S.1 r)) (pc' := 33) d_M_parent_32 rfl p1 (vp_in_nI (by omega) (by decide)) (by rw [nI_clamp (by omega)]; exact g1 r hr) ?_
        refine x_goto (t := 42) d_M_parent_33 rfl ?_
        exact x_ireturn d_M_parent_42 rfl rfl (x_q (by unfold sp_parent; rw [er, eb]; dsimp only; rw [if_pos hb0]) hQ)
      · refine x_ifne (t := 36) (pc' := 27) d_M_parent_24 rfl rfl (fun _ => ?_) (fun q => absurd q (nI_ne0 (by omega) (by omega)))
        refine x_aload_n (pc' := 37) d_M_parent_36 rfl rfl ?_
        refine x_getfield (ci := 4) (i := 3) (v := .ref 32) (pc' := 40) d_M_parent_37 rfl g_M_17 hO rfl ?_
        refine x_iload_n (pc' := 41) d_M_parent_40 rfl rfl ?_
        refine x_iaload (v := sp_vi (sp_p2 S.1 r)) (pc' := 42) d_M_parent_41 rfl p2 (vp_in_nI (by omega) (by decide)) (by rw [nI_clamp (by omega)]; exact g2 r hr) ?_
        exact x_ireturn d_M_parent_42 rfl rfl (x_q (by unfold sp_parent; rw [er, eb]; dsimp only; rw [if_neg hb0]) hQ)
theorem c_M_current {L : Nat} {xs : Nat → Int32} {d : Nat} {h : xm_H} {Q : xm_Q} {S : sp_S} (hM : mh h S) (hS : sp_WS S) {x : Int32} (hQ : Q (some (.int (sp_current S x))) h) : xm_call L xs (d + 2) m_M_current [.ref 29, .int x] h Q := by
  obtain ⟨hK, ⟨tk, hO⟩, hw⟩ := id hM
  have h40 := hK.1
  obtain ⟨t, t1, t2⟩ := hK.2.2.2.2.2.2.1
  refine x_call (lo := [.ref 29, .int x]) (Nat.le_of_ble_eq_true rfl) rfl ?_
  rcases sp_in_cases 2 (by decide) x with ⟨_, ex⟩ | ⟨_, _, ex⟩ | ⟨r, hr, rfl, er⟩
  · refine x_iload_n (pc' := 1) d_M_current_0 rfl rfl ?_
    refine x_iconst (v := nI 2) (pc' := 2) d_M_current_1 rfl (by decide) ?_
    refine x_static (as := [.int x, .int (nI 2)]) (r := []) (v := (some (.int 1))) (h' := h) (st' := [.int 1]) (c' := 0) (s' := 0) (pc' := 5) d_M_current_2 rfl c_M_123 rfl rfl (Nat.le_of_ble_eq_true rfl) (Nat.le_of_ble_eq_true rfl) (Nat.le_of_ble_eq_true rfl) (fun Q' hq => c_M_out1 (by decide) ex hq) rfl rfl rfl ?_
    refine x_ifeq (t := 12) (pc' := 8) d_M_current_5 rfl rfl (fun q => absurd q (by decide)) (fun _ => ?_)
    refine x_iconst (v := (-1)) (pc' := 9) d_M_current_8 rfl (by decide) ?_
    refine x_goto (t := 18) d_M_current_9 rfl ?_
    exact x_ireturn d_M_current_18 rfl rfl (x_q (by unfold sp_current; rw [ex]) hQ)
  · refine x_iload_n (pc' := 1) d_M_current_0 rfl rfl ?_
    refine x_iconst (v := nI 2) (pc' := 2) d_M_current_1 rfl (by decide) ?_
    refine x_static (as := [.int x, .int (nI 2)]) (r := []) (v := (some (.int 1))) (h' := h) (st' := [.int 1]) (c' := 0) (s' := 0) (pc' := 5) d_M_current_2 rfl c_M_123 rfl rfl (Nat.le_of_ble_eq_true rfl) (Nat.le_of_ble_eq_true rfl) (Nat.le_of_ble_eq_true rfl) (fun Q' hq => c_M_out1 (by decide) ex hq) rfl rfl rfl ?_
    refine x_ifeq (t := 12) (pc' := 8) d_M_current_5 rfl rfl (fun q => absurd q (by decide)) (fun _ => ?_)
    refine x_iconst (v := (-1)) (pc' := 9) d_M_current_8 rfl (by decide) ?_
    refine x_goto (t := 18) d_M_current_9 rfl ?_
    exact x_ireturn d_M_current_18 rfl rfl (x_q (by unfold sp_current; rw [ex]) hQ)
  · refine x_iload_n (pc' := 1) d_M_current_0 rfl rfl ?_
    refine x_iconst (v := nI 2) (pc' := 2) d_M_current_1 rfl (by decide) ?_
    refine x_static (as := [.int (nI r), .int (nI 2)]) (r := []) (v := (some (.int 0))) (h' := h) (st' := [.int 0]) (c' := 0) (s' := 0) (pc' := 5) d_M_current_2 rfl c_M_123 rfl rfl (Nat.le_of_ble_eq_true rfl) (Nat.le_of_ble_eq_true rfl) (Nat.le_of_ble_eq_true rfl) (fun Q' hq => c_M_out0 hr (by decide) hq) rfl rfl rfl ?_
    refine x_ifeq (t := 12) (pc' := 8) d_M_current_5 rfl rfl (fun _ => ?_) (fun q => absurd rfl q)
    refine x_aload_n (pc' := 13) d_M_current_12 rfl rfl ?_
    refine x_getfield (ci := 4) (i := 6) (v := .ref 35) (pc' := 16) d_M_current_13 rfl g_M_26 hO rfl ?_
    refine x_iload_n (pc' := 17) d_M_current_16 rfl rfl ?_
    refine x_iaload (v := nI (sp_cur (S.2 r))) (pc' := 18) d_M_current_17 rfl t1 (vp_in_nI (by omega) (by decide)) (by rw [nI_clamp (by omega)]; exact t2 r hr) ?_
    exact x_ireturn d_M_current_18 rfl rfl (x_q (by unfold sp_current; rw [er]) hQ)
theorem c_M_commits {L : Nat} {xs : Nat → Int32} {d : Nat} {h : xm_H} {Q : xm_Q} {S : sp_S} (hM : mh h S) (hS : sp_WS S) (hQ : Q (some (.int (nI (sp_n S.1)))) h) : xm_call L xs (d + 1) m_M_commits [.ref 29] h Q := by
  obtain ⟨hK, ⟨tk, hO⟩, hw⟩ := id hM
  have h40 := hK.1
  refine x_call (lo := [.ref 29]) (Nat.le_of_ble_eq_true rfl) rfl ?_
  refine x_aload_n (pc' := 1) d_M_commits_0 rfl rfl ?_
  refine x_getfield (ci := 4) (i := 0) (v := .int (nI (sp_n S.1))) (pc' := 4) d_M_commits_1 rfl g_M_104 hO rfl ?_
  exact x_ireturn d_M_commits_4 rfl rfl hQ
