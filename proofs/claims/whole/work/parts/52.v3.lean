/-! write, remove, stage, branch, drop, checkout, commit. (Printed by c_v3.py.) -/
theorem sp_nI_nn {k : Nat} (h : k < 2 ^ 31) {z : Int32} (hz : z < 0) : nI k ≠ z := fun e => absurd (e ▸ hz) (nI_pos h)
theorem c_V_remove_x {L : Nat} {xs : Nat → Int32} {d : Nat} {h : xm_H} {Q : xm_Q} {S : sp_S} (hV : ch_V h S) (hS : sp_WS S) {x y : Int32} (hx : sp_in 2 x = none) (hQ : Q (some (.int (0))) h) : xm_call L xs (d + 2) m_V_remove [.ref 0, .int x, .int y] h Q := by
  refine x_call (lo := [.ref 0, .int x, .int y]) (Nat.le_of_ble_eq_true rfl) rfl ?_
  refine x_iload_n (pc' := 1) d_V_remove_0 rfl rfl ?_
  refine x_static (as := [.int x]) (r := []) (v := (some (.int 0))) (h' := h) (st' := [.int 0]) (c' := 0) (s' := 0) (pc' := 4) d_V_remove_1 rfl c_V_30 rfl rfl (Nat.le_of_ble_eq_true rfl) (Nat.le_of_ble_eq_true rfl) (Nat.le_of_ble_eq_true rfl) (fun Q' hq => c_V_isRepository0 hx hq) rfl rfl rfl ?_
  refine x_ifeq (t := 14) (pc' := 7) d_V_remove_4 rfl rfl (fun _ => ?_) (fun q => absurd rfl q)
  refine x_iconst (v := 0) (pc' := 15) d_V_remove_14 rfl (by decide) ?_
  exact x_ireturn d_V_remove_15 rfl rfl hQ
theorem c_V_remove_y {L : Nat} {xs : Nat → Int32} {d : Nat} {h : xm_H} {Q : xm_Q} {S : sp_S} (hV : ch_V h S) (hS : sp_WS S) {r : Nat} {y : Int32} (hr : r < 2) (hy : sp_in 4 y = none) (hQ : Q (some (.int (0))) h) : xm_call L xs (d + 2) m_V_remove [.ref 0, .int (nI r), .int y] h Q := by
  refine x_call (lo := [.ref 0, .int (nI r), .int y]) (Nat.le_of_ble_eq_true rfl) rfl ?_
  refine x_iload_n (pc' := 1) d_V_remove_0 rfl rfl ?_
  refine x_static (as := [.int (nI r)]) (r := []) (v := (some (.int 1))) (h' := h) (st' := [.int 1]) (c' := 0) (s' := 0) (pc' := 4) d_V_remove_1 rfl c_V_30 rfl rfl (Nat.le_of_ble_eq_true rfl) (Nat.le_of_ble_eq_true rfl) (Nat.le_of_ble_eq_true rfl) (fun Q' hq => c_V_isRepository1 hr hq) rfl rfl rfl ?_
  refine x_ifeq (t := 14) (pc' := 7) d_V_remove_4 rfl rfl (fun q => absurd q (by decide)) (fun _ => ?_)
  refine x_iload_n (pc' := 8) d_V_remove_7 rfl rfl ?_
  refine x_static (as := [.int y]) (r := []) (v := (some (.int 0))) (h' := h) (st' := [.int 0]) (c' := 0) (s' := 0) (pc' := 11) d_V_remove_8 rfl c_V_34 rfl rfl (Nat.le_of_ble_eq_true rfl) (Nat.le_of_ble_eq_true rfl) (Nat.le_of_ble_eq_true rfl) (fun Q' hq => c_V_isFile0 hy hq) rfl rfl rfl ?_
  refine x_ifne (t := 16) (pc' := 14) d_V_remove_11 rfl rfl (fun q => absurd rfl q) (fun _ => ?_)
  refine x_iconst (v := 0) (pc' := 15) d_V_remove_14 rfl (by decide) ?_
  exact x_ireturn d_V_remove_15 rfl rfl hQ
theorem c_V_remove_z {L : Nat} {xs : Nat → Int32} {d : Nat} {h : xm_H} {Q : xm_Q} {S : sp_S} (hV : ch_V h S) (hS : sp_WS S) {r f : Nat} (hr : r < 2) (hf : f < 4) (hQ : ∀ h', ch_V h' (sp_set S r (sp_tip (S.2 r), sp_cur (S.2 r), sp_held (S.2 r), sp_up (sp_wk (S.2 r)) f none, sp_ix (S.2 r))) → xl_fr sp_V29 h h' → Q (some (.int 1)) h') : xm_call L xs (d + 2) m_V_remove [.ref 0, .int (nI r), .int (nI f)] h Q := by
  obtain ⟨g, hg, hg2⟩ := hV.2.1
  obtain ⟨a, ha7⟩ : ∃ a, a = 7 + 4 * r := ⟨_, rfl⟩
  have hR : ch_R h a (S.2 r) := by rw [ha7]; exact hV.2.2.2.1 r hr
  have hH := hV.2.2.1
  have hWR := hS.2 r hr
  obtain ⟨w, hw, hw2⟩ := hR.2.2.2.1
  obtain ⟨x, hx, hx2⟩ := hR.2.2.2.2
  refine x_call (lo := [.ref 0, .int (nI r), .int (nI f)]) (Nat.le_of_ble_eq_true rfl) rfl ?_
  refine x_iload_n (pc' := 1) d_V_remove_0 rfl rfl ?_
  refine x_static (as := [.int (nI r)]) (r := []) (v := (some (.int 1))) (h' := h) (st' := [.int 1]) (c' := 0) (s' := 0) (pc' := 4) d_V_remove_1 rfl c_V_30 rfl rfl (Nat.le_of_ble_eq_true rfl) (Nat.le_of_ble_eq_true rfl) (Nat.le_of_ble_eq_true rfl) (fun Q' hq => c_V_isRepository1 hr hq) rfl rfl rfl ?_
  refine x_ifeq (t := 14) (pc' := 7) d_V_remove_4 rfl rfl (fun q => absurd q (by decide)) (fun _ => ?_)
  refine x_iload_n (pc' := 8) d_V_remove_7 rfl rfl ?_
  refine x_static (as := [.int (nI f)]) (r := []) (v := (some (.int 1))) (h' := h) (st' := [.int 1]) (c' := 0) (s' := 0) (pc' := 11) d_V_remove_8 rfl c_V_34 rfl rfl (Nat.le_of_ble_eq_true rfl) (Nat.le_of_ble_eq_true rfl) (Nat.le_of_ble_eq_true rfl) (fun Q' hq => c_V_isFile1 hf hq) rfl rfl rfl ?_
  refine x_ifne (t := 16) (pc' := 14) d_V_remove_11 rfl rfl (fun _ => ?_) (fun q => absurd q (by decide))
  refine x_aload_n (pc' := 17) d_V_remove_16 rfl rfl ?_
  refine x_getfield (ci := 3) (i := 1) (v := .ref 6) (pc' := 20) d_V_remove_17 rfl g_V_18 hV.1 rfl ?_
  refine x_iload_n (pc' := 21) d_V_remove_20 rfl rfl ?_
  refine x_aaload (q := a) (pc' := 22) d_V_remove_21 rfl hg (Or.inr rfl) (vp_in_nI hr (by decide)) (by rw [nI_clamp (by omega), hg2 r hr, ha7]) ?_
  refine x_getfield (ci := 1) (i := 1) (v := .ref (a + 2)) (pc' := 25) d_V_remove_22 rfl g_V_37 hR.2.1 rfl ?_
  refine x_iload_n (pc' := 26) d_V_remove_25 rfl rfl ?_
  refine x_ldc2_w (x := sp_tv none) (pc' := 29) d_V_remove_26 rfl k_V_47 ?_
  refine x_lastore (h' := (h.set (a + 2) (.inl (.long, 4, .inr (.inl (vp_updL w (nI f).toNatClampNeg (sp_tv none))))))) (pc' := 30) d_V_remove_29 rfl hw (vp_in_nI hf (by decide)) rfl ?_
  refine x_iconst (v := 1) (pc' := 31) d_V_remove_30 rfl (by decide) ?_
  exact x_ireturn d_V_remove_31 rfl rfl (hQ _ (ch_V_rep hV hr (xl_set ⟨by omega, by omega⟩) (by rw [← ha7]; exact ch_R_wk hR hw hf none)) (xl_set (by show _ < 29; omega)))
theorem c_V_remove {L : Nat} {xs : Nat → Int32} {d : Nat} {h : xm_H} {Q : xm_Q} {S : sp_S} (hV : ch_V h S) (hS : sp_WS S) {x y : Int32} (hQ : ∀ h', ch_V h' (sp_remove S x y).2 → xl_fr sp_V29 h h' → Q (some (.int (sp_remove S x y).1)) h') : xm_call L xs (d + 2) m_V_remove [.ref 0, .int x, .int y] h Q := by
  rcases sp_in_cases 2 (by decide) x with ⟨_, e⟩ | ⟨_, _, e⟩ | ⟨r, hr, rfl, e⟩
  · have e9 : sp_remove S x y = (0, S) := by unfold sp_remove; rw [e]
    rw [e9] at hQ
    exact c_V_remove_x hV hS e (hQ h hV xl_rf)
  · have e9 : sp_remove S x y = (0, S) := by unfold sp_remove; rw [e]
    rw [e9] at hQ
    exact c_V_remove_x hV hS e (hQ h hV xl_rf)
  · rcases sp_in_cases 4 (by decide) y with ⟨_, e2⟩ | ⟨_, _, e2⟩ | ⟨b, hb, rfl, e2⟩
    · have e9 : sp_remove S (nI r) y = (0, S) := by unfold sp_remove; rw [e, e2]
      rw [e9] at hQ
      exact c_V_remove_y hV hS hr e2 (hQ h hV xl_rf)
    · have e9 : sp_remove S (nI r) y = (0, S) := by unfold sp_remove; rw [e, e2]
      rw [e9] at hQ
      exact c_V_remove_y hV hS hr e2 (hQ h hV xl_rf)
    · have e9 : sp_remove S (nI r) (nI b) = (1, sp_set S r (sp_tip (S.2 r), sp_cur (S.2 r), sp_held (S.2 r), sp_up (sp_wk (S.2 r)) b none, sp_ix (S.2 r))) := by unfold sp_remove; rw [e, e2]
      rw [e9] at hQ
      exact c_V_remove_z hV hS hr hb hQ
theorem c_V_stage_x {L : Nat} {xs : Nat → Int32} {d : Nat} {h : xm_H} {Q : xm_Q} {S : sp_S} (hV : ch_V h S) (hS : sp_WS S) {x y : Int32} (hx : sp_in 2 x = none) (hQ : Q (some (.int (0))) h) : xm_call L xs (d + 2) m_V_stage [.ref 0, .int x, .int y] h Q := by
  refine x_call (lo := [.ref 0, .int x, .int y, .float 0]) (Nat.le_of_ble_eq_true rfl) rfl ?_
  refine x_iload_n (pc' := 1) d_V_stage_0 rfl rfl ?_
  refine x_static (as := [.int x]) (r := []) (v := (some (.int 0))) (h' := h) (st' := [.int 0]) (c' := 0) (s' := 0) (pc' := 4) d_V_stage_1 rfl c_V_30 rfl rfl (Nat.le_of_ble_eq_true rfl) (Nat.le_of_ble_eq_true rfl) (Nat.le_of_ble_eq_true rfl) (fun Q' hq => c_V_isRepository0 hx hq) rfl rfl rfl ?_
  refine x_ifeq (t := 14) (pc' := 7) d_V_stage_4 rfl rfl (fun _ => ?_) (fun q => absurd rfl q)
  refine x_iconst (v := 0) (pc' := 15) d_V_stage_14 rfl (by decide) ?_
  exact x_ireturn d_V_stage_15 rfl rfl hQ
theorem c_V_stage_y {L : Nat} {xs : Nat → Int32} {d : Nat} {h : xm_H} {Q : xm_Q} {S : sp_S} (hV : ch_V h S) (hS : sp_WS S) {r : Nat} {y : Int32} (hr : r < 2) (hy : sp_in 4 y = none) (hQ : Q (some (.int (0))) h) : xm_call L xs (d + 2) m_V_stage [.ref 0, .int (nI r), .int y] h Q := by
  refine x_call (lo := [.ref 0, .int (nI r), .int y, .float 0]) (Nat.le_of_ble_eq_true rfl) rfl ?_
  refine x_iload_n (pc' := 1) d_V_stage_0 rfl rfl ?_
  refine x_static (as := [.int (nI r)]) (r := []) (v := (some (.int 1))) (h' := h) (st' := [.int 1]) (c' := 0) (s' := 0) (pc' := 4) d_V_stage_1 rfl c_V_30 rfl rfl (Nat.le_of_ble_eq_true rfl) (Nat.le_of_ble_eq_true rfl) (Nat.le_of_ble_eq_true rfl) (fun Q' hq => c_V_isRepository1 hr hq) rfl rfl rfl ?_
  refine x_ifeq (t := 14) (pc' := 7) d_V_stage_4 rfl rfl (fun q => absurd q (by decide)) (fun _ => ?_)
  refine x_iload_n (pc' := 8) d_V_stage_7 rfl rfl ?_
  refine x_static (as := [.int y]) (r := []) (v := (some (.int 0))) (h' := h) (st' := [.int 0]) (c' := 0) (s' := 0) (pc' := 11) d_V_stage_8 rfl c_V_34 rfl rfl (Nat.le_of_ble_eq_true rfl) (Nat.le_of_ble_eq_true rfl) (Nat.le_of_ble_eq_true rfl) (fun Q' hq => c_V_isFile0 hy hq) rfl rfl rfl ?_
  refine x_ifne (t := 16) (pc' := 14) d_V_stage_11 rfl rfl (fun q => absurd rfl q) (fun _ => ?_)
  refine x_iconst (v := 0) (pc' := 15) d_V_stage_14 rfl (by decide) ?_
  exact x_ireturn d_V_stage_15 rfl rfl hQ
theorem c_V_stage_z {L : Nat} {xs : Nat → Int32} {d : Nat} {h : xm_H} {Q : xm_Q} {S : sp_S} (hV : ch_V h S) (hS : sp_WS S) {r f : Nat} (hr : r < 2) (hf : f < 4) (hQ : ∀ h', ch_V h' (sp_set S r (sp_tip (S.2 r), sp_cur (S.2 r), sp_held (S.2 r), sp_wk (S.2 r), sp_up (sp_ix (S.2 r)) f (sp_wk (S.2 r) f))) → xl_fr sp_V29 h h' → Q (some (.int 1)) h') : xm_call L xs (d + 2) m_V_stage [.ref 0, .int (nI r), .int (nI f)] h Q := by
  obtain ⟨g, hg, hg2⟩ := hV.2.1
  obtain ⟨a, ha7⟩ : ∃ a, a = 7 + 4 * r := ⟨_, rfl⟩
  have hR : ch_R h a (S.2 r) := by rw [ha7]; exact hV.2.2.2.1 r hr
  have hH := hV.2.2.1
  have hWR := hS.2 r hr
  obtain ⟨w, hw, hw2⟩ := hR.2.2.2.1
  obtain ⟨x, hx, hx2⟩ := hR.2.2.2.2
  refine x_call (lo := [.ref 0, .int (nI r), .int (nI f), .float 0]) (Nat.le_of_ble_eq_true rfl) rfl ?_
  refine x_iload_n (pc' := 1) d_V_stage_0 rfl rfl ?_
  refine x_static (as := [.int (nI r)]) (r := []) (v := (some (.int 1))) (h' := h) (st' := [.int 1]) (c' := 0) (s' := 0) (pc' := 4) d_V_stage_1 rfl c_V_30 rfl rfl (Nat.le_of_ble_eq_true rfl) (Nat.le_of_ble_eq_true rfl) (Nat.le_of_ble_eq_true rfl) (fun Q' hq => c_V_isRepository1 hr hq) rfl rfl rfl ?_
  refine x_ifeq (t := 14) (pc' := 7) d_V_stage_4 rfl rfl (fun q => absurd q (by decide)) (fun _ => ?_)
  refine x_iload_n (pc' := 8) d_V_stage_7 rfl rfl ?_
  refine x_static (as := [.int (nI f)]) (r := []) (v := (some (.int 1))) (h' := h) (st' := [.int 1]) (c' := 0) (s' := 0) (pc' := 11) d_V_stage_8 rfl c_V_34 rfl rfl (Nat.le_of_ble_eq_true rfl) (Nat.le_of_ble_eq_true rfl) (Nat.le_of_ble_eq_true rfl) (fun Q' hq => c_V_isFile1 hf hq) rfl rfl rfl ?_
  refine x_ifne (t := 16) (pc' := 14) d_V_stage_11 rfl rfl (fun _ => ?_) (fun q => absurd q (by decide))
  refine x_aload_n (pc' := 17) d_V_stage_16 rfl rfl ?_
  refine x_getfield (ci := 3) (i := 1) (v := .ref 6) (pc' := 20) d_V_stage_17 rfl g_V_18 hV.1 rfl ?_
  refine x_iload_n (pc' := 21) d_V_stage_20 rfl rfl ?_
  refine x_aaload (q := a) (pc' := 22) d_V_stage_21 rfl hg (Or.inr rfl) (vp_in_nI hr (by decide)) (by rw [nI_clamp (by omega), hg2 r hr, ha7]) ?_
  refine x_astore_n (lo' := [.ref 0, .int (nI r), .int (nI f), .ref a]) (pc' := 23) d_V_stage_22 rfl (Nat.le_of_ble_eq_true rfl) rfl ?_
  refine x_aload_n (pc' := 24) d_V_stage_23 rfl rfl ?_
  refine x_getfield (ci := 1) (i := 2) (v := .ref (a + 3)) (pc' := 27) d_V_stage_24 rfl g_V_49 hR.2.1 rfl ?_
  refine x_iload_n (pc' := 28) d_V_stage_27 rfl rfl ?_
  refine x_aload_n (pc' := 29) d_V_stage_28 rfl rfl ?_
  refine x_getfield (ci := 1) (i := 1) (v := .ref (a + 2)) (pc' := 32) d_V_stage_29 rfl g_V_37 hR.2.1 rfl ?_
  refine x_iload_n (pc' := 33) d_V_stage_32 rfl rfl ?_
  refine x_laload (v := sp_tv (sp_wk (S.2 r) f)) (pc' := 34) d_V_stage_33 rfl hw (vp_in_nI hf (by decide)) (by rw [nI_clamp (by omega), hw2 f hf]) ?_
  refine x_lastore (h' := (h.set (a + 3) (.inl (.long, 4, .inr (.inl (vp_updL x (nI f).toNatClampNeg (sp_tv (sp_wk (S.2 r) f)))))))) (pc' := 35) d_V_stage_34 rfl hx (vp_in_nI hf (by decide)) rfl ?_
  refine x_iconst (v := 1) (pc' := 36) d_V_stage_35 rfl (by decide) ?_
  exact x_ireturn d_V_stage_36 rfl rfl (hQ _ (ch_V_rep hV hr (xl_set ⟨by omega, by omega⟩) (by rw [← ha7]; exact ch_R_ix hR hx hf _)) (xl_set (by show _ < 29; omega)))
theorem c_V_stage {L : Nat} {xs : Nat → Int32} {d : Nat} {h : xm_H} {Q : xm_Q} {S : sp_S} (hV : ch_V h S) (hS : sp_WS S) {x y : Int32} (hQ : ∀ h', ch_V h' (sp_stage S x y).2 → xl_fr sp_V29 h h' → Q (some (.int (sp_stage S x y).1)) h') : xm_call L xs (d + 2) m_V_stage [.ref 0, .int x, .int y] h Q := by
  rcases sp_in_cases 2 (by decide) x with ⟨_, e⟩ | ⟨_, _, e⟩ | ⟨r, hr, rfl, e⟩
  · have e9 : sp_stage S x y = (0, S) := by unfold sp_stage; rw [e]
    rw [e9] at hQ
    exact c_V_stage_x hV hS e (hQ h hV xl_rf)
  · have e9 : sp_stage S x y = (0, S) := by unfold sp_stage; rw [e]
    rw [e9] at hQ
    exact c_V_stage_x hV hS e (hQ h hV xl_rf)
  · rcases sp_in_cases 4 (by decide) y with ⟨_, e2⟩ | ⟨_, _, e2⟩ | ⟨b, hb, rfl, e2⟩
    · have e9 : sp_stage S (nI r) y = (0, S) := by unfold sp_stage; rw [e, e2]
      rw [e9] at hQ
      exact c_V_stage_y hV hS hr e2 (hQ h hV xl_rf)
    · have e9 : sp_stage S (nI r) y = (0, S) := by unfold sp_stage; rw [e, e2]
      rw [e9] at hQ
      exact c_V_stage_y hV hS hr e2 (hQ h hV xl_rf)
    · have e9 : sp_stage S (nI r) (nI b) = (1, sp_set S r (sp_tip (S.2 r), sp_cur (S.2 r), sp_held (S.2 r), sp_wk (S.2 r), sp_up (sp_ix (S.2 r)) b (sp_wk (S.2 r) b))) := by unfold sp_stage; rw [e, e2]
      rw [e9] at hQ
      exact c_V_stage_z hV hS hr hb hQ
theorem c_V_branch_x {L : Nat} {xs : Nat → Int32} {d : Nat} {h : xm_H} {Q : xm_Q} {S : sp_S} (hV : ch_V h S) (hS : sp_WS S) {x y : Int32} (hx : sp_in 2 x = none) (hQ : Q (some (.int (0))) h) : xm_call L xs (d + 2) m_V_branch [.ref 0, .int x, .int y] h Q := by
  refine x_call (lo := [.ref 0, .int x, .int y, .float 0]) (Nat.le_of_ble_eq_true rfl) rfl ?_
  refine x_iload_n (pc' := 1) d_V_branch_0 rfl rfl ?_
  refine x_static (as := [.int x]) (r := []) (v := (some (.int 0))) (h' := h) (st' := [.int 0]) (c' := 0) (s' := 0) (pc' := 4) d_V_branch_1 rfl c_V_30 rfl rfl (Nat.le_of_ble_eq_true rfl) (Nat.le_of_ble_eq_true rfl) (Nat.le_of_ble_eq_true rfl) (fun Q' hq => c_V_isRepository0 hx hq) rfl rfl rfl ?_
  refine x_ifeq (t := 14) (pc' := 7) d_V_branch_4 rfl rfl (fun _ => ?_) (fun q => absurd rfl q)
  refine x_iconst (v := 0) (pc' := 15) d_V_branch_14 rfl (by decide) ?_
  exact x_ireturn d_V_branch_15 rfl rfl hQ
theorem c_V_branch_y {L : Nat} {xs : Nat → Int32} {d : Nat} {h : xm_H} {Q : xm_Q} {S : sp_S} (hV : ch_V h S) (hS : sp_WS S) {r : Nat} {y : Int32} (hr : r < 2) (hy : sp_in 4 y = none) (hQ : Q (some (.int (0))) h) : xm_call L xs (d + 2) m_V_branch [.ref 0, .int (nI r), .int y] h Q := by
  refine x_call (lo := [.ref 0, .int (nI r), .int y, .float 0]) (Nat.le_of_ble_eq_true rfl) rfl ?_
  refine x_iload_n (pc' := 1) d_V_branch_0 rfl rfl ?_
  refine x_static (as := [.int (nI r)]) (r := []) (v := (some (.int 1))) (h' := h) (st' := [.int 1]) (c' := 0) (s' := 0) (pc' := 4) d_V_branch_1 rfl c_V_30 rfl rfl (Nat.le_of_ble_eq_true rfl) (Nat.le_of_ble_eq_true rfl) (Nat.le_of_ble_eq_true rfl) (fun Q' hq => c_V_isRepository1 hr hq) rfl rfl rfl ?_
  refine x_ifeq (t := 14) (pc' := 7) d_V_branch_4 rfl rfl (fun q => absurd q (by decide)) (fun _ => ?_)
  refine x_iload_n (pc' := 8) d_V_branch_7 rfl rfl ?_
  refine x_static (as := [.int y]) (r := []) (v := (some (.int 0))) (h' := h) (st' := [.int 0]) (c' := 0) (s' := 0) (pc' := 11) d_V_branch_8 rfl c_V_80 rfl rfl (Nat.le_of_ble_eq_true rfl) (Nat.le_of_ble_eq_true rfl) (Nat.le_of_ble_eq_true rfl) (fun Q' hq => c_V_isBranch0 hy hq) rfl rfl rfl ?_
  refine x_ifne (t := 16) (pc' := 14) d_V_branch_11 rfl rfl (fun q => absurd rfl q) (fun _ => ?_)
  refine x_iconst (v := 0) (pc' := 15) d_V_branch_14 rfl (by decide) ?_
  exact x_ireturn d_V_branch_15 rfl rfl hQ
theorem c_V_branch_a {L : Nat} {xs : Nat → Int32} {d : Nat} {h : xm_H} {Q : xm_Q} {S : sp_S} (hV : ch_V h S) (hS : sp_WS S) {r b : Nat} (hr : r < 2) (hb : b < 4) (hn : sp_tip (S.2 r) b ≠ none) (hQ : Q (some (.int 0)) h) : xm_call L xs (d + 2) m_V_branch [.ref 0, .int (nI r), .int (nI b)] h Q := by
  obtain ⟨g, hg, hg2⟩ := hV.2.1
  obtain ⟨a, ha7⟩ : ∃ a, a = 7 + 4 * r := ⟨_, rfl⟩
  have hR : ch_R h a (S.2 r) := by rw [ha7]; exact hV.2.2.2.1 r hr
  have hH := hV.2.2.1
  have hWR := hS.2 r hr
  obtain ⟨t, ht, ht2⟩ := hR.2.2.1
  refine x_call (lo := [.ref 0, .int (nI r), .int (nI b), .float 0]) (Nat.le_of_ble_eq_true rfl) rfl ?_
  refine x_iload_n (pc' := 1) d_V_branch_0 rfl rfl ?_
  refine x_static (as := [.int (nI r)]) (r := []) (v := (some (.int 1))) (h' := h) (st' := [.int 1]) (c' := 0) (s' := 0) (pc' := 4) d_V_branch_1 rfl c_V_30 rfl rfl (Nat.le_of_ble_eq_true rfl) (Nat.le_of_ble_eq_true rfl) (Nat.le_of_ble_eq_true rfl) (fun Q' hq => c_V_isRepository1 hr hq) rfl rfl rfl ?_
  refine x_ifeq (t := 14) (pc' := 7) d_V_branch_4 rfl rfl (fun q => absurd q (by decide)) (fun _ => ?_)
  refine x_iload_n (pc' := 8) d_V_branch_7 rfl rfl ?_
  refine x_static (as := [.int (nI b)]) (r := []) (v := (some (.int 1))) (h' := h) (st' := [.int 1]) (c' := 0) (s' := 0) (pc' := 11) d_V_branch_8 rfl c_V_80 rfl rfl (Nat.le_of_ble_eq_true rfl) (Nat.le_of_ble_eq_true rfl) (Nat.le_of_ble_eq_true rfl) (fun Q' hq => c_V_isBranch1 hb hq) rfl rfl rfl ?_
  refine x_ifne (t := 16) (pc' := 14) d_V_branch_11 rfl rfl (fun _ => ?_) (fun q => absurd q (by decide))
  refine x_aload_n (pc' := 17) d_V_branch_16 rfl rfl ?_
  refine x_getfield (ci := 3) (i := 1) (v := .ref 6) (pc' := 20) d_V_branch_17 rfl g_V_18 hV.1 rfl ?_
  refine x_iload_n (pc' := 21) d_V_branch_20 rfl rfl ?_
  refine x_aaload (q := a) (pc' := 22) d_V_branch_21 rfl hg (Or.inr rfl) (vp_in_nI hr (by decide)) (by rw [nI_clamp (by omega), hg2 r hr, ha7]) ?_
  refine x_astore_n (lo' := [.ref 0, .int (nI r), .int (nI b), .ref a]) (pc' := 23) d_V_branch_22 rfl (Nat.le_of_ble_eq_true rfl) rfl ?_
  refine x_aload_n (pc' := 24) d_V_branch_23 rfl rfl ?_
  refine x_getfield (ci := 1) (i := 0) (v := .ref (a + 1)) (pc' := 27) d_V_branch_24 rfl g_V_72 hR.2.1 rfl ?_
  refine x_iload_n (pc' := 28) d_V_branch_27 rfl rfl ?_
  refine x_iaload (v := sp_vi (sp_tip (S.2 r) b)) (pc' := 29) d_V_branch_28 rfl ht (vp_in_nI hb (by decide)) (by rw [nI_clamp (by omega), ht2 b hb]) ?_
  refine x_bipush (v := (-2)) (pc' := 31) d_V_branch_29 rfl (by decide) ?_
  refine x_icmpne (t := 43) (pc' := 34) d_V_branch_31 rfl rfl (fun _ => ?_) (fun q => absurd q (fun e => absurd ((sp_vi_ge (n := 40) (by decide) (fun k hk => Nat.lt_of_lt_of_le (hWR.2.1 b hb k hk) hS.1.1)).2.mp e) hn))
  refine x_iconst (v := 0) (pc' := 44) d_V_branch_43 rfl (by decide) ?_
  exact x_ireturn d_V_branch_44 rfl rfl hQ
theorem c_V_branch_b {L : Nat} {xs : Nat → Int32} {d : Nat} {h : xm_H} {Q : xm_Q} {S : sp_S} (hV : ch_V h S) (hS : sp_WS S) {r b : Nat} (hr : r < 2) (hb : b < 4) (hn : sp_tip (S.2 r) b = none) (hn2 : sp_head (S.2 r) = none) (hQ : Q (some (.int 0)) h) : xm_call L xs (d + 2) m_V_branch [.ref 0, .int (nI r), .int (nI b)] h Q := by
  obtain ⟨g, hg, hg2⟩ := hV.2.1
  obtain ⟨a, ha7⟩ : ∃ a, a = 7 + 4 * r := ⟨_, rfl⟩
  have hR : ch_R h a (S.2 r) := by rw [ha7]; exact hV.2.2.2.1 r hr
  have hH := hV.2.2.1
  have hWR := hS.2 r hr
  obtain ⟨t, ht, ht2⟩ := hR.2.2.1
  refine x_call (lo := [.ref 0, .int (nI r), .int (nI b), .float 0]) (Nat.le_of_ble_eq_true rfl) rfl ?_
  refine x_iload_n (pc' := 1) d_V_branch_0 rfl rfl ?_
  refine x_static (as := [.int (nI r)]) (r := []) (v := (some (.int 1))) (h' := h) (st' := [.int 1]) (c' := 0) (s' := 0) (pc' := 4) d_V_branch_1 rfl c_V_30 rfl rfl (Nat.le_of_ble_eq_true rfl) (Nat.le_of_ble_eq_true rfl) (Nat.le_of_ble_eq_true rfl) (fun Q' hq => c_V_isRepository1 hr hq) rfl rfl rfl ?_
  refine x_ifeq (t := 14) (pc' := 7) d_V_branch_4 rfl rfl (fun q => absurd q (by decide)) (fun _ => ?_)
  refine x_iload_n (pc' := 8) d_V_branch_7 rfl rfl ?_
  refine x_static (as := [.int (nI b)]) (r := []) (v := (some (.int 1))) (h' := h) (st' := [.int 1]) (c' := 0) (s' := 0) (pc' := 11) d_V_branch_8 rfl c_V_80 rfl rfl (Nat.le_of_ble_eq_true rfl) (Nat.le_of_ble_eq_true rfl) (Nat.le_of_ble_eq_true rfl) (fun Q' hq => c_V_isBranch1 hb hq) rfl rfl rfl ?_
  refine x_ifne (t := 16) (pc' := 14) d_V_branch_11 rfl rfl (fun _ => ?_) (fun q => absurd q (by decide))
  refine x_aload_n (pc' := 17) d_V_branch_16 rfl rfl ?_
  refine x_getfield (ci := 3) (i := 1) (v := .ref 6) (pc' := 20) d_V_branch_17 rfl g_V_18 hV.1 rfl ?_
  refine x_iload_n (pc' := 21) d_V_branch_20 rfl rfl ?_
  refine x_aaload (q := a) (pc' := 22) d_V_branch_21 rfl hg (Or.inr rfl) (vp_in_nI hr (by decide)) (by rw [nI_clamp (by omega), hg2 r hr, ha7]) ?_
  refine x_astore_n (lo' := [.ref 0, .int (nI r), .int (nI b), .ref a]) (pc' := 23) d_V_branch_22 rfl (Nat.le_of_ble_eq_true rfl) rfl ?_
  refine x_aload_n (pc' := 24) d_V_branch_23 rfl rfl ?_
  refine x_getfield (ci := 1) (i := 0) (v := .ref (a + 1)) (pc' := 27) d_V_branch_24 rfl g_V_72 hR.2.1 rfl ?_
  refine x_iload_n (pc' := 28) d_V_branch_27 rfl rfl ?_
  refine x_iaload (v := sp_vi (sp_tip (S.2 r) b)) (pc' := 29) d_V_branch_28 rfl ht (vp_in_nI hb (by decide)) (by rw [nI_clamp (by omega), ht2 b hb]) ?_
  refine x_bipush (v := (-2)) (pc' := 31) d_V_branch_29 rfl (by decide) ?_
  refine x_icmpne (t := 43) (pc' := 34) d_V_branch_31 rfl rfl (fun q => absurd (by rw [hn]; rfl) q) (fun _ => ?_)
  refine x_aload_n (pc' := 35) d_V_branch_34 rfl rfl ?_
  refine x_virtual (a := a) (as := []) (r := []) (v := (some (.int (sp_vi (sp_head (S.2 r)))))) (h' := h) (st' := [.int (sp_vi (sp_head (S.2 r)))]) (c' := 0) (s' := 0) (pc' := 38) d_V_branch_35 rfl c_V_52 hR.2.1 rfl rfl (Nat.le_of_ble_eq_true rfl) (Nat.le_of_ble_eq_true rfl) (Nat.le_of_ble_eq_true rfl) (fun Q' hq => c_R_head hR hq) rfl rfl rfl ?_
  refine x_bipush (v := (-2)) (pc' := 40) d_V_branch_38 rfl (by decide) ?_
  refine x_icmpne (t := 45) (pc' := 43) d_V_branch_40 rfl rfl (fun q => absurd (by rw [hn2]; rfl) q) (fun _ => ?_)
  refine x_iconst (v := 0) (pc' := 44) d_V_branch_43 rfl (by decide) ?_
  exact x_ireturn d_V_branch_44 rfl rfl hQ
theorem c_V_branch_c {L : Nat} {xs : Nat → Int32} {d : Nat} {h : xm_H} {Q : xm_Q} {S : sp_S} (hV : ch_V h S) (hS : sp_WS S) {r b : Nat} (hr : r < 2) (hb : b < 4) (hn : sp_tip (S.2 r) b = none) (hn2 : sp_head (S.2 r) ≠ none) (hQ : ∀ h', ch_V h' (sp_set S r (sp_up (sp_tip (S.2 r)) b (sp_head (S.2 r)), sp_cur (S.2 r), sp_held (S.2 r), sp_wk (S.2 r), sp_ix (S.2 r))) → xl_fr sp_V29 h h' → Q (some (.int 1)) h') : xm_call L xs (d + 2) m_V_branch [.ref 0, .int (nI r), .int (nI b)] h Q := by
  obtain ⟨g, hg, hg2⟩ := hV.2.1
  obtain ⟨a, ha7⟩ : ∃ a, a = 7 + 4 * r := ⟨_, rfl⟩
  have hR : ch_R h a (S.2 r) := by rw [ha7]; exact hV.2.2.2.1 r hr
  have hH := hV.2.2.1
  have hWR := hS.2 r hr
  obtain ⟨t, ht, ht2⟩ := hR.2.2.1
  refine x_call (lo := [.ref 0, .int (nI r), .int (nI b), .float 0]) (Nat.le_of_ble_eq_true rfl) rfl ?_
  refine x_iload_n (pc' := 1) d_V_branch_0 rfl rfl ?_
  refine x_static (as := [.int (nI r)]) (r := []) (v := (some (.int 1))) (h' := h) (st' := [.int 1]) (c' := 0) (s' := 0) (pc' := 4) d_V_branch_1 rfl c_V_30 rfl rfl (Nat.le_of_ble_eq_true rfl) (Nat.le_of_ble_eq_true rfl) (Nat.le_of_ble_eq_true rfl) (fun Q' hq => c_V_isRepository1 hr hq) rfl rfl rfl ?_
  refine x_ifeq (t := 14) (pc' := 7) d_V_branch_4 rfl rfl (fun q => absurd q (by decide)) (fun _ => ?_)
  refine x_iload_n (pc' := 8) d_V_branch_7 rfl rfl ?_
  refine x_static (as := [.int (nI b)]) (r := []) (v := (some (.int 1))) (h' := h) (st' := [.int 1]) (c' := 0) (s' := 0) (pc' := 11) d_V_branch_8 rfl c_V_80 rfl rfl (Nat.le_of_ble_eq_true rfl) (Nat.le_of_ble_eq_true rfl) (Nat.le_of_ble_eq_true rfl) (fun Q' hq => c_V_isBranch1 hb hq) rfl rfl rfl ?_
  refine x_ifne (t := 16) (pc' := 14) d_V_branch_11 rfl rfl (fun _ => ?_) (fun q => absurd q (by decide))
  refine x_aload_n (pc' := 17) d_V_branch_16 rfl rfl ?_
  refine x_getfield (ci := 3) (i := 1) (v := .ref 6) (pc' := 20) d_V_branch_17 rfl g_V_18 hV.1 rfl ?_
  refine x_iload_n (pc' := 21) d_V_branch_20 rfl rfl ?_
  refine x_aaload (q := a) (pc' := 22) d_V_branch_21 rfl hg (Or.inr rfl) (vp_in_nI hr (by decide)) (by rw [nI_clamp (by omega), hg2 r hr, ha7]) ?_
  refine x_astore_n (lo' := [.ref 0, .int (nI r), .int (nI b), .ref a]) (pc' := 23) d_V_branch_22 rfl (Nat.le_of_ble_eq_true rfl) rfl ?_
  refine x_aload_n (pc' := 24) d_V_branch_23 rfl rfl ?_
  refine x_getfield (ci := 1) (i := 0) (v := .ref (a + 1)) (pc' := 27) d_V_branch_24 rfl g_V_72 hR.2.1 rfl ?_
  refine x_iload_n (pc' := 28) d_V_branch_27 rfl rfl ?_
  refine x_iaload (v := sp_vi (sp_tip (S.2 r) b)) (pc' := 29) d_V_branch_28 rfl ht (vp_in_nI hb (by decide)) (by rw [nI_clamp (by omega), ht2 b hb]) ?_
  refine x_bipush (v := (-2)) (pc' := 31) d_V_branch_29 rfl (by decide) ?_
  refine x_icmpne (t := 43) (pc' := 34) d_V_branch_31 rfl rfl (fun q => absurd (by rw [hn]; rfl) q) (fun _ => ?_)
  refine x_aload_n (pc' := 35) d_V_branch_34 rfl rfl ?_
  refine x_virtual (a := a) (as := []) (r := []) (v := (some (.int (sp_vi (sp_head (S.2 r)))))) (h' := h) (st' := [.int (sp_vi (sp_head (S.2 r)))]) (c' := 0) (s' := 0) (pc' := 38) d_V_branch_35 rfl c_V_52 hR.2.1 rfl rfl (Nat.le_of_ble_eq_true rfl) (Nat.le_of_ble_eq_true rfl) (Nat.le_of_ble_eq_true rfl) (fun Q' hq => c_R_head hR hq) rfl rfl rfl ?_
  refine x_bipush (v := (-2)) (pc' := 40) d_V_branch_38 rfl (by decide) ?_
  refine x_icmpne (t := 45) (pc' := 43) d_V_branch_40 rfl rfl (fun _ => ?_) (fun q => absurd q (fun e => absurd ((sp_vi_ge (n := 40) (by decide) (fun k hk => Nat.lt_of_lt_of_le (hWR.2.1 _ hWR.1 k hk) hS.1.1)).2.mp e) hn2))
  refine x_aload_n (pc' := 46) d_V_branch_45 rfl rfl ?_
  refine x_getfield (ci := 1) (i := 0) (v := .ref (a + 1)) (pc' := 49) d_V_branch_46 rfl g_V_72 hR.2.1 rfl ?_
  refine x_iload_n (pc' := 50) d_V_branch_49 rfl rfl ?_
  refine x_aload_n (pc' := 51) d_V_branch_50 rfl rfl ?_
  refine x_virtual (a := a) (as := []) (r := [.int (nI b), .ref (a + 1)]) (v := (some (.int (sp_vi (sp_head (S.2 r)))))) (h' := h) (st' := [.int (sp_vi (sp_head (S.2 r))), .int (nI b), .ref (a + 1)]) (c' := 0) (s' := 0) (pc' := 54) d_V_branch_51 rfl c_V_52 hR.2.1 rfl rfl (Nat.le_of_ble_eq_true rfl) (Nat.le_of_ble_eq_true rfl) (Nat.le_of_ble_eq_true rfl) (fun Q' hq => c_R_head hR hq) rfl rfl rfl ?_
  refine x_iastore (h' := (h.set (a + 1) (.inl (.int, 4, .inl (upd t (nI b).toNatClampNeg (sp_vi (sp_head (S.2 r)))))))) (pc' := 55) d_V_branch_54 rfl ht (vp_in_nI hb (by decide)) rfl ?_
  refine x_iconst (v := 1) (pc' := 56) d_V_branch_55 rfl (by decide) ?_
  exact x_ireturn d_V_branch_56 rfl rfl (hQ _ (ch_V_rep hV hr (xl_set ⟨by omega, by omega⟩) (by rw [← ha7]; exact ch_R_tip hR ht hb _)) (xl_set (by show _ < 29; omega)))
theorem c_V_branch {L : Nat} {xs : Nat → Int32} {d : Nat} {h : xm_H} {Q : xm_Q} {S : sp_S} (hV : ch_V h S) (hS : sp_WS S) {x y : Int32} (hQ : ∀ h', ch_V h' (sp_branch S x y).2 → xl_fr sp_V29 h h' → Q (some (.int (sp_branch S x y).1)) h') : xm_call L xs (d + 2) m_V_branch [.ref 0, .int x, .int y] h Q := by
  rcases sp_in_cases 2 (by decide) x with ⟨_, e⟩ | ⟨_, _, e⟩ | ⟨r, hr, rfl, e⟩
  · have e9 : sp_branch S x y = (0, S) := by unfold sp_branch; rw [e]
    rw [e9] at hQ
    exact c_V_branch_x hV hS e (hQ h hV xl_rf)
  · have e9 : sp_branch S x y = (0, S) := by unfold sp_branch; rw [e]
    rw [e9] at hQ
    exact c_V_branch_x hV hS e (hQ h hV xl_rf)
  · rcases sp_in_cases 4 (by decide) y with ⟨_, e2⟩ | ⟨_, _, e2⟩ | ⟨b, hb, rfl, e2⟩
    · have e9 : sp_branch S (nI r) y = (0, S) := by unfold sp_branch; rw [e, e2]
      rw [e9] at hQ
      exact c_V_branch_y hV hS hr e2 (hQ h hV xl_rf)
    · have e9 : sp_branch S (nI r) y = (0, S) := by unfold sp_branch; rw [e, e2]
      rw [e9] at hQ
      exact c_V_branch_y hV hS hr e2 (hQ h hV xl_rf)
    · have e9 : sp_branch S (nI r) (nI b) = if sp_tip (S.2 r) b ≠ none ∨ sp_head (S.2 r) = none then (0, S) else (1, sp_set S r (sp_up (sp_tip (S.2 r)) b (sp_head (S.2 r)), sp_cur (S.2 r), sp_held (S.2 r), sp_wk (S.2 r), sp_ix (S.2 r))) := by unfold sp_branch; rw [e, e2]
      rw [e9] at hQ
      by_cases h1 : sp_tip (S.2 r) b = none
      · by_cases h2 : sp_head (S.2 r) = none
        · rw [if_pos (Or.inr h2)] at hQ
          exact c_V_branch_b hV hS hr hb h1 h2 (hQ h hV xl_rf)
        · rw [if_neg (by rintro (z | z); exact z h1; exact h2 z)] at hQ
          exact c_V_branch_c hV hS hr hb h1 h2 hQ
      · rw [if_pos (Or.inl h1)] at hQ
        exact c_V_branch_a hV hS hr hb h1 (hQ h hV xl_rf)
theorem c_V_drop_x {L : Nat} {xs : Nat → Int32} {d : Nat} {h : xm_H} {Q : xm_Q} {S : sp_S} (hV : ch_V h S) (hS : sp_WS S) {x y : Int32} (hx : sp_in 2 x = none) (hQ : Q (some (.int (0))) h) : xm_call L xs (d + 2) m_V_drop [.ref 0, .int x, .int y] h Q := by
  refine x_call (lo := [.ref 0, .int x, .int y, .float 0]) (Nat.le_of_ble_eq_true rfl) rfl ?_
  refine x_iload_n (pc' := 1) d_V_drop_0 rfl rfl ?_
  refine x_static (as := [.int x]) (r := []) (v := (some (.int 0))) (h' := h) (st' := [.int 0]) (c' := 0) (s' := 0) (pc' := 4) d_V_drop_1 rfl c_V_30 rfl rfl (Nat.le_of_ble_eq_true rfl) (Nat.le_of_ble_eq_true rfl) (Nat.le_of_ble_eq_true rfl) (fun Q' hq => c_V_isRepository0 hx hq) rfl rfl rfl ?_
  refine x_ifeq (t := 14) (pc' := 7) d_V_drop_4 rfl rfl (fun _ => ?_) (fun q => absurd rfl q)
  refine x_iconst (v := 0) (pc' := 15) d_V_drop_14 rfl (by decide) ?_
  exact x_ireturn d_V_drop_15 rfl rfl hQ
theorem c_V_drop_y {L : Nat} {xs : Nat → Int32} {d : Nat} {h : xm_H} {Q : xm_Q} {S : sp_S} (hV : ch_V h S) (hS : sp_WS S) {r : Nat} {y : Int32} (hr : r < 2) (hy : sp_in 4 y = none) (hQ : Q (some (.int (0))) h) : xm_call L xs (d + 2) m_V_drop [.ref 0, .int (nI r), .int y] h Q := by
  refine x_call (lo := [.ref 0, .int (nI r), .int y, .float 0]) (Nat.le_of_ble_eq_true rfl) rfl ?_
  refine x_iload_n (pc' := 1) d_V_drop_0 rfl rfl ?_
  refine x_static (as := [.int (nI r)]) (r := []) (v := (some (.int 1))) (h' := h) (st' := [.int 1]) (c' := 0) (s' := 0) (pc' := 4) d_V_drop_1 rfl c_V_30 rfl rfl (Nat.le_of_ble_eq_true rfl) (Nat.le_of_ble_eq_true rfl) (Nat.le_of_ble_eq_true rfl) (fun Q' hq => c_V_isRepository1 hr hq) rfl rfl rfl ?_
  refine x_ifeq (t := 14) (pc' := 7) d_V_drop_4 rfl rfl (fun q => absurd q (by decide)) (fun _ => ?_)
  refine x_iload_n (pc' := 8) d_V_drop_7 rfl rfl ?_
  refine x_static (as := [.int y]) (r := []) (v := (some (.int 0))) (h' := h) (st' := [.int 0]) (c' := 0) (s' := 0) (pc' := 11) d_V_drop_8 rfl c_V_80 rfl rfl (Nat.le_of_ble_eq_true rfl) (Nat.le_of_ble_eq_true rfl) (Nat.le_of_ble_eq_true rfl) (fun Q' hq => c_V_isBranch0 hy hq) rfl rfl rfl ?_
  refine x_ifne (t := 16) (pc' := 14) d_V_drop_11 rfl rfl (fun q => absurd rfl q) (fun _ => ?_)
  refine x_iconst (v := 0) (pc' := 15) d_V_drop_14 rfl (by decide) ?_
  exact x_ireturn d_V_drop_15 rfl rfl hQ
theorem c_V_drop_a {L : Nat} {xs : Nat → Int32} {d : Nat} {h : xm_H} {Q : xm_Q} {S : sp_S} (hV : ch_V h S) (hS : sp_WS S) {r b : Nat} (hr : r < 2) (hb : b < 4) (hn : sp_tip (S.2 r) b = none) (hQ : Q (some (.int 0)) h) : xm_call L xs (d + 2) m_V_drop [.ref 0, .int (nI r), .int (nI b)] h Q := by
  obtain ⟨g, hg, hg2⟩ := hV.2.1
  obtain ⟨a, ha7⟩ : ∃ a, a = 7 + 4 * r := ⟨_, rfl⟩
  have hR : ch_R h a (S.2 r) := by rw [ha7]; exact hV.2.2.2.1 r hr
  have hH := hV.2.2.1
  have hWR := hS.2 r hr
  obtain ⟨t, ht, ht2⟩ := hR.2.2.1
  refine x_call (lo := [.ref 0, .int (nI r), .int (nI b), .float 0]) (Nat.le_of_ble_eq_true rfl) rfl ?_
  refine x_iload_n (pc' := 1) d_V_drop_0 rfl rfl ?_
  refine x_static (as := [.int (nI r)]) (r := []) (v := (some (.int 1))) (h' := h) (st' := [.int 1]) (c' := 0) (s' := 0) (pc' := 4) d_V_drop_1 rfl c_V_30 rfl rfl (Nat.le_of_ble_eq_true rfl) (Nat.le_of_ble_eq_true rfl) (Nat.le_of_ble_eq_true rfl) (fun Q' hq => c_V_isRepository1 hr hq) rfl rfl rfl ?_
  refine x_ifeq (t := 14) (pc' := 7) d_V_drop_4 rfl rfl (fun q => absurd q (by decide)) (fun _ => ?_)
  refine x_iload_n (pc' := 8) d_V_drop_7 rfl rfl ?_
  refine x_static (as := [.int (nI b)]) (r := []) (v := (some (.int 1))) (h' := h) (st' := [.int 1]) (c' := 0) (s' := 0) (pc' := 11) d_V_drop_8 rfl c_V_80 rfl rfl (Nat.le_of_ble_eq_true rfl) (Nat.le_of_ble_eq_true rfl) (Nat.le_of_ble_eq_true rfl) (fun Q' hq => c_V_isBranch1 hb hq) rfl rfl rfl ?_
  refine x_ifne (t := 16) (pc' := 14) d_V_drop_11 rfl rfl (fun _ => ?_) (fun q => absurd q (by decide))
  refine x_aload_n (pc' := 17) d_V_drop_16 rfl rfl ?_
  refine x_getfield (ci := 3) (i := 1) (v := .ref 6) (pc' := 20) d_V_drop_17 rfl g_V_18 hV.1 rfl ?_
  refine x_iload_n (pc' := 21) d_V_drop_20 rfl rfl ?_
  refine x_aaload (q := a) (pc' := 22) d_V_drop_21 rfl hg (Or.inr rfl) (vp_in_nI hr (by decide)) (by rw [nI_clamp (by omega), hg2 r hr, ha7]) ?_
  refine x_astore_n (lo' := [.ref 0, .int (nI r), .int (nI b), .ref a]) (pc' := 23) d_V_drop_22 rfl (Nat.le_of_ble_eq_true rfl) rfl ?_
  refine x_aload_n (pc' := 24) d_V_drop_23 rfl rfl ?_
  refine x_getfield (ci := 1) (i := 0) (v := .ref (a + 1)) (pc' := 27) d_V_drop_24 rfl g_V_72 hR.2.1 rfl ?_
  refine x_iload_n (pc' := 28) d_V_drop_27 rfl rfl ?_
  refine x_iaload (v := sp_vi (sp_tip (S.2 r) b)) (pc' := 29) d_V_drop_28 rfl ht (vp_in_nI hb (by decide)) (by rw [nI_clamp (by omega), ht2 b hb]) ?_
  refine x_bipush (v := (-2)) (pc' := 31) d_V_drop_29 rfl (by decide) ?_
  refine x_icmpeq (t := 42) (pc' := 34) d_V_drop_31 rfl rfl (fun _ => ?_) (fun q => absurd (by rw [hn]; rfl) q)
  refine x_iconst (v := 0) (pc' := 43) d_V_drop_42 rfl (by decide) ?_
  exact x_ireturn d_V_drop_43 rfl rfl hQ
theorem c_V_drop_b {L : Nat} {xs : Nat → Int32} {d : Nat} {h : xm_H} {Q : xm_Q} {S : sp_S} (hV : ch_V h S) (hS : sp_WS S) {r b : Nat} (hr : r < 2) (hb : b < 4) (hn : sp_tip (S.2 r) b ≠ none) (hc : sp_cur (S.2 r) = b) (hQ : Q (some (.int 0)) h) : xm_call L xs (d + 2) m_V_drop [.ref 0, .int (nI r), .int (nI b)] h Q := by
  obtain ⟨g, hg, hg2⟩ := hV.2.1
  obtain ⟨a, ha7⟩ : ∃ a, a = 7 + 4 * r := ⟨_, rfl⟩
  have hR : ch_R h a (S.2 r) := by rw [ha7]; exact hV.2.2.2.1 r hr
  have hH := hV.2.2.1
  have hWR := hS.2 r hr
  obtain ⟨t, ht, ht2⟩ := hR.2.2.1
  refine x_call (lo := [.ref 0, .int (nI r), .int (nI b), .float 0]) (Nat.le_of_ble_eq_true rfl) rfl ?_
  refine x_iload_n (pc' := 1) d_V_drop_0 rfl rfl ?_
  refine x_static (as := [.int (nI r)]) (r := []) (v := (some (.int 1))) (h' := h) (st' := [.int 1]) (c' := 0) (s' := 0) (pc' := 4) d_V_drop_1 rfl c_V_30 rfl rfl (Nat.le_of_ble_eq_true rfl) (Nat.le_of_ble_eq_true rfl) (Nat.le_of_ble_eq_true rfl) (fun Q' hq => c_V_isRepository1 hr hq) rfl rfl rfl ?_
  refine x_ifeq (t := 14) (pc' := 7) d_V_drop_4 rfl rfl (fun q => absurd q (by decide)) (fun _ => ?_)
  refine x_iload_n (pc' := 8) d_V_drop_7 rfl rfl ?_
  refine x_static (as := [.int (nI b)]) (r := []) (v := (some (.int 1))) (h' := h) (st' := [.int 1]) (c' := 0) (s' := 0) (pc' := 11) d_V_drop_8 rfl c_V_80 rfl rfl (Nat.le_of_ble_eq_true rfl) (Nat.le_of_ble_eq_true rfl) (Nat.le_of_ble_eq_true rfl) (fun Q' hq => c_V_isBranch1 hb hq) rfl rfl rfl ?_
  refine x_ifne (t := 16) (pc' := 14) d_V_drop_11 rfl rfl (fun _ => ?_) (fun q => absurd q (by decide))
  refine x_aload_n (pc' := 17) d_V_drop_16 rfl rfl ?_
  refine x_getfield (ci := 3) (i := 1) (v := .ref 6) (pc' := 20) d_V_drop_17 rfl g_V_18 hV.1 rfl ?_
  refine x_iload_n (pc' := 21) d_V_drop_20 rfl rfl ?_
  refine x_aaload (q := a) (pc' := 22) d_V_drop_21 rfl hg (Or.inr rfl) (vp_in_nI hr (by decide)) (by rw [nI_clamp (by omega), hg2 r hr, ha7]) ?_
  refine x_astore_n (lo' := [.ref 0, .int (nI r), .int (nI b), .ref a]) (pc' := 23) d_V_drop_22 rfl (Nat.le_of_ble_eq_true rfl) rfl ?_
  refine x_aload_n (pc' := 24) d_V_drop_23 rfl rfl ?_
  refine x_getfield (ci := 1) (i := 0) (v := .ref (a + 1)) (pc' := 27) d_V_drop_24 rfl g_V_72 hR.2.1 rfl ?_
  refine x_iload_n (pc' := 28) d_V_drop_27 rfl rfl ?_
  refine x_iaload (v := sp_vi (sp_tip (S.2 r) b)) (pc' := 29) d_V_drop_28 rfl ht (vp_in_nI hb (by decide)) (by rw [nI_clamp (by omega), ht2 b hb]) ?_
  refine x_bipush (v := (-2)) (pc' := 31) d_V_drop_29 rfl (by decide) ?_
  refine x_icmpeq (t := 42) (pc' := 34) d_V_drop_31 rfl rfl (fun q => absurd q (fun e => absurd ((sp_vi_ge (n := 40) (by decide) (fun k hk => Nat.lt_of_lt_of_le (hWR.2.1 b hb k hk) hS.1.1)).2.mp e) hn)) (fun _ => ?_)
  refine x_aload_n (pc' := 35) d_V_drop_34 rfl rfl ?_
  refine x_getfield (ci := 1) (i := 4) (v := .int (nI (sp_cur (S.2 r)))) (pc' := 38) d_V_drop_35 rfl g_V_76 hR.2.1 rfl ?_
  refine x_iload_n (pc' := 39) d_V_drop_38 rfl rfl ?_
  refine x_icmpne (t := 44) (pc' := 42) d_V_drop_39 rfl rfl (fun q => absurd (by rw [hc]) q) (fun _ => ?_)
  refine x_iconst (v := 0) (pc' := 43) d_V_drop_42 rfl (by decide) ?_
  exact x_ireturn d_V_drop_43 rfl rfl hQ
theorem c_V_drop_c {L : Nat} {xs : Nat → Int32} {d : Nat} {h : xm_H} {Q : xm_Q} {S : sp_S} (hV : ch_V h S) (hS : sp_WS S) {r b : Nat} (hr : r < 2) (hb : b < 4) (hn : sp_tip (S.2 r) b ≠ none) (hc : ¬ sp_cur (S.2 r) = b) (hQ : ∀ h', ch_V h' (sp_set S r (sp_up (sp_tip (S.2 r)) b none, sp_cur (S.2 r), sp_held (S.2 r), sp_wk (S.2 r), sp_ix (S.2 r))) → xl_fr sp_V29 h h' → Q (some (.int 1)) h') : xm_call L xs (d + 2) m_V_drop [.ref 0, .int (nI r), .int (nI b)] h Q := by
  obtain ⟨g, hg, hg2⟩ := hV.2.1
  obtain ⟨a, ha7⟩ : ∃ a, a = 7 + 4 * r := ⟨_, rfl⟩
  have hR : ch_R h a (S.2 r) := by rw [ha7]; exact hV.2.2.2.1 r hr
  have hH := hV.2.2.1
  have hWR := hS.2 r hr
  obtain ⟨t, ht, ht2⟩ := hR.2.2.1
  refine x_call (lo := [.ref 0, .int (nI r), .int (nI b), .float 0]) (Nat.le_of_ble_eq_true rfl) rfl ?_
  refine x_iload_n (pc' := 1) d_V_drop_0 rfl rfl ?_
  refine x_static (as := [.int (nI r)]) (r := []) (v := (some (.int 1))) (h' := h) (st' := [.int 1]) (c' := 0) (s' := 0) (pc' := 4) d_V_drop_1 rfl c_V_30 rfl rfl (Nat.le_of_ble_eq_true rfl) (Nat.le_of_ble_eq_true rfl) (Nat.le_of_ble_eq_true rfl) (fun Q' hq => c_V_isRepository1 hr hq) rfl rfl rfl ?_
  refine x_ifeq (t := 14) (pc' := 7) d_V_drop_4 rfl rfl (fun q => absurd q (by decide)) (fun _ => ?_)
  refine x_iload_n (pc' := 8) d_V_drop_7 rfl rfl ?_
  refine x_static (as := [.int (nI b)]) (r := []) (v := (some (.int 1))) (h' := h) (st' := [.int 1]) (c' := 0) (s' := 0) (pc' := 11) d_V_drop_8 rfl c_V_80 rfl rfl (Nat.le_of_ble_eq_true rfl) (Nat.le_of_ble_eq_true rfl) (Nat.le_of_ble_eq_true rfl) (fun Q' hq => c_V_isBranch1 hb hq) rfl rfl rfl ?_
  refine x_ifne (t := 16) (pc' := 14) d_V_drop_11 rfl rfl (fun _ => ?_) (fun q => absurd q (by decide))
  refine x_aload_n (pc' := 17) d_V_drop_16 rfl rfl ?_
  refine x_getfield (ci := 3) (i := 1) (v := .ref 6) (pc' := 20) d_V_drop_17 rfl g_V_18 hV.1 rfl ?_
  refine x_iload_n (pc' := 21) d_V_drop_20 rfl rfl ?_
  refine x_aaload (q := a) (pc' := 22) d_V_drop_21 rfl hg (Or.inr rfl) (vp_in_nI hr (by decide)) (by rw [nI_clamp (by omega), hg2 r hr, ha7]) ?_
  refine x_astore_n (lo' := [.ref 0, .int (nI r), .int (nI b), .ref a]) (pc' := 23) d_V_drop_22 rfl (Nat.le_of_ble_eq_true rfl) rfl ?_
  refine x_aload_n (pc' := 24) d_V_drop_23 rfl rfl ?_
  refine x_getfield (ci := 1) (i := 0) (v := .ref (a + 1)) (pc' := 27) d_V_drop_24 rfl g_V_72 hR.2.1 rfl ?_
  refine x_iload_n (pc' := 28) d_V_drop_27 rfl rfl ?_
  refine x_iaload (v := sp_vi (sp_tip (S.2 r) b)) (pc' := 29) d_V_drop_28 rfl ht (vp_in_nI hb (by decide)) (by rw [nI_clamp (by omega), ht2 b hb]) ?_
  refine x_bipush (v := (-2)) (pc' := 31) d_V_drop_29 rfl (by decide) ?_
  refine x_icmpeq (t := 42) (pc' := 34) d_V_drop_31 rfl rfl (fun q => absurd q (fun e => absurd ((sp_vi_ge (n := 40) (by decide) (fun k hk => Nat.lt_of_lt_of_le (hWR.2.1 b hb k hk) hS.1.1)).2.mp e) hn)) (fun _ => ?_)
  refine x_aload_n (pc' := 35) d_V_drop_34 rfl rfl ?_
  refine x_getfield (ci := 1) (i := 4) (v := .int (nI (sp_cur (S.2 r)))) (pc' := 38) d_V_drop_35 rfl g_V_76 hR.2.1 rfl ?_
  refine x_iload_n (pc' := 39) d_V_drop_38 rfl rfl ?_
  refine x_icmpne (t := 44) (pc' := 42) d_V_drop_39 rfl rfl (fun _ => ?_) (fun q => absurd q (fun e => hc (sp_nI_inj (by have := hWR.1; omega) (by omega) e)))
  refine x_aload_n (pc' := 45) d_V_drop_44 rfl rfl ?_
  refine x_getfield (ci := 1) (i := 0) (v := .ref (a + 1)) (pc' := 48) d_V_drop_45 rfl g_V_72 hR.2.1 rfl ?_
  refine x_iload_n (pc' := 49) d_V_drop_48 rfl rfl ?_
  refine x_bipush (v := sp_vi none) (pc' := 51) d_V_drop_49 rfl (by decide) ?_
  refine x_iastore (h' := (h.set (a + 1) (.inl (.int, 4, .inl (upd t (nI b).toNatClampNeg (sp_vi none)))))) (pc' := 52) d_V_drop_51 rfl ht (vp_in_nI hb (by decide)) rfl ?_
  refine x_iconst (v := 1) (pc' := 53) d_V_drop_52 rfl (by decide) ?_
  exact x_ireturn d_V_drop_53 rfl rfl (hQ _ (ch_V_rep hV hr (xl_set ⟨by omega, by omega⟩) (by rw [← ha7]; exact ch_R_tip hR ht hb none)) (xl_set (by show _ < 29; omega)))
theorem c_V_drop {L : Nat} {xs : Nat → Int32} {d : Nat} {h : xm_H} {Q : xm_Q} {S : sp_S} (hV : ch_V h S) (hS : sp_WS S) {x y : Int32} (hQ : ∀ h', ch_V h' (sp_drop S x y).2 → xl_fr sp_V29 h h' → Q (some (.int (sp_drop S x y).1)) h') : xm_call L xs (d + 2) m_V_drop [.ref 0, .int x, .int y] h Q := by
  rcases sp_in_cases 2 (by decide) x with ⟨_, e⟩ | ⟨_, _, e⟩ | ⟨r, hr, rfl, e⟩
  · have e9 : sp_drop S x y = (0, S) := by unfold sp_drop; rw [e]
    rw [e9] at hQ
    exact c_V_drop_x hV hS e (hQ h hV xl_rf)
  · have e9 : sp_drop S x y = (0, S) := by unfold sp_drop; rw [e]
    rw [e9] at hQ
    exact c_V_drop_x hV hS e (hQ h hV xl_rf)
  · rcases sp_in_cases 4 (by decide) y with ⟨_, e2⟩ | ⟨_, _, e2⟩ | ⟨b, hb, rfl, e2⟩
    · have e9 : sp_drop S (nI r) y = (0, S) := by unfold sp_drop; rw [e, e2]
      rw [e9] at hQ
      exact c_V_drop_y hV hS hr e2 (hQ h hV xl_rf)
    · have e9 : sp_drop S (nI r) y = (0, S) := by unfold sp_drop; rw [e, e2]
      rw [e9] at hQ
      exact c_V_drop_y hV hS hr e2 (hQ h hV xl_rf)
    · have e9 : sp_drop S (nI r) (nI b) = if sp_tip (S.2 r) b = none ∨ sp_cur (S.2 r) = b then (0, S) else (1, sp_set S r (sp_up (sp_tip (S.2 r)) b none, sp_cur (S.2 r), sp_held (S.2 r), sp_wk (S.2 r), sp_ix (S.2 r))) := by unfold sp_drop; rw [e, e2]
      rw [e9] at hQ
      by_cases h1 : sp_tip (S.2 r) b = none
      · rw [if_pos (Or.inl h1)] at hQ
        exact c_V_drop_a hV hS hr hb h1 (hQ h hV xl_rf)
      · by_cases h2 : sp_cur (S.2 r) = b
        · rw [if_pos (Or.inr h2)] at hQ
          exact c_V_drop_b hV hS hr hb h1 h2 (hQ h hV xl_rf)
        · rw [if_neg (by rintro (z | z); exact h1 z; exact h2 z)] at hQ
          exact c_V_drop_c hV hS hr hb h1 h2 hQ
theorem c_V_write_x {L : Nat} {xs : Nat → Int32} {d : Nat} {h : xm_H} {Q : xm_Q} {S : sp_S} (hV : ch_V h S) (hS : sp_WS S) {m : Nat} {x y z : Int32} (hx : sp_in 2 x = none) (hQ : Q (some (.int 0)) h) : xm_call L xs (d + 2) m_V_write [.ref 0, .int x, .int y, .long (lN m), .int z] h Q := by
  refine x_call (lo := [.ref 0, .int x, .int y, .long (lN m), .float 0, .int z]) (Nat.le_of_ble_eq_true rfl) rfl ?_
  refine x_iload_n (pc' := 1) d_V_write_0 rfl rfl ?_
  refine x_static (as := [.int x]) (r := []) (v := (some (.int 0))) (h' := h) (st' := [.int 0]) (c' := 0) (s' := 0) (pc' := 4) d_V_write_1 rfl c_V_30 rfl rfl (Nat.le_of_ble_eq_true rfl) (Nat.le_of_ble_eq_true rfl) (Nat.le_of_ble_eq_true rfl) (fun Q' hq => c_V_isRepository0 hx hq) rfl rfl rfl ?_
  refine x_ifeq (t := 26) (pc' := 7) d_V_write_4 rfl rfl (fun _ => ?_) (fun q => absurd rfl q)
  refine x_iconst (v := 0) (pc' := 27) d_V_write_26 rfl (by decide) ?_
  exact x_ireturn d_V_write_27 rfl rfl hQ
theorem c_V_write_y {L : Nat} {xs : Nat → Int32} {d : Nat} {h : xm_H} {Q : xm_Q} {S : sp_S} (hV : ch_V h S) (hS : sp_WS S) {m : Nat} {r : Nat} {y z : Int32} (hr : r < 2) (hy : sp_in 4 y = none) (hQ : Q (some (.int 0)) h) : xm_call L xs (d + 2) m_V_write [.ref 0, .int (nI r), .int y, .long (lN m), .int z] h Q := by
  refine x_call (lo := [.ref 0, .int (nI r), .int y, .long (lN m), .float 0, .int z]) (Nat.le_of_ble_eq_true rfl) rfl ?_
  refine x_iload_n (pc' := 1) d_V_write_0 rfl rfl ?_
  refine x_static (as := [.int (nI r)]) (r := []) (v := (some (.int 1))) (h' := h) (st' := [.int 1]) (c' := 0) (s' := 0) (pc' := 4) d_V_write_1 rfl c_V_30 rfl rfl (Nat.le_of_ble_eq_true rfl) (Nat.le_of_ble_eq_true rfl) (Nat.le_of_ble_eq_true rfl) (fun Q' hq => c_V_isRepository1 hr hq) rfl rfl rfl ?_
  refine x_ifeq (t := 26) (pc' := 7) d_V_write_4 rfl rfl (fun q => absurd q (by decide)) (fun _ => ?_)
  refine x_iload_n (pc' := 8) d_V_write_7 rfl rfl ?_
  refine x_static (as := [.int y]) (r := []) (v := (some (.int 0))) (h' := h) (st' := [.int 0]) (c' := 0) (s' := 0) (pc' := 11) d_V_write_8 rfl c_V_34 rfl rfl (Nat.le_of_ble_eq_true rfl) (Nat.le_of_ble_eq_true rfl) (Nat.le_of_ble_eq_true rfl) (fun Q' hq => c_V_isFile0 hy hq) rfl rfl rfl ?_
  refine x_ifeq (t := 26) (pc' := 14) d_V_write_11 rfl rfl (fun _ => ?_) (fun q => absurd rfl q)
  refine x_iconst (v := 0) (pc' := 27) d_V_write_26 rfl (by decide) ?_
  exact x_ireturn d_V_write_27 rfl rfl hQ
theorem c_V_write_z1 {L : Nat} {xs : Nat → Int32} {d : Nat} {h : xm_H} {Q : xm_Q} {S : sp_S} (hV : ch_V h S) (hS : sp_WS S) {m : Nat} {r f : Nat} {z : Int32} (hr : r < 2) (hf : f < 4) (hz : z < 0) (hQ : Q (some (.int 0)) h) : xm_call L xs (d + 2) m_V_write [.ref 0, .int (nI r), .int (nI f), .long (lN m), .int z] h Q := by
  refine x_call (lo := [.ref 0, .int (nI r), .int (nI f), .long (lN m), .float 0, .int z]) (Nat.le_of_ble_eq_true rfl) rfl ?_
  refine x_iload_n (pc' := 1) d_V_write_0 rfl rfl ?_
  refine x_static (as := [.int (nI r)]) (r := []) (v := (some (.int 1))) (h' := h) (st' := [.int 1]) (c' := 0) (s' := 0) (pc' := 4) d_V_write_1 rfl c_V_30 rfl rfl (Nat.le_of_ble_eq_true rfl) (Nat.le_of_ble_eq_true rfl) (Nat.le_of_ble_eq_true rfl) (fun Q' hq => c_V_isRepository1 hr hq) rfl rfl rfl ?_
  refine x_ifeq (t := 26) (pc' := 7) d_V_write_4 rfl rfl (fun q => absurd q (by decide)) (fun _ => ?_)
  refine x_iload_n (pc' := 8) d_V_write_7 rfl rfl ?_
  refine x_static (as := [.int (nI f)]) (r := []) (v := (some (.int 1))) (h' := h) (st' := [.int 1]) (c' := 0) (s' := 0) (pc' := 11) d_V_write_8 rfl c_V_34 rfl rfl (Nat.le_of_ble_eq_true rfl) (Nat.le_of_ble_eq_true rfl) (Nat.le_of_ble_eq_true rfl) (fun Q' hq => c_V_isFile1 hf hq) rfl rfl rfl ?_
  refine x_ifeq (t := 26) (pc' := 14) d_V_write_11 rfl rfl (fun q => absurd q (by decide)) (fun _ => ?_)
  refine x_iload (pc' := 16) d_V_write_14 rfl rfl ?_
  refine x_iflt (t := 26) (pc' := 19) d_V_write_16 rfl rfl (fun _ => ?_) (fun q => absurd hz q)
  refine x_iconst (v := 0) (pc' := 27) d_V_write_26 rfl (by decide) ?_
  exact x_ireturn d_V_write_27 rfl rfl hQ
theorem c_V_write_z2 {L : Nat} {xs : Nat → Int32} {d : Nat} {h : xm_H} {Q : xm_Q} {S : sp_S} (hV : ch_V h S) (hS : sp_WS S) {m : Nat} {r f : Nat} {z : Int32} (hr : r < 2) (hf : f < 4) (hz0 : ¬ z < 0) (hz : nI 9 ≤ z) (hQ : Q (some (.int 0)) h) : xm_call L xs (d + 2) m_V_write [.ref 0, .int (nI r), .int (nI f), .long (lN m), .int z] h Q := by
  have hz1 : ¬ z ≤ nI 8 := by
    rw [Int32.le_iff_toInt_le] at hz ⊢
    have h1 : (nI 9).toInt = 9 := by decide
    have h2 : (nI 8).toInt = 8 := by decide
    omega
  refine x_call (lo := [.ref 0, .int (nI r), .int (nI f), .long (lN m), .float 0, .int z]) (Nat.le_of_ble_eq_true rfl) rfl ?_
  refine x_iload_n (pc' := 1) d_V_write_0 rfl rfl ?_
  refine x_static (as := [.int (nI r)]) (r := []) (v := (some (.int 1))) (h' := h) (st' := [.int 1]) (c' := 0) (s' := 0) (pc' := 4) d_V_write_1 rfl c_V_30 rfl rfl (Nat.le_of_ble_eq_true rfl) (Nat.le_of_ble_eq_true rfl) (Nat.le_of_ble_eq_true rfl) (fun Q' hq => c_V_isRepository1 hr hq) rfl rfl rfl ?_
  refine x_ifeq (t := 26) (pc' := 7) d_V_write_4 rfl rfl (fun q => absurd q (by decide)) (fun _ => ?_)
  refine x_iload_n (pc' := 8) d_V_write_7 rfl rfl ?_
  refine x_static (as := [.int (nI f)]) (r := []) (v := (some (.int 1))) (h' := h) (st' := [.int 1]) (c' := 0) (s' := 0) (pc' := 11) d_V_write_8 rfl c_V_34 rfl rfl (Nat.le_of_ble_eq_true rfl) (Nat.le_of_ble_eq_true rfl) (Nat.le_of_ble_eq_true rfl) (fun Q' hq => c_V_isFile1 hf hq) rfl rfl rfl ?_
  refine x_ifeq (t := 26) (pc' := 14) d_V_write_11 rfl rfl (fun q => absurd q (by decide)) (fun _ => ?_)
  refine x_iload (pc' := 16) d_V_write_14 rfl rfl ?_
  refine x_iflt (t := 26) (pc' := 19) d_V_write_16 rfl rfl (fun q => absurd q hz0) (fun _ => ?_)
  refine x_iload (pc' := 21) d_V_write_19 rfl rfl ?_
  refine x_bipush (v := nI 8) (pc' := 23) d_V_write_21 rfl (by decide) ?_
  refine x_icmple (t := 28) (pc' := 26) d_V_write_23 rfl rfl (fun q => absurd q hz1) (fun _ => ?_)
  refine x_iconst (v := 0) (pc' := 27) d_V_write_26 rfl (by decide) ?_
  exact x_ireturn d_V_write_27 rfl rfl hQ
theorem c_V_write_c {L : Nat} {xs : Nat → Int32} {d : Nat} {h : xm_H} {Q : xm_Q} {S : sp_S} (hV : ch_V h S) (hS : sp_WS S) {m r f k : Nat} (hm : m < 2 ^ 64) (hr : r < 2) (hf : f < 4) (hk : k < 9) (hQ : ∀ h', ch_V h' (sp_set S r (sp_tip (S.2 r), sp_cur (S.2 r), sp_held (S.2 r), sp_up (sp_wk (S.2 r)) f (some (sp_dec m k)), sp_ix (S.2 r))) → xl_fr sp_V29 h h' → Q (some (.int 1)) h') : xm_call L xs (d + 2) m_V_write [.ref 0, .int (nI r), .int (nI f), .long (lN m), .int (nI k)] h Q := by
  obtain ⟨g, hg, hg2⟩ := hV.2.1
  obtain ⟨a, ha7⟩ : ∃ a, a = 7 + 4 * r := ⟨_, rfl⟩
  have hR : ch_R h a (S.2 r) := by rw [ha7]; exact hV.2.2.2.1 r hr
  have hH := hV.2.2.1
  have hWR := hS.2 r hr
  obtain ⟨w, hw, hw2⟩ := hR.2.2.2.1
  obtain ⟨x, hx, hx2⟩ := hR.2.2.2.2
  refine x_call (lo := [.ref 0, .int (nI r), .int (nI f), .long (lN m), .float 0, .int (nI k)]) (Nat.le_of_ble_eq_true rfl) rfl ?_
  refine x_iload_n (pc' := 1) d_V_write_0 rfl rfl ?_
  refine x_static (as := [.int (nI r)]) (r := []) (v := (some (.int 1))) (h' := h) (st' := [.int 1]) (c' := 0) (s' := 0) (pc' := 4) d_V_write_1 rfl c_V_30 rfl rfl (Nat.le_of_ble_eq_true rfl) (Nat.le_of_ble_eq_true rfl) (Nat.le_of_ble_eq_true rfl) (fun Q' hq => c_V_isRepository1 hr hq) rfl rfl rfl ?_
  refine x_ifeq (t := 26) (pc' := 7) d_V_write_4 rfl rfl (fun q => absurd q (by decide)) (fun _ => ?_)
  refine x_iload_n (pc' := 8) d_V_write_7 rfl rfl ?_
  refine x_static (as := [.int (nI f)]) (r := []) (v := (some (.int 1))) (h' := h) (st' := [.int 1]) (c' := 0) (s' := 0) (pc' := 11) d_V_write_8 rfl c_V_34 rfl rfl (Nat.le_of_ble_eq_true rfl) (Nat.le_of_ble_eq_true rfl) (Nat.le_of_ble_eq_true rfl) (fun Q' hq => c_V_isFile1 hf hq) rfl rfl rfl ?_
  refine x_ifeq (t := 26) (pc' := 14) d_V_write_11 rfl rfl (fun q => absurd q (by decide)) (fun _ => ?_)
  refine x_iload (pc' := 16) d_V_write_14 rfl rfl ?_
  refine x_iflt (t := 26) (pc' := 19) d_V_write_16 rfl rfl (fun q => absurd q (nI_pos (by omega))) (fun _ => ?_)
  refine x_iload (pc' := 21) d_V_write_19 rfl rfl ?_
  refine x_bipush (v := nI 8) (pc' := 23) d_V_write_21 rfl (by decide) ?_
  refine x_icmple (t := 28) (pc' := 26) d_V_write_23 rfl rfl (fun _ => ?_) (fun q => absurd (nI_le (by omega) (by decide)) q)
  refine x_aload_n (pc' := 29) d_V_write_28 rfl rfl ?_
  refine x_getfield (ci := 3) (i := 1) (v := .ref 6) (pc' := 32) d_V_write_29 rfl g_V_18 hV.1 rfl ?_
  refine x_iload_n (pc' := 33) d_V_write_32 rfl rfl ?_
  refine x_aaload (q := a) (pc' := 34) d_V_write_33 rfl hg (Or.inr rfl) (vp_in_nI hr (by decide)) (by rw [nI_clamp (by omega), hg2 r hr, ha7]) ?_
  refine x_getfield (ci := 1) (i := 1) (v := .ref (a + 2)) (pc' := 37) d_V_write_34 rfl g_V_37 hR.2.1 rfl ?_
  refine x_iload_n (pc' := 38) d_V_write_37 rfl rfl ?_
  refine x_lload_n (pc' := 39) d_V_write_38 rfl rfl rfl ?_
  refine x_iload (pc' := 41) d_V_write_39 rfl rfl ?_
  refine x_static (as := [.long (lN m), .int (nI k)]) (r := [.int (nI f), .ref (a + 2)]) (v := (some (.long (sp_tv (some (sp_dec m k)))))) (h' := h) (st' := [.long (sp_tv (some (sp_dec m k))), .int (nI f), .ref (a + 2)]) (c' := 0) (s' := 0) (pc' := 44) d_V_write_41 rfl c_V_41 rfl rfl (Nat.le_of_ble_eq_true rfl) (Nat.le_of_ble_eq_true rfl) (Nat.le_of_ble_eq_true rfl) (fun Q' hq => c_T_pack hm (by omega) hq) rfl rfl rfl ?_
  refine x_lastore (h' := (h.set (a + 2) (.inl (.long, 4, .inr (.inl (vp_updL w (nI f).toNatClampNeg (sp_tv (some (sp_dec m k))))))))) (pc' := 45) d_V_write_44 rfl hw (vp_in_nI hf (by decide)) rfl ?_
  refine x_iconst (v := 1) (pc' := 46) d_V_write_45 rfl (by decide) ?_
  exact x_ireturn d_V_write_46 rfl rfl (hQ _ (ch_V_rep hV hr (xl_set ⟨by omega, by omega⟩) (by rw [← ha7]; exact ch_R_wk hR hw hf _)) (xl_set (by show _ < 29; omega)))
theorem c_V_write {L : Nat} {xs : Nat → Int32} {d : Nat} {h : xm_H} {Q : xm_Q} {S : sp_S} (hV : ch_V h S) (hS : sp_WS S) {x y z : Int32} {m : Nat} (hm : m < 2 ^ 64) (hQ : ∀ h', ch_V h' (sp_write S x y m z).2 → xl_fr sp_V29 h h' → Q (some (.int (sp_write S x y m z).1)) h') : xm_call L xs (d + 2) m_V_write [.ref 0, .int x, .int y, .long (lN m), .int z] h Q := by
  have key : sp_write S x y m z = (0, S) → Q (some (.int 0)) h := fun e9 => by
    rw [e9] at hQ
    exact hQ h hV xl_rf
  rcases sp_in_cases 2 (by decide) x with ⟨_, e⟩ | ⟨_, _, e⟩ | ⟨r, hr, rfl, e⟩
  · exact c_V_write_x hV hS e (key (by unfold sp_write; rw [e]))
  · exact c_V_write_x hV hS e (key (by unfold sp_write; rw [e]))
  · rcases sp_in_cases 4 (by decide) y with ⟨_, e2⟩ | ⟨_, _, e2⟩ | ⟨f, hf, rfl, e2⟩
    · exact c_V_write_y hV hS hr e2 (key (by unfold sp_write; rw [e, e2]))
    · exact c_V_write_y hV hS hr e2 (key (by unfold sp_write; rw [e, e2]))
    · rcases sp_in_cases 9 (by decide) z with ⟨e4, e3⟩ | ⟨e4, e5, e3⟩ | ⟨k, hk, rfl, e3⟩
      · exact c_V_write_z1 hV hS hr hf e4 (key (by unfold sp_write; rw [e, e2, e3]))
      · exact c_V_write_z2 hV hS hr hf e4 e5 (key (by unfold sp_write; rw [e, e2, e3]))
      · have e9 : sp_write S (nI r) (nI f) m (nI k) = (1, sp_set S r (sp_tip (S.2 r), sp_cur (S.2 r), sp_held (S.2 r), sp_up (sp_wk (S.2 r)) f (some (sp_dec m k)), sp_ix (S.2 r))) := by unfold sp_write; rw [e, e2, e3]
        rw [e9] at hQ
        exact c_V_write_c hV hS hm hr hf hk hQ
theorem c_V_checkout_x {L : Nat} {xs : Nat → Int32} {d : Nat} {h : xm_H} {Q : xm_Q} {S : sp_S} (hV : ch_V h S) (hS : sp_WS S) {x y : Int32} (hx : sp_in 2 x = none) (hQ : Q (some (.int (-1))) h) : xm_call L xs (d + 5) m_V_checkout [.ref 0, .int x, .int y] h Q := by
  refine x_call (lo := [.ref 0, .int x, .int y, .float 0, .float 0]) (Nat.le_of_ble_eq_true rfl) rfl ?_
  refine x_iload_n (pc' := 1) d_V_checkout_0 rfl rfl ?_
  refine x_static (as := [.int x]) (r := []) (v := (some (.int 0))) (h' := h) (st' := [.int 0]) (c' := 0) (s' := 0) (pc' := 4) d_V_checkout_1 rfl c_V_30 rfl rfl (Nat.le_of_ble_eq_true rfl) (Nat.le_of_ble_eq_true rfl) (Nat.le_of_ble_eq_true rfl) (fun Q' hq => c_V_isRepository0 hx hq) rfl rfl rfl ?_
  refine x_ifeq (t := 14) (pc' := 7) d_V_checkout_4 rfl rfl (fun _ => ?_) (fun q => absurd rfl q)
  refine x_iconst (v := (-1)) (pc' := 15) d_V_checkout_14 rfl (by decide) ?_
  exact x_ireturn d_V_checkout_15 rfl rfl hQ
theorem c_V_checkout_y {L : Nat} {xs : Nat → Int32} {d : Nat} {h : xm_H} {Q : xm_Q} {S : sp_S} (hV : ch_V h S) (hS : sp_WS S) {r : Nat} {y : Int32} (hr : r < 2) (hy : sp_in 4 y = none) (hQ : Q (some (.int (-1))) h) : xm_call L xs (d + 5) m_V_checkout [.ref 0, .int (nI r), .int y] h Q := by
  refine x_call (lo := [.ref 0, .int (nI r), .int y, .float 0, .float 0]) (Nat.le_of_ble_eq_true rfl) rfl ?_
  refine x_iload_n (pc' := 1) d_V_checkout_0 rfl rfl ?_
  refine x_static (as := [.int (nI r)]) (r := []) (v := (some (.int 1))) (h' := h) (st' := [.int 1]) (c' := 0) (s' := 0) (pc' := 4) d_V_checkout_1 rfl c_V_30 rfl rfl (Nat.le_of_ble_eq_true rfl) (Nat.le_of_ble_eq_true rfl) (Nat.le_of_ble_eq_true rfl) (fun Q' hq => c_V_isRepository1 hr hq) rfl rfl rfl ?_
  refine x_ifeq (t := 14) (pc' := 7) d_V_checkout_4 rfl rfl (fun q => absurd q (by decide)) (fun _ => ?_)
  refine x_iload_n (pc' := 8) d_V_checkout_7 rfl rfl ?_
  refine x_static (as := [.int y]) (r := []) (v := (some (.int 0))) (h' := h) (st' := [.int 0]) (c' := 0) (s' := 0) (pc' := 11) d_V_checkout_8 rfl c_V_80 rfl rfl (Nat.le_of_ble_eq_true rfl) (Nat.le_of_ble_eq_true rfl) (Nat.le_of_ble_eq_true rfl) (fun Q' hq => c_V_isBranch0 hy hq) rfl rfl rfl ?_
  refine x_ifne (t := 16) (pc' := 14) d_V_checkout_11 rfl rfl (fun q => absurd rfl q) (fun _ => ?_)
  refine x_iconst (v := (-1)) (pc' := 15) d_V_checkout_14 rfl (by decide) ?_
  exact x_ireturn d_V_checkout_15 rfl rfl hQ
theorem c_V_checkout_a {L : Nat} {xs : Nat → Int32} {d : Nat} {h : xm_H} {Q : xm_Q} {S : sp_S} (hV : ch_V h S) (hS : sp_WS S) {r b : Nat} (hr : r < 2) (hb : b < 4) (hn : sp_tip (S.2 r) b = none) (hQ : Q (some (.int (-2))) h) : xm_call L xs (d + 5) m_V_checkout [.ref 0, .int (nI r), .int (nI b)] h Q := by
  obtain ⟨g, hg, hg2⟩ := hV.2.1
  obtain ⟨a, ha7⟩ : ∃ a, a = 7 + 4 * r := ⟨_, rfl⟩
  have hR : ch_R h a (S.2 r) := by rw [ha7]; exact hV.2.2.2.1 r hr
  have hH := hV.2.2.1
  have hWR := hS.2 r hr
  obtain ⟨t, ht, ht2⟩ := hR.2.2.1
  refine x_call (lo := [.ref 0, .int (nI r), .int (nI b), .float 0, .float 0]) (Nat.le_of_ble_eq_true rfl) rfl ?_
  refine x_iload_n (pc' := 1) d_V_checkout_0 rfl rfl ?_
  refine x_static (as := [.int (nI r)]) (r := []) (v := (some (.int 1))) (h' := h) (st' := [.int 1]) (c' := 0) (s' := 0) (pc' := 4) d_V_checkout_1 rfl c_V_30 rfl rfl (Nat.le_of_ble_eq_true rfl) (Nat.le_of_ble_eq_true rfl) (Nat.le_of_ble_eq_true rfl) (fun Q' hq => c_V_isRepository1 hr hq) rfl rfl rfl ?_
  refine x_ifeq (t := 14) (pc' := 7) d_V_checkout_4 rfl rfl (fun q => absurd q (by decide)) (fun _ => ?_)
  refine x_iload_n (pc' := 8) d_V_checkout_7 rfl rfl ?_
  refine x_static (as := [.int (nI b)]) (r := []) (v := (some (.int 1))) (h' := h) (st' := [.int 1]) (c' := 0) (s' := 0) (pc' := 11) d_V_checkout_8 rfl c_V_80 rfl rfl (Nat.le_of_ble_eq_true rfl) (Nat.le_of_ble_eq_true rfl) (Nat.le_of_ble_eq_true rfl) (fun Q' hq => c_V_isBranch1 hb hq) rfl rfl rfl ?_
  refine x_ifne (t := 16) (pc' := 14) d_V_checkout_11 rfl rfl (fun _ => ?_) (fun q => absurd q (by decide))
  refine x_aload_n (pc' := 17) d_V_checkout_16 rfl rfl ?_
  refine x_getfield (ci := 3) (i := 1) (v := .ref 6) (pc' := 20) d_V_checkout_17 rfl g_V_18 hV.1 rfl ?_
  refine x_iload_n (pc' := 21) d_V_checkout_20 rfl rfl ?_
  refine x_aaload (q := a) (pc' := 22) d_V_checkout_21 rfl hg (Or.inr rfl) (vp_in_nI hr (by decide)) (by rw [nI_clamp (by omega), hg2 r hr, ha7]) ?_
  refine x_astore_n (lo' := [.ref 0, .int (nI r), .int (nI b), .ref a, .float 0]) (pc' := 23) d_V_checkout_22 rfl (Nat.le_of_ble_eq_true rfl) rfl ?_
  refine x_aload_n (pc' := 24) d_V_checkout_23 rfl rfl ?_
  refine x_getfield (ci := 1) (i := 0) (v := .ref (a + 1)) (pc' := 27) d_V_checkout_24 rfl g_V_72 hR.2.1 rfl ?_
  refine x_iload_n (pc' := 28) d_V_checkout_27 rfl rfl ?_
  refine x_iaload (v := sp_vi (sp_tip (S.2 r) b)) (pc' := 29) d_V_checkout_28 rfl ht (vp_in_nI hb (by decide)) (by rw [nI_clamp (by omega), ht2 b hb]) ?_
  refine x_istore (lo' := [.ref 0, .int (nI r), .int (nI b), .ref a, .int (sp_vi (sp_tip (S.2 r) b))]) (pc' := 31) d_V_checkout_29 rfl (Nat.le_of_ble_eq_true rfl) rfl ?_
  refine x_iload (pc' := 33) d_V_checkout_31 rfl rfl ?_
  refine x_bipush (v := (-2)) (pc' := 35) d_V_checkout_33 rfl (by decide) ?_
  refine x_icmpne (t := 41) (pc' := 38) d_V_checkout_35 rfl rfl (fun q => absurd (by rw [hn]; rfl) q) (fun _ => ?_)
  refine x_bipush (v := (-2)) (pc' := 40) d_V_checkout_38 rfl (by decide) ?_
  exact x_ireturn d_V_checkout_40 rfl rfl hQ
theorem c_V_checkout_b {L : Nat} {xs : Nat → Int32} {d : Nat} {h : xm_H} {Q : xm_Q} {S : sp_S} (hV : ch_V h S) (hS : sp_WS S) {r b c : Nat} (hr : r < 2) (hb : b < 4) (hn : sp_tip (S.2 r) b = some c) (hcl : sp_clean S.1 (S.2 r) = false) (hQ : Q (some (.int (-3))) h) : xm_call L xs (d + 5) m_V_checkout [.ref 0, .int (nI r), .int (nI b)] h Q := by
  obtain ⟨g, hg, hg2⟩ := hV.2.1
  obtain ⟨a, ha7⟩ : ∃ a, a = 7 + 4 * r := ⟨_, rfl⟩
  have hR : ch_R h a (S.2 r) := by rw [ha7]; exact hV.2.2.2.1 r hr
  have hH := hV.2.2.1
  have hWR := hS.2 r hr
  obtain ⟨t, ht, ht2⟩ := hR.2.2.1
  have hc : c < sp_n S.1 := hWR.2.1 b hb c hn
  have h40 := hS.1.1
  refine x_call (lo := [.ref 0, .int (nI r), .int (nI b), .float 0, .float 0]) (Nat.le_of_ble_eq_true rfl) rfl ?_
  refine x_iload_n (pc' := 1) d_V_checkout_0 rfl rfl ?_
  refine x_static (as := [.int (nI r)]) (r := []) (v := (some (.int 1))) (h' := h) (st' := [.int 1]) (c' := 0) (s' := 0) (pc' := 4) d_V_checkout_1 rfl c_V_30 rfl rfl (Nat.le_of_ble_eq_true rfl) (Nat.le_of_ble_eq_true rfl) (Nat.le_of_ble_eq_true rfl) (fun Q' hq => c_V_isRepository1 hr hq) rfl rfl rfl ?_
  refine x_ifeq (t := 14) (pc' := 7) d_V_checkout_4 rfl rfl (fun q => absurd q (by decide)) (fun _ => ?_)
  refine x_iload_n (pc' := 8) d_V_checkout_7 rfl rfl ?_
  refine x_static (as := [.int (nI b)]) (r := []) (v := (some (.int 1))) (h' := h) (st' := [.int 1]) (c' := 0) (s' := 0) (pc' := 11) d_V_checkout_8 rfl c_V_80 rfl rfl (Nat.le_of_ble_eq_true rfl) (Nat.le_of_ble_eq_true rfl) (Nat.le_of_ble_eq_true rfl) (fun Q' hq => c_V_isBranch1 hb hq) rfl rfl rfl ?_
  refine x_ifne (t := 16) (pc' := 14) d_V_checkout_11 rfl rfl (fun _ => ?_) (fun q => absurd q (by decide))
  refine x_aload_n (pc' := 17) d_V_checkout_16 rfl rfl ?_
  refine x_getfield (ci := 3) (i := 1) (v := .ref 6) (pc' := 20) d_V_checkout_17 rfl g_V_18 hV.1 rfl ?_
  refine x_iload_n (pc' := 21) d_V_checkout_20 rfl rfl ?_
  refine x_aaload (q := a) (pc' := 22) d_V_checkout_21 rfl hg (Or.inr rfl) (vp_in_nI hr (by decide)) (by rw [nI_clamp (by omega), hg2 r hr, ha7]) ?_
  refine x_astore_n (lo' := [.ref 0, .int (nI r), .int (nI b), .ref a, .float 0]) (pc' := 23) d_V_checkout_22 rfl (Nat.le_of_ble_eq_true rfl) rfl ?_
  refine x_aload_n (pc' := 24) d_V_checkout_23 rfl rfl ?_
  refine x_getfield (ci := 1) (i := 0) (v := .ref (a + 1)) (pc' := 27) d_V_checkout_24 rfl g_V_72 hR.2.1 rfl ?_
  refine x_iload_n (pc' := 28) d_V_checkout_27 rfl rfl ?_
  refine x_iaload (v := nI c) (pc' := 29) d_V_checkout_28 rfl ht (vp_in_nI hb (by decide)) (by rw [nI_clamp (by omega), ht2 b hb, hn]; rfl) ?_
  refine x_istore (lo' := [.ref 0, .int (nI r), .int (nI b), .ref a, .int (nI c)]) (pc' := 31) d_V_checkout_29 rfl (Nat.le_of_ble_eq_true rfl) rfl ?_
  refine x_iload (pc' := 33) d_V_checkout_31 rfl rfl ?_
  refine x_bipush (v := (-2)) (pc' := 35) d_V_checkout_33 rfl (by decide) ?_
  refine x_icmpne (t := 41) (pc' := 38) d_V_checkout_35 rfl rfl (fun _ => ?_) (fun q => absurd q (sp_nI_ne2 (by omega)))
  refine x_aload_n (pc' := 42) d_V_checkout_41 rfl rfl ?_
  refine x_aload_n (pc' := 43) d_V_checkout_42 rfl rfl ?_
  refine x_virtual (a := 0) (as := [.ref a]) (r := []) (v := (some (.int (sp_bi (sp_clean S.1 (S.2 r)))))) (h' := h) (st' := [.int (sp_bi (sp_clean S.1 (S.2 r)))]) (c' := 0) (s' := 0) (pc' := 46) d_V_checkout_43 rfl c_V_83 hV.1 rfl rfl (Nat.le_of_ble_eq_true rfl) (Nat.le_of_ble_eq_true rfl) (Nat.le_of_ble_eq_true rfl) (fun Q' hq => c_V_isClean hV.1 hH hR hS.1 hWR hq) rfl rfl rfl ?_
  refine x_ifne (t := 52) (pc' := 49) d_V_checkout_46 rfl rfl (fun q => absurd (by rw [hcl]; rfl) q) (fun _ => ?_)
  refine x_bipush (v := (-3)) (pc' := 51) d_V_checkout_49 rfl (by decide) ?_
  exact x_ireturn d_V_checkout_51 rfl rfl hQ
theorem c_V_checkout_c {L : Nat} {xs : Nat → Int32} {d : Nat} {h : xm_H} {Q : xm_Q} {S : sp_S} (hV : ch_V h S) (hS : sp_WS S) {r b c : Nat} (hr : r < 2) (hb : b < 4) (hn : sp_tip (S.2 r) b = some c) (hcl : sp_clean S.1 (S.2 r) = true) (hQ : ∀ h', ch_V h' (sp_set S r (sp_mv S.1 (sp_tip (S.2 r), b, sp_held (S.2 r), sp_wk (S.2 r), sp_ix (S.2 r)) c)) → xl_fr sp_V29 h h' → Q (some (.int (nI c))) h') : xm_call L xs (d + 5) m_V_checkout [.ref 0, .int (nI r), .int (nI b)] h Q := by
  obtain ⟨g, hg, hg2⟩ := hV.2.1
  obtain ⟨a, ha7⟩ : ∃ a, a = 7 + 4 * r := ⟨_, rfl⟩
  have hR : ch_R h a (S.2 r) := by rw [ha7]; exact hV.2.2.2.1 r hr
  have hH := hV.2.2.1
  have hWR := hS.2 r hr
  obtain ⟨t, ht, ht2⟩ := hR.2.2.1
  have hc : c < sp_n S.1 := hWR.2.1 b hb c hn
  have h40 := hS.1.1
  refine x_call (lo := [.ref 0, .int (nI r), .int (nI b), .float 0, .float 0]) (Nat.le_of_ble_eq_true rfl) rfl ?_
  refine x_iload_n (pc' := 1) d_V_checkout_0 rfl rfl ?_
  refine x_static (as := [.int (nI r)]) (r := []) (v := (some (.int 1))) (h' := h) (st' := [.int 1]) (c' := 0) (s' := 0) (pc' := 4) d_V_checkout_1 rfl c_V_30 rfl rfl (Nat.le_of_ble_eq_true rfl) (Nat.le_of_ble_eq_true rfl) (Nat.le_of_ble_eq_true rfl) (fun Q' hq => c_V_isRepository1 hr hq) rfl rfl rfl ?_
  refine x_ifeq (t := 14) (pc' := 7) d_V_checkout_4 rfl rfl (fun q => absurd q (by decide)) (fun _ => ?_)
  refine x_iload_n (pc' := 8) d_V_checkout_7 rfl rfl ?_
  refine x_static (as := [.int (nI b)]) (r := []) (v := (some (.int 1))) (h' := h) (st' := [.int 1]) (c' := 0) (s' := 0) (pc' := 11) d_V_checkout_8 rfl c_V_80 rfl rfl (Nat.le_of_ble_eq_true rfl) (Nat.le_of_ble_eq_true rfl) (Nat.le_of_ble_eq_true rfl) (fun Q' hq => c_V_isBranch1 hb hq) rfl rfl rfl ?_
  refine x_ifne (t := 16) (pc' := 14) d_V_checkout_11 rfl rfl (fun _ => ?_) (fun q => absurd q (by decide))
  refine x_aload_n (pc' := 17) d_V_checkout_16 rfl rfl ?_
  refine x_getfield (ci := 3) (i := 1) (v := .ref 6) (pc' := 20) d_V_checkout_17 rfl g_V_18 hV.1 rfl ?_
  refine x_iload_n (pc' := 21) d_V_checkout_20 rfl rfl ?_
  refine x_aaload (q := a) (pc' := 22) d_V_checkout_21 rfl hg (Or.inr rfl) (vp_in_nI hr (by decide)) (by rw [nI_clamp (by omega), hg2 r hr, ha7]) ?_
  refine x_astore_n (lo' := [.ref 0, .int (nI r), .int (nI b), .ref a, .float 0]) (pc' := 23) d_V_checkout_22 rfl (Nat.le_of_ble_eq_true rfl) rfl ?_
  refine x_aload_n (pc' := 24) d_V_checkout_23 rfl rfl ?_
  refine x_getfield (ci := 1) (i := 0) (v := .ref (a + 1)) (pc' := 27) d_V_checkout_24 rfl g_V_72 hR.2.1 rfl ?_
  refine x_iload_n (pc' := 28) d_V_checkout_27 rfl rfl ?_
  refine x_iaload (v := nI c) (pc' := 29) d_V_checkout_28 rfl ht (vp_in_nI hb (by decide)) (by rw [nI_clamp (by omega), ht2 b hb, hn]; rfl) ?_
  refine x_istore (lo' := [.ref 0, .int (nI r), .int (nI b), .ref a, .int (nI c)]) (pc' := 31) d_V_checkout_29 rfl (Nat.le_of_ble_eq_true rfl) rfl ?_
  refine x_iload (pc' := 33) d_V_checkout_31 rfl rfl ?_
  refine x_bipush (v := (-2)) (pc' := 35) d_V_checkout_33 rfl (by decide) ?_
  refine x_icmpne (t := 41) (pc' := 38) d_V_checkout_35 rfl rfl (fun _ => ?_) (fun q => absurd q (sp_nI_ne2 (by omega)))
  refine x_aload_n (pc' := 42) d_V_checkout_41 rfl rfl ?_
  refine x_aload_n (pc' := 43) d_V_checkout_42 rfl rfl ?_
  refine x_virtual (a := 0) (as := [.ref a]) (r := []) (v := (some (.int (sp_bi (sp_clean S.1 (S.2 r)))))) (h' := h) (st' := [.int (sp_bi (sp_clean S.1 (S.2 r)))]) (c' := 0) (s' := 0) (pc' := 46) d_V_checkout_43 rfl c_V_83 hV.1 rfl rfl (Nat.le_of_ble_eq_true rfl) (Nat.le_of_ble_eq_true rfl) (Nat.le_of_ble_eq_true rfl) (fun Q' hq => c_V_isClean hV.1 hH hR hS.1 hWR hq) rfl rfl rfl ?_
  refine x_ifne (t := 52) (pc' := 49) d_V_checkout_46 rfl rfl (fun _ => ?_) (fun q => absurd q (by rw [hcl]; decide))
  refine x_aload_n (pc' := 53) d_V_checkout_52 rfl rfl ?_
  refine x_iload_n (pc' := 54) d_V_checkout_53 rfl rfl ?_
  refine x_putfield (ci := 1) (i := 4) (h' := (h.set a (.inr (1, [.ref (a + 1), .ref (a + 2), .ref (a + 3), .long (lN (sp_held (S.2 r))), .int (nI b)])))) (pc' := 57) d_V_checkout_54 rfl (p_V_76 _ rfl) hR.2.1 (Nat.le_of_ble_eq_true rfl) rfl rfl rfl ?_
  refine x_aload_n (pc' := 58) d_V_checkout_57 rfl rfl ?_
  refine x_aload_n (pc' := 59) d_V_checkout_58 rfl rfl ?_
  refine x_iload (pc' := 61) d_V_checkout_59 rfl rfl ?_
  refine x_virtualR (a := 0) (as := [.ref a, .int (nI c)]) (r := []) (Post := fun v h9 => v = none ∧ ch_R h9 a (sp_mv S.1 (sp_tip (S.2 r), b, sp_held (S.2 r), sp_wk (S.2 r), sp_ix (S.2 r)) c) ∧ xl_fr (fun k => a ≤ k ∧ k ≤ a + 3) (h.set a (.inr (1, [.ref (a + 1), .ref (a + 2), .ref (a + 3), .long (lN (sp_held (S.2 r))), .int (nI b)]))) h9) (c' := 0) (s' := 0) (pc' := 64) d_V_checkout_61 rfl c_V_87 ((xl_ne (by omega)).trans hV.1) rfl rfl (Nat.le_of_ble_eq_true rfl) (Nat.le_of_ble_eq_true rfl) (Nat.le_of_ble_eq_true rfl) (fun Q' hq => c_V_moveTo (by omega) ((xl_ne (by omega)).trans hV.1) (ch_H_set (by omega) hH) (ch_R_obj hR hb) hc (Nat.lt_of_lt_of_le hWR.2.2.1 (Nat.pow_le_pow_right (by decide) (by omega))) (sp_WH_64 hS.1 (c := some c) (sp_ok_some hc)) (fun h' z1 z2 => hq none h' ⟨rfl, z1, z2⟩)) rfl rfl (fun v9 h2 hp => ?_)
  obtain ⟨rfl, R2, f2⟩ := hp
  show xm_X L xs (xm_call L xs (d + 4)) m_V_checkout (64, [.ref 0, .int (nI r), .int (nI b), .ref a, .int (nI c)], [], h2, 0, 0) Q
  have f1 : xl_fr (fun k => a ≤ k ∧ k ≤ a + 3) h h2 := xl_tr (xl_set ⟨by omega, by omega⟩) f2
  refine x_iload (pc' := 66) d_V_checkout_64 rfl rfl ?_
  exact x_ireturn d_V_checkout_66 rfl rfl (hQ h2 (ch_V_rep hV hr (xl_mono f1 (fun k z => ⟨by omega, by omega⟩)) (by rw [← ha7]; exact R2)) (xl_mono f1 (fun k z => by show k < 29; omega)))
theorem c_V_checkout {L : Nat} {xs : Nat → Int32} {d : Nat} {h : xm_H} {Q : xm_Q} {S : sp_S} (hV : ch_V h S) (hS : sp_WS S) {x y : Int32} (hQ : ∀ h', ch_V h' (sp_checkout S x y).2 → xl_fr sp_V29 h h' → Q (some (.int (sp_checkout S x y).1)) h') : xm_call L xs (d + 5) m_V_checkout [.ref 0, .int x, .int y] h Q := by
  rcases sp_in_cases 2 (by decide) x with ⟨_, e⟩ | ⟨_, _, e⟩ | ⟨r, hr, rfl, e⟩
  · have e9 : sp_checkout S x y = (-1, S) := by unfold sp_checkout; rw [e]
    rw [e9] at hQ
    exact c_V_checkout_x hV hS e (hQ h hV xl_rf)
  · have e9 : sp_checkout S x y = (-1, S) := by unfold sp_checkout; rw [e]
    rw [e9] at hQ
    exact c_V_checkout_x hV hS e (hQ h hV xl_rf)
  · rcases sp_in_cases 4 (by decide) y with ⟨_, e2⟩ | ⟨_, _, e2⟩ | ⟨b, hb, rfl, e2⟩
    · have e9 : sp_checkout S (nI r) y = (-1, S) := by unfold sp_checkout; rw [e, e2]
      rw [e9] at hQ
      exact c_V_checkout_y hV hS hr e2 (hQ h hV xl_rf)
    · have e9 : sp_checkout S (nI r) y = (-1, S) := by unfold sp_checkout; rw [e, e2]
      rw [e9] at hQ
      exact c_V_checkout_y hV hS hr e2 (hQ h hV xl_rf)
    · cases h1 : sp_tip (S.2 r) b with
      | none =>
        have e9 : sp_checkout S (nI r) (nI b) = (-2, S) := by unfold sp_checkout; rw [e, e2]; dsimp only; rw [h1]
        rw [e9] at hQ
        exact c_V_checkout_a hV hS hr hb h1 (hQ h hV xl_rf)
      | some c =>
        have e9 : sp_checkout S (nI r) (nI b) = if sp_clean S.1 (S.2 r) then (nI c, sp_set S r (sp_mv S.1 (sp_tip (S.2 r), b, sp_held (S.2 r), sp_wk (S.2 r), sp_ix (S.2 r)) c)) else (-3, S) := by unfold sp_checkout; rw [e, e2]; dsimp only; rw [h1]
        rw [e9] at hQ
        cases h2 : sp_clean S.1 (S.2 r) with
        | false =>
          rw [h2] at hQ
          exact c_V_checkout_b hV hS hr hb h1 h2 (hQ h hV xl_rf)
        | true =>
          rw [h2] at hQ
          exact c_V_checkout_c hV hS hr hb h1 h2 hQ
theorem c_V_commit_x {L : Nat} {xs : Nat → Int32} {d : Nat} {h : xm_H} {Q : xm_Q} {S : sp_S} (hV : ch_V h S) (hS : sp_WS S) {x : Int32} (hx : sp_in 2 x = none) (hQ : Q (some (.int (-1))) h) : xm_call L xs (d + 4) m_V_commit [.ref 0, .int x] h Q := by
  refine x_call (lo := [.ref 0, .int x, .float 0, .float 0, .float 0]) (Nat.le_of_ble_eq_true rfl) rfl ?_
  refine x_iload_n (pc' := 1) d_V_commit_0 rfl rfl ?_
  refine x_static (as := [.int x]) (r := []) (v := (some (.int 0))) (h' := h) (st' := [.int 0]) (c' := 0) (s' := 0) (pc' := 4) d_V_commit_1 rfl c_V_30 rfl rfl (Nat.le_of_ble_eq_true rfl) (Nat.le_of_ble_eq_true rfl) (Nat.le_of_ble_eq_true rfl) (fun Q' hq => c_V_isRepository0 hx hq) rfl rfl rfl ?_
  refine x_ifne (t := 9) (pc' := 7) d_V_commit_4 rfl rfl (fun q => absurd rfl q) (fun _ => ?_)
  refine x_iconst (v := (-1)) (pc' := 8) d_V_commit_7 rfl (by decide) ?_
  exact x_ireturn d_V_commit_8 rfl rfl hQ
theorem c_V_commit_a {L : Nat} {xs : Nat → Int32} {d : Nat} {h : xm_H} {Q : xm_Q} {S : sp_S} (hV : ch_V h S) (hS : sp_WS S) {r : Nat} (hr : r < 2) (he : sp_eq4 (sp_of S.1 (sp_head (S.2 r))) (sp_ix (S.2 r)) = true) (hQ : Q (some (.int (-4))) h) : xm_call L xs (d + 4) m_V_commit [.ref 0, .int (nI r)] h Q := by
  obtain ⟨g, hg, hg2⟩ := hV.2.1
  obtain ⟨a, ha7⟩ : ∃ a, a = 7 + 4 * r := ⟨_, rfl⟩
  have hR : ch_R h a (S.2 r) := by rw [ha7]; exact hV.2.2.2.1 r hr
  have hH := hV.2.2.1
  have hWR := hS.2 r hr
  obtain ⟨w, hw, hw2⟩ := hR.2.2.2.1
  obtain ⟨x, hx, hx2⟩ := hR.2.2.2.2
  obtain ⟨t, ht, ht2⟩ := hR.2.2.1
  have hc : sp_ok (sp_n S.1) (sp_head (S.2 r)) := hWR.2.1 _ hWR.1
  have h40 := hS.1.1
  refine x_call (lo := [.ref 0, .int (nI r), .float 0, .float 0, .float 0]) (Nat.le_of_ble_eq_true rfl) rfl ?_
  refine x_iload_n (pc' := 1) d_V_commit_0 rfl rfl ?_
  refine x_static (as := [.int (nI r)]) (r := []) (v := (some (.int 1))) (h' := h) (st' := [.int 1]) (c' := 0) (s' := 0) (pc' := 4) d_V_commit_1 rfl c_V_30 rfl rfl (Nat.le_of_ble_eq_true rfl) (Nat.le_of_ble_eq_true rfl) (Nat.le_of_ble_eq_true rfl) (fun Q' hq => c_V_isRepository1 hr hq) rfl rfl rfl ?_
  refine x_ifne (t := 9) (pc' := 7) d_V_commit_4 rfl rfl (fun _ => ?_) (fun q => absurd q (by decide))
  refine x_aload_n (pc' := 10) d_V_commit_9 rfl rfl ?_
  refine x_getfield (ci := 3) (i := 1) (v := .ref 6) (pc' := 13) d_V_commit_10 rfl g_V_18 hV.1 rfl ?_
  refine x_iload_n (pc' := 14) d_V_commit_13 rfl rfl ?_
  refine x_aaload (q := a) (pc' := 15) d_V_commit_14 rfl hg (Or.inr rfl) (vp_in_nI hr (by decide)) (by rw [nI_clamp (by omega), hg2 r hr, ha7]) ?_
  refine x_astore_n (lo' := [.ref 0, .int (nI r), .ref a, .float 0, .float 0]) (pc' := 16) d_V_commit_15 rfl (Nat.le_of_ble_eq_true rfl) rfl ?_
  refine x_aload_n (pc' := 17) d_V_commit_16 rfl rfl ?_
  refine x_virtual (a := a) (as := []) (r := []) (v := (some (.int (sp_vi (sp_head (S.2 r)))))) (h' := h) (st' := [.int (sp_vi (sp_head (S.2 r)))]) (c' := 0) (s' := 0) (pc' := 20) d_V_commit_17 rfl c_V_52 hR.2.1 rfl rfl (Nat.le_of_ble_eq_true rfl) (Nat.le_of_ble_eq_true rfl) (Nat.le_of_ble_eq_true rfl) (fun Q' hq => c_R_head hR hq) rfl rfl rfl ?_
  refine x_istore_n (lo' := [.ref 0, .int (nI r), .ref a, .int (sp_vi (sp_head (S.2 r))), .float 0]) (pc' := 21) d_V_commit_20 rfl (Nat.le_of_ble_eq_true rfl) rfl ?_
  refine x_aload_n (pc' := 22) d_V_commit_21 rfl rfl ?_
  refine x_getfield (ci := 3) (i := 0) (v := .ref 1) (pc' := 25) d_V_commit_22 rfl g_V_10 hV.1 rfl ?_
  refine x_iload_n (pc' := 26) d_V_commit_25 rfl rfl ?_
  refine x_aload_n (pc' := 27) d_V_commit_26 rfl rfl ?_
  refine x_getfield (ci := 1) (i := 2) (v := .ref (a + 3)) (pc' := 30) d_V_commit_27 rfl g_V_49 hR.2.1 rfl ?_
  refine x_virtual (a := 1) (as := [.int (sp_vi (sp_head (S.2 r))), .ref (a + 3)]) (r := []) (v := (some (.int (sp_bi (sp_eq4 (sp_of S.1 (sp_head (S.2 r))) (sp_ix (S.2 r))))))) (h' := h) (st' := [.int (sp_bi (sp_eq4 (sp_of S.1 (sp_head (S.2 r))) (sp_ix (S.2 r))))]) (c' := 0) (s' := 0) (pc' := 33) d_V_commit_30 rfl c_V_56 hH.1.2 rfl rfl (Nat.le_of_ble_eq_true rfl) (Nat.le_of_ble_eq_true rfl) (Nat.le_of_ble_eq_true rfl) (fun Q' hq => c_H_hasSnapshot hH hc hx hx2 (sp_WH_of hS.1 hc) (fun f hf => (hWR.2.2.2.2 f hf).2) hq) rfl rfl rfl ?_
  refine x_ifeq (t := 39) (pc' := 36) d_V_commit_33 rfl rfl (fun q => absurd q (by rw [he]; decide)) (fun _ => ?_)
  refine x_bipush (v := (-4)) (pc' := 38) d_V_commit_36 rfl (by decide) ?_
  exact x_ireturn d_V_commit_38 rfl rfl hQ
theorem c_V_commit_b {L : Nat} {xs : Nat → Int32} {d : Nat} {h : xm_H} {Q : xm_Q} {S : sp_S} (hV : ch_V h S) (hS : sp_WS S) {r : Nat} (hr : r < 2) (he : sp_eq4 (sp_of S.1 (sp_head (S.2 r))) (sp_ix (S.2 r)) = false) (hn : 40 ≤ sp_n S.1) (hQ : Q (some (.int (-6))) h) : xm_call L xs (d + 4) m_V_commit [.ref 0, .int (nI r)] h Q := by
  obtain ⟨g, hg, hg2⟩ := hV.2.1
  obtain ⟨a, ha7⟩ : ∃ a, a = 7 + 4 * r := ⟨_, rfl⟩
  have hR : ch_R h a (S.2 r) := by rw [ha7]; exact hV.2.2.2.1 r hr
  have hH := hV.2.2.1
  have hWR := hS.2 r hr
  obtain ⟨w, hw, hw2⟩ := hR.2.2.2.1
  obtain ⟨x, hx, hx2⟩ := hR.2.2.2.2
  obtain ⟨t, ht, ht2⟩ := hR.2.2.1
  have hc : sp_ok (sp_n S.1) (sp_head (S.2 r)) := hWR.2.1 _ hWR.1
  have h40 := hS.1.1
  refine x_call (lo := [.ref 0, .int (nI r), .float 0, .float 0, .float 0]) (Nat.le_of_ble_eq_true rfl) rfl ?_
  refine x_iload_n (pc' := 1) d_V_commit_0 rfl rfl ?_
  refine x_static (as := [.int (nI r)]) (r := []) (v := (some (.int 1))) (h' := h) (st' := [.int 1]) (c' := 0) (s' := 0) (pc' := 4) d_V_commit_1 rfl c_V_30 rfl rfl (Nat.le_of_ble_eq_true rfl) (Nat.le_of_ble_eq_true rfl) (Nat.le_of_ble_eq_true rfl) (fun Q' hq => c_V_isRepository1 hr hq) rfl rfl rfl ?_
  refine x_ifne (t := 9) (pc' := 7) d_V_commit_4 rfl rfl (fun _ => ?_) (fun q => absurd q (by decide))
  refine x_aload_n (pc' := 10) d_V_commit_9 rfl rfl ?_
  refine x_getfield (ci := 3) (i := 1) (v := .ref 6) (pc' := 13) d_V_commit_10 rfl g_V_18 hV.1 rfl ?_
  refine x_iload_n (pc' := 14) d_V_commit_13 rfl rfl ?_
  refine x_aaload (q := a) (pc' := 15) d_V_commit_14 rfl hg (Or.inr rfl) (vp_in_nI hr (by decide)) (by rw [nI_clamp (by omega), hg2 r hr, ha7]) ?_
  refine x_astore_n (lo' := [.ref 0, .int (nI r), .ref a, .float 0, .float 0]) (pc' := 16) d_V_commit_15 rfl (Nat.le_of_ble_eq_true rfl) rfl ?_
  refine x_aload_n (pc' := 17) d_V_commit_16 rfl rfl ?_
  refine x_virtual (a := a) (as := []) (r := []) (v := (some (.int (sp_vi (sp_head (S.2 r)))))) (h' := h) (st' := [.int (sp_vi (sp_head (S.2 r)))]) (c' := 0) (s' := 0) (pc' := 20) d_V_commit_17 rfl c_V_52 hR.2.1 rfl rfl (Nat.le_of_ble_eq_true rfl) (Nat.le_of_ble_eq_true rfl) (Nat.le_of_ble_eq_true rfl) (fun Q' hq => c_R_head hR hq) rfl rfl rfl ?_
  refine x_istore_n (lo' := [.ref 0, .int (nI r), .ref a, .int (sp_vi (sp_head (S.2 r))), .float 0]) (pc' := 21) d_V_commit_20 rfl (Nat.le_of_ble_eq_true rfl) rfl ?_
  refine x_aload_n (pc' := 22) d_V_commit_21 rfl rfl ?_
  refine x_getfield (ci := 3) (i := 0) (v := .ref 1) (pc' := 25) d_V_commit_22 rfl g_V_10 hV.1 rfl ?_
  refine x_iload_n (pc' := 26) d_V_commit_25 rfl rfl ?_
  refine x_aload_n (pc' := 27) d_V_commit_26 rfl rfl ?_
  refine x_getfield (ci := 1) (i := 2) (v := .ref (a + 3)) (pc' := 30) d_V_commit_27 rfl g_V_49 hR.2.1 rfl ?_
  refine x_virtual (a := 1) (as := [.int (sp_vi (sp_head (S.2 r))), .ref (a + 3)]) (r := []) (v := (some (.int (sp_bi (sp_eq4 (sp_of S.1 (sp_head (S.2 r))) (sp_ix (S.2 r))))))) (h' := h) (st' := [.int (sp_bi (sp_eq4 (sp_of S.1 (sp_head (S.2 r))) (sp_ix (S.2 r))))]) (c' := 0) (s' := 0) (pc' := 33) d_V_commit_30 rfl c_V_56 hH.1.2 rfl rfl (Nat.le_of_ble_eq_true rfl) (Nat.le_of_ble_eq_true rfl) (Nat.le_of_ble_eq_true rfl) (fun Q' hq => c_H_hasSnapshot hH hc hx hx2 (sp_WH_of hS.1 hc) (fun f hf => (hWR.2.2.2.2 f hf).2) hq) rfl rfl rfl ?_
  refine x_ifeq (t := 39) (pc' := 36) d_V_commit_33 rfl rfl (fun _ => ?_) (fun q => absurd (by rw [he]; rfl) q)
  refine x_aload_n (pc' := 40) d_V_commit_39 rfl rfl ?_
  refine x_getfield (ci := 3) (i := 0) (v := .ref 1) (pc' := 43) d_V_commit_40 rfl g_V_10 hV.1 rfl ?_
  refine x_aload_n (pc' := 44) d_V_commit_43 rfl rfl ?_
  refine x_getfield (ci := 1) (i := 2) (v := .ref (a + 3)) (pc' := 47) d_V_commit_44 rfl g_V_49 hR.2.1 rfl ?_
  refine x_iload_n (pc' := 48) d_V_commit_47 rfl rfl ?_
  refine x_bipush (v := (-2)) (pc' := 50) d_V_commit_48 rfl (by decide) ?_
  refine x_virtual (a := 1) (as := [.ref (a + 3), .int (sp_vi (sp_head (S.2 r))), .int (-2)]) (r := []) (v := (some (.int (-6)))) (h' := h) (st' := [.int (-6)]) (c' := 0) (s' := 0) (pc' := 53) d_V_commit_50 rfl c_V_60 hH.1.2 rfl rfl (Nat.le_of_ble_eq_true rfl) (Nat.le_of_ble_eq_true rfl) (Nat.le_of_ble_eq_true rfl) (fun Q' hq => c_H_addFull hH hn hq) rfl rfl rfl ?_
  refine x_istore (lo' := [.ref 0, .int (nI r), .ref a, .int (sp_vi (sp_head (S.2 r))), .int (-6)]) (pc' := 55) d_V_commit_53 rfl (Nat.le_of_ble_eq_true rfl) rfl ?_
  refine x_iload (pc' := 57) d_V_commit_55 rfl rfl ?_
  refine x_bipush (v := (-6)) (pc' := 59) d_V_commit_57 rfl (by decide) ?_
  refine x_icmpeq (t := 91) (pc' := 62) d_V_commit_59 rfl rfl (fun _ => ?_) (fun q => absurd rfl q)
  refine x_iload (pc' := 93) d_V_commit_91 rfl rfl ?_
  exact x_ireturn d_V_commit_93 rfl rfl hQ
theorem c_V_commit_c {L : Nat} {xs : Nat → Int32} {d : Nat} {h : xm_H} {Q : xm_Q} {S : sp_S} (hV : ch_V h S) (hS : sp_WS S) {r : Nat} (hr : r < 2) (he : sp_eq4 (sp_of S.1 (sp_head (S.2 r))) (sp_ix (S.2 r)) = false) (hn : sp_n S.1 < 40) (hQ : ∀ h', ch_V h' ((sp_add S.1 (sp_ix (S.2 r)) (sp_head (S.2 r)) none), sp_up S.2 r (sp_up (sp_tip (S.2 r)) (sp_cur (S.2 r)) (some (sp_n S.1)), sp_cur (S.2 r), sp_held (S.2 r) ||| 2 ^ sp_n S.1, sp_wk (S.2 r), sp_ix (S.2 r))) → xl_fr sp_V29 h h' → Q (some (.int (nI (sp_n S.1)))) h') : xm_call L xs (d + 4) m_V_commit [.ref 0, .int (nI r)] h Q := by
  obtain ⟨g, hg, hg2⟩ := hV.2.1
  obtain ⟨a, ha7⟩ : ∃ a, a = 7 + 4 * r := ⟨_, rfl⟩
  have hR : ch_R h a (S.2 r) := by rw [ha7]; exact hV.2.2.2.1 r hr
  have hH := hV.2.2.1
  have hWR := hS.2 r hr
  obtain ⟨w, hw, hw2⟩ := hR.2.2.2.1
  obtain ⟨x, hx, hx2⟩ := hR.2.2.2.2
  obtain ⟨t, ht, ht2⟩ := hR.2.2.1
  have hc : sp_ok (sp_n S.1) (sp_head (S.2 r)) := hWR.2.1 _ hWR.1
  have h40 := hS.1.1
  refine x_call (lo := [.ref 0, .int (nI r), .float 0, .float 0, .float 0]) (Nat.le_of_ble_eq_true rfl) rfl ?_
  refine x_iload_n (pc' := 1) d_V_commit_0 rfl rfl ?_
  refine x_static (as := [.int (nI r)]) (r := []) (v := (some (.int 1))) (h' := h) (st' := [.int 1]) (c' := 0) (s' := 0) (pc' := 4) d_V_commit_1 rfl c_V_30 rfl rfl (Nat.le_of_ble_eq_true rfl) (Nat.le_of_ble_eq_true rfl) (Nat.le_of_ble_eq_true rfl) (fun Q' hq => c_V_isRepository1 hr hq) rfl rfl rfl ?_
  refine x_ifne (t := 9) (pc' := 7) d_V_commit_4 rfl rfl (fun _ => ?_) (fun q => absurd q (by decide))
  refine x_aload_n (pc' := 10) d_V_commit_9 rfl rfl ?_
  refine x_getfield (ci := 3) (i := 1) (v := .ref 6) (pc' := 13) d_V_commit_10 rfl g_V_18 hV.1 rfl ?_
  refine x_iload_n (pc' := 14) d_V_commit_13 rfl rfl ?_
  refine x_aaload (q := a) (pc' := 15) d_V_commit_14 rfl hg (Or.inr rfl) (vp_in_nI hr (by decide)) (by rw [nI_clamp (by omega), hg2 r hr, ha7]) ?_
  refine x_astore_n (lo' := [.ref 0, .int (nI r), .ref a, .float 0, .float 0]) (pc' := 16) d_V_commit_15 rfl (Nat.le_of_ble_eq_true rfl) rfl ?_
  refine x_aload_n (pc' := 17) d_V_commit_16 rfl rfl ?_
  refine x_virtual (a := a) (as := []) (r := []) (v := (some (.int (sp_vi (sp_head (S.2 r)))))) (h' := h) (st' := [.int (sp_vi (sp_head (S.2 r)))]) (c' := 0) (s' := 0) (pc' := 20) d_V_commit_17 rfl c_V_52 hR.2.1 rfl rfl (Nat.le_of_ble_eq_true rfl) (Nat.le_of_ble_eq_true rfl) (Nat.le_of_ble_eq_true rfl) (fun Q' hq => c_R_head hR hq) rfl rfl rfl ?_
  refine x_istore_n (lo' := [.ref 0, .int (nI r), .ref a, .int (sp_vi (sp_head (S.2 r))), .float 0]) (pc' := 21) d_V_commit_20 rfl (Nat.le_of_ble_eq_true rfl) rfl ?_
  refine x_aload_n (pc' := 22) d_V_commit_21 rfl rfl ?_
  refine x_getfield (ci := 3) (i := 0) (v := .ref 1) (pc' := 25) d_V_commit_22 rfl g_V_10 hV.1 rfl ?_
  refine x_iload_n (pc' := 26) d_V_commit_25 rfl rfl ?_
  refine x_aload_n (pc' := 27) d_V_commit_26 rfl rfl ?_
  refine x_getfield (ci := 1) (i := 2) (v := .ref (a + 3)) (pc' := 30) d_V_commit_27 rfl g_V_49 hR.2.1 rfl ?_
  refine x_virtual (a := 1) (as := [.int (sp_vi (sp_head (S.2 r))), .ref (a + 3)]) (r := []) (v := (some (.int (sp_bi (sp_eq4 (sp_of S.1 (sp_head (S.2 r))) (sp_ix (S.2 r))))))) (h' := h) (st' := [.int (sp_bi (sp_eq4 (sp_of S.1 (sp_head (S.2 r))) (sp_ix (S.2 r))))]) (c' := 0) (s' := 0) (pc' := 33) d_V_commit_30 rfl c_V_56 hH.1.2 rfl rfl (Nat.le_of_ble_eq_true rfl) (Nat.le_of_ble_eq_true rfl) (Nat.le_of_ble_eq_true rfl) (fun Q' hq => c_H_hasSnapshot hH hc hx hx2 (sp_WH_of hS.1 hc) (fun f hf => (hWR.2.2.2.2 f hf).2) hq) rfl rfl rfl ?_
  refine x_ifeq (t := 39) (pc' := 36) d_V_commit_33 rfl rfl (fun _ => ?_) (fun q => absurd (by rw [he]; rfl) q)
  refine x_aload_n (pc' := 40) d_V_commit_39 rfl rfl ?_
  refine x_getfield (ci := 3) (i := 0) (v := .ref 1) (pc' := 43) d_V_commit_40 rfl g_V_10 hV.1 rfl ?_
  refine x_aload_n (pc' := 44) d_V_commit_43 rfl rfl ?_
  refine x_getfield (ci := 1) (i := 2) (v := .ref (a + 3)) (pc' := 47) d_V_commit_44 rfl g_V_49 hR.2.1 rfl ?_
  refine x_iload_n (pc' := 48) d_V_commit_47 rfl rfl ?_
  refine x_bipush (v := sp_vi none) (pc' := 50) d_V_commit_48 rfl (by decide) ?_
  refine x_virtualR (a := 1) (as := [.ref (a + 3), .int (sp_vi (sp_head (S.2 r))), .int (sp_vi none)]) (r := []) (Post := fun v h9 => v = some (.int (nI (sp_n S.1))) ∧ ch_H h9 (sp_add S.1 (sp_ix (S.2 r)) (sp_head (S.2 r)) none) ∧ xl_fr (fun k => 1 ≤ k ∧ k ≤ 5) h h9) (c' := 0) (s' := 0) (pc' := 53) d_V_commit_50 rfl c_V_60 hH.1.2 rfl rfl (Nat.le_of_ble_eq_true rfl) (Nat.le_of_ble_eq_true rfl) (Nat.le_of_ble_eq_true rfl) (fun Q' hq => c_H_add hH hn (by omega) hx hx2 hc (fun k e => by cases e) (sp_WH_64 hS.1 hc) (Nat.two_pow_pos 64) (fun h' z1 z2 => hq _ h' ⟨rfl, z1, z2⟩)) rfl rfl (fun v9 h1 hp => ?_)
  obtain ⟨rfl, H1, f1⟩ := hp
  show xm_X L xs (xm_call L xs (d + 3)) m_V_commit (53, [.ref 0, .int (nI r), .ref a, .int (sp_vi (sp_head (S.2 r))), .float 0], [.int (nI (sp_n S.1))], h1, 0, 0) Q
  have R1 : ch_R h1 a (S.2 r) := ch_R_go hR (fun k z1 z2 => f1.2 k (by omega))
  have V1 : h1[0]? = some (.inr (3, [.ref 1, .ref 6, .ref 15])) := (f1.2 0 (by omega)).trans hV.1
  obtain ⟨t1, k1, k2⟩ := R1.2.2.1
  have hor : sp_held (S.2 r) ||| sp_rr (sp_add S.1 (sp_ix (S.2 r)) (sp_head (S.2 r)) none) (sp_n S.1) = sp_held (S.2 r) ||| 2 ^ sp_n S.1 := by
    show sp_held (S.2 r) ||| (if sp_n S.1 = sp_n S.1 then 2 ^ sp_n S.1 ||| sp_ro S.1 (sp_head (S.2 r)) ||| sp_ro S.1 none else _) = _
    rw [if_pos rfl, show sp_ro S.1 none = 0 from rfl, Nat.or_zero, Nat.or_comm (2 ^ sp_n S.1), ← Nat.or_assoc, Nat.or_comm (sp_held (S.2 r)), show sp_ro S.1 (sp_head (S.2 r)) ||| sp_held (S.2 r) = sp_held (S.2 r) from hWR.2.2.2.1 _ hWR.1]
  have hb64 : sp_rr (sp_add S.1 (sp_ix (S.2 r)) (sp_head (S.2 r)) none) (sp_n S.1) < 2 ^ 64 := by
    show (if sp_n S.1 = sp_n S.1 then 2 ^ sp_n S.1 ||| sp_ro S.1 (sp_head (S.2 r)) ||| sp_ro S.1 none else _) < _
    rw [if_pos rfl]
    exact Nat.or_lt_two_pow (Nat.or_lt_two_pow (Nat.pow_lt_pow_right (by decide) (by omega)) (sp_WH_64 hS.1 hc)) (Nat.two_pow_pos 64)
  obtain ⟨u, hU⟩ := hV.2.2.2.2
  have UU : ch_U ((h1.set a (.inr (1, [.ref (a + 1), .ref (a + 2), .ref (a + 3), .long (lN (sp_held (S.2 r) ||| 2 ^ sp_n S.1)), .int (nI (sp_cur (S.2 r)))]))).set (a + 1) (.inl (.int, 4, .inl (upd t1 (nI (sp_cur (S.2 r))).toNatClampNeg (sp_vi (some (sp_n S.1))))))) u := ch_U_go hU (fun k z1 z2 => (xl_ne (by omega)).trans ((xl_ne (by omega)).trans (f1.2 k (by omega))))
  have ff : xl_fr (fun k => (1 ≤ k ∧ k ≤ 5) ∨ (7 + 4 * r ≤ k ∧ k ≤ 10 + 4 * r) ∨ (16 ≤ k ∧ k ≤ 28)) h ((h1.set a (.inr (1, [.ref (a + 1), .ref (a + 2), .ref (a + 3), .long (lN (sp_held (S.2 r) ||| 2 ^ sp_n S.1)), .int (nI (sp_cur (S.2 r)))]))).set (a + 1) (.inl (.int, 4, .inl (upd t1 (nI (sp_cur (S.2 r))).toNatClampNeg (sp_vi (some (sp_n S.1))))))) := xl_tr (xl_mono f1 (fun k z => Or.inl z)) (xl_tr (xl_set (Or.inr (Or.inl ⟨by omega, by omega⟩))) (xl_set (Or.inr (Or.inl ⟨by omega, by omega⟩))))
  refine x_istore (lo' := [.ref 0, .int (nI r), .ref a, .int (sp_vi (sp_head (S.2 r))), .int (nI (sp_n S.1))]) (pc' := 55) d_V_commit_53 rfl (Nat.le_of_ble_eq_true rfl) rfl ?_
  refine x_iload (pc' := 57) d_V_commit_55 rfl rfl ?_
  refine x_bipush (v := (-6)) (pc' := 59) d_V_commit_57 rfl (by decide) ?_
  refine x_icmpeq (t := 91) (pc' := 62) d_V_commit_59 rfl rfl (fun q => absurd q (sp_nI_nn (by omega) (by decide))) (fun _ => ?_)
  refine x_aload_n (pc' := 63) d_V_commit_62 rfl rfl ?_
  refine x_dup (pc' := 64) d_V_commit_63 rfl rfl ?_
  refine x_getfield (ci := 1) (i := 3) (v := .long (lN (sp_held (S.2 r)))) (pc' := 67) d_V_commit_64 rfl g_V_64 R1.2.1 rfl ?_
  refine x_aload_n (pc' := 68) d_V_commit_67 rfl rfl ?_
  refine x_getfield (ci := 3) (i := 0) (v := .ref 1) (pc' := 71) d_V_commit_68 rfl g_V_10 V1 rfl ?_
  refine x_iload (pc' := 73) d_V_commit_71 rfl rfl ?_
  refine x_virtual (a := 1) (as := [.int (nI (sp_n S.1))]) (r := [.long (lN (sp_held (S.2 r))), .ref a]) (v := (some (.long (lN (sp_rr (sp_add S.1 (sp_ix (S.2 r)) (sp_head (S.2 r)) none) (sp_n S.1)))))) (h' := h1) (st' := [.long (lN (sp_rr (sp_add S.1 (sp_ix (S.2 r)) (sp_head (S.2 r)) none) (sp_n S.1))), .long (lN (sp_held (S.2 r))), .ref a]) (c' := 0) (s' := 0) (pc' := 76) d_V_commit_73 rfl c_V_68 H1.1.2 rfl rfl (Nat.le_of_ble_eq_true rfl) (Nat.le_of_ble_eq_true rfl) (Nat.le_of_ble_eq_true rfl) (fun Q' hq => c_H_reachOf1 H1 (Nat.lt_succ_self _) hq) rfl rfl rfl ?_
  refine x_lor (z := lN (sp_held (S.2 r) ||| 2 ^ sp_n S.1)) (pc' := 77) d_V_commit_76 rfl (by rw [wb_or (Nat.lt_of_lt_of_le hWR.2.2.1 (Nat.pow_le_pow_right (by decide) (by omega))) hb64, hor]) ?_
  refine x_putfield (ci := 1) (i := 3) (h' := (h1.set a (.inr (1, [.ref (a + 1), .ref (a + 2), .ref (a + 3), .long (lN (sp_held (S.2 r) ||| 2 ^ sp_n S.1)), .int (nI (sp_cur (S.2 r)))])))) (pc' := 80) d_V_commit_77 rfl (p_V_64 _ rfl) R1.2.1 (Nat.le_of_ble_eq_true rfl) rfl rfl rfl ?_
  refine x_aload_n (pc' := 81) d_V_commit_80 rfl rfl ?_
  refine x_getfield (ci := 1) (i := 0) (v := .ref (a + 1)) (pc' := 84) d_V_commit_81 rfl g_V_72 (xl_at R1.2.1) rfl ?_
  refine x_aload_n (pc' := 85) d_V_commit_84 rfl rfl ?_
  refine x_getfield (ci := 1) (i := 4) (v := .int (nI (sp_cur (S.2 r)))) (pc' := 88) d_V_commit_85 rfl g_V_76 (xl_at R1.2.1) rfl ?_
  refine x_iload (pc' := 90) d_V_commit_88 rfl rfl ?_
  refine x_iastore (h' := ((h1.set a (.inr (1, [.ref (a + 1), .ref (a + 2), .ref (a + 3), .long (lN (sp_held (S.2 r) ||| 2 ^ sp_n S.1)), .int (nI (sp_cur (S.2 r)))]))).set (a + 1) (.inl (.int, 4, .inl (upd t1 (nI (sp_cur (S.2 r))).toNatClampNeg (sp_vi (some (sp_n S.1)))))))) (pc' := 91) d_V_commit_90 rfl ((xl_ne (by omega)).trans k1) (vp_in_nI hWR.1 (by decide)) rfl ?_
  refine x_iload (pc' := 93) d_V_commit_91 rfl rfl ?_
  exact x_ireturn d_V_commit_93 rfl rfl (hQ _ (ch_V_all hV hr ff (ch_H_set (by omega) (ch_H_set (by omega) H1)) (by rw [← ha7]; exact ch_R_tip (ch_R_obj R1 hWR.1) ((xl_ne (by omega)).trans k1) hWR.1 _) UU) (xl_mono ff (fun k z => by show k < 29; omega)))
theorem c_V_commit {L : Nat} {xs : Nat → Int32} {d : Nat} {h : xm_H} {Q : xm_Q} {S : sp_S} (hV : ch_V h S) (hS : sp_WS S) {x : Int32} (hQ : ∀ h', ch_V h' (sp_commit S x).2 → xl_fr sp_V29 h h' → Q (some (.int (sp_commit S x).1)) h') : xm_call L xs (d + 4) m_V_commit [.ref 0, .int x] h Q := by
  have key : ∀ z, sp_commit S x = (z, S) → Q (some (.int z)) h := fun z e9 => by
    rw [e9] at hQ
    exact hQ h hV xl_rf
  rcases sp_in_cases 2 (by decide) x with ⟨_, e⟩ | ⟨_, _, e⟩ | ⟨r, hr, rfl, e⟩
  · exact c_V_commit_x hV hS e (key _ (by unfold sp_commit; rw [e]))
  · exact c_V_commit_x hV hS e (key _ (by unfold sp_commit; rw [e]))
  · cases h1 : sp_eq4 (sp_of S.1 (sp_head (S.2 r))) (sp_ix (S.2 r)) with
    | true => exact c_V_commit_a hV hS hr h1 (key _ (by unfold sp_commit; rw [e]; dsimp only; rw [if_pos h1]))
    | false =>
      by_cases hn : 40 ≤ sp_n S.1
      · exact c_V_commit_b hV hS hr h1 hn (key _ (by unfold sp_commit; rw [e]; dsimp only; rw [if_neg (by rw [h1]; decide), if_pos hn]))
      · have e9 : sp_commit S (nI r) = (nI (sp_n S.1), (sp_add S.1 (sp_ix (S.2 r)) (sp_head (S.2 r)) none), sp_up S.2 r (sp_up (sp_tip (S.2 r)) (sp_cur (S.2 r)) (some (sp_n S.1)), sp_cur (S.2 r), sp_held (S.2 r) ||| 2 ^ sp_n S.1, sp_wk (S.2 r), sp_ix (S.2 r))) := by unfold sp_commit; rw [e]; dsimp only; rw [if_neg (by rw [h1]; decide), if_neg hn]
        rw [e9] at hQ
        exact c_V_commit_c hV hS hr h1 (by omega) hQ
