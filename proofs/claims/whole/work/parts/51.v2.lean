/-! The vault's reading calls, and those that write little. (Printed by c_v2.py.) -/
theorem c_V_tip_x {L : Nat} {xs : Nat → Int32} {d : Nat} {h : xm_H} {Q : xm_Q} {S : sp_S} (hV : ch_V h S) (hS : sp_WS S) {x y : Int32} (hx : sp_in 2 x = none) (hQ : Q (some (.int (-1))) h) : xm_call L xs (d + 2) m_V_tip [.ref 0, .int x, .int y] h Q := by
  refine x_call (lo := [.ref 0, .int x, .int y]) (Nat.le_of_ble_eq_true rfl) rfl ?_
  refine x_iload_n (pc' := 1) d_V_tip_0 rfl rfl ?_
  refine x_static (as := [.int x]) (r := []) (v := (some (.int 0))) (h' := h) (st' := [.int 0]) (c' := 0) (s' := 0) (pc' := 4) d_V_tip_1 rfl c_V_30 rfl rfl (Nat.le_of_ble_eq_true rfl) (Nat.le_of_ble_eq_true rfl) (Nat.le_of_ble_eq_true rfl) (fun Q' hq => c_V_isRepository0 hx hq) rfl rfl rfl ?_
  refine x_ifeq (t := 14) (pc' := 7) d_V_tip_4 rfl rfl (fun _ => ?_) (fun q => absurd rfl q)
  refine x_iconst (v := (-1)) (pc' := 15) d_V_tip_14 rfl (by decide) ?_
  exact x_ireturn d_V_tip_15 rfl rfl hQ
theorem c_V_tip_y {L : Nat} {xs : Nat → Int32} {d : Nat} {h : xm_H} {Q : xm_Q} {S : sp_S} (hV : ch_V h S) (hS : sp_WS S) {r : Nat} {y : Int32} (hr : r < 2) (hy : sp_in 4 y = none) (hQ : Q (some (.int (-1))) h) : xm_call L xs (d + 2) m_V_tip [.ref 0, .int (nI r), .int y] h Q := by
  refine x_call (lo := [.ref 0, .int (nI r), .int y]) (Nat.le_of_ble_eq_true rfl) rfl ?_
  refine x_iload_n (pc' := 1) d_V_tip_0 rfl rfl ?_
  refine x_static (as := [.int (nI r)]) (r := []) (v := (some (.int 1))) (h' := h) (st' := [.int 1]) (c' := 0) (s' := 0) (pc' := 4) d_V_tip_1 rfl c_V_30 rfl rfl (Nat.le_of_ble_eq_true rfl) (Nat.le_of_ble_eq_true rfl) (Nat.le_of_ble_eq_true rfl) (fun Q' hq => c_V_isRepository1 hr hq) rfl rfl rfl ?_
  refine x_ifeq (t := 14) (pc' := 7) d_V_tip_4 rfl rfl (fun q => absurd q (by decide)) (fun _ => ?_)
  refine x_iload_n (pc' := 8) d_V_tip_7 rfl rfl ?_
  refine x_static (as := [.int y]) (r := []) (v := (some (.int 0))) (h' := h) (st' := [.int 0]) (c' := 0) (s' := 0) (pc' := 11) d_V_tip_8 rfl c_V_80 rfl rfl (Nat.le_of_ble_eq_true rfl) (Nat.le_of_ble_eq_true rfl) (Nat.le_of_ble_eq_true rfl) (fun Q' hq => c_V_isBranch0 hy hq) rfl rfl rfl ?_
  refine x_ifne (t := 16) (pc' := 14) d_V_tip_11 rfl rfl (fun q => absurd rfl q) (fun _ => ?_)
  refine x_iconst (v := (-1)) (pc' := 15) d_V_tip_14 rfl (by decide) ?_
  exact x_ireturn d_V_tip_15 rfl rfl hQ
theorem c_V_tip_z {L : Nat} {xs : Nat → Int32} {d : Nat} {h : xm_H} {Q : xm_Q} {S : sp_S} (hV : ch_V h S) (hS : sp_WS S) {r b : Nat} (hr : r < 2) (hb : b < 4) (hQ : Q (some (.int (sp_vi (sp_tip (S.2 r) b)))) h) : xm_call L xs (d + 2) m_V_tip [.ref 0, .int (nI r), .int (nI b)] h Q := by
  obtain ⟨g, hg, hg2⟩ := hV.2.1
  obtain ⟨a, ha7⟩ : ∃ a, a = 7 + 4 * r := ⟨_, rfl⟩
  have hR : ch_R h a (S.2 r) := by rw [ha7]; exact hV.2.2.2.1 r hr
  have hH := hV.2.2.1
  have hWR := hS.2 r hr
  obtain ⟨t, ht, ht2⟩ := hR.2.2.1
  refine x_call (lo := [.ref 0, .int (nI r), .int (nI b)]) (Nat.le_of_ble_eq_true rfl) rfl ?_
  refine x_iload_n (pc' := 1) d_V_tip_0 rfl rfl ?_
  refine x_static (as := [.int (nI r)]) (r := []) (v := (some (.int 1))) (h' := h) (st' := [.int 1]) (c' := 0) (s' := 0) (pc' := 4) d_V_tip_1 rfl c_V_30 rfl rfl (Nat.le_of_ble_eq_true rfl) (Nat.le_of_ble_eq_true rfl) (Nat.le_of_ble_eq_true rfl) (fun Q' hq => c_V_isRepository1 hr hq) rfl rfl rfl ?_
  refine x_ifeq (t := 14) (pc' := 7) d_V_tip_4 rfl rfl (fun q => absurd q (by decide)) (fun _ => ?_)
  refine x_iload_n (pc' := 8) d_V_tip_7 rfl rfl ?_
  refine x_static (as := [.int (nI b)]) (r := []) (v := (some (.int 1))) (h' := h) (st' := [.int 1]) (c' := 0) (s' := 0) (pc' := 11) d_V_tip_8 rfl c_V_80 rfl rfl (Nat.le_of_ble_eq_true rfl) (Nat.le_of_ble_eq_true rfl) (Nat.le_of_ble_eq_true rfl) (fun Q' hq => c_V_isBranch1 hb hq) rfl rfl rfl ?_
  refine x_ifne (t := 16) (pc' := 14) d_V_tip_11 rfl rfl (fun _ => ?_) (fun q => absurd q (by decide))
  refine x_aload_n (pc' := 17) d_V_tip_16 rfl rfl ?_
  refine x_getfield (ci := 3) (i := 1) (v := .ref 6) (pc' := 20) d_V_tip_17 rfl g_V_18 hV.1 rfl ?_
  refine x_iload_n (pc' := 21) d_V_tip_20 rfl rfl ?_
  refine x_aaload (q := a) (pc' := 22) d_V_tip_21 rfl hg (Or.inr rfl) (vp_in_nI hr (by decide)) (by rw [nI_clamp (by omega), hg2 r hr, ha7]) ?_
  refine x_getfield (ci := 1) (i := 0) (v := .ref (a + 1)) (pc' := 25) d_V_tip_22 rfl g_V_72 hR.2.1 rfl ?_
  refine x_iload_n (pc' := 26) d_V_tip_25 rfl rfl ?_
  refine x_iaload (v := sp_vi (sp_tip (S.2 r) b)) (pc' := 27) d_V_tip_26 rfl ht (vp_in_nI hb (by decide)) (by rw [nI_clamp (by omega), ht2 b hb]) ?_
  exact x_ireturn d_V_tip_27 rfl rfl hQ
theorem c_V_tip {L : Nat} {xs : Nat → Int32} {d : Nat} {h : xm_H} {Q : xm_Q} {S : sp_S} (hV : ch_V h S) (hS : sp_WS S) {x y : Int32} (hQ : Q (some (.int (sp_tipq S x y))) h) : xm_call L xs (d + 2) m_V_tip [.ref 0, .int x, .int y] h Q := by
  rcases sp_in_cases 2 (by decide) x with ⟨_, e⟩ | ⟨_, _, e⟩ | ⟨r, hr, rfl, e⟩
  · exact c_V_tip_x hV hS e (x_q (by unfold sp_tipq; rw [e]) hQ)
  · exact c_V_tip_x hV hS e (x_q (by unfold sp_tipq; rw [e]) hQ)
  · rcases sp_in_cases 4 (by decide) y with ⟨_, e2⟩ | ⟨_, _, e2⟩ | ⟨b, hb, rfl, e2⟩
    · exact c_V_tip_y hV hS hr e2 (x_q (by unfold sp_tipq; rw [e, e2]) hQ)
    · exact c_V_tip_y hV hS hr e2 (x_q (by unfold sp_tipq; rw [e, e2]) hQ)
    · exact c_V_tip_z hV hS hr hb (x_q (by unfold sp_tipq; rw [e, e2]) hQ)
theorem c_V_working_x {L : Nat} {xs : Nat → Int32} {d : Nat} {h : xm_H} {Q : xm_Q} {S : sp_S} (hV : ch_V h S) (hS : sp_WS S) {x y : Int32} (hx : sp_in 2 x = none) (hQ : Q (some (.long (-1))) h) : xm_call L xs (d + 2) m_V_working [.ref 0, .int x, .int y] h Q := by
  refine x_call (lo := [.ref 0, .int x, .int y]) (Nat.le_of_ble_eq_true rfl) rfl ?_
  refine x_iload_n (pc' := 1) d_V_working_0 rfl rfl ?_
  refine x_static (as := [.int x]) (r := []) (v := (some (.int 0))) (h' := h) (st' := [.int 0]) (c' := 0) (s' := 0) (pc' := 4) d_V_working_1 rfl c_V_30 rfl rfl (Nat.le_of_ble_eq_true rfl) (Nat.le_of_ble_eq_true rfl) (Nat.le_of_ble_eq_true rfl) (fun Q' hq => c_V_isRepository0 hx hq) rfl rfl rfl ?_
  refine x_ifeq (t := 14) (pc' := 7) d_V_working_4 rfl rfl (fun _ => ?_) (fun q => absurd rfl q)
  refine x_ldc2_w (x := (-1)) (pc' := 17) d_V_working_14 rfl k_V_109 ?_
  exact x_lreturn d_V_working_17 rfl hQ
theorem c_V_working_y {L : Nat} {xs : Nat → Int32} {d : Nat} {h : xm_H} {Q : xm_Q} {S : sp_S} (hV : ch_V h S) (hS : sp_WS S) {r : Nat} {y : Int32} (hr : r < 2) (hy : sp_in 4 y = none) (hQ : Q (some (.long (-1))) h) : xm_call L xs (d + 2) m_V_working [.ref 0, .int (nI r), .int y] h Q := by
  refine x_call (lo := [.ref 0, .int (nI r), .int y]) (Nat.le_of_ble_eq_true rfl) rfl ?_
  refine x_iload_n (pc' := 1) d_V_working_0 rfl rfl ?_
  refine x_static (as := [.int (nI r)]) (r := []) (v := (some (.int 1))) (h' := h) (st' := [.int 1]) (c' := 0) (s' := 0) (pc' := 4) d_V_working_1 rfl c_V_30 rfl rfl (Nat.le_of_ble_eq_true rfl) (Nat.le_of_ble_eq_true rfl) (Nat.le_of_ble_eq_true rfl) (fun Q' hq => c_V_isRepository1 hr hq) rfl rfl rfl ?_
  refine x_ifeq (t := 14) (pc' := 7) d_V_working_4 rfl rfl (fun q => absurd q (by decide)) (fun _ => ?_)
  refine x_iload_n (pc' := 8) d_V_working_7 rfl rfl ?_
  refine x_static (as := [.int y]) (r := []) (v := (some (.int 0))) (h' := h) (st' := [.int 0]) (c' := 0) (s' := 0) (pc' := 11) d_V_working_8 rfl c_V_34 rfl rfl (Nat.le_of_ble_eq_true rfl) (Nat.le_of_ble_eq_true rfl) (Nat.le_of_ble_eq_true rfl) (fun Q' hq => c_V_isFile0 hy hq) rfl rfl rfl ?_
  refine x_ifne (t := 18) (pc' := 14) d_V_working_11 rfl rfl (fun q => absurd rfl q) (fun _ => ?_)
  refine x_ldc2_w (x := (-1)) (pc' := 17) d_V_working_14 rfl k_V_109 ?_
  exact x_lreturn d_V_working_17 rfl hQ
theorem c_V_working_z {L : Nat} {xs : Nat → Int32} {d : Nat} {h : xm_H} {Q : xm_Q} {S : sp_S} (hV : ch_V h S) (hS : sp_WS S) {r f : Nat} (hr : r < 2) (hf : f < 4) (hQ : Q (some (.long (sp_tv (sp_wk (S.2 r) f)))) h) : xm_call L xs (d + 2) m_V_working [.ref 0, .int (nI r), .int (nI f)] h Q := by
  obtain ⟨g, hg, hg2⟩ := hV.2.1
  obtain ⟨a, ha7⟩ : ∃ a, a = 7 + 4 * r := ⟨_, rfl⟩
  have hR : ch_R h a (S.2 r) := by rw [ha7]; exact hV.2.2.2.1 r hr
  have hH := hV.2.2.1
  have hWR := hS.2 r hr
  obtain ⟨w, hw, hw2⟩ := hR.2.2.2.1
  obtain ⟨x, hx, hx2⟩ := hR.2.2.2.2
  refine x_call (lo := [.ref 0, .int (nI r), .int (nI f)]) (Nat.le_of_ble_eq_true rfl) rfl ?_
  refine x_iload_n (pc' := 1) d_V_working_0 rfl rfl ?_
  refine x_static (as := [.int (nI r)]) (r := []) (v := (some (.int 1))) (h' := h) (st' := [.int 1]) (c' := 0) (s' := 0) (pc' := 4) d_V_working_1 rfl c_V_30 rfl rfl (Nat.le_of_ble_eq_true rfl) (Nat.le_of_ble_eq_true rfl) (Nat.le_of_ble_eq_true rfl) (fun Q' hq => c_V_isRepository1 hr hq) rfl rfl rfl ?_
  refine x_ifeq (t := 14) (pc' := 7) d_V_working_4 rfl rfl (fun q => absurd q (by decide)) (fun _ => ?_)
  refine x_iload_n (pc' := 8) d_V_working_7 rfl rfl ?_
  refine x_static (as := [.int (nI f)]) (r := []) (v := (some (.int 1))) (h' := h) (st' := [.int 1]) (c' := 0) (s' := 0) (pc' := 11) d_V_working_8 rfl c_V_34 rfl rfl (Nat.le_of_ble_eq_true rfl) (Nat.le_of_ble_eq_true rfl) (Nat.le_of_ble_eq_true rfl) (fun Q' hq => c_V_isFile1 hf hq) rfl rfl rfl ?_
  refine x_ifne (t := 18) (pc' := 14) d_V_working_11 rfl rfl (fun _ => ?_) (fun q => absurd q (by decide))
  refine x_aload_n (pc' := 19) d_V_working_18 rfl rfl ?_
  refine x_getfield (ci := 3) (i := 1) (v := .ref 6) (pc' := 22) d_V_working_19 rfl g_V_18 hV.1 rfl ?_
  refine x_iload_n (pc' := 23) d_V_working_22 rfl rfl ?_
  refine x_aaload (q := a) (pc' := 24) d_V_working_23 rfl hg (Or.inr rfl) (vp_in_nI hr (by decide)) (by rw [nI_clamp (by omega), hg2 r hr, ha7]) ?_
  refine x_getfield (ci := 1) (i := 1) (v := .ref (a + 2)) (pc' := 27) d_V_working_24 rfl g_V_37 hR.2.1 rfl ?_
  refine x_iload_n (pc' := 28) d_V_working_27 rfl rfl ?_
  refine x_laload (v := sp_tv (sp_wk (S.2 r) f)) (pc' := 29) d_V_working_28 rfl hw (vp_in_nI hf (by decide)) (by rw [nI_clamp (by omega), hw2 f hf]) ?_
  exact x_lreturn d_V_working_29 rfl hQ
theorem c_V_working {L : Nat} {xs : Nat → Int32} {d : Nat} {h : xm_H} {Q : xm_Q} {S : sp_S} (hV : ch_V h S) (hS : sp_WS S) {x y : Int32} (hQ : Q (some (.long (sp_working S x y))) h) : xm_call L xs (d + 2) m_V_working [.ref 0, .int x, .int y] h Q := by
  rcases sp_in_cases 2 (by decide) x with ⟨_, e⟩ | ⟨_, _, e⟩ | ⟨r, hr, rfl, e⟩
  · exact c_V_working_x hV hS e (x_ql (by unfold sp_working; rw [e]) hQ)
  · exact c_V_working_x hV hS e (x_ql (by unfold sp_working; rw [e]) hQ)
  · rcases sp_in_cases 4 (by decide) y with ⟨_, e2⟩ | ⟨_, _, e2⟩ | ⟨b, hb, rfl, e2⟩
    · exact c_V_working_y hV hS hr e2 (x_ql (by unfold sp_working; rw [e, e2]) hQ)
    · exact c_V_working_y hV hS hr e2 (x_ql (by unfold sp_working; rw [e, e2]) hQ)
    · exact c_V_working_z hV hS hr hb (x_ql (by unfold sp_working; rw [e, e2]) hQ)
theorem c_V_staged_x {L : Nat} {xs : Nat → Int32} {d : Nat} {h : xm_H} {Q : xm_Q} {S : sp_S} (hV : ch_V h S) (hS : sp_WS S) {x y : Int32} (hx : sp_in 2 x = none) (hQ : Q (some (.long (-1))) h) : xm_call L xs (d + 2) m_V_staged [.ref 0, .int x, .int y] h Q := by
  refine x_call (lo := [.ref 0, .int x, .int y]) (Nat.le_of_ble_eq_true rfl) rfl ?_
  refine x_iload_n (pc' := 1) d_V_staged_0 rfl rfl ?_
  refine x_static (as := [.int x]) (r := []) (v := (some (.int 0))) (h' := h) (st' := [.int 0]) (c' := 0) (s' := 0) (pc' := 4) d_V_staged_1 rfl c_V_30 rfl rfl (Nat.le_of_ble_eq_true rfl) (Nat.le_of_ble_eq_true rfl) (Nat.le_of_ble_eq_true rfl) (fun Q' hq => c_V_isRepository0 hx hq) rfl rfl rfl ?_
  refine x_ifeq (t := 14) (pc' := 7) d_V_staged_4 rfl rfl (fun _ => ?_) (fun q => absurd rfl q)
  refine x_ldc2_w (x := (-1)) (pc' := 17) d_V_staged_14 rfl k_V_109 ?_
  exact x_lreturn d_V_staged_17 rfl hQ
theorem c_V_staged_y {L : Nat} {xs : Nat → Int32} {d : Nat} {h : xm_H} {Q : xm_Q} {S : sp_S} (hV : ch_V h S) (hS : sp_WS S) {r : Nat} {y : Int32} (hr : r < 2) (hy : sp_in 4 y = none) (hQ : Q (some (.long (-1))) h) : xm_call L xs (d + 2) m_V_staged [.ref 0, .int (nI r), .int y] h Q := by
  refine x_call (lo := [.ref 0, .int (nI r), .int y]) (Nat.le_of_ble_eq_true rfl) rfl ?_
  refine x_iload_n (pc' := 1) d_V_staged_0 rfl rfl ?_
  refine x_static (as := [.int (nI r)]) (r := []) (v := (some (.int 1))) (h' := h) (st' := [.int 1]) (c' := 0) (s' := 0) (pc' := 4) d_V_staged_1 rfl c_V_30 rfl rfl (Nat.le_of_ble_eq_true rfl) (Nat.le_of_ble_eq_true rfl) (Nat.le_of_ble_eq_true rfl) (fun Q' hq => c_V_isRepository1 hr hq) rfl rfl rfl ?_
  refine x_ifeq (t := 14) (pc' := 7) d_V_staged_4 rfl rfl (fun q => absurd q (by decide)) (fun _ => ?_)
  refine x_iload_n (pc' := 8) d_V_staged_7 rfl rfl ?_
  refine x_static (as := [.int y]) (r := []) (v := (some (.int 0))) (h' := h) (st' := [.int 0]) (c' := 0) (s' := 0) (pc' := 11) d_V_staged_8 rfl c_V_34 rfl rfl (Nat.le_of_ble_eq_true rfl) (Nat.le_of_ble_eq_true rfl) (Nat.le_of_ble_eq_true rfl) (fun Q' hq => c_V_isFile0 hy hq) rfl rfl rfl ?_
  refine x_ifne (t := 18) (pc' := 14) d_V_staged_11 rfl rfl (fun q => absurd rfl q) (fun _ => ?_)
  refine x_ldc2_w (x := (-1)) (pc' := 17) d_V_staged_14 rfl k_V_109 ?_
  exact x_lreturn d_V_staged_17 rfl hQ
theorem c_V_staged_z {L : Nat} {xs : Nat → Int32} {d : Nat} {h : xm_H} {Q : xm_Q} {S : sp_S} (hV : ch_V h S) (hS : sp_WS S) {r f : Nat} (hr : r < 2) (hf : f < 4) (hQ : Q (some (.long (sp_tv (sp_ix (S.2 r) f)))) h) : xm_call L xs (d + 2) m_V_staged [.ref 0, .int (nI r), .int (nI f)] h Q := by
  obtain ⟨g, hg, hg2⟩ := hV.2.1
  obtain ⟨a, ha7⟩ : ∃ a, a = 7 + 4 * r := ⟨_, rfl⟩
  have hR : ch_R h a (S.2 r) := by rw [ha7]; exact hV.2.2.2.1 r hr
  have hH := hV.2.2.1
  have hWR := hS.2 r hr
  obtain ⟨w, hw, hw2⟩ := hR.2.2.2.1
  obtain ⟨x, hx, hx2⟩ := hR.2.2.2.2
  refine x_call (lo := [.ref 0, .int (nI r), .int (nI f)]) (Nat.le_of_ble_eq_true rfl) rfl ?_
  refine x_iload_n (pc' := 1) d_V_staged_0 rfl rfl ?_
  refine x_static (as := [.int (nI r)]) (r := []) (v := (some (.int 1))) (h' := h) (st' := [.int 1]) (c' := 0) (s' := 0) (pc' := 4) d_V_staged_1 rfl c_V_30 rfl rfl (Nat.le_of_ble_eq_true rfl) (Nat.le_of_ble_eq_true rfl) (Nat.le_of_ble_eq_true rfl) (fun Q' hq => c_V_isRepository1 hr hq) rfl rfl rfl ?_
  refine x_ifeq (t := 14) (pc' := 7) d_V_staged_4 rfl rfl (fun q => absurd q (by decide)) (fun _ => ?_)
  refine x_iload_n (pc' := 8) d_V_staged_7 rfl rfl ?_
  refine x_static (as := [.int (nI f)]) (r := []) (v := (some (.int 1))) (h' := h) (st' := [.int 1]) (c' := 0) (s' := 0) (pc' := 11) d_V_staged_8 rfl c_V_34 rfl rfl (Nat.le_of_ble_eq_true rfl) (Nat.le_of_ble_eq_true rfl) (Nat.le_of_ble_eq_true rfl) (fun Q' hq => c_V_isFile1 hf hq) rfl rfl rfl ?_
  refine x_ifne (t := 18) (pc' := 14) d_V_staged_11 rfl rfl (fun _ => ?_) (fun q => absurd q (by decide))
  refine x_aload_n (pc' := 19) d_V_staged_18 rfl rfl ?_
  refine x_getfield (ci := 3) (i := 1) (v := .ref 6) (pc' := 22) d_V_staged_19 rfl g_V_18 hV.1 rfl ?_
  refine x_iload_n (pc' := 23) d_V_staged_22 rfl rfl ?_
  refine x_aaload (q := a) (pc' := 24) d_V_staged_23 rfl hg (Or.inr rfl) (vp_in_nI hr (by decide)) (by rw [nI_clamp (by omega), hg2 r hr, ha7]) ?_
  refine x_getfield (ci := 1) (i := 2) (v := .ref (a + 3)) (pc' := 27) d_V_staged_24 rfl g_V_49 hR.2.1 rfl ?_
  refine x_iload_n (pc' := 28) d_V_staged_27 rfl rfl ?_
  refine x_laload (v := sp_tv (sp_ix (S.2 r) f)) (pc' := 29) d_V_staged_28 rfl hx (vp_in_nI hf (by decide)) (by rw [nI_clamp (by omega), hx2 f hf]) ?_
  exact x_lreturn d_V_staged_29 rfl hQ
theorem c_V_staged {L : Nat} {xs : Nat → Int32} {d : Nat} {h : xm_H} {Q : xm_Q} {S : sp_S} (hV : ch_V h S) (hS : sp_WS S) {x y : Int32} (hQ : Q (some (.long (sp_staged S x y))) h) : xm_call L xs (d + 2) m_V_staged [.ref 0, .int x, .int y] h Q := by
  rcases sp_in_cases 2 (by decide) x with ⟨_, e⟩ | ⟨_, _, e⟩ | ⟨r, hr, rfl, e⟩
  · exact c_V_staged_x hV hS e (x_ql (by unfold sp_staged; rw [e]) hQ)
  · exact c_V_staged_x hV hS e (x_ql (by unfold sp_staged; rw [e]) hQ)
  · rcases sp_in_cases 4 (by decide) y with ⟨_, e2⟩ | ⟨_, _, e2⟩ | ⟨b, hb, rfl, e2⟩
    · exact c_V_staged_y hV hS hr e2 (x_ql (by unfold sp_staged; rw [e, e2]) hQ)
    · exact c_V_staged_y hV hS hr e2 (x_ql (by unfold sp_staged; rw [e, e2]) hQ)
    · exact c_V_staged_z hV hS hr hb (x_ql (by unfold sp_staged; rw [e, e2]) hQ)
theorem c_V_current_x {L : Nat} {xs : Nat → Int32} {d : Nat} {h : xm_H} {Q : xm_Q} {S : sp_S} (hV : ch_V h S) (hS : sp_WS S) {x : Int32} (hx : sp_in 2 x = none) (hQ : Q (some (.int (-1))) h) : xm_call L xs (d + 2) m_V_current [.ref 0, .int x] h Q := by
  refine x_call (lo := [.ref 0, .int x]) (Nat.le_of_ble_eq_true rfl) rfl ?_
  refine x_iload_n (pc' := 1) d_V_current_0 rfl rfl ?_
  refine x_static (as := [.int x]) (r := []) (v := (some (.int 0))) (h' := h) (st' := [.int 0]) (c' := 0) (s' := 0) (pc' := 4) d_V_current_1 rfl c_V_30 rfl rfl (Nat.le_of_ble_eq_true rfl) (Nat.le_of_ble_eq_true rfl) (Nat.le_of_ble_eq_true rfl) (fun Q' hq => c_V_isRepository0 hx hq) rfl rfl rfl ?_
  refine x_ifeq (t := 19) (pc' := 7) d_V_current_4 rfl rfl (fun _ => ?_) (fun q => absurd rfl q)
  refine x_iconst (v := (-1)) (pc' := 20) d_V_current_19 rfl (by decide) ?_
  exact x_ireturn d_V_current_20 rfl rfl hQ
theorem c_V_current_z {L : Nat} {xs : Nat → Int32} {d : Nat} {h : xm_H} {Q : xm_Q} {S : sp_S} (hV : ch_V h S) (hS : sp_WS S) {r : Nat} (hr : r < 2) (hQ : Q (some (.int (nI (sp_cur (S.2 r))))) h) : xm_call L xs (d + 2) m_V_current [.ref 0, .int (nI r)] h Q := by
  obtain ⟨g, hg, hg2⟩ := hV.2.1
  obtain ⟨a, ha7⟩ : ∃ a, a = 7 + 4 * r := ⟨_, rfl⟩
  have hR : ch_R h a (S.2 r) := by rw [ha7]; exact hV.2.2.2.1 r hr
  have hH := hV.2.2.1
  have hWR := hS.2 r hr
  refine x_call (lo := [.ref 0, .int (nI r)]) (Nat.le_of_ble_eq_true rfl) rfl ?_
  refine x_iload_n (pc' := 1) d_V_current_0 rfl rfl ?_
  refine x_static (as := [.int (nI r)]) (r := []) (v := (some (.int 1))) (h' := h) (st' := [.int 1]) (c' := 0) (s' := 0) (pc' := 4) d_V_current_1 rfl c_V_30 rfl rfl (Nat.le_of_ble_eq_true rfl) (Nat.le_of_ble_eq_true rfl) (Nat.le_of_ble_eq_true rfl) (fun Q' hq => c_V_isRepository1 hr hq) rfl rfl rfl ?_
  refine x_ifeq (t := 19) (pc' := 7) d_V_current_4 rfl rfl (fun q => absurd q (by decide)) (fun _ => ?_)
  refine x_aload_n (pc' := 8) d_V_current_7 rfl rfl ?_
  refine x_getfield (ci := 3) (i := 1) (v := .ref 6) (pc' := 11) d_V_current_8 rfl g_V_18 hV.1 rfl ?_
  refine x_iload_n (pc' := 12) d_V_current_11 rfl rfl ?_
  refine x_aaload (q := a) (pc' := 13) d_V_current_12 rfl hg (Or.inr rfl) (vp_in_nI hr (by decide)) (by rw [nI_clamp (by omega), hg2 r hr, ha7]) ?_
  refine x_getfield (ci := 1) (i := 4) (v := .int (nI (sp_cur (S.2 r)))) (pc' := 16) d_V_current_13 rfl g_V_76 hR.2.1 rfl ?_
  refine x_goto (t := 20) d_V_current_16 rfl ?_
  exact x_ireturn d_V_current_20 rfl rfl hQ
theorem c_V_current {L : Nat} {xs : Nat → Int32} {d : Nat} {h : xm_H} {Q : xm_Q} {S : sp_S} (hV : ch_V h S) (hS : sp_WS S) {x : Int32} (hQ : Q (some (.int (sp_current S x))) h) : xm_call L xs (d + 2) m_V_current [.ref 0, .int x] h Q := by
  rcases sp_in_cases 2 (by decide) x with ⟨_, e⟩ | ⟨_, _, e⟩ | ⟨r, hr, rfl, e⟩
  · exact c_V_current_x hV hS e (x_q (by unfold sp_current; rw [e]) hQ)
  · exact c_V_current_x hV hS e (x_q (by unfold sp_current; rw [e]) hQ)
  · exact c_V_current_z hV hS hr (x_q (by unfold sp_current; rw [e]) hQ)
theorem c_V_commits {L : Nat} {xs : Nat → Int32} {d : Nat} {h : xm_H} {Q : xm_Q} {S : sp_S} (hV : ch_V h S) (hS : sp_WS S) (hQ : Q (some (.int (nI (sp_n S.1)))) h) : xm_call L xs (d + 1) m_V_commits [.ref 0] h Q := by
  refine x_call (lo := [.ref 0]) (Nat.le_of_ble_eq_true rfl) rfl ?_
  refine x_aload_n (pc' := 1) d_V_commits_0 rfl rfl ?_
  refine x_getfield (ci := 3) (i := 0) (v := .ref 1) (pc' := 4) d_V_commits_1 rfl g_V_10 hV.1 rfl ?_
  refine x_getfield (ci := 0) (i := 4) (v := .int (nI (sp_n S.1))) (pc' := 7) d_V_commits_4 rfl g_V_111 hV.2.2.1.1.2 rfl ?_
  exact x_ireturn d_V_commits_7 rfl rfl hQ
theorem c_V_holds_x {L : Nat} {xs : Nat → Int32} {d : Nat} {h : xm_H} {Q : xm_Q} {S : sp_S} (hV : ch_V h S) (hS : sp_WS S) {x y : Int32} (hx : sp_in 2 x = none) (hQ : Q (some (.int 0)) h) : xm_call L xs (d + 3) m_V_holds [.ref 0, .int x, .int y] h Q := by
  refine x_call (lo := [.ref 0, .int x, .int y]) (Nat.le_of_ble_eq_true rfl) rfl ?_
  refine x_iload_n (pc' := 1) d_V_holds_0 rfl rfl ?_
  refine x_static (as := [.int x]) (r := []) (v := (some (.int 0))) (h' := h) (st' := [.int 0]) (c' := 0) (s' := 0) (pc' := 4) d_V_holds_1 rfl c_V_30 rfl rfl (Nat.le_of_ble_eq_true rfl) (Nat.le_of_ble_eq_true rfl) (Nat.le_of_ble_eq_true rfl) (fun Q' hq => c_V_isRepository0 hx hq) rfl rfl rfl ?_
  refine x_ifeq (t := 25) (pc' := 7) d_V_holds_4 rfl rfl (fun _ => ?_) (fun q => absurd rfl q)
  refine x_iconst (v := 0) (pc' := 26) d_V_holds_25 rfl (by decide) ?_
  exact x_ireturn d_V_holds_26 rfl rfl hQ
theorem c_V_holds_y {L : Nat} {xs : Nat → Int32} {d : Nat} {h : xm_H} {Q : xm_Q} {S : sp_S} (hV : ch_V h S) (hS : sp_WS S) {r : Nat} {y : Int32} (hr : r < 2) (hy : sp_in (sp_n S.1) y = none) (hQ : Q (some (.int 0)) h) : xm_call L xs (d + 3) m_V_holds [.ref 0, .int (nI r), .int y] h Q := by
  obtain ⟨g, hg, hg2⟩ := hV.2.1
  obtain ⟨a, ha7⟩ : ∃ a, a = 7 + 4 * r := ⟨_, rfl⟩
  have hR : ch_R h a (S.2 r) := by rw [ha7]; exact hV.2.2.2.1 r hr
  have hH := hV.2.2.1
  have hWR := hS.2 r hr
  refine x_call (lo := [.ref 0, .int (nI r), .int y]) (Nat.le_of_ble_eq_true rfl) rfl ?_
  refine x_iload_n (pc' := 1) d_V_holds_0 rfl rfl ?_
  refine x_static (as := [.int (nI r)]) (r := []) (v := (some (.int 1))) (h' := h) (st' := [.int 1]) (c' := 0) (s' := 0) (pc' := 4) d_V_holds_1 rfl c_V_30 rfl rfl (Nat.le_of_ble_eq_true rfl) (Nat.le_of_ble_eq_true rfl) (Nat.le_of_ble_eq_true rfl) (fun Q' hq => c_V_isRepository1 hr hq) rfl rfl rfl ?_
  refine x_ifeq (t := 25) (pc' := 7) d_V_holds_4 rfl rfl (fun q => absurd q (by decide)) (fun _ => ?_)
  refine x_aload_n (pc' := 8) d_V_holds_7 rfl rfl ?_
  refine x_aload_n (pc' := 9) d_V_holds_8 rfl rfl ?_
  refine x_getfield (ci := 3) (i := 1) (v := .ref 6) (pc' := 12) d_V_holds_9 rfl g_V_18 hV.1 rfl ?_
  refine x_iload_n (pc' := 13) d_V_holds_12 rfl rfl ?_
  refine x_aaload (q := a) (pc' := 14) d_V_holds_13 rfl hg (Or.inr rfl) (vp_in_nI hr (by decide)) (by rw [nI_clamp (by omega), hg2 r hr, ha7]) ?_
  refine x_iload_n (pc' := 15) d_V_holds_14 rfl rfl ?_
  refine x_virtual (a := 0) (as := [.ref a, .int y]) (r := []) (v := (some (.int 0))) (h' := h) (st' := [.int 0]) (c' := 0) (s' := 0) (pc' := 18) d_V_holds_15 rfl c_V_102 hV.1 rfl rfl (Nat.le_of_ble_eq_true rfl) (Nat.le_of_ble_eq_true rfl) (Nat.le_of_ble_eq_true rfl) (fun Q' hq => c_V_isHeld0 hV.1 hH hy hq) rfl rfl rfl ?_
  refine x_ifeq (t := 25) (pc' := 21) d_V_holds_18 rfl rfl (fun _ => ?_) (fun q => absurd rfl q)
  refine x_iconst (v := 0) (pc' := 26) d_V_holds_25 rfl (by decide) ?_
  exact x_ireturn d_V_holds_26 rfl rfl hQ
theorem c_V_holds_z {L : Nat} {xs : Nat → Int32} {d : Nat} {h : xm_H} {Q : xm_Q} {S : sp_S} (hV : ch_V h S) (hS : sp_WS S) {r c : Nat} (hr : r < 2) (hc : c < sp_n S.1) (hQ : Q (some (.int (sp_bi ((sp_held (S.2 r)).testBit c)))) h) : xm_call L xs (d + 3) m_V_holds [.ref 0, .int (nI r), .int (nI c)] h Q := by
  obtain ⟨g, hg, hg2⟩ := hV.2.1
  obtain ⟨a, ha7⟩ : ∃ a, a = 7 + 4 * r := ⟨_, rfl⟩
  have hR : ch_R h a (S.2 r) := by rw [ha7]; exact hV.2.2.2.1 r hr
  have hH := hV.2.2.1
  have hWR := hS.2 r hr
  refine x_call (lo := [.ref 0, .int (nI r), .int (nI c)]) (Nat.le_of_ble_eq_true rfl) rfl ?_
  refine x_iload_n (pc' := 1) d_V_holds_0 rfl rfl ?_
  refine x_static (as := [.int (nI r)]) (r := []) (v := (some (.int 1))) (h' := h) (st' := [.int 1]) (c' := 0) (s' := 0) (pc' := 4) d_V_holds_1 rfl c_V_30 rfl rfl (Nat.le_of_ble_eq_true rfl) (Nat.le_of_ble_eq_true rfl) (Nat.le_of_ble_eq_true rfl) (fun Q' hq => c_V_isRepository1 hr hq) rfl rfl rfl ?_
  refine x_ifeq (t := 25) (pc' := 7) d_V_holds_4 rfl rfl (fun q => absurd q (by decide)) (fun _ => ?_)
  refine x_aload_n (pc' := 8) d_V_holds_7 rfl rfl ?_
  refine x_aload_n (pc' := 9) d_V_holds_8 rfl rfl ?_
  refine x_getfield (ci := 3) (i := 1) (v := .ref 6) (pc' := 12) d_V_holds_9 rfl g_V_18 hV.1 rfl ?_
  refine x_iload_n (pc' := 13) d_V_holds_12 rfl rfl ?_
  refine x_aaload (q := a) (pc' := 14) d_V_holds_13 rfl hg (Or.inr rfl) (vp_in_nI hr (by decide)) (by rw [nI_clamp (by omega), hg2 r hr, ha7]) ?_
  refine x_iload_n (pc' := 15) d_V_holds_14 rfl rfl ?_
  refine x_virtual (a := 0) (as := [.ref a, .int (nI c)]) (r := []) (v := (some (.int (sp_bi ((sp_held (S.2 r)).testBit c))))) (h' := h) (st' := [.int (sp_bi ((sp_held (S.2 r)).testBit c))]) (c' := 0) (s' := 0) (pc' := 18) d_V_holds_15 rfl c_V_102 hV.1 rfl rfl (Nat.le_of_ble_eq_true rfl) (Nat.le_of_ble_eq_true rfl) (Nat.le_of_ble_eq_true rfl) (fun Q' hq => c_V_isHeld1 hV.1 hH hR hc (Nat.lt_of_lt_of_le hWR.2.2.1 (Nat.pow_le_pow_right (by decide) (by have := hS.1.1; omega))) hq) rfl rfl rfl ?_
  refine x_ifeq (t := 25) (pc' := 21) d_V_holds_18 rfl rfl (fun q1 => ?_) (fun q1 => ?_)
  · refine x_iconst (v := 0) (pc' := 26) d_V_holds_25 rfl (by decide) ?_
    exact x_ireturn d_V_holds_26 rfl rfl (x_q (by first | (rw [sp_bi_eq0.mp q1]; rfl) | (rw [sp_bi_ne0 q1]; rfl)) hQ)
  · refine x_iconst (v := 1) (pc' := 22) d_V_holds_21 rfl (by decide) ?_
    refine x_goto (t := 26) d_V_holds_22 rfl ?_
    exact x_ireturn d_V_holds_26 rfl rfl (x_q (by first | (rw [sp_bi_eq0.mp q1]; rfl) | (rw [sp_bi_ne0 q1]; rfl)) hQ)
theorem c_V_holds {L : Nat} {xs : Nat → Int32} {d : Nat} {h : xm_H} {Q : xm_Q} {S : sp_S} (hV : ch_V h S) (hS : sp_WS S) {x y : Int32} (hQ : Q (some (.int (sp_holds S x y))) h) : xm_call L xs (d + 3) m_V_holds [.ref 0, .int x, .int y] h Q := by
  have h40 := hS.1.1
  rcases sp_in_cases 2 (by decide) x with ⟨_, e⟩ | ⟨_, _, e⟩ | ⟨r, hr, rfl, e⟩
  · exact c_V_holds_x hV hS e (x_q (by unfold sp_holds; rw [e]) hQ)
  · exact c_V_holds_x hV hS e (x_q (by unfold sp_holds; rw [e]) hQ)
  · rcases sp_in_cases (sp_n S.1) (by omega) y with ⟨_, e2⟩ | ⟨_, _, e2⟩ | ⟨b, hb, rfl, e2⟩
    · exact c_V_holds_y hV hS hr e2 (x_q (by unfold sp_holds; rw [e, e2]) hQ)
    · exact c_V_holds_y hV hS hr e2 (x_q (by unfold sp_holds; rw [e, e2]) hQ)
    · exact c_V_holds_z hV hS hr hb (x_q (by unfold sp_holds; rw [e, e2]) hQ)
theorem c_V_parent_x {L : Nat} {xs : Nat → Int32} {d : Nat} {h : xm_H} {Q : xm_Q} {S : sp_S} (hV : ch_V h S) (hS : sp_WS S) {x y : Int32} (hx : sp_in (sp_n S.1) x = none) (hQ : Q (some (.int (-1))) h) : xm_call L xs (d + 3) m_V_parent [.ref 0, .int x, .int y] h Q := by
  refine x_call (lo := [.ref 0, .int x, .int y]) (Nat.le_of_ble_eq_true rfl) rfl ?_
  refine x_aload_n (pc' := 1) d_V_parent_0 rfl rfl ?_
  refine x_getfield (ci := 3) (i := 0) (v := .ref 1) (pc' := 4) d_V_parent_1 rfl g_V_10 hV.1 rfl ?_
  refine x_iload_n (pc' := 5) d_V_parent_4 rfl rfl ?_
  refine x_virtual (a := 1) (as := [.int x]) (r := []) (v := (some (.int 0))) (h' := h) (st' := [.int 0]) (c' := 0) (s' := 0) (pc' := 8) d_V_parent_5 rfl c_V_128 hV.2.2.1.1.2 rfl rfl (Nat.le_of_ble_eq_true rfl) (Nat.le_of_ble_eq_true rfl) (Nat.le_of_ble_eq_true rfl) (fun Q' hq => c_H_unmade hV.2.2.1.1 hx hq) rfl rfl rfl ?_
  refine x_ifeq (t := 20) (pc' := 11) d_V_parent_8 rfl rfl (fun _ => ?_) (fun q => absurd rfl q)
  refine x_iconst (v := (-1)) (pc' := 21) d_V_parent_20 rfl (by decide) ?_
  exact x_ireturn d_V_parent_21 rfl rfl hQ
theorem c_V_parent_y1 {L : Nat} {xs : Nat → Int32} {d : Nat} {h : xm_H} {Q : xm_Q} {S : sp_S} (hV : ch_V h S) (hS : sp_WS S) {c : Nat} {y : Int32} (hc : c < sp_n S.1) (hy : y < 0) (hQ : Q (some (.int (-1))) h) : xm_call L xs (d + 3) m_V_parent [.ref 0, .int (nI c), .int y] h Q := by
  refine x_call (lo := [.ref 0, .int (nI c), .int y]) (Nat.le_of_ble_eq_true rfl) rfl ?_
  refine x_aload_n (pc' := 1) d_V_parent_0 rfl rfl ?_
  refine x_getfield (ci := 3) (i := 0) (v := .ref 1) (pc' := 4) d_V_parent_1 rfl g_V_10 hV.1 rfl ?_
  refine x_iload_n (pc' := 5) d_V_parent_4 rfl rfl ?_
  refine x_virtual (a := 1) (as := [.int (nI c)]) (r := []) (v := (some (.int 1))) (h' := h) (st' := [.int 1]) (c' := 0) (s' := 0) (pc' := 8) d_V_parent_5 rfl c_V_128 hV.2.2.1.1.2 rfl rfl (Nat.le_of_ble_eq_true rfl) (Nat.le_of_ble_eq_true rfl) (Nat.le_of_ble_eq_true rfl) (fun Q' hq => c_H_made hV.2.2.1.1 hc hq) rfl rfl rfl ?_
  refine x_ifeq (t := 20) (pc' := 11) d_V_parent_8 rfl rfl (fun q => absurd q (by decide)) (fun _ => ?_)
  refine x_iload_n (pc' := 12) d_V_parent_11 rfl rfl ?_
  refine x_iflt (t := 20) (pc' := 15) d_V_parent_12 rfl rfl (fun _ => ?_) (fun q => absurd hy q)
  refine x_iconst (v := (-1)) (pc' := 21) d_V_parent_20 rfl (by decide) ?_
  exact x_ireturn d_V_parent_21 rfl rfl hQ
theorem c_V_parent_y2 {L : Nat} {xs : Nat → Int32} {d : Nat} {h : xm_H} {Q : xm_Q} {S : sp_S} (hV : ch_V h S) (hS : sp_WS S) {c : Nat} {y : Int32} (hc : c < sp_n S.1) (hy0 : ¬ y < 0) (hy : nI 2 ≤ y) (hQ : Q (some (.int (-1))) h) : xm_call L xs (d + 3) m_V_parent [.ref 0, .int (nI c), .int y] h Q := by
  have hy1 : ¬ y ≤ 1 := by
    rw [Int32.le_iff_toInt_le] at hy ⊢
    have h1 : (nI 2).toInt = 2 := by decide
    have h2 : (1 : Int32).toInt = 1 := by decide
    omega
  refine x_call (lo := [.ref 0, .int (nI c), .int y]) (Nat.le_of_ble_eq_true rfl) rfl ?_
  refine x_aload_n (pc' := 1) d_V_parent_0 rfl rfl ?_
  refine x_getfield (ci := 3) (i := 0) (v := .ref 1) (pc' := 4) d_V_parent_1 rfl g_V_10 hV.1 rfl ?_
  refine x_iload_n (pc' := 5) d_V_parent_4 rfl rfl ?_
  refine x_virtual (a := 1) (as := [.int (nI c)]) (r := []) (v := (some (.int 1))) (h' := h) (st' := [.int 1]) (c' := 0) (s' := 0) (pc' := 8) d_V_parent_5 rfl c_V_128 hV.2.2.1.1.2 rfl rfl (Nat.le_of_ble_eq_true rfl) (Nat.le_of_ble_eq_true rfl) (Nat.le_of_ble_eq_true rfl) (fun Q' hq => c_H_made hV.2.2.1.1 hc hq) rfl rfl rfl ?_
  refine x_ifeq (t := 20) (pc' := 11) d_V_parent_8 rfl rfl (fun q => absurd q (by decide)) (fun _ => ?_)
  refine x_iload_n (pc' := 12) d_V_parent_11 rfl rfl ?_
  refine x_iflt (t := 20) (pc' := 15) d_V_parent_12 rfl rfl (fun q => absurd q hy0) (fun _ => ?_)
  refine x_iload_n (pc' := 16) d_V_parent_15 rfl rfl ?_
  refine x_iconst (v := 1) (pc' := 17) d_V_parent_16 rfl (by decide) ?_
  refine x_icmple (t := 22) (pc' := 20) d_V_parent_17 rfl rfl (fun q => absurd q hy1) (fun _ => ?_)
  refine x_iconst (v := (-1)) (pc' := 21) d_V_parent_20 rfl (by decide) ?_
  exact x_ireturn d_V_parent_21 rfl rfl hQ
theorem c_V_parent_0 {L : Nat} {xs : Nat → Int32} {d : Nat} {h : xm_H} {Q : xm_Q} {S : sp_S} (hV : ch_V h S) (hS : sp_WS S) {c : Nat} (hc : c < sp_n S.1) (hQ : Q (some (.int (sp_vi (sp_p1 S.1 c)))) h) : xm_call L xs (d + 3) m_V_parent [.ref 0, .int (nI c), .int (nI 0)] h Q := by
  refine x_call (lo := [.ref 0, .int (nI c), .int (nI 0)]) (Nat.le_of_ble_eq_true rfl) rfl ?_
  refine x_aload_n (pc' := 1) d_V_parent_0 rfl rfl ?_
  refine x_getfield (ci := 3) (i := 0) (v := .ref 1) (pc' := 4) d_V_parent_1 rfl g_V_10 hV.1 rfl ?_
  refine x_iload_n (pc' := 5) d_V_parent_4 rfl rfl ?_
  refine x_virtual (a := 1) (as := [.int (nI c)]) (r := []) (v := (some (.int 1))) (h' := h) (st' := [.int 1]) (c' := 0) (s' := 0) (pc' := 8) d_V_parent_5 rfl c_V_128 hV.2.2.1.1.2 rfl rfl (Nat.le_of_ble_eq_true rfl) (Nat.le_of_ble_eq_true rfl) (Nat.le_of_ble_eq_true rfl) (fun Q' hq => c_H_made hV.2.2.1.1 hc hq) rfl rfl rfl ?_
  refine x_ifeq (t := 20) (pc' := 11) d_V_parent_8 rfl rfl (fun q => absurd q (by decide)) (fun _ => ?_)
  refine x_iload_n (pc' := 12) d_V_parent_11 rfl rfl ?_
  refine x_iflt (t := 20) (pc' := 15) d_V_parent_12 rfl rfl (fun q => absurd q (by decide)) (fun _ => ?_)
  refine x_iload_n (pc' := 16) d_V_parent_15 rfl rfl ?_
  refine x_iconst (v := 1) (pc' := 17) d_V_parent_16 rfl (by decide) ?_
  refine x_icmple (t := 22) (pc' := 20) d_V_parent_17 rfl rfl (fun _ => ?_) (fun q => absurd (by decide) q)
  refine x_iload_n (pc' := 23) d_V_parent_22 rfl rfl ?_
  refine x_ifne (t := 37) (pc' := 26) d_V_parent_23 rfl rfl (fun q => absurd (by decide) q) (fun _ => ?_)
  refine x_aload_n (pc' := 27) d_V_parent_26 rfl rfl ?_
  refine x_getfield (ci := 3) (i := 0) (v := .ref 1) (pc' := 30) d_V_parent_27 rfl g_V_10 hV.1 rfl ?_
  refine x_iload_n (pc' := 31) d_V_parent_30 rfl rfl ?_
  refine x_virtual (a := 1) (as := [.int (nI c)]) (r := []) (v := (some (.int (sp_vi (sp_p1 S.1 c))))) (h' := h) (st' := [.int (sp_vi (sp_p1 S.1 c))]) (c' := 0) (s' := 0) (pc' := 34) d_V_parent_31 rfl c_V_131 hV.2.2.1.1.2 rfl rfl (Nat.le_of_ble_eq_true rfl) (Nat.le_of_ble_eq_true rfl) (Nat.le_of_ble_eq_true rfl) (fun Q' hq => c_H_firstParentOf hV.2.2.1 hc hq) rfl rfl rfl ?_
  refine x_goto (t := 45) d_V_parent_34 rfl ?_
  exact x_ireturn d_V_parent_45 rfl rfl hQ
theorem c_V_parent_1 {L : Nat} {xs : Nat → Int32} {d : Nat} {h : xm_H} {Q : xm_Q} {S : sp_S} (hV : ch_V h S) (hS : sp_WS S) {c : Nat} (hc : c < sp_n S.1) (hQ : Q (some (.int (sp_vi (sp_p2 S.1 c)))) h) : xm_call L xs (d + 3) m_V_parent [.ref 0, .int (nI c), .int (nI 1)] h Q := by
  refine x_call (lo := [.ref 0, .int (nI c), .int (nI 1)]) (Nat.le_of_ble_eq_true rfl) rfl ?_
  refine x_aload_n (pc' := 1) d_V_parent_0 rfl rfl ?_
  refine x_getfield (ci := 3) (i := 0) (v := .ref 1) (pc' := 4) d_V_parent_1 rfl g_V_10 hV.1 rfl ?_
  refine x_iload_n (pc' := 5) d_V_parent_4 rfl rfl ?_
  refine x_virtual (a := 1) (as := [.int (nI c)]) (r := []) (v := (some (.int 1))) (h' := h) (st' := [.int 1]) (c' := 0) (s' := 0) (pc' := 8) d_V_parent_5 rfl c_V_128 hV.2.2.1.1.2 rfl rfl (Nat.le_of_ble_eq_true rfl) (Nat.le_of_ble_eq_true rfl) (Nat.le_of_ble_eq_true rfl) (fun Q' hq => c_H_made hV.2.2.1.1 hc hq) rfl rfl rfl ?_
  refine x_ifeq (t := 20) (pc' := 11) d_V_parent_8 rfl rfl (fun q => absurd q (by decide)) (fun _ => ?_)
  refine x_iload_n (pc' := 12) d_V_parent_11 rfl rfl ?_
  refine x_iflt (t := 20) (pc' := 15) d_V_parent_12 rfl rfl (fun q => absurd q (by decide)) (fun _ => ?_)
  refine x_iload_n (pc' := 16) d_V_parent_15 rfl rfl ?_
  refine x_iconst (v := 1) (pc' := 17) d_V_parent_16 rfl (by decide) ?_
  refine x_icmple (t := 22) (pc' := 20) d_V_parent_17 rfl rfl (fun _ => ?_) (fun q => absurd (by decide) q)
  refine x_iload_n (pc' := 23) d_V_parent_22 rfl rfl ?_
  refine x_ifne (t := 37) (pc' := 26) d_V_parent_23 rfl rfl (fun _ => ?_) (fun q => absurd q (by decide))
  refine x_aload_n (pc' := 38) d_V_parent_37 rfl rfl ?_
  refine x_getfield (ci := 3) (i := 0) (v := .ref 1) (pc' := 41) d_V_parent_38 rfl g_V_10 hV.1 rfl ?_
  refine x_iload_n (pc' := 42) d_V_parent_41 rfl rfl ?_
  refine x_virtual (a := 1) (as := [.int (nI c)]) (r := []) (v := (some (.int (sp_vi (sp_p2 S.1 c))))) (h' := h) (st' := [.int (sp_vi (sp_p2 S.1 c))]) (c' := 0) (s' := 0) (pc' := 45) d_V_parent_42 rfl c_V_135 hV.2.2.1.1.2 rfl rfl (Nat.le_of_ble_eq_true rfl) (Nat.le_of_ble_eq_true rfl) (Nat.le_of_ble_eq_true rfl) (fun Q' hq => c_H_secondParentOf hV.2.2.1 hc hq) rfl rfl rfl ?_
  exact x_ireturn d_V_parent_45 rfl rfl hQ
theorem c_V_parent {L : Nat} {xs : Nat → Int32} {d : Nat} {h : xm_H} {Q : xm_Q} {S : sp_S} (hV : ch_V h S) (hS : sp_WS S) {x y : Int32} (hQ : Q (some (.int (sp_parent S x y))) h) : xm_call L xs (d + 3) m_V_parent [.ref 0, .int x, .int y] h Q := by
  have h40 := hS.1.1
  rcases sp_in_cases (sp_n S.1) (by omega) x with ⟨_, e⟩ | ⟨_, _, e⟩ | ⟨c, hc, rfl, e⟩
  · exact c_V_parent_x hV hS e (x_q (by unfold sp_parent; rw [e]) hQ)
  · exact c_V_parent_x hV hS e (x_q (by unfold sp_parent; rw [e]) hQ)
  · rcases sp_in_cases 2 (by decide) y with ⟨e3, e2⟩ | ⟨e3, e4, e2⟩ | ⟨k, hk, rfl, e2⟩
    · exact c_V_parent_y1 hV hS hc e3 (x_q (by unfold sp_parent; rw [e, e2]) hQ)
    · exact c_V_parent_y2 hV hS hc e3 e4 (x_q (by unfold sp_parent; rw [e, e2]) hQ)
    · match k, hk with
      | 0, _ => exact c_V_parent_0 hV hS hc (x_q (by unfold sp_parent; rw [e, e2]; rfl) hQ)
      | 1, _ => exact c_V_parent_1 hV hS hc (x_q (by unfold sp_parent; rw [e, e2]; rfl) hQ)
theorem c_V_text_x {L : Nat} {xs : Nat → Int32} {d : Nat} {h : xm_H} {Q : xm_Q} {S : sp_S} (hV : ch_V h S) (hS : sp_WS S) {x y : Int32} (hx : sp_in (sp_n S.1) x = none) (hQ : Q (some (.long (-1))) h) : xm_call L xs (d + 3) m_V_text [.ref 0, .int x, .int y] h Q := by
  refine x_call (lo := [.ref 0, .int x, .int y]) (Nat.le_of_ble_eq_true rfl) rfl ?_
  refine x_aload_n (pc' := 1) d_V_text_0 rfl rfl ?_
  refine x_getfield (ci := 3) (i := 0) (v := .ref 1) (pc' := 4) d_V_text_1 rfl g_V_10 hV.1 rfl ?_
  refine x_iload_n (pc' := 5) d_V_text_4 rfl rfl ?_
  refine x_virtual (a := 1) (as := [.int x]) (r := []) (v := (some (.int 0))) (h' := h) (st' := [.int 0]) (c' := 0) (s' := 0) (pc' := 8) d_V_text_5 rfl c_V_128 hV.2.2.1.1.2 rfl rfl (Nat.le_of_ble_eq_true rfl) (Nat.le_of_ble_eq_true rfl) (Nat.le_of_ble_eq_true rfl) (fun Q' hq => c_H_unmade hV.2.2.1.1 hx hq) rfl rfl rfl ?_
  refine x_ifeq (t := 18) (pc' := 11) d_V_text_8 rfl rfl (fun _ => ?_) (fun q => absurd rfl q)
  refine x_ldc2_w (x := (-1)) (pc' := 21) d_V_text_18 rfl k_V_109 ?_
  exact x_lreturn d_V_text_21 rfl hQ
theorem c_V_text_y {L : Nat} {xs : Nat → Int32} {d : Nat} {h : xm_H} {Q : xm_Q} {S : sp_S} (hV : ch_V h S) (hS : sp_WS S) {c : Nat} {y : Int32} (hc : c < sp_n S.1) (hy : sp_in 4 y = none) (hQ : Q (some (.long (-1))) h) : xm_call L xs (d + 3) m_V_text [.ref 0, .int (nI c), .int y] h Q := by
  refine x_call (lo := [.ref 0, .int (nI c), .int y]) (Nat.le_of_ble_eq_true rfl) rfl ?_
  refine x_aload_n (pc' := 1) d_V_text_0 rfl rfl ?_
  refine x_getfield (ci := 3) (i := 0) (v := .ref 1) (pc' := 4) d_V_text_1 rfl g_V_10 hV.1 rfl ?_
  refine x_iload_n (pc' := 5) d_V_text_4 rfl rfl ?_
  refine x_virtual (a := 1) (as := [.int (nI c)]) (r := []) (v := (some (.int 1))) (h' := h) (st' := [.int 1]) (c' := 0) (s' := 0) (pc' := 8) d_V_text_5 rfl c_V_128 hV.2.2.1.1.2 rfl rfl (Nat.le_of_ble_eq_true rfl) (Nat.le_of_ble_eq_true rfl) (Nat.le_of_ble_eq_true rfl) (fun Q' hq => c_H_made hV.2.2.1.1 hc hq) rfl rfl rfl ?_
  refine x_ifeq (t := 18) (pc' := 11) d_V_text_8 rfl rfl (fun q => absurd q (by decide)) (fun _ => ?_)
  refine x_iload_n (pc' := 12) d_V_text_11 rfl rfl ?_
  refine x_static (as := [.int y]) (r := []) (v := (some (.int 0))) (h' := h) (st' := [.int 0]) (c' := 0) (s' := 0) (pc' := 15) d_V_text_12 rfl c_V_34 rfl rfl (Nat.le_of_ble_eq_true rfl) (Nat.le_of_ble_eq_true rfl) (Nat.le_of_ble_eq_true rfl) (fun Q' hq => c_V_isFile0 hy hq) rfl rfl rfl ?_
  refine x_ifne (t := 22) (pc' := 18) d_V_text_15 rfl rfl (fun q => absurd rfl q) (fun _ => ?_)
  refine x_ldc2_w (x := (-1)) (pc' := 21) d_V_text_18 rfl k_V_109 ?_
  exact x_lreturn d_V_text_21 rfl hQ
theorem c_V_text_z {L : Nat} {xs : Nat → Int32} {d : Nat} {h : xm_H} {Q : xm_Q} {S : sp_S} (hV : ch_V h S) (hS : sp_WS S) {c f : Nat} (hc : c < sp_n S.1) (hf : f < 4) (hQ : Q (some (.long (sp_tv (sp_of S.1 (some c) f)))) h) : xm_call L xs (d + 3) m_V_text [.ref 0, .int (nI c), .int (nI f)] h Q := by
  refine x_call (lo := [.ref 0, .int (nI c), .int (nI f)]) (Nat.le_of_ble_eq_true rfl) rfl ?_
  refine x_aload_n (pc' := 1) d_V_text_0 rfl rfl ?_
  refine x_getfield (ci := 3) (i := 0) (v := .ref 1) (pc' := 4) d_V_text_1 rfl g_V_10 hV.1 rfl ?_
  refine x_iload_n (pc' := 5) d_V_text_4 rfl rfl ?_
  refine x_virtual (a := 1) (as := [.int (nI c)]) (r := []) (v := (some (.int 1))) (h' := h) (st' := [.int 1]) (c' := 0) (s' := 0) (pc' := 8) d_V_text_5 rfl c_V_128 hV.2.2.1.1.2 rfl rfl (Nat.le_of_ble_eq_true rfl) (Nat.le_of_ble_eq_true rfl) (Nat.le_of_ble_eq_true rfl) (fun Q' hq => c_H_made hV.2.2.1.1 hc hq) rfl rfl rfl ?_
  refine x_ifeq (t := 18) (pc' := 11) d_V_text_8 rfl rfl (fun q => absurd q (by decide)) (fun _ => ?_)
  refine x_iload_n (pc' := 12) d_V_text_11 rfl rfl ?_
  refine x_static (as := [.int (nI f)]) (r := []) (v := (some (.int 1))) (h' := h) (st' := [.int 1]) (c' := 0) (s' := 0) (pc' := 15) d_V_text_12 rfl c_V_34 rfl rfl (Nat.le_of_ble_eq_true rfl) (Nat.le_of_ble_eq_true rfl) (Nat.le_of_ble_eq_true rfl) (fun Q' hq => c_V_isFile1 hf hq) rfl rfl rfl ?_
  refine x_ifne (t := 22) (pc' := 18) d_V_text_15 rfl rfl (fun _ => ?_) (fun q => absurd q (by decide))
  refine x_aload_n (pc' := 23) d_V_text_22 rfl rfl ?_
  refine x_getfield (ci := 3) (i := 0) (v := .ref 1) (pc' := 26) d_V_text_23 rfl g_V_10 hV.1 rfl ?_
  refine x_iload_n (pc' := 27) d_V_text_26 rfl rfl ?_
  refine x_iload_n (pc' := 28) d_V_text_27 rfl rfl ?_
  refine x_virtual (a := 1) (as := [.int (nI c), .int (nI f)]) (r := []) (v := (some (.long (sp_tv (sp_of S.1 (some c) f))))) (h' := h) (st' := [.long (sp_tv (sp_of S.1 (some c) f))]) (c' := 0) (s' := 0) (pc' := 31) d_V_text_28 rfl c_V_138 hV.2.2.1.1.2 rfl rfl (Nat.le_of_ble_eq_true rfl) (Nat.le_of_ble_eq_true rfl) (Nat.le_of_ble_eq_true rfl) (fun Q' hq => c_H_textOf1 hV.2.2.1 hc hf hq) rfl rfl rfl ?_
  exact x_lreturn d_V_text_31 rfl hQ
theorem c_V_text {L : Nat} {xs : Nat → Int32} {d : Nat} {h : xm_H} {Q : xm_Q} {S : sp_S} (hV : ch_V h S) (hS : sp_WS S) {x y : Int32} (hQ : Q (some (.long (sp_text S x y))) h) : xm_call L xs (d + 3) m_V_text [.ref 0, .int x, .int y] h Q := by
  have h40 := hS.1.1
  rcases sp_in_cases (sp_n S.1) (by omega) x with ⟨_, e⟩ | ⟨_, _, e⟩ | ⟨c, hc, rfl, e⟩
  · exact c_V_text_x hV hS e (x_ql (by unfold sp_text; rw [e]) hQ)
  · exact c_V_text_x hV hS e (x_ql (by unfold sp_text; rw [e]) hQ)
  · rcases sp_in_cases 4 (by decide) y with ⟨_, e2⟩ | ⟨_, _, e2⟩ | ⟨b, hb, rfl, e2⟩
    · exact c_V_text_y hV hS hc e2 (x_ql (by unfold sp_text; rw [e, e2]) hQ)
    · exact c_V_text_y hV hS hc e2 (x_ql (by unfold sp_text; rw [e, e2]) hQ)
    · exact c_V_text_z hV hS hc hb (x_ql (by unfold sp_text; rw [e, e2]; rfl) hQ)
theorem c_V_base_x {L : Nat} {xs : Nat → Int32} {d : Nat} {h : xm_H} {Q : xm_Q} {S : sp_S} (hV : ch_V h S) (hS : sp_WS S) {x y : Int32} (hx : sp_in (sp_n S.1) x = none) (hQ : Q (some (.int (-1))) h) : xm_call L xs (d + 6) m_V_base [.ref 0, .int x, .int y] h Q := by
  refine x_call (lo := [.ref 0, .int x, .int y]) (Nat.le_of_ble_eq_true rfl) rfl ?_
  refine x_aload_n (pc' := 1) d_V_base_0 rfl rfl ?_
  refine x_getfield (ci := 3) (i := 0) (v := .ref 1) (pc' := 4) d_V_base_1 rfl g_V_10 hV.1 rfl ?_
  refine x_iload_n (pc' := 5) d_V_base_4 rfl rfl ?_
  refine x_virtual (a := 1) (as := [.int x]) (r := []) (v := (some (.int 0))) (h' := h) (st' := [.int 0]) (c' := 0) (s' := 0) (pc' := 8) d_V_base_5 rfl c_V_128 hV.2.2.1.1.2 rfl rfl (Nat.le_of_ble_eq_true rfl) (Nat.le_of_ble_eq_true rfl) (Nat.le_of_ble_eq_true rfl) (fun Q' hq => c_H_unmade hV.2.2.1.1 hx hq) rfl rfl rfl ?_
  refine x_ifeq (t := 22) (pc' := 11) d_V_base_8 rfl rfl (fun _ => ?_) (fun q => absurd rfl q)
  refine x_iconst (v := (-1)) (pc' := 23) d_V_base_22 rfl (by decide) ?_
  exact x_ireturn d_V_base_23 rfl rfl hQ
theorem c_V_base_y {L : Nat} {xs : Nat → Int32} {d : Nat} {h : xm_H} {Q : xm_Q} {S : sp_S} (hV : ch_V h S) (hS : sp_WS S) {c : Nat} {y : Int32} (hc : c < sp_n S.1) (hy : sp_in (sp_n S.1) y = none) (hQ : Q (some (.int (-1))) h) : xm_call L xs (d + 6) m_V_base [.ref 0, .int (nI c), .int y] h Q := by
  refine x_call (lo := [.ref 0, .int (nI c), .int y]) (Nat.le_of_ble_eq_true rfl) rfl ?_
  refine x_aload_n (pc' := 1) d_V_base_0 rfl rfl ?_
  refine x_getfield (ci := 3) (i := 0) (v := .ref 1) (pc' := 4) d_V_base_1 rfl g_V_10 hV.1 rfl ?_
  refine x_iload_n (pc' := 5) d_V_base_4 rfl rfl ?_
  refine x_virtual (a := 1) (as := [.int (nI c)]) (r := []) (v := (some (.int 1))) (h' := h) (st' := [.int 1]) (c' := 0) (s' := 0) (pc' := 8) d_V_base_5 rfl c_V_128 hV.2.2.1.1.2 rfl rfl (Nat.le_of_ble_eq_true rfl) (Nat.le_of_ble_eq_true rfl) (Nat.le_of_ble_eq_true rfl) (fun Q' hq => c_H_made hV.2.2.1.1 hc hq) rfl rfl rfl ?_
  refine x_ifeq (t := 22) (pc' := 11) d_V_base_8 rfl rfl (fun q => absurd q (by decide)) (fun _ => ?_)
  refine x_aload_n (pc' := 12) d_V_base_11 rfl rfl ?_
  refine x_getfield (ci := 3) (i := 0) (v := .ref 1) (pc' := 15) d_V_base_12 rfl g_V_10 hV.1 rfl ?_
  refine x_iload_n (pc' := 16) d_V_base_15 rfl rfl ?_
  refine x_virtual (a := 1) (as := [.int y]) (r := []) (v := (some (.int 0))) (h' := h) (st' := [.int 0]) (c' := 0) (s' := 0) (pc' := 19) d_V_base_16 rfl c_V_128 hV.2.2.1.1.2 rfl rfl (Nat.le_of_ble_eq_true rfl) (Nat.le_of_ble_eq_true rfl) (Nat.le_of_ble_eq_true rfl) (fun Q' hq => c_H_unmade hV.2.2.1.1 hy hq) rfl rfl rfl ?_
  refine x_ifne (t := 24) (pc' := 22) d_V_base_19 rfl rfl (fun q => absurd rfl q) (fun _ => ?_)
  refine x_iconst (v := (-1)) (pc' := 23) d_V_base_22 rfl (by decide) ?_
  exact x_ireturn d_V_base_23 rfl rfl hQ
theorem c_V_base_z {L : Nat} {xs : Nat → Int32} {d : Nat} {h : xm_H} {Q : xm_Q} {S : sp_S} (hV : ch_V h S) (hS : sp_WS S) {c e : Nat} (hc : c < sp_n S.1) (he : e < sp_n S.1) (hQ : Q (some (.int (sp_vi (sp_base S.1 (some c) (some e))))) h) : xm_call L xs (d + 6) m_V_base [.ref 0, .int (nI c), .int (nI e)] h Q := by
  refine x_call (lo := [.ref 0, .int (nI c), .int (nI e)]) (Nat.le_of_ble_eq_true rfl) rfl ?_
  refine x_aload_n (pc' := 1) d_V_base_0 rfl rfl ?_
  refine x_getfield (ci := 3) (i := 0) (v := .ref 1) (pc' := 4) d_V_base_1 rfl g_V_10 hV.1 rfl ?_
  refine x_iload_n (pc' := 5) d_V_base_4 rfl rfl ?_
  refine x_virtual (a := 1) (as := [.int (nI c)]) (r := []) (v := (some (.int 1))) (h' := h) (st' := [.int 1]) (c' := 0) (s' := 0) (pc' := 8) d_V_base_5 rfl c_V_128 hV.2.2.1.1.2 rfl rfl (Nat.le_of_ble_eq_true rfl) (Nat.le_of_ble_eq_true rfl) (Nat.le_of_ble_eq_true rfl) (fun Q' hq => c_H_made hV.2.2.1.1 hc hq) rfl rfl rfl ?_
  refine x_ifeq (t := 22) (pc' := 11) d_V_base_8 rfl rfl (fun q => absurd q (by decide)) (fun _ => ?_)
  refine x_aload_n (pc' := 12) d_V_base_11 rfl rfl ?_
  refine x_getfield (ci := 3) (i := 0) (v := .ref 1) (pc' := 15) d_V_base_12 rfl g_V_10 hV.1 rfl ?_
  refine x_iload_n (pc' := 16) d_V_base_15 rfl rfl ?_
  refine x_virtual (a := 1) (as := [.int (nI e)]) (r := []) (v := (some (.int 1))) (h' := h) (st' := [.int 1]) (c' := 0) (s' := 0) (pc' := 19) d_V_base_16 rfl c_V_128 hV.2.2.1.1.2 rfl rfl (Nat.le_of_ble_eq_true rfl) (Nat.le_of_ble_eq_true rfl) (Nat.le_of_ble_eq_true rfl) (fun Q' hq => c_H_made hV.2.2.1.1 he hq) rfl rfl rfl ?_
  refine x_ifne (t := 24) (pc' := 22) d_V_base_19 rfl rfl (fun _ => ?_) (fun q => absurd q (by decide))
  refine x_aload_n (pc' := 25) d_V_base_24 rfl rfl ?_
  refine x_getfield (ci := 3) (i := 0) (v := .ref 1) (pc' := 28) d_V_base_25 rfl g_V_10 hV.1 rfl ?_
  refine x_iload_n (pc' := 29) d_V_base_28 rfl rfl ?_
  refine x_iload_n (pc' := 30) d_V_base_29 rfl rfl ?_
  refine x_virtual (a := 1) (as := [.int (nI c), .int (nI e)]) (r := []) (v := (some (.int (sp_vi (sp_base S.1 (some c) (some e)))))) (h' := h) (st' := [.int (sp_vi (sp_base S.1 (some c) (some e)))]) (c' := 0) (s' := 0) (pc' := 33) d_V_base_30 rfl c_V_142 hV.2.2.1.1.2 rfl rfl (Nat.le_of_ble_eq_true rfl) (Nat.le_of_ble_eq_true rfl) (Nat.le_of_ble_eq_true rfl) (fun Q' hq => c_H_baseOf (a := some c) (b := some e) hV.2.2.1 hS.1 (sp_ok_some hc) (sp_ok_some he) hq) rfl rfl rfl ?_
  exact x_ireturn d_V_base_33 rfl rfl hQ
theorem c_V_base {L : Nat} {xs : Nat → Int32} {d : Nat} {h : xm_H} {Q : xm_Q} {S : sp_S} (hV : ch_V h S) (hS : sp_WS S) {x y : Int32} (hQ : Q (some (.int (sp_baseq S x y))) h) : xm_call L xs (d + 6) m_V_base [.ref 0, .int x, .int y] h Q := by
  have h40 := hS.1.1
  rcases sp_in_cases (sp_n S.1) (by omega) x with ⟨_, e⟩ | ⟨_, _, e⟩ | ⟨c, hc, rfl, e⟩
  · exact c_V_base_x hV hS e (x_q (by unfold sp_baseq; rw [e]) hQ)
  · exact c_V_base_x hV hS e (x_q (by unfold sp_baseq; rw [e]) hQ)
  · rcases sp_in_cases (sp_n S.1) (by omega) y with ⟨_, e2⟩ | ⟨_, _, e2⟩ | ⟨b, hb, rfl, e2⟩
    · exact c_V_base_y hV hS hc e2 (x_q (by unfold sp_baseq; rw [e, e2]) hQ)
    · exact c_V_base_y hV hS hc e2 (x_q (by unfold sp_baseq; rw [e, e2]) hQ)
    · exact c_V_base_z hV hS hc hb (x_q (by unfold sp_baseq; rw [e, e2]) hQ)
