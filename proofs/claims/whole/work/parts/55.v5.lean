/-! merge, pick. (Printed by c_v5.py.) -/
theorem l_V_mergeT {L : Nat} {xs : Nat → Int32} {d : Nat} {h : xm_H} {Q : xm_Q} {S : sp_S} (hV : ch_V h S) (hS : sp_WS S) {r c a : Nat} {b p q : Nat} (hr : r < 2) (hc : c < sp_n S.1) (ha7 : a = 7 + 4 * r)
    (hQ : ∀ h', ch_V h' (S.1, sp_up S.2 r (sp_mv S.1 (S.2 r) c)) → xl_fr sp_V29 h h' → Q (some (.int (nI c))) h') : xm_X L xs (xm_call L xs (d + 7)) m_V_merge (83, [.ref 0, .int (nI r), .int (nI b), .int 0, .ref a, .int (nI p), .int (nI q), .int (nI c)], [], h, 0, 0) Q := by
  have hR : ch_R h a (S.2 r) := by rw [ha7]; exact hV.2.2.2.1 r hr
  have hH := hV.2.2.1
  have hWR := hS.2 r hr
  have h40 := hS.1.1
  refine x_iload (pc' := 85) d_V_merge_83 rfl rfl ?_
  refine x_iflt (t := 96) (pc' := 88) d_V_merge_85 rfl rfl (fun q => absurd q (nI_pos (by omega))) (fun _ => ?_)
  refine x_aload_n (pc' := 89) d_V_merge_88 rfl rfl ?_
  refine x_aload (pc' := 91) d_V_merge_89 rfl rfl ?_
  refine x_iload (pc' := 93) d_V_merge_91 rfl rfl ?_
  refine x_virtualR (a := 0) (as := [.ref a, .int (nI c)]) (r := []) (Post := fun v h9 => v = none ∧ ch_R h9 a (sp_mv S.1 (S.2 r) c) ∧ xl_fr (fun k => a ≤ k ∧ k ≤ a + 3) h h9) (c' := 0) (s' := 0) (pc' := 96) d_V_merge_93 rfl c_V_87 hV.1 rfl rfl (Nat.le_of_ble_eq_true rfl) (Nat.le_of_ble_eq_true rfl) (Nat.le_of_ble_eq_true rfl) (fun Q' hq => c_V_moveTo (by omega) hV.1 hH hR hc (Nat.lt_of_lt_of_le hWR.2.2.1 (Nat.pow_le_pow_right (by decide) (by omega))) (sp_WH_64 hS.1 (c := some c) (sp_ok_some hc)) (fun h' z1 z2 => hq none h' ⟨rfl, z1, z2⟩)) rfl rfl (fun v9 h2 hp => ?_)
  obtain ⟨rfl, R2, f2⟩ := hp
  show xm_X L xs (xm_call L xs (d + 7)) m_V_merge (96, [.ref 0, .int (nI r), .int (nI b), .int 0, .ref a, .int (nI p), .int (nI q), .int (nI c)], [], h2, 0, 0) Q
  refine x_iload (pc' := 98) d_V_merge_96 rfl rfl ?_
  exact x_ireturn d_V_merge_98 rfl rfl (hQ h2 (ch_V_rep hV hr (xl_mono f2 (fun k z => ⟨by omega, by omega⟩)) (by rw [← ha7]; exact R2)) (xl_mono f2 (fun k z => by show k < 29; omega)))
theorem c_V_merge_x {L : Nat} {xs : Nat → Int32} {d : Nat} {h : xm_H} {Q : xm_Q} {S : sp_S} (hV : ch_V h S) (hS : sp_WS S) {x y : Int32} (hx : sp_in 2 x = none) (hQ : Q (some (.int (-1))) h) : xm_call L xs (d + 8) m_V_merge [.ref 0, .int x, .int y] h Q := by
  refine x_call (lo := [.ref 0, .int x, .int y, .float 0, .float 0, .float 0, .float 0, .float 0]) (Nat.le_of_ble_eq_true rfl) rfl ?_
  refine x_aload_n (pc' := 1) d_V_merge_0 rfl rfl ?_
  refine x_iload_n (pc' := 2) d_V_merge_1 rfl rfl ?_
  refine x_iload_n (pc' := 3) d_V_merge_2 rfl rfl ?_
  refine x_virtual (a := 0) (as := [.int x, .int y]) (r := []) (v := (some (.int (-1)))) (h' := h) (st' := [.int (-1)]) (c' := 0) (s' := 0) (pc' := 6) d_V_merge_3 rfl c_V_91 hV.1 rfl rfl (Nat.le_of_ble_eq_true rfl) (Nat.le_of_ble_eq_true rfl) (Nat.le_of_ble_eq_true rfl) (fun Q' hq => c_V_refuse_x hV hS hx hq) rfl rfl rfl ?_
  refine x_istore_n (lo' := [.ref 0, .int x, .int y, .int (-1), .float 0, .float 0, .float 0, .float 0]) (pc' := 7) d_V_merge_6 rfl (Nat.le_of_ble_eq_true rfl) rfl ?_
  refine x_iload_n (pc' := 8) d_V_merge_7 rfl rfl ?_
  refine x_ifeq (t := 13) (pc' := 11) d_V_merge_8 rfl rfl (fun q => absurd q (by decide)) (fun _ => ?_)
  refine x_iload_n (pc' := 12) d_V_merge_11 rfl rfl ?_
  exact x_ireturn d_V_merge_12 rfl rfl hQ
theorem c_V_rebase_x {L : Nat} {xs : Nat → Int32} {d : Nat} {h : xm_H} {Q : xm_Q} {S : sp_S} (hV : ch_V h S) (hS : sp_WS S) {x y : Int32} (hx : sp_in 2 x = none) (hQ : Q (some (.int (-1))) h) : xm_call L xs (d + 8) m_V_rebase [.ref 0, .int x, .int y] h Q := by
  refine x_call (lo := [.ref 0, .int x, .int y, .float 0, .float 0, .float 0, .float 0, .float 0, .float 0, .float 0]) (Nat.le_of_ble_eq_true rfl) rfl ?_
  refine x_aload_n (pc' := 1) d_V_rebase_0 rfl rfl ?_
  refine x_iload_n (pc' := 2) d_V_rebase_1 rfl rfl ?_
  refine x_iload_n (pc' := 3) d_V_rebase_2 rfl rfl ?_
  refine x_virtual (a := 0) (as := [.int x, .int y]) (r := []) (v := (some (.int (-1)))) (h' := h) (st' := [.int (-1)]) (c' := 0) (s' := 0) (pc' := 6) d_V_rebase_3 rfl c_V_91 hV.1 rfl rfl (Nat.le_of_ble_eq_true rfl) (Nat.le_of_ble_eq_true rfl) (Nat.le_of_ble_eq_true rfl) (fun Q' hq => c_V_refuse_x hV hS hx hq) rfl rfl rfl ?_
  refine x_istore_n (lo' := [.ref 0, .int x, .int y, .int (-1), .float 0, .float 0, .float 0, .float 0, .float 0, .float 0]) (pc' := 7) d_V_rebase_6 rfl (Nat.le_of_ble_eq_true rfl) rfl ?_
  refine x_iload_n (pc' := 8) d_V_rebase_7 rfl rfl ?_
  refine x_ifeq (t := 13) (pc' := 11) d_V_rebase_8 rfl rfl (fun q => absurd q (by decide)) (fun _ => ?_)
  refine x_iload_n (pc' := 12) d_V_rebase_11 rfl rfl ?_
  exact x_ireturn d_V_rebase_12 rfl rfl hQ
theorem c_V_merge_y {L : Nat} {xs : Nat → Int32} {d : Nat} {h : xm_H} {Q : xm_Q} {S : sp_S} (hV : ch_V h S) (hS : sp_WS S) {r : Nat} {y : Int32} (hr : r < 2) (hy : sp_in 4 y = none) (hQ : Q (some (.int (-1))) h) : xm_call L xs (d + 8) m_V_merge [.ref 0, .int (nI r), .int y] h Q := by
  refine x_call (lo := [.ref 0, .int (nI r), .int y, .float 0, .float 0, .float 0, .float 0, .float 0]) (Nat.le_of_ble_eq_true rfl) rfl ?_
  refine x_aload_n (pc' := 1) d_V_merge_0 rfl rfl ?_
  refine x_iload_n (pc' := 2) d_V_merge_1 rfl rfl ?_
  refine x_iload_n (pc' := 3) d_V_merge_2 rfl rfl ?_
  refine x_virtual (a := 0) (as := [.int (nI r), .int y]) (r := []) (v := (some (.int (-1)))) (h' := h) (st' := [.int (-1)]) (c' := 0) (s' := 0) (pc' := 6) d_V_merge_3 rfl c_V_91 hV.1 rfl rfl (Nat.le_of_ble_eq_true rfl) (Nat.le_of_ble_eq_true rfl) (Nat.le_of_ble_eq_true rfl) (fun Q' hq => c_V_refuse_y hV hS hr hy hq) rfl rfl rfl ?_
  refine x_istore_n (lo' := [.ref 0, .int (nI r), .int y, .int (-1), .float 0, .float 0, .float 0, .float 0]) (pc' := 7) d_V_merge_6 rfl (Nat.le_of_ble_eq_true rfl) rfl ?_
  refine x_iload_n (pc' := 8) d_V_merge_7 rfl rfl ?_
  refine x_ifeq (t := 13) (pc' := 11) d_V_merge_8 rfl rfl (fun q => absurd q (by decide)) (fun _ => ?_)
  refine x_iload_n (pc' := 12) d_V_merge_11 rfl rfl ?_
  exact x_ireturn d_V_merge_12 rfl rfl hQ
theorem c_V_rebase_y {L : Nat} {xs : Nat → Int32} {d : Nat} {h : xm_H} {Q : xm_Q} {S : sp_S} (hV : ch_V h S) (hS : sp_WS S) {r : Nat} {y : Int32} (hr : r < 2) (hy : sp_in 4 y = none) (hQ : Q (some (.int (-1))) h) : xm_call L xs (d + 8) m_V_rebase [.ref 0, .int (nI r), .int y] h Q := by
  refine x_call (lo := [.ref 0, .int (nI r), .int y, .float 0, .float 0, .float 0, .float 0, .float 0, .float 0, .float 0]) (Nat.le_of_ble_eq_true rfl) rfl ?_
  refine x_aload_n (pc' := 1) d_V_rebase_0 rfl rfl ?_
  refine x_iload_n (pc' := 2) d_V_rebase_1 rfl rfl ?_
  refine x_iload_n (pc' := 3) d_V_rebase_2 rfl rfl ?_
  refine x_virtual (a := 0) (as := [.int (nI r), .int y]) (r := []) (v := (some (.int (-1)))) (h' := h) (st' := [.int (-1)]) (c' := 0) (s' := 0) (pc' := 6) d_V_rebase_3 rfl c_V_91 hV.1 rfl rfl (Nat.le_of_ble_eq_true rfl) (Nat.le_of_ble_eq_true rfl) (Nat.le_of_ble_eq_true rfl) (fun Q' hq => c_V_refuse_y hV hS hr hy hq) rfl rfl rfl ?_
  refine x_istore_n (lo' := [.ref 0, .int (nI r), .int y, .int (-1), .float 0, .float 0, .float 0, .float 0, .float 0, .float 0]) (pc' := 7) d_V_rebase_6 rfl (Nat.le_of_ble_eq_true rfl) rfl ?_
  refine x_iload_n (pc' := 8) d_V_rebase_7 rfl rfl ?_
  refine x_ifeq (t := 13) (pc' := 11) d_V_rebase_8 rfl rfl (fun q => absurd q (by decide)) (fun _ => ?_)
  refine x_iload_n (pc' := 12) d_V_rebase_11 rfl rfl ?_
  exact x_ireturn d_V_rebase_12 rfl rfl hQ
theorem c_V_merge_t {L : Nat} {xs : Nat → Int32} {d : Nat} {h : xm_H} {Q : xm_Q} {S : sp_S} (hV : ch_V h S) (hS : sp_WS S) {r b : Nat} (hr : r < 2) (hb : b < 4) (hn : sp_tip (S.2 r) b = none) (hQ : Q (some (.int (-2))) h) : xm_call L xs (d + 8) m_V_merge [.ref 0, .int (nI r), .int (nI b)] h Q := by
  refine x_call (lo := [.ref 0, .int (nI r), .int (nI b), .float 0, .float 0, .float 0, .float 0, .float 0]) (Nat.le_of_ble_eq_true rfl) rfl ?_
  refine x_aload_n (pc' := 1) d_V_merge_0 rfl rfl ?_
  refine x_iload_n (pc' := 2) d_V_merge_1 rfl rfl ?_
  refine x_iload_n (pc' := 3) d_V_merge_2 rfl rfl ?_
  refine x_virtual (a := 0) (as := [.int (nI r), .int (nI b)]) (r := []) (v := (some (.int (-2)))) (h' := h) (st' := [.int (-2)]) (c' := 0) (s' := 0) (pc' := 6) d_V_merge_3 rfl c_V_91 hV.1 rfl rfl (Nat.le_of_ble_eq_true rfl) (Nat.le_of_ble_eq_true rfl) (Nat.le_of_ble_eq_true rfl) (fun Q' hq => c_V_refuse_t hV hS hr hb hn hq) rfl rfl rfl ?_
  refine x_istore_n (lo' := [.ref 0, .int (nI r), .int (nI b), .int (-2), .float 0, .float 0, .float 0, .float 0]) (pc' := 7) d_V_merge_6 rfl (Nat.le_of_ble_eq_true rfl) rfl ?_
  refine x_iload_n (pc' := 8) d_V_merge_7 rfl rfl ?_
  refine x_ifeq (t := 13) (pc' := 11) d_V_merge_8 rfl rfl (fun q => absurd q (by decide)) (fun _ => ?_)
  refine x_iload_n (pc' := 12) d_V_merge_11 rfl rfl ?_
  exact x_ireturn d_V_merge_12 rfl rfl hQ
theorem c_V_rebase_t {L : Nat} {xs : Nat → Int32} {d : Nat} {h : xm_H} {Q : xm_Q} {S : sp_S} (hV : ch_V h S) (hS : sp_WS S) {r b : Nat} (hr : r < 2) (hb : b < 4) (hn : sp_tip (S.2 r) b = none) (hQ : Q (some (.int (-2))) h) : xm_call L xs (d + 8) m_V_rebase [.ref 0, .int (nI r), .int (nI b)] h Q := by
  refine x_call (lo := [.ref 0, .int (nI r), .int (nI b), .float 0, .float 0, .float 0, .float 0, .float 0, .float 0, .float 0]) (Nat.le_of_ble_eq_true rfl) rfl ?_
  refine x_aload_n (pc' := 1) d_V_rebase_0 rfl rfl ?_
  refine x_iload_n (pc' := 2) d_V_rebase_1 rfl rfl ?_
  refine x_iload_n (pc' := 3) d_V_rebase_2 rfl rfl ?_
  refine x_virtual (a := 0) (as := [.int (nI r), .int (nI b)]) (r := []) (v := (some (.int (-2)))) (h' := h) (st' := [.int (-2)]) (c' := 0) (s' := 0) (pc' := 6) d_V_rebase_3 rfl c_V_91 hV.1 rfl rfl (Nat.le_of_ble_eq_true rfl) (Nat.le_of_ble_eq_true rfl) (Nat.le_of_ble_eq_true rfl) (fun Q' hq => c_V_refuse_t hV hS hr hb hn hq) rfl rfl rfl ?_
  refine x_istore_n (lo' := [.ref 0, .int (nI r), .int (nI b), .int (-2), .float 0, .float 0, .float 0, .float 0, .float 0, .float 0]) (pc' := 7) d_V_rebase_6 rfl (Nat.le_of_ble_eq_true rfl) rfl ?_
  refine x_iload_n (pc' := 8) d_V_rebase_7 rfl rfl ?_
  refine x_ifeq (t := 13) (pc' := 11) d_V_rebase_8 rfl rfl (fun q => absurd q (by decide)) (fun _ => ?_)
  refine x_iload_n (pc' := 12) d_V_rebase_11 rfl rfl ?_
  exact x_ireturn d_V_rebase_12 rfl rfl hQ
theorem c_V_merge_h {L : Nat} {xs : Nat → Int32} {d : Nat} {h : xm_H} {Q : xm_Q} {S : sp_S} (hV : ch_V h S) (hS : sp_WS S) {r b : Nat} (hr : r < 2) (hb : b < 4) (hn : sp_tip (S.2 r) b ≠ none) (hn2 : sp_head (S.2 r) = none) (hQ : Q (some (.int (-2))) h) : xm_call L xs (d + 8) m_V_merge [.ref 0, .int (nI r), .int (nI b)] h Q := by
  refine x_call (lo := [.ref 0, .int (nI r), .int (nI b), .float 0, .float 0, .float 0, .float 0, .float 0]) (Nat.le_of_ble_eq_true rfl) rfl ?_
  refine x_aload_n (pc' := 1) d_V_merge_0 rfl rfl ?_
  refine x_iload_n (pc' := 2) d_V_merge_1 rfl rfl ?_
  refine x_iload_n (pc' := 3) d_V_merge_2 rfl rfl ?_
  refine x_virtual (a := 0) (as := [.int (nI r), .int (nI b)]) (r := []) (v := (some (.int (-2)))) (h' := h) (st' := [.int (-2)]) (c' := 0) (s' := 0) (pc' := 6) d_V_merge_3 rfl c_V_91 hV.1 rfl rfl (Nat.le_of_ble_eq_true rfl) (Nat.le_of_ble_eq_true rfl) (Nat.le_of_ble_eq_true rfl) (fun Q' hq => c_V_refuse_h hV hS hr hb hn hn2 hq) rfl rfl rfl ?_
  refine x_istore_n (lo' := [.ref 0, .int (nI r), .int (nI b), .int (-2), .float 0, .float 0, .float 0, .float 0]) (pc' := 7) d_V_merge_6 rfl (Nat.le_of_ble_eq_true rfl) rfl ?_
  refine x_iload_n (pc' := 8) d_V_merge_7 rfl rfl ?_
  refine x_ifeq (t := 13) (pc' := 11) d_V_merge_8 rfl rfl (fun q => absurd q (by decide)) (fun _ => ?_)
  refine x_iload_n (pc' := 12) d_V_merge_11 rfl rfl ?_
  exact x_ireturn d_V_merge_12 rfl rfl hQ
theorem c_V_rebase_h {L : Nat} {xs : Nat → Int32} {d : Nat} {h : xm_H} {Q : xm_Q} {S : sp_S} (hV : ch_V h S) (hS : sp_WS S) {r b : Nat} (hr : r < 2) (hb : b < 4) (hn : sp_tip (S.2 r) b ≠ none) (hn2 : sp_head (S.2 r) = none) (hQ : Q (some (.int (-2))) h) : xm_call L xs (d + 8) m_V_rebase [.ref 0, .int (nI r), .int (nI b)] h Q := by
  refine x_call (lo := [.ref 0, .int (nI r), .int (nI b), .float 0, .float 0, .float 0, .float 0, .float 0, .float 0, .float 0]) (Nat.le_of_ble_eq_true rfl) rfl ?_
  refine x_aload_n (pc' := 1) d_V_rebase_0 rfl rfl ?_
  refine x_iload_n (pc' := 2) d_V_rebase_1 rfl rfl ?_
  refine x_iload_n (pc' := 3) d_V_rebase_2 rfl rfl ?_
  refine x_virtual (a := 0) (as := [.int (nI r), .int (nI b)]) (r := []) (v := (some (.int (-2)))) (h' := h) (st' := [.int (-2)]) (c' := 0) (s' := 0) (pc' := 6) d_V_rebase_3 rfl c_V_91 hV.1 rfl rfl (Nat.le_of_ble_eq_true rfl) (Nat.le_of_ble_eq_true rfl) (Nat.le_of_ble_eq_true rfl) (fun Q' hq => c_V_refuse_h hV hS hr hb hn hn2 hq) rfl rfl rfl ?_
  refine x_istore_n (lo' := [.ref 0, .int (nI r), .int (nI b), .int (-2), .float 0, .float 0, .float 0, .float 0, .float 0, .float 0]) (pc' := 7) d_V_rebase_6 rfl (Nat.le_of_ble_eq_true rfl) rfl ?_
  refine x_iload_n (pc' := 8) d_V_rebase_7 rfl rfl ?_
  refine x_ifeq (t := 13) (pc' := 11) d_V_rebase_8 rfl rfl (fun q => absurd q (by decide)) (fun _ => ?_)
  refine x_iload_n (pc' := 12) d_V_rebase_11 rfl rfl ?_
  exact x_ireturn d_V_rebase_12 rfl rfl hQ
theorem c_V_merge_d {L : Nat} {xs : Nat → Int32} {d : Nat} {h : xm_H} {Q : xm_Q} {S : sp_S} (hV : ch_V h S) (hS : sp_WS S) {r b : Nat} (hr : r < 2) (hb : b < 4) (hn : sp_tip (S.2 r) b ≠ none) (hn2 : sp_head (S.2 r) ≠ none) (hcl : sp_clean S.1 (S.2 r) = false) (hQ : Q (some (.int (-3))) h) : xm_call L xs (d + 8) m_V_merge [.ref 0, .int (nI r), .int (nI b)] h Q := by
  refine x_call (lo := [.ref 0, .int (nI r), .int (nI b), .float 0, .float 0, .float 0, .float 0, .float 0]) (Nat.le_of_ble_eq_true rfl) rfl ?_
  refine x_aload_n (pc' := 1) d_V_merge_0 rfl rfl ?_
  refine x_iload_n (pc' := 2) d_V_merge_1 rfl rfl ?_
  refine x_iload_n (pc' := 3) d_V_merge_2 rfl rfl ?_
  refine x_virtual (a := 0) (as := [.int (nI r), .int (nI b)]) (r := []) (v := (some (.int (-3)))) (h' := h) (st' := [.int (-3)]) (c' := 0) (s' := 0) (pc' := 6) d_V_merge_3 rfl c_V_91 hV.1 rfl rfl (Nat.le_of_ble_eq_true rfl) (Nat.le_of_ble_eq_true rfl) (Nat.le_of_ble_eq_true rfl) (fun Q' hq => c_V_refuse_d hV hS hr hb hn hn2 hcl hq) rfl rfl rfl ?_
  refine x_istore_n (lo' := [.ref 0, .int (nI r), .int (nI b), .int (-3), .float 0, .float 0, .float 0, .float 0]) (pc' := 7) d_V_merge_6 rfl (Nat.le_of_ble_eq_true rfl) rfl ?_
  refine x_iload_n (pc' := 8) d_V_merge_7 rfl rfl ?_
  refine x_ifeq (t := 13) (pc' := 11) d_V_merge_8 rfl rfl (fun q => absurd q (by decide)) (fun _ => ?_)
  refine x_iload_n (pc' := 12) d_V_merge_11 rfl rfl ?_
  exact x_ireturn d_V_merge_12 rfl rfl hQ
theorem c_V_rebase_d {L : Nat} {xs : Nat → Int32} {d : Nat} {h : xm_H} {Q : xm_Q} {S : sp_S} (hV : ch_V h S) (hS : sp_WS S) {r b : Nat} (hr : r < 2) (hb : b < 4) (hn : sp_tip (S.2 r) b ≠ none) (hn2 : sp_head (S.2 r) ≠ none) (hcl : sp_clean S.1 (S.2 r) = false) (hQ : Q (some (.int (-3))) h) : xm_call L xs (d + 8) m_V_rebase [.ref 0, .int (nI r), .int (nI b)] h Q := by
  refine x_call (lo := [.ref 0, .int (nI r), .int (nI b), .float 0, .float 0, .float 0, .float 0, .float 0, .float 0, .float 0]) (Nat.le_of_ble_eq_true rfl) rfl ?_
  refine x_aload_n (pc' := 1) d_V_rebase_0 rfl rfl ?_
  refine x_iload_n (pc' := 2) d_V_rebase_1 rfl rfl ?_
  refine x_iload_n (pc' := 3) d_V_rebase_2 rfl rfl ?_
  refine x_virtual (a := 0) (as := [.int (nI r), .int (nI b)]) (r := []) (v := (some (.int (-3)))) (h' := h) (st' := [.int (-3)]) (c' := 0) (s' := 0) (pc' := 6) d_V_rebase_3 rfl c_V_91 hV.1 rfl rfl (Nat.le_of_ble_eq_true rfl) (Nat.le_of_ble_eq_true rfl) (Nat.le_of_ble_eq_true rfl) (fun Q' hq => c_V_refuse_d hV hS hr hb hn hn2 hcl hq) rfl rfl rfl ?_
  refine x_istore_n (lo' := [.ref 0, .int (nI r), .int (nI b), .int (-3), .float 0, .float 0, .float 0, .float 0, .float 0, .float 0]) (pc' := 7) d_V_rebase_6 rfl (Nat.le_of_ble_eq_true rfl) rfl ?_
  refine x_iload_n (pc' := 8) d_V_rebase_7 rfl rfl ?_
  refine x_ifeq (t := 13) (pc' := 11) d_V_rebase_8 rfl rfl (fun q => absurd q (by decide)) (fun _ => ?_)
  refine x_iload_n (pc' := 12) d_V_rebase_11 rfl rfl ?_
  exact x_ireturn d_V_rebase_12 rfl rfl hQ
theorem c_V_merge_4 {L : Nat} {xs : Nat → Int32} {d : Nat} {h : xm_H} {Q : xm_Q} {S : sp_S} (hV : ch_V h S) (hS : sp_WS S) {r b p q : Nat} (hr : r < 2) (hb : b < 4) (hn : sp_tip (S.2 r) b = some q) (hn2 : sp_head (S.2 r) = some p) (hcl : sp_clean S.1 (S.2 r) = true) (h4 : (sp_rr S.1 p).testBit q = true) (hQ : Q (some (.int (-4))) h) : xm_call L xs (d + 8) m_V_merge [.ref 0, .int (nI r), .int (nI b)] h Q := by
  obtain ⟨g, hg, hg2⟩ := hV.2.1
  obtain ⟨a, ha7⟩ : ∃ a, a = 7 + 4 * r := ⟨_, rfl⟩
  have hR : ch_R h a (S.2 r) := by rw [ha7]; exact hV.2.2.2.1 r hr
  have hH := hV.2.2.1
  have hWR := hS.2 r hr
  obtain ⟨t, ht, ht2⟩ := hR.2.2.1
  have h40 := hS.1.1
  have hq1 : q < sp_n S.1 := hWR.2.1 b hb q hn
  have hp1 : p < sp_n S.1 := hWR.2.1 _ hWR.1 p hn2
  refine x_call (lo := [.ref 0, .int (nI r), .int (nI b), .float 0, .float 0, .float 0, .float 0, .float 0]) (Nat.le_of_ble_eq_true rfl) rfl ?_
  refine x_aload_n (pc' := 1) d_V_merge_0 rfl rfl ?_
  refine x_iload_n (pc' := 2) d_V_merge_1 rfl rfl ?_
  refine x_iload_n (pc' := 3) d_V_merge_2 rfl rfl ?_
  refine x_virtual (a := 0) (as := [.int (nI r), .int (nI b)]) (r := []) (v := (some (.int (0)))) (h' := h) (st' := [.int (0)]) (c' := 0) (s' := 0) (pc' := 6) d_V_merge_3 rfl c_V_91 hV.1 rfl rfl (Nat.le_of_ble_eq_true rfl) (Nat.le_of_ble_eq_true rfl) (Nat.le_of_ble_eq_true rfl) (fun Q' hq => c_V_refuse_0 hV hS hr hb (by rw [hn]; exact Option.some_ne_none _) (by rw [hn2]; exact Option.some_ne_none _) hcl hq) rfl rfl rfl ?_
  refine x_istore_n (lo' := [.ref 0, .int (nI r), .int (nI b), .int (0), .float 0, .float 0, .float 0, .float 0]) (pc' := 7) d_V_merge_6 rfl (Nat.le_of_ble_eq_true rfl) rfl ?_
  refine x_iload_n (pc' := 8) d_V_merge_7 rfl rfl ?_
  refine x_ifeq (t := 13) (pc' := 11) d_V_merge_8 rfl rfl (fun _ => ?_) (fun q => absurd rfl q)
  refine x_aload_n (pc' := 14) d_V_merge_13 rfl rfl ?_
  refine x_getfield (ci := 3) (i := 1) (v := .ref 6) (pc' := 17) d_V_merge_14 rfl g_V_18 hV.1 rfl ?_
  refine x_iload_n (pc' := 18) d_V_merge_17 rfl rfl ?_
  refine x_aaload (q := a) (pc' := 19) d_V_merge_18 rfl hg (Or.inr rfl) (vp_in_nI hr (by decide)) (by rw [nI_clamp (by omega), hg2 r hr, ha7]) ?_
  refine x_astore (lo' := [.ref 0, .int (nI r), .int (nI b), .int (0), .ref a, .float 0, .float 0, .float 0]) (pc' := 21) d_V_merge_19 rfl (Nat.le_of_ble_eq_true rfl) rfl ?_
  refine x_aload (pc' := 23) d_V_merge_21 rfl rfl ?_
  refine x_virtual (a := a) (as := []) (r := []) (v := (some (.int (nI p)))) (h' := h) (st' := [.int (nI p)]) (c' := 0) (s' := 0) (pc' := 26) d_V_merge_23 rfl c_V_52 hR.2.1 rfl rfl (Nat.le_of_ble_eq_true rfl) (Nat.le_of_ble_eq_true rfl) (Nat.le_of_ble_eq_true rfl) (fun Q' hq => c_R_head hR (by rw [hn2]; exact hq)) rfl rfl rfl ?_
  refine x_istore (lo' := [.ref 0, .int (nI r), .int (nI b), .int (0), .ref a, .int (nI p), .float 0, .float 0]) (pc' := 28) d_V_merge_26 rfl (Nat.le_of_ble_eq_true rfl) rfl ?_
  refine x_aload (pc' := 30) d_V_merge_28 rfl rfl ?_
  refine x_getfield (ci := 1) (i := 0) (v := .ref (a + 1)) (pc' := 33) d_V_merge_30 rfl g_V_72 hR.2.1 rfl ?_
  refine x_iload_n (pc' := 34) d_V_merge_33 rfl rfl ?_
  refine x_iaload (v := nI q) (pc' := 35) d_V_merge_34 rfl ht (vp_in_nI hb (by decide)) (by rw [nI_clamp (by omega), ht2 b hb, hn]; rfl) ?_
  refine x_istore (lo' := [.ref 0, .int (nI r), .int (nI b), .int (0), .ref a, .int (nI p), .int (nI q), .float 0]) (pc' := 37) d_V_merge_35 rfl (Nat.le_of_ble_eq_true rfl) rfl ?_
  refine x_aload_n (pc' := 38) d_V_merge_37 rfl rfl ?_
  refine x_getfield (ci := 3) (i := 0) (v := .ref 1) (pc' := 41) d_V_merge_38 rfl g_V_10 hV.1 rfl ?_
  refine x_iload (pc' := 43) d_V_merge_41 rfl rfl ?_
  refine x_iload (pc' := 45) d_V_merge_43 rfl rfl ?_
  refine x_virtual (a := 1) (as := [.int (nI p), .int (nI q)]) (r := []) (v := (some (.int (sp_bi ((sp_rr S.1 p).testBit q))))) (h' := h) (st' := [.int (sp_bi ((sp_rr S.1 p).testBit q))]) (c' := 0) (s' := 0) (pc' := 48) d_V_merge_45 rfl c_V_95 hH.1.2 rfl rfl (Nat.le_of_ble_eq_true rfl) (Nat.le_of_ble_eq_true rfl) (Nat.le_of_ble_eq_true rfl) (fun Q' hq => c_H_reaches (c := some p) hH (sp_ok_some hp1) (sp_WH_64 hS.1 (sp_ok_some hp1)) (by omega) hq) rfl rfl rfl ?_
  refine x_ifeq (t := 54) (pc' := 51) d_V_merge_48 rfl rfl (fun q => absurd q (by rw [h4]; decide)) (fun _ => ?_)
  refine x_bipush (v := (-4)) (pc' := 53) d_V_merge_51 rfl (by decide) ?_
  exact x_ireturn d_V_merge_53 rfl rfl hQ
theorem c_V_merge_f {L : Nat} {xs : Nat → Int32} {d : Nat} {h : xm_H} {Q : xm_Q} {S : sp_S} (hV : ch_V h S) (hS : sp_WS S) {r b p q : Nat} (hr : r < 2) (hb : b < 4) (hn : sp_tip (S.2 r) b = some q) (hn2 : sp_head (S.2 r) = some p) (hcl : sp_clean S.1 (S.2 r) = true) (h4 : (sp_rr S.1 p).testBit q = false) (h5 : (sp_rr S.1 q).testBit p = true) (hQ : ∀ h', ch_V h' (S.1, sp_up S.2 r (sp_mv S.1 (S.2 r) q)) → xl_fr sp_V29 h h' → Q (some (.int (nI q))) h') : xm_call L xs (d + 8) m_V_merge [.ref 0, .int (nI r), .int (nI b)] h Q := by
  obtain ⟨g, hg, hg2⟩ := hV.2.1
  obtain ⟨a, ha7⟩ : ∃ a, a = 7 + 4 * r := ⟨_, rfl⟩
  have hR : ch_R h a (S.2 r) := by rw [ha7]; exact hV.2.2.2.1 r hr
  have hH := hV.2.2.1
  have hWR := hS.2 r hr
  obtain ⟨t, ht, ht2⟩ := hR.2.2.1
  have h40 := hS.1.1
  have hq1 : q < sp_n S.1 := hWR.2.1 b hb q hn
  have hp1 : p < sp_n S.1 := hWR.2.1 _ hWR.1 p hn2
  refine x_call (lo := [.ref 0, .int (nI r), .int (nI b), .float 0, .float 0, .float 0, .float 0, .float 0]) (Nat.le_of_ble_eq_true rfl) rfl ?_
  refine x_aload_n (pc' := 1) d_V_merge_0 rfl rfl ?_
  refine x_iload_n (pc' := 2) d_V_merge_1 rfl rfl ?_
  refine x_iload_n (pc' := 3) d_V_merge_2 rfl rfl ?_
  refine x_virtual (a := 0) (as := [.int (nI r), .int (nI b)]) (r := []) (v := (some (.int (0)))) (h' := h) (st' := [.int (0)]) (c' := 0) (s' := 0) (pc' := 6) d_V_merge_3 rfl c_V_91 hV.1 rfl rfl (Nat.le_of_ble_eq_true rfl) (Nat.le_of_ble_eq_true rfl) (Nat.le_of_ble_eq_true rfl) (fun Q' hq => c_V_refuse_0 hV hS hr hb (by rw [hn]; exact Option.some_ne_none _) (by rw [hn2]; exact Option.some_ne_none _) hcl hq) rfl rfl rfl ?_
  refine x_istore_n (lo' := [.ref 0, .int (nI r), .int (nI b), .int (0), .float 0, .float 0, .float 0, .float 0]) (pc' := 7) d_V_merge_6 rfl (Nat.le_of_ble_eq_true rfl) rfl ?_
  refine x_iload_n (pc' := 8) d_V_merge_7 rfl rfl ?_
  refine x_ifeq (t := 13) (pc' := 11) d_V_merge_8 rfl rfl (fun _ => ?_) (fun q => absurd rfl q)
  refine x_aload_n (pc' := 14) d_V_merge_13 rfl rfl ?_
  refine x_getfield (ci := 3) (i := 1) (v := .ref 6) (pc' := 17) d_V_merge_14 rfl g_V_18 hV.1 rfl ?_
  refine x_iload_n (pc' := 18) d_V_merge_17 rfl rfl ?_
  refine x_aaload (q := a) (pc' := 19) d_V_merge_18 rfl hg (Or.inr rfl) (vp_in_nI hr (by decide)) (by rw [nI_clamp (by omega), hg2 r hr, ha7]) ?_
  refine x_astore (lo' := [.ref 0, .int (nI r), .int (nI b), .int (0), .ref a, .float 0, .float 0, .float 0]) (pc' := 21) d_V_merge_19 rfl (Nat.le_of_ble_eq_true rfl) rfl ?_
  refine x_aload (pc' := 23) d_V_merge_21 rfl rfl ?_
  refine x_virtual (a := a) (as := []) (r := []) (v := (some (.int (nI p)))) (h' := h) (st' := [.int (nI p)]) (c' := 0) (s' := 0) (pc' := 26) d_V_merge_23 rfl c_V_52 hR.2.1 rfl rfl (Nat.le_of_ble_eq_true rfl) (Nat.le_of_ble_eq_true rfl) (Nat.le_of_ble_eq_true rfl) (fun Q' hq => c_R_head hR (by rw [hn2]; exact hq)) rfl rfl rfl ?_
  refine x_istore (lo' := [.ref 0, .int (nI r), .int (nI b), .int (0), .ref a, .int (nI p), .float 0, .float 0]) (pc' := 28) d_V_merge_26 rfl (Nat.le_of_ble_eq_true rfl) rfl ?_
  refine x_aload (pc' := 30) d_V_merge_28 rfl rfl ?_
  refine x_getfield (ci := 1) (i := 0) (v := .ref (a + 1)) (pc' := 33) d_V_merge_30 rfl g_V_72 hR.2.1 rfl ?_
  refine x_iload_n (pc' := 34) d_V_merge_33 rfl rfl ?_
  refine x_iaload (v := nI q) (pc' := 35) d_V_merge_34 rfl ht (vp_in_nI hb (by decide)) (by rw [nI_clamp (by omega), ht2 b hb, hn]; rfl) ?_
  refine x_istore (lo' := [.ref 0, .int (nI r), .int (nI b), .int (0), .ref a, .int (nI p), .int (nI q), .float 0]) (pc' := 37) d_V_merge_35 rfl (Nat.le_of_ble_eq_true rfl) rfl ?_
  refine x_aload_n (pc' := 38) d_V_merge_37 rfl rfl ?_
  refine x_getfield (ci := 3) (i := 0) (v := .ref 1) (pc' := 41) d_V_merge_38 rfl g_V_10 hV.1 rfl ?_
  refine x_iload (pc' := 43) d_V_merge_41 rfl rfl ?_
  refine x_iload (pc' := 45) d_V_merge_43 rfl rfl ?_
  refine x_virtual (a := 1) (as := [.int (nI p), .int (nI q)]) (r := []) (v := (some (.int (sp_bi ((sp_rr S.1 p).testBit q))))) (h' := h) (st' := [.int (sp_bi ((sp_rr S.1 p).testBit q))]) (c' := 0) (s' := 0) (pc' := 48) d_V_merge_45 rfl c_V_95 hH.1.2 rfl rfl (Nat.le_of_ble_eq_true rfl) (Nat.le_of_ble_eq_true rfl) (Nat.le_of_ble_eq_true rfl) (fun Q' hq => c_H_reaches (c := some p) hH (sp_ok_some hp1) (sp_WH_64 hS.1 (sp_ok_some hp1)) (by omega) hq) rfl rfl rfl ?_
  refine x_ifeq (t := 54) (pc' := 51) d_V_merge_48 rfl rfl (fun _ => ?_) (fun q => absurd (by rw [h4]; rfl) q)
  refine x_aload_n (pc' := 55) d_V_merge_54 rfl rfl ?_
  refine x_getfield (ci := 3) (i := 0) (v := .ref 1) (pc' := 58) d_V_merge_55 rfl g_V_10 hV.1 rfl ?_
  refine x_iload (pc' := 60) d_V_merge_58 rfl rfl ?_
  refine x_iload (pc' := 62) d_V_merge_60 rfl rfl ?_
  refine x_virtual (a := 1) (as := [.int (nI q), .int (nI p)]) (r := []) (v := (some (.int (sp_bi ((sp_rr S.1 q).testBit p))))) (h' := h) (st' := [.int (sp_bi ((sp_rr S.1 q).testBit p))]) (c' := 0) (s' := 0) (pc' := 65) d_V_merge_62 rfl c_V_95 hH.1.2 rfl rfl (Nat.le_of_ble_eq_true rfl) (Nat.le_of_ble_eq_true rfl) (Nat.le_of_ble_eq_true rfl) (fun Q' hq => c_H_reaches (c := some q) hH (sp_ok_some hq1) (sp_WH_64 hS.1 (sp_ok_some hq1)) (by omega) hq) rfl rfl rfl ?_
  refine x_ifeq (t := 73) (pc' := 68) d_V_merge_65 rfl rfl (fun q => absurd q (by rw [h5]; decide)) (fun _ => ?_)
  refine x_iload (pc' := 70) d_V_merge_68 rfl rfl ?_
  refine x_goto (t := 81) d_V_merge_70 rfl ?_
  refine x_istore (lo' := [.ref 0, .int (nI r), .int (nI b), .int (0), .ref a, .int (nI p), .int (nI q), .int (nI q)]) (pc' := 83) d_V_merge_81 rfl (Nat.le_of_ble_eq_true rfl) rfl ?_
  exact l_V_mergeT hV hS hr hq1 ha7 hQ
theorem c_V_merge_j {L : Nat} {xs : Nat → Int32} {d : Nat} {h : xm_H} {Q : xm_Q} {S : sp_S} (hV : ch_V h S) (hS : sp_WS S) {r b p q : Nat} (hr : r < 2) (hb : b < 4) (hn : sp_tip (S.2 r) b = some q) (hn2 : sp_head (S.2 r) = some p) (hcl : sp_clean S.1 (S.2 r) = true) (h4 : (sp_rr S.1 p).testBit q = false) (h5 : (sp_rr S.1 q).testBit p = false)
    (h0 : sp_snap (sp_of S.1 (sp_base S.1 (some p) (some q))) (sp_of S.1 (some p)) (sp_of S.1 (some q)) = none → ∀ h', ch_V h' S → xl_fr sp_V29 h h' → Q (some (.int (-5))) h')
    (h1q : ∀ t, sp_snap (sp_of S.1 (sp_base S.1 (some p) (some q))) (sp_of S.1 (some p)) (sp_of S.1 (some q)) = some t → 40 ≤ sp_n S.1 → ∀ h', ch_V h' S → xl_fr sp_V29 h h' → Q (some (.int (-6))) h')
    (h2q : ∀ t, sp_snap (sp_of S.1 (sp_base S.1 (some p) (some q))) (sp_of S.1 (some p)) (sp_of S.1 (some q)) = some t → sp_n S.1 < 40 → (∀ j, j < 4 → sp_wt (t j)) → ∀ h', ch_V h' (sp_add S.1 t (some p) (some q), sp_up S.2 r (sp_mv (sp_add S.1 t (some p) (some q)) (S.2 r) (sp_n S.1))) → xl_fr sp_V29 h h' → Q (some (.int (nI (sp_n S.1)))) h') : xm_call L xs (d + 8) m_V_merge [.ref 0, .int (nI r), .int (nI b)] h Q := by
  obtain ⟨g, hg, hg2⟩ := hV.2.1
  obtain ⟨a, ha7⟩ : ∃ a, a = 7 + 4 * r := ⟨_, rfl⟩
  have hR : ch_R h a (S.2 r) := by rw [ha7]; exact hV.2.2.2.1 r hr
  have hH := hV.2.2.1
  have hWR := hS.2 r hr
  obtain ⟨t, ht, ht2⟩ := hR.2.2.1
  have h40 := hS.1.1
  have hq1 : q < sp_n S.1 := hWR.2.1 b hb q hn
  have hp1 : p < sp_n S.1 := hWR.2.1 _ hWR.1 p hn2
  refine x_call (lo := [.ref 0, .int (nI r), .int (nI b), .float 0, .float 0, .float 0, .float 0, .float 0]) (Nat.le_of_ble_eq_true rfl) rfl ?_
  refine x_aload_n (pc' := 1) d_V_merge_0 rfl rfl ?_
  refine x_iload_n (pc' := 2) d_V_merge_1 rfl rfl ?_
  refine x_iload_n (pc' := 3) d_V_merge_2 rfl rfl ?_
  refine x_virtual (a := 0) (as := [.int (nI r), .int (nI b)]) (r := []) (v := (some (.int (0)))) (h' := h) (st' := [.int (0)]) (c' := 0) (s' := 0) (pc' := 6) d_V_merge_3 rfl c_V_91 hV.1 rfl rfl (Nat.le_of_ble_eq_true rfl) (Nat.le_of_ble_eq_true rfl) (Nat.le_of_ble_eq_true rfl) (fun Q' hq => c_V_refuse_0 hV hS hr hb (by rw [hn]; exact Option.some_ne_none _) (by rw [hn2]; exact Option.some_ne_none _) hcl hq) rfl rfl rfl ?_
  refine x_istore_n (lo' := [.ref 0, .int (nI r), .int (nI b), .int (0), .float 0, .float 0, .float 0, .float 0]) (pc' := 7) d_V_merge_6 rfl (Nat.le_of_ble_eq_true rfl) rfl ?_
  refine x_iload_n (pc' := 8) d_V_merge_7 rfl rfl ?_
  refine x_ifeq (t := 13) (pc' := 11) d_V_merge_8 rfl rfl (fun _ => ?_) (fun q => absurd rfl q)
  refine x_aload_n (pc' := 14) d_V_merge_13 rfl rfl ?_
  refine x_getfield (ci := 3) (i := 1) (v := .ref 6) (pc' := 17) d_V_merge_14 rfl g_V_18 hV.1 rfl ?_
  refine x_iload_n (pc' := 18) d_V_merge_17 rfl rfl ?_
  refine x_aaload (q := a) (pc' := 19) d_V_merge_18 rfl hg (Or.inr rfl) (vp_in_nI hr (by decide)) (by rw [nI_clamp (by omega), hg2 r hr, ha7]) ?_
  refine x_astore (lo' := [.ref 0, .int (nI r), .int (nI b), .int (0), .ref a, .float 0, .float 0, .float 0]) (pc' := 21) d_V_merge_19 rfl (Nat.le_of_ble_eq_true rfl) rfl ?_
  refine x_aload (pc' := 23) d_V_merge_21 rfl rfl ?_
  refine x_virtual (a := a) (as := []) (r := []) (v := (some (.int (nI p)))) (h' := h) (st' := [.int (nI p)]) (c' := 0) (s' := 0) (pc' := 26) d_V_merge_23 rfl c_V_52 hR.2.1 rfl rfl (Nat.le_of_ble_eq_true rfl) (Nat.le_of_ble_eq_true rfl) (Nat.le_of_ble_eq_true rfl) (fun Q' hq => c_R_head hR (by rw [hn2]; exact hq)) rfl rfl rfl ?_
  refine x_istore (lo' := [.ref 0, .int (nI r), .int (nI b), .int (0), .ref a, .int (nI p), .float 0, .float 0]) (pc' := 28) d_V_merge_26 rfl (Nat.le_of_ble_eq_true rfl) rfl ?_
  refine x_aload (pc' := 30) d_V_merge_28 rfl rfl ?_
  refine x_getfield (ci := 1) (i := 0) (v := .ref (a + 1)) (pc' := 33) d_V_merge_30 rfl g_V_72 hR.2.1 rfl ?_
  refine x_iload_n (pc' := 34) d_V_merge_33 rfl rfl ?_
  refine x_iaload (v := nI q) (pc' := 35) d_V_merge_34 rfl ht (vp_in_nI hb (by decide)) (by rw [nI_clamp (by omega), ht2 b hb, hn]; rfl) ?_
  refine x_istore (lo' := [.ref 0, .int (nI r), .int (nI b), .int (0), .ref a, .int (nI p), .int (nI q), .float 0]) (pc' := 37) d_V_merge_35 rfl (Nat.le_of_ble_eq_true rfl) rfl ?_
  refine x_aload_n (pc' := 38) d_V_merge_37 rfl rfl ?_
  refine x_getfield (ci := 3) (i := 0) (v := .ref 1) (pc' := 41) d_V_merge_38 rfl g_V_10 hV.1 rfl ?_
  refine x_iload (pc' := 43) d_V_merge_41 rfl rfl ?_
  refine x_iload (pc' := 45) d_V_merge_43 rfl rfl ?_
  refine x_virtual (a := 1) (as := [.int (nI p), .int (nI q)]) (r := []) (v := (some (.int (sp_bi ((sp_rr S.1 p).testBit q))))) (h' := h) (st' := [.int (sp_bi ((sp_rr S.1 p).testBit q))]) (c' := 0) (s' := 0) (pc' := 48) d_V_merge_45 rfl c_V_95 hH.1.2 rfl rfl (Nat.le_of_ble_eq_true rfl) (Nat.le_of_ble_eq_true rfl) (Nat.le_of_ble_eq_true rfl) (fun Q' hq => c_H_reaches (c := some p) hH (sp_ok_some hp1) (sp_WH_64 hS.1 (sp_ok_some hp1)) (by omega) hq) rfl rfl rfl ?_
  refine x_ifeq (t := 54) (pc' := 51) d_V_merge_48 rfl rfl (fun _ => ?_) (fun q => absurd (by rw [h4]; rfl) q)
  refine x_aload_n (pc' := 55) d_V_merge_54 rfl rfl ?_
  refine x_getfield (ci := 3) (i := 0) (v := .ref 1) (pc' := 58) d_V_merge_55 rfl g_V_10 hV.1 rfl ?_
  refine x_iload (pc' := 60) d_V_merge_58 rfl rfl ?_
  refine x_iload (pc' := 62) d_V_merge_60 rfl rfl ?_
  refine x_virtual (a := 1) (as := [.int (nI q), .int (nI p)]) (r := []) (v := (some (.int (sp_bi ((sp_rr S.1 q).testBit p))))) (h' := h) (st' := [.int (sp_bi ((sp_rr S.1 q).testBit p))]) (c' := 0) (s' := 0) (pc' := 65) d_V_merge_62 rfl c_V_95 hH.1.2 rfl rfl (Nat.le_of_ble_eq_true rfl) (Nat.le_of_ble_eq_true rfl) (Nat.le_of_ble_eq_true rfl) (fun Q' hq => c_H_reaches (c := some q) hH (sp_ok_some hq1) (sp_WH_64 hS.1 (sp_ok_some hq1)) (by omega) hq) rfl rfl rfl ?_
  refine x_ifeq (t := 73) (pc' := 68) d_V_merge_65 rfl rfl (fun _ => ?_) (fun q => absurd (by rw [h5]; rfl) q)
  refine x_aload_n (pc' := 74) d_V_merge_73 rfl rfl ?_
  refine x_iload (pc' := 76) d_V_merge_74 rfl rfl ?_
  refine x_iload (pc' := 78) d_V_merge_76 rfl rfl ?_
  refine x_virtualR (a := 0) (as := [.int (nI p), .int (nI q)]) (r := []) (Post := fun v h9 => (v = some (.int (-5)) ∧ sp_snap (sp_of S.1 (sp_base S.1 (some p) (some q))) (sp_of S.1 (some p)) (sp_of S.1 (some q)) = none ∧ ch_V h9 S ∧ xl_fr sp_US h h9) ∨ (v = some (.int (-6)) ∧ (∃ t, sp_snap (sp_of S.1 (sp_base S.1 (some p) (some q))) (sp_of S.1 (some p)) (sp_of S.1 (some q)) = some t) ∧ 40 ≤ sp_n S.1 ∧ ch_V h9 S ∧ xl_fr sp_US h h9) ∨ (v = some (.int (nI (sp_n S.1))) ∧ ∃ t, sp_snap (sp_of S.1 (sp_base S.1 (some p) (some q))) (sp_of S.1 (some p)) (sp_of S.1 (some q)) = some t ∧ sp_n S.1 < 40 ∧ (∀ j, j < 4 → sp_wt (t j)) ∧ ch_V h9 (sp_add S.1 t (some p) (some q), S.2) ∧ xl_fr sp_JS h h9)) (c' := 0) (s' := 0) (pc' := 81) d_V_merge_78 rfl c_V_99 hV.1 rfl rfl (Nat.le_of_ble_eq_true rfl) (Nat.le_of_ble_eq_true rfl) (Nat.le_of_ble_eq_true rfl) (fun Q' hq => c_V_joinCommits hV hS.1 hp1 hq1 (fun e h' z1 z2 => hq _ h' (Or.inl ⟨rfl, e, z1, z2⟩)) (fun t e hn h' z1 z2 => hq _ h' (Or.inr (Or.inl ⟨rfl, ⟨t, e⟩, hn, z1, z2⟩))) (fun t e hn wt h' z1 u z2 z3 => hq _ h' (Or.inr (Or.inr ⟨rfl, t, e, hn, wt, ch_V_his hV z3 z1 z2, z3⟩)))) rfl rfl (fun v9 h1 hp => ?_)
  rcases hp with ⟨rfl, e1, V1, f1⟩ | ⟨rfl, ⟨t, e1⟩, hn3, V1, f1⟩ | ⟨rfl, t, e1, hn3, wt, V1, f1⟩
  · show xm_X L xs (xm_call L xs (d + 7)) m_V_merge (81, [.ref 0, .int (nI r), .int (nI b), .int (0), .ref a, .int (nI p), .int (nI q), .float 0], [.int (-5)], h1, 0, 0) Q
    refine x_istore (lo' := [.ref 0, .int (nI r), .int (nI b), .int (0), .ref a, .int (nI p), .int (nI q), .int (-5)]) (pc' := 83) d_V_merge_81 rfl (Nat.le_of_ble_eq_true rfl) rfl ?_
    refine x_iload (pc' := 85) d_V_merge_83 rfl rfl ?_
    refine x_iflt (t := 96) (pc' := 88) d_V_merge_85 rfl rfl (fun _ => ?_) (fun q => absurd (by decide) q)
    refine x_iload (pc' := 98) d_V_merge_96 rfl rfl ?_
    exact x_ireturn d_V_merge_98 rfl rfl (h0 e1 h1 V1 (xl_mono f1 (fun k z => by show k < 29; omega)))
  · show xm_X L xs (xm_call L xs (d + 7)) m_V_merge (81, [.ref 0, .int (nI r), .int (nI b), .int (0), .ref a, .int (nI p), .int (nI q), .float 0], [.int (-6)], h1, 0, 0) Q
    refine x_istore (lo' := [.ref 0, .int (nI r), .int (nI b), .int (0), .ref a, .int (nI p), .int (nI q), .int (-6)]) (pc' := 83) d_V_merge_81 rfl (Nat.le_of_ble_eq_true rfl) rfl ?_
    refine x_iload (pc' := 85) d_V_merge_83 rfl rfl ?_
    refine x_iflt (t := 96) (pc' := 88) d_V_merge_85 rfl rfl (fun _ => ?_) (fun q => absurd (by decide) q)
    refine x_iload (pc' := 98) d_V_merge_96 rfl rfl ?_
    exact x_ireturn d_V_merge_98 rfl rfl (h1q t e1 hn3 h1 V1 (xl_mono f1 (fun k z => by show k < 29; omega)))
  · show xm_X L xs (xm_call L xs (d + 7)) m_V_merge (81, [.ref 0, .int (nI r), .int (nI b), .int (0), .ref a, .int (nI p), .int (nI q), .float 0], [.int (nI (sp_n S.1))], h1, 0, 0) Q
    refine x_istore (lo' := [.ref 0, .int (nI r), .int (nI b), .int (0), .ref a, .int (nI p), .int (nI q), .int (nI (sp_n S.1))]) (pc' := 83) d_V_merge_81 rfl (Nat.le_of_ble_eq_true rfl) rfl ?_
    exact l_V_mergeT V1 ⟨sp_WH_add hS.1 hn3 (sp_ok_some hp1) (sp_ok_some hq1) wt, fun k hk => sp_WR_add (hS.2 k hk)⟩ hr (Nat.lt_succ_self _) ha7 (fun h' z1 z2 => h2q t e1 hn3 wt h' z1 (xl_tr (xl_mono f1 (fun k z => by show k < 29; rcases z with z | z <;> omega)) z2))
theorem c_V_merge {L : Nat} {xs : Nat → Int32} {d : Nat} {h : xm_H} {Q : xm_Q} {S : sp_S} (hV : ch_V h S) (hS : sp_WS S) {x y : Int32} (hQ : ∀ h', ch_V h' (sp_merge S x y).2 → xl_fr sp_V29 h h' → Q (some (.int (sp_merge S x y).1)) h') : xm_call L xs (d + 8) m_V_merge [.ref 0, .int x, .int y] h Q := by
  have key : ∀ z, sp_merge S x y = (z, S) → Q (some (.int z)) h := fun z e9 => by
    rw [e9] at hQ
    exact hQ h hV xl_rf
  rcases sp_in_cases 2 (by decide) x with ⟨_, e⟩ | ⟨_, _, e⟩ | ⟨r, hr, rfl, e⟩
  · exact c_V_merge_x hV hS e (key _ (by unfold sp_merge; rw [e]))
  · exact c_V_merge_x hV hS e (key _ (by unfold sp_merge; rw [e]))
  · rcases sp_in_cases 4 (by decide) y with ⟨_, e2⟩ | ⟨_, _, e2⟩ | ⟨b, hb, rfl, e2⟩
    · exact c_V_merge_y hV hS hr e2 (key _ (by unfold sp_merge; rw [e, e2]))
    · exact c_V_merge_y hV hS hr e2 (key _ (by unfold sp_merge; rw [e, e2]))
    · cases h1 : sp_tip (S.2 r) b with
      | none => exact c_V_merge_t hV hS hr hb h1 (key _ (by unfold sp_merge; rw [e, e2]; dsimp only; rw [h1]))
      | some q =>
        have h1' : sp_tip (S.2 r) b ≠ none := by rw [h1]; exact Option.some_ne_none _
        cases h2 : sp_head (S.2 r) with
        | none => exact c_V_merge_h hV hS hr hb h1' h2 (key _ (by unfold sp_merge; rw [e, e2]; dsimp only; rw [h1, h2]))
        | some p =>
          have h2' : sp_head (S.2 r) ≠ none := by rw [h2]; exact Option.some_ne_none _
          cases h3 : sp_clean S.1 (S.2 r) with
          | false => exact c_V_merge_d hV hS hr hb h1' h2' h3 (key _ (by unfold sp_merge; rw [e, e2]; dsimp only; rw [h1, h2]; dsimp only; rw [h3]; rfl))
          | true =>
            cases h4 : (sp_rr S.1 p).testBit q with
            | true => exact c_V_merge_4 hV hS hr hb h1 h2 h3 h4 (key _ (by unfold sp_merge; rw [e, e2]; dsimp only; rw [h1, h2]; dsimp only; rw [h3, h4]; rfl))
            | false =>
              cases h5 : (sp_rr S.1 q).testBit p with
              | true =>
                have e9 : sp_merge S (nI r) (nI b) = (nI q, sp_set S r (sp_mv S.1 (S.2 r) q)) := by unfold sp_merge; rw [e, e2]; dsimp only; rw [h1, h2]; dsimp only; rw [h3, h4, h5]; rfl
                rw [e9] at hQ
                exact c_V_merge_f hV hS hr hb h1 h2 h3 h4 h5 hQ
              | false =>
                have e9 : sp_merge S (nI r) (nI b) = match sp_snap (sp_of S.1 (sp_base S.1 (some p) (some q))) (sp_of S.1 (some p)) (sp_of S.1 (some q)) with
      | none => (-5, S)
      | some t => if 40 ≤ sp_n S.1 then (-6, S) else (nI (sp_n S.1), sp_add S.1 t (some p) (some q), sp_up S.2 r (sp_mv (sp_add S.1 t (some p) (some q)) (S.2 r) (sp_n S.1))) := by unfold sp_merge; rw [e, e2]; dsimp only; rw [h1, h2]; dsimp only; rw [h3, h4, h5]; rfl
                rw [e9] at hQ
                refine c_V_merge_j hV hS hr hb h1 h2 h3 h4 h5 (fun e5 h' z1 z2 => ?_) (fun t e5 hn h' z1 z2 => ?_) (fun t e5 hn _ h' z1 z2 => ?_)
                · rw [e5] at hQ
                  exact hQ h' z1 z2
                · rw [e5] at hQ
                  dsimp only at hQ
                  rw [if_pos hn] at hQ
                  exact hQ h' z1 z2
                · rw [e5] at hQ
                  dsimp only at hQ
                  rw [if_neg (by omega)] at hQ
                  exact hQ h' z1 z2
theorem l_V_pickT {L : Nat} {xs : Nat → Int32} {d : Nat} {h : xm_H} {Q : xm_Q} {S : sp_S} (hV : ch_V h S) (hS : sp_WS S) {r c a : Nat} {q : Nat} (hr : r < 2) (hc : c < sp_n S.1) (ha7 : a = 7 + 4 * r)
    (hQ : ∀ h', ch_V h' (S.1, sp_up S.2 r (sp_mv S.1 (S.2 r) c)) → xl_fr sp_V29 h h' → Q (some (.int (nI c))) h') : xm_X L xs (xm_call L xs (d + 5)) m_V_pick (59, [.ref 0, .int (nI r), .int (nI q), .ref a, .int (nI c)], [], h, 0, 0) Q := by
  have hR : ch_R h a (S.2 r) := by rw [ha7]; exact hV.2.2.2.1 r hr
  have hH := hV.2.2.1
  have hWR := hS.2 r hr
  have h40 := hS.1.1
  refine x_iload (pc' := 61) d_V_pick_59 rfl rfl ?_
  refine x_iflt (t := 71) (pc' := 64) d_V_pick_61 rfl rfl (fun q => absurd q (nI_pos (by omega))) (fun _ => ?_)
  refine x_aload_n (pc' := 65) d_V_pick_64 rfl rfl ?_
  refine x_aload_n (pc' := 66) d_V_pick_65 rfl rfl ?_
  refine x_iload (pc' := 68) d_V_pick_66 rfl rfl ?_
  refine x_virtualR (a := 0) (as := [.ref a, .int (nI c)]) (r := []) (Post := fun v h9 => v = none ∧ ch_R h9 a (sp_mv S.1 (S.2 r) c) ∧ xl_fr (fun k => a ≤ k ∧ k ≤ a + 3) h h9) (c' := 0) (s' := 0) (pc' := 71) d_V_pick_68 rfl c_V_87 hV.1 rfl rfl (Nat.le_of_ble_eq_true rfl) (Nat.le_of_ble_eq_true rfl) (Nat.le_of_ble_eq_true rfl) (fun Q' hq => c_V_moveTo (by omega) hV.1 hH hR hc (Nat.lt_of_lt_of_le hWR.2.2.1 (Nat.pow_le_pow_right (by decide) (by omega))) (sp_WH_64 hS.1 (c := some c) (sp_ok_some hc)) (fun h' z1 z2 => hq none h' ⟨rfl, z1, z2⟩)) rfl rfl (fun v9 h2 hp => ?_)
  obtain ⟨rfl, R2, f2⟩ := hp
  show xm_X L xs (xm_call L xs (d + 5)) m_V_pick (71, [.ref 0, .int (nI r), .int (nI q), .ref a, .int (nI c)], [], h2, 0, 0) Q
  refine x_iload (pc' := 73) d_V_pick_71 rfl rfl ?_
  exact x_ireturn d_V_pick_73 rfl rfl (hQ h2 (ch_V_rep hV hr (xl_mono f2 (fun k z => ⟨by omega, by omega⟩)) (by rw [← ha7]; exact R2)) (xl_mono f2 (fun k z => by show k < 29; omega)))
theorem c_V_pick_x {L : Nat} {xs : Nat → Int32} {d : Nat} {h : xm_H} {Q : xm_Q} {S : sp_S} (hV : ch_V h S) (hS : sp_WS S) {x y : Int32} (hx : sp_in 2 x = none) (hQ : Q (some (.int (-1))) h) : xm_call L xs (d + 6) m_V_pick [.ref 0, .int x, .int y] h Q := by
  refine x_call (lo := [.ref 0, .int x, .int y, .float 0, .float 0]) (Nat.le_of_ble_eq_true rfl) rfl ?_
  refine x_iload_n (pc' := 1) d_V_pick_0 rfl rfl ?_
  refine x_static (as := [.int x]) (r := []) (v := (some (.int 0))) (h' := h) (st' := [.int 0]) (c' := 0) (s' := 0) (pc' := 4) d_V_pick_1 rfl c_V_30 rfl rfl (Nat.le_of_ble_eq_true rfl) (Nat.le_of_ble_eq_true rfl) (Nat.le_of_ble_eq_true rfl) (fun Q' hq => c_V_isRepository0 hx hq) rfl rfl rfl ?_
  refine x_ifne (t := 9) (pc' := 7) d_V_pick_4 rfl rfl (fun q => absurd rfl q) (fun _ => ?_)
  refine x_iconst (v := (-1)) (pc' := 8) d_V_pick_7 rfl (by decide) ?_
  exact x_ireturn d_V_pick_8 rfl rfl hQ
theorem c_V_pick_y {L : Nat} {xs : Nat → Int32} {d : Nat} {h : xm_H} {Q : xm_Q} {S : sp_S} (hV : ch_V h S) (hS : sp_WS S) {r : Nat} {y : Int32} (hr : r < 2) (hy : sp_in (sp_n S.1) y = none) (hQ : Q (some (.int (-2))) h) : xm_call L xs (d + 6) m_V_pick [.ref 0, .int (nI r), .int y] h Q := by
  obtain ⟨g, hg, hg2⟩ := hV.2.1
  obtain ⟨a, ha7⟩ : ∃ a, a = 7 + 4 * r := ⟨_, rfl⟩
  have hR : ch_R h a (S.2 r) := by rw [ha7]; exact hV.2.2.2.1 r hr
  have hH := hV.2.2.1
  have hWR := hS.2 r hr
  have h40 := hS.1.1
  have hm : sp_held (S.2 r) < 2 ^ 64 := Nat.lt_of_lt_of_le hWR.2.2.1 (Nat.pow_le_pow_right (by decide) (by omega))
  refine x_call (lo := [.ref 0, .int (nI r), .int y, .float 0, .float 0]) (Nat.le_of_ble_eq_true rfl) rfl ?_
  refine x_iload_n (pc' := 1) d_V_pick_0 rfl rfl ?_
  refine x_static (as := [.int (nI r)]) (r := []) (v := (some (.int 1))) (h' := h) (st' := [.int 1]) (c' := 0) (s' := 0) (pc' := 4) d_V_pick_1 rfl c_V_30 rfl rfl (Nat.le_of_ble_eq_true rfl) (Nat.le_of_ble_eq_true rfl) (Nat.le_of_ble_eq_true rfl) (fun Q' hq => c_V_isRepository1 hr hq) rfl rfl rfl ?_
  refine x_ifne (t := 9) (pc' := 7) d_V_pick_4 rfl rfl (fun _ => ?_) (fun q => absurd q (by decide))
  refine x_aload_n (pc' := 10) d_V_pick_9 rfl rfl ?_
  refine x_getfield (ci := 3) (i := 1) (v := .ref 6) (pc' := 13) d_V_pick_10 rfl g_V_18 hV.1 rfl ?_
  refine x_iload_n (pc' := 14) d_V_pick_13 rfl rfl ?_
  refine x_aaload (q := a) (pc' := 15) d_V_pick_14 rfl hg (Or.inr rfl) (vp_in_nI hr (by decide)) (by rw [nI_clamp (by omega), hg2 r hr, ha7]) ?_
  refine x_astore_n (lo' := [.ref 0, .int (nI r), .int y, .ref a, .float 0]) (pc' := 16) d_V_pick_15 rfl (Nat.le_of_ble_eq_true rfl) rfl ?_
  refine x_aload_n (pc' := 17) d_V_pick_16 rfl rfl ?_
  refine x_aload_n (pc' := 18) d_V_pick_17 rfl rfl ?_
  refine x_iload_n (pc' := 19) d_V_pick_18 rfl rfl ?_
  refine x_virtual (a := 0) (as := [.ref a, .int y]) (r := []) (v := (some (.int 0))) (h' := h) (st' := [.int 0]) (c' := 0) (s' := 0) (pc' := 22) d_V_pick_19 rfl c_V_102 hV.1 rfl rfl (Nat.le_of_ble_eq_true rfl) (Nat.le_of_ble_eq_true rfl) (Nat.le_of_ble_eq_true rfl) (fun Q' hq => c_V_isHeld0 hV.1 hH hy hq) rfl rfl rfl ?_
  refine x_ifeq (t := 34) (pc' := 25) d_V_pick_22 rfl rfl (fun _ => ?_) (fun q => absurd rfl q)
  refine x_bipush (v := (-2)) (pc' := 36) d_V_pick_34 rfl (by decide) ?_
  exact x_ireturn d_V_pick_36 rfl rfl hQ
theorem c_V_pick_n {L : Nat} {xs : Nat → Int32} {d : Nat} {h : xm_H} {Q : xm_Q} {S : sp_S} (hV : ch_V h S) (hS : sp_WS S) {r q : Nat} (hr : r < 2) (hq1 : q < sp_n S.1) (h1 : (sp_held (S.2 r)).testBit q = false) (hQ : Q (some (.int (-2))) h) : xm_call L xs (d + 6) m_V_pick [.ref 0, .int (nI r), .int (nI q)] h Q := by
  obtain ⟨g, hg, hg2⟩ := hV.2.1
  obtain ⟨a, ha7⟩ : ∃ a, a = 7 + 4 * r := ⟨_, rfl⟩
  have hR : ch_R h a (S.2 r) := by rw [ha7]; exact hV.2.2.2.1 r hr
  have hH := hV.2.2.1
  have hWR := hS.2 r hr
  have h40 := hS.1.1
  have hm : sp_held (S.2 r) < 2 ^ 64 := Nat.lt_of_lt_of_le hWR.2.2.1 (Nat.pow_le_pow_right (by decide) (by omega))
  refine x_call (lo := [.ref 0, .int (nI r), .int (nI q), .float 0, .float 0]) (Nat.le_of_ble_eq_true rfl) rfl ?_
  refine x_iload_n (pc' := 1) d_V_pick_0 rfl rfl ?_
  refine x_static (as := [.int (nI r)]) (r := []) (v := (some (.int 1))) (h' := h) (st' := [.int 1]) (c' := 0) (s' := 0) (pc' := 4) d_V_pick_1 rfl c_V_30 rfl rfl (Nat.le_of_ble_eq_true rfl) (Nat.le_of_ble_eq_true rfl) (Nat.le_of_ble_eq_true rfl) (fun Q' hq => c_V_isRepository1 hr hq) rfl rfl rfl ?_
  refine x_ifne (t := 9) (pc' := 7) d_V_pick_4 rfl rfl (fun _ => ?_) (fun q => absurd q (by decide))
  refine x_aload_n (pc' := 10) d_V_pick_9 rfl rfl ?_
  refine x_getfield (ci := 3) (i := 1) (v := .ref 6) (pc' := 13) d_V_pick_10 rfl g_V_18 hV.1 rfl ?_
  refine x_iload_n (pc' := 14) d_V_pick_13 rfl rfl ?_
  refine x_aaload (q := a) (pc' := 15) d_V_pick_14 rfl hg (Or.inr rfl) (vp_in_nI hr (by decide)) (by rw [nI_clamp (by omega), hg2 r hr, ha7]) ?_
  refine x_astore_n (lo' := [.ref 0, .int (nI r), .int (nI q), .ref a, .float 0]) (pc' := 16) d_V_pick_15 rfl (Nat.le_of_ble_eq_true rfl) rfl ?_
  refine x_aload_n (pc' := 17) d_V_pick_16 rfl rfl ?_
  refine x_aload_n (pc' := 18) d_V_pick_17 rfl rfl ?_
  refine x_iload_n (pc' := 19) d_V_pick_18 rfl rfl ?_
  refine x_virtual (a := 0) (as := [.ref a, .int (nI q)]) (r := []) (v := (some (.int (sp_bi ((sp_held (S.2 r)).testBit q))))) (h' := h) (st' := [.int (sp_bi ((sp_held (S.2 r)).testBit q))]) (c' := 0) (s' := 0) (pc' := 22) d_V_pick_19 rfl c_V_102 hV.1 rfl rfl (Nat.le_of_ble_eq_true rfl) (Nat.le_of_ble_eq_true rfl) (Nat.le_of_ble_eq_true rfl) (fun Q' hq => c_V_isHeld1 hV.1 hH hR hq1 hm hq) rfl rfl rfl ?_
  refine x_ifeq (t := 34) (pc' := 25) d_V_pick_22 rfl rfl (fun _ => ?_) (fun q => absurd (by rw [h1]; rfl) q)
  refine x_bipush (v := (-2)) (pc' := 36) d_V_pick_34 rfl (by decide) ?_
  exact x_ireturn d_V_pick_36 rfl rfl hQ
theorem c_V_pick_h {L : Nat} {xs : Nat → Int32} {d : Nat} {h : xm_H} {Q : xm_Q} {S : sp_S} (hV : ch_V h S) (hS : sp_WS S) {r q : Nat} (hr : r < 2) (hq1 : q < sp_n S.1) (h1 : (sp_held (S.2 r)).testBit q = true) (h2 : sp_head (S.2 r) = none) (hQ : Q (some (.int (-2))) h) : xm_call L xs (d + 6) m_V_pick [.ref 0, .int (nI r), .int (nI q)] h Q := by
  obtain ⟨g, hg, hg2⟩ := hV.2.1
  obtain ⟨a, ha7⟩ : ∃ a, a = 7 + 4 * r := ⟨_, rfl⟩
  have hR : ch_R h a (S.2 r) := by rw [ha7]; exact hV.2.2.2.1 r hr
  have hH := hV.2.2.1
  have hWR := hS.2 r hr
  have h40 := hS.1.1
  have hm : sp_held (S.2 r) < 2 ^ 64 := Nat.lt_of_lt_of_le hWR.2.2.1 (Nat.pow_le_pow_right (by decide) (by omega))
  refine x_call (lo := [.ref 0, .int (nI r), .int (nI q), .float 0, .float 0]) (Nat.le_of_ble_eq_true rfl) rfl ?_
  refine x_iload_n (pc' := 1) d_V_pick_0 rfl rfl ?_
  refine x_static (as := [.int (nI r)]) (r := []) (v := (some (.int 1))) (h' := h) (st' := [.int 1]) (c' := 0) (s' := 0) (pc' := 4) d_V_pick_1 rfl c_V_30 rfl rfl (Nat.le_of_ble_eq_true rfl) (Nat.le_of_ble_eq_true rfl) (Nat.le_of_ble_eq_true rfl) (fun Q' hq => c_V_isRepository1 hr hq) rfl rfl rfl ?_
  refine x_ifne (t := 9) (pc' := 7) d_V_pick_4 rfl rfl (fun _ => ?_) (fun q => absurd q (by decide))
  refine x_aload_n (pc' := 10) d_V_pick_9 rfl rfl ?_
  refine x_getfield (ci := 3) (i := 1) (v := .ref 6) (pc' := 13) d_V_pick_10 rfl g_V_18 hV.1 rfl ?_
  refine x_iload_n (pc' := 14) d_V_pick_13 rfl rfl ?_
  refine x_aaload (q := a) (pc' := 15) d_V_pick_14 rfl hg (Or.inr rfl) (vp_in_nI hr (by decide)) (by rw [nI_clamp (by omega), hg2 r hr, ha7]) ?_
  refine x_astore_n (lo' := [.ref 0, .int (nI r), .int (nI q), .ref a, .float 0]) (pc' := 16) d_V_pick_15 rfl (Nat.le_of_ble_eq_true rfl) rfl ?_
  refine x_aload_n (pc' := 17) d_V_pick_16 rfl rfl ?_
  refine x_aload_n (pc' := 18) d_V_pick_17 rfl rfl ?_
  refine x_iload_n (pc' := 19) d_V_pick_18 rfl rfl ?_
  refine x_virtual (a := 0) (as := [.ref a, .int (nI q)]) (r := []) (v := (some (.int (sp_bi ((sp_held (S.2 r)).testBit q))))) (h' := h) (st' := [.int (sp_bi ((sp_held (S.2 r)).testBit q))]) (c' := 0) (s' := 0) (pc' := 22) d_V_pick_19 rfl c_V_102 hV.1 rfl rfl (Nat.le_of_ble_eq_true rfl) (Nat.le_of_ble_eq_true rfl) (Nat.le_of_ble_eq_true rfl) (fun Q' hq => c_V_isHeld1 hV.1 hH hR hq1 hm hq) rfl rfl rfl ?_
  refine x_ifeq (t := 34) (pc' := 25) d_V_pick_22 rfl rfl (fun q => absurd q (by rw [h1]; decide)) (fun _ => ?_)
  refine x_aload_n (pc' := 26) d_V_pick_25 rfl rfl ?_
  refine x_virtual (a := a) (as := []) (r := []) (v := (some (.int (sp_vi (sp_head (S.2 r)))))) (h' := h) (st' := [.int (sp_vi (sp_head (S.2 r)))]) (c' := 0) (s' := 0) (pc' := 29) d_V_pick_26 rfl c_V_52 hR.2.1 rfl rfl (Nat.le_of_ble_eq_true rfl) (Nat.le_of_ble_eq_true rfl) (Nat.le_of_ble_eq_true rfl) (fun Q' hq => c_R_head hR hq) rfl rfl rfl ?_
  refine x_bipush (v := (-2)) (pc' := 31) d_V_pick_29 rfl (by decide) ?_
  refine x_icmpne (t := 37) (pc' := 34) d_V_pick_31 rfl rfl (fun q => absurd (by rw [h2]; rfl) q) (fun _ => ?_)
  refine x_bipush (v := (-2)) (pc' := 36) d_V_pick_34 rfl (by decide) ?_
  exact x_ireturn d_V_pick_36 rfl rfl hQ
theorem c_V_pick_d {L : Nat} {xs : Nat → Int32} {d : Nat} {h : xm_H} {Q : xm_Q} {S : sp_S} (hV : ch_V h S) (hS : sp_WS S) {r p q : Nat} (hr : r < 2) (hq1 : q < sp_n S.1) (h1 : (sp_held (S.2 r)).testBit q = true) (hn2 : sp_head (S.2 r) = some p) (hcl : sp_clean S.1 (S.2 r) = false) (hQ : Q (some (.int (-3))) h) : xm_call L xs (d + 6) m_V_pick [.ref 0, .int (nI r), .int (nI q)] h Q := by
  obtain ⟨g, hg, hg2⟩ := hV.2.1
  obtain ⟨a, ha7⟩ : ∃ a, a = 7 + 4 * r := ⟨_, rfl⟩
  have hR : ch_R h a (S.2 r) := by rw [ha7]; exact hV.2.2.2.1 r hr
  have hH := hV.2.2.1
  have hWR := hS.2 r hr
  have h40 := hS.1.1
  have hm : sp_held (S.2 r) < 2 ^ 64 := Nat.lt_of_lt_of_le hWR.2.2.1 (Nat.pow_le_pow_right (by decide) (by omega))
  have hp1 : p < sp_n S.1 := hWR.2.1 _ hWR.1 p hn2
  refine x_call (lo := [.ref 0, .int (nI r), .int (nI q), .float 0, .float 0]) (Nat.le_of_ble_eq_true rfl) rfl ?_
  refine x_iload_n (pc' := 1) d_V_pick_0 rfl rfl ?_
  refine x_static (as := [.int (nI r)]) (r := []) (v := (some (.int 1))) (h' := h) (st' := [.int 1]) (c' := 0) (s' := 0) (pc' := 4) d_V_pick_1 rfl c_V_30 rfl rfl (Nat.le_of_ble_eq_true rfl) (Nat.le_of_ble_eq_true rfl) (Nat.le_of_ble_eq_true rfl) (fun Q' hq => c_V_isRepository1 hr hq) rfl rfl rfl ?_
  refine x_ifne (t := 9) (pc' := 7) d_V_pick_4 rfl rfl (fun _ => ?_) (fun q => absurd q (by decide))
  refine x_aload_n (pc' := 10) d_V_pick_9 rfl rfl ?_
  refine x_getfield (ci := 3) (i := 1) (v := .ref 6) (pc' := 13) d_V_pick_10 rfl g_V_18 hV.1 rfl ?_
  refine x_iload_n (pc' := 14) d_V_pick_13 rfl rfl ?_
  refine x_aaload (q := a) (pc' := 15) d_V_pick_14 rfl hg (Or.inr rfl) (vp_in_nI hr (by decide)) (by rw [nI_clamp (by omega), hg2 r hr, ha7]) ?_
  refine x_astore_n (lo' := [.ref 0, .int (nI r), .int (nI q), .ref a, .float 0]) (pc' := 16) d_V_pick_15 rfl (Nat.le_of_ble_eq_true rfl) rfl ?_
  refine x_aload_n (pc' := 17) d_V_pick_16 rfl rfl ?_
  refine x_aload_n (pc' := 18) d_V_pick_17 rfl rfl ?_
  refine x_iload_n (pc' := 19) d_V_pick_18 rfl rfl ?_
  refine x_virtual (a := 0) (as := [.ref a, .int (nI q)]) (r := []) (v := (some (.int (sp_bi ((sp_held (S.2 r)).testBit q))))) (h' := h) (st' := [.int (sp_bi ((sp_held (S.2 r)).testBit q))]) (c' := 0) (s' := 0) (pc' := 22) d_V_pick_19 rfl c_V_102 hV.1 rfl rfl (Nat.le_of_ble_eq_true rfl) (Nat.le_of_ble_eq_true rfl) (Nat.le_of_ble_eq_true rfl) (fun Q' hq => c_V_isHeld1 hV.1 hH hR hq1 hm hq) rfl rfl rfl ?_
  refine x_ifeq (t := 34) (pc' := 25) d_V_pick_22 rfl rfl (fun q => absurd q (by rw [h1]; decide)) (fun _ => ?_)
  refine x_aload_n (pc' := 26) d_V_pick_25 rfl rfl ?_
  refine x_virtual (a := a) (as := []) (r := []) (v := (some (.int (nI p)))) (h' := h) (st' := [.int (nI p)]) (c' := 0) (s' := 0) (pc' := 29) d_V_pick_26 rfl c_V_52 hR.2.1 rfl rfl (Nat.le_of_ble_eq_true rfl) (Nat.le_of_ble_eq_true rfl) (Nat.le_of_ble_eq_true rfl) (fun Q' hq => c_R_head hR (by rw [hn2]; exact hq)) rfl rfl rfl ?_
  refine x_bipush (v := (-2)) (pc' := 31) d_V_pick_29 rfl (by decide) ?_
  refine x_icmpne (t := 37) (pc' := 34) d_V_pick_31 rfl rfl (fun _ => ?_) (fun q => absurd q (sp_nI_ne2 (by omega)))
  refine x_aload_n (pc' := 38) d_V_pick_37 rfl rfl ?_
  refine x_aload_n (pc' := 39) d_V_pick_38 rfl rfl ?_
  refine x_virtual (a := 0) (as := [.ref a]) (r := []) (v := (some (.int (sp_bi (sp_clean S.1 (S.2 r)))))) (h' := h) (st' := [.int (sp_bi (sp_clean S.1 (S.2 r)))]) (c' := 0) (s' := 0) (pc' := 42) d_V_pick_39 rfl c_V_83 hV.1 rfl rfl (Nat.le_of_ble_eq_true rfl) (Nat.le_of_ble_eq_true rfl) (Nat.le_of_ble_eq_true rfl) (fun Q' hq => c_V_isClean hV.1 hH hR hS.1 hWR hq) rfl rfl rfl ?_
  refine x_ifne (t := 48) (pc' := 45) d_V_pick_42 rfl rfl (fun q => absurd (by rw [hcl]; rfl) q) (fun _ => ?_)
  refine x_bipush (v := (-3)) (pc' := 47) d_V_pick_45 rfl (by decide) ?_
  exact x_ireturn d_V_pick_47 rfl rfl hQ
theorem c_V_pick_4 {L : Nat} {xs : Nat → Int32} {d : Nat} {h : xm_H} {Q : xm_Q} {S : sp_S} (hV : ch_V h S) (hS : sp_WS S) {r p q : Nat} (hr : r < 2) (hq1 : q < sp_n S.1) (h1 : (sp_held (S.2 r)).testBit q = true) (hn2 : sp_head (S.2 r) = some p) (hcl : sp_clean S.1 (S.2 r) = true) (h4 : sp_p2 S.1 q ≠ none) (hQ : Q (some (.int (-4))) h) : xm_call L xs (d + 6) m_V_pick [.ref 0, .int (nI r), .int (nI q)] h Q := by
  obtain ⟨g, hg, hg2⟩ := hV.2.1
  obtain ⟨a, ha7⟩ : ∃ a, a = 7 + 4 * r := ⟨_, rfl⟩
  have hR : ch_R h a (S.2 r) := by rw [ha7]; exact hV.2.2.2.1 r hr
  have hH := hV.2.2.1
  have hWR := hS.2 r hr
  have h40 := hS.1.1
  have hm : sp_held (S.2 r) < 2 ^ 64 := Nat.lt_of_lt_of_le hWR.2.2.1 (Nat.pow_le_pow_right (by decide) (by omega))
  have hp1 : p < sp_n S.1 := hWR.2.1 _ hWR.1 p hn2
  refine x_call (lo := [.ref 0, .int (nI r), .int (nI q), .float 0, .float 0]) (Nat.le_of_ble_eq_true rfl) rfl ?_
  refine x_iload_n (pc' := 1) d_V_pick_0 rfl rfl ?_
  refine x_static (as := [.int (nI r)]) (r := []) (v := (some (.int 1))) (h' := h) (st' := [.int 1]) (c' := 0) (s' := 0) (pc' := 4) d_V_pick_1 rfl c_V_30 rfl rfl (Nat.le_of_ble_eq_true rfl) (Nat.le_of_ble_eq_true rfl) (Nat.le_of_ble_eq_true rfl) (fun Q' hq => c_V_isRepository1 hr hq) rfl rfl rfl ?_
  refine x_ifne (t := 9) (pc' := 7) d_V_pick_4 rfl rfl (fun _ => ?_) (fun q => absurd q (by decide))
  refine x_aload_n (pc' := 10) d_V_pick_9 rfl rfl ?_
  refine x_getfield (ci := 3) (i := 1) (v := .ref 6) (pc' := 13) d_V_pick_10 rfl g_V_18 hV.1 rfl ?_
  refine x_iload_n (pc' := 14) d_V_pick_13 rfl rfl ?_
  refine x_aaload (q := a) (pc' := 15) d_V_pick_14 rfl hg (Or.inr rfl) (vp_in_nI hr (by decide)) (by rw [nI_clamp (by omega), hg2 r hr, ha7]) ?_
  refine x_astore_n (lo' := [.ref 0, .int (nI r), .int (nI q), .ref a, .float 0]) (pc' := 16) d_V_pick_15 rfl (Nat.le_of_ble_eq_true rfl) rfl ?_
  refine x_aload_n (pc' := 17) d_V_pick_16 rfl rfl ?_
  refine x_aload_n (pc' := 18) d_V_pick_17 rfl rfl ?_
  refine x_iload_n (pc' := 19) d_V_pick_18 rfl rfl ?_
  refine x_virtual (a := 0) (as := [.ref a, .int (nI q)]) (r := []) (v := (some (.int (sp_bi ((sp_held (S.2 r)).testBit q))))) (h' := h) (st' := [.int (sp_bi ((sp_held (S.2 r)).testBit q))]) (c' := 0) (s' := 0) (pc' := 22) d_V_pick_19 rfl c_V_102 hV.1 rfl rfl (Nat.le_of_ble_eq_true rfl) (Nat.le_of_ble_eq_true rfl) (Nat.le_of_ble_eq_true rfl) (fun Q' hq => c_V_isHeld1 hV.1 hH hR hq1 hm hq) rfl rfl rfl ?_
  refine x_ifeq (t := 34) (pc' := 25) d_V_pick_22 rfl rfl (fun q => absurd q (by rw [h1]; decide)) (fun _ => ?_)
  refine x_aload_n (pc' := 26) d_V_pick_25 rfl rfl ?_
  refine x_virtual (a := a) (as := []) (r := []) (v := (some (.int (nI p)))) (h' := h) (st' := [.int (nI p)]) (c' := 0) (s' := 0) (pc' := 29) d_V_pick_26 rfl c_V_52 hR.2.1 rfl rfl (Nat.le_of_ble_eq_true rfl) (Nat.le_of_ble_eq_true rfl) (Nat.le_of_ble_eq_true rfl) (fun Q' hq => c_R_head hR (by rw [hn2]; exact hq)) rfl rfl rfl ?_
  refine x_bipush (v := (-2)) (pc' := 31) d_V_pick_29 rfl (by decide) ?_
  refine x_icmpne (t := 37) (pc' := 34) d_V_pick_31 rfl rfl (fun _ => ?_) (fun q => absurd q (sp_nI_ne2 (by omega)))
  refine x_aload_n (pc' := 38) d_V_pick_37 rfl rfl ?_
  refine x_aload_n (pc' := 39) d_V_pick_38 rfl rfl ?_
  refine x_virtual (a := 0) (as := [.ref a]) (r := []) (v := (some (.int (sp_bi (sp_clean S.1 (S.2 r)))))) (h' := h) (st' := [.int (sp_bi (sp_clean S.1 (S.2 r)))]) (c' := 0) (s' := 0) (pc' := 42) d_V_pick_39 rfl c_V_83 hV.1 rfl rfl (Nat.le_of_ble_eq_true rfl) (Nat.le_of_ble_eq_true rfl) (Nat.le_of_ble_eq_true rfl) (fun Q' hq => c_V_isClean hV.1 hH hR hS.1 hWR hq) rfl rfl rfl ?_
  refine x_ifne (t := 48) (pc' := 45) d_V_pick_42 rfl rfl (fun _ => ?_) (fun q => absurd q (by rw [hcl]; decide))
  refine x_aload_n (pc' := 49) d_V_pick_48 rfl rfl ?_
  refine x_iload_n (pc' := 50) d_V_pick_49 rfl rfl ?_
  refine x_aload_n (pc' := 51) d_V_pick_50 rfl rfl ?_
  refine x_virtual (a := a) (as := []) (r := [.int (nI q), .ref 0]) (v := (some (.int (nI p)))) (h' := h) (st' := [.int (nI p), .int (nI q), .ref 0]) (c' := 0) (s' := 0) (pc' := 54) d_V_pick_51 rfl c_V_52 hR.2.1 rfl rfl (Nat.le_of_ble_eq_true rfl) (Nat.le_of_ble_eq_true rfl) (Nat.le_of_ble_eq_true rfl) (fun Q' hq => c_R_head hR (by rw [hn2]; exact hq)) rfl rfl rfl ?_
  refine x_virtual (a := 0) (as := [.int (nI q), .int (nI p)]) (r := []) (v := (some (.int (-4)))) (h' := h) (st' := [.int (-4)]) (c' := 0) (s' := 0) (pc' := 57) d_V_pick_54 rfl c_V_106 hV.1 rfl rfl (Nat.le_of_ble_eq_true rfl) (Nat.le_of_ble_eq_true rfl) (Nat.le_of_ble_eq_true rfl) (fun Q' hq => c_V_doAgain0 hV hS.1 hq1 h4 hq) rfl rfl rfl ?_
  refine x_istore (lo' := [.ref 0, .int (nI r), .int (nI q), .ref a, .int (-4)]) (pc' := 59) d_V_pick_57 rfl (Nat.le_of_ble_eq_true rfl) rfl ?_
  refine x_iload (pc' := 61) d_V_pick_59 rfl rfl ?_
  refine x_iflt (t := 71) (pc' := 64) d_V_pick_61 rfl rfl (fun _ => ?_) (fun q => absurd (by decide) q)
  refine x_iload (pc' := 73) d_V_pick_71 rfl rfl ?_
  exact x_ireturn d_V_pick_73 rfl rfl hQ
theorem c_V_pick_j {L : Nat} {xs : Nat → Int32} {d : Nat} {h : xm_H} {Q : xm_Q} {S : sp_S} (hV : ch_V h S) (hS : sp_WS S) {r p q : Nat} (hr : r < 2) (hq1 : q < sp_n S.1) (h1 : (sp_held (S.2 r)).testBit q = true) (hn2 : sp_head (S.2 r) = some p) (hcl : sp_clean S.1 (S.2 r) = true) (h4 : sp_p2 S.1 q = none)
    (h5 : sp_again S.1 q (sp_of S.1 (some p)) = none → ∀ h', ch_V h' S → xl_fr sp_V29 h h' → Q (some (.int (-5))) h')
    (h4q : sp_again S.1 q (sp_of S.1 (some p)) = some none → ∀ h', ch_V h' S → xl_fr sp_V29 h h' → Q (some (.int (-4))) h')
    (h6 : ∀ t, sp_again S.1 q (sp_of S.1 (some p)) = some (some t) → 40 ≤ sp_n S.1 → ∀ h', ch_V h' S → xl_fr sp_V29 h h' → Q (some (.int (-6))) h')
    (h7 : ∀ t, sp_again S.1 q (sp_of S.1 (some p)) = some (some t) → sp_n S.1 < 40 → (∀ j, j < 4 → sp_wt (t j)) → ∀ h', ch_V h' (sp_add S.1 t (some p) none, sp_up S.2 r (sp_mv (sp_add S.1 t (some p) none) (S.2 r) (sp_n S.1))) → xl_fr sp_V29 h h' → Q (some (.int (nI (sp_n S.1)))) h') : xm_call L xs (d + 6) m_V_pick [.ref 0, .int (nI r), .int (nI q)] h Q := by
  obtain ⟨g, hg, hg2⟩ := hV.2.1
  obtain ⟨a, ha7⟩ : ∃ a, a = 7 + 4 * r := ⟨_, rfl⟩
  have hR : ch_R h a (S.2 r) := by rw [ha7]; exact hV.2.2.2.1 r hr
  have hH := hV.2.2.1
  have hWR := hS.2 r hr
  have h40 := hS.1.1
  have hm : sp_held (S.2 r) < 2 ^ 64 := Nat.lt_of_lt_of_le hWR.2.2.1 (Nat.pow_le_pow_right (by decide) (by omega))
  have hp1 : p < sp_n S.1 := hWR.2.1 _ hWR.1 p hn2
  refine x_call (lo := [.ref 0, .int (nI r), .int (nI q), .float 0, .float 0]) (Nat.le_of_ble_eq_true rfl) rfl ?_
  refine x_iload_n (pc' := 1) d_V_pick_0 rfl rfl ?_
  refine x_static (as := [.int (nI r)]) (r := []) (v := (some (.int 1))) (h' := h) (st' := [.int 1]) (c' := 0) (s' := 0) (pc' := 4) d_V_pick_1 rfl c_V_30 rfl rfl (Nat.le_of_ble_eq_true rfl) (Nat.le_of_ble_eq_true rfl) (Nat.le_of_ble_eq_true rfl) (fun Q' hq => c_V_isRepository1 hr hq) rfl rfl rfl ?_
  refine x_ifne (t := 9) (pc' := 7) d_V_pick_4 rfl rfl (fun _ => ?_) (fun q => absurd q (by decide))
  refine x_aload_n (pc' := 10) d_V_pick_9 rfl rfl ?_
  refine x_getfield (ci := 3) (i := 1) (v := .ref 6) (pc' := 13) d_V_pick_10 rfl g_V_18 hV.1 rfl ?_
  refine x_iload_n (pc' := 14) d_V_pick_13 rfl rfl ?_
  refine x_aaload (q := a) (pc' := 15) d_V_pick_14 rfl hg (Or.inr rfl) (vp_in_nI hr (by decide)) (by rw [nI_clamp (by omega), hg2 r hr, ha7]) ?_
  refine x_astore_n (lo' := [.ref 0, .int (nI r), .int (nI q), .ref a, .float 0]) (pc' := 16) d_V_pick_15 rfl (Nat.le_of_ble_eq_true rfl) rfl ?_
  refine x_aload_n (pc' := 17) d_V_pick_16 rfl rfl ?_
  refine x_aload_n (pc' := 18) d_V_pick_17 rfl rfl ?_
  refine x_iload_n (pc' := 19) d_V_pick_18 rfl rfl ?_
  refine x_virtual (a := 0) (as := [.ref a, .int (nI q)]) (r := []) (v := (some (.int (sp_bi ((sp_held (S.2 r)).testBit q))))) (h' := h) (st' := [.int (sp_bi ((sp_held (S.2 r)).testBit q))]) (c' := 0) (s' := 0) (pc' := 22) d_V_pick_19 rfl c_V_102 hV.1 rfl rfl (Nat.le_of_ble_eq_true rfl) (Nat.le_of_ble_eq_true rfl) (Nat.le_of_ble_eq_true rfl) (fun Q' hq => c_V_isHeld1 hV.1 hH hR hq1 hm hq) rfl rfl rfl ?_
  refine x_ifeq (t := 34) (pc' := 25) d_V_pick_22 rfl rfl (fun q => absurd q (by rw [h1]; decide)) (fun _ => ?_)
  refine x_aload_n (pc' := 26) d_V_pick_25 rfl rfl ?_
  refine x_virtual (a := a) (as := []) (r := []) (v := (some (.int (nI p)))) (h' := h) (st' := [.int (nI p)]) (c' := 0) (s' := 0) (pc' := 29) d_V_pick_26 rfl c_V_52 hR.2.1 rfl rfl (Nat.le_of_ble_eq_true rfl) (Nat.le_of_ble_eq_true rfl) (Nat.le_of_ble_eq_true rfl) (fun Q' hq => c_R_head hR (by rw [hn2]; exact hq)) rfl rfl rfl ?_
  refine x_bipush (v := (-2)) (pc' := 31) d_V_pick_29 rfl (by decide) ?_
  refine x_icmpne (t := 37) (pc' := 34) d_V_pick_31 rfl rfl (fun _ => ?_) (fun q => absurd q (sp_nI_ne2 (by omega)))
  refine x_aload_n (pc' := 38) d_V_pick_37 rfl rfl ?_
  refine x_aload_n (pc' := 39) d_V_pick_38 rfl rfl ?_
  refine x_virtual (a := 0) (as := [.ref a]) (r := []) (v := (some (.int (sp_bi (sp_clean S.1 (S.2 r)))))) (h' := h) (st' := [.int (sp_bi (sp_clean S.1 (S.2 r)))]) (c' := 0) (s' := 0) (pc' := 42) d_V_pick_39 rfl c_V_83 hV.1 rfl rfl (Nat.le_of_ble_eq_true rfl) (Nat.le_of_ble_eq_true rfl) (Nat.le_of_ble_eq_true rfl) (fun Q' hq => c_V_isClean hV.1 hH hR hS.1 hWR hq) rfl rfl rfl ?_
  refine x_ifne (t := 48) (pc' := 45) d_V_pick_42 rfl rfl (fun _ => ?_) (fun q => absurd q (by rw [hcl]; decide))
  refine x_aload_n (pc' := 49) d_V_pick_48 rfl rfl ?_
  refine x_iload_n (pc' := 50) d_V_pick_49 rfl rfl ?_
  refine x_aload_n (pc' := 51) d_V_pick_50 rfl rfl ?_
  refine x_virtual (a := a) (as := []) (r := [.int (nI q), .ref 0]) (v := (some (.int (nI p)))) (h' := h) (st' := [.int (nI p), .int (nI q), .ref 0]) (c' := 0) (s' := 0) (pc' := 54) d_V_pick_51 rfl c_V_52 hR.2.1 rfl rfl (Nat.le_of_ble_eq_true rfl) (Nat.le_of_ble_eq_true rfl) (Nat.le_of_ble_eq_true rfl) (fun Q' hq => c_R_head hR (by rw [hn2]; exact hq)) rfl rfl rfl ?_
  refine x_virtualR (a := 0) (as := [.int (nI q), .int (nI p)]) (r := []) (Post := fun v h9 => (v = some (.int (-5)) ∧ sp_again S.1 q (sp_of S.1 (some p)) = none ∧ ch_V h9 S ∧ xl_fr sp_US h h9) ∨ (v = some (.int (-4)) ∧ sp_again S.1 q (sp_of S.1 (some p)) = some none ∧ ch_V h9 S ∧ xl_fr sp_US h h9) ∨ (v = some (.int (-6)) ∧ (∃ t, sp_again S.1 q (sp_of S.1 (some p)) = some (some t)) ∧ 40 ≤ sp_n S.1 ∧ ch_V h9 S ∧ xl_fr sp_US h h9) ∨ (v = some (.int (nI (sp_n S.1))) ∧ ∃ t, sp_again S.1 q (sp_of S.1 (some p)) = some (some t) ∧ sp_n S.1 < 40 ∧ (∀ j, j < 4 → sp_wt (t j)) ∧ ch_V h9 (sp_add S.1 t (some p) none, S.2) ∧ xl_fr sp_JS h h9)) (c' := 0) (s' := 0) (pc' := 57) d_V_pick_54 rfl c_V_106 hV.1 rfl rfl (Nat.le_of_ble_eq_true rfl) (Nat.le_of_ble_eq_true rfl) (Nat.le_of_ble_eq_true rfl) (fun Q' hq => c_V_doAgain hV hS.1 hq1 hp1 h4 (fun e h' z1 z2 => hq _ h' (Or.inl ⟨rfl, e, z1, z2⟩)) (fun e h' z1 z2 => hq _ h' (Or.inr (Or.inl ⟨rfl, e, z1, z2⟩))) (fun t e hn h' z1 z2 => hq _ h' (Or.inr (Or.inr (Or.inl ⟨rfl, ⟨t, e⟩, hn, z1, z2⟩)))) (fun t e hn wt h' z1 z2 => hq _ h' (Or.inr (Or.inr (Or.inr ⟨rfl, t, e, hn, wt, z1, z2⟩))))) rfl rfl (fun v9 h1 hp => ?_)
  rcases hp with ⟨rfl, e1, V1, f1⟩ | ⟨rfl, e1, V1, f1⟩ | ⟨rfl, ⟨t, e1⟩, hn3, V1, f1⟩ | ⟨rfl, t, e1, hn3, wt, V1, f1⟩
  · show xm_X L xs (xm_call L xs (d + 5)) m_V_pick (57, [.ref 0, .int (nI r), .int (nI q), .ref a, .float 0], [.int (-5)], h1, 0, 0) Q
    refine x_istore (lo' := [.ref 0, .int (nI r), .int (nI q), .ref a, .int (-5)]) (pc' := 59) d_V_pick_57 rfl (Nat.le_of_ble_eq_true rfl) rfl ?_
    refine x_iload (pc' := 61) d_V_pick_59 rfl rfl ?_
    refine x_iflt (t := 71) (pc' := 64) d_V_pick_61 rfl rfl (fun _ => ?_) (fun q => absurd (by decide) q)
    refine x_iload (pc' := 73) d_V_pick_71 rfl rfl ?_
    exact x_ireturn d_V_pick_73 rfl rfl (h5 e1 h1 V1 (xl_mono f1 (fun k z => by show k < 29; omega)))
  · show xm_X L xs (xm_call L xs (d + 5)) m_V_pick (57, [.ref 0, .int (nI r), .int (nI q), .ref a, .float 0], [.int (-4)], h1, 0, 0) Q
    refine x_istore (lo' := [.ref 0, .int (nI r), .int (nI q), .ref a, .int (-4)]) (pc' := 59) d_V_pick_57 rfl (Nat.le_of_ble_eq_true rfl) rfl ?_
    refine x_iload (pc' := 61) d_V_pick_59 rfl rfl ?_
    refine x_iflt (t := 71) (pc' := 64) d_V_pick_61 rfl rfl (fun _ => ?_) (fun q => absurd (by decide) q)
    refine x_iload (pc' := 73) d_V_pick_71 rfl rfl ?_
    exact x_ireturn d_V_pick_73 rfl rfl (h4q e1 h1 V1 (xl_mono f1 (fun k z => by show k < 29; omega)))
  · show xm_X L xs (xm_call L xs (d + 5)) m_V_pick (57, [.ref 0, .int (nI r), .int (nI q), .ref a, .float 0], [.int (-6)], h1, 0, 0) Q
    refine x_istore (lo' := [.ref 0, .int (nI r), .int (nI q), .ref a, .int (-6)]) (pc' := 59) d_V_pick_57 rfl (Nat.le_of_ble_eq_true rfl) rfl ?_
    refine x_iload (pc' := 61) d_V_pick_59 rfl rfl ?_
    refine x_iflt (t := 71) (pc' := 64) d_V_pick_61 rfl rfl (fun _ => ?_) (fun q => absurd (by decide) q)
    refine x_iload (pc' := 73) d_V_pick_71 rfl rfl ?_
    exact x_ireturn d_V_pick_73 rfl rfl (h6 t e1 hn3 h1 V1 (xl_mono f1 (fun k z => by show k < 29; omega)))
  · show xm_X L xs (xm_call L xs (d + 5)) m_V_pick (57, [.ref 0, .int (nI r), .int (nI q), .ref a, .float 0], [.int (nI (sp_n S.1))], h1, 0, 0) Q
    refine x_istore (lo' := [.ref 0, .int (nI r), .int (nI q), .ref a, .int (nI (sp_n S.1))]) (pc' := 59) d_V_pick_57 rfl (Nat.le_of_ble_eq_true rfl) rfl ?_
    exact l_V_pickT V1 ⟨sp_WH_add hS.1 hn3 (sp_ok_some hp1) sp_ok_none wt, fun k hk => sp_WR_add (hS.2 k hk)⟩ hr (Nat.lt_succ_self _) ha7 (fun h' z1 z2 => h7 t e1 hn3 wt h' z1 (xl_tr (xl_mono f1 (fun k z => by show k < 29; rcases z with z | z <;> omega)) z2))
theorem c_V_pick {L : Nat} {xs : Nat → Int32} {d : Nat} {h : xm_H} {Q : xm_Q} {S : sp_S} (hV : ch_V h S) (hS : sp_WS S) {x y : Int32} (hQ : ∀ h', ch_V h' (sp_pick S x y).2 → xl_fr sp_V29 h h' → Q (some (.int (sp_pick S x y).1)) h') : xm_call L xs (d + 6) m_V_pick [.ref 0, .int x, .int y] h Q := by
  have key : ∀ z, sp_pick S x y = (z, S) → Q (some (.int z)) h := fun z e9 => by
    rw [e9] at hQ
    exact hQ h hV xl_rf
  have h40 := hS.1.1
  rcases sp_in_cases 2 (by decide) x with ⟨_, e⟩ | ⟨_, _, e⟩ | ⟨r, hr, rfl, e⟩
  · exact c_V_pick_x hV hS e (key _ (by unfold sp_pick; rw [e]))
  · exact c_V_pick_x hV hS e (key _ (by unfold sp_pick; rw [e]))
  · rcases sp_in_cases (sp_n S.1) (by omega) y with ⟨_, e2⟩ | ⟨_, _, e2⟩ | ⟨q, hq1, rfl, e2⟩
    · exact c_V_pick_y hV hS hr e2 (key _ (by unfold sp_pick; rw [e]; dsimp only; rw [e2]))
    · exact c_V_pick_y hV hS hr e2 (key _ (by unfold sp_pick; rw [e]; dsimp only; rw [e2]))
    · cases h1 : (sp_held (S.2 r)).testBit q with
      | false => exact c_V_pick_n hV hS hr hq1 h1 (key _ (by
          unfold sp_pick; rw [e]; dsimp only; rw [e2]
          cases sp_head (S.2 r) with
          | none => rfl
          | some p => dsimp only; rw [h1]; rfl))
      | true =>
        cases h2 : sp_head (S.2 r) with
        | none => exact c_V_pick_h hV hS hr hq1 h1 h2 (key _ (by unfold sp_pick; rw [e]; dsimp only; rw [e2, h2]))
        | some p =>
          cases h3 : sp_clean S.1 (S.2 r) with
          | false => exact c_V_pick_d hV hS hr hq1 h1 h2 h3 (key _ (by unfold sp_pick; rw [e]; dsimp only; rw [e2, h2]; dsimp only; rw [h1, h3]; rfl))
          | true =>
            by_cases h4 : sp_p2 S.1 q = none
            · have e9 : sp_pick S (nI r) (nI q) = match sp_again S.1 q (sp_of S.1 (some p)) with
      | none => (-5, S)
      | some none => (-4, S)
      | some (some t) => if 40 ≤ sp_n S.1 then (-6, S) else (nI (sp_n S.1), sp_add S.1 t (some p) none, sp_up S.2 r (sp_mv (sp_add S.1 t (some p) none) (S.2 r) (sp_n S.1))) := by unfold sp_pick; rw [e]; dsimp only; rw [e2, h2]; dsimp only; rw [h1, h3, if_neg (by decide), if_neg (by decide), if_neg (fun z => z h4)]; rfl
              rw [e9] at hQ
              refine c_V_pick_j hV hS hr hq1 h1 h2 h3 h4 (fun e5 h' z1 z2 => ?_) (fun e5 h' z1 z2 => ?_) (fun t e5 hn h' z1 z2 => ?_) (fun t e5 hn _ h' z1 z2 => ?_)
              · rw [e5] at hQ
                exact hQ h' z1 z2
              · rw [e5] at hQ
                exact hQ h' z1 z2
              · rw [e5] at hQ
                dsimp only at hQ
                rw [if_pos hn] at hQ
                exact hQ h' z1 z2
              · rw [e5] at hQ
                dsimp only at hQ
                rw [if_neg (by omega)] at hQ
                exact hQ h' z1 z2
            · exact c_V_pick_4 hV hS hr hq1 h1 h2 h3 h4 (key _ (by unfold sp_pick; rw [e]; dsimp only; rw [e2, h2]; dsimp only; rw [h1, h3, if_neg (by decide), if_neg (by decide), if_pos h4]))
