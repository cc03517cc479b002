/-! many, collect, send of the reference. (Printed by c_m9.py.) -/
theorem xp_cnt_0 : ∀ k, xp_cnt 0 k = 0
  | 0 => rfl
  | k + 1 => by
    unfold xp_cnt
    rw [xp_cnt_0 k, Nat.zero_div]
theorem xp_cnt_40 {m : Nat} (h : m < 2 ^ 40) : xp_cnt m 40 = xp_cnt m 64 := by
  rw [show 64 = 40 + 24 from rfl, xp_cnt_add, Nat.div_eq_of_lt h, xp_cnt_0, Nat.add_zero]
theorem l_M_many {L : Nat} {xs : Nat → Int32} {d : Nat} {h : xm_H} {Q : xm_Q} {m : Nat} (hQ : Q (some (.int (nI (xp_cnt m 40)))) h) : ∀ r k, k + r = 40 → xm_X L xs (xm_call L xs d) m_M_many (4, [.long (lN m), .float 0, .int (nI (xp_cnt m k)), .int (nI k)], [], h, 0, 0) Q := by
  intro r
  induction r with
  | zero =>
    intro k hk
    have hk : k = 40 := hk
    subst hk
    refine x_iload_n (pc' := 5) d_M_many_4 rfl rfl ?_
    refine x_bipush (v := nI 40) (pc' := 7) d_M_many_5 rfl (by decide) ?_
    refine x_icmpge (t := 25) (pc' := 10) d_M_many_7 rfl rfl (fun _ => ?_) (fun q => absurd (nI_le (Nat.le_refl _) (by decide)) q)
    refine x_iload_n (pc' := 26) d_M_many_25 rfl rfl ?_
    exact x_ireturn d_M_many_26 rfl rfl hQ
  | succ r ih =>
    intro k hk
    refine x_iload_n (pc' := 5) d_M_many_4 rfl rfl ?_
    refine x_bipush (v := nI 40) (pc' := 7) d_M_many_5 rfl (by decide) ?_
    refine x_icmpge (t := 25) (pc' := 10) d_M_many_7 rfl rfl (fun q => absurd q (nI_ge (by omega) (by decide))) (fun _ => ?_)
    refine x_iload_n (pc' := 11) d_M_many_10 rfl rfl ?_
    refine x_lload_n (pc' := 12) d_M_many_11 rfl rfl rfl ?_
    refine x_iload_n (pc' := 13) d_M_many_12 rfl rfl ?_
    refine x_lshr (z := (lN m) >>> ((nI k).toInt64 &&& 63)) (pc' := 14) d_M_many_13 rfl rfl ?_
    refine x_lconst (v := 1) (pc' := 15) d_M_many_14 rfl (by decide) ?_
    refine x_land (z := lN (m / 2 ^ k % 2)) (pc' := 16) d_M_many_15 rfl (wb_sarm (j := 1) (by omega) (by omega)) ?_
    refine x_l2i (z := nI (m / 2 ^ k % 2)) (pc' := 17) d_M_many_16 rfl (lN_i _) ?_
    refine x_iadd (z := nI (xp_cnt m (k + 1))) (pc' := 18) d_M_many_17 rfl (nI_add _ _) ?_
    refine x_istore_n (lo' := [.long (lN m), .float 0, .int (nI (xp_cnt m (k + 1))), .int (nI k)]) (pc' := 19) d_M_many_18 rfl (Nat.le_of_ble_eq_true rfl) rfl ?_
    refine x_iinc (y := nI (k + 1)) (lo' := [.long (lN m), .float 0, .int (nI (xp_cnt m (k + 1))), .int (nI (k + 1))]) (pc' := 22) d_M_many_19 rfl rfl (sp_nI_inc k) rfl ?_
    refine x_goto (t := 4) d_M_many_22 rfl ?_
    exact ih (k + 1) (by omega)
theorem c_M_many {L : Nat} {xs : Nat → Int32} {d : Nat} {h : xm_H} {Q : xm_Q} {m : Nat} (hm : m < 2 ^ 40) (hQ : Q (some (.int (nI (xp_cnt m 64)))) h) : xm_call L xs (d + 1) m_M_many [.long (lN m)] h Q := by
  refine x_call (lo := [.long (lN m), .float 0, .float 0, .float 0]) (Nat.le_of_ble_eq_true rfl) rfl ?_
  refine x_iconst (v := nI 0) (pc' := 1) d_M_many_0 rfl (by decide) ?_
  refine x_istore_n (lo' := [.long (lN m), .float 0, .int (nI 0), .float 0]) (pc' := 2) d_M_many_1 rfl (Nat.le_of_ble_eq_true rfl) rfl ?_
  refine x_iconst (v := nI 0) (pc' := 3) d_M_many_2 rfl (by decide) ?_
  refine x_istore_n (lo' := [.long (lN m), .float 0, .int (nI 0), .int (nI 0)]) (pc' := 4) d_M_many_3 rfl (Nat.le_of_ble_eq_true rfl) rfl ?_
  exact l_M_many (by rw [xp_cnt_40 hm]; exact hQ) 40 0 rfl
set_option maxHeartbeats 4000000 in
theorem c_M_collect {L : Nat} {xs : Nat → Int32} {d : Nat} {h : xm_H} {Q : xm_Q} {S : sp_S} (hM : mh h S) (hS : sp_WS S) {x : Int32} (hQ : ∀ h', mh h' (sp_collect S x).2 → xl_fr sp_M29 h h' → Q (some (.int (sp_collect S x).1)) h') : xm_call L xs (d + 2) m_M_collect [.ref 29, .int x] h Q := by
  obtain ⟨hK, ⟨tk, hO⟩, hw⟩ := id hM
  have h40 := hK.1
  obtain ⟨t, t1, t2⟩ := hK.2.2.2.2.2.1
  obtain ⟨g, g1, g2⟩ := hK.2.2.2.2.1
  have key : ∀ z, sp_collect S x = (z, S) → Q (some (.int z)) h := fun z e9 => by
    rw [e9] at hQ
    exact hQ h hM xl_rf
  refine x_call (lo := [.ref 29, .int x, .float 0, .float 0, .float 0]) (Nat.le_of_ble_eq_true rfl) rfl ?_
  rcases sp_in_cases 2 (by decide) x with ⟨_, ex⟩ | ⟨_, _, ex⟩ | ⟨r, hr, rfl, er⟩
  · refine x_iload_n (pc' := 1) d_M_collect_0 rfl rfl ?_
    refine x_iconst (v := nI 2) (pc' := 2) d_M_collect_1 rfl (by decide) ?_
    refine x_static (as := [.int x, .int (nI 2)]) (r := []) (v := (some (.int 1))) (h' := h) (st' := [.int 1]) (c' := 0) (s' := 0) (pc' := 5) d_M_collect_2 rfl c_M_123 rfl rfl (Nat.le_of_ble_eq_true rfl) (Nat.le_of_ble_eq_true rfl) (Nat.le_of_ble_eq_true rfl) (fun Q' hq => c_M_out1 (by decide) ex hq) rfl rfl rfl ?_
    refine x_ifeq (t := 10) (pc' := 8) d_M_collect_5 rfl rfl (fun q => absurd q (by decide)) (fun _ => ?_)
    refine x_iconst (v := (-1)) (pc' := 9) d_M_collect_8 rfl (by decide) ?_
    exact x_ireturn d_M_collect_9 rfl rfl (key _ (by unfold sp_collect; rw [ex]))
  · refine x_iload_n (pc' := 1) d_M_collect_0 rfl rfl ?_
    refine x_iconst (v := nI 2) (pc' := 2) d_M_collect_1 rfl (by decide) ?_
    refine x_static (as := [.int x, .int (nI 2)]) (r := []) (v := (some (.int 1))) (h' := h) (st' := [.int 1]) (c' := 0) (s' := 0) (pc' := 5) d_M_collect_2 rfl c_M_123 rfl rfl (Nat.le_of_ble_eq_true rfl) (Nat.le_of_ble_eq_true rfl) (Nat.le_of_ble_eq_true rfl) (fun Q' hq => c_M_out1 (by decide) ex hq) rfl rfl rfl ?_
    refine x_ifeq (t := 10) (pc' := 8) d_M_collect_5 rfl rfl (fun q => absurd q (by decide)) (fun _ => ?_)
    refine x_iconst (v := (-1)) (pc' := 9) d_M_collect_8 rfl (by decide) ?_
    exact x_ireturn d_M_collect_9 rfl rfl (key _ (by unfold sp_collect; rw [ex]))
  · have hR := hS.2 r hr
    have h40m : sp_held (S.2 r) < 2 ^ 40 := Nat.lt_of_lt_of_le hR.2.2.1 (Nat.pow_le_pow_right (by decide) h40)
    have hm : sp_held (S.2 r) < 2 ^ 64 := Nat.lt_trans h40m (by decide)
    have k0 : 0 < 2 ^ 64 := by decide
    have b0 := sp_WH_64 hS.1 (hR.2.1 0 (by decide))
    have b1 := sp_WH_64 hS.1 (hR.2.1 1 (by decide))
    have b2 := sp_WH_64 hS.1 (hR.2.1 2 (by decide))
    have b3 := sp_WH_64 hS.1 (hR.2.1 3 (by decide))
    have k1 := b0
    have k2 := Nat.or_lt_two_pow k1 b1
    have k3 := Nat.or_lt_two_pow k2 b2
    have k4 := Nat.or_lt_two_pow k3 b3
    have e9 : sp_collect S (nI r) = (nI (xp_cnt (sp_held (S.2 r)) 64 - xp_cnt (sp_held (S.2 r) &&& (sp_ro S.1 (sp_tip (S.2 r) 0) ||| sp_ro S.1 (sp_tip (S.2 r) 1) ||| sp_ro S.1 (sp_tip (S.2 r) 2) ||| sp_ro S.1 (sp_tip (S.2 r) 3))) 64), sp_set S r (sp_tip (S.2 r), sp_cur (S.2 r), sp_held (S.2 r) &&& (sp_ro S.1 (sp_tip (S.2 r) 0) ||| sp_ro S.1 (sp_tip (S.2 r) 1) ||| sp_ro S.1 (sp_tip (S.2 r) 2) ||| sp_ro S.1 (sp_tip (S.2 r) 3)), sp_wk (S.2 r), sp_ix (S.2 r))) := by unfold sp_collect; rw [er]; rfl
    rw [e9] at hQ
    refine x_iload_n (pc' := 1) d_M_collect_0 rfl rfl ?_
    refine x_iconst (v := nI 2) (pc' := 2) d_M_collect_1 rfl (by decide) ?_
    refine x_static (as := [.int (nI r), .int (nI 2)]) (r := []) (v := (some (.int 0))) (h' := h) (st' := [.int 0]) (c' := 0) (s' := 0) (pc' := 5) d_M_collect_2 rfl c_M_123 rfl rfl (Nat.le_of_ble_eq_true rfl) (Nat.le_of_ble_eq_true rfl) (Nat.le_of_ble_eq_true rfl) (fun Q' hq => c_M_out0 hr (by decide) hq) rfl rfl rfl ?_
    refine x_ifeq (t := 10) (pc' := 8) d_M_collect_5 rfl rfl (fun _ => ?_) (fun q => absurd rfl q)
    refine x_lconst (v := lN 0) (pc' := 11) d_M_collect_10 rfl (by decide) ?_
    refine x_lstore_n (lo' := [.ref 29, .int (nI r), .long (lN 0), .float 0, .float 0]) (pc' := 12) d_M_collect_11 rfl (Nat.le_of_ble_eq_true rfl) rfl ?_
    refine x_iconst (v := nI 0) (pc' := 13) d_M_collect_12 rfl (by decide) ?_
    refine x_istore (lo' := [.ref 29, .int (nI r), .long (lN 0), .float 0, .int (nI 0)]) (pc' := 15) d_M_collect_13 rfl (Nat.le_of_ble_eq_true rfl) rfl ?_
    refine x_iload (pc' := 17) d_M_collect_15 rfl rfl ?_
    refine x_iconst (v := nI 4) (pc' := 18) d_M_collect_17 rfl (by decide) ?_
    refine x_icmpge (t := 45) (pc' := 21) d_M_collect_18 rfl rfl (fun q => absurd q (nI_ge (by decide) (by decide))) (fun _ => ?_)
    refine x_lload_n (pc' := 22) d_M_collect_21 rfl rfl rfl ?_
    refine x_aload_n (pc' := 23) d_M_collect_22 rfl rfl ?_
    refine x_aload_n (pc' := 24) d_M_collect_23 rfl rfl ?_
    refine x_getfield (ci := 4) (i := 5) (v := .ref 34) (pc' := 27) d_M_collect_24 rfl g_M_23 hO rfl ?_
    refine x_iconst (v := nI 4) (pc' := 28) d_M_collect_27 rfl (by decide) ?_
    refine x_iload_n (pc' := 29) d_M_collect_28 rfl rfl ?_
    refine x_imul (z := nI (4 * r)) (pc' := 30) d_M_collect_29 rfl (pk_mul 4 r) ?_
    refine x_iload (pc' := 32) d_M_collect_30 rfl rfl ?_
    refine x_iadd (z := nI (4 * r + 0)) (pc' := 33) d_M_collect_32 rfl (nI_add _ _) ?_
    refine x_iaload (v := sp_vi (sp_tip (S.2 r) 0)) (pc' := 34) d_M_collect_33 rfl t1 (vp_in_nI (by omega) (by decide)) (by rw [nI_clamp (by omega)]; exact t2 r hr 0 (by decide)) ?_
    refine x_virtual (a := 29) (as := [.int (sp_vi (sp_tip (S.2 r) 0))]) (r := [.long (lN 0)]) (v := (some (.long (lN (sp_ro S.1 (sp_tip (S.2 r) 0)))))) (h' := h) (st' := [.long (lN (sp_ro S.1 (sp_tip (S.2 r) 0))), .long (lN 0)]) (c' := 0) (s' := 0) (pc' := 37) d_M_collect_34 rfl c_M_100 hO rfl rfl (Nat.le_of_ble_eq_true rfl) (Nat.le_of_ble_eq_true rfl) (Nat.le_of_ble_eq_true rfl) (fun Q' hq => c_M_reached hO hK hS.1 (hR.2.1 0 (by decide)) hq) rfl rfl rfl ?_
    refine x_lor (z := lN (sp_ro S.1 (sp_tip (S.2 r) 0))) (pc' := 38) d_M_collect_37 rfl (by rw [wb_or k0 b0, Nat.zero_or]) ?_
    refine x_lstore_n (lo' := [.ref 29, .int (nI r), .long (lN (sp_ro S.1 (sp_tip (S.2 r) 0))), .float 0, .int (nI 0)]) (pc' := 39) d_M_collect_38 rfl (Nat.le_of_ble_eq_true rfl) rfl ?_
    refine x_iinc (y := nI 1) (lo' := [.ref 29, .int (nI r), .long (lN (sp_ro S.1 (sp_tip (S.2 r) 0))), .float 0, .int (nI 1)]) (pc' := 42) d_M_collect_39 rfl rfl (sp_nI_inc 0) rfl ?_
    refine x_goto (t := 15) d_M_collect_42 rfl ?_
    refine x_iload (pc' := 17) d_M_collect_15 rfl rfl ?_
    refine x_iconst (v := nI 4) (pc' := 18) d_M_collect_17 rfl (by decide) ?_
    refine x_icmpge (t := 45) (pc' := 21) d_M_collect_18 rfl rfl (fun q => absurd q (nI_ge (by decide) (by decide))) (fun _ => ?_)
    refine x_lload_n (pc' := 22) d_M_collect_21 rfl rfl rfl ?_
    refine x_aload_n (pc' := 23) d_M_collect_22 rfl rfl ?_
    refine x_aload_n (pc' := 24) d_M_collect_23 rfl rfl ?_
    refine x_getfield (ci := 4) (i := 5) (v := .ref 34) (pc' := 27) d_M_collect_24 rfl g_M_23 hO rfl ?_
    refine x_iconst (v := nI 4) (pc' := 28) d_M_collect_27 rfl (by decide) ?_
    refine x_iload_n (pc' := 29) d_M_collect_28 rfl rfl ?_
    refine x_imul (z := nI (4 * r)) (pc' := 30) d_M_collect_29 rfl (pk_mul 4 r) ?_
    refine x_iload (pc' := 32) d_M_collect_30 rfl rfl ?_
    refine x_iadd (z := nI (4 * r + 1)) (pc' := 33) d_M_collect_32 rfl (nI_add _ _) ?_
    refine x_iaload (v := sp_vi (sp_tip (S.2 r) 1)) (pc' := 34) d_M_collect_33 rfl t1 (vp_in_nI (by omega) (by decide)) (by rw [nI_clamp (by omega)]; exact t2 r hr 1 (by decide)) ?_
    refine x_virtual (a := 29) (as := [.int (sp_vi (sp_tip (S.2 r) 1))]) (r := [.long (lN (sp_ro S.1 (sp_tip (S.2 r) 0)))]) (v := (some (.long (lN (sp_ro S.1 (sp_tip (S.2 r) 1)))))) (h' := h) (st' := [.long (lN (sp_ro S.1 (sp_tip (S.2 r) 1))), .long (lN (sp_ro S.1 (sp_tip (S.2 r) 0)))]) (c' := 0) (s' := 0) (pc' := 37) d_M_collect_34 rfl c_M_100 hO rfl rfl (Nat.le_of_ble_eq_true rfl) (Nat.le_of_ble_eq_true rfl) (Nat.le_of_ble_eq_true rfl) (fun Q' hq => c_M_reached hO hK hS.1 (hR.2.1 1 (by decide)) hq) rfl rfl rfl ?_
    refine x_lor (z := lN (sp_ro S.1 (sp_tip (S.2 r) 0) ||| sp_ro S.1 (sp_tip (S.2 r) 1))) (pc' := 38) d_M_collect_37 rfl (by rw [wb_or k1 b1]) ?_
    refine x_lstore_n (lo' := [.ref 29, .int (nI r), .long (lN (sp_ro S.1 (sp_tip (S.2 r) 0) ||| sp_ro S.1 (sp_tip (S.2 r) 1))), .float 0, .int (nI 1)]) (pc' := 39) d_M_collect_38 rfl (Nat.le_of_ble_eq_true rfl) rfl ?_
    refine x_iinc (y := nI 2) (lo' := [.ref 29, .int (nI r), .long (lN (sp_ro S.1 (sp_tip (S.2 r) 0) ||| sp_ro S.1 (sp_tip (S.2 r) 1))), .float 0, .int (nI 2)]) (pc' := 42) d_M_collect_39 rfl rfl (sp_nI_inc 1) rfl ?_
    refine x_goto (t := 15) d_M_collect_42 rfl ?_
    refine x_iload (pc' := 17) d_M_collect_15 rfl rfl ?_
    refine x_iconst (v := nI 4) (pc' := 18) d_M_collect_17 rfl (by decide) ?_
    refine x_icmpge (t := 45) (pc' := 21) d_M_collect_18 rfl rfl (fun q => absurd q (nI_ge (by decide) (by decide))) (fun _ => ?_)
    refine x_lload_n (pc' := 22) d_M_collect_21 rfl rfl rfl ?_
    refine x_aload_n (pc' := 23) d_M_collect_22 rfl rfl ?_
    refine x_aload_n (pc' := 24) d_M_collect_23 rfl rfl ?_
    refine x_getfield (ci := 4) (i := 5) (v := .ref 34) (pc' := 27) d_M_collect_24 rfl g_M_23 hO rfl ?_
    refine x_iconst (v := nI 4) (pc' := 28) d_M_collect_27 rfl (by decide) ?_
    refine x_iload_n (pc' := 29) d_M_collect_28 rfl rfl ?_
    refine x_imul (z := nI (4 * r)) (pc' := 30) d_M_collect_29 rfl (pk_mul 4 r) ?_
    refine x_iload (pc' := 32) d_M_collect_30 rfl rfl ?_
    refine x_iadd (z := nI (4 * r + 2)) (pc' := 33) d_M_collect_32 rfl (nI_add _ _) ?_
    refine x_iaload (v := sp_vi (sp_tip (S.2 r) 2)) (pc' := 34) d_M_collect_33 rfl t1 (vp_in_nI (by omega) (by decide)) (by rw [nI_clamp (by omega)]; exact t2 r hr 2 (by decide)) ?_
    refine x_virtual (a := 29) (as := [.int (sp_vi (sp_tip (S.2 r) 2))]) (r := [.long (lN (sp_ro S.1 (sp_tip (S.2 r) 0) ||| sp_ro S.1 (sp_tip (S.2 r) 1)))]) (v := (some (.long (lN (sp_ro S.1 (sp_tip (S.2 r) 2)))))) (h' := h) (st' := [.long (lN (sp_ro S.1 (sp_tip (S.2 r) 2))), .long (lN (sp_ro S.1 (sp_tip (S.2 r) 0) ||| sp_ro S.1 (sp_tip (S.2 r) 1)))]) (c' := 0) (s' := 0) (pc' := 37) d_M_collect_34 rfl c_M_100 hO rfl rfl (Nat.le_of_ble_eq_true rfl) (Nat.le_of_ble_eq_true rfl) (Nat.le_of_ble_eq_true rfl) (fun Q' hq => c_M_reached hO hK hS.1 (hR.2.1 2 (by decide)) hq) rfl rfl rfl ?_
    refine x_lor (z := lN (sp_ro S.1 (sp_tip (S.2 r) 0) ||| sp_ro S.1 (sp_tip (S.2 r) 1) ||| sp_ro S.1 (sp_tip (S.2 r) 2))) (pc' := 38) d_M_collect_37 rfl (by rw [wb_or k2 b2]) ?_
    refine x_lstore_n (lo' := [.ref 29, .int (nI r), .long (lN (sp_ro S.1 (sp_tip (S.2 r) 0) ||| sp_ro S.1 (sp_tip (S.2 r) 1) ||| sp_ro S.1 (sp_tip (S.2 r) 2))), .float 0, .int (nI 2)]) (pc' := 39) d_M_collect_38 rfl (Nat.le_of_ble_eq_true rfl) rfl ?_
    refine x_iinc (y := nI 3) (lo' := [.ref 29, .int (nI r), .long (lN (sp_ro S.1 (sp_tip (S.2 r) 0) ||| sp_ro S.1 (sp_tip (S.2 r) 1) ||| sp_ro S.1 (sp_tip (S.2 r) 2))), .float 0, .int (nI 3)]) (pc' := 42) d_M_collect_39 rfl rfl (sp_nI_inc 2) rfl ?_
    refine x_goto (t := 15) d_M_collect_42 rfl ?_
    refine x_iload (pc' := 17) d_M_collect_15 rfl rfl ?_
    refine x_iconst (v := nI 4) (pc' := 18) d_M_collect_17 rfl (by decide) ?_
    refine x_icmpge (t := 45) (pc' := 21) d_M_collect_18 rfl rfl (fun q => absurd q (nI_ge (by decide) (by decide))) (fun _ => ?_)
    refine x_lload_n (pc' := 22) d_M_collect_21 rfl rfl rfl ?_
    refine x_aload_n (pc' := 23) d_M_collect_22 rfl rfl ?_
    refine x_aload_n (pc' := 24) d_M_collect_23 rfl rfl ?_
    refine x_getfield (ci := 4) (i := 5) (v := .ref 34) (pc' := 27) d_M_collect_24 rfl g_M_23 hO rfl ?_
    refine x_iconst (v := nI 4) (pc' := 28) d_M_collect_27 rfl (by decide) ?_
    refine x_iload_n (pc' := 29) d_M_collect_28 rfl rfl ?_
    refine x_imul (z := nI (4 * r)) (pc' := 30) d_M_collect_29 rfl (pk_mul 4 r) ?_
    refine x_iload (pc' := 32) d_M_collect_30 rfl rfl ?_
    refine x_iadd (z := nI (4 * r + 3)) (pc' := 33) d_M_collect_32 rfl (nI_add _ _) ?_
    refine x_iaload (v := sp_vi (sp_tip (S.2 r) 3)) (pc' := 34) d_M_collect_33 rfl t1 (vp_in_nI (by omega) (by decide)) (by rw [nI_clamp (by omega)]; exact t2 r hr 3 (by decide)) ?_
    refine x_virtual (a := 29) (as := [.int (sp_vi (sp_tip (S.2 r) 3))]) (r := [.long (lN (sp_ro S.1 (sp_tip (S.2 r) 0) ||| sp_ro S.1 (sp_tip (S.2 r) 1) ||| sp_ro S.1 (sp_tip (S.2 r) 2)))]) (v := (some (.long (lN (sp_ro S.1 (sp_tip (S.2 r) 3)))))) (h' := h) (st' := [.long (lN (sp_ro S.1 (sp_tip (S.2 r) 3))), .long (lN (sp_ro S.1 (sp_tip (S.2 r) 0) ||| sp_ro S.1 (sp_tip (S.2 r) 1) ||| sp_ro S.1 (sp_tip (S.2 r) 2)))]) (c' := 0) (s' := 0) (pc' := 37) d_M_collect_34 rfl c_M_100 hO rfl rfl (Nat.le_of_ble_eq_true rfl) (Nat.le_of_ble_eq_true rfl) (Nat.le_of_ble_eq_true rfl) (fun Q' hq => c_M_reached hO hK hS.1 (hR.2.1 3 (by decide)) hq) rfl rfl rfl ?_
    refine x_lor (z := lN (sp_ro S.1 (sp_tip (S.2 r) 0) ||| sp_ro S.1 (sp_tip (S.2 r) 1) ||| sp_ro S.1 (sp_tip (S.2 r) 2) ||| sp_ro S.1 (sp_tip (S.2 r) 3))) (pc' := 38) d_M_collect_37 rfl (by rw [wb_or k3 b3]) ?_
    refine x_lstore_n (lo' := [.ref 29, .int (nI r), .long (lN (sp_ro S.1 (sp_tip (S.2 r) 0) ||| sp_ro S.1 (sp_tip (S.2 r) 1) ||| sp_ro S.1 (sp_tip (S.2 r) 2) ||| sp_ro S.1 (sp_tip (S.2 r) 3))), .float 0, .int (nI 3)]) (pc' := 39) d_M_collect_38 rfl (Nat.le_of_ble_eq_true rfl) rfl ?_
    refine x_iinc (y := nI 4) (lo' := [.ref 29, .int (nI r), .long (lN (sp_ro S.1 (sp_tip (S.2 r) 0) ||| sp_ro S.1 (sp_tip (S.2 r) 1) ||| sp_ro S.1 (sp_tip (S.2 r) 2) ||| sp_ro S.1 (sp_tip (S.2 r) 3))), .float 0, .int (nI 4)]) (pc' := 42) d_M_collect_39 rfl rfl (sp_nI_inc 3) rfl ?_
    refine x_goto (t := 15) d_M_collect_42 rfl ?_
    refine x_iload (pc' := 17) d_M_collect_15 rfl rfl ?_
    refine x_iconst (v := nI 4) (pc' := 18) d_M_collect_17 rfl (by decide) ?_
    refine x_icmpge (t := 45) (pc' := 21) d_M_collect_18 rfl rfl (fun _ => ?_) (fun q => absurd (nI_le (Nat.le_refl _) (by decide)) q)
    refine x_aload_n (pc' := 46) d_M_collect_45 rfl rfl ?_
    refine x_getfield (ci := 4) (i := 4) (v := .ref 33) (pc' := 49) d_M_collect_46 rfl g_M_20 hO rfl ?_
    refine x_iload_n (pc' := 50) d_M_collect_49 rfl rfl ?_
    refine x_laload (v := lN (sp_held (S.2 r))) (pc' := 51) d_M_collect_50 rfl g1 (vp_in_nI hr (by decide)) (by rw [nI_clamp (by omega)]; exact g2 r hr) ?_
    refine x_static (as := [.long (lN (sp_held (S.2 r)))]) (r := []) (v := (some (.int (nI (xp_cnt (sp_held (S.2 r)) 64))))) (h' := h) (st' := [.int (nI (xp_cnt (sp_held (S.2 r)) 64))]) (c' := 0) (s' := 0) (pc' := 54) d_M_collect_51 rfl c_M_163 rfl rfl (Nat.le_of_ble_eq_true rfl) (Nat.le_of_ble_eq_true rfl) (Nat.le_of_ble_eq_true rfl) (fun Q' hq => c_M_many h40m hq) rfl rfl rfl ?_
    refine x_aload_n (pc' := 55) d_M_collect_54 rfl rfl ?_
    refine x_getfield (ci := 4) (i := 4) (v := .ref 33) (pc' := 58) d_M_collect_55 rfl g_M_20 hO rfl ?_
    refine x_iload_n (pc' := 59) d_M_collect_58 rfl rfl ?_
    refine x_laload (v := lN (sp_held (S.2 r))) (pc' := 60) d_M_collect_59 rfl g1 (vp_in_nI hr (by decide)) (by rw [nI_clamp (by omega)]; exact g2 r hr) ?_
    refine x_lload_n (pc' := 61) d_M_collect_60 rfl rfl rfl ?_
    refine x_land (z := lN (sp_held (S.2 r) &&& (sp_ro S.1 (sp_tip (S.2 r) 0) ||| sp_ro S.1 (sp_tip (S.2 r) 1) ||| sp_ro S.1 (sp_tip (S.2 r) 2) ||| sp_ro S.1 (sp_tip (S.2 r) 3)))) (pc' := 62) d_M_collect_61 rfl (wb_and hm k4) ?_
    refine x_static (as := [.long (lN (sp_held (S.2 r) &&& (sp_ro S.1 (sp_tip (S.2 r) 0) ||| sp_ro S.1 (sp_tip (S.2 r) 1) ||| sp_ro S.1 (sp_tip (S.2 r) 2) ||| sp_ro S.1 (sp_tip (S.2 r) 3))))]) (r := [.int (nI (xp_cnt (sp_held (S.2 r)) 64))]) (v := (some (.int (nI (xp_cnt (sp_held (S.2 r) &&& (sp_ro S.1 (sp_tip (S.2 r) 0) ||| sp_ro S.1 (sp_tip (S.2 r) 1) ||| sp_ro S.1 (sp_tip (S.2 r) 2) ||| sp_ro S.1 (sp_tip (S.2 r) 3))) 64))))) (h' := h) (st' := [.int (nI (xp_cnt (sp_held (S.2 r) &&& (sp_ro S.1 (sp_tip (S.2 r) 0) ||| sp_ro S.1 (sp_tip (S.2 r) 1) ||| sp_ro S.1 (sp_tip (S.2 r) 2) ||| sp_ro S.1 (sp_tip (S.2 r) 3))) 64)), .int (nI (xp_cnt (sp_held (S.2 r)) 64))]) (c' := 0) (s' := 0) (pc' := 65) d_M_collect_62 rfl c_M_163 rfl rfl (Nat.le_of_ble_eq_true rfl) (Nat.le_of_ble_eq_true rfl) (Nat.le_of_ble_eq_true rfl) (fun Q' hq => c_M_many (Nat.lt_of_le_of_lt Nat.and_le_left h40m) hq) rfl rfl rfl ?_
    refine x_isub (z := nI (xp_cnt (sp_held (S.2 r)) 64 - xp_cnt (sp_held (S.2 r) &&& (sp_ro S.1 (sp_tip (S.2 r) 0) ||| sp_ro S.1 (sp_tip (S.2 r) 1) ||| sp_ro S.1 (sp_tip (S.2 r) 2) ||| sp_ro S.1 (sp_tip (S.2 r) 3))) 64)) (pc' := 66) d_M_collect_65 rfl (pk_sub (by have := xp_cnt_andn (sp_held (S.2 r)) (sp_all S.1 (S.2 r)) 64; exact Nat.le.intro (Nat.add_comm _ _ ▸ this))) ?_
    refine x_istore (lo' := [.ref 29, .int (nI r), .long (lN (sp_ro S.1 (sp_tip (S.2 r) 0) ||| sp_ro S.1 (sp_tip (S.2 r) 1) ||| sp_ro S.1 (sp_tip (S.2 r) 2) ||| sp_ro S.1 (sp_tip (S.2 r) 3))), .float 0, .int (nI (xp_cnt (sp_held (S.2 r)) 64 - xp_cnt (sp_held (S.2 r) &&& (sp_ro S.1 (sp_tip (S.2 r) 0) ||| sp_ro S.1 (sp_tip (S.2 r) 1) ||| sp_ro S.1 (sp_tip (S.2 r) 2) ||| sp_ro S.1 (sp_tip (S.2 r) 3))) 64))]) (pc' := 68) d_M_collect_66 rfl (Nat.le_of_ble_eq_true rfl) rfl ?_
    refine x_aload_n (pc' := 69) d_M_collect_68 rfl rfl ?_
    refine x_getfield (ci := 4) (i := 4) (v := .ref 33) (pc' := 72) d_M_collect_69 rfl g_M_20 hO rfl ?_
    refine x_iload_n (pc' := 73) d_M_collect_72 rfl rfl ?_
    refine x_aload_n (pc' := 74) d_M_collect_73 rfl rfl ?_
    refine x_getfield (ci := 4) (i := 4) (v := .ref 33) (pc' := 77) d_M_collect_74 rfl g_M_20 hO rfl ?_
    refine x_iload_n (pc' := 78) d_M_collect_77 rfl rfl ?_
    refine x_laload (v := lN (sp_held (S.2 r))) (pc' := 79) d_M_collect_78 rfl g1 (vp_in_nI hr (by decide)) (by rw [nI_clamp (by omega)]; exact g2 r hr) ?_
    refine x_lload_n (pc' := 80) d_M_collect_79 rfl rfl rfl ?_
    refine x_land (z := lN (sp_held (S.2 r) &&& (sp_ro S.1 (sp_tip (S.2 r) 0) ||| sp_ro S.1 (sp_tip (S.2 r) 1) ||| sp_ro S.1 (sp_tip (S.2 r) 2) ||| sp_ro S.1 (sp_tip (S.2 r) 3)))) (pc' := 81) d_M_collect_80 rfl (wb_and hm k4) ?_
    refine x_lastore (h' := (h.set 33 (.inl (.long, 2, .inr (.inl (vp_updL g (nI r).toNatClampNeg (lN (sp_held (S.2 r) &&& (sp_ro S.1 (sp_tip (S.2 r) 0) ||| sp_ro S.1 (sp_tip (S.2 r) 1) ||| sp_ro S.1 (sp_tip (S.2 r) 2) ||| sp_ro S.1 (sp_tip (S.2 r) 3)))))))))) (pc' := 82) d_M_collect_81 rfl g1 (vp_in_nI hr (by decide)) rfl ?_
    refine x_iload (pc' := 84) d_M_collect_82 rfl rfl ?_
    exact x_ireturn d_M_collect_84 rfl rfl (hQ _ (mh_set hM (by decide) rfl (mk_held hr g1 _ (mk_self hK))) (xl_set (by decide)))
set_option maxHeartbeats 4000000 in
theorem c_M_send {L : Nat} {xs : Nat → Int32} {d : Nat} {h : xm_H} {Q : xm_Q} {S : sp_S} (hM : mh h S) (hS : sp_WS S) {x y : Int32} (hQ : ∀ h', mh h' (sp_send S x y).2 → xl_fr sp_M29 h h' → Q (some (.int (sp_send S x y).1)) h') : xm_call L xs (d + 2) m_M_send [.ref 29, .int x, .int y] h Q := by
  obtain ⟨hK, ⟨tk, hO⟩, hw⟩ := id hM
  have h40 := hK.1
  obtain ⟨t, t1, t2⟩ := hK.2.2.2.2.2.1
  obtain ⟨v, v1, v2⟩ := hK.2.2.2.2.2.2.1
  obtain ⟨g, g1, g2⟩ := hK.2.2.2.2.1
  have key : ∀ z, sp_send S x y = (z, S) → Q (some (.int z)) h := fun z e9 => by
    rw [e9] at hQ
    exact hQ h hM xl_rf
  refine x_call (lo := [.ref 29, .int x, .int y, .float 0, .float 0, .float 0, .float 0, .float 0]) (Nat.le_of_ble_eq_true rfl) rfl ?_
  rcases sp_in_cases 2 (by decide) x with ⟨_, ex⟩ | ⟨_, _, ex⟩ | ⟨r, hr, rfl, er⟩
  · refine x_iload_n (pc' := 1) d_M_send_0 rfl rfl ?_
    refine x_iconst (v := nI 2) (pc' := 2) d_M_send_1 rfl (by decide) ?_
    refine x_static (as := [.int x, .int (nI 2)]) (r := []) (v := (some (.int 1))) (h' := h) (st' := [.int 1]) (c' := 0) (s' := 0) (pc' := 5) d_M_send_2 rfl c_M_123 rfl rfl (Nat.le_of_ble_eq_true rfl) (Nat.le_of_ble_eq_true rfl) (Nat.le_of_ble_eq_true rfl) (fun Q' hq => c_M_out1 (by decide) ex hq) rfl rfl rfl ?_
    refine x_ifne (t := 16) (pc' := 8) d_M_send_5 rfl rfl (fun _ => ?_) (fun q => absurd q (by decide))
    refine x_iconst (v := (-1)) (pc' := 17) d_M_send_16 rfl (by decide) ?_
    exact x_ireturn d_M_send_17 rfl rfl (key _ (by unfold sp_send; rw [ex]))
  · refine x_iload_n (pc' := 1) d_M_send_0 rfl rfl ?_
    refine x_iconst (v := nI 2) (pc' := 2) d_M_send_1 rfl (by decide) ?_
    refine x_static (as := [.int x, .int (nI 2)]) (r := []) (v := (some (.int 1))) (h' := h) (st' := [.int 1]) (c' := 0) (s' := 0) (pc' := 5) d_M_send_2 rfl c_M_123 rfl rfl (Nat.le_of_ble_eq_true rfl) (Nat.le_of_ble_eq_true rfl) (Nat.le_of_ble_eq_true rfl) (fun Q' hq => c_M_out1 (by decide) ex hq) rfl rfl rfl ?_
    refine x_ifne (t := 16) (pc' := 8) d_M_send_5 rfl rfl (fun _ => ?_) (fun q => absurd q (by decide))
    refine x_iconst (v := (-1)) (pc' := 17) d_M_send_16 rfl (by decide) ?_
    exact x_ireturn d_M_send_17 rfl rfl (key _ (by unfold sp_send; rw [ex]))
  · rcases sp_in_cases 4 (by decide) y with ⟨_, ey⟩ | ⟨_, _, ey⟩ | ⟨b, hb, rfl, eb⟩
    · refine x_iload_n (pc' := 1) d_M_send_0 rfl rfl ?_
      refine x_iconst (v := nI 2) (pc' := 2) d_M_send_1 rfl (by decide) ?_
      refine x_static (as := [.int (nI r), .int (nI 2)]) (r := []) (v := (some (.int 0))) (h' := h) (st' := [.int 0]) (c' := 0) (s' := 0) (pc' := 5) d_M_send_2 rfl c_M_123 rfl rfl (Nat.le_of_ble_eq_true rfl) (Nat.le_of_ble_eq_true rfl) (Nat.le_of_ble_eq_true rfl) (fun Q' hq => c_M_out0 hr (by decide) hq) rfl rfl rfl ?_
      refine x_ifne (t := 16) (pc' := 8) d_M_send_5 rfl rfl (fun q => absurd rfl q) (fun _ => ?_)
      refine x_iload_n (pc' := 9) d_M_send_8 rfl rfl ?_
      refine x_iconst (v := nI 4) (pc' := 10) d_M_send_9 rfl (by decide) ?_
      refine x_static (as := [.int y, .int (nI 4)]) (r := []) (v := (some (.int 1))) (h' := h) (st' := [.int 1]) (c' := 0) (s' := 0) (pc' := 13) d_M_send_10 rfl c_M_123 rfl rfl (Nat.le_of_ble_eq_true rfl) (Nat.le_of_ble_eq_true rfl) (Nat.le_of_ble_eq_true rfl) (fun Q' hq => c_M_out1 (by decide) ey hq) rfl rfl rfl ?_
      refine x_ifeq (t := 18) (pc' := 16) d_M_send_13 rfl rfl (fun q => absurd q (by decide)) (fun _ => ?_)
      refine x_iconst (v := (-1)) (pc' := 17) d_M_send_16 rfl (by decide) ?_
      exact x_ireturn d_M_send_17 rfl rfl (key _ (by unfold sp_send; rw [er, ey]))
    · refine x_iload_n (pc' := 1) d_M_send_0 rfl rfl ?_
      refine x_iconst (v := nI 2) (pc' := 2) d_M_send_1 rfl (by decide) ?_
      refine x_static (as := [.int (nI r), .int (nI 2)]) (r := []) (v := (some (.int 0))) (h' := h) (st' := [.int 0]) (c' := 0) (s' := 0) (pc' := 5) d_M_send_2 rfl c_M_123 rfl rfl (Nat.le_of_ble_eq_true rfl) (Nat.le_of_ble_eq_true rfl) (Nat.le_of_ble_eq_true rfl) (fun Q' hq => c_M_out0 hr (by decide) hq) rfl rfl rfl ?_
      refine x_ifne (t := 16) (pc' := 8) d_M_send_5 rfl rfl (fun q => absurd rfl q) (fun _ => ?_)
      refine x_iload_n (pc' := 9) d_M_send_8 rfl rfl ?_
      refine x_iconst (v := nI 4) (pc' := 10) d_M_send_9 rfl (by decide) ?_
      refine x_static (as := [.int y, .int (nI 4)]) (r := []) (v := (some (.int 1))) (h' := h) (st' := [.int 1]) (c' := 0) (s' := 0) (pc' := 13) d_M_send_10 rfl c_M_123 rfl rfl (Nat.le_of_ble_eq_true rfl) (Nat.le_of_ble_eq_true rfl) (Nat.le_of_ble_eq_true rfl) (fun Q' hq => c_M_out1 (by decide) ey hq) rfl rfl rfl ?_
      refine x_ifeq (t := 18) (pc' := 16) d_M_send_13 rfl rfl (fun q => absurd q (by decide)) (fun _ => ?_)
      refine x_iconst (v := (-1)) (pc' := 17) d_M_send_16 rfl (by decide) ?_
      exact x_ireturn d_M_send_17 rfl rfl (key _ (by unfold sp_send; rw [er, ey]))
    · have hR := hS.2 r hr
      have hR2 := hS.2 (1 - r) (by omega)
      refine x_iload_n (pc' := 1) d_M_send_0 rfl rfl ?_
      refine x_iconst (v := nI 2) (pc' := 2) d_M_send_1 rfl (by decide) ?_
      refine x_static (as := [.int (nI r), .int (nI 2)]) (r := []) (v := (some (.int 0))) (h' := h) (st' := [.int 0]) (c' := 0) (s' := 0) (pc' := 5) d_M_send_2 rfl c_M_123 rfl rfl (Nat.le_of_ble_eq_true rfl) (Nat.le_of_ble_eq_true rfl) (Nat.le_of_ble_eq_true rfl) (fun Q' hq => c_M_out0 hr (by decide) hq) rfl rfl rfl ?_
      refine x_ifne (t := 16) (pc' := 8) d_M_send_5 rfl rfl (fun q => absurd rfl q) (fun _ => ?_)
      refine x_iload_n (pc' := 9) d_M_send_8 rfl rfl ?_
      refine x_iconst (v := nI 4) (pc' := 10) d_M_send_9 rfl (by decide) ?_
      refine x_static (as := [.int (nI b), .int (nI 4)]) (r := []) (v := (some (.int 0))) (h' := h) (st' := [.int 0]) (c' := 0) (s' := 0) (pc' := 13) d_M_send_10 rfl c_M_123 rfl rfl (Nat.le_of_ble_eq_true rfl) (Nat.le_of_ble_eq_true rfl) (Nat.le_of_ble_eq_true rfl) (fun Q' hq => c_M_out0 hb (by decide) hq) rfl rfl rfl ?_
      refine x_ifeq (t := 18) (pc' := 16) d_M_send_13 rfl rfl (fun _ => ?_) (fun q => absurd rfl q)
      refine x_aload_n (pc' := 19) d_M_send_18 rfl rfl ?_
      refine x_iload_n (pc' := 20) d_M_send_19 rfl rfl ?_
      refine x_iload_n (pc' := 21) d_M_send_20 rfl rfl ?_
      refine x_virtual (a := 29) (as := [.int (nI r), .int (nI b)]) (r := []) (v := (some (.int (sp_bi (decide (sp_tip (S.2 r) b ≠ none)))))) (h' := h) (st' := [.int (sp_bi (decide (sp_tip (S.2 r) b ≠ none)))]) (c' := 0) (s' := 0) (pc' := 24) d_M_send_21 rfl c_M_130 hO rfl rfl (Nat.le_of_ble_eq_true rfl) (Nat.le_of_ble_eq_true rfl) (Nat.le_of_ble_eq_true rfl) (fun Q' hq => c_M_there hO hK hS hr hb hq) rfl rfl rfl ?_
      rcases sp_oc (sp_tip (S.2 r) b) with h1 | ⟨c, h1⟩
      · refine x_ifne (t := 30) (pc' := 27) d_M_send_24 rfl rfl (fun q => absurd (by rw [h1]; rfl) q) (fun _ => ?_)
        refine x_bipush (v := (-2)) (pc' := 29) d_M_send_27 rfl (by decide) ?_
        exact x_ireturn d_M_send_29 rfl rfl (key _ (by unfold sp_send; rw [er, eb]; dsimp only; rw [h1]))
      · refine x_ifne (t := 30) (pc' := 27) d_M_send_24 rfl rfl (fun _ => ?_) (fun q => absurd q (by rw [decide_eq_true (show sp_tip (S.2 r) b ≠ none by rw [h1]; exact Option.some_ne_none _)]; decide))
        refine x_iconst (v := nI 1) (pc' := 31) d_M_send_30 rfl (by decide) ?_
        refine x_iload_n (pc' := 32) d_M_send_31 rfl rfl ?_
        refine x_isub (z := nI (1 - r)) (pc' := 33) d_M_send_32 rfl (sp_nI_1r hr) ?_
        refine x_istore_n (lo' := [.ref 29, .int (nI r), .int (nI b), .int (nI (1 - r)), .float 0, .float 0, .float 0, .float 0]) (pc' := 34) d_M_send_33 rfl (Nat.le_of_ble_eq_true rfl) rfl ?_
        refine x_aload_n (pc' := 35) d_M_send_34 rfl rfl ?_
        refine x_getfield (ci := 4) (i := 6) (v := .ref 35) (pc' := 38) d_M_send_35 rfl g_M_26 hO rfl ?_
        refine x_iload_n (pc' := 39) d_M_send_38 rfl rfl ?_
        refine x_iaload (v := nI (sp_cur (S.2 (1 - r)))) (pc' := 40) d_M_send_39 rfl v1 (vp_in_nI (by omega) (by decide)) (by rw [nI_clamp (by omega)]; exact v2 _ (by omega)) ?_
        refine x_iload_n (pc' := 41) d_M_send_40 rfl rfl ?_
        have hc := hR.2.1 b hb c h1
        by_cases h3 : sp_cur (S.2 (1 - r)) = b
        · refine x_icmpne (t := 47) (pc' := 44) d_M_send_41 rfl rfl (fun q => absurd (by rw [h3]) q) (fun _ => ?_)
          refine x_bipush (v := (-3)) (pc' := 46) d_M_send_44 rfl (by decide) ?_
          exact x_ireturn d_M_send_46 rfl rfl (key _ (by unfold sp_send; rw [er, eb]; dsimp only; rw [h1]; dsimp only; rw [if_pos h3]))
        · have m40 : sp_held (S.2 (1 - r)) < 2 ^ 40 := Nat.lt_of_lt_of_le hR2.2.2.1 (Nat.pow_le_pow_right (by decide) h40)
          have c40 : sp_rr S.1 c < 2 ^ 40 := Nat.lt_of_lt_of_le (sp_WH_ro hS.1 (c := some c) (sp_ok_some hc)) (Nat.pow_le_pow_right (by decide) h40)
          have m64 : sp_held (S.2 (1 - r)) < 2 ^ 64 := Nat.lt_trans m40 (by decide)
          have c64 : sp_rr S.1 c < 2 ^ 64 := Nat.lt_trans c40 (by decide)
          have a0 := mk_self (r := 1 - r) hK
          have a1 := mk_held (r := 1 - r) (by omega) g1 (sp_held (S.2 (1 - r)) ||| sp_rr S.1 c) a0
          refine x_icmpne (t := 47) (pc' := 44) d_M_send_41 rfl rfl (fun _ => ?_) (fun q => absurd q (fun z => h3 (sp_nI_inj (by have := hR2.1; omega) (by omega) z)))
          refine x_aload_n (pc' := 48) d_M_send_47 rfl rfl ?_
          refine x_aload_n (pc' := 49) d_M_send_48 rfl rfl ?_
          refine x_getfield (ci := 4) (i := 5) (v := .ref 34) (pc' := 52) d_M_send_49 rfl g_M_23 hO rfl ?_
          refine x_iconst (v := nI 4) (pc' := 53) d_M_send_52 rfl (by decide) ?_
          refine x_iload_n (pc' := 54) d_M_send_53 rfl rfl ?_
          refine x_imul (z := nI (4 * r)) (pc' := 55) d_M_send_54 rfl (pk_mul 4 r) ?_
          refine x_iload_n (pc' := 56) d_M_send_55 rfl rfl ?_
          refine x_iadd (z := nI (4 * r + b)) (pc' := 57) d_M_send_56 rfl (nI_add _ _) ?_
          refine x_iaload (v := nI c) (pc' := 58) d_M_send_57 rfl t1 (vp_in_nI (by omega) (by decide)) (by rw [nI_clamp (by omega), t2 r hr b hb, h1]; rfl) ?_
          refine x_virtual (a := 29) (as := [.int (nI c)]) (r := []) (v := (some (.long (lN (sp_rr S.1 c))))) (h' := h) (st' := [.long (lN (sp_rr S.1 c))]) (c' := 0) (s' := 0) (pc' := 61) d_M_send_58 rfl c_M_100 hO rfl rfl (Nat.le_of_ble_eq_true rfl) (Nat.le_of_ble_eq_true rfl) (Nat.le_of_ble_eq_true rfl) (fun Q' hq => c_M_reached1 hO hK hS.1 hc hq) rfl rfl rfl ?_
          refine x_lstore (lo' := [.ref 29, .int (nI r), .int (nI b), .int (nI (1 - r)), .long (lN (sp_rr S.1 c)), .float 0, .float 0, .float 0]) (pc' := 63) d_M_send_61 rfl (Nat.le_of_ble_eq_true rfl) rfl ?_
          refine x_aload_n (pc' := 64) d_M_send_63 rfl rfl ?_
          refine x_getfield (ci := 4) (i := 5) (v := .ref 34) (pc' := 67) d_M_send_64 rfl g_M_23 hO rfl ?_
          refine x_iconst (v := nI 4) (pc' := 68) d_M_send_67 rfl (by decide) ?_
          refine x_iload_n (pc' := 69) d_M_send_68 rfl rfl ?_
          refine x_imul (z := nI (4 * (1 - r))) (pc' := 70) d_M_send_69 rfl (pk_mul 4 (1 - r)) ?_
          refine x_iload_n (pc' := 71) d_M_send_70 rfl rfl ?_
          refine x_iadd (z := nI (4 * (1 - r) + b)) (pc' := 72) d_M_send_71 rfl (nI_add _ _) ?_
          rcases sp_oc (sp_tip (S.2 (1 - r)) b) with h4 | ⟨k, h4⟩
          · have e9 : sp_send S (nI r) (nI b) = (nI (xp_cnt (sp_held (S.2 (1 - r)) ||| sp_rr S.1 c) 64 - xp_cnt (sp_held (S.2 (1 - r))) 64), sp_set S (1 - r) (sp_up (sp_tip (S.2 (1 - r))) b (some c), sp_cur (S.2 (1 - r)), sp_held (S.2 (1 - r)) ||| sp_rr S.1 c, sp_wk (S.2 (1 - r)), sp_ix (S.2 (1 - r)))) := by unfold sp_send; rw [er, eb]; dsimp only; rw [h1]; dsimp only; rw [if_neg h3, if_neg (fun z => z.1 h4)]
            rw [e9] at hQ
            refine x_iaload (v := -2) (pc' := 73) d_M_send_72 rfl t1 (vp_in_nI (by omega) (by decide)) (by rw [nI_clamp (by omega), t2 _ (by omega) b hb, h4]; rfl) ?_
            refine x_istore (lo' := [.ref 29, .int (nI r), .int (nI b), .int (nI (1 - r)), .long (lN (sp_rr S.1 c)), .float 0, .int (-2), .float 0]) (pc' := 75) d_M_send_73 rfl (Nat.le_of_ble_eq_true rfl) rfl ?_
            refine x_iload (pc' := 77) d_M_send_75 rfl rfl ?_
            refine x_iflt (t := 95) (pc' := 80) d_M_send_77 rfl rfl (fun _ => ?_) (fun q => absurd (by decide) q)
            refine x_lload (pc' := 97) d_M_send_95 rfl rfl rfl ?_
            refine x_aload_n (pc' := 98) d_M_send_97 rfl rfl ?_
            refine x_getfield (ci := 4) (i := 4) (v := .ref 33) (pc' := 101) d_M_send_98 rfl g_M_20 hO rfl ?_
            refine x_iload_n (pc' := 102) d_M_send_101 rfl rfl ?_
            refine x_laload (v := lN (sp_held (S.2 (1 - r)))) (pc' := 103) d_M_send_102 rfl g1 (vp_in_nI (by omega) (by decide)) (by rw [nI_clamp (by omega)]; exact g2 _ (by omega)) ?_
            refine x_ldc2_w (x := (-1)) (pc' := 106) d_M_send_103 rfl k_M_158 ?_
            refine x_lxor (z := (lN (sp_held (S.2 (1 - r)))) ^^^ (-1)) (pc' := 107) d_M_send_106 rfl rfl ?_
            refine x_land (z := lN (sp_rr S.1 c &&& (sp_rr S.1 c ^^^ sp_held (S.2 (1 - r))))) (pc' := 108) d_M_send_107 rfl wb_andn ?_
            refine x_static (as := [.long (lN (sp_rr S.1 c &&& (sp_rr S.1 c ^^^ sp_held (S.2 (1 - r)))))]) (r := []) (v := (some (.int (nI (xp_cnt (sp_rr S.1 c &&& (sp_rr S.1 c ^^^ sp_held (S.2 (1 - r)))) 64))))) (h' := h) (st' := [.int (nI (xp_cnt (sp_rr S.1 c &&& (sp_rr S.1 c ^^^ sp_held (S.2 (1 - r)))) 64))]) (c' := 0) (s' := 0) (pc' := 111) d_M_send_108 rfl c_M_163 rfl rfl (Nat.le_of_ble_eq_true rfl) (Nat.le_of_ble_eq_true rfl) (Nat.le_of_ble_eq_true rfl) (fun Q' hq => c_M_many (Nat.lt_of_le_of_lt Nat.and_le_left c40) hq) rfl rfl rfl ?_
            refine x_istore (lo' := [.ref 29, .int (nI r), .int (nI b), .int (nI (1 - r)), .long (lN (sp_rr S.1 c)), .float 0, .int (-2), .int (nI (xp_cnt (sp_rr S.1 c &&& (sp_rr S.1 c ^^^ sp_held (S.2 (1 - r)))) 64))]) (pc' := 113) d_M_send_111 rfl (Nat.le_of_ble_eq_true rfl) rfl ?_
            refine x_aload_n (pc' := 114) d_M_send_113 rfl rfl ?_
            refine x_getfield (ci := 4) (i := 4) (v := .ref 33) (pc' := 117) d_M_send_114 rfl g_M_20 hO rfl ?_
            refine x_iload_n (pc' := 118) d_M_send_117 rfl rfl ?_
            refine x_aload_n (pc' := 119) d_M_send_118 rfl rfl ?_
            refine x_getfield (ci := 4) (i := 4) (v := .ref 33) (pc' := 122) d_M_send_119 rfl g_M_20 hO rfl ?_
            refine x_iload_n (pc' := 123) d_M_send_122 rfl rfl ?_
            refine x_laload (v := lN (sp_held (S.2 (1 - r)))) (pc' := 124) d_M_send_123 rfl g1 (vp_in_nI (by omega) (by decide)) (by rw [nI_clamp (by omega)]; exact g2 _ (by omega)) ?_
            refine x_lload (pc' := 126) d_M_send_124 rfl rfl rfl ?_
            refine x_lor (z := lN (sp_held (S.2 (1 - r)) ||| sp_rr S.1 c)) (pc' := 127) d_M_send_126 rfl (wb_or m64 c64) ?_
            refine x_lastore (h' := (h.set 33 (.inl (.long, 2, .inr (.inl (vp_updL g (nI (1 - r)).toNatClampNeg (lN (sp_held (S.2 (1 - r)) ||| sp_rr S.1 c)))))))) (pc' := 128) d_M_send_127 rfl g1 (vp_in_nI (by omega) (by decide)) rfl ?_
            refine x_aload_n (pc' := 129) d_M_send_128 rfl rfl ?_
            refine x_getfield (ci := 4) (i := 5) (v := .ref 34) (pc' := 132) d_M_send_129 rfl g_M_23 ((xl_ne (by decide)).trans hO) rfl ?_
            refine x_iconst (v := nI 4) (pc' := 133) d_M_send_132 rfl (by decide) ?_
            refine x_iload_n (pc' := 134) d_M_send_133 rfl rfl ?_
            refine x_imul (z := nI (4 * (1 - r))) (pc' := 135) d_M_send_134 rfl (pk_mul 4 (1 - r)) ?_
            refine x_iload_n (pc' := 136) d_M_send_135 rfl rfl ?_
            refine x_iadd (z := nI (4 * (1 - r) + b)) (pc' := 137) d_M_send_136 rfl (nI_add _ _) ?_
            refine x_aload_n (pc' := 138) d_M_send_137 rfl rfl ?_
            refine x_getfield (ci := 4) (i := 5) (v := .ref 34) (pc' := 141) d_M_send_138 rfl g_M_23 ((xl_ne (by decide)).trans hO) rfl ?_
            refine x_iconst (v := nI 4) (pc' := 142) d_M_send_141 rfl (by decide) ?_
            refine x_iload_n (pc' := 143) d_M_send_142 rfl rfl ?_
            refine x_imul (z := nI (4 * r)) (pc' := 144) d_M_send_143 rfl (pk_mul 4 r) ?_
            refine x_iload_n (pc' := 145) d_M_send_144 rfl rfl ?_
            refine x_iadd (z := nI (4 * r + b)) (pc' := 146) d_M_send_145 rfl (nI_add _ _) ?_
            refine x_iaload (v := nI c) (pc' := 147) d_M_send_146 rfl ((xl_ne (by decide)).trans t1) (vp_in_nI (by omega) (by decide)) (by rw [nI_clamp (by omega), t2 r hr b hb, h1]; rfl) ?_
            refine x_iastore (h' := ((h.set 33 (.inl (.long, 2, .inr (.inl (vp_updL g (nI (1 - r)).toNatClampNeg (lN (sp_held (S.2 (1 - r)) ||| sp_rr S.1 c))))))).set 34 (.inl (.int, 8, .inl (upd t (nI (4 * (1 - r) + b)).toNatClampNeg (sp_vi (some c))))))) (pc' := 148) d_M_send_147 rfl ((xl_ne (by decide)).trans t1) (vp_in_nI (by omega) (by decide)) rfl ?_
            refine x_iload (pc' := 150) d_M_send_148 rfl rfl ?_
            exact x_ireturn d_M_send_150 rfl rfl (x_q (by rw [xp_cnt_orx, Nat.add_sub_cancel_left]) (hQ _ (mh_of hM (mk_tip (r := 1 - r) (by omega) ((xl_ne (by decide)).trans t1) hb (some c) a1) ((xl_ne (by decide)).trans ((xl_ne (by decide)).trans hO)) (fun k z1 z2 => (xl_ne (by omega)).trans (xl_ne (by omega)))) (xl_tr (xl_set (by decide)) (xl_set (by decide)))))
          · have hk := hR2.2.1 b hb k h4
            refine x_iaload (v := nI k) (pc' := 73) d_M_send_72 rfl t1 (vp_in_nI (by omega) (by decide)) (by rw [nI_clamp (by omega), t2 _ (by omega) b hb, h4]; rfl) ?_
            refine x_istore (lo' := [.ref 29, .int (nI r), .int (nI b), .int (nI (1 - r)), .long (lN (sp_rr S.1 c)), .float 0, .int (nI k), .float 0]) (pc' := 75) d_M_send_73 rfl (Nat.le_of_ble_eq_true rfl) rfl ?_
            refine x_iload (pc' := 77) d_M_send_75 rfl rfl ?_
            refine x_iflt (t := 95) (pc' := 80) d_M_send_77 rfl rfl (fun q => absurd q (nI_pos (by omega))) (fun _ => ?_)
            refine x_lload (pc' := 82) d_M_send_80 rfl rfl rfl ?_
            refine x_iload (pc' := 84) d_M_send_82 rfl rfl ?_
            refine x_lshr (z := (lN (sp_rr S.1 c)) >>> ((nI k).toInt64 &&& 63)) (pc' := 85) d_M_send_84 rfl rfl ?_
            refine x_lconst (v := 1) (pc' := 86) d_M_send_85 rfl (by decide) ?_
            cases h5 : (sp_rr S.1 c).testBit k with
            | false =>
              refine x_land (z := lN 0) (pc' := 87) d_M_send_86 rfl (wb_sb (by omega) h5) ?_
              refine x_lconst (v := 0) (pc' := 88) d_M_send_87 rfl (by decide) ?_
              refine x_lcmp (z := lg_cmp (lN 0) 0) (pc' := 89) d_M_send_88 rfl rfl ?_
              refine x_ifne (t := 95) (pc' := 92) d_M_send_89 rfl rfl (fun q => absurd (by decide) q) (fun _ => ?_)
              refine x_bipush (v := (-7)) (pc' := 94) d_M_send_92 rfl (by decide) ?_
              exact x_ireturn d_M_send_94 rfl rfl (key _ (by unfold sp_send; rw [er, eb]; dsimp only; rw [h1]; dsimp only; rw [if_neg h3, if_pos ⟨by rw [h4]; exact Option.some_ne_none _, by rw [h4]; show ¬ (sp_rr S.1 c).testBit k = true; rw [h5]; decide⟩]))
            | true =>
              have e9 : sp_send S (nI r) (nI b) = (nI (xp_cnt (sp_held (S.2 (1 - r)) ||| sp_rr S.1 c) 64 - xp_cnt (sp_held (S.2 (1 - r))) 64), sp_set S (1 - r) (sp_up (sp_tip (S.2 (1 - r))) b (some c), sp_cur (S.2 (1 - r)), sp_held (S.2 (1 - r)) ||| sp_rr S.1 c, sp_wk (S.2 (1 - r)), sp_ix (S.2 (1 - r)))) := by unfold sp_send; rw [er, eb]; dsimp only; rw [h1]; dsimp only; rw [if_neg h3, if_neg (fun z => z.2 (by rw [h4]; exact h5))]
              rw [e9] at hQ
              refine x_land (z := lN 1) (pc' := 87) d_M_send_86 rfl (wb_sb (by omega) h5) ?_
              refine x_lconst (v := 0) (pc' := 88) d_M_send_87 rfl (by decide) ?_
              refine x_lcmp (z := lg_cmp (lN 1) 0) (pc' := 89) d_M_send_88 rfl rfl ?_
              refine x_ifne (t := 95) (pc' := 92) d_M_send_89 rfl rfl (fun _ => ?_) (fun q => absurd q (by decide))
              refine x_lload (pc' := 97) d_M_send_95 rfl rfl rfl ?_
              refine x_aload_n (pc' := 98) d_M_send_97 rfl rfl ?_
              refine x_getfield (ci := 4) (i := 4) (v := .ref 33) (pc' := 101) d_M_send_98 rfl g_M_20 hO rfl ?_
              refine x_iload_n (pc' := 102) d_M_send_101 rfl rfl ?_
              refine x_laload (v := lN (sp_held (S.2 (1 - r)))) (pc' := 103) d_M_send_102 rfl g1 (vp_in_nI (by omega) (by decide)) (by rw [nI_clamp (by omega)]; exact g2 _ (by omega)) ?_
              refine x_ldc2_w (x := (-1)) (pc' := 106) d_M_send_103 rfl k_M_158 ?_
              refine x_lxor (z := (lN (sp_held (S.2 (1 - r)))) ^^^ (-1)) (pc' := 107) d_M_send_106 rfl rfl ?_
              refine x_land (z := lN (sp_rr S.1 c &&& (sp_rr S.1 c ^^^ sp_held (S.2 (1 - r))))) (pc' := 108) d_M_send_107 rfl wb_andn ?_
              refine x_static (as := [.long (lN (sp_rr S.1 c &&& (sp_rr S.1 c ^^^ sp_held (S.2 (1 - r)))))]) (r := []) (v := (some (.int (nI (xp_cnt (sp_rr S.1 c &&& (sp_rr S.1 c ^^^ sp_held (S.2 (1 - r)))) 64))))) (h' := h) (st' := [.int (nI (xp_cnt (sp_rr S.1 c &&& (sp_rr S.1 c ^^^ sp_held (S.2 (1 - r)))) 64))]) (c' := 0) (s' := 0) (pc' := 111) d_M_send_108 rfl c_M_163 rfl rfl (Nat.le_of_ble_eq_true rfl) (Nat.le_of_ble_eq_true rfl) (Nat.le_of_ble_eq_true rfl) (fun Q' hq => c_M_many (Nat.lt_of_le_of_lt Nat.and_le_left c40) hq) rfl rfl rfl ?_
              refine x_istore (lo' := [.ref 29, .int (nI r), .int (nI b), .int (nI (1 - r)), .long (lN (sp_rr S.1 c)), .float 0, .int (nI k), .int (nI (xp_cnt (sp_rr S.1 c &&& (sp_rr S.1 c ^^^ sp_held (S.2 (1 - r)))) 64))]) (pc' := 113) d_M_send_111 rfl (Nat.le_of_ble_eq_true rfl) rfl ?_
              refine x_aload_n (pc' := 114) d_M_send_113 rfl rfl ?_
              refine x_getfield (ci := 4) (i := 4) (v := .ref 33) (pc' := 117) d_M_send_114 rfl g_M_20 hO rfl ?_
              refine x_iload_n (pc' := 118) d_M_send_117 rfl rfl ?_
              refine x_aload_n (pc' := 119) d_M_send_118 rfl rfl ?_
              refine x_getfield (ci := 4) (i := 4) (v := .ref 33) (pc' := 122) d_M_send_119 rfl g_M_20 hO rfl ?_
              refine x_iload_n (pc' := 123) d_M_send_122 rfl rfl ?_
              refine x_laload (v := lN (sp_held (S.2 (1 - r)))) (pc' := 124) d_M_send_123 rfl g1 (vp_in_nI (by omega) (by decide)) (by rw [nI_clamp (by omega)]; exact g2 _ (by omega)) ?_
              refine x_lload (pc' := 126) d_M_send_124 rfl rfl rfl ?_
              refine x_lor (z := lN (sp_held (S.2 (1 - r)) ||| sp_rr S.1 c)) (pc' := 127) d_M_send_126 rfl (wb_or m64 c64) ?_
              refine x_lastore (h' := (h.set 33 (.inl (.long, 2, .inr (.inl (vp_updL g (nI (1 - r)).toNatClampNeg (lN (sp_held (S.2 (1 - r)) ||| sp_rr S.1 c)))))))) (pc' := 128) d_M_send_127 rfl g1 (vp_in_nI (by omega) (by decide)) rfl ?_
              refine x_aload_n (pc' := 129) d_M_send_128 rfl rfl ?_
              refine x_getfield (ci := 4) (i := 5) (v := .ref 34) (pc' := 132) d_M_send_129 rfl g_M_23 ((xl_ne (by decide)).trans hO) rfl ?_
              refine x_iconst (v := nI 4) (pc' := 133) d_M_send_132 rfl (by decide) ?_
              refine x_iload_n (pc' := 134) d_M_send_133 rfl rfl ?_
              refine x_imul (z := nI (4 * (1 - r))) (pc' := 135) d_M_send_134 rfl (pk_mul 4 (1 - r)) ?_
              refine x_iload_n (pc' := 136) d_M_send_135 rfl rfl ?_
              refine x_iadd (z := nI (4 * (1 - r) + b)) (pc' := 137) d_M_send_136 rfl (nI_add _ _) ?_
              refine x_aload_n (pc' := 138) d_M_send_137 rfl rfl ?_
              refine x_getfield (ci := 4) (i := 5) (v := .ref 34) (pc' := 141) d_M_send_138 rfl g_M_23 ((xl_ne (by decide)).trans hO) rfl ?_
              refine x_iconst (v := nI 4) (pc' := 142) d_M_send_141 rfl (by decide) ?_
              refine x_iload_n (pc' := 143) d_M_send_142 rfl rfl ?_
              refine x_imul (z := nI (4 * r)) (pc' := 144) d_M_send_143 rfl (pk_mul 4 r) ?_
              refine x_iload_n (pc' := 145) d_M_send_144 rfl rfl ?_
              refine x_iadd (z := nI (4 * r + b)) (pc' := 146) d_M_send_145 rfl (nI_add _ _) ?_
              refine x_iaload (v := nI c) (pc' := 147) d_M_send_146 rfl ((xl_ne (by decide)).trans t1) (vp_in_nI (by omega) (by decide)) (by rw [nI_clamp (by omega), t2 r hr b hb, h1]; rfl) ?_
              refine x_iastore (h' := ((h.set 33 (.inl (.long, 2, .inr (.inl (vp_updL g (nI (1 - r)).toNatClampNeg (lN (sp_held (S.2 (1 - r)) ||| sp_rr S.1 c))))))).set 34 (.inl (.int, 8, .inl (upd t (nI (4 * (1 - r) + b)).toNatClampNeg (sp_vi (some c))))))) (pc' := 148) d_M_send_147 rfl ((xl_ne (by decide)).trans t1) (vp_in_nI (by omega) (by decide)) rfl ?_
              refine x_iload (pc' := 150) d_M_send_148 rfl rfl ?_
              exact x_ireturn d_M_send_150 rfl rfl (x_q (by rw [xp_cnt_orx, Nat.add_sub_cancel_left]) (hQ _ (mh_of hM (mk_tip (r := 1 - r) (by omega) ((xl_ne (by decide)).trans t1) hb (some c) a1) ((xl_ne (by decide)).trans ((xl_ne (by decide)).trans hO)) (fun k z1 z2 => (xl_ne (by omega)).trans (xl_ne (by omega)))) (xl_tr (xl_set (by decide)) (xl_set (by decide)))))
