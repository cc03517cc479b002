/-! bitCount, collect, send. (Printed by c_v7.py.) -/
theorem wb_add (a b : Nat) : lN a + lN b = lN (a + b) := wb_inj (by
  show BitVec.ofNat 64 a + BitVec.ofNat 64 b = BitVec.ofNat 64 (a + b)
  rw [BitVec.ofNat_add])
theorem wb_sub {a b : Nat} (h : b ≤ a) : lN a - lN b = lN (a - b) := wb_inj (by
  show BitVec.ofNat 64 a - BitVec.ofNat 64 b = BitVec.ofNat 64 (a - b)
  obtain ⟨c, rfl⟩ := Nat.exists_eq_add_of_le h
  rw [Nat.add_comm b c, BitVec.ofNat_add, BitVec.add_sub_cancel, Nat.add_sub_cancel])
theorem wb_127 (n : Nat) : (lN n).toInt32 &&& 127 = nI (n % 128) := Int32.toBitVec_inj.mp (by
  show BitVec.signExtend 32 (BitVec.ofNat 64 n) &&& 127#32 = BitVec.ofNat 32 (n % 128)
  apply BitVec.eq_of_toNat_eq
  rw [BitVec.signExtend_eq_setWidth_of_le _ (by decide), BitVec.toNat_and, BitVec.toNat_setWidth, BitVec.toNat_ofNat, BitVec.toNat_ofNat, BitVec.toNat_ofNat]
  have e : (127 : Nat) % 2 ^ 32 = 2 ^ 7 - 1 := by decide
  rw [e, Nat.and_two_pow_sub_one_eq_mod]
  omega)
theorem xp_e85 : (6148914691236517205 : Int64) = lN (xp_m 85 8) := by decide +kernel
theorem xp_e51 : (3689348814741910323 : Int64) = lN (xp_m 51 8) := by decide +kernel
theorem xp_e15 : (1085102592571150095 : Int64) = lN (xp_m 15 8) := by decide +kernel
theorem xp_b85 : xp_m 85 8 < 2 ^ 64 := by decide +kernel
theorem xp_b51 : xp_m 51 8 < 2 ^ 62 := by decide +kernel
theorem xp_b15 : xp_m 15 8 < 2 ^ 64 := by decide +kernel
theorem xp_b1 {m : Nat} (h : m < 2 ^ 64) : xp_v1 8 m < 2 ^ 64 := Nat.lt_of_le_of_lt (Nat.sub_le _ _) h
theorem xp_b2 (m : Nat) : xp_v2 8 m < 2 ^ 63 := by
  unfold xp_v2
  have h1 : xp_v1 8 m &&& xp_m 51 8 ≤ xp_m 51 8 := Nat.and_le_right
  have h2 : xp_v1 8 m / 4 &&& xp_m 51 8 ≤ xp_m 51 8 := Nat.and_le_right
  have h3 := xp_b51
  omega
theorem xp_bit (x k : Nat) : x / 2 ^ k % 2 = (x.testBit k).toNat := by rw [Nat.testBit_eq_decide_div_mod_eq]; rcases Nat.mod_two_eq_zero_or_one (x / 2 ^ k) with h | h <;> rw [h] <;> rfl
theorem xp_cnt_andn (a b : Nat) : ∀ k, xp_cnt (a &&& (a ^^^ b)) k + xp_cnt (a &&& b) k = xp_cnt a k
  | 0 => rfl
  | k + 1 => by
    have ih := xp_cnt_andn a b k
    unfold xp_cnt
    rw [xp_bit, xp_bit, xp_bit, Nat.testBit_and, Nat.testBit_and, Nat.testBit_xor]
    have : ((a.testBit k && (a.testBit k ^^ b.testBit k)).toNat + (a.testBit k && b.testBit k).toNat) = (a.testBit k).toNat := by cases a.testBit k <;> cases b.testBit k <;> rfl
    omega
theorem xp_cnt_orx (a b : Nat) : ∀ k, xp_cnt (a ||| b) k = xp_cnt a k + xp_cnt (b &&& (b ^^^ a)) k
  | 0 => rfl
  | k + 1 => by
    have ih := xp_cnt_orx a b k
    unfold xp_cnt
    rw [xp_bit, xp_bit, xp_bit, Nat.testBit_or, Nat.testBit_and, Nat.testBit_xor]
    have : (a.testBit k || b.testBit k).toNat = (a.testBit k).toNat + (b.testBit k && (b.testBit k ^^ a.testBit k)).toNat := by cases a.testBit k <;> cases b.testBit k <;> rfl
    omega
theorem sp_nI_1r {r : Nat} (hr : r < 2) : nI 1 - nI r = nI (1 - r) := by
  rcases Nat.lt_or_eq_of_le (Nat.le_of_lt_succ hr) with h | h
  · rw [Nat.lt_one_iff.mp h]; decide
  · rw [h]; decide
theorem c_J_bitCount {L : Nat} {xs : Nat → Int32} {d : Nat} {h : xm_H} {Q : xm_Q} {m : Nat} (hm : m < 2 ^ 64) (hQ : Q (some (.int (nI (xp_cnt m 64)))) h) : xm_call L xs (d + 1) m_J_bitCount [.long (lN m)] h Q := by
  obtain ⟨v4, v5, v6, e4, e5, e6, b4, b5, b6, b3, e7⟩ := xp_fold m
  refine x_call (lo := [.long (lN m), .float 0]) (Nat.le_of_ble_eq_true rfl) rfl ?_
  refine x_lload_n (pc' := 1) d_J_bitCount_0 rfl rfl rfl ?_
  refine x_lload_n (pc' := 2) d_J_bitCount_1 rfl rfl rfl ?_
  refine x_iconst (v := nI 1) (pc' := 3) d_J_bitCount_2 rfl (by decide) ?_
  refine x_lushr (z := lN (m / 2)) (pc' := 4) d_J_bitCount_3 rfl (wb_shr (k := 1) hm (by decide)) ?_
  refine x_ldc2_w (x := 6148914691236517205) (pc' := 7) d_J_bitCount_4 rfl k_J_314 ?_
  refine x_land (z := lN (m / 2 &&& xp_m 85 8)) (pc' := 8) d_J_bitCount_7 rfl (by rw [xp_e85]; exact wb_and (Nat.lt_of_le_of_lt (Nat.div_le_self _ _) hm) xp_b85) ?_
  refine x_lsub (z := lN (xp_v1 8 m)) (pc' := 9) d_J_bitCount_8 rfl (wb_sub (Nat.le_trans Nat.and_le_left (Nat.div_le_self _ _))) ?_
  refine x_lstore_n (lo' := [.long (lN (xp_v1 8 m)), .float 0]) (pc' := 10) d_J_bitCount_9 rfl (Nat.le_of_ble_eq_true rfl) rfl ?_
  refine x_lload_n (pc' := 11) d_J_bitCount_10 rfl rfl rfl ?_
  refine x_ldc2_w (x := 3689348814741910323) (pc' := 14) d_J_bitCount_11 rfl k_J_316 ?_
  refine x_land (z := lN (xp_v1 8 m &&& xp_m 51 8)) (pc' := 15) d_J_bitCount_14 rfl (by rw [xp_e51]; exact wb_and (xp_b1 hm) (Nat.lt_trans xp_b51 (by decide))) ?_
  refine x_lload_n (pc' := 16) d_J_bitCount_15 rfl rfl rfl ?_
  refine x_iconst (v := nI 2) (pc' := 17) d_J_bitCount_16 rfl (by decide) ?_
  refine x_lushr (z := lN (xp_v1 8 m / 4)) (pc' := 18) d_J_bitCount_17 rfl (wb_shr (k := 2) (xp_b1 hm) (by decide)) ?_
  refine x_ldc2_w (x := 3689348814741910323) (pc' := 21) d_J_bitCount_18 rfl k_J_316 ?_
  refine x_land (z := lN (xp_v1 8 m / 4 &&& xp_m 51 8)) (pc' := 22) d_J_bitCount_21 rfl (by rw [xp_e51]; exact wb_and (Nat.lt_of_le_of_lt (Nat.div_le_self _ _) (xp_b1 hm)) (Nat.lt_trans xp_b51 (by decide))) ?_
  refine x_ladd (z := lN (xp_v2 8 m)) (pc' := 23) d_J_bitCount_22 rfl (wb_add _ _) ?_
  refine x_lstore_n (lo' := [.long (lN (xp_v2 8 m)), .float 0]) (pc' := 24) d_J_bitCount_23 rfl (Nat.le_of_ble_eq_true rfl) rfl ?_
  refine x_lload_n (pc' := 25) d_J_bitCount_24 rfl rfl rfl ?_
  refine x_lload_n (pc' := 26) d_J_bitCount_25 rfl rfl rfl ?_
  refine x_iconst (v := nI 4) (pc' := 27) d_J_bitCount_26 rfl (by decide) ?_
  refine x_lushr (z := lN (xp_v2 8 m / 16)) (pc' := 28) d_J_bitCount_27 rfl (wb_shr (k := 4) (Nat.lt_trans (xp_b2 m) (by decide)) (by decide)) ?_
  refine x_ladd (z := lN (xp_v2 8 m + xp_v2 8 m / 16)) (pc' := 29) d_J_bitCount_28 rfl (wb_add _ _) ?_
  refine x_ldc2_w (x := 1085102592571150095) (pc' := 32) d_J_bitCount_29 rfl k_J_318 ?_
  refine x_land (z := lN (xp_g 8 m)) (pc' := 33) d_J_bitCount_32 rfl (by rw [xp_e15, ← xp_s3 8 m]; exact wb_and (by have := xp_b2 m; omega) xp_b15) ?_
  refine x_lstore_n (lo' := [.long (lN (xp_g 8 m)), .float 0]) (pc' := 34) d_J_bitCount_33 rfl (Nat.le_of_ble_eq_true rfl) rfl ?_
  refine x_lload_n (pc' := 35) d_J_bitCount_34 rfl rfl rfl ?_
  refine x_lload_n (pc' := 36) d_J_bitCount_35 rfl rfl rfl ?_
  refine x_bipush (v := nI 8) (pc' := 38) d_J_bitCount_36 rfl (by decide) ?_
  refine x_lushr (z := lN (xp_g 8 m / 256)) (pc' := 39) d_J_bitCount_38 rfl (wb_shr (k := 8) (Nat.lt_trans b3 (by decide)) (by decide)) ?_
  refine x_ladd (z := lN v4) (pc' := 40) d_J_bitCount_39 rfl (by rw [wb_add, e4]) ?_
  refine x_lstore_n (lo' := [.long (lN v4), .float 0]) (pc' := 41) d_J_bitCount_40 rfl (Nat.le_of_ble_eq_true rfl) rfl ?_
  refine x_lload_n (pc' := 42) d_J_bitCount_41 rfl rfl rfl ?_
  refine x_lload_n (pc' := 43) d_J_bitCount_42 rfl rfl rfl ?_
  refine x_bipush (v := nI 16) (pc' := 45) d_J_bitCount_43 rfl (by decide) ?_
  refine x_lushr (z := lN (v4 / 65536)) (pc' := 46) d_J_bitCount_45 rfl (wb_shr (k := 16) (Nat.lt_trans b4 (by decide)) (by decide)) ?_
  refine x_ladd (z := lN v5) (pc' := 47) d_J_bitCount_46 rfl (by rw [wb_add, e5]) ?_
  refine x_lstore_n (lo' := [.long (lN v5), .float 0]) (pc' := 48) d_J_bitCount_47 rfl (Nat.le_of_ble_eq_true rfl) rfl ?_
  refine x_lload_n (pc' := 49) d_J_bitCount_48 rfl rfl rfl ?_
  refine x_lload_n (pc' := 50) d_J_bitCount_49 rfl rfl rfl ?_
  refine x_bipush (v := nI 32) (pc' := 52) d_J_bitCount_50 rfl (by decide) ?_
  refine x_lushr (z := lN (v5 / 4294967296)) (pc' := 53) d_J_bitCount_52 rfl (wb_shr (k := 32) (Nat.lt_trans b5 (by decide)) (by decide)) ?_
  refine x_ladd (z := lN v6) (pc' := 54) d_J_bitCount_53 rfl (by rw [wb_add, e6]) ?_
  refine x_lstore_n (lo' := [.long (lN v6), .float 0]) (pc' := 55) d_J_bitCount_54 rfl (Nat.le_of_ble_eq_true rfl) rfl ?_
  refine x_lload_n (pc' := 56) d_J_bitCount_55 rfl rfl rfl ?_
  refine x_l2i (z := (lN v6).toInt32) (pc' := 57) d_J_bitCount_56 rfl rfl ?_
  refine x_bipush (v := 127) (pc' := 59) d_J_bitCount_57 rfl (by decide) ?_
  refine x_iand (z := nI (xp_cnt m 64)) (pc' := 60) d_J_bitCount_59 rfl (by rw [wb_127, e7]) ?_
  exact x_ireturn d_J_bitCount_60 rfl rfl hQ
theorem c_V_collect_x {L : Nat} {xs : Nat → Int32} {d : Nat} {h : xm_H} {Q : xm_Q} {S : sp_S} (hV : ch_V h S) (hS : sp_WS S) {x : Int32} (hx : sp_in 2 x = none) (hQ : Q (some (.int (-1))) h) : xm_call L xs (d + 3) m_V_collect [.ref 0, .int x] h Q := by
  refine x_call (lo := [.ref 0, .int x, .float 0, .float 0, .float 0, .float 0]) (Nat.le_of_ble_eq_true rfl) rfl ?_
  refine x_iload_n (pc' := 1) d_V_collect_0 rfl rfl ?_
  refine x_static (as := [.int x]) (r := []) (v := (some (.int 0))) (h' := h) (st' := [.int 0]) (c' := 0) (s' := 0) (pc' := 4) d_V_collect_1 rfl c_V_30 rfl rfl (Nat.le_of_ble_eq_true rfl) (Nat.le_of_ble_eq_true rfl) (Nat.le_of_ble_eq_true rfl) (fun Q' hq => c_V_isRepository0 hx hq) rfl rfl rfl ?_
  refine x_ifne (t := 9) (pc' := 7) d_V_collect_4 rfl rfl (fun q => absurd rfl q) (fun _ => ?_)
  refine x_iconst (v := (-1)) (pc' := 8) d_V_collect_7 rfl (by decide) ?_
  exact x_ireturn d_V_collect_8 rfl rfl hQ
theorem c_V_collect_c {L : Nat} {xs : Nat → Int32} {d : Nat} {h : xm_H} {Q : xm_Q} {S : sp_S} (hV : ch_V h S) (hS : sp_WS S) {r : Nat} (hr : r < 2) (hQ : ∀ h', ch_V h' (sp_set S r (sp_tip (S.2 r), sp_cur (S.2 r), sp_held (S.2 r) &&& sp_all S.1 (S.2 r), sp_wk (S.2 r), sp_ix (S.2 r))) → xl_fr sp_V29 h h' → Q (some (.int (nI (xp_cnt (sp_held (S.2 r)) 64 - xp_cnt (sp_held (S.2 r) &&& sp_all S.1 (S.2 r)) 64)))) h') : xm_call L xs (d + 3) m_V_collect [.ref 0, .int (nI r)] h Q := by
  obtain ⟨g, hg, hg2⟩ := hV.2.1
  obtain ⟨a, ha7⟩ : ∃ a, a = 7 + 4 * r := ⟨_, rfl⟩
  have hR : ch_R h a (S.2 r) := by rw [ha7]; exact hV.2.2.2.1 r hr
  have hH := hV.2.2.1
  have hWR := hS.2 r hr
  obtain ⟨t, ht, ht2⟩ := hR.2.2.1
  have h40 := hS.1.1
  have hm : sp_held (S.2 r) < 2 ^ 64 := Nat.lt_of_lt_of_le hWR.2.2.1 (Nat.pow_le_pow_right (by decide) (by omega))
  have k0 : 0 < 2 ^ 64 := by decide
  have t0 := sp_WH_64 hS.1 (hWR.2.1 0 (by decide))
  have t1 := sp_WH_64 hS.1 (hWR.2.1 1 (by decide))
  have t2 := sp_WH_64 hS.1 (hWR.2.1 2 (by decide))
  have t3 := sp_WH_64 hS.1 (hWR.2.1 3 (by decide))
  have k1 := t0
  have k2 := Nat.or_lt_two_pow k1 t1
  have k3 := Nat.or_lt_two_pow k2 t2
  have k4 := Nat.or_lt_two_pow k3 t3
  have e9 : nI (xp_cnt (sp_held (S.2 r)) 64 - xp_cnt (sp_held (S.2 r) &&& sp_all S.1 (S.2 r)) 64) = nI (xp_cnt (sp_held (S.2 r) &&& (sp_held (S.2 r) ^^^ (sp_ro S.1 (sp_tip (S.2 r) 0) ||| sp_ro S.1 (sp_tip (S.2 r) 1) ||| sp_ro S.1 (sp_tip (S.2 r) 2) ||| sp_ro S.1 (sp_tip (S.2 r) 3)))) 64) := by
    have := xp_cnt_andn (sp_held (S.2 r)) (sp_all S.1 (S.2 r)) 64
    rw [← this, Nat.add_sub_cancel]
    rfl
  refine x_call (lo := [.ref 0, .int (nI r), .float 0, .float 0, .float 0, .float 0]) (Nat.le_of_ble_eq_true rfl) rfl ?_
  refine x_iload_n (pc' := 1) d_V_collect_0 rfl rfl ?_
  refine x_static (as := [.int (nI r)]) (r := []) (v := (some (.int 1))) (h' := h) (st' := [.int 1]) (c' := 0) (s' := 0) (pc' := 4) d_V_collect_1 rfl c_V_30 rfl rfl (Nat.le_of_ble_eq_true rfl) (Nat.le_of_ble_eq_true rfl) (Nat.le_of_ble_eq_true rfl) (fun Q' hq => c_V_isRepository1 hr hq) rfl rfl rfl ?_
  refine x_ifne (t := 9) (pc' := 7) d_V_collect_4 rfl rfl (fun _ => ?_) (fun q => absurd q (by decide))
  refine x_aload_n (pc' := 10) d_V_collect_9 rfl rfl ?_
  refine x_getfield (ci := 3) (i := 1) (v := .ref 6) (pc' := 13) d_V_collect_10 rfl g_V_18 hV.1 rfl ?_
  refine x_iload_n (pc' := 14) d_V_collect_13 rfl rfl ?_
  refine x_aaload (q := a) (pc' := 15) d_V_collect_14 rfl hg (Or.inr rfl) (vp_in_nI hr (by decide)) (by rw [nI_clamp (by omega), hg2 r hr, ha7]) ?_
  refine x_astore_n (lo' := [.ref 0, .int (nI r), .ref a, .float 0, .float 0, .float 0]) (pc' := 16) d_V_collect_15 rfl (Nat.le_of_ble_eq_true rfl) rfl ?_
  refine x_lconst (v := lN 0) (pc' := 17) d_V_collect_16 rfl (by decide) ?_
  refine x_lstore_n (lo' := [.ref 0, .int (nI r), .ref a, .long (lN 0), .float 0, .float 0]) (pc' := 18) d_V_collect_17 rfl (Nat.le_of_ble_eq_true rfl) rfl ?_
  refine x_iconst (v := nI 0) (pc' := 19) d_V_collect_18 rfl (by decide) ?_
  refine x_istore (lo' := [.ref 0, .int (nI r), .ref a, .long (lN 0), .float 0, .int (nI 0)]) (pc' := 21) d_V_collect_19 rfl (Nat.le_of_ble_eq_true rfl) rfl ?_
  refine x_iload (pc' := 23) d_V_collect_21 rfl rfl ?_
  refine x_iconst (v := nI 4) (pc' := 24) d_V_collect_23 rfl (by decide) ?_
  refine x_icmpge (t := 50) (pc' := 27) d_V_collect_24 rfl rfl (fun q => absurd q (nI_ge (by decide) (by decide))) (fun _ => ?_)
  refine x_lload_n (pc' := 28) d_V_collect_27 rfl rfl rfl ?_
  refine x_aload_n (pc' := 29) d_V_collect_28 rfl rfl ?_
  refine x_getfield (ci := 3) (i := 0) (v := .ref 1) (pc' := 32) d_V_collect_29 rfl g_V_10 hV.1 rfl ?_
  refine x_aload_n (pc' := 33) d_V_collect_32 rfl rfl ?_
  refine x_getfield (ci := 1) (i := 0) (v := .ref (a + 1)) (pc' := 36) d_V_collect_33 rfl g_V_72 hR.2.1 rfl ?_
  refine x_iload (pc' := 38) d_V_collect_36 rfl rfl ?_
  refine x_iaload (v := sp_vi (sp_tip (S.2 r) 0)) (pc' := 39) d_V_collect_38 rfl ht (vp_in_nI (by decide) (by decide)) (ht2 0 (by decide)) ?_
  refine x_virtual (a := 1) (as := [.int (sp_vi (sp_tip (S.2 r) 0))]) (r := [.long (lN 0)]) (v := (some (.long (lN (sp_ro S.1 (sp_tip (S.2 r) 0)))))) (h' := h) (st' := [.long (lN (sp_ro S.1 (sp_tip (S.2 r) 0))), .long (lN 0)]) (c' := 0) (s' := 0) (pc' := 42) d_V_collect_39 rfl c_V_68 hH.1.2 rfl rfl (Nat.le_of_ble_eq_true rfl) (Nat.le_of_ble_eq_true rfl) (Nat.le_of_ble_eq_true rfl) (fun Q' hq => c_H_reachOf hH (hWR.2.1 0 (by decide)) hq) rfl rfl rfl ?_
  refine x_lor (z := lN (sp_ro S.1 (sp_tip (S.2 r) 0))) (pc' := 43) d_V_collect_42 rfl (by rw [wb_or k0 t0, Nat.zero_or]) ?_
  refine x_lstore_n (lo' := [.ref 0, .int (nI r), .ref a, .long (lN (sp_ro S.1 (sp_tip (S.2 r) 0))), .float 0, .int (nI 0)]) (pc' := 44) d_V_collect_43 rfl (Nat.le_of_ble_eq_true rfl) rfl ?_
  refine x_iinc (y := nI 1) (lo' := [.ref 0, .int (nI r), .ref a, .long (lN (sp_ro S.1 (sp_tip (S.2 r) 0))), .float 0, .int (nI 1)]) (pc' := 47) d_V_collect_44 rfl rfl (sp_nI_inc 0) rfl ?_
  refine x_goto (t := 21) d_V_collect_47 rfl ?_
  refine x_iload (pc' := 23) d_V_collect_21 rfl rfl ?_
  refine x_iconst (v := nI 4) (pc' := 24) d_V_collect_23 rfl (by decide) ?_
  refine x_icmpge (t := 50) (pc' := 27) d_V_collect_24 rfl rfl (fun q => absurd q (nI_ge (by decide) (by decide))) (fun _ => ?_)
  refine x_lload_n (pc' := 28) d_V_collect_27 rfl rfl rfl ?_
  refine x_aload_n (pc' := 29) d_V_collect_28 rfl rfl ?_
  refine x_getfield (ci := 3) (i := 0) (v := .ref 1) (pc' := 32) d_V_collect_29 rfl g_V_10 hV.1 rfl ?_
  refine x_aload_n (pc' := 33) d_V_collect_32 rfl rfl ?_
  refine x_getfield (ci := 1) (i := 0) (v := .ref (a + 1)) (pc' := 36) d_V_collect_33 rfl g_V_72 hR.2.1 rfl ?_
  refine x_iload (pc' := 38) d_V_collect_36 rfl rfl ?_
  refine x_iaload (v := sp_vi (sp_tip (S.2 r) 1)) (pc' := 39) d_V_collect_38 rfl ht (vp_in_nI (by decide) (by decide)) (ht2 1 (by decide)) ?_
  refine x_virtual (a := 1) (as := [.int (sp_vi (sp_tip (S.2 r) 1))]) (r := [.long (lN (sp_ro S.1 (sp_tip (S.2 r) 0)))]) (v := (some (.long (lN (sp_ro S.1 (sp_tip (S.2 r) 1)))))) (h' := h) (st' := [.long (lN (sp_ro S.1 (sp_tip (S.2 r) 1))), .long (lN (sp_ro S.1 (sp_tip (S.2 r) 0)))]) (c' := 0) (s' := 0) (pc' := 42) d_V_collect_39 rfl c_V_68 hH.1.2 rfl rfl (Nat.le_of_ble_eq_true rfl) (Nat.le_of_ble_eq_true rfl) (Nat.le_of_ble_eq_true rfl) (fun Q' hq => c_H_reachOf hH (hWR.2.1 1 (by decide)) hq) rfl rfl rfl ?_
  refine x_lor (z := lN (sp_ro S.1 (sp_tip (S.2 r) 0) ||| sp_ro S.1 (sp_tip (S.2 r) 1))) (pc' := 43) d_V_collect_42 rfl (by rw [wb_or k1 t1]) ?_
  refine x_lstore_n (lo' := [.ref 0, .int (nI r), .ref a, .long (lN (sp_ro S.1 (sp_tip (S.2 r) 0) ||| sp_ro S.1 (sp_tip (S.2 r) 1))), .float 0, .int (nI 1)]) (pc' := 44) d_V_collect_43 rfl (Nat.le_of_ble_eq_true rfl) rfl ?_
  refine x_iinc (y := nI 2) (lo' := [.ref 0, .int (nI r), .ref a, .long (lN (sp_ro S.1 (sp_tip (S.2 r) 0) ||| sp_ro S.1 (sp_tip (S.2 r) 1))), .float 0, .int (nI 2)]) (pc' := 47) d_V_collect_44 rfl rfl (sp_nI_inc 1) rfl ?_
  refine x_goto (t := 21) d_V_collect_47 rfl ?_
  refine x_iload (pc' := 23) d_V_collect_21 rfl rfl ?_
  refine x_iconst (v := nI 4) (pc' := 24) d_V_collect_23 rfl (by decide) ?_
  refine x_icmpge (t := 50) (pc' := 27) d_V_collect_24 rfl rfl (fun q => absurd q (nI_ge (by decide) (by decide))) (fun _ => ?_)
  refine x_lload_n (pc' := 28) d_V_collect_27 rfl rfl rfl ?_
  refine x_aload_n (pc' := 29) d_V_collect_28 rfl rfl ?_
  refine x_getfield (ci := 3) (i := 0) (v := .ref 1) (pc' := 32) d_V_collect_29 rfl g_V_10 hV.1 rfl ?_
  refine x_aload_n (pc' := 33) d_V_collect_32 rfl rfl ?_
  refine x_getfield (ci := 1) (i := 0) (v := .ref (a + 1)) (pc' := 36) d_V_collect_33 rfl g_V_72 hR.2.1 rfl ?_
  refine x_iload (pc' := 38) d_V_collect_36 rfl rfl ?_
  refine x_iaload (v := sp_vi (sp_tip (S.2 r) 2)) (pc' := 39) d_V_collect_38 rfl ht (vp_in_nI (by decide) (by decide)) (ht2 2 (by decide)) ?_
  refine x_virtual (a := 1) (as := [.int (sp_vi (sp_tip (S.2 r) 2))]) (r := [.long (lN (sp_ro S.1 (sp_tip (S.2 r) 0) ||| sp_ro S.1 (sp_tip (S.2 r) 1)))]) (v := (some (.long (lN (sp_ro S.1 (sp_tip (S.2 r) 2)))))) (h' := h) (st' := [.long (lN (sp_ro S.1 (sp_tip (S.2 r) 2))), .long (lN (sp_ro S.1 (sp_tip (S.2 r) 0) ||| sp_ro S.1 (sp_tip (S.2 r) 1)))]) (c' := 0) (s' := 0) (pc' := 42) d_V_collect_39 rfl c_V_68 hH.1.2 rfl rfl (Nat.le_of_ble_eq_true rfl) (Nat.le_of_ble_eq_true rfl) (Nat.le_of_ble_eq_true rfl) (fun Q' hq => c_H_reachOf hH (hWR.2.1 2 (by decide)) hq) rfl rfl rfl ?_
  refine x_lor (z := lN (sp_ro S.1 (sp_tip (S.2 r) 0) ||| sp_ro S.1 (sp_tip (S.2 r) 1) ||| sp_ro S.1 (sp_tip (S.2 r) 2))) (pc' := 43) d_V_collect_42 rfl (by rw [wb_or k2 t2]) ?_
  refine x_lstore_n (lo' := [.ref 0, .int (nI r), .ref a, .long (lN (sp_ro S.1 (sp_tip (S.2 r) 0) ||| sp_ro S.1 (sp_tip (S.2 r) 1) ||| sp_ro S.1 (sp_tip (S.2 r) 2))), .float 0, .int (nI 2)]) (pc' := 44) d_V_collect_43 rfl (Nat.le_of_ble_eq_true rfl) rfl ?_
  refine x_iinc (y := nI 3) (lo' := [.ref 0, .int (nI r), .ref a, .long (lN (sp_ro S.1 (sp_tip (S.2 r) 0) ||| sp_ro S.1 (sp_tip (S.2 r) 1) ||| sp_ro S.1 (sp_tip (S.2 r) 2))), .float 0, .int (nI 3)]) (pc' := 47) d_V_collect_44 rfl rfl (sp_nI_inc 2) rfl ?_
  refine x_goto (t := 21) d_V_collect_47 rfl ?_
  refine x_iload (pc' := 23) d_V_collect_21 rfl rfl ?_
  refine x_iconst (v := nI 4) (pc' := 24) d_V_collect_23 rfl (by decide) ?_
  refine x_icmpge (t := 50) (pc' := 27) d_V_collect_24 rfl rfl (fun q => absurd q (nI_ge (by decide) (by decide))) (fun _ => ?_)
  refine x_lload_n (pc' := 28) d_V_collect_27 rfl rfl rfl ?_
  refine x_aload_n (pc' := 29) d_V_collect_28 rfl rfl ?_
  refine x_getfield (ci := 3) (i := 0) (v := .ref 1) (pc' := 32) d_V_collect_29 rfl g_V_10 hV.1 rfl ?_
  refine x_aload_n (pc' := 33) d_V_collect_32 rfl rfl ?_
  refine x_getfield (ci := 1) (i := 0) (v := .ref (a + 1)) (pc' := 36) d_V_collect_33 rfl g_V_72 hR.2.1 rfl ?_
  refine x_iload (pc' := 38) d_V_collect_36 rfl rfl ?_
  refine x_iaload (v := sp_vi (sp_tip (S.2 r) 3)) (pc' := 39) d_V_collect_38 rfl ht (vp_in_nI (by decide) (by decide)) (ht2 3 (by decide)) ?_
  refine x_virtual (a := 1) (as := [.int (sp_vi (sp_tip (S.2 r) 3))]) (r := [.long (lN (sp_ro S.1 (sp_tip (S.2 r) 0) ||| sp_ro S.1 (sp_tip (S.2 r) 1) ||| sp_ro S.1 (sp_tip (S.2 r) 2)))]) (v := (some (.long (lN (sp_ro S.1 (sp_tip (S.2 r) 3)))))) (h' := h) (st' := [.long (lN (sp_ro S.1 (sp_tip (S.2 r) 3))), .long (lN (sp_ro S.1 (sp_tip (S.2 r) 0) ||| sp_ro S.1 (sp_tip (S.2 r) 1) ||| sp_ro S.1 (sp_tip (S.2 r) 2)))]) (c' := 0) (s' := 0) (pc' := 42) d_V_collect_39 rfl c_V_68 hH.1.2 rfl rfl (Nat.le_of_ble_eq_true rfl) (Nat.le_of_ble_eq_true rfl) (Nat.le_of_ble_eq_true rfl) (fun Q' hq => c_H_reachOf hH (hWR.2.1 3 (by decide)) hq) rfl rfl rfl ?_
  refine x_lor (z := lN (sp_ro S.1 (sp_tip (S.2 r) 0) ||| sp_ro S.1 (sp_tip (S.2 r) 1) ||| sp_ro S.1 (sp_tip (S.2 r) 2) ||| sp_ro S.1 (sp_tip (S.2 r) 3))) (pc' := 43) d_V_collect_42 rfl (by rw [wb_or k3 t3]) ?_
  refine x_lstore_n (lo' := [.ref 0, .int (nI r), .ref a, .long (lN (sp_ro S.1 (sp_tip (S.2 r) 0) ||| sp_ro S.1 (sp_tip (S.2 r) 1) ||| sp_ro S.1 (sp_tip (S.2 r) 2) ||| sp_ro S.1 (sp_tip (S.2 r) 3))), .float 0, .int (nI 3)]) (pc' := 44) d_V_collect_43 rfl (Nat.le_of_ble_eq_true rfl) rfl ?_
  refine x_iinc (y := nI 4) (lo' := [.ref 0, .int (nI r), .ref a, .long (lN (sp_ro S.1 (sp_tip (S.2 r) 0) ||| sp_ro S.1 (sp_tip (S.2 r) 1) ||| sp_ro S.1 (sp_tip (S.2 r) 2) ||| sp_ro S.1 (sp_tip (S.2 r) 3))), .float 0, .int (nI 4)]) (pc' := 47) d_V_collect_44 rfl rfl (sp_nI_inc 3) rfl ?_
  refine x_goto (t := 21) d_V_collect_47 rfl ?_
  refine x_iload (pc' := 23) d_V_collect_21 rfl rfl ?_
  refine x_iconst (v := nI 4) (pc' := 24) d_V_collect_23 rfl (by decide) ?_
  refine x_icmpge (t := 50) (pc' := 27) d_V_collect_24 rfl rfl (fun _ => ?_) (fun q => absurd (nI_le (Nat.le_refl _) (by decide)) q)
  refine x_aload_n (pc' := 51) d_V_collect_50 rfl rfl ?_
  refine x_getfield (ci := 1) (i := 3) (v := .long (lN (sp_held (S.2 r)))) (pc' := 54) d_V_collect_51 rfl g_V_64 hR.2.1 rfl ?_
  refine x_lload_n (pc' := 55) d_V_collect_54 rfl rfl rfl ?_
  refine x_ldc2_w (x := (-1)) (pc' := 58) d_V_collect_55 rfl k_V_109 ?_
  refine x_lxor (z := (lN (sp_ro S.1 (sp_tip (S.2 r) 0) ||| sp_ro S.1 (sp_tip (S.2 r) 1) ||| sp_ro S.1 (sp_tip (S.2 r) 2) ||| sp_ro S.1 (sp_tip (S.2 r) 3))) ^^^ (-1)) (pc' := 59) d_V_collect_58 rfl rfl ?_
  refine x_land (z := lN (sp_held (S.2 r) &&& (sp_held (S.2 r) ^^^ (sp_ro S.1 (sp_tip (S.2 r) 0) ||| sp_ro S.1 (sp_tip (S.2 r) 1) ||| sp_ro S.1 (sp_tip (S.2 r) 2) ||| sp_ro S.1 (sp_tip (S.2 r) 3))))) (pc' := 60) d_V_collect_59 rfl wb_andn ?_
  refine x_static (as := [.long (lN (sp_held (S.2 r) &&& (sp_held (S.2 r) ^^^ (sp_ro S.1 (sp_tip (S.2 r) 0) ||| sp_ro S.1 (sp_tip (S.2 r) 1) ||| sp_ro S.1 (sp_tip (S.2 r) 2) ||| sp_ro S.1 (sp_tip (S.2 r) 3)))))]) (r := []) (v := (some (.int (nI (xp_cnt (sp_held (S.2 r) &&& (sp_held (S.2 r) ^^^ (sp_ro S.1 (sp_tip (S.2 r) 0) ||| sp_ro S.1 (sp_tip (S.2 r) 1) ||| sp_ro S.1 (sp_tip (S.2 r) 2) ||| sp_ro S.1 (sp_tip (S.2 r) 3)))) 64))))) (h' := h) (st' := [.int (nI (xp_cnt (sp_held (S.2 r) &&& (sp_held (S.2 r) ^^^ (sp_ro S.1 (sp_tip (S.2 r) 0) ||| sp_ro S.1 (sp_tip (S.2 r) 1) ||| sp_ro S.1 (sp_tip (S.2 r) 2) ||| sp_ro S.1 (sp_tip (S.2 r) 3)))) 64))]) (c' := 0) (s' := 0) (pc' := 63) d_V_collect_60 rfl c_V_122 rfl rfl (Nat.le_of_ble_eq_true rfl) (Nat.le_of_ble_eq_true rfl) (Nat.le_of_ble_eq_true rfl) (fun Q' hq => c_J_bitCount (Nat.lt_of_le_of_lt Nat.and_le_left hm) hq) rfl rfl rfl ?_
  refine x_istore (lo' := [.ref 0, .int (nI r), .ref a, .long (lN (sp_ro S.1 (sp_tip (S.2 r) 0) ||| sp_ro S.1 (sp_tip (S.2 r) 1) ||| sp_ro S.1 (sp_tip (S.2 r) 2) ||| sp_ro S.1 (sp_tip (S.2 r) 3))), .float 0, .int (nI (xp_cnt (sp_held (S.2 r) &&& (sp_held (S.2 r) ^^^ (sp_ro S.1 (sp_tip (S.2 r) 0) ||| sp_ro S.1 (sp_tip (S.2 r) 1) ||| sp_ro S.1 (sp_tip (S.2 r) 2) ||| sp_ro S.1 (sp_tip (S.2 r) 3)))) 64))]) (pc' := 65) d_V_collect_63 rfl (Nat.le_of_ble_eq_true rfl) rfl ?_
  refine x_aload_n (pc' := 66) d_V_collect_65 rfl rfl ?_
  refine x_dup (pc' := 67) d_V_collect_66 rfl rfl ?_
  refine x_getfield (ci := 1) (i := 3) (v := .long (lN (sp_held (S.2 r)))) (pc' := 70) d_V_collect_67 rfl g_V_64 hR.2.1 rfl ?_
  refine x_lload_n (pc' := 71) d_V_collect_70 rfl rfl rfl ?_
  refine x_land (z := lN (sp_held (S.2 r) &&& (sp_ro S.1 (sp_tip (S.2 r) 0) ||| sp_ro S.1 (sp_tip (S.2 r) 1) ||| sp_ro S.1 (sp_tip (S.2 r) 2) ||| sp_ro S.1 (sp_tip (S.2 r) 3)))) (pc' := 72) d_V_collect_71 rfl (wb_and hm k4) ?_
  refine x_putfield (ci := 1) (i := 3) (h' := (h.set a (.inr (1, [.ref (a + 1), .ref (a + 2), .ref (a + 3), .long (lN (sp_held (S.2 r) &&& (sp_ro S.1 (sp_tip (S.2 r) 0) ||| sp_ro S.1 (sp_tip (S.2 r) 1) ||| sp_ro S.1 (sp_tip (S.2 r) 2) ||| sp_ro S.1 (sp_tip (S.2 r) 3)))), .int (nI (sp_cur (S.2 r)))])))) (pc' := 75) d_V_collect_72 rfl (p_V_64 _ rfl) hR.2.1 (Nat.le_of_ble_eq_true rfl) rfl rfl rfl ?_
  refine x_iload (pc' := 77) d_V_collect_75 rfl rfl ?_
  exact x_ireturn d_V_collect_77 rfl rfl (x_q e9 (hQ _ (ch_V_rep hV hr (xl_set ⟨by omega, by omega⟩) (by rw [← ha7]; exact ch_R_obj hR hWR.1)) (xl_set (by show _ < 29; omega))))
theorem c_V_collect {L : Nat} {xs : Nat → Int32} {d : Nat} {h : xm_H} {Q : xm_Q} {S : sp_S} (hV : ch_V h S) (hS : sp_WS S) {x : Int32} (hQ : ∀ h', ch_V h' (sp_collect S x).2 → xl_fr sp_V29 h h' → Q (some (.int (sp_collect S x).1)) h') : xm_call L xs (d + 3) m_V_collect [.ref 0, .int x] h Q := by
  have key : ∀ z, sp_collect S x = (z, S) → Q (some (.int z)) h := fun z e9 => by
    rw [e9] at hQ
    exact hQ h hV xl_rf
  rcases sp_in_cases 2 (by decide) x with ⟨_, e⟩ | ⟨_, _, e⟩ | ⟨r, hr, rfl, e⟩
  · exact c_V_collect_x hV hS e (key _ (by unfold sp_collect; rw [e]))
  · exact c_V_collect_x hV hS e (key _ (by unfold sp_collect; rw [e]))
  · have e9 : sp_collect S (nI r) = (nI (xp_cnt (sp_held (S.2 r)) 64 - xp_cnt (sp_held (S.2 r) &&& sp_all S.1 (S.2 r)) 64), sp_set S r (sp_tip (S.2 r), sp_cur (S.2 r), sp_held (S.2 r) &&& sp_all S.1 (S.2 r), sp_wk (S.2 r), sp_ix (S.2 r))) := by unfold sp_collect; rw [e]
    rw [e9] at hQ
    exact c_V_collect_c hV hS hr hQ
theorem c_V_send_x {L : Nat} {xs : Nat → Int32} {d : Nat} {h : xm_H} {Q : xm_Q} {S : sp_S} (hV : ch_V h S) (hS : sp_WS S) {x y : Int32} (hx : sp_in 2 x = none) (hQ : Q (some (.int (-1))) h) : xm_call L xs (d + 4) m_V_send [.ref 0, .int x, .int y] h Q := by
  refine x_call (lo := [.ref 0, .int x, .int y, .float 0, .float 0, .float 0, .float 0]) (Nat.le_of_ble_eq_true rfl) rfl ?_
  refine x_iload_n (pc' := 1) d_V_send_0 rfl rfl ?_
  refine x_static (as := [.int x]) (r := []) (v := (some (.int 0))) (h' := h) (st' := [.int 0]) (c' := 0) (s' := 0) (pc' := 4) d_V_send_1 rfl c_V_30 rfl rfl (Nat.le_of_ble_eq_true rfl) (Nat.le_of_ble_eq_true rfl) (Nat.le_of_ble_eq_true rfl) (fun Q' hq => c_V_isRepository0 hx hq) rfl rfl rfl ?_
  refine x_ifeq (t := 14) (pc' := 7) d_V_send_4 rfl rfl (fun _ => ?_) (fun q => absurd rfl q)
  refine x_iconst (v := (-1)) (pc' := 15) d_V_send_14 rfl (by decide) ?_
  exact x_ireturn d_V_send_15 rfl rfl hQ
theorem c_V_send_y {L : Nat} {xs : Nat → Int32} {d : Nat} {h : xm_H} {Q : xm_Q} {S : sp_S} (hV : ch_V h S) (hS : sp_WS S) {r : Nat} {y : Int32} (hr : r < 2) (hy : sp_in 4 y = none) (hQ : Q (some (.int (-1))) h) : xm_call L xs (d + 4) m_V_send [.ref 0, .int (nI r), .int y] h Q := by
  refine x_call (lo := [.ref 0, .int (nI r), .int y, .float 0, .float 0, .float 0, .float 0]) (Nat.le_of_ble_eq_true rfl) rfl ?_
  refine x_iload_n (pc' := 1) d_V_send_0 rfl rfl ?_
  refine x_static (as := [.int (nI r)]) (r := []) (v := (some (.int 1))) (h' := h) (st' := [.int 1]) (c' := 0) (s' := 0) (pc' := 4) d_V_send_1 rfl c_V_30 rfl rfl (Nat.le_of_ble_eq_true rfl) (Nat.le_of_ble_eq_true rfl) (Nat.le_of_ble_eq_true rfl) (fun Q' hq => c_V_isRepository1 hr hq) rfl rfl rfl ?_
  refine x_ifeq (t := 14) (pc' := 7) d_V_send_4 rfl rfl (fun q => absurd q (by decide)) (fun _ => ?_)
  refine x_iload_n (pc' := 8) d_V_send_7 rfl rfl ?_
  refine x_static (as := [.int y]) (r := []) (v := (some (.int 0))) (h' := h) (st' := [.int 0]) (c' := 0) (s' := 0) (pc' := 11) d_V_send_8 rfl c_V_80 rfl rfl (Nat.le_of_ble_eq_true rfl) (Nat.le_of_ble_eq_true rfl) (Nat.le_of_ble_eq_true rfl) (fun Q' hq => c_V_isBranch0 hy hq) rfl rfl rfl ?_
  refine x_ifne (t := 16) (pc' := 14) d_V_send_11 rfl rfl (fun q => absurd rfl q) (fun _ => ?_)
  refine x_iconst (v := (-1)) (pc' := 15) d_V_send_14 rfl (by decide) ?_
  exact x_ireturn d_V_send_15 rfl rfl hQ
theorem c_V_send_t {L : Nat} {xs : Nat → Int32} {d : Nat} {h : xm_H} {Q : xm_Q} {S : sp_S} (hV : ch_V h S) (hS : sp_WS S) {r b : Nat} (hr : r < 2) (hb : b < 4) (hn : sp_tip (S.2 r) b = none) (hQ : Q (some (.int (-2))) h) : xm_call L xs (d + 4) m_V_send [.ref 0, .int (nI r), .int (nI b)] h Q := by
  obtain ⟨g, hg, hg2⟩ := hV.2.1
  obtain ⟨a, ha7⟩ : ∃ a, a = 7 + 4 * r := ⟨_, rfl⟩
  have hR : ch_R h a (S.2 r) := by rw [ha7]; exact hV.2.2.2.1 r hr
  have hH := hV.2.2.1
  have hWR := hS.2 r hr
  obtain ⟨t, ht, ht2⟩ := hR.2.2.1
  refine x_call (lo := [.ref 0, .int (nI r), .int (nI b), .float 0, .float 0, .float 0, .float 0]) (Nat.le_of_ble_eq_true rfl) rfl ?_
  refine x_iload_n (pc' := 1) d_V_send_0 rfl rfl ?_
  refine x_static (as := [.int (nI r)]) (r := []) (v := (some (.int 1))) (h' := h) (st' := [.int 1]) (c' := 0) (s' := 0) (pc' := 4) d_V_send_1 rfl c_V_30 rfl rfl (Nat.le_of_ble_eq_true rfl) (Nat.le_of_ble_eq_true rfl) (Nat.le_of_ble_eq_true rfl) (fun Q' hq => c_V_isRepository1 hr hq) rfl rfl rfl ?_
  refine x_ifeq (t := 14) (pc' := 7) d_V_send_4 rfl rfl (fun q => absurd q (by decide)) (fun _ => ?_)
  refine x_iload_n (pc' := 8) d_V_send_7 rfl rfl ?_
  refine x_static (as := [.int (nI b)]) (r := []) (v := (some (.int 1))) (h' := h) (st' := [.int 1]) (c' := 0) (s' := 0) (pc' := 11) d_V_send_8 rfl c_V_80 rfl rfl (Nat.le_of_ble_eq_true rfl) (Nat.le_of_ble_eq_true rfl) (Nat.le_of_ble_eq_true rfl) (fun Q' hq => c_V_isBranch1 hb hq) rfl rfl rfl ?_
  refine x_ifne (t := 16) (pc' := 14) d_V_send_11 rfl rfl (fun _ => ?_) (fun q => absurd q (by decide))
  refine x_aload_n (pc' := 17) d_V_send_16 rfl rfl ?_
  refine x_getfield (ci := 3) (i := 1) (v := .ref 6) (pc' := 20) d_V_send_17 rfl g_V_18 hV.1 rfl ?_
  refine x_iload_n (pc' := 21) d_V_send_20 rfl rfl ?_
  refine x_aaload (q := a) (pc' := 22) d_V_send_21 rfl hg (Or.inr rfl) (vp_in_nI hr (by decide)) (by rw [nI_clamp (by omega), hg2 r hr, ha7]) ?_
  refine x_getfield (ci := 1) (i := 0) (v := .ref (a + 1)) (pc' := 25) d_V_send_22 rfl g_V_72 hR.2.1 rfl ?_
  refine x_iload_n (pc' := 26) d_V_send_25 rfl rfl ?_
  refine x_iaload (v := sp_vi (sp_tip (S.2 r) b)) (pc' := 27) d_V_send_26 rfl ht (vp_in_nI hb (by decide)) (by rw [nI_clamp (by omega), ht2 b hb]) ?_
  refine x_istore_n (lo' := [.ref 0, .int (nI r), .int (nI b), .int (sp_vi (sp_tip (S.2 r) b)), .float 0, .float 0, .float 0]) (pc' := 28) d_V_send_27 rfl (Nat.le_of_ble_eq_true rfl) rfl ?_
  refine x_iload_n (pc' := 29) d_V_send_28 rfl rfl ?_
  refine x_bipush (v := (-2)) (pc' := 31) d_V_send_29 rfl (by decide) ?_
  refine x_icmpne (t := 37) (pc' := 34) d_V_send_31 rfl rfl (fun q => absurd (by rw [hn]; rfl) q) (fun _ => ?_)
  refine x_bipush (v := (-2)) (pc' := 36) d_V_send_34 rfl (by decide) ?_
  exact x_ireturn d_V_send_36 rfl rfl hQ
theorem c_V_send_d {L : Nat} {xs : Nat → Int32} {d : Nat} {h : xm_H} {Q : xm_Q} {S : sp_S} (hV : ch_V h S) (hS : sp_WS S) {r b c : Nat} (hr : r < 2) (hb : b < 4) (hn : sp_tip (S.2 r) b = some c) (h3 : sp_cur (S.2 (1 - r)) = b) (hQ : Q (some (.int (-3))) h) : xm_call L xs (d + 4) m_V_send [.ref 0, .int (nI r), .int (nI b)] h Q := by
  obtain ⟨g, hg, hg2⟩ := hV.2.1
  obtain ⟨a, ha7⟩ : ∃ a, a = 7 + 4 * r := ⟨_, rfl⟩
  have hR : ch_R h a (S.2 r) := by rw [ha7]; exact hV.2.2.2.1 r hr
  have hH := hV.2.2.1
  have hWR := hS.2 r hr
  obtain ⟨t, ht, ht2⟩ := hR.2.2.1
  have h40 := hS.1.1
  have hc : c < sp_n S.1 := hWR.2.1 b hb c hn
  obtain ⟨e, he7⟩ : ∃ e, e = 7 + 4 * (1 - r) := ⟨_, rfl⟩
  have hE : ch_R h e (S.2 (1 - r)) := by rw [he7]; exact hV.2.2.2.1 (1 - r) (by omega)
  have hWE := hS.2 (1 - r) (by omega)
  obtain ⟨i, hi, hi2⟩ := hE.2.2.1
  refine x_call (lo := [.ref 0, .int (nI r), .int (nI b), .float 0, .float 0, .float 0, .float 0]) (Nat.le_of_ble_eq_true rfl) rfl ?_
  refine x_iload_n (pc' := 1) d_V_send_0 rfl rfl ?_
  refine x_static (as := [.int (nI r)]) (r := []) (v := (some (.int 1))) (h' := h) (st' := [.int 1]) (c' := 0) (s' := 0) (pc' := 4) d_V_send_1 rfl c_V_30 rfl rfl (Nat.le_of_ble_eq_true rfl) (Nat.le_of_ble_eq_true rfl) (Nat.le_of_ble_eq_true rfl) (fun Q' hq => c_V_isRepository1 hr hq) rfl rfl rfl ?_
  refine x_ifeq (t := 14) (pc' := 7) d_V_send_4 rfl rfl (fun q => absurd q (by decide)) (fun _ => ?_)
  refine x_iload_n (pc' := 8) d_V_send_7 rfl rfl ?_
  refine x_static (as := [.int (nI b)]) (r := []) (v := (some (.int 1))) (h' := h) (st' := [.int 1]) (c' := 0) (s' := 0) (pc' := 11) d_V_send_8 rfl c_V_80 rfl rfl (Nat.le_of_ble_eq_true rfl) (Nat.le_of_ble_eq_true rfl) (Nat.le_of_ble_eq_true rfl) (fun Q' hq => c_V_isBranch1 hb hq) rfl rfl rfl ?_
  refine x_ifne (t := 16) (pc' := 14) d_V_send_11 rfl rfl (fun _ => ?_) (fun q => absurd q (by decide))
  refine x_aload_n (pc' := 17) d_V_send_16 rfl rfl ?_
  refine x_getfield (ci := 3) (i := 1) (v := .ref 6) (pc' := 20) d_V_send_17 rfl g_V_18 hV.1 rfl ?_
  refine x_iload_n (pc' := 21) d_V_send_20 rfl rfl ?_
  refine x_aaload (q := a) (pc' := 22) d_V_send_21 rfl hg (Or.inr rfl) (vp_in_nI hr (by decide)) (by rw [nI_clamp (by omega), hg2 r hr, ha7]) ?_
  refine x_getfield (ci := 1) (i := 0) (v := .ref (a + 1)) (pc' := 25) d_V_send_22 rfl g_V_72 hR.2.1 rfl ?_
  refine x_iload_n (pc' := 26) d_V_send_25 rfl rfl ?_
  refine x_iaload (v := nI c) (pc' := 27) d_V_send_26 rfl ht (vp_in_nI hb (by decide)) (by rw [nI_clamp (by omega), ht2 b hb, hn]; rfl) ?_
  refine x_istore_n (lo' := [.ref 0, .int (nI r), .int (nI b), .int (nI c), .float 0, .float 0, .float 0]) (pc' := 28) d_V_send_27 rfl (Nat.le_of_ble_eq_true rfl) rfl ?_
  refine x_iload_n (pc' := 29) d_V_send_28 rfl rfl ?_
  refine x_bipush (v := (-2)) (pc' := 31) d_V_send_29 rfl (by decide) ?_
  refine x_icmpne (t := 37) (pc' := 34) d_V_send_31 rfl rfl (fun _ => ?_) (fun q => absurd q (sp_nI_ne2 (by omega)))
  refine x_aload_n (pc' := 38) d_V_send_37 rfl rfl ?_
  refine x_getfield (ci := 3) (i := 1) (v := .ref 6) (pc' := 41) d_V_send_38 rfl g_V_18 hV.1 rfl ?_
  refine x_iconst (v := nI 1) (pc' := 42) d_V_send_41 rfl (by decide) ?_
  refine x_iload_n (pc' := 43) d_V_send_42 rfl rfl ?_
  refine x_isub (z := nI (1 - r)) (pc' := 44) d_V_send_43 rfl (sp_nI_1r hr) ?_
  refine x_aaload (q := e) (pc' := 45) d_V_send_44 rfl hg (Or.inr rfl) (vp_in_nI (by omega) (by decide)) (by rw [nI_clamp (by omega), hg2 (1 - r) (by omega), he7]) ?_
  refine x_astore (lo' := [.ref 0, .int (nI r), .int (nI b), .int (nI c), .ref e, .float 0, .float 0]) (pc' := 47) d_V_send_45 rfl (Nat.le_of_ble_eq_true rfl) rfl ?_
  refine x_aload (pc' := 49) d_V_send_47 rfl rfl ?_
  refine x_getfield (ci := 1) (i := 4) (v := .int (nI (sp_cur (S.2 (1 - r))))) (pc' := 52) d_V_send_49 rfl g_V_76 hE.2.1 rfl ?_
  refine x_iload_n (pc' := 53) d_V_send_52 rfl rfl ?_
  refine x_icmpne (t := 59) (pc' := 56) d_V_send_53 rfl rfl (fun q => absurd (by rw [h3]) q) (fun _ => ?_)
  refine x_bipush (v := (-3)) (pc' := 58) d_V_send_56 rfl (by decide) ?_
  exact x_ireturn d_V_send_58 rfl rfl hQ
theorem c_V_send_7 {L : Nat} {xs : Nat → Int32} {d : Nat} {h : xm_H} {Q : xm_Q} {S : sp_S} (hV : ch_V h S) (hS : sp_WS S) {r b c k : Nat} (hr : r < 2) (hb : b < 4) (hn : sp_tip (S.2 r) b = some c) (h3 : ¬ sp_cur (S.2 (1 - r)) = b) (h4 : sp_tip (S.2 (1 - r)) b = some k) (h5 : (sp_rr S.1 c).testBit k = false) (hQ : Q (some (.int (-7))) h) : xm_call L xs (d + 4) m_V_send [.ref 0, .int (nI r), .int (nI b)] h Q := by
  obtain ⟨g, hg, hg2⟩ := hV.2.1
  obtain ⟨a, ha7⟩ : ∃ a, a = 7 + 4 * r := ⟨_, rfl⟩
  have hR : ch_R h a (S.2 r) := by rw [ha7]; exact hV.2.2.2.1 r hr
  have hH := hV.2.2.1
  have hWR := hS.2 r hr
  obtain ⟨t, ht, ht2⟩ := hR.2.2.1
  have h40 := hS.1.1
  have hc : c < sp_n S.1 := hWR.2.1 b hb c hn
  obtain ⟨e, he7⟩ : ∃ e, e = 7 + 4 * (1 - r) := ⟨_, rfl⟩
  have hE : ch_R h e (S.2 (1 - r)) := by rw [he7]; exact hV.2.2.2.1 (1 - r) (by omega)
  have hWE := hS.2 (1 - r) (by omega)
  obtain ⟨i, hi, hi2⟩ := hE.2.2.1
  have hk : k < sp_n S.1 := hWE.2.1 b hb k h4
  refine x_call (lo := [.ref 0, .int (nI r), .int (nI b), .float 0, .float 0, .float 0, .float 0]) (Nat.le_of_ble_eq_true rfl) rfl ?_
  refine x_iload_n (pc' := 1) d_V_send_0 rfl rfl ?_
  refine x_static (as := [.int (nI r)]) (r := []) (v := (some (.int 1))) (h' := h) (st' := [.int 1]) (c' := 0) (s' := 0) (pc' := 4) d_V_send_1 rfl c_V_30 rfl rfl (Nat.le_of_ble_eq_true rfl) (Nat.le_of_ble_eq_true rfl) (Nat.le_of_ble_eq_true rfl) (fun Q' hq => c_V_isRepository1 hr hq) rfl rfl rfl ?_
  refine x_ifeq (t := 14) (pc' := 7) d_V_send_4 rfl rfl (fun q => absurd q (by decide)) (fun _ => ?_)
  refine x_iload_n (pc' := 8) d_V_send_7 rfl rfl ?_
  refine x_static (as := [.int (nI b)]) (r := []) (v := (some (.int 1))) (h' := h) (st' := [.int 1]) (c' := 0) (s' := 0) (pc' := 11) d_V_send_8 rfl c_V_80 rfl rfl (Nat.le_of_ble_eq_true rfl) (Nat.le_of_ble_eq_true rfl) (Nat.le_of_ble_eq_true rfl) (fun Q' hq => c_V_isBranch1 hb hq) rfl rfl rfl ?_
  refine x_ifne (t := 16) (pc' := 14) d_V_send_11 rfl rfl (fun _ => ?_) (fun q => absurd q (by decide))
  refine x_aload_n (pc' := 17) d_V_send_16 rfl rfl ?_
  refine x_getfield (ci := 3) (i := 1) (v := .ref 6) (pc' := 20) d_V_send_17 rfl g_V_18 hV.1 rfl ?_
  refine x_iload_n (pc' := 21) d_V_send_20 rfl rfl ?_
  refine x_aaload (q := a) (pc' := 22) d_V_send_21 rfl hg (Or.inr rfl) (vp_in_nI hr (by decide)) (by rw [nI_clamp (by omega), hg2 r hr, ha7]) ?_
  refine x_getfield (ci := 1) (i := 0) (v := .ref (a + 1)) (pc' := 25) d_V_send_22 rfl g_V_72 hR.2.1 rfl ?_
  refine x_iload_n (pc' := 26) d_V_send_25 rfl rfl ?_
  refine x_iaload (v := nI c) (pc' := 27) d_V_send_26 rfl ht (vp_in_nI hb (by decide)) (by rw [nI_clamp (by omega), ht2 b hb, hn]; rfl) ?_
  refine x_istore_n (lo' := [.ref 0, .int (nI r), .int (nI b), .int (nI c), .float 0, .float 0, .float 0]) (pc' := 28) d_V_send_27 rfl (Nat.le_of_ble_eq_true rfl) rfl ?_
  refine x_iload_n (pc' := 29) d_V_send_28 rfl rfl ?_
  refine x_bipush (v := (-2)) (pc' := 31) d_V_send_29 rfl (by decide) ?_
  refine x_icmpne (t := 37) (pc' := 34) d_V_send_31 rfl rfl (fun _ => ?_) (fun q => absurd q (sp_nI_ne2 (by omega)))
  refine x_aload_n (pc' := 38) d_V_send_37 rfl rfl ?_
  refine x_getfield (ci := 3) (i := 1) (v := .ref 6) (pc' := 41) d_V_send_38 rfl g_V_18 hV.1 rfl ?_
  refine x_iconst (v := nI 1) (pc' := 42) d_V_send_41 rfl (by decide) ?_
  refine x_iload_n (pc' := 43) d_V_send_42 rfl rfl ?_
  refine x_isub (z := nI (1 - r)) (pc' := 44) d_V_send_43 rfl (sp_nI_1r hr) ?_
  refine x_aaload (q := e) (pc' := 45) d_V_send_44 rfl hg (Or.inr rfl) (vp_in_nI (by omega) (by decide)) (by rw [nI_clamp (by omega), hg2 (1 - r) (by omega), he7]) ?_
  refine x_astore (lo' := [.ref 0, .int (nI r), .int (nI b), .int (nI c), .ref e, .float 0, .float 0]) (pc' := 47) d_V_send_45 rfl (Nat.le_of_ble_eq_true rfl) rfl ?_
  refine x_aload (pc' := 49) d_V_send_47 rfl rfl ?_
  refine x_getfield (ci := 1) (i := 4) (v := .int (nI (sp_cur (S.2 (1 - r))))) (pc' := 52) d_V_send_49 rfl g_V_76 hE.2.1 rfl ?_
  refine x_iload_n (pc' := 53) d_V_send_52 rfl rfl ?_
  refine x_icmpne (t := 59) (pc' := 56) d_V_send_53 rfl rfl (fun _ => ?_) (fun q => absurd q (fun z => h3 (sp_nI_inj (by have := hWE.1; omega) (by omega) z)))
  refine x_aload (pc' := 61) d_V_send_59 rfl rfl ?_
  refine x_getfield (ci := 1) (i := 0) (v := .ref (e + 1)) (pc' := 64) d_V_send_61 rfl g_V_72 hE.2.1 rfl ?_
  refine x_iload_n (pc' := 65) d_V_send_64 rfl rfl ?_
  refine x_iaload (v := nI k) (pc' := 66) d_V_send_65 rfl hi (vp_in_nI hb (by decide)) (by rw [nI_clamp (by omega), hi2 b hb, h4]; rfl) ?_
  refine x_istore (lo' := [.ref 0, .int (nI r), .int (nI b), .int (nI c), .ref e, .int (nI k), .float 0]) (pc' := 68) d_V_send_66 rfl (Nat.le_of_ble_eq_true rfl) rfl ?_
  refine x_iload (pc' := 70) d_V_send_68 rfl rfl ?_
  refine x_bipush (v := (-2)) (pc' := 72) d_V_send_70 rfl (by decide) ?_
  refine x_icmpeq (t := 91) (pc' := 75) d_V_send_72 rfl rfl (fun q => absurd q (sp_nI_ne2 (by omega))) (fun _ => ?_)
  refine x_aload_n (pc' := 76) d_V_send_75 rfl rfl ?_
  refine x_getfield (ci := 3) (i := 0) (v := .ref 1) (pc' := 79) d_V_send_76 rfl g_V_10 hV.1 rfl ?_
  refine x_iload_n (pc' := 80) d_V_send_79 rfl rfl ?_
  refine x_iload (pc' := 82) d_V_send_80 rfl rfl ?_
  refine x_virtual (a := 1) (as := [.int (nI c), .int (nI k)]) (r := []) (v := (some (.int (sp_bi ((sp_rr S.1 c).testBit k))))) (h' := h) (st' := [.int (sp_bi ((sp_rr S.1 c).testBit k))]) (c' := 0) (s' := 0) (pc' := 85) d_V_send_82 rfl c_V_95 hH.1.2 rfl rfl (Nat.le_of_ble_eq_true rfl) (Nat.le_of_ble_eq_true rfl) (Nat.le_of_ble_eq_true rfl) (fun Q' hq => c_H_reaches (c := some c) hH (sp_ok_some hc) (sp_WH_64 hS.1 (sp_ok_some hc)) (by omega) hq) rfl rfl rfl ?_
  refine x_ifne (t := 91) (pc' := 88) d_V_send_85 rfl rfl (fun q => absurd (by rw [h5]; rfl) q) (fun _ => ?_)
  refine x_bipush (v := (-7)) (pc' := 90) d_V_send_88 rfl (by decide) ?_
  exact x_ireturn d_V_send_90 rfl rfl hQ
theorem c_V_send_c {L : Nat} {xs : Nat → Int32} {d : Nat} {h : xm_H} {Q : xm_Q} {S : sp_S} (hV : ch_V h S) (hS : sp_WS S) {r b c k : Nat} (hr : r < 2) (hb : b < 4) (hn : sp_tip (S.2 r) b = some c) (h3 : ¬ sp_cur (S.2 (1 - r)) = b) (h4 : sp_tip (S.2 (1 - r)) b = some k) (h5 : (sp_rr S.1 c).testBit k = true) (hQ : ∀ h', ch_V h' (sp_set S (1 - r) (sp_up (sp_tip (S.2 (1 - r))) b (some c), sp_cur (S.2 (1 - r)), sp_held (S.2 (1 - r)) ||| sp_rr S.1 c, sp_wk (S.2 (1 - r)), sp_ix (S.2 (1 - r)))) → xl_fr sp_V29 h h' → Q (some (.int (nI (xp_cnt (sp_held (S.2 (1 - r)) ||| sp_rr S.1 c) 64 - xp_cnt (sp_held (S.2 (1 - r))) 64)))) h') : xm_call L xs (d + 4) m_V_send [.ref 0, .int (nI r), .int (nI b)] h Q := by
  obtain ⟨g, hg, hg2⟩ := hV.2.1
  obtain ⟨a, ha7⟩ : ∃ a, a = 7 + 4 * r := ⟨_, rfl⟩
  have hR : ch_R h a (S.2 r) := by rw [ha7]; exact hV.2.2.2.1 r hr
  have hH := hV.2.2.1
  have hWR := hS.2 r hr
  obtain ⟨t, ht, ht2⟩ := hR.2.2.1
  have h40 := hS.1.1
  have hc : c < sp_n S.1 := hWR.2.1 b hb c hn
  obtain ⟨e, he7⟩ : ∃ e, e = 7 + 4 * (1 - r) := ⟨_, rfl⟩
  have hE : ch_R h e (S.2 (1 - r)) := by rw [he7]; exact hV.2.2.2.1 (1 - r) (by omega)
  have hWE := hS.2 (1 - r) (by omega)
  obtain ⟨i, hi, hi2⟩ := hE.2.2.1
  have hk : k < sp_n S.1 := hWE.2.1 b hb k h4
  have c64 := sp_WH_64 hS.1 (c := some c) (sp_ok_some hc)
  have e64 : sp_held (S.2 (1 - r)) < 2 ^ 64 := Nat.lt_of_lt_of_le hWE.2.2.1 (Nat.pow_le_pow_right (by decide) (by omega))
  have e9 : nI (xp_cnt (sp_held (S.2 (1 - r)) ||| sp_rr S.1 c) 64 - xp_cnt (sp_held (S.2 (1 - r))) 64) = nI (xp_cnt (sp_rr S.1 c &&& (sp_rr S.1 c ^^^ sp_held (S.2 (1 - r)))) 64) := by rw [xp_cnt_orx, Nat.add_sub_cancel_left]
  refine x_call (lo := [.ref 0, .int (nI r), .int (nI b), .float 0, .float 0, .float 0, .float 0]) (Nat.le_of_ble_eq_true rfl) rfl ?_
  refine x_iload_n (pc' := 1) d_V_send_0 rfl rfl ?_
  refine x_static (as := [.int (nI r)]) (r := []) (v := (some (.int 1))) (h' := h) (st' := [.int 1]) (c' := 0) (s' := 0) (pc' := 4) d_V_send_1 rfl c_V_30 rfl rfl (Nat.le_of_ble_eq_true rfl) (Nat.le_of_ble_eq_true rfl) (Nat.le_of_ble_eq_true rfl) (fun Q' hq => c_V_isRepository1 hr hq) rfl rfl rfl ?_
  refine x_ifeq (t := 14) (pc' := 7) d_V_send_4 rfl rfl (fun q => absurd q (by decide)) (fun _ => ?_)
  refine x_iload_n (pc' := 8) d_V_send_7 rfl rfl ?_
  refine x_static (as := [.int (nI b)]) (r := []) (v := (some (.int 1))) (h' := h) (st' := [.int 1]) (c' := 0) (s' := 0) (pc' := 11) d_V_send_8 rfl c_V_80 rfl rfl (Nat.le_of_ble_eq_true rfl) (Nat.le_of_ble_eq_true rfl) (Nat.le_of_ble_eq_true rfl) (fun Q' hq => c_V_isBranch1 hb hq) rfl rfl rfl ?_
  refine x_ifne (t := 16) (pc' := 14) d_V_send_11 rfl rfl (fun _ => ?_) (fun q => absurd q (by decide))
  refine x_aload_n (pc' := 17) d_V_send_16 rfl rfl ?_
  refine x_getfield (ci := 3) (i := 1) (v := .ref 6) (pc' := 20) d_V_send_17 rfl g_V_18 hV.1 rfl ?_
  refine x_iload_n (pc' := 21) d_V_send_20 rfl rfl ?_
  refine x_aaload (q := a) (pc' := 22) d_V_send_21 rfl hg (Or.inr rfl) (vp_in_nI hr (by decide)) (by rw [nI_clamp (by omega), hg2 r hr, ha7]) ?_
  refine x_getfield (ci := 1) (i := 0) (v := .ref (a + 1)) (pc' := 25) d_V_send_22 rfl g_V_72 hR.2.1 rfl ?_
  refine x_iload_n (pc' := 26) d_V_send_25 rfl rfl ?_
  refine x_iaload (v := nI c) (pc' := 27) d_V_send_26 rfl ht (vp_in_nI hb (by decide)) (by rw [nI_clamp (by omega), ht2 b hb, hn]; rfl) ?_
  refine x_istore_n (lo' := [.ref 0, .int (nI r), .int (nI b), .int (nI c), .float 0, .float 0, .float 0]) (pc' := 28) d_V_send_27 rfl (Nat.le_of_ble_eq_true rfl) rfl ?_
  refine x_iload_n (pc' := 29) d_V_send_28 rfl rfl ?_
  refine x_bipush (v := (-2)) (pc' := 31) d_V_send_29 rfl (by decide) ?_
  refine x_icmpne (t := 37) (pc' := 34) d_V_send_31 rfl rfl (fun _ => ?_) (fun q => absurd q (sp_nI_ne2 (by omega)))
  refine x_aload_n (pc' := 38) d_V_send_37 rfl rfl ?_
  refine x_getfield (ci := 3) (i := 1) (v := .ref 6) (pc' := 41) d_V_send_38 rfl g_V_18 hV.1 rfl ?_
  refine x_iconst (v := nI 1) (pc' := 42) d_V_send_41 rfl (by decide) ?_
  refine x_iload_n (pc' := 43) d_V_send_42 rfl rfl ?_
  refine x_isub (z := nI (1 - r)) (pc' := 44) d_V_send_43 rfl (sp_nI_1r hr) ?_
  refine x_aaload (q := e) (pc' := 45) d_V_send_44 rfl hg (Or.inr rfl) (vp_in_nI (by omega) (by decide)) (by rw [nI_clamp (by omega), hg2 (1 - r) (by omega), he7]) ?_
  refine x_astore (lo' := [.ref 0, .int (nI r), .int (nI b), .int (nI c), .ref e, .float 0, .float 0]) (pc' := 47) d_V_send_45 rfl (Nat.le_of_ble_eq_true rfl) rfl ?_
  refine x_aload (pc' := 49) d_V_send_47 rfl rfl ?_
  refine x_getfield (ci := 1) (i := 4) (v := .int (nI (sp_cur (S.2 (1 - r))))) (pc' := 52) d_V_send_49 rfl g_V_76 hE.2.1 rfl ?_
  refine x_iload_n (pc' := 53) d_V_send_52 rfl rfl ?_
  refine x_icmpne (t := 59) (pc' := 56) d_V_send_53 rfl rfl (fun _ => ?_) (fun q => absurd q (fun z => h3 (sp_nI_inj (by have := hWE.1; omega) (by omega) z)))
  refine x_aload (pc' := 61) d_V_send_59 rfl rfl ?_
  refine x_getfield (ci := 1) (i := 0) (v := .ref (e + 1)) (pc' := 64) d_V_send_61 rfl g_V_72 hE.2.1 rfl ?_
  refine x_iload_n (pc' := 65) d_V_send_64 rfl rfl ?_
  refine x_iaload (v := nI k) (pc' := 66) d_V_send_65 rfl hi (vp_in_nI hb (by decide)) (by rw [nI_clamp (by omega), hi2 b hb, h4]; rfl) ?_
  refine x_istore (lo' := [.ref 0, .int (nI r), .int (nI b), .int (nI c), .ref e, .int (nI k), .float 0]) (pc' := 68) d_V_send_66 rfl (Nat.le_of_ble_eq_true rfl) rfl ?_
  refine x_iload (pc' := 70) d_V_send_68 rfl rfl ?_
  refine x_bipush (v := (-2)) (pc' := 72) d_V_send_70 rfl (by decide) ?_
  refine x_icmpeq (t := 91) (pc' := 75) d_V_send_72 rfl rfl (fun q => absurd q (sp_nI_ne2 (by omega))) (fun _ => ?_)
  refine x_aload_n (pc' := 76) d_V_send_75 rfl rfl ?_
  refine x_getfield (ci := 3) (i := 0) (v := .ref 1) (pc' := 79) d_V_send_76 rfl g_V_10 hV.1 rfl ?_
  refine x_iload_n (pc' := 80) d_V_send_79 rfl rfl ?_
  refine x_iload (pc' := 82) d_V_send_80 rfl rfl ?_
  refine x_virtual (a := 1) (as := [.int (nI c), .int (nI k)]) (r := []) (v := (some (.int (sp_bi ((sp_rr S.1 c).testBit k))))) (h' := h) (st' := [.int (sp_bi ((sp_rr S.1 c).testBit k))]) (c' := 0) (s' := 0) (pc' := 85) d_V_send_82 rfl c_V_95 hH.1.2 rfl rfl (Nat.le_of_ble_eq_true rfl) (Nat.le_of_ble_eq_true rfl) (Nat.le_of_ble_eq_true rfl) (fun Q' hq => c_H_reaches (c := some c) hH (sp_ok_some hc) (sp_WH_64 hS.1 (sp_ok_some hc)) (by omega) hq) rfl rfl rfl ?_
  refine x_ifne (t := 91) (pc' := 88) d_V_send_85 rfl rfl (fun _ => ?_) (fun q => absurd q (by rw [h5]; decide))
  refine x_aload_n (pc' := 92) d_V_send_91 rfl rfl ?_
  refine x_getfield (ci := 3) (i := 0) (v := .ref 1) (pc' := 95) d_V_send_92 rfl g_V_10 hV.1 rfl ?_
  refine x_iload_n (pc' := 96) d_V_send_95 rfl rfl ?_
  refine x_virtual (a := 1) (as := [.int (nI c)]) (r := []) (v := (some (.long (lN (sp_rr S.1 c))))) (h' := h) (st' := [.long (lN (sp_rr S.1 c))]) (c' := 0) (s' := 0) (pc' := 99) d_V_send_96 rfl c_V_68 hH.1.2 rfl rfl (Nat.le_of_ble_eq_true rfl) (Nat.le_of_ble_eq_true rfl) (Nat.le_of_ble_eq_true rfl) (fun Q' hq => c_H_reachOf1 hH hc hq) rfl rfl rfl ?_
  refine x_aload (pc' := 101) d_V_send_99 rfl rfl ?_
  refine x_getfield (ci := 1) (i := 3) (v := .long (lN (sp_held (S.2 (1 - r))))) (pc' := 104) d_V_send_101 rfl g_V_64 hE.2.1 rfl ?_
  refine x_ldc2_w (x := (-1)) (pc' := 107) d_V_send_104 rfl k_V_109 ?_
  refine x_lxor (z := (lN (sp_held (S.2 (1 - r)))) ^^^ (-1)) (pc' := 108) d_V_send_107 rfl rfl ?_
  refine x_land (z := lN (sp_rr S.1 c &&& (sp_rr S.1 c ^^^ sp_held (S.2 (1 - r))))) (pc' := 109) d_V_send_108 rfl wb_andn ?_
  refine x_static (as := [.long (lN (sp_rr S.1 c &&& (sp_rr S.1 c ^^^ sp_held (S.2 (1 - r)))))]) (r := []) (v := (some (.int (nI (xp_cnt (sp_rr S.1 c &&& (sp_rr S.1 c ^^^ sp_held (S.2 (1 - r)))) 64))))) (h' := h) (st' := [.int (nI (xp_cnt (sp_rr S.1 c &&& (sp_rr S.1 c ^^^ sp_held (S.2 (1 - r)))) 64))]) (c' := 0) (s' := 0) (pc' := 112) d_V_send_109 rfl c_V_122 rfl rfl (Nat.le_of_ble_eq_true rfl) (Nat.le_of_ble_eq_true rfl) (Nat.le_of_ble_eq_true rfl) (fun Q' hq => c_J_bitCount (Nat.lt_of_le_of_lt Nat.and_le_left c64) hq) rfl rfl rfl ?_
  refine x_istore (lo' := [.ref 0, .int (nI r), .int (nI b), .int (nI c), .ref e, .int (nI k), .int (nI (xp_cnt (sp_rr S.1 c &&& (sp_rr S.1 c ^^^ sp_held (S.2 (1 - r)))) 64))]) (pc' := 114) d_V_send_112 rfl (Nat.le_of_ble_eq_true rfl) rfl ?_
  refine x_aload (pc' := 116) d_V_send_114 rfl rfl ?_
  refine x_dup (pc' := 117) d_V_send_116 rfl rfl ?_
  refine x_getfield (ci := 1) (i := 3) (v := .long (lN (sp_held (S.2 (1 - r))))) (pc' := 120) d_V_send_117 rfl g_V_64 hE.2.1 rfl ?_
  refine x_aload_n (pc' := 121) d_V_send_120 rfl rfl ?_
  refine x_getfield (ci := 3) (i := 0) (v := .ref 1) (pc' := 124) d_V_send_121 rfl g_V_10 hV.1 rfl ?_
  refine x_iload_n (pc' := 125) d_V_send_124 rfl rfl ?_
  refine x_virtual (a := 1) (as := [.int (nI c)]) (r := [.long (lN (sp_held (S.2 (1 - r)))), .ref e]) (v := (some (.long (lN (sp_rr S.1 c))))) (h' := h) (st' := [.long (lN (sp_rr S.1 c)), .long (lN (sp_held (S.2 (1 - r)))), .ref e]) (c' := 0) (s' := 0) (pc' := 128) d_V_send_125 rfl c_V_68 hH.1.2 rfl rfl (Nat.le_of_ble_eq_true rfl) (Nat.le_of_ble_eq_true rfl) (Nat.le_of_ble_eq_true rfl) (fun Q' hq => c_H_reachOf1 hH hc hq) rfl rfl rfl ?_
  refine x_lor (z := lN (sp_held (S.2 (1 - r)) ||| sp_rr S.1 c)) (pc' := 129) d_V_send_128 rfl (wb_or e64 c64) ?_
  refine x_putfield (ci := 1) (i := 3) (h' := (h.set e (.inr (1, [.ref (e + 1), .ref (e + 2), .ref (e + 3), .long (lN (sp_held (S.2 (1 - r)) ||| sp_rr S.1 c)), .int (nI (sp_cur (S.2 (1 - r))))])))) (pc' := 132) d_V_send_129 rfl (p_V_64 _ rfl) hE.2.1 (Nat.le_of_ble_eq_true rfl) rfl rfl rfl ?_
  refine x_aload (pc' := 134) d_V_send_132 rfl rfl ?_
  refine x_getfield (ci := 1) (i := 0) (v := .ref (e + 1)) (pc' := 137) d_V_send_134 rfl g_V_72 (xl_at hE.2.1) rfl ?_
  refine x_iload_n (pc' := 138) d_V_send_137 rfl rfl ?_
  refine x_iload_n (pc' := 139) d_V_send_138 rfl rfl ?_
  refine x_iastore (h' := ((h.set e (.inr (1, [.ref (e + 1), .ref (e + 2), .ref (e + 3), .long (lN (sp_held (S.2 (1 - r)) ||| sp_rr S.1 c)), .int (nI (sp_cur (S.2 (1 - r))))]))).set (e + 1) (.inl (.int, 4, .inl (upd i (nI b).toNatClampNeg (sp_vi (some c))))))) (pc' := 140) d_V_send_139 rfl ((xl_ne (by omega)).trans hi) (vp_in_nI hb (by decide)) rfl ?_
  refine x_iload (pc' := 142) d_V_send_140 rfl rfl ?_
  exact x_ireturn d_V_send_142 rfl rfl (x_q e9 (hQ _ (ch_V_rep hV (by omega) (xl_tr (xl_set ⟨by omega, by omega⟩) (xl_set ⟨by omega, by omega⟩)) (by rw [← he7]; exact ch_R_tip (ch_R_obj hE hWE.1) ((xl_ne (by omega)).trans hi) hb (some c))) (xl_tr (xl_set (by show _ < 29; omega)) (xl_set (by show _ < 29; omega)))))
theorem c_V_send_e {L : Nat} {xs : Nat → Int32} {d : Nat} {h : xm_H} {Q : xm_Q} {S : sp_S} (hV : ch_V h S) (hS : sp_WS S) {r b c : Nat} (hr : r < 2) (hb : b < 4) (hn : sp_tip (S.2 r) b = some c) (h3 : ¬ sp_cur (S.2 (1 - r)) = b) (h4 : sp_tip (S.2 (1 - r)) b = none) (hQ : ∀ h', ch_V h' (sp_set S (1 - r) (sp_up (sp_tip (S.2 (1 - r))) b (some c), sp_cur (S.2 (1 - r)), sp_held (S.2 (1 - r)) ||| sp_rr S.1 c, sp_wk (S.2 (1 - r)), sp_ix (S.2 (1 - r)))) → xl_fr sp_V29 h h' → Q (some (.int (nI (xp_cnt (sp_held (S.2 (1 - r)) ||| sp_rr S.1 c) 64 - xp_cnt (sp_held (S.2 (1 - r))) 64)))) h') : xm_call L xs (d + 4) m_V_send [.ref 0, .int (nI r), .int (nI b)] h Q := by
  obtain ⟨g, hg, hg2⟩ := hV.2.1
  obtain ⟨a, ha7⟩ : ∃ a, a = 7 + 4 * r := ⟨_, rfl⟩
  have hR : ch_R h a (S.2 r) := by rw [ha7]; exact hV.2.2.2.1 r hr
  have hH := hV.2.2.1
  have hWR := hS.2 r hr
  obtain ⟨t, ht, ht2⟩ := hR.2.2.1
  have h40 := hS.1.1
  have hc : c < sp_n S.1 := hWR.2.1 b hb c hn
  obtain ⟨e, he7⟩ : ∃ e, e = 7 + 4 * (1 - r) := ⟨_, rfl⟩
  have hE : ch_R h e (S.2 (1 - r)) := by rw [he7]; exact hV.2.2.2.1 (1 - r) (by omega)
  have hWE := hS.2 (1 - r) (by omega)
  obtain ⟨i, hi, hi2⟩ := hE.2.2.1
  have c64 := sp_WH_64 hS.1 (c := some c) (sp_ok_some hc)
  have e64 : sp_held (S.2 (1 - r)) < 2 ^ 64 := Nat.lt_of_lt_of_le hWE.2.2.1 (Nat.pow_le_pow_right (by decide) (by omega))
  have e9 : nI (xp_cnt (sp_held (S.2 (1 - r)) ||| sp_rr S.1 c) 64 - xp_cnt (sp_held (S.2 (1 - r))) 64) = nI (xp_cnt (sp_rr S.1 c &&& (sp_rr S.1 c ^^^ sp_held (S.2 (1 - r)))) 64) := by rw [xp_cnt_orx, Nat.add_sub_cancel_left]
  refine x_call (lo := [.ref 0, .int (nI r), .int (nI b), .float 0, .float 0, .float 0, .float 0]) (Nat.le_of_ble_eq_true rfl) rfl ?_
  refine x_iload_n (pc' := 1) d_V_send_0 rfl rfl ?_
  refine x_static (as := [.int (nI r)]) (r := []) (v := (some (.int 1))) (h' := h) (st' := [.int 1]) (c' := 0) (s' := 0) (pc' := 4) d_V_send_1 rfl c_V_30 rfl rfl (Nat.le_of_ble_eq_true rfl) (Nat.le_of_ble_eq_true rfl) (Nat.le_of_ble_eq_true rfl) (fun Q' hq => c_V_isRepository1 hr hq) rfl rfl rfl ?_
  refine x_ifeq (t := 14) (pc' := 7) d_V_send_4 rfl rfl (fun q => absurd q (by decide)) (fun _ => ?_)
  refine x_iload_n (pc' := 8) d_V_send_7 rfl rfl ?_
  refine x_static (as := [.int (nI b)]) (r := []) (v := (some (.int 1))) (h' := h) (st' := [.int 1]) (c' := 0) (s' := 0) (pc' := 11) d_V_send_8 rfl c_V_80 rfl rfl (Nat.le_of_ble_eq_true rfl) (Nat.le_of_ble_eq_true rfl) (Nat.le_of_ble_eq_true rfl) (fun Q' hq => c_V_isBranch1 hb hq) rfl rfl rfl ?_
  refine x_ifne (t := 16) (pc' := 14) d_V_send_11 rfl rfl (fun _ => ?_) (fun q => absurd q (by decide))
  refine x_aload_n (pc' := 17) d_V_send_16 rfl rfl ?_
  refine x_getfield (ci := 3) (i := 1) (v := .ref 6) (pc' := 20) d_V_send_17 rfl g_V_18 hV.1 rfl ?_
  refine x_iload_n (pc' := 21) d_V_send_20 rfl rfl ?_
  refine x_aaload (q := a) (pc' := 22) d_V_send_21 rfl hg (Or.inr rfl) (vp_in_nI hr (by decide)) (by rw [nI_clamp (by omega), hg2 r hr, ha7]) ?_
  refine x_getfield (ci := 1) (i := 0) (v := .ref (a + 1)) (pc' := 25) d_V_send_22 rfl g_V_72 hR.2.1 rfl ?_
  refine x_iload_n (pc' := 26) d_V_send_25 rfl rfl ?_
  refine x_iaload (v := nI c) (pc' := 27) d_V_send_26 rfl ht (vp_in_nI hb (by decide)) (by rw [nI_clamp (by omega), ht2 b hb, hn]; rfl) ?_
  refine x_istore_n (lo' := [.ref 0, .int (nI r), .int (nI b), .int (nI c), .float 0, .float 0, .float 0]) (pc' := 28) d_V_send_27 rfl (Nat.le_of_ble_eq_true rfl) rfl ?_
  refine x_iload_n (pc' := 29) d_V_send_28 rfl rfl ?_
  refine x_bipush (v := (-2)) (pc' := 31) d_V_send_29 rfl (by decide) ?_
  refine x_icmpne (t := 37) (pc' := 34) d_V_send_31 rfl rfl (fun _ => ?_) (fun q => absurd q (sp_nI_ne2 (by omega)))
  refine x_aload_n (pc' := 38) d_V_send_37 rfl rfl ?_
  refine x_getfield (ci := 3) (i := 1) (v := .ref 6) (pc' := 41) d_V_send_38 rfl g_V_18 hV.1 rfl ?_
  refine x_iconst (v := nI 1) (pc' := 42) d_V_send_41 rfl (by decide) ?_
  refine x_iload_n (pc' := 43) d_V_send_42 rfl rfl ?_
  refine x_isub (z := nI (1 - r)) (pc' := 44) d_V_send_43 rfl (sp_nI_1r hr) ?_
  refine x_aaload (q := e) (pc' := 45) d_V_send_44 rfl hg (Or.inr rfl) (vp_in_nI (by omega) (by decide)) (by rw [nI_clamp (by omega), hg2 (1 - r) (by omega), he7]) ?_
  refine x_astore (lo' := [.ref 0, .int (nI r), .int (nI b), .int (nI c), .ref e, .float 0, .float 0]) (pc' := 47) d_V_send_45 rfl (Nat.le_of_ble_eq_true rfl) rfl ?_
  refine x_aload (pc' := 49) d_V_send_47 rfl rfl ?_
  refine x_getfield (ci := 1) (i := 4) (v := .int (nI (sp_cur (S.2 (1 - r))))) (pc' := 52) d_V_send_49 rfl g_V_76 hE.2.1 rfl ?_
  refine x_iload_n (pc' := 53) d_V_send_52 rfl rfl ?_
  refine x_icmpne (t := 59) (pc' := 56) d_V_send_53 rfl rfl (fun _ => ?_) (fun q => absurd q (fun z => h3 (sp_nI_inj (by have := hWE.1; omega) (by omega) z)))
  refine x_aload (pc' := 61) d_V_send_59 rfl rfl ?_
  refine x_getfield (ci := 1) (i := 0) (v := .ref (e + 1)) (pc' := 64) d_V_send_61 rfl g_V_72 hE.2.1 rfl ?_
  refine x_iload_n (pc' := 65) d_V_send_64 rfl rfl ?_
  refine x_iaload (v := sp_vi none) (pc' := 66) d_V_send_65 rfl hi (vp_in_nI hb (by decide)) (by rw [nI_clamp (by omega), hi2 b hb, h4]) ?_
  refine x_istore (lo' := [.ref 0, .int (nI r), .int (nI b), .int (nI c), .ref e, .int (sp_vi none), .float 0]) (pc' := 68) d_V_send_66 rfl (Nat.le_of_ble_eq_true rfl) rfl ?_
  refine x_iload (pc' := 70) d_V_send_68 rfl rfl ?_
  refine x_bipush (v := (-2)) (pc' := 72) d_V_send_70 rfl (by decide) ?_
  refine x_icmpeq (t := 91) (pc' := 75) d_V_send_72 rfl rfl (fun _ => ?_) (fun q => absurd rfl q)
  refine x_aload_n (pc' := 92) d_V_send_91 rfl rfl ?_
  refine x_getfield (ci := 3) (i := 0) (v := .ref 1) (pc' := 95) d_V_send_92 rfl g_V_10 hV.1 rfl ?_
  refine x_iload_n (pc' := 96) d_V_send_95 rfl rfl ?_
  refine x_virtual (a := 1) (as := [.int (nI c)]) (r := []) (v := (some (.long (lN (sp_rr S.1 c))))) (h' := h) (st' := [.long (lN (sp_rr S.1 c))]) (c' := 0) (s' := 0) (pc' := 99) d_V_send_96 rfl c_V_68 hH.1.2 rfl rfl (Nat.le_of_ble_eq_true rfl) (Nat.le_of_ble_eq_true rfl) (Nat.le_of_ble_eq_true rfl) (fun Q' hq => c_H_reachOf1 hH hc hq) rfl rfl rfl ?_
  refine x_aload (pc' := 101) d_V_send_99 rfl rfl ?_
  refine x_getfield (ci := 1) (i := 3) (v := .long (lN (sp_held (S.2 (1 - r))))) (pc' := 104) d_V_send_101 rfl g_V_64 hE.2.1 rfl ?_
  refine x_ldc2_w (x := (-1)) (pc' := 107) d_V_send_104 rfl k_V_109 ?_
  refine x_lxor (z := (lN (sp_held (S.2 (1 - r)))) ^^^ (-1)) (pc' := 108) d_V_send_107 rfl rfl ?_
  refine x_land (z := lN (sp_rr S.1 c &&& (sp_rr S.1 c ^^^ sp_held (S.2 (1 - r))))) (pc' := 109) d_V_send_108 rfl wb_andn ?_
  refine x_static (as := [.long (lN (sp_rr S.1 c &&& (sp_rr S.1 c ^^^ sp_held (S.2 (1 - r)))))]) (r := []) (v := (some (.int (nI (xp_cnt (sp_rr S.1 c &&& (sp_rr S.1 c ^^^ sp_held (S.2 (1 - r)))) 64))))) (h' := h) (st' := [.int (nI (xp_cnt (sp_rr S.1 c &&& (sp_rr S.1 c ^^^ sp_held (S.2 (1 - r)))) 64))]) (c' := 0) (s' := 0) (pc' := 112) d_V_send_109 rfl c_V_122 rfl rfl (Nat.le_of_ble_eq_true rfl) (Nat.le_of_ble_eq_true rfl) (Nat.le_of_ble_eq_true rfl) (fun Q' hq => c_J_bitCount (Nat.lt_of_le_of_lt Nat.and_le_left c64) hq) rfl rfl rfl ?_
  refine x_istore (lo' := [.ref 0, .int (nI r), .int (nI b), .int (nI c), .ref e, .int (sp_vi none), .int (nI (xp_cnt (sp_rr S.1 c &&& (sp_rr S.1 c ^^^ sp_held (S.2 (1 - r)))) 64))]) (pc' := 114) d_V_send_112 rfl (Nat.le_of_ble_eq_true rfl) rfl ?_
  refine x_aload (pc' := 116) d_V_send_114 rfl rfl ?_
  refine x_dup (pc' := 117) d_V_send_116 rfl rfl ?_
  refine x_getfield (ci := 1) (i := 3) (v := .long (lN (sp_held (S.2 (1 - r))))) (pc' := 120) d_V_send_117 rfl g_V_64 hE.2.1 rfl ?_
  refine x_aload_n (pc' := 121) d_V_send_120 rfl rfl ?_
  refine x_getfield (ci := 3) (i := 0) (v := .ref 1) (pc' := 124) d_V_send_121 rfl g_V_10 hV.1 rfl ?_
  refine x_iload_n (pc' := 125) d_V_send_124 rfl rfl ?_
  refine x_virtual (a := 1) (as := [.int (nI c)]) (r := [.long (lN (sp_held (S.2 (1 - r)))), .ref e]) (v := (some (.long (lN (sp_rr S.1 c))))) (h' := h) (st' := [.long (lN (sp_rr S.1 c)), .long (lN (sp_held (S.2 (1 - r)))), .ref e]) (c' := 0) (s' := 0) (pc' := 128) d_V_send_125 rfl c_V_68 hH.1.2 rfl rfl (Nat.le_of_ble_eq_true rfl) (Nat.le_of_ble_eq_true rfl) (Nat.le_of_ble_eq_true rfl) (fun Q' hq => c_H_reachOf1 hH hc hq) rfl rfl rfl ?_
  refine x_lor (z := lN (sp_held (S.2 (1 - r)) ||| sp_rr S.1 c)) (pc' := 129) d_V_send_128 rfl (wb_or e64 c64) ?_
  refine x_putfield (ci := 1) (i := 3) (h' := (h.set e (.inr (1, [.ref (e + 1), .ref (e + 2), .ref (e + 3), .long (lN (sp_held (S.2 (1 - r)) ||| sp_rr S.1 c)), .int (nI (sp_cur (S.2 (1 - r))))])))) (pc' := 132) d_V_send_129 rfl (p_V_64 _ rfl) hE.2.1 (Nat.le_of_ble_eq_true rfl) rfl rfl rfl ?_
  refine x_aload (pc' := 134) d_V_send_132 rfl rfl ?_
  refine x_getfield (ci := 1) (i := 0) (v := .ref (e + 1)) (pc' := 137) d_V_send_134 rfl g_V_72 (xl_at hE.2.1) rfl ?_
  refine x_iload_n (pc' := 138) d_V_send_137 rfl rfl ?_
  refine x_iload_n (pc' := 139) d_V_send_138 rfl rfl ?_
  refine x_iastore (h' := ((h.set e (.inr (1, [.ref (e + 1), .ref (e + 2), .ref (e + 3), .long (lN (sp_held (S.2 (1 - r)) ||| sp_rr S.1 c)), .int (nI (sp_cur (S.2 (1 - r))))]))).set (e + 1) (.inl (.int, 4, .inl (upd i (nI b).toNatClampNeg (sp_vi (some c))))))) (pc' := 140) d_V_send_139 rfl ((xl_ne (by omega)).trans hi) (vp_in_nI hb (by decide)) rfl ?_
  refine x_iload (pc' := 142) d_V_send_140 rfl rfl ?_
  exact x_ireturn d_V_send_142 rfl rfl (x_q e9 (hQ _ (ch_V_rep hV (by omega) (xl_tr (xl_set ⟨by omega, by omega⟩) (xl_set ⟨by omega, by omega⟩)) (by rw [← he7]; exact ch_R_tip (ch_R_obj hE hWE.1) ((xl_ne (by omega)).trans hi) hb (some c))) (xl_tr (xl_set (by show _ < 29; omega)) (xl_set (by show _ < 29; omega)))))
theorem c_V_send {L : Nat} {xs : Nat → Int32} {d : Nat} {h : xm_H} {Q : xm_Q} {S : sp_S} (hV : ch_V h S) (hS : sp_WS S) {x y : Int32} (hQ : ∀ h', ch_V h' (sp_send S x y).2 → xl_fr sp_V29 h h' → Q (some (.int (sp_send S x y).1)) h') : xm_call L xs (d + 4) m_V_send [.ref 0, .int x, .int y] h Q := by
  have key : ∀ z, sp_send S x y = (z, S) → Q (some (.int z)) h := fun z e9 => by
    rw [e9] at hQ
    exact hQ h hV xl_rf
  rcases sp_in_cases 2 (by decide) x with ⟨_, e⟩ | ⟨_, _, e⟩ | ⟨r, hr, rfl, e⟩
  · exact c_V_send_x hV hS e (key _ (by unfold sp_send; rw [e]))
  · exact c_V_send_x hV hS e (key _ (by unfold sp_send; rw [e]))
  · rcases sp_in_cases 4 (by decide) y with ⟨_, e2⟩ | ⟨_, _, e2⟩ | ⟨b, hb, rfl, e2⟩
    · exact c_V_send_y hV hS hr e2 (key _ (by unfold sp_send; rw [e, e2]))
    · exact c_V_send_y hV hS hr e2 (key _ (by unfold sp_send; rw [e, e2]))
    · cases h1 : sp_tip (S.2 r) b with
      | none => exact c_V_send_t hV hS hr hb h1 (key _ (by unfold sp_send; rw [e, e2]; dsimp only; rw [h1]))
      | some c =>
        by_cases h3 : sp_cur (S.2 (1 - r)) = b
        · exact c_V_send_d hV hS hr hb h1 h3 (key _ (by unfold sp_send; rw [e, e2]; dsimp only; rw [h1]; dsimp only; rw [if_pos h3]))
        · cases h4 : sp_tip (S.2 (1 - r)) b with
          | none =>
            have e9 : sp_send S (nI r) (nI b) = (nI (xp_cnt (sp_held (S.2 (1 - r)) ||| sp_rr S.1 c) 64 - xp_cnt (sp_held (S.2 (1 - r))) 64), sp_set S (1 - r) (sp_up (sp_tip (S.2 (1 - r))) b (some c), sp_cur (S.2 (1 - r)), sp_held (S.2 (1 - r)) ||| sp_rr S.1 c, sp_wk (S.2 (1 - r)), sp_ix (S.2 (1 - r)))) := by unfold sp_send; rw [e, e2]; dsimp only; rw [h1]; dsimp only; rw [if_neg h3, if_neg (fun z => z.1 h4)]
            rw [e9] at hQ
            exact c_V_send_e hV hS hr hb h1 h3 h4 hQ
          | some k =>
            cases h5 : (sp_rr S.1 c).testBit k with
            | false => exact c_V_send_7 hV hS hr hb h1 h3 h4 h5 (key _ (by unfold sp_send; rw [e, e2]; dsimp only; rw [h1]; dsimp only; rw [if_neg h3, if_pos ⟨by rw [h4]; exact Option.some_ne_none _, by rw [h4]; show ¬ (sp_rr S.1 c).testBit k = true; rw [h5]; decide⟩]))
            | true =>
              have e9 : sp_send S (nI r) (nI b) = (nI (xp_cnt (sp_held (S.2 (1 - r)) ||| sp_rr S.1 c) 64 - xp_cnt (sp_held (S.2 (1 - r))) 64), sp_set S (1 - r) (sp_up (sp_tip (S.2 (1 - r))) b (some c), sp_cur (S.2 (1 - r)), sp_held (S.2 (1 - r)) ||| sp_rr S.1 c, sp_wk (S.2 (1 - r)), sp_ix (S.2 (1 - r)))) := by unfold sp_send; rw [e, e2]; dsimp only; rw [h1]; dsimp only; rw [if_neg h3, if_neg (fun z => z.2 (by rw [h4]; exact h5))]
              rw [e9] at hQ
              exact c_V_send_c hV hS hr hb h1 h3 h4 h5 hQ
