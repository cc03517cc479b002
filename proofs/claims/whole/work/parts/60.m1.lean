/-! The reference as the heap holds it; its small methods. (Printed by c_m1.py.) -/
theorem wb_sarm {m k j : Nat} (hkj : k + j ≤ 64) (hk : k < 64) : (lN m >>> ((nI k).toInt64 &&& 63)) &&& lN (2 ^ j - 1) = lN (m / 2 ^ k % 2 ^ j) := by
  rw [wb_c k hk]
  apply wb_inj
  rw [Int64.toBitVec_and, Int64.toBitVec_shiftRight, wb_tb, wb_tb, wb_tb, wb_tb, wb_sm k hk, BitVec.sshiftRight_eq']
  have hk2 : (BitVec.ofNat 64 k).toNat = k := by rw [BitVec.toNat_ofNat, Nat.mod_eq_of_lt (by omega)]
  rw [hk2]
  apply BitVec.eq_of_getLsbD_eq
  intro i hi
  rw [BitVec.getLsbD_and, BitVec.getLsbD_sshiftRight, BitVec.getLsbD_ofNat, BitVec.getLsbD_ofNat, BitVec.getLsbD_ofNat, Nat.testBit_two_pow_sub_one, Nat.testBit_mod_two_pow, Nat.testBit_div_two_pow]
  by_cases hj : i < j
  · have h1 : k + i < 64 := by omega
    have h2 : ¬ 64 ≤ i := by omega
    rw [Nat.add_comm i k]
    simp [hj, h1, h2, hi]
  · simp [hj]
theorem wb_sb {m k : Nat} {b : Bool} (hk : k < 64) (hb : m.testBit k = b) : (lN m >>> ((nI k).toInt64 &&& 63)) &&& 1 = lN b.toNat := by
  have h := wb_sarm (m := m) (k := k) (j := 1) (by omega) hk
  rw [← hb, ← xp_bit]
  exact h
theorem wb_sar {n k : Nat} (hn : n < 2 ^ 63) (hk : k < 64) : lN n >>> ((nI k).toInt64 &&& 63) = lN (n / 2 ^ k) := by
  rw [wb_c k hk]
  apply wb_inj
  rw [Int64.toBitVec_shiftRight, wb_tb, wb_tb, wb_tb, wb_sm k hk, BitVec.sshiftRight_eq']
  have hk2 : (BitVec.ofNat 64 k).toNat = k := by rw [BitVec.toNat_ofNat, Nat.mod_eq_of_lt (by omega)]
  rw [hk2]
  apply BitVec.eq_of_getLsbD_eq
  intro i hi
  rw [BitVec.getLsbD_sshiftRight, BitVec.getLsbD_ofNat, BitVec.getLsbD_ofNat, Nat.testBit_div_two_pow]
  have h2 : ¬ 64 ≤ i := by omega
  have hm : (BitVec.ofNat 64 n).msb = false := by
    rw [BitVec.msb_eq_getLsbD_last, BitVec.getLsbD_ofNat, Nat.testBit_lt_two_pow hn, Bool.and_false]
  by_cases h1 : k + i < 64
  · rw [Nat.add_comm i k]
    simp [h1, h2, hi]
  · have h3 : n.testBit (k + i) = false := Nat.testBit_lt_two_pow (Nat.lt_of_lt_of_le hn (Nat.pow_le_pow_right (by decide) (by omega)))
    rw [Nat.add_comm i k]
    simp [h1, h2, hi, hm, h3]
theorem sp_m1 (k : Nat) : nI k + Int32.ofInt (-1) = nI k - nI 1 := by
  rw [show Int32.ofInt (-1) = - nI 1 by decide, Int32.sub_eq_add_neg]
def mo (h : xm_H) (n : Nat) (tk : Int32) : Prop := h[29]? = some (.inr (4, [.int (nI n), .ref 30, .ref 31, .ref 32, .ref 33, .ref 34, .ref 35, .ref 36, .ref 37, .ref 38, .ref 39, .ref 40, .ref 41, .ref 42, .ref 43, .ref 44, .int tk, .ref 45, .ref 46]))
/-- the commits and the repositories -/
def mk (h : xm_H) (S : sp_S) : Prop := sp_n S.1 ≤ 40 ∧ (∃ T : Nat → Int64, h[30]? = some (.inl (.long, 160, .inr (.inl T))) ∧ ∀ j, j < 4 * sp_n S.1 → T j = sp_tv (sp_tx S.1 j)) ∧
  (∃ P : Nat → Int32, h[31]? = some (.inl (.int, 40, .inl P)) ∧ ∀ c, c < sp_n S.1 → P c = sp_vi (sp_p1 S.1 c)) ∧ (∃ P : Nat → Int32, h[32]? = some (.inl (.int, 40, .inl P)) ∧ ∀ c, c < sp_n S.1 → P c = sp_vi (sp_p2 S.1 c)) ∧
  (∃ g : Nat → Int64, h[33]? = some (.inl (.long, 2, .inr (.inl g))) ∧ ∀ r, r < 2 → g r = lN (sp_held (S.2 r))) ∧ (∃ t : Nat → Int32, h[34]? = some (.inl (.int, 8, .inl t)) ∧ ∀ r, r < 2 → ∀ b, b < 4 → t (4 * r + b) = sp_vi (sp_tip (S.2 r) b)) ∧
  (∃ w : Nat → Int32, h[35]? = some (.inl (.int, 2, .inl w)) ∧ ∀ r, r < 2 → w r = nI (sp_cur (S.2 r))) ∧ (∃ w : Nat → Int64, h[36]? = some (.inl (.long, 8, .inr (.inl w))) ∧ ∀ r, r < 2 → ∀ f, f < 4 → w (4 * r + f) = sp_tv (sp_wk (S.2 r) f)) ∧
  (∃ w : Nat → Int64, h[37]? = some (.inl (.long, 8, .inr (.inl w))) ∧ ∀ r, r < 2 → ∀ f, f < 4 → w (4 * r + f) = sp_tv (sp_ix (S.2 r) f))
def mw4 (h : xm_H) (k : Nat) : Prop := ∃ f : Nat → Int64, h[k]? = some (.inl (.long, 4, .inr (.inl f)))
/-- the rows that only help -/
def mw (h : xm_H) : Prop := mw4 h 38 ∧ mw4 h 39 ∧ mw4 h 40 ∧ mw4 h 41 ∧ (∃ f : Nat → Int32, h[42]? = some (.inl (.int, 8, .inl f))) ∧ (∃ f : Nat → Int32, h[43]? = some (.inl (.int, 8, .inl f))) ∧ (∃ f : Nat → Int32, h[44]? = some (.inl (.int, 81, .inl f))) ∧ (∃ f : Nat → Int32, h[45]? = some (.inl (.int, 24, .inl f))) ∧ ∃ f : Nat → Int64, h[46]? = some (.inl (.long, 160, .inr (.inl f)))
def mh (h : xm_H) (S : sp_S) : Prop := mk h S ∧ (∃ tk, mo h (sp_n S.1) tk) ∧ mw h
theorem mk_go {h h' : xm_H} {S : sp_S} (a : mk h S) (f : ∀ k, 30 ≤ k → k ≤ 37 → h'[k]? = h[k]?) : mk h' S := by
  obtain ⟨h0, ⟨T, t1, t2⟩, ⟨P, p1, p2⟩, ⟨P', q1, q2⟩, ⟨g, g1, g2⟩, ⟨t, u1, u2⟩, ⟨w, w1, w2⟩, ⟨x, x1, x2⟩, ⟨y, y1, y2⟩⟩ := a
  exact ⟨h0, ⟨T, (f 30 (by decide) (by decide)).trans t1, t2⟩, ⟨P, (f 31 (by decide) (by decide)).trans p1, p2⟩, ⟨P', (f 32 (by decide) (by decide)).trans q1, q2⟩, ⟨g, (f 33 (by decide) (by decide)).trans g1, g2⟩, ⟨t, (f 34 (by decide) (by decide)).trans u1, u2⟩, ⟨w, (f 35 (by decide) (by decide)).trans w1, w2⟩, ⟨x, (f 36 (by decide) (by decide)).trans x1, x2⟩, ⟨y, (f 37 (by decide) (by decide)).trans y1, y2⟩⟩
theorem mw4_go {h h' : xm_H} {k : Nat} (a : mw4 h k) (f : h'[k]? = h[k]?) : mw4 h' k := ⟨a.choose, f.trans a.choose_spec⟩
theorem mw_go {h h' : xm_H} (a : mw h) (f : ∀ k, 38 ≤ k → k ≤ 46 → h'[k]? = h[k]?) : mw h' := by
  obtain ⟨a1, a2, a3, a4, ⟨f1, b1⟩, ⟨f2, b2⟩, ⟨f3, b3⟩, ⟨f4, b4⟩, ⟨f5, b5⟩⟩ := a
  exact ⟨mw4_go a1 (f 38 (by decide) (by decide)), mw4_go a2 (f 39 (by decide) (by decide)), mw4_go a3 (f 40 (by decide) (by decide)), mw4_go a4 (f 41 (by decide) (by decide)), ⟨f1, (f 42 (by decide) (by decide)).trans b1⟩, ⟨f2, (f 43 (by decide) (by decide)).trans b2⟩, ⟨f3, (f 44 (by decide) (by decide)).trans b3⟩, ⟨f4, (f 45 (by decide) (by decide)).trans b4⟩, ⟨f5, (f 46 (by decide) (by decide)).trans b5⟩⟩
theorem mh_go {h h' : xm_H} {S : sp_S} (a : mh h S) (f : ∀ k, 29 ≤ k → k ≤ 46 → h'[k]? = h[k]?) : mh h' S := by
  obtain ⟨a1, ⟨tk, a2⟩, a3⟩ := a
  exact ⟨mk_go a1 (fun k z1 z2 => f k (by omega) (by omega)), ⟨tk, (f 29 (by decide) (by decide)).trans a2⟩, mw_go a3 (fun k z1 z2 => f k (by omega) (by omega))⟩
theorem c_M_out0 {L : Nat} {xs : Nat → Int32} {d : Nat} {h : xm_H} {Q : xm_Q} {k N : Nat} (hk : k < N) (hN : N ≤ 2 ^ 30) (hQ : Q (some (.int 0)) h) : xm_call L xs (d + 1) m_M_out [.int (nI k), .int (nI N)] h Q := by
  refine x_call (lo := [.int (nI k), .int (nI N)]) (Nat.le_of_ble_eq_true rfl) rfl ?_
  refine x_iload_n (pc' := 1) d_M_out_0 rfl rfl ?_
  refine x_iflt (t := 9) (pc' := 4) d_M_out_1 rfl rfl (fun q => absurd q (nI_pos (by omega))) (fun _ => ?_)
  refine x_iload_n (pc' := 5) d_M_out_4 rfl rfl ?_
  refine x_iload_n (pc' := 6) d_M_out_5 rfl rfl ?_
  refine x_icmplt (t := 13) (pc' := 9) d_M_out_6 rfl rfl (fun _ => ?_) (fun q => absurd (nI_lt hk (by omega)) q)
  refine x_iconst (v := 0) (pc' := 14) d_M_out_13 rfl (by decide) ?_
  exact x_ireturn d_M_out_14 rfl rfl hQ
theorem c_M_out1 {L : Nat} {xs : Nat → Int32} {d : Nat} {h : xm_H} {Q : xm_Q} {x : Int32} {N : Nat} (hN : N ≤ 2 ^ 30) (hx : sp_in N x = none) (hQ : Q (some (.int 1)) h) : xm_call L xs (d + 1) m_M_out [.int x, .int (nI N)] h Q := by
  refine x_call (lo := [.int x, .int (nI N)]) (Nat.le_of_ble_eq_true rfl) rfl ?_
  rcases sp_in_cases N hN x with ⟨q0, -⟩ | ⟨q0, q1, -⟩ | ⟨k, -, -, q2⟩
  · refine x_iload_n (pc' := 1) d_M_out_0 rfl rfl ?_
    refine x_iflt (t := 9) (pc' := 4) d_M_out_1 rfl rfl (fun _ => ?_) (fun q => absurd q0 q)
    refine x_iconst (v := 1) (pc' := 10) d_M_out_9 rfl (by decide) ?_
    refine x_goto (t := 14) d_M_out_10 rfl ?_
    exact x_ireturn d_M_out_14 rfl rfl hQ
  · refine x_iload_n (pc' := 1) d_M_out_0 rfl rfl ?_
    refine x_iflt (t := 9) (pc' := 4) d_M_out_1 rfl rfl (fun q => absurd q q0) (fun _ => ?_)
    refine x_iload_n (pc' := 5) d_M_out_4 rfl rfl ?_
    refine x_iload_n (pc' := 6) d_M_out_5 rfl rfl ?_
    refine x_icmplt (t := 13) (pc' := 9) d_M_out_6 rfl rfl (fun q => absurd q (Int32.not_lt.mpr q1)) (fun _ => ?_)
    refine x_iconst (v := 1) (pc' := 10) d_M_out_9 rfl (by decide) ?_
    refine x_goto (t := 14) d_M_out_10 rfl ?_
    exact x_ireturn d_M_out_14 rfl rfl hQ
  · rw [hx] at q2
    cases q2
theorem c_M_size {L : Nat} {xs : Nat → Int32} {d : Nat} {h : xm_H} {Q : xm_Q} {t : List Nat} (ht : sp_wl t) (hQ : Q (some (.int (nI t.length))) h) : xm_call L xs (d + 1) m_M_size [.long (lN (sp_enc t))] h Q := by
  have e63 : sp_enc t < 2 ^ 63 := Nat.lt_of_lt_of_le (sp_enc_lt ht.1 ht.2) (by decide)
  refine x_call (lo := [.long (lN (sp_enc t)), .float 0]) (Nat.le_of_ble_eq_true rfl) rfl ?_
  refine x_lload_n (pc' := 1) d_M_size_0 rfl rfl rfl ?_
  refine x_lconst (v := lN 0) (pc' := 2) d_M_size_1 rfl (by decide) ?_
  refine x_lcmp (z := lg_cmp (lN (sp_enc t)) (lN 0)) (pc' := 3) d_M_size_2 rfl rfl ?_
  refine x_ifge (t := 10) (pc' := 6) d_M_size_3 rfl rfl (fun _ => ?_) (fun q => absurd ((lg_cmp_ge _ _).mpr ((pk_lLE (by decide) e63).mpr (Nat.zero_le _))) q)
  refine x_lload_n (pc' := 11) d_M_size_10 rfl rfl rfl ?_
  refine x_bipush (v := nI 32) (pc' := 13) d_M_size_11 rfl (by decide) ?_
  refine x_lshr (z := lN t.length) (pc' := 14) d_M_size_13 rfl (by rw [wb_sar e63 (by decide), show 2 ^ 32 = 4294967296 from rfl, sp_enc_len ht]) ?_
  refine x_l2i (z := nI t.length) (pc' := 15) d_M_size_14 rfl (lN_i _) ?_
  exact x_ireturn d_M_size_15 rfl rfl hQ
theorem c_M_line {L : Nat} {xs : Nat → Int32} {d : Nat} {h : xm_H} {Q : xm_Q} {t : List Nat} {j : Nat} (ht : sp_wl t) (hj : j < t.length) (hQ : Q (some (.int (nI (t.getD j 0)))) h) : xm_call L xs (d + 1) m_M_line [.long (lN (sp_enc t)), .int (nI j)] h Q := by
  refine x_call (lo := [.long (lN (sp_enc t)), .float 0, .int (nI j)]) (Nat.le_of_ble_eq_true rfl) rfl ?_
  refine x_lload_n (pc' := 1) d_M_line_0 rfl rfl rfl ?_
  refine x_iconst (v := nI 4) (pc' := 2) d_M_line_1 rfl (by decide) ?_
  refine x_iload_n (pc' := 3) d_M_line_2 rfl rfl ?_
  refine x_imul (z := nI (4 * j)) (pc' := 4) d_M_line_3 rfl (pk_mul 4 j) ?_
  refine x_lshr (z := (lN (sp_enc t)) >>> ((nI (4 * j)).toInt64 &&& 63)) (pc' := 5) d_M_line_4 rfl rfl ?_
  refine x_ldc2_w (x := 15) (pc' := 8) d_M_line_5 rfl k_M_64 ?_
  refine x_land (z := lN (t.getD j 0)) (pc' := 9) d_M_line_8 rfl (by rw [show (15 : Int64) = lN (2 ^ 4 - 1) from rfl, wb_sarm (by have := ht.1; omega) (by have := ht.1; omega), sp_16, show 2 ^ 4 = 16 from rfl, sp_enc_at ht hj]) ?_
  refine x_l2i (z := nI (t.getD j 0)) (pc' := 10) d_M_line_9 rfl (lN_i _) ?_
  exact x_ireturn d_M_line_10 rfl rfl hQ
theorem c_M_head {L : Nat} {xs : Nat → Int32} {d : Nat} {h : xm_H} {Q : xm_Q} {S : sp_S} {tk : Int32} (hO : mo h (sp_n S.1) tk) (hM : mk h S) {r : Nat} (hr : r < 2) (hc : sp_cur (S.2 r) < 4) (hQ : Q (some (.int (sp_vi (sp_head (S.2 r))))) h) : xm_call L xs (d + 1) m_M_head [.ref 29, .int (nI r)] h Q := by
  obtain ⟨t, t1, t2⟩ := hM.2.2.2.2.2.1
  obtain ⟨w, w1, w2⟩ := hM.2.2.2.2.2.2.1
  refine x_call (lo := [.ref 29, .int (nI r)]) (Nat.le_of_ble_eq_true rfl) rfl ?_
  refine x_aload_n (pc' := 1) d_M_head_0 rfl rfl ?_
  refine x_getfield (ci := 4) (i := 5) (v := .ref 34) (pc' := 4) d_M_head_1 rfl g_M_23 hO rfl ?_
  refine x_iconst (v := nI 4) (pc' := 5) d_M_head_4 rfl (by decide) ?_
  refine x_iload_n (pc' := 6) d_M_head_5 rfl rfl ?_
  refine x_imul (z := nI (4 * r)) (pc' := 7) d_M_head_6 rfl (pk_mul 4 r) ?_
  refine x_aload_n (pc' := 8) d_M_head_7 rfl rfl ?_
  refine x_getfield (ci := 4) (i := 6) (v := .ref 35) (pc' := 11) d_M_head_8 rfl g_M_26 hO rfl ?_
  refine x_iload_n (pc' := 12) d_M_head_11 rfl rfl ?_
  refine x_iaload (v := nI (sp_cur (S.2 r))) (pc' := 13) d_M_head_12 rfl w1 (vp_in_nI hr (by decide)) (by rw [nI_clamp (by omega)]; exact w2 r hr) ?_
  refine x_iadd (z := nI (4 * r + sp_cur (S.2 r))) (pc' := 14) d_M_head_13 rfl (nI_add _ _) ?_
  refine x_iaload (v := sp_vi (sp_head (S.2 r))) (pc' := 15) d_M_head_14 rfl t1 (vp_in_nI (by omega) (by decide)) (by rw [nI_clamp (by omega)]; exact t2 r hr _ hc) ?_
  exact x_ireturn d_M_head_15 rfl rfl hQ
theorem c_M_textOf0 {L : Nat} {xs : Nat → Int32} {d : Nat} {h : xm_H} {Q : xm_Q} {y : Int32} (hQ : Q (some (.long (-2))) h) : xm_call L xs (d + 1) m_M_textOf [.ref 29, .int (-2), .int y] h Q := by
  refine x_call (lo := [.ref 29, .int (-2), .int y]) (Nat.le_of_ble_eq_true rfl) rfl ?_
  refine x_iload_n (pc' := 1) d_M_textOf_0 rfl rfl ?_
  refine x_ifge (t := 10) (pc' := 4) d_M_textOf_1 rfl rfl (fun q => absurd q (by decide)) (fun _ => ?_)
  refine x_ldc2_w (x := (-2)) (pc' := 7) d_M_textOf_4 rfl k_M_62 ?_
  refine x_goto (t := 20) d_M_textOf_7 rfl ?_
  exact x_lreturn d_M_textOf_20 rfl hQ
theorem c_M_textOf1 {L : Nat} {xs : Nat → Int32} {d : Nat} {h : xm_H} {Q : xm_Q} {S : sp_S} {tk : Int32} (hO : mo h (sp_n S.1) tk) (hM : mk h S) {c f : Nat} (hc : c < sp_n S.1) (hf : f < 4) (hQ : Q (some (.long (sp_tv (sp_of S.1 (some c) f)))) h) : xm_call L xs (d + 1) m_M_textOf [.ref 29, .int (nI c), .int (nI f)] h Q := by
  have h40 := hM.1
  obtain ⟨T, T1, T2⟩ := hM.2.1
  refine x_call (lo := [.ref 29, .int (nI c), .int (nI f)]) (Nat.le_of_ble_eq_true rfl) rfl ?_
  refine x_iload_n (pc' := 1) d_M_textOf_0 rfl rfl ?_
  refine x_ifge (t := 10) (pc' := 4) d_M_textOf_1 rfl rfl (fun _ => ?_) (fun q => absurd (nI_pos' (by omega)) q)
  refine x_aload_n (pc' := 11) d_M_textOf_10 rfl rfl ?_
  refine x_getfield (ci := 4) (i := 1) (v := .ref 30) (pc' := 14) d_M_textOf_11 rfl g_M_7 hO rfl ?_
  refine x_iconst (v := nI 4) (pc' := 15) d_M_textOf_14 rfl (by decide) ?_
  refine x_iload_n (pc' := 16) d_M_textOf_15 rfl rfl ?_
  refine x_imul (z := nI (4 * c)) (pc' := 17) d_M_textOf_16 rfl (pk_mul 4 c) ?_
  refine x_iload_n (pc' := 18) d_M_textOf_17 rfl rfl ?_
  refine x_iadd (z := nI (4 * c + f)) (pc' := 19) d_M_textOf_18 rfl (nI_add _ _) ?_
  refine x_laload (v := sp_tv (sp_of S.1 (some c) f)) (pc' := 20) d_M_textOf_19 rfl T1 (vp_in_nI (by omega) (by decide)) (by rw [nI_clamp (by omega)]; exact T2 _ (by omega)) ?_
  exact x_lreturn d_M_textOf_20 rfl hQ
theorem c_M_textOf {L : Nat} {xs : Nat → Int32} {d : Nat} {h : xm_H} {Q : xm_Q} {S : sp_S} {tk : Int32} (hO : mo h (sp_n S.1) tk) (hM : mk h S) {c : Option Nat} {f : Nat} (hc : sp_ok (sp_n S.1) c) (hf : f < 4) (hQ : Q (some (.long (sp_tv (sp_of S.1 c f)))) h) : xm_call L xs (d + 1) m_M_textOf [.ref 29, .int (sp_vi c), .int (nI f)] h Q := by
  cases c with
  | none => exact c_M_textOf0 hQ
  | some k => exact c_M_textOf1 hO hM (hc k rfl) hf hQ
