/-! The commits' row as the heap holds it; contracts of the methods that read it. (Printed by c_hist.py.) -/
def sp_ok (n : Nat) (c : Option Nat) : Prop := ∀ k, c = some k → k < n
theorem x_q {Q : xm_Q} {h : xm_H} {a b : Int32} (e : a = b) (q : Q (some (.int a)) h) : Q (some (.int b)) h := e ▸ q
theorem x_ql {Q : xm_Q} {h : xm_H} {a b : Int64} (e : a = b) (q : Q (some (.long a)) h) : Q (some (.long b)) h := e ▸ q
def ch_o (h : xm_H) (n : Nat) : Prop := n ≤ 40 ∧ h[1]? = some (.inr (0, [.ref 2, .ref 3, .ref 4, .ref 5, .int (nI n)]))
def ch_H (h : xm_H) (H : sp_H) : Prop := ch_o h (sp_n H) ∧ (∃ T : Nat → Int64, h[2]? = some (.inl (.long, 160, .inr (.inl T))) ∧ ∀ j, j < 4 * sp_n H → T j = sp_tv (sp_tx H j)) ∧ (∃ P : Nat → Int32, h[3]? = some (.inl (.int, 40, .inl P)) ∧ ∀ c, c < sp_n H → P c = sp_vi (sp_p1 H c)) ∧
  (∃ P : Nat → Int32, h[4]? = some (.inl (.int, 40, .inl P)) ∧ ∀ c, c < sp_n H → P c = sp_vi (sp_p2 H c)) ∧ ∃ R : Nat → Int64, h[5]? = some (.inl (.long, 40, .inr (.inl R))) ∧ ∀ c, c < sp_n H → R c = lN (sp_rr H c)
theorem sp_made_t {n : Nat} (hn : n ≤ 2 ^ 30) {x : Int32} (h0 : ¬ x < 0) (h1 : ¬ nI n ≤ x) : ∃ k, k < n ∧ x = nI k := by
  rcases sp_in_cases n hn x with h | h | ⟨k, h2, h3, -⟩
  · exact absurd h.1 h0
  · exact absurd h.2.1 h1
  · exact ⟨k, h2, h3⟩
theorem c_H_isIn {L : Nat} {xs : Nat → Int32} {d : Nat} {h : xm_H} {m k : Nat} {Q : xm_Q} (hm : m < 2 ^ 64) (hk : k < 64) (hQ : Q (some (.int (sp_bi (m.testBit k)))) h) : xm_call L xs (d + 1) m_H_isIn [.long (lN m), .int (nI k)] h Q := by
  refine x_call (lo := [.long (lN m), .float 0, .int (nI k)]) (Nat.le_of_ble_eq_true rfl) rfl ?_
  refine x_lload_n (pc' := 1) d_H_isIn_0 rfl rfl rfl ?_
  refine x_iload_n (pc' := 2) d_H_isIn_1 rfl rfl ?_
  refine x_lushr (z := lN (m / 2 ^ k)) (pc' := 3) d_H_isIn_2 rfl (wb_shr hm hk) ?_
  refine x_lconst (v := 1) (pc' := 4) d_H_isIn_3 rfl (by decide) ?_
  refine x_land (z := lN (m / 2 ^ k % 2)) (pc' := 5) d_H_isIn_4 rfl (wb_a1 (sp_lt64 hm)) ?_
  refine x_lconst (v := 0) (pc' := 6) d_H_isIn_5 rfl (by decide) ?_
  refine x_lcmp (z := lg_cmp (lN (m / 2 ^ k % 2)) 0) (pc' := 7) d_H_isIn_6 rfl rfl ?_
  refine x_ifeq (t := 14) (pc' := 10) d_H_isIn_7 rfl rfl (fun q => ?_) (fun q => ?_)
  · refine x_iconst (v := 0) (pc' := 15) d_H_isIn_14 rfl (by decide) ?_
    exact x_ireturn d_H_isIn_15 rfl rfl (x_q (by rw [sp_tb_0 q]; rfl) hQ)
  · refine x_iconst (v := 1) (pc' := 11) d_H_isIn_10 rfl (by decide) ?_
    refine x_goto (t := 15) d_H_isIn_11 rfl ?_
    exact x_ireturn d_H_isIn_15 rfl rfl (x_q (by rw [sp_tb_1 q]; rfl) hQ)
theorem c_H_made {L : Nat} {xs : Nat → Int32} {d : Nat} {h : xm_H} {n k : Nat} {Q : xm_Q} (hH : ch_o h n) (hk : k < n) (hQ : Q (some (.int 1)) h) : xm_call L xs (d + 1) m_H_isMade [.ref 1, .int (nI k)] h Q := by
  refine x_call (lo := [.ref 1, .int (nI k)]) (Nat.le_of_ble_eq_true rfl) rfl ?_
  refine x_iload_n (pc' := 1) d_H_isMade_0 rfl rfl ?_
  refine x_iflt (t := 16) (pc' := 4) d_H_isMade_1 rfl rfl (fun q => absurd q (nI_pos (by have := hH.1; omega))) (fun _ => ?_)
  refine x_iload_n (pc' := 5) d_H_isMade_4 rfl rfl ?_
  refine x_aload_n (pc' := 6) d_H_isMade_5 rfl rfl ?_
  refine x_getfield (ci := 0) (i := 4) (v := .int (nI n)) (pc' := 9) d_H_isMade_6 rfl g_H_25 hH.2 rfl ?_
  refine x_icmpge (t := 16) (pc' := 12) d_H_isMade_9 rfl rfl (fun q => absurd q (nI_ge hk (by have := hH.1; omega))) (fun _ => ?_)
  refine x_iconst (v := 1) (pc' := 13) d_H_isMade_12 rfl (by decide) ?_
  refine x_goto (t := 17) d_H_isMade_13 rfl ?_
  exact x_ireturn d_H_isMade_17 rfl rfl hQ
theorem c_H_unmade {L : Nat} {xs : Nat → Int32} {d : Nat} {h : xm_H} {n : Nat} {x : Int32} {Q : xm_Q} (hH : ch_o h n) (hx : sp_in n x = none) (hQ : Q (some (.int 0)) h) : xm_call L xs (d + 1) m_H_isMade [.ref 1, .int x] h Q := by
  refine x_call (lo := [.ref 1, .int x]) (Nat.le_of_ble_eq_true rfl) rfl ?_
  refine x_iload_n (pc' := 1) d_H_isMade_0 rfl rfl ?_
  refine x_iflt (t := 16) (pc' := 4) d_H_isMade_1 rfl rfl (fun q1 => ?_) (fun q1 => ?_)
  · refine x_iconst (v := 0) (pc' := 17) d_H_isMade_16 rfl (by decide) ?_
    exact x_ireturn d_H_isMade_17 rfl rfl hQ
  · refine x_iload_n (pc' := 5) d_H_isMade_4 rfl rfl ?_
    refine x_aload_n (pc' := 6) d_H_isMade_5 rfl rfl ?_
    refine x_getfield (ci := 0) (i := 4) (v := .int (nI n)) (pc' := 9) d_H_isMade_6 rfl g_H_25 hH.2 rfl ?_
    refine x_icmpge (t := 16) (pc' := 12) d_H_isMade_9 rfl rfl (fun q2 => ?_) (fun q2 => ?_)
    · refine x_iconst (v := 0) (pc' := 17) d_H_isMade_16 rfl (by decide) ?_
      exact x_ireturn d_H_isMade_17 rfl rfl hQ
    · exact absurd hx (by obtain ⟨k, hk, rfl⟩ := sp_made_t (by have := hH.1; omega) q1 q2; rw [sp_in_some hk (by have := hH.1; omega)]; exact fun z => by cases z)
theorem c_H_textOf1 {L : Nat} {xs : Nat → Int32} {d : Nat} {h : xm_H} {H : sp_H} {Q : xm_Q} {k f : Nat} (hH : ch_H h H) (hk : k < sp_n H) (hf : f < 4) (hQ : Q (some (.long (sp_tv (sp_of H (some k) f)))) h) : xm_call L xs (d + 2) m_H_textOf [.ref 1, .int (nI k), .int (nI f)] h Q := by
  obtain ⟨T, hT, hT2⟩ := hH.2.1
  refine x_call (lo := [.ref 1, .int (nI k), .int (nI f)]) (Nat.le_of_ble_eq_true rfl) rfl ?_
  refine x_aload_n (pc' := 1) d_H_textOf_0 rfl rfl ?_
  refine x_iload_n (pc' := 2) d_H_textOf_1 rfl rfl ?_
  refine x_virtual (a := 1) (as := [.int (nI k)]) (r := []) (v := (some (.int 1))) (h' := h) (st' := [.int 1]) (c' := 0) (s' := 0) (pc' := 5) d_H_textOf_2 rfl c_H_29 hH.1.2 rfl rfl (Nat.le_of_ble_eq_true rfl) (Nat.le_of_ble_eq_true rfl) (Nat.le_of_ble_eq_true rfl) (fun Q' hq => c_H_made hH.1 hk hq) rfl rfl rfl ?_
  refine x_ifeq (t := 21) (pc' := 8) d_H_textOf_5 rfl rfl (fun q => absurd q (by decide)) (fun _ => ?_)
  refine x_aload_n (pc' := 9) d_H_textOf_8 rfl rfl ?_
  refine x_getfield (ci := 0) (i := 0) (v := .ref 2) (pc' := 12) d_H_textOf_9 rfl g_H_9 hH.1.2 rfl ?_
  refine x_iload_n (pc' := 13) d_H_textOf_12 rfl rfl ?_
  refine x_iconst (v := nI 4) (pc' := 14) d_H_textOf_13 rfl (by decide) ?_
  refine x_imul (z := nI (k * 4)) (pc' := 15) d_H_textOf_14 rfl (pk_mul k 4) ?_
  refine x_iload_n (pc' := 16) d_H_textOf_15 rfl rfl ?_
  refine x_iadd (z := nI (k * 4 + f)) (pc' := 17) d_H_textOf_16 rfl (nI_add _ _) ?_
  refine x_laload (v := sp_tv (sp_of H (some k) f)) (pc' := 18) d_H_textOf_17 rfl hT (vp_in_nI (by have := hH.1.1; omega) (by decide)) (by rw [nI_clamp (by have := hH.1.1; omega), hT2 _ (by omega)]; show _ = sp_tv (sp_tx H (4 * k + f)); rw [Nat.mul_comm k 4]) ?_
  refine x_goto (t := 24) d_H_textOf_18 rfl ?_
  exact x_lreturn d_H_textOf_24 rfl hQ
theorem c_H_textOf0 {L : Nat} {xs : Nat → Int32} {d : Nat} {h : xm_H} {H : sp_H} {Q : xm_Q} {y : Int32} (hH : ch_H h H) (hQ : Q (some (.long (-2))) h) : xm_call L xs (d + 2) m_H_textOf [.ref 1, .int (-2), .int y] h Q := by
  refine x_call (lo := [.ref 1, .int (-2), .int y]) (Nat.le_of_ble_eq_true rfl) rfl ?_
  refine x_aload_n (pc' := 1) d_H_textOf_0 rfl rfl ?_
  refine x_iload_n (pc' := 2) d_H_textOf_1 rfl rfl ?_
  refine x_virtual (a := 1) (as := [.int (-2)]) (r := []) (v := (some (.int 0))) (h' := h) (st' := [.int 0]) (c' := 0) (s' := 0) (pc' := 5) d_H_textOf_2 rfl c_H_29 hH.1.2 rfl rfl (Nat.le_of_ble_eq_true rfl) (Nat.le_of_ble_eq_true rfl) (Nat.le_of_ble_eq_true rfl) (fun Q' hq => c_H_unmade hH.1 (sp_in_lt (by decide)) hq) rfl rfl rfl ?_
  refine x_ifeq (t := 21) (pc' := 8) d_H_textOf_5 rfl rfl (fun _ => ?_) (fun q => absurd rfl q)
  refine x_ldc2_w (x := (-2)) (pc' := 24) d_H_textOf_21 rfl k_H_33 ?_
  exact x_lreturn d_H_textOf_24 rfl hQ
theorem c_H_textOf {L : Nat} {xs : Nat → Int32} {d : Nat} {h : xm_H} {H : sp_H} {Q : xm_Q} {c : Option Nat} {f : Nat} (hH : ch_H h H) (hc : sp_ok (sp_n H) c) (hf : f < 4) (hQ : Q (some (.long (sp_tv (sp_of H c f)))) h) : xm_call L xs (d + 2) m_H_textOf [.ref 1, .int (sp_vi c), .int (nI f)] h Q := by
  cases c with
  | none => exact c_H_textOf0 hH hQ
  | some k => exact c_H_textOf1 hH (hc k rfl) hf hQ
theorem c_H_reachOf1 {L : Nat} {xs : Nat → Int32} {d : Nat} {h : xm_H} {H : sp_H} {Q : xm_Q} {k : Nat} (hH : ch_H h H) (hk : k < sp_n H) (hQ : Q (some (.long (lN (sp_rr H k)))) h) : xm_call L xs (d + 2) m_H_reachOf [.ref 1, .int (nI k)] h Q := by
  obtain ⟨T, hT, hT2⟩ := hH.2.2.2.2
  refine x_call (lo := [.ref 1, .int (nI k)]) (Nat.le_of_ble_eq_true rfl) rfl ?_
  refine x_aload_n (pc' := 1) d_H_reachOf_0 rfl rfl ?_
  refine x_iload_n (pc' := 2) d_H_reachOf_1 rfl rfl ?_
  refine x_virtual (a := 1) (as := [.int (nI k)]) (r := []) (v := (some (.int 1))) (h' := h) (st' := [.int 1]) (c' := 0) (s' := 0) (pc' := 5) d_H_reachOf_2 rfl c_H_29 hH.1.2 rfl rfl (Nat.le_of_ble_eq_true rfl) (Nat.le_of_ble_eq_true rfl) (Nat.le_of_ble_eq_true rfl) (fun Q' hq => c_H_made hH.1 hk hq) rfl rfl rfl ?_
  refine x_ifeq (t := 17) (pc' := 8) d_H_reachOf_5 rfl rfl (fun q => absurd q (by decide)) (fun _ => ?_)
  refine x_aload_n (pc' := 9) d_H_reachOf_8 rfl rfl ?_
  refine x_getfield (ci := 0) (i := 3) (v := .ref 5) (pc' := 12) d_H_reachOf_9 rfl g_H_22 hH.1.2 rfl ?_
  refine x_iload_n (pc' := 13) d_H_reachOf_12 rfl rfl ?_
  refine x_laload (v := lN (sp_rr H k)) (pc' := 14) d_H_reachOf_13 rfl hT (vp_in_nI (by have := hH.1.1; omega) (by decide)) (by rw [nI_clamp (by have := hH.1.1; omega), hT2 _ hk]) ?_
  refine x_goto (t := 18) d_H_reachOf_14 rfl ?_
  exact x_lreturn d_H_reachOf_18 rfl hQ
theorem c_H_reachOf0 {L : Nat} {xs : Nat → Int32} {d : Nat} {h : xm_H} {H : sp_H} {Q : xm_Q} (hH : ch_H h H) (hQ : Q (some (.long 0)) h) : xm_call L xs (d + 2) m_H_reachOf [.ref 1, .int (-2)] h Q := by
  refine x_call (lo := [.ref 1, .int (-2)]) (Nat.le_of_ble_eq_true rfl) rfl ?_
  refine x_aload_n (pc' := 1) d_H_reachOf_0 rfl rfl ?_
  refine x_iload_n (pc' := 2) d_H_reachOf_1 rfl rfl ?_
  refine x_virtual (a := 1) (as := [.int (-2)]) (r := []) (v := (some (.int 0))) (h' := h) (st' := [.int 0]) (c' := 0) (s' := 0) (pc' := 5) d_H_reachOf_2 rfl c_H_29 hH.1.2 rfl rfl (Nat.le_of_ble_eq_true rfl) (Nat.le_of_ble_eq_true rfl) (Nat.le_of_ble_eq_true rfl) (fun Q' hq => c_H_unmade hH.1 (sp_in_lt (by decide)) hq) rfl rfl rfl ?_
  refine x_ifeq (t := 17) (pc' := 8) d_H_reachOf_5 rfl rfl (fun _ => ?_) (fun q => absurd rfl q)
  refine x_lconst (v := 0) (pc' := 18) d_H_reachOf_17 rfl (by decide) ?_
  exact x_lreturn d_H_reachOf_18 rfl hQ
theorem c_H_reachOf {L : Nat} {xs : Nat → Int32} {d : Nat} {h : xm_H} {H : sp_H} {Q : xm_Q} {c : Option Nat} (hH : ch_H h H) (hc : sp_ok (sp_n H) c) (hQ : Q (some (.long (lN (sp_ro H c)))) h) : xm_call L xs (d + 2) m_H_reachOf [.ref 1, .int (sp_vi c)] h Q := by
  cases c with
  | none => exact c_H_reachOf0 hH hQ
  | some k => exact c_H_reachOf1 hH (hc k rfl) hQ
theorem c_H_firstParentOf {L : Nat} {xs : Nat → Int32} {d : Nat} {h : xm_H} {H : sp_H} {Q : xm_Q} {k : Nat} (hH : ch_H h H) (hk : k < sp_n H) (hQ : Q (some (.int (sp_vi (sp_p1 H k)))) h) : xm_call L xs (d + 2) m_H_firstParentOf [.ref 1, .int (nI k)] h Q := by
  obtain ⟨T, hT, hT2⟩ := hH.2.2.1
  refine x_call (lo := [.ref 1, .int (nI k)]) (Nat.le_of_ble_eq_true rfl) rfl ?_
  refine x_aload_n (pc' := 1) d_H_firstParentOf_0 rfl rfl ?_
  refine x_iload_n (pc' := 2) d_H_firstParentOf_1 rfl rfl ?_
  refine x_virtual (a := 1) (as := [.int (nI k)]) (r := []) (v := (some (.int 1))) (h' := h) (st' := [.int 1]) (c' := 0) (s' := 0) (pc' := 5) d_H_firstParentOf_2 rfl c_H_29 hH.1.2 rfl rfl (Nat.le_of_ble_eq_true rfl) (Nat.le_of_ble_eq_true rfl) (Nat.le_of_ble_eq_true rfl) (fun Q' hq => c_H_made hH.1 hk hq) rfl rfl rfl ?_
  refine x_ifeq (t := 17) (pc' := 8) d_H_firstParentOf_5 rfl rfl (fun q => absurd q (by decide)) (fun _ => ?_)
  refine x_aload_n (pc' := 9) d_H_firstParentOf_8 rfl rfl ?_
  refine x_getfield (ci := 0) (i := 1) (v := .ref 3) (pc' := 12) d_H_firstParentOf_9 rfl g_H_15 hH.1.2 rfl ?_
  refine x_iload_n (pc' := 13) d_H_firstParentOf_12 rfl rfl ?_
  refine x_iaload (v := sp_vi (sp_p1 H k)) (pc' := 14) d_H_firstParentOf_13 rfl hT (vp_in_nI (by have := hH.1.1; omega) (by decide)) (by rw [nI_clamp (by have := hH.1.1; omega), hT2 _ hk]) ?_
  refine x_goto (t := 19) d_H_firstParentOf_14 rfl ?_
  exact x_ireturn d_H_firstParentOf_19 rfl rfl hQ
theorem c_H_secondParentOf {L : Nat} {xs : Nat → Int32} {d : Nat} {h : xm_H} {H : sp_H} {Q : xm_Q} {k : Nat} (hH : ch_H h H) (hk : k < sp_n H) (hQ : Q (some (.int (sp_vi (sp_p2 H k)))) h) : xm_call L xs (d + 2) m_H_secondParentOf [.ref 1, .int (nI k)] h Q := by
  obtain ⟨T, hT, hT2⟩ := hH.2.2.2.1
  refine x_call (lo := [.ref 1, .int (nI k)]) (Nat.le_of_ble_eq_true rfl) rfl ?_
  refine x_aload_n (pc' := 1) d_H_secondParentOf_0 rfl rfl ?_
  refine x_iload_n (pc' := 2) d_H_secondParentOf_1 rfl rfl ?_
  refine x_virtual (a := 1) (as := [.int (nI k)]) (r := []) (v := (some (.int 1))) (h' := h) (st' := [.int 1]) (c' := 0) (s' := 0) (pc' := 5) d_H_secondParentOf_2 rfl c_H_29 hH.1.2 rfl rfl (Nat.le_of_ble_eq_true rfl) (Nat.le_of_ble_eq_true rfl) (Nat.le_of_ble_eq_true rfl) (fun Q' hq => c_H_made hH.1 hk hq) rfl rfl rfl ?_
  refine x_ifeq (t := 17) (pc' := 8) d_H_secondParentOf_5 rfl rfl (fun q => absurd q (by decide)) (fun _ => ?_)
  refine x_aload_n (pc' := 9) d_H_secondParentOf_8 rfl rfl ?_
  refine x_getfield (ci := 0) (i := 2) (v := .ref 4) (pc' := 12) d_H_secondParentOf_9 rfl g_H_19 hH.1.2 rfl ?_
  refine x_iload_n (pc' := 13) d_H_secondParentOf_12 rfl rfl ?_
  refine x_iaload (v := sp_vi (sp_p2 H k)) (pc' := 14) d_H_secondParentOf_13 rfl hT (vp_in_nI (by have := hH.1.1; omega) (by decide)) (by rw [nI_clamp (by have := hH.1.1; omega), hT2 _ hk]) ?_
  refine x_goto (t := 19) d_H_secondParentOf_14 rfl ?_
  exact x_ireturn d_H_secondParentOf_19 rfl rfl hQ
theorem c_H_reaches {L : Nat} {xs : Nat → Int32} {d : Nat} {h : xm_H} {H : sp_H} {Q : xm_Q} {c : Option Nat} {k : Nat} (hH : ch_H h H) (hc : sp_ok (sp_n H) c) (hm : sp_ro H c < 2 ^ 64) (hk : k < 64) (hQ : Q (some (.int (sp_bi ((sp_ro H c).testBit k)))) h) : xm_call L xs (d + 3) m_H_reaches [.ref 1, .int (sp_vi c), .int (nI k)] h Q := by
  refine x_call (lo := [.ref 1, .int (sp_vi c), .int (nI k)]) (Nat.le_of_ble_eq_true rfl) rfl ?_
  refine x_aload_n (pc' := 1) d_H_reaches_0 rfl rfl ?_
  refine x_iload_n (pc' := 2) d_H_reaches_1 rfl rfl ?_
  refine x_virtual (a := 1) (as := [.int (sp_vi c)]) (r := []) (v := (some (.long (lN (sp_ro H c))))) (h' := h) (st' := [.long (lN (sp_ro H c))]) (c' := 0) (s' := 0) (pc' := 5) d_H_reaches_2 rfl c_H_39 hH.1.2 rfl rfl (Nat.le_of_ble_eq_true rfl) (Nat.le_of_ble_eq_true rfl) (Nat.le_of_ble_eq_true rfl) (fun Q' hq => c_H_reachOf hH hc hq) rfl rfl rfl ?_
  refine x_iload_n (pc' := 6) d_H_reaches_5 rfl rfl ?_
  refine x_static (as := [.long (lN (sp_ro H c)), .int (nI k)]) (r := []) (v := (some (.int (sp_bi ((sp_ro H c).testBit k))))) (h' := h) (st' := [.int (sp_bi ((sp_ro H c).testBit k))]) (c' := 0) (s' := 0) (pc' := 9) d_H_reaches_6 rfl c_H_43 rfl rfl (Nat.le_of_ble_eq_true rfl) (Nat.le_of_ble_eq_true rfl) (Nat.le_of_ble_eq_true rfl) (fun Q' hq => c_H_isIn hm hk hq) rfl rfl rfl ?_
  exact x_ireturn d_H_reaches_9 rfl (sp_bi_nar _) hQ
def ch_R (h : xm_H) (a : Nat) (R : sp_R) : Prop := sp_cur R < 4 ∧ h[a]? = some (.inr (1, [.ref (a + 1), .ref (a + 2), .ref (a + 3), .long (lN (sp_held R)), .int (nI (sp_cur R))])) ∧ (∃ t : Nat → Int32, h[a + 1]? = some (.inl (.int, 4, .inl t)) ∧ ∀ j, j < 4 → t j = sp_vi (sp_tip R j)) ∧
  (∃ w : Nat → Int64, h[a + 2]? = some (.inl (.long, 4, .inr (.inl w))) ∧ ∀ j, j < 4 → w j = sp_tv (sp_wk R j)) ∧ ∃ x : Nat → Int64, h[a + 3]? = some (.inl (.long, 4, .inr (.inl x))) ∧ ∀ j, j < 4 → x j = sp_tv (sp_ix R j)
theorem c_R_head {L : Nat} {xs : Nat → Int32} {d : Nat} {h : xm_H} {a : Nat} {R : sp_R} {Q : xm_Q} (hR : ch_R h a R) (hQ : Q (some (.int (sp_vi (sp_head R)))) h) : xm_call L xs (d + 1) m_R_head [.ref a] h Q := by
  obtain ⟨T, hT, hT2⟩ := hR.2.2.1
  refine x_call (lo := [.ref a]) (Nat.le_of_ble_eq_true rfl) rfl ?_
  refine x_aload_n (pc' := 1) d_R_head_0 rfl rfl ?_
  refine x_getfield (ci := 1) (i := 0) (v := .ref (a + 1)) (pc' := 4) d_R_head_1 rfl g_R_9 hR.2.1 rfl ?_
  refine x_aload_n (pc' := 5) d_R_head_4 rfl rfl ?_
  refine x_getfield (ci := 1) (i := 4) (v := .int (nI (sp_cur R))) (pc' := 8) d_R_head_5 rfl g_R_28 hR.2.1 rfl ?_
  refine x_iaload (v := sp_vi (sp_head R)) (pc' := 9) d_R_head_8 rfl hT (vp_in_nI hR.1 (by decide)) (by rw [nI_clamp (by have := hR.1; omega), hT2 _ hR.1]; rfl) ?_
  exact x_ireturn d_R_head_9 rfl rfl hQ
