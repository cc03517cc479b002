/-! joinCommits, doAgain, merge, pick. (Printed by c_v4.py.) -/
theorem sp_base_ok {H : sp_H} {a b : Option Nat} : sp_ok (sp_n H) (sp_base H a b) := by
  intro k e
  unfold sp_base at e
  exact List.mem_range.mp (List.mem_of_find?_eq_some e)
theorem sp_eq4_comm (a b : sp_T) : sp_eq4 a b = sp_eq4 b a := by
  unfold sp_eq4
  rw [decide_eq_decide]
  constructor
  · rintro ⟨h0, h1, h2, h3⟩
    exact ⟨h0.symm, h1.symm, h2.symm, h3.symm⟩
  · rintro ⟨h0, h1, h2, h3⟩
    exact ⟨h0.symm, h1.symm, h2.symm, h3.symm⟩
abbrev sp_JS : Nat → Prop := fun k => (1 ≤ k ∧ k ≤ 5) ∨ (16 ≤ k ∧ k ≤ 28)
/-- the commits and the uniter's rows change -/
theorem ch_V_his {h h' : xm_H} {S : sp_S} (hV : ch_V h S) {H : sp_H} {u : Nat → Int64} (f : xl_fr sp_JS h h') (hH : ch_H h' H) (hU : ch_U h' u) : ch_V h' (H, S.2) := by
  obtain ⟨h0, ⟨g, h1, h2⟩, h3, h4, -⟩ := hV
  exact ⟨(f.2 0 (by show ¬ ((1 ≤ 0 ∧ 0 ≤ 5) ∨ (16 ≤ 0 ∧ 0 ≤ 28)); omega)).trans h0, ⟨g, (f.2 6 (by show ¬ ((1 ≤ 6 ∧ 6 ≤ 5) ∨ (16 ≤ 6 ∧ 6 ≤ 28)); omega)).trans h1, h2⟩, hH, fun x hx => ch_R_go (h4 x hx) (fun k a b => f.2 k (by show ¬ ((1 ≤ k ∧ k ≤ 5) ∨ (16 ≤ k ∧ k ≤ 28)); omega)), ⟨u, hU⟩⟩
theorem c_V_joinCommits {L : Nat} {xs : Nat → Int32} {d : Nat} {h : xm_H} {Q : xm_Q} {S : sp_S} (hV : ch_V h S) (hW : sp_WH S.1) {p q : Nat} (hp1 : p < sp_n S.1) (hq1 : q < sp_n S.1)
    (h0 : sp_snap (sp_of S.1 (sp_base S.1 (some p) (some q))) (sp_of S.1 (some p)) (sp_of S.1 (some q)) = none → ∀ h', ch_V h' S → xl_fr sp_US h h' → Q (some (.int (-5))) h')
    (h1q : ∀ t, sp_snap (sp_of S.1 (sp_base S.1 (some p) (some q))) (sp_of S.1 (some p)) (sp_of S.1 (some q)) = some t → 40 ≤ sp_n S.1 → ∀ h', ch_V h' S → xl_fr sp_US h h' → Q (some (.int (-6))) h')
    (h2q : ∀ t, sp_snap (sp_of S.1 (sp_base S.1 (some p) (some q))) (sp_of S.1 (some p)) (sp_of S.1 (some q)) = some t → sp_n S.1 < 40 → (∀ j, j < 4 → sp_wt (t j)) → ∀ h', ch_H h' (sp_add S.1 t (some p) (some q)) → ∀ u, ch_U h' u → xl_fr sp_JS h h' → Q (some (.int (nI (sp_n S.1)))) h') : xm_call L xs (d + 7) m_V_joinCommits [.ref 0, .int (nI p), .int (nI q)] h Q := by
  obtain ⟨u, hU⟩ := hV.2.2.2.2
  refine x_call (lo := [.ref 0, .int (nI p), .int (nI q)]) (Nat.le_of_ble_eq_true rfl) rfl ?_
  refine x_aload_n (pc' := 1) d_V_joinCommits_0 rfl rfl ?_
  refine x_getfield (ci := 3) (i := 2) (v := .ref 15) (pc' := 4) d_V_joinCommits_1 rfl g_V_26 hV.1 rfl ?_
  refine x_aload_n (pc' := 5) d_V_joinCommits_4 rfl rfl ?_
  refine x_getfield (ci := 3) (i := 0) (v := .ref 1) (pc' := 8) d_V_joinCommits_5 rfl g_V_10 hV.1 rfl ?_
  refine x_aload_n (pc' := 9) d_V_joinCommits_8 rfl rfl ?_
  refine x_getfield (ci := 3) (i := 0) (v := .ref 1) (pc' := 12) d_V_joinCommits_9 rfl g_V_10 hV.1 rfl ?_
  refine x_iload_n (pc' := 13) d_V_joinCommits_12 rfl rfl ?_
  refine x_iload_n (pc' := 14) d_V_joinCommits_13 rfl rfl ?_
  refine x_virtual (a := 1) (as := [.int (nI p), .int (nI q)]) (r := [.ref 1, .ref 15]) (v := (some (.int (sp_vi (sp_base S.1 (some p) (some q)))))) (h' := h) (st' := [.int (sp_vi (sp_base S.1 (some p) (some q))), .ref 1, .ref 15]) (c' := 0) (s' := 0) (pc' := 17) d_V_joinCommits_14 rfl c_V_142 hV.2.2.1.1.2 rfl rfl (Nat.le_of_ble_eq_true rfl) (Nat.le_of_ble_eq_true rfl) (Nat.le_of_ble_eq_true rfl) (fun Q' hq => c_H_baseOf (a := some p) (b := some q) hV.2.2.1 hW (sp_ok_some hp1) (sp_ok_some hq1) hq) rfl rfl rfl ?_
  refine x_iload_n (pc' := 18) d_V_joinCommits_17 rfl rfl ?_
  refine x_iload_n (pc' := 19) d_V_joinCommits_18 rfl rfl ?_
  refine x_virtualR (a := 15) (as := [.ref 1, .int (sp_vi (sp_base S.1 (some p) (some q))), .int (nI p), .int (nI q)]) (r := []) (Post := fun v h9 => (v = some (.int 0) ∧ sp_snap (sp_of S.1 (sp_base S.1 (some p) (some q))) (sp_of S.1 (some p)) (sp_of S.1 (some q)) = none ∧ xl_fr sp_US h h9 ∧ ∃ u, ch_U h9 u) ∨ (v = some (.int 1) ∧ ∃ t u, sp_snap (sp_of S.1 (sp_base S.1 (some p) (some q))) (sp_of S.1 (some p)) (sp_of S.1 (some q)) = some t ∧ xl_fr sp_US h h9 ∧ ch_U h9 u ∧ (∀ j, j < 4 → u j = sp_tv (t j)) ∧ ∀ j, j < 4 → sp_wt (t j))) (c' := 0) (s' := 0) (pc' := 22) d_V_joinCommits_19 rfl c_V_153 hU.1.1 rfl rfl (Nat.le_of_ble_eq_true rfl) (Nat.le_of_ble_eq_true rfl) (Nat.le_of_ble_eq_true rfl) (fun Q' hq => c_U_uniteSnapshots (c1 := (sp_base S.1 (some p) (some q))) (c2 := (some p)) (c3 := (some q)) hV.2.2.1 hW sp_base_ok (sp_ok_some hp1) (sp_ok_some hq1) hU (fun e h' u' f U => hq _ h' (Or.inl ⟨rfl, e, f, u', U⟩)) (fun t e h' u' f U z1 z2 => hq _ h' (Or.inr ⟨rfl, t, u', e, f, U, z1, z2⟩))) rfl rfl (fun v9 h1 hp => ?_)
  rcases hp with ⟨rfl, hsn, f1, u1, U1⟩ | ⟨rfl, t, u1, hsn, f1, U1, u2, wt⟩
  · show xm_X L xs (xm_call L xs (d + 6)) m_V_joinCommits (22, [.ref 0, .int (nI p), .int (nI q)], [.int 0], h1, 0, 0) Q
    refine x_ifne (t := 28) (pc' := 25) d_V_joinCommits_22 rfl rfl (fun q => absurd rfl q) (fun _ => ?_)
    refine x_bipush (v := (-5)) (pc' := 27) d_V_joinCommits_25 rfl (by decide) ?_
    exact x_ireturn d_V_joinCommits_27 rfl rfl (h0 hsn h1 (ch_V_uni hV f1 U1) f1)
  · show xm_X L xs (xm_call L xs (d + 6)) m_V_joinCommits (22, [.ref 0, .int (nI p), .int (nI q)], [.int 1], h1, 0, 0) Q
    have V1 := ch_V_uni hV f1 U1
    refine x_ifne (t := 28) (pc' := 25) d_V_joinCommits_22 rfl rfl (fun _ => ?_) (fun q => absurd q (by decide))
    refine x_aload_n (pc' := 29) d_V_joinCommits_28 rfl rfl ?_
    refine x_getfield (ci := 3) (i := 0) (v := .ref 1) (pc' := 32) d_V_joinCommits_29 rfl g_V_10 V1.1 rfl ?_
    refine x_aload_n (pc' := 33) d_V_joinCommits_32 rfl rfl ?_
    refine x_getfield (ci := 3) (i := 2) (v := .ref 15) (pc' := 36) d_V_joinCommits_33 rfl g_V_26 V1.1 rfl ?_
    refine x_getfield (ci := 2) (i := 0) (v := .ref 16) (pc' := 39) d_V_joinCommits_36 rfl g_V_157 U1.1.1 rfl ?_
    refine x_iload_n (pc' := 40) d_V_joinCommits_39 rfl rfl ?_
    refine x_iload_n (pc' := 41) d_V_joinCommits_40 rfl rfl ?_
    by_cases hn : 40 ≤ sp_n S.1
    · refine x_virtual (a := 1) (as := [.ref 16, .int (nI p), .int (nI q)]) (r := []) (v := (some (.int (-6)))) (h' := h1) (st' := [.int (-6)]) (c' := 0) (s' := 0) (pc' := 44) d_V_joinCommits_41 rfl c_V_60 V1.2.2.1.1.2 rfl rfl (Nat.le_of_ble_eq_true rfl) (Nat.le_of_ble_eq_true rfl) (Nat.le_of_ble_eq_true rfl) (fun Q' hq => c_H_addFull V1.2.2.1 hn hq) rfl rfl rfl ?_
      exact x_ireturn d_V_joinCommits_44 rfl rfl (h1q t hsn hn h1 V1 f1)
    · refine x_virtualR (a := 1) (as := [.ref 16, .int (nI p), .int (nI q)]) (r := []) (Post := fun v h9 => v = some (.int (nI (sp_n S.1))) ∧ ch_H h9 (sp_add S.1 t (some p) (some q)) ∧ xl_fr (fun k => 1 ≤ k ∧ k ≤ 5) h1 h9) (c' := 0) (s' := 0) (pc' := 44) d_V_joinCommits_41 rfl c_V_60 V1.2.2.1.1.2 rfl rfl (Nat.le_of_ble_eq_true rfl) (Nat.le_of_ble_eq_true rfl) (Nat.le_of_ble_eq_true rfl) (fun Q' hq => c_H_add (p1 := some p) (p2 := some q) V1.2.2.1 (by omega) (by decide) U1.2.1 u2 (sp_ok_some hp1) (sp_ok_some hq1) (sp_WH_64 hW (sp_ok_some hp1)) (sp_WH_64 hW (sp_ok_some hq1)) (fun h' z1 z2 => hq _ h' ⟨rfl, z1, z2⟩)) rfl rfl (fun v9 h2 hp => ?_)
      obtain ⟨rfl, H2, f2⟩ := hp
      show xm_X L xs (xm_call L xs (d + 6)) m_V_joinCommits (44, [.ref 0, .int (nI p), .int (nI q)], [.int (nI (sp_n S.1))], h2, 0, 0) Q
      exact x_ireturn d_V_joinCommits_44 rfl rfl (h2q t hsn (by omega) wt h2 H2 u1 (ch_U_go U1 (fun k z1 z2 => f2.2 k (by omega))) (xl_tr (xl_mono f1 (fun k z => Or.inr z)) (xl_mono f2 (fun k z => Or.inl z))))
theorem c_V_doAgain0 {L : Nat} {xs : Nat → Int32} {d : Nat} {h : xm_H} {Q : xm_Q} {S : sp_S} (hV : ch_V h S) (hW : sp_WH S.1) {c q : Nat} (hc : c < sp_n S.1) (hp2 : sp_p2 S.1 c ≠ none) (hQ : Q (some (.int (-4))) h) : xm_call L xs (d + 5) m_V_doAgain [.ref 0, .int (nI c), .int (nI q)] h Q := by
  refine x_call (lo := [.ref 0, .int (nI c), .int (nI q)]) (Nat.le_of_ble_eq_true rfl) rfl ?_
  refine x_aload_n (pc' := 1) d_V_doAgain_0 rfl rfl ?_
  refine x_getfield (ci := 3) (i := 0) (v := .ref 1) (pc' := 4) d_V_doAgain_1 rfl g_V_10 hV.1 rfl ?_
  refine x_iload_n (pc' := 5) d_V_doAgain_4 rfl rfl ?_
  refine x_virtual (a := 1) (as := [.int (nI c)]) (r := []) (v := (some (.int (sp_vi (sp_p2 S.1 c))))) (h' := h) (st' := [.int (sp_vi (sp_p2 S.1 c))]) (c' := 0) (s' := 0) (pc' := 8) d_V_doAgain_5 rfl c_V_135 hV.2.2.1.1.2 rfl rfl (Nat.le_of_ble_eq_true rfl) (Nat.le_of_ble_eq_true rfl) (Nat.le_of_ble_eq_true rfl) (fun Q' hq => c_H_secondParentOf hV.2.2.1 hc hq) rfl rfl rfl ?_
  refine x_bipush (v := (-2)) (pc' := 10) d_V_doAgain_8 rfl (by decide) ?_
  refine x_icmpeq (t := 16) (pc' := 13) d_V_doAgain_10 rfl rfl (fun q => absurd q (fun e => absurd ((sp_vi_ge (n := 40) (by decide) (fun k hk => Nat.lt_of_lt_of_le ((hW.2.1 c hc).2.1 k hk) (by have := hW.1; omega))).2.mp e) hp2)) (fun _ => ?_)
  refine x_bipush (v := (-4)) (pc' := 15) d_V_doAgain_13 rfl (by decide) ?_
  exact x_ireturn d_V_doAgain_15 rfl rfl hQ
set_option maxHeartbeats 4000000 in
theorem c_V_doAgain {L : Nat} {xs : Nat → Int32} {d : Nat} {h : xm_H} {Q : xm_Q} {S : sp_S} (hV : ch_V h S) (hW : sp_WH S.1) {c q : Nat} (hc : c < sp_n S.1) (hq1 : q < sp_n S.1) (hp2 : sp_p2 S.1 c = none)
    (h5 : sp_again S.1 c (sp_of S.1 (some q)) = none → ∀ h', ch_V h' S → xl_fr sp_US h h' → Q (some (.int (-5))) h')
    (h4 : sp_again S.1 c (sp_of S.1 (some q)) = some none → ∀ h', ch_V h' S → xl_fr sp_US h h' → Q (some (.int (-4))) h')
    (h6 : ∀ t, sp_again S.1 c (sp_of S.1 (some q)) = some (some t) → 40 ≤ sp_n S.1 → ∀ h', ch_V h' S → xl_fr sp_US h h' → Q (some (.int (-6))) h')
    (h7 : ∀ t, sp_again S.1 c (sp_of S.1 (some q)) = some (some t) → sp_n S.1 < 40 → (∀ j, j < 4 → sp_wt (t j)) → ∀ h', ch_V h' (sp_add S.1 t (some q) none, S.2) → xl_fr sp_JS h h' → Q (some (.int (nI (sp_n S.1)))) h') : xm_call L xs (d + 5) m_V_doAgain [.ref 0, .int (nI c), .int (nI q)] h Q := by
  obtain ⟨u, hU⟩ := hV.2.2.2.2
  refine x_call (lo := [.ref 0, .int (nI c), .int (nI q)]) (Nat.le_of_ble_eq_true rfl) rfl ?_
  refine x_aload_n (pc' := 1) d_V_doAgain_0 rfl rfl ?_
  refine x_getfield (ci := 3) (i := 0) (v := .ref 1) (pc' := 4) d_V_doAgain_1 rfl g_V_10 hV.1 rfl ?_
  refine x_iload_n (pc' := 5) d_V_doAgain_4 rfl rfl ?_
  refine x_virtual (a := 1) (as := [.int (nI c)]) (r := []) (v := (some (.int (sp_vi (sp_p2 S.1 c))))) (h' := h) (st' := [.int (sp_vi (sp_p2 S.1 c))]) (c' := 0) (s' := 0) (pc' := 8) d_V_doAgain_5 rfl c_V_135 hV.2.2.1.1.2 rfl rfl (Nat.le_of_ble_eq_true rfl) (Nat.le_of_ble_eq_true rfl) (Nat.le_of_ble_eq_true rfl) (fun Q' hq => c_H_secondParentOf hV.2.2.1 hc hq) rfl rfl rfl ?_
  refine x_bipush (v := (-2)) (pc' := 10) d_V_doAgain_8 rfl (by decide) ?_
  refine x_icmpeq (t := 16) (pc' := 13) d_V_doAgain_10 rfl rfl (fun _ => ?_) (fun q => absurd (by rw [hp2]; rfl) q)
  refine x_aload_n (pc' := 17) d_V_doAgain_16 rfl rfl ?_
  refine x_getfield (ci := 3) (i := 2) (v := .ref 15) (pc' := 20) d_V_doAgain_17 rfl g_V_26 hV.1 rfl ?_
  refine x_aload_n (pc' := 21) d_V_doAgain_20 rfl rfl ?_
  refine x_getfield (ci := 3) (i := 0) (v := .ref 1) (pc' := 24) d_V_doAgain_21 rfl g_V_10 hV.1 rfl ?_
  refine x_aload_n (pc' := 25) d_V_doAgain_24 rfl rfl ?_
  refine x_getfield (ci := 3) (i := 0) (v := .ref 1) (pc' := 28) d_V_doAgain_25 rfl g_V_10 hV.1 rfl ?_
  refine x_iload_n (pc' := 29) d_V_doAgain_28 rfl rfl ?_
  refine x_virtual (a := 1) (as := [.int (nI c)]) (r := [.ref 1, .ref 15]) (v := (some (.int (sp_vi (sp_p1 S.1 c))))) (h' := h) (st' := [.int (sp_vi (sp_p1 S.1 c)), .ref 1, .ref 15]) (c' := 0) (s' := 0) (pc' := 32) d_V_doAgain_29 rfl c_V_131 hV.2.2.1.1.2 rfl rfl (Nat.le_of_ble_eq_true rfl) (Nat.le_of_ble_eq_true rfl) (Nat.le_of_ble_eq_true rfl) (fun Q' hq => c_H_firstParentOf hV.2.2.1 hc hq) rfl rfl rfl ?_
  refine x_iload_n (pc' := 33) d_V_doAgain_32 rfl rfl ?_
  refine x_iload_n (pc' := 34) d_V_doAgain_33 rfl rfl ?_
  refine x_virtualR (a := 15) (as := [.ref 1, .int (sp_vi (sp_p1 S.1 c)), .int (nI q), .int (nI c)]) (r := []) (Post := fun v h9 => (v = some (.int 0) ∧ sp_snap (sp_of S.1 (sp_p1 S.1 c)) (sp_of S.1 (some q)) (sp_of S.1 (some c)) = none ∧ xl_fr sp_US h h9 ∧ ∃ u, ch_U h9 u) ∨ (v = some (.int 1) ∧ ∃ t u, sp_snap (sp_of S.1 (sp_p1 S.1 c)) (sp_of S.1 (some q)) (sp_of S.1 (some c)) = some t ∧ xl_fr sp_US h h9 ∧ ch_U h9 u ∧ (∀ j, j < 4 → u j = sp_tv (t j)) ∧ ∀ j, j < 4 → sp_wt (t j))) (c' := 0) (s' := 0) (pc' := 37) d_V_doAgain_34 rfl c_V_153 hU.1.1 rfl rfl (Nat.le_of_ble_eq_true rfl) (Nat.le_of_ble_eq_true rfl) (Nat.le_of_ble_eq_true rfl) (fun Q' hq => c_U_uniteSnapshots (c1 := (sp_p1 S.1 c)) (c2 := (some q)) (c3 := (some c)) hV.2.2.1 hW (fun k hk => Nat.lt_trans ((hW.2.1 c hc).1 k hk) hc) (sp_ok_some hq1) (sp_ok_some hc) hU (fun e h' u' f U => hq _ h' (Or.inl ⟨rfl, e, f, u', U⟩)) (fun t e h' u' f U z1 z2 => hq _ h' (Or.inr ⟨rfl, t, u', e, f, U, z1, z2⟩))) rfl rfl (fun v9 h1 hp => ?_)
  rcases hp with ⟨rfl, hsn, f1, u1, U1⟩ | ⟨rfl, t, u1, hsn, f1, U1, u2, wt⟩
  · show xm_X L xs (xm_call L xs (d + 4)) m_V_doAgain (37, [.ref 0, .int (nI c), .int (nI q)], [.int 0], h1, 0, 0) Q
    refine x_ifne (t := 43) (pc' := 40) d_V_doAgain_37 rfl rfl (fun q => absurd rfl q) (fun _ => ?_)
    refine x_bipush (v := (-5)) (pc' := 42) d_V_doAgain_40 rfl (by decide) ?_
    exact x_ireturn d_V_doAgain_42 rfl rfl (h5 (by unfold sp_again; rw [hsn]) h1 (ch_V_uni hV f1 U1) f1)
  · show xm_X L xs (xm_call L xs (d + 4)) m_V_doAgain (37, [.ref 0, .int (nI c), .int (nI q)], [.int 1], h1, 0, 0) Q
    have V1 := ch_V_uni hV f1 U1
    refine x_ifne (t := 43) (pc' := 40) d_V_doAgain_37 rfl rfl (fun _ => ?_) (fun q => absurd q (by decide))
    refine x_aload_n (pc' := 44) d_V_doAgain_43 rfl rfl ?_
    refine x_getfield (ci := 3) (i := 0) (v := .ref 1) (pc' := 47) d_V_doAgain_44 rfl g_V_10 V1.1 rfl ?_
    refine x_iload_n (pc' := 48) d_V_doAgain_47 rfl rfl ?_
    refine x_aload_n (pc' := 49) d_V_doAgain_48 rfl rfl ?_
    refine x_getfield (ci := 3) (i := 2) (v := .ref 15) (pc' := 52) d_V_doAgain_49 rfl g_V_26 V1.1 rfl ?_
    refine x_getfield (ci := 2) (i := 0) (v := .ref 16) (pc' := 55) d_V_doAgain_52 rfl g_V_157 U1.1.1 rfl ?_
    refine x_virtual (a := 1) (as := [.int (nI q), .ref 16]) (r := []) (v := (some (.int (sp_bi (sp_eq4 (sp_of S.1 (some q)) t))))) (h' := h1) (st' := [.int (sp_bi (sp_eq4 (sp_of S.1 (some q)) t))]) (c' := 0) (s' := 0) (pc' := 58) d_V_doAgain_55 rfl c_V_56 V1.2.2.1.1.2 rfl rfl (Nat.le_of_ble_eq_true rfl) (Nat.le_of_ble_eq_true rfl) (Nat.le_of_ble_eq_true rfl) (fun Q' hq => c_H_hasSnapshot (c := some q) V1.2.2.1 (sp_ok_some hq1) U1.2.1 u2 (sp_WH_of hW (sp_ok_some hq1)) wt hq) rfl rfl rfl ?_
    cases heq : sp_eq4 (sp_of S.1 (some q)) t with
    | true =>
      refine x_ifeq (t := 64) (pc' := 61) d_V_doAgain_58 rfl rfl (fun q => absurd q (by decide)) (fun _ => ?_)
      refine x_bipush (v := (-4)) (pc' := 63) d_V_doAgain_61 rfl (by decide) ?_
      exact x_ireturn d_V_doAgain_63 rfl rfl (h4 (by unfold sp_again; rw [hsn]; dsimp only; rw [if_pos (by rw [sp_eq4_comm]; exact heq)]) h1 V1 f1)
    | false =>
      have hag : sp_again S.1 c (sp_of S.1 (some q)) = some (some t) := by unfold sp_again; rw [hsn]; dsimp only; rw [if_neg (by rw [sp_eq4_comm, heq]; decide)]
      refine x_ifeq (t := 64) (pc' := 61) d_V_doAgain_58 rfl rfl (fun _ => ?_) (fun q => absurd rfl q)
      refine x_aload_n (pc' := 65) d_V_doAgain_64 rfl rfl ?_
      refine x_getfield (ci := 3) (i := 0) (v := .ref 1) (pc' := 68) d_V_doAgain_65 rfl g_V_10 V1.1 rfl ?_
      refine x_aload_n (pc' := 69) d_V_doAgain_68 rfl rfl ?_
      refine x_getfield (ci := 3) (i := 2) (v := .ref 15) (pc' := 72) d_V_doAgain_69 rfl g_V_26 V1.1 rfl ?_
      refine x_getfield (ci := 2) (i := 0) (v := .ref 16) (pc' := 75) d_V_doAgain_72 rfl g_V_157 U1.1.1 rfl ?_
      refine x_iload_n (pc' := 76) d_V_doAgain_75 rfl rfl ?_
      refine x_bipush (v := sp_vi none) (pc' := 78) d_V_doAgain_76 rfl (by decide) ?_
      by_cases hn : 40 ≤ sp_n S.1
      · refine x_virtual (a := 1) (as := [.ref 16, .int (nI q), .int (sp_vi none)]) (r := []) (v := (some (.int (-6)))) (h' := h1) (st' := [.int (-6)]) (c' := 0) (s' := 0) (pc' := 81) d_V_doAgain_78 rfl c_V_60 V1.2.2.1.1.2 rfl rfl (Nat.le_of_ble_eq_true rfl) (Nat.le_of_ble_eq_true rfl) (Nat.le_of_ble_eq_true rfl) (fun Q' hq => c_H_addFull V1.2.2.1 hn hq) rfl rfl rfl ?_
        exact x_ireturn d_V_doAgain_81 rfl rfl (h6 t hag hn h1 V1 f1)
      · refine x_virtualR (a := 1) (as := [.ref 16, .int (nI q), .int (sp_vi none)]) (r := []) (Post := fun v h9 => v = some (.int (nI (sp_n S.1))) ∧ ch_H h9 (sp_add S.1 t (some q) none) ∧ xl_fr (fun k => 1 ≤ k ∧ k ≤ 5) h1 h9) (c' := 0) (s' := 0) (pc' := 81) d_V_doAgain_78 rfl c_V_60 V1.2.2.1.1.2 rfl rfl (Nat.le_of_ble_eq_true rfl) (Nat.le_of_ble_eq_true rfl) (Nat.le_of_ble_eq_true rfl) (fun Q' hq => c_H_add (p1 := some q) (p2 := none) V1.2.2.1 (by omega) (by decide) U1.2.1 u2 (sp_ok_some hq1) (fun k e => by cases e) (sp_WH_64 hW (sp_ok_some hq1)) (Nat.two_pow_pos 64) (fun h' z1 z2 => hq _ h' ⟨rfl, z1, z2⟩)) rfl rfl (fun v9 h2 hp => ?_)
        obtain ⟨rfl, H2, f2⟩ := hp
        show xm_X L xs (xm_call L xs (d + 4)) m_V_doAgain (81, [.ref 0, .int (nI c), .int (nI q)], [.int (nI (sp_n S.1))], h2, 0, 0) Q
        have f3 : xl_fr sp_JS h h2 := xl_tr (xl_mono f1 (fun k z => Or.inr z)) (xl_mono f2 (fun k z => Or.inl z))
        exact x_ireturn d_V_doAgain_81 rfl rfl (h7 t hag (by omega) wt h2 (ch_V_his hV f3 H2 (ch_U_go U1 (fun k z1 z2 => f2.2 k (by omega)))) f3)
