/-! The vault as the heap holds it; its helpers, its reading calls. (Printed by c_v1.py.) -/
def ch_V (h : xm_H) (S : sp_S) : Prop := h[0]? = some (.inr (3, [.ref 1, .ref 6, .ref 15])) ∧ (∃ g : Nat → Option Nat, h[6]? = some (.inl (.object tb_rc, 2, .inr (.inr (.inr (.inr g))))) ∧ ∀ r, r < 2 → g r = some (7 + 4 * r)) ∧ ch_H h S.1 ∧ (∀ r, r < 2 → ch_R h (7 + 4 * r) (S.2 r)) ∧ ∃ u, ch_U h u
def sp_WR (H : sp_H) (R : sp_R) : Prop := sp_cur R < 4 ∧ (∀ b, b < 4 → sp_ok (sp_n H) (sp_tip R b)) ∧ sp_held R < 2 ^ sp_n H ∧ (∀ b, b < 4 → sp_ro H (sp_tip R b) ||| sp_held R = sp_held R) ∧ ∀ f, f < 4 → sp_wt (sp_wk R f) ∧ sp_wt (sp_ix R f)
def sp_WS (S : sp_S) : Prop := sp_WH S.1 ∧ ∀ r, r < 2 → sp_WR S.1 (S.2 r)
abbrev sp_V29 : Nat → Prop := fun k => k < 29
theorem sp_bi_ne0 {b : Bool} (h : ¬ sp_bi b = 0) : b = true := by
  cases b with
  | true => rfl
  | false => exact absurd rfl h
theorem ch_U_go {h h' : xm_H} {u : Nat → Int64} (hU : ch_U h u) (f : ∀ k, 15 ≤ k → k ≤ 28 → h'[k]? = h[k]?) : ch_U h' u := by
  obtain ⟨h0, h1, ⟨f1, h2⟩, ⟨f2, h3⟩, ⟨cm, h4⟩⟩ := hU
  exact ⟨⟨(f _ (by decide) (by decide)).trans h0.1, (f _ (by decide) (by decide)).trans h0.2⟩, (f _ (by decide) (by decide)).trans h1, ⟨f1, (f _ (by decide) (by decide)).trans h2⟩, ⟨f2, (f _ (by decide) (by decide)).trans h3⟩, ⟨cm, ch_C_go h4 (fun k a b => f k (by omega) b)⟩⟩
/-- one repository changes -/
theorem ch_V_rep {h h' : xm_H} {S : sp_S} (hV : ch_V h S) {r : Nat} (hr : r < 2) {R : sp_R} (f : xl_fr (fun k => 7 + 4 * r ≤ k ∧ k ≤ 10 + 4 * r) h h') (hR : ch_R h' (7 + 4 * r) R) : ch_V h' (sp_set S r R) := by
  obtain ⟨h0, ⟨g, h1, h2⟩, h3, h4, ⟨u, h5⟩⟩ := hV
  refine ⟨(f.2 0 (by omega)).trans h0, ⟨g, (f.2 6 (by omega)).trans h1, h2⟩, ch_H_go h3 (fun k a b => f.2 k (by omega)), fun x hx => ?_, ⟨u, ch_U_go h5 (fun k a b => f.2 k (by omega))⟩⟩
  show ch_R h' (7 + 4 * x) (if x = r then R else S.2 x)
  by_cases hxr : x = r
  · rw [if_pos hxr, hxr]
    exact hR
  · rw [if_neg hxr]
    exact ch_R_go (h4 x hx) (fun k a b => f.2 k (by omega))
/-- the commits and one repository change -/
theorem ch_V_all {h h' : xm_H} {S : sp_S} (hV : ch_V h S) {r : Nat} (hr : r < 2) {R : sp_R} {H : sp_H} {u : Nat → Int64} (f : xl_fr (fun k => (1 ≤ k ∧ k ≤ 5) ∨ (7 + 4 * r ≤ k ∧ k ≤ 10 + 4 * r) ∨ (16 ≤ k ∧ k ≤ 28)) h h') (hH : ch_H h' H) (hR : ch_R h' (7 + 4 * r) R) (hU : ch_U h' u) : ch_V h' (H, sp_up S.2 r R) := by
  obtain ⟨h0, ⟨g, h1, h2⟩, h3, h4, -⟩ := hV
  refine ⟨(f.2 0 (by omega)).trans h0, ⟨g, (f.2 6 (by omega)).trans h1, h2⟩, hH, fun x hx => ?_, ⟨u, hU⟩⟩
  show ch_R h' (7 + 4 * x) (if x = r then R else S.2 x)
  by_cases hxr : x = r
  · rw [if_pos hxr, hxr]
    exact hR
  · rw [if_neg hxr]
    exact ch_R_go (h4 x hx) (fun k a b => f.2 k (by omega))
/-- only the uniter's rows change -/
theorem ch_V_uni {h h' : xm_H} {S : sp_S} (hV : ch_V h S) {u : Nat → Int64} (f : xl_fr sp_US h h') (hU : ch_U h' u) : ch_V h' S := by
  obtain ⟨h0, ⟨g, h1, h2⟩, h3, h4, -⟩ := hV
  exact ⟨(f.2 0 (by omega)).trans h0, ⟨g, (f.2 6 (by omega)).trans h1, h2⟩, ch_H_go h3 (fun k a b => f.2 k (by omega)), fun x hx => ch_R_go (h4 x hx) (fun k a b => f.2 k (by omega)), ⟨u, hU⟩⟩
theorem ch_R_wk {h : xm_H} {a : Nat} {R : sp_R} (hR : ch_R h a R) {w : Nat → Int64} (hw : h[a + 2]? = some (.inl (.long, 4, .inr (.inl w)))) {f : Nat} (hf : f < 4) (t : Option (List Nat)) : ch_R (h.set (a + 2) (.inl (.long, 4, .inr (.inl (vp_updL w (nI f).toNatClampNeg (sp_tv t)))))) a (sp_tip R, sp_cur R, sp_held R, sp_up (sp_wk R) f t, sp_ix R) := by
  obtain ⟨h0, h1, ⟨t', h2, g2⟩, ⟨w', h3, g3⟩, ⟨x, h4, g4⟩⟩ := hR
  have e : w' = w := by
    rw [h3] at hw
    cases hw
    rfl
  refine ⟨h0, (xl_ne (by omega)).trans h1, ⟨t', (xl_ne (by omega)).trans h2, g2⟩, ⟨_, xl_at h3, fun j hj => ?_⟩, ⟨x, (xl_ne (by omega)).trans h4, g4⟩⟩
  rw [nI_clamp (n := f) (by omega)]
  show (if j = f then sp_tv t else w j) = sp_tv (if j = f then t else sp_wk R j)
  by_cases hj2 : j = f
  · rw [if_pos hj2, if_pos hj2]
  · rw [if_neg hj2, if_neg hj2, ← e]
    exact g3 j hj
theorem ch_R_ix {h : xm_H} {a : Nat} {R : sp_R} (hR : ch_R h a R) {w : Nat → Int64} (hw : h[a + 3]? = some (.inl (.long, 4, .inr (.inl w)))) {f : Nat} (hf : f < 4) (t : Option (List Nat)) : ch_R (h.set (a + 3) (.inl (.long, 4, .inr (.inl (vp_updL w (nI f).toNatClampNeg (sp_tv t)))))) a (sp_tip R, sp_cur R, sp_held R, sp_wk R, sp_up (sp_ix R) f t) := by
  obtain ⟨h0, h1, ⟨t', h2, g2⟩, ⟨w', h3, g3⟩, ⟨x, h4, g4⟩⟩ := hR
  have e : x = w := by
    rw [h4] at hw
    cases hw
    rfl
  refine ⟨h0, (xl_ne (by omega)).trans h1, ⟨t', (xl_ne (by omega)).trans h2, g2⟩, ⟨w', (xl_ne (by omega)).trans h3, g3⟩, ⟨_, xl_at h4, fun j hj => ?_⟩⟩
  rw [nI_clamp (n := f) (by omega)]
  show (if j = f then sp_tv t else w j) = sp_tv (if j = f then t else sp_ix R j)
  by_cases hj2 : j = f
  · rw [if_pos hj2, if_pos hj2]
  · rw [if_neg hj2, if_neg hj2, ← e]
    exact g4 j hj
theorem ch_R_tip {h : xm_H} {a : Nat} {R : sp_R} (hR : ch_R h a R) {w : Nat → Int32} (hw : h[a + 1]? = some (.inl (.int, 4, .inl w))) {b : Nat} (hb : b < 4) (c : Option Nat) : ch_R (h.set (a + 1) (.inl (.int, 4, .inl (upd w (nI b).toNatClampNeg (sp_vi c))))) a (sp_up (sp_tip R) b c, sp_cur R, sp_held R, sp_wk R, sp_ix R) := by
  obtain ⟨h0, h1, ⟨t', h2, g2⟩, ⟨w', h3, g3⟩, ⟨x, h4, g4⟩⟩ := hR
  have e : t' = w := by
    rw [h2] at hw
    cases hw
    rfl
  refine ⟨h0, (xl_ne (by omega)).trans h1, ⟨_, xl_at h2, fun j hj => ?_⟩, ⟨w', (xl_ne (by omega)).trans h3, g3⟩, ⟨x, (xl_ne (by omega)).trans h4, g4⟩⟩
  rw [nI_clamp (n := b) (by omega)]
  show (if j = b then sp_vi c else w j) = sp_vi (if j = b then c else sp_tip R j)
  by_cases hj2 : j = b
  · rw [if_pos hj2, if_pos hj2]
  · rw [if_neg hj2, if_neg hj2, ← e]
    exact g2 j hj
theorem ch_R_obj {h : xm_H} {a : Nat} {R : sp_R} (hR : ch_R h a R) {m c : Nat} (hc : c < 4) : ch_R (h.set a (.inr (1, [.ref (a + 1), .ref (a + 2), .ref (a + 3), .long (lN m), .int (nI c)]))) a (sp_tip R, c, m, sp_wk R, sp_ix R) := by
  obtain ⟨h0, h1, ⟨t', h2, g2⟩, ⟨w', h3, g3⟩, ⟨x, h4, g4⟩⟩ := hR
  exact ⟨hc, xl_at h1, ⟨t', (xl_ne (by omega)).trans h2, g2⟩, ⟨w', (xl_ne (by omega)).trans h3, g3⟩, ⟨x, (xl_ne (by omega)).trans h4, g4⟩⟩
theorem c_V_isRepository1 {L : Nat} {xs : Nat → Int32} {d : Nat} {h : xm_H} {Q : xm_Q} {r : Nat} (hr : r < 2) (hQ : Q (some (.int 1)) h) : xm_call L xs (d + 1) m_V_isRepository [.int (nI r)] h Q := by
  refine x_call (lo := [.int (nI r)]) (Nat.le_of_ble_eq_true rfl) rfl ?_
  refine x_iload_n (pc' := 1) d_V_isRepository_0 rfl rfl ?_
  refine x_iflt (t := 13) (pc' := 4) d_V_isRepository_1 rfl rfl (fun q => absurd q (nI_pos (by omega))) (fun _ => ?_)
  refine x_iload_n (pc' := 5) d_V_isRepository_4 rfl rfl ?_
  refine x_iconst (v := nI 2) (pc' := 6) d_V_isRepository_5 rfl (by decide) ?_
  refine x_icmpge (t := 13) (pc' := 9) d_V_isRepository_6 rfl rfl (fun q => absurd q (nI_ge hr (by decide))) (fun _ => ?_)
  refine x_iconst (v := 1) (pc' := 10) d_V_isRepository_9 rfl (by decide) ?_
  refine x_goto (t := 14) d_V_isRepository_10 rfl ?_
  exact x_ireturn d_V_isRepository_14 rfl rfl hQ
theorem c_V_isRepository0 {L : Nat} {xs : Nat → Int32} {d : Nat} {h : xm_H} {Q : xm_Q} {x : Int32} (hx : sp_in 2 x = none) (hQ : Q (some (.int 0)) h) : xm_call L xs (d + 1) m_V_isRepository [.int x] h Q := by
  refine x_call (lo := [.int x]) (Nat.le_of_ble_eq_true rfl) rfl ?_
  refine x_iload_n (pc' := 1) d_V_isRepository_0 rfl rfl ?_
  refine x_iflt (t := 13) (pc' := 4) d_V_isRepository_1 rfl rfl (fun q1 => ?_) (fun q1 => ?_)
  · refine x_iconst (v := 0) (pc' := 14) d_V_isRepository_13 rfl (by decide) ?_
    exact x_ireturn d_V_isRepository_14 rfl rfl hQ
  · refine x_iload_n (pc' := 5) d_V_isRepository_4 rfl rfl ?_
    refine x_iconst (v := nI 2) (pc' := 6) d_V_isRepository_5 rfl (by decide) ?_
    refine x_icmpge (t := 13) (pc' := 9) d_V_isRepository_6 rfl rfl (fun q2 => ?_) (fun q2 => ?_)
    · refine x_iconst (v := 0) (pc' := 14) d_V_isRepository_13 rfl (by decide) ?_
      exact x_ireturn d_V_isRepository_14 rfl rfl hQ
    · exact absurd hx (by obtain ⟨k, hk, rfl⟩ := sp_made_t (by decide) q1 q2; rw [sp_in_some hk (by decide)]; exact fun z => by cases z)
theorem c_V_isBranch1 {L : Nat} {xs : Nat → Int32} {d : Nat} {h : xm_H} {Q : xm_Q} {r : Nat} (hr : r < 4) (hQ : Q (some (.int 1)) h) : xm_call L xs (d + 1) m_V_isBranch [.int (nI r)] h Q := by
  refine x_call (lo := [.int (nI r)]) (Nat.le_of_ble_eq_true rfl) rfl ?_
  refine x_iload_n (pc' := 1) d_V_isBranch_0 rfl rfl ?_
  refine x_iflt (t := 13) (pc' := 4) d_V_isBranch_1 rfl rfl (fun q => absurd q (nI_pos (by omega))) (fun _ => ?_)
  refine x_iload_n (pc' := 5) d_V_isBranch_4 rfl rfl ?_
  refine x_iconst (v := nI 4) (pc' := 6) d_V_isBranch_5 rfl (by decide) ?_
  refine x_icmpge (t := 13) (pc' := 9) d_V_isBranch_6 rfl rfl (fun q => absurd q (nI_ge hr (by decide))) (fun _ => ?_)
  refine x_iconst (v := 1) (pc' := 10) d_V_isBranch_9 rfl (by decide) ?_
  refine x_goto (t := 14) d_V_isBranch_10 rfl ?_
  exact x_ireturn d_V_isBranch_14 rfl rfl hQ
theorem c_V_isBranch0 {L : Nat} {xs : Nat → Int32} {d : Nat} {h : xm_H} {Q : xm_Q} {x : Int32} (hx : sp_in 4 x = none) (hQ : Q (some (.int 0)) h) : xm_call L xs (d + 1) m_V_isBranch [.int x] h Q := by
  refine x_call (lo := [.int x]) (Nat.le_of_ble_eq_true rfl) rfl ?_
  refine x_iload_n (pc' := 1) d_V_isBranch_0 rfl rfl ?_
  refine x_iflt (t := 13) (pc' := 4) d_V_isBranch_1 rfl rfl (fun q1 => ?_) (fun q1 => ?_)
  · refine x_iconst (v := 0) (pc' := 14) d_V_isBranch_13 rfl (by decide) ?_
    exact x_ireturn d_V_isBranch_14 rfl rfl hQ
  · refine x_iload_n (pc' := 5) d_V_isBranch_4 rfl rfl ?_
    refine x_iconst (v := nI 4) (pc' := 6) d_V_isBranch_5 rfl (by decide) ?_
    refine x_icmpge (t := 13) (pc' := 9) d_V_isBranch_6 rfl rfl (fun q2 => ?_) (fun q2 => ?_)
    · refine x_iconst (v := 0) (pc' := 14) d_V_isBranch_13 rfl (by decide) ?_
      exact x_ireturn d_V_isBranch_14 rfl rfl hQ
    · exact absurd hx (by obtain ⟨k, hk, rfl⟩ := sp_made_t (by decide) q1 q2; rw [sp_in_some hk (by decide)]; exact fun z => by cases z)
theorem c_V_isFile1 {L : Nat} {xs : Nat → Int32} {d : Nat} {h : xm_H} {Q : xm_Q} {r : Nat} (hr : r < 4) (hQ : Q (some (.int 1)) h) : xm_call L xs (d + 1) m_V_isFile [.int (nI r)] h Q := by
  refine x_call (lo := [.int (nI r)]) (Nat.le_of_ble_eq_true rfl) rfl ?_
  refine x_iload_n (pc' := 1) d_V_isFile_0 rfl rfl ?_
  refine x_iflt (t := 13) (pc' := 4) d_V_isFile_1 rfl rfl (fun q => absurd q (nI_pos (by omega))) (fun _ => ?_)
  refine x_iload_n (pc' := 5) d_V_isFile_4 rfl rfl ?_
  refine x_iconst (v := nI 4) (pc' := 6) d_V_isFile_5 rfl (by decide) ?_
  refine x_icmpge (t := 13) (pc' := 9) d_V_isFile_6 rfl rfl (fun q => absurd q (nI_ge hr (by decide))) (fun _ => ?_)
  refine x_iconst (v := 1) (pc' := 10) d_V_isFile_9 rfl (by decide) ?_
  refine x_goto (t := 14) d_V_isFile_10 rfl ?_
  exact x_ireturn d_V_isFile_14 rfl rfl hQ
theorem c_V_isFile0 {L : Nat} {xs : Nat → Int32} {d : Nat} {h : xm_H} {Q : xm_Q} {x : Int32} (hx : sp_in 4 x = none) (hQ : Q (some (.int 0)) h) : xm_call L xs (d + 1) m_V_isFile [.int x] h Q := by
  refine x_call (lo := [.int x]) (Nat.le_of_ble_eq_true rfl) rfl ?_
  refine x_iload_n (pc' := 1) d_V_isFile_0 rfl rfl ?_
  refine x_iflt (t := 13) (pc' := 4) d_V_isFile_1 rfl rfl (fun q1 => ?_) (fun q1 => ?_)
  · refine x_iconst (v := 0) (pc' := 14) d_V_isFile_13 rfl (by decide) ?_
    exact x_ireturn d_V_isFile_14 rfl rfl hQ
  · refine x_iload_n (pc' := 5) d_V_isFile_4 rfl rfl ?_
    refine x_iconst (v := nI 4) (pc' := 6) d_V_isFile_5 rfl (by decide) ?_
    refine x_icmpge (t := 13) (pc' := 9) d_V_isFile_6 rfl rfl (fun q2 => ?_) (fun q2 => ?_)
    · refine x_iconst (v := 0) (pc' := 14) d_V_isFile_13 rfl (by decide) ?_
      exact x_ireturn d_V_isFile_14 rfl rfl hQ
    · exact absurd hx (by obtain ⟨k, hk, rfl⟩ := sp_made_t (by decide) q1 q2; rw [sp_in_some hk (by decide)]; exact fun z => by cases z)
theorem c_V_isClean {L : Nat} {xs : Nat → Int32} {d : Nat} {h : xm_H} {Q : xm_Q} {H : sp_H} {R : sp_R} {a : Nat} (h0 : h[0]? = some (.inr (3, [.ref 1, .ref 6, .ref 15]))) (hH : ch_H h H) (hR : ch_R h a R) (hW : sp_WH H) (hWR : sp_WR H R) (hQ : Q (some (.int (sp_bi (sp_clean H R)))) h) : xm_call L xs (d + 4) m_V_isClean [.ref 0, .ref a] h Q := by
  have hc : sp_ok (sp_n H) (sp_head R) := hWR.2.1 _ hWR.1
  obtain ⟨w, hw2⟩ := hR.2.2.2.1
  obtain ⟨x, hx2⟩ := hR.2.2.2.2
  refine x_call (lo := [.ref 0, .ref a, .float 0]) (Nat.le_of_ble_eq_true rfl) rfl ?_
  refine x_aload_n (pc' := 1) d_V_isClean_0 rfl rfl ?_
  refine x_virtual (a := a) (as := []) (r := []) (v := (some (.int (sp_vi (sp_head R))))) (h' := h) (st' := [.int (sp_vi (sp_head R))]) (c' := 0) (s' := 0) (pc' := 4) d_V_isClean_1 rfl c_V_52 hR.2.1 rfl rfl (Nat.le_of_ble_eq_true rfl) (Nat.le_of_ble_eq_true rfl) (Nat.le_of_ble_eq_true rfl) (fun Q' hq => c_R_head hR hq) rfl rfl rfl ?_
  refine x_istore_n (lo' := [.ref 0, .ref a, .int (sp_vi (sp_head R))]) (pc' := 5) d_V_isClean_4 rfl (Nat.le_of_ble_eq_true rfl) rfl ?_
  refine x_aload_n (pc' := 6) d_V_isClean_5 rfl rfl ?_
  refine x_getfield (ci := 3) (i := 0) (v := .ref 1) (pc' := 9) d_V_isClean_6 rfl g_V_10 h0 rfl ?_
  refine x_iload_n (pc' := 10) d_V_isClean_9 rfl rfl ?_
  refine x_aload_n (pc' := 11) d_V_isClean_10 rfl rfl ?_
  refine x_getfield (ci := 1) (i := 1) (v := .ref (a + 2)) (pc' := 14) d_V_isClean_11 rfl g_V_37 hR.2.1 rfl ?_
  refine x_virtual (a := 1) (as := [.int (sp_vi (sp_head R)), .ref (a + 2)]) (r := []) (v := (some (.int (sp_bi (sp_eq4 (sp_of H (sp_head R)) (sp_wk R)))))) (h' := h) (st' := [.int (sp_bi (sp_eq4 (sp_of H (sp_head R)) (sp_wk R)))]) (c' := 0) (s' := 0) (pc' := 17) d_V_isClean_14 rfl c_V_56 hH.1.2 rfl rfl (Nat.le_of_ble_eq_true rfl) (Nat.le_of_ble_eq_true rfl) (Nat.le_of_ble_eq_true rfl) (fun Q' hq => c_H_hasSnapshot hH hc hw2.1 hw2.2 (sp_WH_of hW hc) (fun f hf => (hWR.2.2.2.2 f hf).1) hq) rfl rfl rfl ?_
  refine x_ifeq (t := 39) (pc' := 20) d_V_isClean_17 rfl rfl (fun q1 => ?_) (fun q1 => ?_)
  · refine x_iconst (v := 0) (pc' := 40) d_V_isClean_39 rfl (by decide) ?_
    exact x_ireturn d_V_isClean_40 rfl rfl (x_q (by unfold sp_clean; first | (rw [sp_bi_eq0.mp q1]; rfl) | (rw [sp_bi_eq0.mp q2, Bool.and_false]; rfl) | (rw [sp_bi_ne0 q1, sp_bi_ne0 q2]; rfl)) hQ)
  · refine x_aload_n (pc' := 21) d_V_isClean_20 rfl rfl ?_
    refine x_getfield (ci := 3) (i := 0) (v := .ref 1) (pc' := 24) d_V_isClean_21 rfl g_V_10 h0 rfl ?_
    refine x_iload_n (pc' := 25) d_V_isClean_24 rfl rfl ?_
    refine x_aload_n (pc' := 26) d_V_isClean_25 rfl rfl ?_
    refine x_getfield (ci := 1) (i := 2) (v := .ref (a + 3)) (pc' := 29) d_V_isClean_26 rfl g_V_49 hR.2.1 rfl ?_
    refine x_virtual (a := 1) (as := [.int (sp_vi (sp_head R)), .ref (a + 3)]) (r := []) (v := (some (.int (sp_bi (sp_eq4 (sp_of H (sp_head R)) (sp_ix R)))))) (h' := h) (st' := [.int (sp_bi (sp_eq4 (sp_of H (sp_head R)) (sp_ix R)))]) (c' := 0) (s' := 0) (pc' := 32) d_V_isClean_29 rfl c_V_56 hH.1.2 rfl rfl (Nat.le_of_ble_eq_true rfl) (Nat.le_of_ble_eq_true rfl) (Nat.le_of_ble_eq_true rfl) (fun Q' hq => c_H_hasSnapshot hH hc hx2.1 hx2.2 (sp_WH_of hW hc) (fun f hf => (hWR.2.2.2.2 f hf).2) hq) rfl rfl rfl ?_
    refine x_ifeq (t := 39) (pc' := 35) d_V_isClean_32 rfl rfl (fun q2 => ?_) (fun q2 => ?_)
    · refine x_iconst (v := 0) (pc' := 40) d_V_isClean_39 rfl (by decide) ?_
      exact x_ireturn d_V_isClean_40 rfl rfl (x_q (by unfold sp_clean; first | (rw [sp_bi_eq0.mp q1]; rfl) | (rw [sp_bi_eq0.mp q2, Bool.and_false]; rfl) | (rw [sp_bi_ne0 q1, sp_bi_ne0 q2]; rfl)) hQ)
    · refine x_iconst (v := 1) (pc' := 36) d_V_isClean_35 rfl (by decide) ?_
      refine x_goto (t := 40) d_V_isClean_36 rfl ?_
      exact x_ireturn d_V_isClean_40 rfl rfl (x_q (by unfold sp_clean; first | (rw [sp_bi_eq0.mp q1]; rfl) | (rw [sp_bi_eq0.mp q2, Bool.and_false]; rfl) | (rw [sp_bi_ne0 q1, sp_bi_ne0 q2]; rfl)) hQ)
theorem c_V_isHeld1 {L : Nat} {xs : Nat → Int32} {d : Nat} {h : xm_H} {Q : xm_Q} {H : sp_H} {R : sp_R} {a c : Nat} (h0 : h[0]? = some (.inr (3, [.ref 1, .ref 6, .ref 15]))) (hH : ch_H h H) (hR : ch_R h a R) (hc : c < sp_n H) (hm : sp_held R < 2 ^ 64) (hQ : Q (some (.int (sp_bi ((sp_held R).testBit c)))) h) : xm_call L xs (d + 2) m_V_isHeld [.ref 0, .ref a, .int (nI c)] h Q := by
  refine x_call (lo := [.ref 0, .ref a, .int (nI c)]) (Nat.le_of_ble_eq_true rfl) rfl ?_
  refine x_aload_n (pc' := 1) d_V_isHeld_0 rfl rfl ?_
  refine x_getfield (ci := 3) (i := 0) (v := .ref 1) (pc' := 4) d_V_isHeld_1 rfl g_V_10 h0 rfl ?_
  refine x_iload_n (pc' := 5) d_V_isHeld_4 rfl rfl ?_
  refine x_virtual (a := 1) (as := [.int (nI c)]) (r := []) (v := (some (.int 1))) (h' := h) (st' := [.int 1]) (c' := 0) (s' := 0) (pc' := 8) d_V_isHeld_5 rfl c_V_128 hH.1.2 rfl rfl (Nat.le_of_ble_eq_true rfl) (Nat.le_of_ble_eq_true rfl) (Nat.le_of_ble_eq_true rfl) (fun Q' hq => c_H_made hH.1 hc hq) rfl rfl rfl ?_
  refine x_ifeq (t := 26) (pc' := 11) d_V_isHeld_8 rfl rfl (fun q => absurd q (by decide)) (fun _ => ?_)
  refine x_aload_n (pc' := 12) d_V_isHeld_11 rfl rfl ?_
  refine x_getfield (ci := 1) (i := 3) (v := .long (lN (sp_held R))) (pc' := 15) d_V_isHeld_12 rfl g_V_64 hR.2.1 rfl ?_
  refine x_iload_n (pc' := 16) d_V_isHeld_15 rfl rfl ?_
  refine x_static (as := [.long (lN (sp_held R)), .int (nI c)]) (r := []) (v := (some (.int (sp_bi ((sp_held R).testBit c))))) (h' := h) (st' := [.int (sp_bi ((sp_held R).testBit c))]) (c' := 0) (s' := 0) (pc' := 19) d_V_isHeld_16 rfl c_V_145 rfl rfl (Nat.le_of_ble_eq_true rfl) (Nat.le_of_ble_eq_true rfl) (Nat.le_of_ble_eq_true rfl) (fun Q' hq => c_H_isIn hm (by have := hH.1.1; omega) hq) rfl rfl rfl ?_
  refine x_ifeq (t := 26) (pc' := 22) d_V_isHeld_19 rfl rfl (fun q1 => ?_) (fun q1 => ?_)
  · refine x_iconst (v := 0) (pc' := 27) d_V_isHeld_26 rfl (by decide) ?_
    exact x_ireturn d_V_isHeld_27 rfl rfl (x_q (by first | (rw [sp_bi_eq0.mp q1]; rfl) | (rw [sp_bi_ne0 q1]; rfl)) hQ)
  · refine x_iconst (v := 1) (pc' := 23) d_V_isHeld_22 rfl (by decide) ?_
    refine x_goto (t := 27) d_V_isHeld_23 rfl ?_
    exact x_ireturn d_V_isHeld_27 rfl rfl (x_q (by first | (rw [sp_bi_eq0.mp q1]; rfl) | (rw [sp_bi_ne0 q1]; rfl)) hQ)
theorem c_V_isHeld0 {L : Nat} {xs : Nat → Int32} {d : Nat} {h : xm_H} {Q : xm_Q} {H : sp_H} {a : Nat} {x : Int32} (h0 : h[0]? = some (.inr (3, [.ref 1, .ref 6, .ref 15]))) (hH : ch_H h H) (hx : sp_in (sp_n H) x = none) (hQ : Q (some (.int 0)) h) : xm_call L xs (d + 2) m_V_isHeld [.ref 0, .ref a, .int x] h Q := by
  refine x_call (lo := [.ref 0, .ref a, .int x]) (Nat.le_of_ble_eq_true rfl) rfl ?_
  refine x_aload_n (pc' := 1) d_V_isHeld_0 rfl rfl ?_
  refine x_getfield (ci := 3) (i := 0) (v := .ref 1) (pc' := 4) d_V_isHeld_1 rfl g_V_10 h0 rfl ?_
  refine x_iload_n (pc' := 5) d_V_isHeld_4 rfl rfl ?_
  refine x_virtual (a := 1) (as := [.int x]) (r := []) (v := (some (.int 0))) (h' := h) (st' := [.int 0]) (c' := 0) (s' := 0) (pc' := 8) d_V_isHeld_5 rfl c_V_128 hH.1.2 rfl rfl (Nat.le_of_ble_eq_true rfl) (Nat.le_of_ble_eq_true rfl) (Nat.le_of_ble_eq_true rfl) (fun Q' hq => c_H_unmade hH.1 hx hq) rfl rfl rfl ?_
  refine x_ifeq (t := 26) (pc' := 11) d_V_isHeld_8 rfl rfl (fun _ => ?_) (fun q => absurd rfl q)
  refine x_iconst (v := 0) (pc' := 27) d_V_isHeld_26 rfl (by decide) ?_
  exact x_ireturn d_V_isHeld_27 rfl rfl hQ
set_option maxHeartbeats 4000000 in
theorem c_V_moveTo {L : Nat} {xs : Nat → Int32} {d : Nat} {h : xm_H} {Q : xm_Q} {H : sp_H} {R : sp_R} {a c : Nat} (ha : 6 < a) (h0 : h[0]? = some (.inr (3, [.ref 1, .ref 6, .ref 15]))) (hH : ch_H h H) (hR : ch_R h a R) (hc : c < sp_n H) (hm1 : sp_held R < 2 ^ 64) (hm2 : sp_rr H c < 2 ^ 64)
    (hQ : ∀ h', ch_R h' a (sp_mv H R c) → xl_fr (fun k => a ≤ k ∧ k ≤ a + 3) h h' → Q none h') : xm_call L xs (d + 4) m_V_moveTo [.ref 0, .ref a, .int (nI c)] h Q := by
  obtain ⟨t, ht, ht2⟩ := hR.2.2.1
  obtain ⟨w, hw, hw2⟩ := hR.2.2.2.1
  obtain ⟨x, hx, hx2⟩ := hR.2.2.2.2
  have H2 : ch_H ((h.set a (.inr (1, [.ref (a + 1), .ref (a + 2), .ref (a + 3), .long (lN (sp_held R ||| sp_rr H c)), .int (nI (sp_cur R))]))).set (a + 1) (.inl (.int, 4, .inl (upd t (nI (sp_cur R)).toNatClampNeg (nI c))))) H := ch_H_set (by omega) (ch_H_set (by omega) hH)
  refine x_call (lo := [.ref 0, .ref a, .int (nI c)]) (Nat.le_of_ble_eq_true rfl) rfl ?_
  refine x_aload_n (pc' := 1) d_V_moveTo_0 rfl rfl ?_
  refine x_dup (pc' := 2) d_V_moveTo_1 rfl rfl ?_
  refine x_getfield (ci := 1) (i := 3) (v := .long (lN (sp_held R))) (pc' := 5) d_V_moveTo_2 rfl g_V_64 hR.2.1 rfl ?_
  refine x_aload_n (pc' := 6) d_V_moveTo_5 rfl rfl ?_
  refine x_getfield (ci := 3) (i := 0) (v := .ref 1) (pc' := 9) d_V_moveTo_6 rfl g_V_10 h0 rfl ?_
  refine x_iload_n (pc' := 10) d_V_moveTo_9 rfl rfl ?_
  refine x_virtual (a := 1) (as := [.int (nI c)]) (r := [.long (lN (sp_held R)), .ref a]) (v := (some (.long (lN (sp_rr H c))))) (h' := h) (st' := [.long (lN (sp_rr H c)), .long (lN (sp_held R)), .ref a]) (c' := 0) (s' := 0) (pc' := 13) d_V_moveTo_10 rfl c_V_68 hH.1.2 rfl rfl (Nat.le_of_ble_eq_true rfl) (Nat.le_of_ble_eq_true rfl) (Nat.le_of_ble_eq_true rfl) (fun Q' hq => c_H_reachOf1 hH hc hq) rfl rfl rfl ?_
  refine x_lor (z := lN (sp_held R ||| sp_rr H c)) (pc' := 14) d_V_moveTo_13 rfl (wb_or hm1 hm2) ?_
  refine x_putfield (ci := 1) (i := 3) (h' := (h.set a (.inr (1, [.ref (a + 1), .ref (a + 2), .ref (a + 3), .long (lN (sp_held R ||| sp_rr H c)), .int (nI (sp_cur R))])))) (pc' := 17) d_V_moveTo_14 rfl (p_V_64 _ rfl) hR.2.1 (Nat.le_of_ble_eq_true rfl) rfl rfl rfl ?_
  refine x_aload_n (pc' := 18) d_V_moveTo_17 rfl rfl ?_
  refine x_getfield (ci := 1) (i := 0) (v := .ref (a + 1)) (pc' := 21) d_V_moveTo_18 rfl g_V_72 (xl_at hR.2.1) rfl ?_
  refine x_aload_n (pc' := 22) d_V_moveTo_21 rfl rfl ?_
  refine x_getfield (ci := 1) (i := 4) (v := .int (nI (sp_cur R))) (pc' := 25) d_V_moveTo_22 rfl g_V_76 (xl_at hR.2.1) rfl ?_
  refine x_iload_n (pc' := 26) d_V_moveTo_25 rfl rfl ?_
  refine x_iastore (h' := ((h.set a (.inr (1, [.ref (a + 1), .ref (a + 2), .ref (a + 3), .long (lN (sp_held R ||| sp_rr H c)), .int (nI (sp_cur R))]))).set (a + 1) (.inl (.int, 4, .inl (upd t (nI (sp_cur R)).toNatClampNeg (nI c)))))) (pc' := 27) d_V_moveTo_26 rfl ((xl_ne (by omega)).trans ht) (vp_in_nI hR.1 (by decide)) rfl ?_
  refine x_aload_n (pc' := 28) d_V_moveTo_27 rfl rfl ?_
  refine x_getfield (ci := 3) (i := 0) (v := .ref 1) (pc' := 31) d_V_moveTo_28 rfl g_V_10 ((xl_ne (by omega)).trans ((xl_ne (by omega)).trans h0)) rfl ?_
  refine x_iload_n (pc' := 32) d_V_moveTo_31 rfl rfl ?_
  refine x_aload_n (pc' := 33) d_V_moveTo_32 rfl rfl ?_
  refine x_getfield (ci := 1) (i := 1) (v := .ref (a + 2)) (pc' := 36) d_V_moveTo_33 rfl g_V_37 ((xl_ne (by omega)).trans (xl_at hR.2.1)) rfl ?_
  refine x_virtualR (a := 1) (as := [.int (nI c), .ref (a + 2)]) (r := []) (Post := fun v h9 => v = none ∧ ∃ w' : Nat → Int64, (∀ j, j < 4 → w' j = sp_tv (sp_of H (some c) j)) ∧ h9 = ((h.set a (.inr (1, [.ref (a + 1), .ref (a + 2), .ref (a + 3), .long (lN (sp_held R ||| sp_rr H c)), .int (nI (sp_cur R))]))).set (a + 1) (.inl (.int, 4, .inl (upd t (nI (sp_cur R)).toNatClampNeg (nI c))))).set (a + 2) (.inl (.long, 4, .inr (.inl w')))) (c' := 0) (s' := 0) (pc' := 39) d_V_moveTo_36 rfl c_V_149 H2.1.2 rfl rfl (Nat.le_of_ble_eq_true rfl) (Nat.le_of_ble_eq_true rfl) (Nat.le_of_ble_eq_true rfl) (fun Q' hq => c_H_copySnapshot (c := some c) H2 (sp_ok_some hc) (by omega) ((xl_ne (by omega)).trans ((xl_ne (by omega)).trans hw)) (fun w' z => hq none _ ⟨rfl, w', z, rfl⟩)) rfl rfl (fun v9 h3 hp => ?_)
  obtain ⟨rfl, w1, e1, rfl⟩ := hp
  show xm_X L xs (xm_call L xs (d + 3)) m_V_moveTo (39, [.ref 0, .ref a, .int (nI c)], [], (((h.set a (.inr (1, [.ref (a + 1), .ref (a + 2), .ref (a + 3), .long (lN (sp_held R ||| sp_rr H c)), .int (nI (sp_cur R))]))).set (a + 1) (.inl (.int, 4, .inl (upd t (nI (sp_cur R)).toNatClampNeg (nI c))))).set (a + 2) (.inl (.long, 4, .inr (.inl w1)))), 0, 0) Q
  refine x_aload_n (pc' := 40) d_V_moveTo_39 rfl rfl ?_
  refine x_getfield (ci := 3) (i := 0) (v := .ref 1) (pc' := 43) d_V_moveTo_40 rfl g_V_10 ((xl_ne (by omega)).trans ((xl_ne (by omega)).trans ((xl_ne (by omega)).trans h0))) rfl ?_
  refine x_iload_n (pc' := 44) d_V_moveTo_43 rfl rfl ?_
  refine x_aload_n (pc' := 45) d_V_moveTo_44 rfl rfl ?_
  refine x_getfield (ci := 1) (i := 2) (v := .ref (a + 3)) (pc' := 48) d_V_moveTo_45 rfl g_V_49 ((xl_ne (by omega)).trans ((xl_ne (by omega)).trans (xl_at hR.2.1))) rfl ?_
  refine x_virtualR (a := 1) (as := [.int (nI c), .ref (a + 3)]) (r := []) (Post := fun v h9 => v = none ∧ ∃ w' : Nat → Int64, (∀ j, j < 4 → w' j = sp_tv (sp_of H (some c) j)) ∧ h9 = (((h.set a (.inr (1, [.ref (a + 1), .ref (a + 2), .ref (a + 3), .long (lN (sp_held R ||| sp_rr H c)), .int (nI (sp_cur R))]))).set (a + 1) (.inl (.int, 4, .inl (upd t (nI (sp_cur R)).toNatClampNeg (nI c))))).set (a + 2) (.inl (.long, 4, .inr (.inl w1)))).set (a + 3) (.inl (.long, 4, .inr (.inl w')))) (c' := 0) (s' := 0) (pc' := 51) d_V_moveTo_48 rfl c_V_149 (ch_H_set (by omega) H2).1.2 rfl rfl (Nat.le_of_ble_eq_true rfl) (Nat.le_of_ble_eq_true rfl) (Nat.le_of_ble_eq_true rfl) (fun Q' hq => c_H_copySnapshot (c := some c) (ch_H_set (by omega) H2) (sp_ok_some hc) (by omega) ((xl_ne (by omega)).trans ((xl_ne (by omega)).trans ((xl_ne (by omega)).trans hx))) (fun w' z => hq none _ ⟨rfl, w', z, rfl⟩)) rfl rfl (fun v9 h4 hp => ?_)
  obtain ⟨rfl, w2, e2, rfl⟩ := hp
  show xm_X L xs (xm_call L xs (d + 3)) m_V_moveTo (51, [.ref 0, .ref a, .int (nI c)], [], ((((h.set a (.inr (1, [.ref (a + 1), .ref (a + 2), .ref (a + 3), .long (lN (sp_held R ||| sp_rr H c)), .int (nI (sp_cur R))]))).set (a + 1) (.inl (.int, 4, .inl (upd t (nI (sp_cur R)).toNatClampNeg (nI c))))).set (a + 2) (.inl (.long, 4, .inr (.inl w1)))).set (a + 3) (.inl (.long, 4, .inr (.inl w2)))), 0, 0) Q
  refine x_return d_V_moveTo_51 rfl (hQ _ ⟨hR.1, ?_, ⟨upd t (nI (sp_cur R)).toNatClampNeg (nI c), ?_, fun j hj => ?_⟩, ⟨w1, ?_, e1⟩, ⟨w2, ?_, e2⟩⟩ (xl_tr (xl_set ⟨by omega, by omega⟩) (xl_tr (xl_set ⟨by omega, by omega⟩) (xl_tr (xl_set ⟨by omega, by omega⟩) (xl_set ⟨by omega, by omega⟩)))))
  · exact (xl_ne (by omega)).trans ((xl_ne (by omega)).trans ((xl_ne (by omega)).trans (xl_at hR.2.1)))
  · exact (xl_ne (by omega)).trans ((xl_ne (by omega)).trans (xl_at ((xl_ne (by omega)).trans ht)))
  · rw [nI_clamp (n := sp_cur R) (by have := hR.1; omega)]
    show (if j = sp_cur R then nI c else t j) = sp_vi (if j = sp_cur R then some c else sp_tip R j)
    by_cases hjc : j = sp_cur R
    · rw [if_pos hjc, if_pos hjc]
      rfl
    · rw [if_neg hjc, if_neg hjc]
      exact ht2 j hj
  · exact (xl_ne (by omega)).trans (xl_at ((xl_ne (by omega)).trans ((xl_ne (by omega)).trans hw)))
  · exact xl_at ((xl_ne (by omega)).trans ((xl_ne (by omega)).trans ((xl_ne (by omega)).trans hx)))
theorem c_V_refuse_x {L : Nat} {xs : Nat → Int32} {d : Nat} {h : xm_H} {Q : xm_Q} {S : sp_S} (hV : ch_V h S) (hS : sp_WS S) {x y : Int32} (hx : sp_in 2 x = none) (hQ : Q (some (.int (-1))) h) : xm_call L xs (d + 2) m_V_refusalToChangeHead [.ref 0, .int x, .int y] h Q := by
  refine x_call (lo := [.ref 0, .int x, .int y, .float 0]) (Nat.le_of_ble_eq_true rfl) rfl ?_
  refine x_iload_n (pc' := 1) d_V_refusalToChangeHead_0 rfl rfl ?_
  refine x_static (as := [.int x]) (r := []) (v := (some (.int 0))) (h' := h) (st' := [.int 0]) (c' := 0) (s' := 0) (pc' := 4) d_V_refusalToChangeHead_1 rfl c_V_30 rfl rfl (Nat.le_of_ble_eq_true rfl) (Nat.le_of_ble_eq_true rfl) (Nat.le_of_ble_eq_true rfl) (fun Q' hq => c_V_isRepository0 hx hq) rfl rfl rfl ?_
  refine x_ifeq (t := 14) (pc' := 7) d_V_refusalToChangeHead_4 rfl rfl (fun _ => ?_) (fun q => absurd rfl q)
  refine x_iconst (v := (-1)) (pc' := 15) d_V_refusalToChangeHead_14 rfl (by decide) ?_
  exact x_ireturn d_V_refusalToChangeHead_15 rfl rfl hQ
theorem c_V_refuse_y {L : Nat} {xs : Nat → Int32} {d : Nat} {h : xm_H} {Q : xm_Q} {S : sp_S} (hV : ch_V h S) (hS : sp_WS S) {r : Nat} {y : Int32} (hr : r < 2) (hy : sp_in 4 y = none) (hQ : Q (some (.int (-1))) h) : xm_call L xs (d + 2) m_V_refusalToChangeHead [.ref 0, .int (nI r), .int y] h Q := by
  refine x_call (lo := [.ref 0, .int (nI r), .int y, .float 0]) (Nat.le_of_ble_eq_true rfl) rfl ?_
  refine x_iload_n (pc' := 1) d_V_refusalToChangeHead_0 rfl rfl ?_
  refine x_static (as := [.int (nI r)]) (r := []) (v := (some (.int 1))) (h' := h) (st' := [.int 1]) (c' := 0) (s' := 0) (pc' := 4) d_V_refusalToChangeHead_1 rfl c_V_30 rfl rfl (Nat.le_of_ble_eq_true rfl) (Nat.le_of_ble_eq_true rfl) (Nat.le_of_ble_eq_true rfl) (fun Q' hq => c_V_isRepository1 hr hq) rfl rfl rfl ?_
  refine x_ifeq (t := 14) (pc' := 7) d_V_refusalToChangeHead_4 rfl rfl (fun q => absurd q (by decide)) (fun _ => ?_)
  refine x_iload_n (pc' := 8) d_V_refusalToChangeHead_7 rfl rfl ?_
  refine x_static (as := [.int y]) (r := []) (v := (some (.int 0))) (h' := h) (st' := [.int 0]) (c' := 0) (s' := 0) (pc' := 11) d_V_refusalToChangeHead_8 rfl c_V_80 rfl rfl (Nat.le_of_ble_eq_true rfl) (Nat.le_of_ble_eq_true rfl) (Nat.le_of_ble_eq_true rfl) (fun Q' hq => c_V_isBranch0 hy hq) rfl rfl rfl ?_
  refine x_ifne (t := 16) (pc' := 14) d_V_refusalToChangeHead_11 rfl rfl (fun q => absurd rfl q) (fun _ => ?_)
  refine x_iconst (v := (-1)) (pc' := 15) d_V_refusalToChangeHead_14 rfl (by decide) ?_
  exact x_ireturn d_V_refusalToChangeHead_15 rfl rfl hQ
theorem c_V_refuse_t {L : Nat} {xs : Nat → Int32} {d : Nat} {h : xm_H} {Q : xm_Q} {S : sp_S} (hV : ch_V h S) (hS : sp_WS S) {r b : Nat} (hr : r < 2) (hb : b < 4) (hn : sp_tip (S.2 r) b = none) (hQ : Q (some (.int (-2))) h) : xm_call L xs (d + 5) m_V_refusalToChangeHead [.ref 0, .int (nI r), .int (nI b)] h Q := by
  obtain ⟨g, hg, hg2⟩ := hV.2.1
  obtain ⟨a, ha7⟩ : ∃ a, a = 7 + 4 * r := ⟨_, rfl⟩
  have hR : ch_R h a (S.2 r) := by rw [ha7]; exact hV.2.2.2.1 r hr
  have hH := hV.2.2.1
  have hWR := hS.2 r hr
  obtain ⟨t, ht, ht2⟩ := hR.2.2.1
  refine x_call (lo := [.ref 0, .int (nI r), .int (nI b), .float 0]) (Nat.le_of_ble_eq_true rfl) rfl ?_
  refine x_iload_n (pc' := 1) d_V_refusalToChangeHead_0 rfl rfl ?_
  refine x_static (as := [.int (nI r)]) (r := []) (v := (some (.int 1))) (h' := h) (st' := [.int 1]) (c' := 0) (s' := 0) (pc' := 4) d_V_refusalToChangeHead_1 rfl c_V_30 rfl rfl (Nat.le_of_ble_eq_true rfl) (Nat.le_of_ble_eq_true rfl) (Nat.le_of_ble_eq_true rfl) (fun Q' hq => c_V_isRepository1 hr hq) rfl rfl rfl ?_
  refine x_ifeq (t := 14) (pc' := 7) d_V_refusalToChangeHead_4 rfl rfl (fun q => absurd q (by decide)) (fun _ => ?_)
  refine x_iload_n (pc' := 8) d_V_refusalToChangeHead_7 rfl rfl ?_
  refine x_static (as := [.int (nI b)]) (r := []) (v := (some (.int 1))) (h' := h) (st' := [.int 1]) (c' := 0) (s' := 0) (pc' := 11) d_V_refusalToChangeHead_8 rfl c_V_80 rfl rfl (Nat.le_of_ble_eq_true rfl) (Nat.le_of_ble_eq_true rfl) (Nat.le_of_ble_eq_true rfl) (fun Q' hq => c_V_isBranch1 hb hq) rfl rfl rfl ?_
  refine x_ifne (t := 16) (pc' := 14) d_V_refusalToChangeHead_11 rfl rfl (fun _ => ?_) (fun q => absurd q (by decide))
  refine x_aload_n (pc' := 17) d_V_refusalToChangeHead_16 rfl rfl ?_
  refine x_getfield (ci := 3) (i := 1) (v := .ref 6) (pc' := 20) d_V_refusalToChangeHead_17 rfl g_V_18 hV.1 rfl ?_
  refine x_iload_n (pc' := 21) d_V_refusalToChangeHead_20 rfl rfl ?_
  refine x_aaload (q := a) (pc' := 22) d_V_refusalToChangeHead_21 rfl hg (Or.inr rfl) (vp_in_nI hr (by decide)) (by rw [nI_clamp (by omega), hg2 r hr, ha7]) ?_
  refine x_astore_n (lo' := [.ref 0, .int (nI r), .int (nI b), .ref a]) (pc' := 23) d_V_refusalToChangeHead_22 rfl (Nat.le_of_ble_eq_true rfl) rfl ?_
  refine x_aload_n (pc' := 24) d_V_refusalToChangeHead_23 rfl rfl ?_
  refine x_getfield (ci := 1) (i := 0) (v := .ref (a + 1)) (pc' := 27) d_V_refusalToChangeHead_24 rfl g_V_72 hR.2.1 rfl ?_
  refine x_iload_n (pc' := 28) d_V_refusalToChangeHead_27 rfl rfl ?_
  refine x_iaload (v := sp_vi (sp_tip (S.2 r) b)) (pc' := 29) d_V_refusalToChangeHead_28 rfl ht (vp_in_nI hb (by decide)) (by rw [nI_clamp (by omega), ht2 b hb]) ?_
  refine x_bipush (v := (-2)) (pc' := 31) d_V_refusalToChangeHead_29 rfl (by decide) ?_
  refine x_icmpeq (t := 43) (pc' := 34) d_V_refusalToChangeHead_31 rfl rfl (fun _ => ?_) (fun q => absurd (by rw [hn]; rfl) q)
  refine x_bipush (v := (-2)) (pc' := 45) d_V_refusalToChangeHead_43 rfl (by decide) ?_
  exact x_ireturn d_V_refusalToChangeHead_45 rfl rfl hQ
theorem c_V_refuse_h {L : Nat} {xs : Nat → Int32} {d : Nat} {h : xm_H} {Q : xm_Q} {S : sp_S} (hV : ch_V h S) (hS : sp_WS S) {r b : Nat} (hr : r < 2) (hb : b < 4) (hn : sp_tip (S.2 r) b ≠ none) (hn2 : sp_head (S.2 r) = none) (hQ : Q (some (.int (-2))) h) : xm_call L xs (d + 5) m_V_refusalToChangeHead [.ref 0, .int (nI r), .int (nI b)] h Q := by
  obtain ⟨g, hg, hg2⟩ := hV.2.1
  obtain ⟨a, ha7⟩ : ∃ a, a = 7 + 4 * r := ⟨_, rfl⟩
  have hR : ch_R h a (S.2 r) := by rw [ha7]; exact hV.2.2.2.1 r hr
  have hH := hV.2.2.1
  have hWR := hS.2 r hr
  obtain ⟨t, ht, ht2⟩ := hR.2.2.1
  refine x_call (lo := [.ref 0, .int (nI r), .int (nI b), .float 0]) (Nat.le_of_ble_eq_true rfl) rfl ?_
  refine x_iload_n (pc' := 1) d_V_refusalToChangeHead_0 rfl rfl ?_
  refine x_static (as := [.int (nI r)]) (r := []) (v := (some (.int 1))) (h' := h) (st' := [.int 1]) (c' := 0) (s' := 0) (pc' := 4) d_V_refusalToChangeHead_1 rfl c_V_30 rfl rfl (Nat.le_of_ble_eq_true rfl) (Nat.le_of_ble_eq_true rfl) (Nat.le_of_ble_eq_true rfl) (fun Q' hq => c_V_isRepository1 hr hq) rfl rfl rfl ?_
  refine x_ifeq (t := 14) (pc' := 7) d_V_refusalToChangeHead_4 rfl rfl (fun q => absurd q (by decide)) (fun _ => ?_)
  refine x_iload_n (pc' := 8) d_V_refusalToChangeHead_7 rfl rfl ?_
  refine x_static (as := [.int (nI b)]) (r := []) (v := (some (.int 1))) (h' := h) (st' := [.int 1]) (c' := 0) (s' := 0) (pc' := 11) d_V_refusalToChangeHead_8 rfl c_V_80 rfl rfl (Nat.le_of_ble_eq_true rfl) (Nat.le_of_ble_eq_true rfl) (Nat.le_of_ble_eq_true rfl) (fun Q' hq => c_V_isBranch1 hb hq) rfl rfl rfl ?_
  refine x_ifne (t := 16) (pc' := 14) d_V_refusalToChangeHead_11 rfl rfl (fun _ => ?_) (fun q => absurd q (by decide))
  refine x_aload_n (pc' := 17) d_V_refusalToChangeHead_16 rfl rfl ?_
  refine x_getfield (ci := 3) (i := 1) (v := .ref 6) (pc' := 20) d_V_refusalToChangeHead_17 rfl g_V_18 hV.1 rfl ?_
  refine x_iload_n (pc' := 21) d_V_refusalToChangeHead_20 rfl rfl ?_
  refine x_aaload (q := a) (pc' := 22) d_V_refusalToChangeHead_21 rfl hg (Or.inr rfl) (vp_in_nI hr (by decide)) (by rw [nI_clamp (by omega), hg2 r hr, ha7]) ?_
  refine x_astore_n (lo' := [.ref 0, .int (nI r), .int (nI b), .ref a]) (pc' := 23) d_V_refusalToChangeHead_22 rfl (Nat.le_of_ble_eq_true rfl) rfl ?_
  refine x_aload_n (pc' := 24) d_V_refusalToChangeHead_23 rfl rfl ?_
  refine x_getfield (ci := 1) (i := 0) (v := .ref (a + 1)) (pc' := 27) d_V_refusalToChangeHead_24 rfl g_V_72 hR.2.1 rfl ?_
  refine x_iload_n (pc' := 28) d_V_refusalToChangeHead_27 rfl rfl ?_
  refine x_iaload (v := sp_vi (sp_tip (S.2 r) b)) (pc' := 29) d_V_refusalToChangeHead_28 rfl ht (vp_in_nI hb (by decide)) (by rw [nI_clamp (by omega), ht2 b hb]) ?_
  refine x_bipush (v := (-2)) (pc' := 31) d_V_refusalToChangeHead_29 rfl (by decide) ?_
  refine x_icmpeq (t := 43) (pc' := 34) d_V_refusalToChangeHead_31 rfl rfl (fun q => absurd q (fun e => absurd ((sp_vi_ge (n := 40) (by decide) (fun k hk => Nat.lt_of_lt_of_le (hWR.2.1 b hb k hk) hS.1.1)).2.mp e) hn)) (fun _ => ?_)
  refine x_aload_n (pc' := 35) d_V_refusalToChangeHead_34 rfl rfl ?_
  refine x_virtual (a := a) (as := []) (r := []) (v := (some (.int (sp_vi (sp_head (S.2 r)))))) (h' := h) (st' := [.int (sp_vi (sp_head (S.2 r)))]) (c' := 0) (s' := 0) (pc' := 38) d_V_refusalToChangeHead_35 rfl c_V_52 hR.2.1 rfl rfl (Nat.le_of_ble_eq_true rfl) (Nat.le_of_ble_eq_true rfl) (Nat.le_of_ble_eq_true rfl) (fun Q' hq => c_R_head hR hq) rfl rfl rfl ?_
  refine x_bipush (v := (-2)) (pc' := 40) d_V_refusalToChangeHead_38 rfl (by decide) ?_
  refine x_icmpne (t := 46) (pc' := 43) d_V_refusalToChangeHead_40 rfl rfl (fun q => absurd (by rw [hn2]; rfl) q) (fun _ => ?_)
  refine x_bipush (v := (-2)) (pc' := 45) d_V_refusalToChangeHead_43 rfl (by decide) ?_
  exact x_ireturn d_V_refusalToChangeHead_45 rfl rfl hQ
theorem c_V_refuse_0 {L : Nat} {xs : Nat → Int32} {d : Nat} {h : xm_H} {Q : xm_Q} {S : sp_S} (hV : ch_V h S) (hS : sp_WS S) {r b : Nat} (hr : r < 2) (hb : b < 4) (hn : sp_tip (S.2 r) b ≠ none) (hn2 : sp_head (S.2 r) ≠ none) (hcl : sp_clean S.1 (S.2 r) = true) (hQ : Q (some (.int 0)) h) : xm_call L xs (d + 5) m_V_refusalToChangeHead [.ref 0, .int (nI r), .int (nI b)] h Q := by
  obtain ⟨g, hg, hg2⟩ := hV.2.1
  obtain ⟨a, ha7⟩ : ∃ a, a = 7 + 4 * r := ⟨_, rfl⟩
  have hR : ch_R h a (S.2 r) := by rw [ha7]; exact hV.2.2.2.1 r hr
  have hH := hV.2.2.1
  have hWR := hS.2 r hr
  obtain ⟨t, ht, ht2⟩ := hR.2.2.1
  refine x_call (lo := [.ref 0, .int (nI r), .int (nI b), .float 0]) (Nat.le_of_ble_eq_true rfl) rfl ?_
  refine x_iload_n (pc' := 1) d_V_refusalToChangeHead_0 rfl rfl ?_
  refine x_static (as := [.int (nI r)]) (r := []) (v := (some (.int 1))) (h' := h) (st' := [.int 1]) (c' := 0) (s' := 0) (pc' := 4) d_V_refusalToChangeHead_1 rfl c_V_30 rfl rfl (Nat.le_of_ble_eq_true rfl) (Nat.le_of_ble_eq_true rfl) (Nat.le_of_ble_eq_true rfl) (fun Q' hq => c_V_isRepository1 hr hq) rfl rfl rfl ?_
  refine x_ifeq (t := 14) (pc' := 7) d_V_refusalToChangeHead_4 rfl rfl (fun q => absurd q (by decide)) (fun _ => ?_)
  refine x_iload_n (pc' := 8) d_V_refusalToChangeHead_7 rfl rfl ?_
  refine x_static (as := [.int (nI b)]) (r := []) (v := (some (.int 1))) (h' := h) (st' := [.int 1]) (c' := 0) (s' := 0) (pc' := 11) d_V_refusalToChangeHead_8 rfl c_V_80 rfl rfl (Nat.le_of_ble_eq_true rfl) (Nat.le_of_ble_eq_true rfl) (Nat.le_of_ble_eq_true rfl) (fun Q' hq => c_V_isBranch1 hb hq) rfl rfl rfl ?_
  refine x_ifne (t := 16) (pc' := 14) d_V_refusalToChangeHead_11 rfl rfl (fun _ => ?_) (fun q => absurd q (by decide))
  refine x_aload_n (pc' := 17) d_V_refusalToChangeHead_16 rfl rfl ?_
  refine x_getfield (ci := 3) (i := 1) (v := .ref 6) (pc' := 20) d_V_refusalToChangeHead_17 rfl g_V_18 hV.1 rfl ?_
  refine x_iload_n (pc' := 21) d_V_refusalToChangeHead_20 rfl rfl ?_
  refine x_aaload (q := a) (pc' := 22) d_V_refusalToChangeHead_21 rfl hg (Or.inr rfl) (vp_in_nI hr (by decide)) (by rw [nI_clamp (by omega), hg2 r hr, ha7]) ?_
  refine x_astore_n (lo' := [.ref 0, .int (nI r), .int (nI b), .ref a]) (pc' := 23) d_V_refusalToChangeHead_22 rfl (Nat.le_of_ble_eq_true rfl) rfl ?_
  refine x_aload_n (pc' := 24) d_V_refusalToChangeHead_23 rfl rfl ?_
  refine x_getfield (ci := 1) (i := 0) (v := .ref (a + 1)) (pc' := 27) d_V_refusalToChangeHead_24 rfl g_V_72 hR.2.1 rfl ?_
  refine x_iload_n (pc' := 28) d_V_refusalToChangeHead_27 rfl rfl ?_
  refine x_iaload (v := sp_vi (sp_tip (S.2 r) b)) (pc' := 29) d_V_refusalToChangeHead_28 rfl ht (vp_in_nI hb (by decide)) (by rw [nI_clamp (by omega), ht2 b hb]) ?_
  refine x_bipush (v := (-2)) (pc' := 31) d_V_refusalToChangeHead_29 rfl (by decide) ?_
  refine x_icmpeq (t := 43) (pc' := 34) d_V_refusalToChangeHead_31 rfl rfl (fun q => absurd q (fun e => absurd ((sp_vi_ge (n := 40) (by decide) (fun k hk => Nat.lt_of_lt_of_le (hWR.2.1 b hb k hk) hS.1.1)).2.mp e) hn)) (fun _ => ?_)
  refine x_aload_n (pc' := 35) d_V_refusalToChangeHead_34 rfl rfl ?_
  refine x_virtual (a := a) (as := []) (r := []) (v := (some (.int (sp_vi (sp_head (S.2 r)))))) (h' := h) (st' := [.int (sp_vi (sp_head (S.2 r)))]) (c' := 0) (s' := 0) (pc' := 38) d_V_refusalToChangeHead_35 rfl c_V_52 hR.2.1 rfl rfl (Nat.le_of_ble_eq_true rfl) (Nat.le_of_ble_eq_true rfl) (Nat.le_of_ble_eq_true rfl) (fun Q' hq => c_R_head hR hq) rfl rfl rfl ?_
  refine x_bipush (v := (-2)) (pc' := 40) d_V_refusalToChangeHead_38 rfl (by decide) ?_
  refine x_icmpne (t := 46) (pc' := 43) d_V_refusalToChangeHead_40 rfl rfl (fun _ => ?_) (fun q => absurd q (fun e => absurd ((sp_vi_ge (n := 40) (by decide) (fun k hk => Nat.lt_of_lt_of_le (hWR.2.1 _ hWR.1 k hk) hS.1.1)).2.mp e) hn2))
  refine x_aload_n (pc' := 47) d_V_refusalToChangeHead_46 rfl rfl ?_
  refine x_aload_n (pc' := 48) d_V_refusalToChangeHead_47 rfl rfl ?_
  refine x_virtual (a := 0) (as := [.ref a]) (r := []) (v := (some (.int (sp_bi (sp_clean S.1 (S.2 r)))))) (h' := h) (st' := [.int (sp_bi (sp_clean S.1 (S.2 r)))]) (c' := 0) (s' := 0) (pc' := 51) d_V_refusalToChangeHead_48 rfl c_V_83 hV.1 rfl rfl (Nat.le_of_ble_eq_true rfl) (Nat.le_of_ble_eq_true rfl) (Nat.le_of_ble_eq_true rfl) (fun Q' hq => c_V_isClean hV.1 hH hR hS.1 hWR hq) rfl rfl rfl ?_
  refine x_ifeq (t := 58) (pc' := 54) d_V_refusalToChangeHead_51 rfl rfl (fun q => absurd q (by rw [hcl]; decide)) (fun _ => ?_)
  refine x_iconst (v := 0) (pc' := 55) d_V_refusalToChangeHead_54 rfl (by decide) ?_
  refine x_goto (t := 60) d_V_refusalToChangeHead_55 rfl ?_
  exact x_ireturn d_V_refusalToChangeHead_60 rfl rfl hQ
theorem c_V_refuse_d {L : Nat} {xs : Nat → Int32} {d : Nat} {h : xm_H} {Q : xm_Q} {S : sp_S} (hV : ch_V h S) (hS : sp_WS S) {r b : Nat} (hr : r < 2) (hb : b < 4) (hn : sp_tip (S.2 r) b ≠ none) (hn2 : sp_head (S.2 r) ≠ none) (hcl : sp_clean S.1 (S.2 r) = false) (hQ : Q (some (.int (-3))) h) : xm_call L xs (d + 5) m_V_refusalToChangeHead [.ref 0, .int (nI r), .int (nI b)] h Q := by
  obtain ⟨g, hg, hg2⟩ := hV.2.1
  obtain ⟨a, ha7⟩ : ∃ a, a = 7 + 4 * r := ⟨_, rfl⟩
  have hR : ch_R h a (S.2 r) := by rw [ha7]; exact hV.2.2.2.1 r hr
  have hH := hV.2.2.1
  have hWR := hS.2 r hr
  obtain ⟨t, ht, ht2⟩ := hR.2.2.1
  refine x_call (lo := [.ref 0, .int (nI r), .int (nI b), .float 0]) (Nat.le_of_ble_eq_true rfl) rfl ?_
  refine x_iload_n (pc' := 1) d_V_refusalToChangeHead_0 rfl rfl ?_
  refine x_static (as := [.int (nI r)]) (r := []) (v := (some (.int 1))) (h' := h) (st' := [.int 1]) (c' := 0) (s' := 0) (pc' := 4) d_V_refusalToChangeHead_1 rfl c_V_30 rfl rfl (Nat.le_of_ble_eq_true rfl) (Nat.le_of_ble_eq_true rfl) (Nat.le_of_ble_eq_true rfl) (fun Q' hq => c_V_isRepository1 hr hq) rfl rfl rfl ?_
  refine x_ifeq (t := 14) (pc' := 7) d_V_refusalToChangeHead_4 rfl rfl (fun q => absurd q (by decide)) (fun _ => ?_)
  refine x_iload_n (pc' := 8) d_V_refusalToChangeHead_7 rfl rfl ?_
  refine x_static (as := [.int (nI b)]) (r := []) (v := (some (.int 1))) (h' := h) (st' := [.int 1]) (c' := 0) (s' := 0) (pc' := 11) d_V_refusalToChangeHead_8 rfl c_V_80 rfl rfl (Nat.le_of_ble_eq_true rfl) (Nat.le_of_ble_eq_true rfl) (Nat.le_of_ble_eq_true rfl) (fun Q' hq => c_V_isBranch1 hb hq) rfl rfl rfl ?_
  refine x_ifne (t := 16) (pc' := 14) d_V_refusalToChangeHead_11 rfl rfl (fun _ => ?_) (fun q => absurd q (by decide))
  refine x_aload_n (pc' := 17) d_V_refusalToChangeHead_16 rfl rfl ?_
  refine x_getfield (ci := 3) (i := 1) (v := .ref 6) (pc' := 20) d_V_refusalToChangeHead_17 rfl g_V_18 hV.1 rfl ?_
  refine x_iload_n (pc' := 21) d_V_refusalToChangeHead_20 rfl rfl ?_
  refine x_aaload (q := a) (pc' := 22) d_V_refusalToChangeHead_21 rfl hg (Or.inr rfl) (vp_in_nI hr (by decide)) (by rw [nI_clamp (by omega), hg2 r hr, ha7]) ?_
  refine x_astore_n (lo' := [.ref 0, .int (nI r), .int (nI b), .ref a]) (pc' := 23) d_V_refusalToChangeHead_22 rfl (Nat.le_of_ble_eq_true rfl) rfl ?_
  refine x_aload_n (pc' := 24) d_V_refusalToChangeHead_23 rfl rfl ?_
  refine x_getfield (ci := 1) (i := 0) (v := .ref (a + 1)) (pc' := 27) d_V_refusalToChangeHead_24 rfl g_V_72 hR.2.1 rfl ?_
  refine x_iload_n (pc' := 28) d_V_refusalToChangeHead_27 rfl rfl ?_
  refine x_iaload (v := sp_vi (sp_tip (S.2 r) b)) (pc' := 29) d_V_refusalToChangeHead_28 rfl ht (vp_in_nI hb (by decide)) (by rw [nI_clamp (by omega), ht2 b hb]) ?_
  refine x_bipush (v := (-2)) (pc' := 31) d_V_refusalToChangeHead_29 rfl (by decide) ?_
  refine x_icmpeq (t := 43) (pc' := 34) d_V_refusalToChangeHead_31 rfl rfl (fun q => absurd q (fun e => absurd ((sp_vi_ge (n := 40) (by decide) (fun k hk => Nat.lt_of_lt_of_le (hWR.2.1 b hb k hk) hS.1.1)).2.mp e) hn)) (fun _ => ?_)
  refine x_aload_n (pc' := 35) d_V_refusalToChangeHead_34 rfl rfl ?_
  refine x_virtual (a := a) (as := []) (r := []) (v := (some (.int (sp_vi (sp_head (S.2 r)))))) (h' := h) (st' := [.int (sp_vi (sp_head (S.2 r)))]) (c' := 0) (s' := 0) (pc' := 38) d_V_refusalToChangeHead_35 rfl c_V_52 hR.2.1 rfl rfl (Nat.le_of_ble_eq_true rfl) (Nat.le_of_ble_eq_true rfl) (Nat.le_of_ble_eq_true rfl) (fun Q' hq => c_R_head hR hq) rfl rfl rfl ?_
  refine x_bipush (v := (-2)) (pc' := 40) d_V_refusalToChangeHead_38 rfl (by decide) ?_
  refine x_icmpne (t := 46) (pc' := 43) d_V_refusalToChangeHead_40 rfl rfl (fun _ => ?_) (fun q => absurd q (fun e => absurd ((sp_vi_ge (n := 40) (by decide) (fun k hk => Nat.lt_of_lt_of_le (hWR.2.1 _ hWR.1 k hk) hS.1.1)).2.mp e) hn2))
  refine x_aload_n (pc' := 47) d_V_refusalToChangeHead_46 rfl rfl ?_
  refine x_aload_n (pc' := 48) d_V_refusalToChangeHead_47 rfl rfl ?_
  refine x_virtual (a := 0) (as := [.ref a]) (r := []) (v := (some (.int (sp_bi (sp_clean S.1 (S.2 r)))))) (h' := h) (st' := [.int (sp_bi (sp_clean S.1 (S.2 r)))]) (c' := 0) (s' := 0) (pc' := 51) d_V_refusalToChangeHead_48 rfl c_V_83 hV.1 rfl rfl (Nat.le_of_ble_eq_true rfl) (Nat.le_of_ble_eq_true rfl) (Nat.le_of_ble_eq_true rfl) (fun Q' hq => c_V_isClean hV.1 hH hR hS.1 hWR hq) rfl rfl rfl ?_
  refine x_ifeq (t := 58) (pc' := 54) d_V_refusalToChangeHead_51 rfl rfl (fun _ => ?_) (fun q => absurd (by rw [hcl]; rfl) q)
  refine x_bipush (v := (-3)) (pc' := 60) d_V_refusalToChangeHead_58 rfl (by decide) ?_
  exact x_ireturn d_V_refusalToChangeHead_60 rfl rfl hQ
