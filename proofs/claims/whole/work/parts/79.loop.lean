/-! The law's loop. (Printed by c_law2.py.) -/
theorem x_tsw {L : Nat} {xs : Nat → Int32} {call : xm_K} {M : xm_M} {pc : Nat} {lo st : List Value} {h : xm_H} {c s : Nat} {Q : xm_Q} {d0 l0 h0 : Int} {offs : Array Int} {len tg : Nat} {x : Int32} (d : decode (xm_by M) pc = .ok (.tableswitch d0 l0 h0 offs, len))
    (ht : ((x.toInt < l0 ∨ h0 < x.toInt) ∧ (pc : Int) + d0 = (tg : Int)) ∨ (¬ x.toInt < l0 ∧ ¬ h0 < x.toInt ∧ ∃ off, offs[(x.toInt - l0).toNat]? = some off ∧ (pc : Int) + off = (tg : Int))) (k : xm_X L xs call M (tg, lo, st, h, c, s) Q) : xm_X L xs call M (pc, lo, .int x :: st, h, c, s) Q :=
  fun P hP => hP _ _ _ _ _ _ _ _ d ⟨x, st, rfl, tg, ht, k P hP⟩
theorem x_alen {L : Nat} {xs : Nat → Int32} {call : xm_K} {M : xm_M} {pc pc' : Nat} {lo st : List Value} {h : xm_H} {c s : Nat} {Q : xm_Q} (d : decode (xm_by M) pc = .ok (.arraylength, 1)) (e : pc + 1 = pc') (k : xm_X L xs call M (pc', lo, .int (nI L) :: st, h, c, s) Q) : xm_X L xs call M (pc, lo, .retAddr 0 :: st, h, c, s) Q := by
  subst e
  exact fun P hP => hP _ _ _ _ _ _ _ _ d ⟨rfl, st, rfl, k P hP⟩
theorem l_L_law {nm : String} {L : Nat} {xs : Nat → Int32} {d : Nat} {Q : xm_Q} (hL : L < 2 ^ 30) (hQ : ∀ h, Q (some (.int 1)) h) : ∀ z i, L + 7 ≤ i + z → i ≤ L + 6 → ∀ (h : xm_H) (S : sp_S), lv h S → xm_X L xs (xm_call L xs (d + 8)) (m_L_lw nm) (18, [.retAddr 0, .ref 0, .ref 29, .int (nI i)], [], h, 47, 1024) Q := by
  intro z
  induction z with
  | zero =>
    intro i h1 h2
    omega
  | succ z ih =>
  intro i h1 h2 h S a
  refine x_iload_n (pc' := 19) d_L_law_18 rfl rfl ?_
  refine x_sload_n (pc' := 20) d_L_law_19 rfl rfl ?_
  refine x_alen (pc' := 21) d_L_law_20 rfl ?_
  refine x_bipush (v := nI 6) (pc' := 23) d_L_law_21 rfl (by decide) ?_
  refine x_isub (z := nI L - nI 6) (pc' := 24) d_L_law_23 rfl rfl ?_
  have ti := pk_sub_toInt (a := L) (b := 6) hL (by decide)
  have tj := nI_toInt (n := i) (by omega)
  by_cases hi : i + 6 ≤ L
  · obtain ⟨j, hj, ej⟩ := pk_andE (xs i) (m := 31) 5 (by decide)
    refine x_icmpgt (t := 834) (pc' := 27) d_L_law_24 rfl rfl (fun q => absurd q (by rw [Int32.lt_iff_toInt_lt]; omega)) (fun _ => ?_)
    refine x_sload_n (pc' := 28) d_L_law_27 rfl rfl ?_
    refine x_iload_n (pc' := 29) d_L_law_28 rfl rfl ?_
    refine x_sld (v := xs i) (pc' := 30) d_L_law_29 rfl (vp_in_nI (by omega) (by omega)) (by rw [nI_clamp (by omega)]) ?_
    refine x_bipush (v := 31) (pc' := 32) d_L_law_30 rfl (by decide) ?_
    refine x_iand (z := nI j) (pc' := 33) d_L_law_32 rfl ej ?_
    have t9 := nI_toInt (n := j) (by omega)
    have E : ∀ h' S', lv h' S' → xm_X L xs (xm_call L xs (d + 8)) (m_L_lw nm) (828, [.retAddr 0, .ref 0, .ref 29, .int (nI i)], [], h', 47, 1024) Q := by
      intro h' S' a'
      refine x_iinc (y := nI (i + 6)) (lo' := [.retAddr 0, .ref 0, .ref 29, .int (nI (i + 6))]) (pc' := 831) d_L_law_828 rfl rfl (nI_add i 6) rfl ?_
      refine x_goto (t := 18) d_L_law_831 rfl ?_
      exact ih (i + 6) (by omega) (by omega) h' S' a'
    by_cases h20 : j ≤ 20
    · match j, h20, t9 with
      | 0, _, t9 => exact x_tsw (tg := 132) d_L_law_33 (Or.inr (by decide)) (a_L_write hi hL a E)
      | 1, _, t9 => exact x_tsw (tg := 215) d_L_law_33 (Or.inr (by decide)) (a_L_remove hi hL a E)
      | 2, _, t9 => exact x_tsw (tg := 248) d_L_law_33 (Or.inr (by decide)) (a_L_stage hi hL a E)
      | 3, _, t9 => exact x_tsw (tg := 281) d_L_law_33 (Or.inr (by decide)) (a_L_commit hi hL a E)
      | 4, _, t9 => exact x_tsw (tg := 304) d_L_law_33 (Or.inr (by decide)) (a_L_branch hi hL a E)
      | 5, _, t9 => exact x_tsw (tg := 337) d_L_law_33 (Or.inr (by decide)) (a_L_drop hi hL a E)
      | 6, _, t9 => exact x_tsw (tg := 370) d_L_law_33 (Or.inr (by decide)) (a_L_checkout hi hL a E)
      | 7, _, t9 => exact x_tsw (tg := 403) d_L_law_33 (Or.inr (by decide)) (a_L_merge hi hL a E)
      | 8, _, t9 => exact x_tsw (tg := 436) d_L_law_33 (Or.inr (by decide)) (a_L_pick hi hL a E)
      | 9, _, t9 => exact x_tsw (tg := 469) d_L_law_33 (Or.inr (by decide)) (a_L_rebase hi hL a E)
      | 10, _, t9 => exact x_tsw (tg := 502) d_L_law_33 (Or.inr (by decide)) (a_L_collect hi hL a E)
      | 11, _, t9 => exact x_tsw (tg := 525) d_L_law_33 (Or.inr (by decide)) (a_L_send hi hL a E)
      | 12, _, t9 => exact x_tsw (tg := 558) d_L_law_33 (Or.inr (by decide)) (a_L_current hi hL a E)
      | 13, _, t9 => exact x_tsw (tg := 581) d_L_law_33 (Or.inr (by decide)) (a_L_tip hi hL a E)
      | 14, _, t9 => exact x_tsw (tg := 614) d_L_law_33 (Or.inr (by decide)) (a_L_holds hi hL a E)
      | 15, _, t9 => exact x_tsw (tg := 647) d_L_law_33 (Or.inr (by decide)) (a_L_commits hi hL a E)
      | 16, _, t9 => exact x_tsw (tg := 660) d_L_law_33 (Or.inr (by decide)) (a_L_parent hi hL a E)
      | 17, _, t9 => exact x_tsw (tg := 693) d_L_law_33 (Or.inr (by decide)) (a_L_text hi hL a E)
      | 18, _, t9 => exact x_tsw (tg := 727) d_L_law_33 (Or.inr (by decide)) (a_L_working hi hL a E)
      | 19, _, t9 => exact x_tsw (tg := 761) d_L_law_33 (Or.inr (by decide)) (a_L_staged hi hL a E)
      | 20, _, t9 => exact x_tsw (tg := 795) d_L_law_33 (Or.inr (by decide)) (a_L_base hi hL a E)
      | k + 21, q, _ => omega
    · exact x_tsw (tg := 828) d_L_law_33 (Or.inl ⟨Or.inr (by rw [t9]; omega), by decide⟩) (E h S a)
  · refine x_icmpgt (t := 834) (pc' := 27) d_L_law_24 rfl rfl (fun _ => ?_) (fun q => absurd (by rw [Int32.lt_iff_toInt_lt]; omega) q)
    refine x_iconst (v := 1) (pc' := 835) d_L_law_834 rfl (by decide) ?_
    exact x_ireturn d_L_law_835 rfl rfl (hQ h)
