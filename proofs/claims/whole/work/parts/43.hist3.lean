/-! Contracts of add, isReachedByLater, baseOf. (Printed by c_hist3.py.) -/
theorem c_H_addFull {L : Nat} {xs : Nat → Int32} {d : Nat} {h : xm_H} {H : sp_H} {Q : xm_Q} {q : Nat} {x y : Int32} (hH : ch_H h H) (hn : 40 ≤ sp_n H) (hQ : Q (some (.int (-6))) h) : xm_call L xs (d + 1) m_H_add [.ref 1, .ref q, .int x, .int y] h Q := by
  refine x_call (lo := [.ref 1, .ref q, .int x, .int y, .float 0, .float 0]) (Nat.le_of_ble_eq_true rfl) rfl ?_
  refine x_aload_n (pc' := 1) d_H_add_0 rfl rfl ?_
  refine x_getfield (ci := 0) (i := 4) (v := .int (nI (sp_n H))) (pc' := 4) d_H_add_1 rfl g_H_25 hH.1.2 rfl ?_
  refine x_bipush (v := nI 40) (pc' := 6) d_H_add_4 rfl (by decide) ?_
  refine x_icmplt (t := 12) (pc' := 9) d_H_add_6 rfl rfl (fun q => absurd q (nI_nlt hn (by have := hH.1.1; omega))) (fun _ => ?_)
  refine x_bipush (v := (-6)) (pc' := 11) d_H_add_9 rfl (by decide) ?_
  exact x_ireturn d_H_add_11 rfl rfl hQ
set_option maxHeartbeats 4000000 in
theorem c_H_add {L : Nat} {xs : Nat → Int32} {d : Nat} {h : xm_H} {H : sp_H} {Q : xm_Q} {q : Nat} {w : Nat → Int64} {t : sp_T} {p1 p2 : Option Nat} (hH : ch_H h H) (hn0 : sp_n H < 40) (hq5 : 5 < q) (hw : h[q]? = some (.inl (.long, 4, .inr (.inl w)))) (hw2 : ∀ j, j < 4 → w j = sp_tv (t j)) (hp1 : sp_ok (sp_n H) p1) (hp2 : sp_ok (sp_n H) p2) (b1 : sp_ro H p1 < 2 ^ 64) (b2 : sp_ro H p2 < 2 ^ 64)
    (hQ : ∀ h' : xm_H, ch_H h' (sp_add H t p1 p2) → xl_fr (fun k => 1 ≤ k ∧ k ≤ 5) h h' → Q (some (.int (nI (sp_n H)))) h') : xm_call L xs (d + 3) m_H_add [.ref 1, .ref q, .int (sp_vi p1), .int (sp_vi p2)] h Q := by
  obtain ⟨⟨g0, g1⟩, ⟨T, g2, e2⟩, ⟨P, g3, e3⟩, ⟨P', g4, e4⟩, ⟨R, g5, e5⟩⟩ := hH
  obtain ⟨n, hnn⟩ : ∃ n, n = sp_n H := ⟨_, rfl⟩
  rw [← hnn] at g0 g1 e2 e3 e4 e5 hn0 hp1 hp2
  have hn : n < 40 := hn0
  have b0 : 2 ^ n < 2 ^ 64 := Nat.pow_lt_pow_right (by decide) (by omega)
  have c4 : ∀ k, k < 4 → (nI (n * 4 + k)).toNatClampNeg = n * 4 + k := fun k hk => nI_clamp (by omega)
  have cn : (nI n).toNatClampNeg = n := nI_clamp (by omega)
  have hH6 : ch_H (((h.set 2 (.inl (.long, 160, .inr (.inl (vp_updL (vp_updL (vp_updL (vp_updL T (nI (n * 4 + 0)).toNatClampNeg (sp_tv (t 0))) (nI (n * 4 + 1)).toNatClampNeg (sp_tv (t 1))) (nI (n * 4 + 2)).toNatClampNeg (sp_tv (t 2))) (nI (n * 4 + 3)).toNatClampNeg (sp_tv (t 3))))))).set 3 (.inl (.int, 40, .inl (upd P (nI n).toNatClampNeg (sp_vi p1))))).set 4 (.inl (.int, 40, .inl (upd P' (nI n).toNatClampNeg (sp_vi p2))))) H := by
    refine ⟨⟨by rw [← hnn]; exact g0, ?_⟩, ⟨_, (xl_ne (by decide)).trans ((xl_ne (by decide)).trans (xl_at g2)), fun j hj => ?_⟩, ⟨_, (xl_ne (by decide)).trans (xl_at ((xl_ne (by decide)).trans g3)), fun j hj => ?_⟩, ⟨_, xl_at ((xl_ne (by decide)).trans ((xl_ne (by decide)).trans g4)), fun j hj => ?_⟩, ⟨R, (xl_ne (by decide)).trans ((xl_ne (by decide)).trans ((xl_ne (by decide)).trans g5)), fun j hj => ?_⟩⟩
    · rw [← hnn]
      exact (xl_ne (by decide)).trans ((xl_ne (by decide)).trans ((xl_ne (by decide)).trans g1))
    · rw [← hnn] at hj
      rw [c4 0 (by decide), c4 1 (by decide), c4 2 (by decide), c4 3 (by decide)]
      unfold vp_updL
      rw [if_neg (by omega), if_neg (by omega), if_neg (by omega), if_neg (by omega)]
      exact e2 j hj
    · rw [← hnn] at hj
      rw [cn]
      unfold upd
      rw [if_neg (by omega)]
      exact e3 j hj
    · rw [← hnn] at hj
      rw [cn]
      unfold upd
      rw [if_neg (by omega)]
      exact e4 j hj
    · rw [← hnn] at hj
      exact e5 j hj
  have hfin : ch_H (((((h.set 2 (.inl (.long, 160, .inr (.inl (vp_updL (vp_updL (vp_updL (vp_updL T (nI (n * 4 + 0)).toNatClampNeg (sp_tv (t 0))) (nI (n * 4 + 1)).toNatClampNeg (sp_tv (t 1))) (nI (n * 4 + 2)).toNatClampNeg (sp_tv (t 2))) (nI (n * 4 + 3)).toNatClampNeg (sp_tv (t 3))))))).set 3 (.inl (.int, 40, .inl (upd P (nI n).toNatClampNeg (sp_vi p1))))).set 4 (.inl (.int, 40, .inl (upd P' (nI n).toNatClampNeg (sp_vi p2))))).set 5 (.inl (.long, 40, .inr (.inl (vp_updL R (nI n).toNatClampNeg (lN (2 ^ n ||| sp_ro H p1 ||| sp_ro H p2))))))).set 1 (.inr (0, [.ref 2, .ref 3, .ref 4, .ref 5, .int (nI (n + 1))]))) (sp_add H t p1 p2) := by
    refine ⟨⟨?_, ?_⟩, ⟨_, (xl_ne (by decide)).trans ((xl_ne (by decide)).trans ((xl_ne (by decide)).trans ((xl_ne (by decide)).trans (xl_at g2)))), fun j hj => ?_⟩, ⟨_, (xl_ne (by decide)).trans ((xl_ne (by decide)).trans ((xl_ne (by decide)).trans (xl_at ((xl_ne (by decide)).trans g3)))), fun j hj => ?_⟩, ⟨_, (xl_ne (by decide)).trans ((xl_ne (by decide)).trans (xl_at ((xl_ne (by decide)).trans ((xl_ne (by decide)).trans g4)))), fun j hj => ?_⟩, ⟨_, (xl_ne (by decide)).trans (xl_at ((xl_ne (by decide)).trans ((xl_ne (by decide)).trans ((xl_ne (by decide)).trans g5)))), fun j hj => ?_⟩⟩
    · show sp_n H + 1 ≤ 40
      omega
    · show _ = (some (Sum.inr (0, [.ref 2, .ref 3, .ref 4, .ref 5, .int (nI (sp_n H + 1))])) : Option xm_C)
      rw [← hnn]
      exact xl_at ((xl_ne (by decide)).trans ((xl_ne (by decide)).trans ((xl_ne (by decide)).trans ((xl_ne (by decide)).trans g1))))
    · have hj : j < 4 * (sp_n H + 1) := hj
      show _ = sp_tv (if 4 * sp_n H ≤ j ∧ j < 4 * sp_n H + 4 then t (j - 4 * sp_n H) else sp_tx H j)
      rw [← hnn] at hj ⊢
      rw [c4 0 (by decide), c4 1 (by decide), c4 2 (by decide), c4 3 (by decide)]
      unfold vp_updL
      by_cases h1 : 4 * n ≤ j
      · rw [show (if 4 * n ≤ j ∧ j < 4 * n + 4 then t (j - 4 * n) else sp_tx H j) = t (j - 4 * n) from if_pos ⟨h1, by omega⟩]
        obtain ⟨i, rfl⟩ : ∃ i, j = 4 * n + i := ⟨j - 4 * n, by omega⟩
        have hi : i < 4 := by omega
        rw [Nat.add_sub_cancel_left]
        match i, hi with
        | 0, _ => rw [if_neg (by omega), if_neg (by omega), if_neg (by omega), if_pos (by omega)]
        | 1, _ => rw [if_neg (by omega), if_neg (by omega), if_pos (by omega)]
        | 2, _ => rw [if_neg (by omega), if_pos (by omega)]
        | 3, _ => rw [if_pos (by omega)]
      · rw [show (if 4 * n ≤ j ∧ j < 4 * n + 4 then t (j - 4 * n) else sp_tx H j) = sp_tx H j from if_neg (by omega), if_neg (by omega), if_neg (by omega), if_neg (by omega), if_neg (by omega)]
        exact e2 j (by omega)
    · have hj : j < sp_n H + 1 := hj
      show _ = sp_vi (if j = sp_n H then p1 else sp_p1 H j)
      rw [← hnn] at hj ⊢
      rw [cn]
      unfold upd
      by_cases h1 : j = n
      · rw [if_pos h1, if_pos h1]
      · rw [if_neg h1, if_neg h1]
        exact e3 j (by omega)
    · have hj : j < sp_n H + 1 := hj
      show _ = sp_vi (if j = sp_n H then p2 else sp_p2 H j)
      rw [← hnn] at hj ⊢
      rw [cn]
      unfold upd
      by_cases h1 : j = n
      · rw [if_pos h1, if_pos h1]
      · rw [if_neg h1, if_neg h1]
        exact e4 j (by omega)
    · have hj : j < sp_n H + 1 := hj
      show _ = lN (if j = sp_n H then 2 ^ sp_n H ||| sp_ro H p1 ||| sp_ro H p2 else sp_rr H j)
      rw [← hnn] at hj ⊢
      rw [cn]
      unfold vp_updL
      by_cases h1 : j = n
      · rw [if_pos h1, if_pos h1]
      · rw [if_neg h1, if_neg h1]
        exact e5 j (by omega)
  have hfr : xl_fr (fun k => 1 ≤ k ∧ k ≤ 5) h (((((h.set 2 (.inl (.long, 160, .inr (.inl (vp_updL (vp_updL (vp_updL (vp_updL T (nI (n * 4 + 0)).toNatClampNeg (sp_tv (t 0))) (nI (n * 4 + 1)).toNatClampNeg (sp_tv (t 1))) (nI (n * 4 + 2)).toNatClampNeg (sp_tv (t 2))) (nI (n * 4 + 3)).toNatClampNeg (sp_tv (t 3))))))).set 3 (.inl (.int, 40, .inl (upd P (nI n).toNatClampNeg (sp_vi p1))))).set 4 (.inl (.int, 40, .inl (upd P' (nI n).toNatClampNeg (sp_vi p2))))).set 5 (.inl (.long, 40, .inr (.inl (vp_updL R (nI n).toNatClampNeg (lN (2 ^ n ||| sp_ro H p1 ||| sp_ro H p2))))))).set 1 (.inr (0, [.ref 2, .ref 3, .ref 4, .ref 5, .int (nI (n + 1))]))) := xl_tr (xl_set ⟨by decide, by decide⟩) (xl_tr (xl_set ⟨by decide, by decide⟩) (xl_tr (xl_set ⟨by decide, by decide⟩) (xl_tr (xl_set ⟨by decide, by decide⟩) (xl_set ⟨by decide, by decide⟩))))
  rw [← hnn] at hQ
  rw [hnn] at hp1 hp2
  refine x_call (lo := [.ref 1, .ref q, .int (sp_vi p1), .int (sp_vi p2), .float 0, .float 0]) (Nat.le_of_ble_eq_true rfl) rfl ?_
  refine x_aload_n (pc' := 1) d_H_add_0 rfl rfl ?_
  refine x_getfield (ci := 0) (i := 4) (v := .int (nI n)) (pc' := 4) d_H_add_1 rfl g_H_25 g1 rfl ?_
  refine x_bipush (v := nI 40) (pc' := 6) d_H_add_4 rfl (by decide) ?_
  refine x_icmplt (t := 12) (pc' := 9) d_H_add_6 rfl rfl (fun _ => ?_) (fun q => absurd (nI_lt hn (by decide)) q)
  refine x_aload_n (pc' := 13) d_H_add_12 rfl rfl ?_
  refine x_getfield (ci := 0) (i := 4) (v := .int (nI n)) (pc' := 16) d_H_add_13 rfl g_H_25 g1 rfl ?_
  refine x_istore (lo' := [.ref 1, .ref q, .int (sp_vi p1), .int (sp_vi p2), .int (nI n), .float 0]) (pc' := 18) d_H_add_16 rfl (Nat.le_of_ble_eq_true rfl) rfl ?_
  refine x_iconst (v := nI 0) (pc' := 19) d_H_add_18 rfl (by decide) ?_
  refine x_istore (lo' := [.ref 1, .ref q, .int (sp_vi p1), .int (sp_vi p2), .int (nI n), .int (nI 0)]) (pc' := 21) d_H_add_19 rfl (Nat.le_of_ble_eq_true rfl) rfl ?_
  refine x_iload (pc' := 23) d_H_add_21 rfl rfl ?_
  refine x_iconst (v := nI 4) (pc' := 24) d_H_add_23 rfl (by decide) ?_
  refine x_icmpge (t := 49) (pc' := 27) d_H_add_24 rfl rfl (fun q => absurd q (nI_ge (by decide) (by decide))) (fun _ => ?_)
  refine x_aload_n (pc' := 28) d_H_add_27 rfl rfl ?_
  refine x_getfield (ci := 0) (i := 0) (v := .ref 2) (pc' := 31) d_H_add_28 rfl g_H_9 g1 rfl ?_
  refine x_iload (pc' := 33) d_H_add_31 rfl rfl ?_
  refine x_iconst (v := nI 4) (pc' := 34) d_H_add_33 rfl (by decide) ?_
  refine x_imul (z := nI (n * 4)) (pc' := 35) d_H_add_34 rfl (pk_mul n 4) ?_
  refine x_iload (pc' := 37) d_H_add_35 rfl rfl ?_
  refine x_iadd (z := nI (n * 4 + 0)) (pc' := 38) d_H_add_37 rfl (nI_add _ _) ?_
  refine x_aload_n (pc' := 39) d_H_add_38 rfl rfl ?_
  refine x_iload (pc' := 41) d_H_add_39 rfl rfl ?_
  refine x_laload (v := sp_tv (t 0)) (pc' := 42) d_H_add_41 rfl hw (vp_in_nI (by decide) (by decide)) ((congrArg w (nI_clamp (by decide))).trans (hw2 0 (by decide))) ?_
  refine x_lastore (h' := (h.set 2 (.inl (.long, 160, .inr (.inl (vp_updL T (nI (n * 4 + 0)).toNatClampNeg (sp_tv (t 0)))))))) (pc' := 43) d_H_add_42 rfl g2 (vp_in_nI (by omega) (by decide)) rfl ?_
  refine x_iinc (y := nI 1) (lo' := [.ref 1, .ref q, .int (sp_vi p1), .int (sp_vi p2), .int (nI n), .int (nI 1)]) (pc' := 46) d_H_add_43 rfl rfl (sp_nI_inc 0) rfl ?_
  refine x_goto (t := 21) d_H_add_46 rfl ?_
  refine x_iload (pc' := 23) d_H_add_21 rfl rfl ?_
  refine x_iconst (v := nI 4) (pc' := 24) d_H_add_23 rfl (by decide) ?_
  refine x_icmpge (t := 49) (pc' := 27) d_H_add_24 rfl rfl (fun q => absurd q (nI_ge (by decide) (by decide))) (fun _ => ?_)
  refine x_aload_n (pc' := 28) d_H_add_27 rfl rfl ?_
  refine x_getfield (ci := 0) (i := 0) (v := .ref 2) (pc' := 31) d_H_add_28 rfl g_H_9 ((xl_ne (by decide)).trans (g1)) rfl ?_
  refine x_iload (pc' := 33) d_H_add_31 rfl rfl ?_
  refine x_iconst (v := nI 4) (pc' := 34) d_H_add_33 rfl (by decide) ?_
  refine x_imul (z := nI (n * 4)) (pc' := 35) d_H_add_34 rfl (pk_mul n 4) ?_
  refine x_iload (pc' := 37) d_H_add_35 rfl rfl ?_
  refine x_iadd (z := nI (n * 4 + 1)) (pc' := 38) d_H_add_37 rfl (nI_add _ _) ?_
  refine x_aload_n (pc' := 39) d_H_add_38 rfl rfl ?_
  refine x_iload (pc' := 41) d_H_add_39 rfl rfl ?_
  refine x_laload (v := sp_tv (t 1)) (pc' := 42) d_H_add_41 rfl ((xl_ne (by omega)).trans hw) (vp_in_nI (by decide) (by decide)) ((congrArg w (nI_clamp (by decide))).trans (hw2 1 (by decide))) ?_
  refine x_lastore (h' := (h.set 2 (.inl (.long, 160, .inr (.inl (vp_updL (vp_updL T (nI (n * 4 + 0)).toNatClampNeg (sp_tv (t 0))) (nI (n * 4 + 1)).toNatClampNeg (sp_tv (t 1)))))))) (pc' := 43) d_H_add_42 rfl (xl_at g2) (vp_in_nI (by omega) (by decide)) (List.set_set ..) ?_
  refine x_iinc (y := nI 2) (lo' := [.ref 1, .ref q, .int (sp_vi p1), .int (sp_vi p2), .int (nI n), .int (nI 2)]) (pc' := 46) d_H_add_43 rfl rfl (sp_nI_inc 1) rfl ?_
  refine x_goto (t := 21) d_H_add_46 rfl ?_
  refine x_iload (pc' := 23) d_H_add_21 rfl rfl ?_
  refine x_iconst (v := nI 4) (pc' := 24) d_H_add_23 rfl (by decide) ?_
  refine x_icmpge (t := 49) (pc' := 27) d_H_add_24 rfl rfl (fun q => absurd q (nI_ge (by decide) (by decide))) (fun _ => ?_)
  refine x_aload_n (pc' := 28) d_H_add_27 rfl rfl ?_
  refine x_getfield (ci := 0) (i := 0) (v := .ref 2) (pc' := 31) d_H_add_28 rfl g_H_9 ((xl_ne (by decide)).trans (g1)) rfl ?_
  refine x_iload (pc' := 33) d_H_add_31 rfl rfl ?_
  refine x_iconst (v := nI 4) (pc' := 34) d_H_add_33 rfl (by decide) ?_
  refine x_imul (z := nI (n * 4)) (pc' := 35) d_H_add_34 rfl (pk_mul n 4) ?_
  refine x_iload (pc' := 37) d_H_add_35 rfl rfl ?_
  refine x_iadd (z := nI (n * 4 + 2)) (pc' := 38) d_H_add_37 rfl (nI_add _ _) ?_
  refine x_aload_n (pc' := 39) d_H_add_38 rfl rfl ?_
  refine x_iload (pc' := 41) d_H_add_39 rfl rfl ?_
  refine x_laload (v := sp_tv (t 2)) (pc' := 42) d_H_add_41 rfl ((xl_ne (by omega)).trans hw) (vp_in_nI (by decide) (by decide)) ((congrArg w (nI_clamp (by decide))).trans (hw2 2 (by decide))) ?_
  refine x_lastore (h' := (h.set 2 (.inl (.long, 160, .inr (.inl (vp_updL (vp_updL (vp_updL T (nI (n * 4 + 0)).toNatClampNeg (sp_tv (t 0))) (nI (n * 4 + 1)).toNatClampNeg (sp_tv (t 1))) (nI (n * 4 + 2)).toNatClampNeg (sp_tv (t 2)))))))) (pc' := 43) d_H_add_42 rfl (xl_at g2) (vp_in_nI (by omega) (by decide)) (List.set_set ..) ?_
  refine x_iinc (y := nI 3) (lo' := [.ref 1, .ref q, .int (sp_vi p1), .int (sp_vi p2), .int (nI n), .int (nI 3)]) (pc' := 46) d_H_add_43 rfl rfl (sp_nI_inc 2) rfl ?_
  refine x_goto (t := 21) d_H_add_46 rfl ?_
  refine x_iload (pc' := 23) d_H_add_21 rfl rfl ?_
  refine x_iconst (v := nI 4) (pc' := 24) d_H_add_23 rfl (by decide) ?_
  refine x_icmpge (t := 49) (pc' := 27) d_H_add_24 rfl rfl (fun q => absurd q (nI_ge (by decide) (by decide))) (fun _ => ?_)
  refine x_aload_n (pc' := 28) d_H_add_27 rfl rfl ?_
  refine x_getfield (ci := 0) (i := 0) (v := .ref 2) (pc' := 31) d_H_add_28 rfl g_H_9 ((xl_ne (by decide)).trans (g1)) rfl ?_
  refine x_iload (pc' := 33) d_H_add_31 rfl rfl ?_
  refine x_iconst (v := nI 4) (pc' := 34) d_H_add_33 rfl (by decide) ?_
  refine x_imul (z := nI (n * 4)) (pc' := 35) d_H_add_34 rfl (pk_mul n 4) ?_
  refine x_iload (pc' := 37) d_H_add_35 rfl rfl ?_
  refine x_iadd (z := nI (n * 4 + 3)) (pc' := 38) d_H_add_37 rfl (nI_add _ _) ?_
  refine x_aload_n (pc' := 39) d_H_add_38 rfl rfl ?_
  refine x_iload (pc' := 41) d_H_add_39 rfl rfl ?_
  refine x_laload (v := sp_tv (t 3)) (pc' := 42) d_H_add_41 rfl ((xl_ne (by omega)).trans hw) (vp_in_nI (by decide) (by decide)) ((congrArg w (nI_clamp (by decide))).trans (hw2 3 (by decide))) ?_
  refine x_lastore (h' := (h.set 2 (.inl (.long, 160, .inr (.inl (vp_updL (vp_updL (vp_updL (vp_updL T (nI (n * 4 + 0)).toNatClampNeg (sp_tv (t 0))) (nI (n * 4 + 1)).toNatClampNeg (sp_tv (t 1))) (nI (n * 4 + 2)).toNatClampNeg (sp_tv (t 2))) (nI (n * 4 + 3)).toNatClampNeg (sp_tv (t 3)))))))) (pc' := 43) d_H_add_42 rfl (xl_at g2) (vp_in_nI (by omega) (by decide)) (List.set_set ..) ?_
  refine x_iinc (y := nI 4) (lo' := [.ref 1, .ref q, .int (sp_vi p1), .int (sp_vi p2), .int (nI n), .int (nI 4)]) (pc' := 46) d_H_add_43 rfl rfl (sp_nI_inc 3) rfl ?_
  refine x_goto (t := 21) d_H_add_46 rfl ?_
  refine x_iload (pc' := 23) d_H_add_21 rfl rfl ?_
  refine x_iconst (v := nI 4) (pc' := 24) d_H_add_23 rfl (by decide) ?_
  refine x_icmpge (t := 49) (pc' := 27) d_H_add_24 rfl rfl (fun _ => ?_) (fun q => absurd (nI_le (by decide) (by decide)) q)
  refine x_aload_n (pc' := 50) d_H_add_49 rfl rfl ?_
  refine x_getfield (ci := 0) (i := 1) (v := .ref 3) (pc' := 53) d_H_add_50 rfl g_H_15 ((xl_ne (by decide)).trans (g1)) rfl ?_
  refine x_iload (pc' := 55) d_H_add_53 rfl rfl ?_
  refine x_iload_n (pc' := 56) d_H_add_55 rfl rfl ?_
  refine x_iastore (h' := ((h.set 2 (.inl (.long, 160, .inr (.inl (vp_updL (vp_updL (vp_updL (vp_updL T (nI (n * 4 + 0)).toNatClampNeg (sp_tv (t 0))) (nI (n * 4 + 1)).toNatClampNeg (sp_tv (t 1))) (nI (n * 4 + 2)).toNatClampNeg (sp_tv (t 2))) (nI (n * 4 + 3)).toNatClampNeg (sp_tv (t 3))))))).set 3 (.inl (.int, 40, .inl (upd P (nI n).toNatClampNeg (sp_vi p1)))))) (pc' := 57) d_H_add_56 rfl ((xl_ne (by decide)).trans g3) (vp_in_nI hn (by decide)) rfl ?_
  refine x_aload_n (pc' := 58) d_H_add_57 rfl rfl ?_
  refine x_getfield (ci := 0) (i := 2) (v := .ref 4) (pc' := 61) d_H_add_58 rfl g_H_19 ((xl_ne (by decide)).trans ((xl_ne (by decide)).trans (g1))) rfl ?_
  refine x_iload (pc' := 63) d_H_add_61 rfl rfl ?_
  refine x_iload_n (pc' := 64) d_H_add_63 rfl rfl ?_
  refine x_iastore (h' := (((h.set 2 (.inl (.long, 160, .inr (.inl (vp_updL (vp_updL (vp_updL (vp_updL T (nI (n * 4 + 0)).toNatClampNeg (sp_tv (t 0))) (nI (n * 4 + 1)).toNatClampNeg (sp_tv (t 1))) (nI (n * 4 + 2)).toNatClampNeg (sp_tv (t 2))) (nI (n * 4 + 3)).toNatClampNeg (sp_tv (t 3))))))).set 3 (.inl (.int, 40, .inl (upd P (nI n).toNatClampNeg (sp_vi p1))))).set 4 (.inl (.int, 40, .inl (upd P' (nI n).toNatClampNeg (sp_vi p2)))))) (pc' := 65) d_H_add_64 rfl ((xl_ne (by decide)).trans ((xl_ne (by decide)).trans g4)) (vp_in_nI hn (by decide)) rfl ?_
  refine x_aload_n (pc' := 66) d_H_add_65 rfl rfl ?_
  refine x_getfield (ci := 0) (i := 3) (v := .ref 5) (pc' := 69) d_H_add_66 rfl g_H_22 ((xl_ne (by decide)).trans ((xl_ne (by decide)).trans ((xl_ne (by decide)).trans (g1)))) rfl ?_
  refine x_iload (pc' := 71) d_H_add_69 rfl rfl ?_
  refine x_lconst (v := lN 1) (pc' := 72) d_H_add_71 rfl (by decide) ?_
  refine x_iload (pc' := 74) d_H_add_72 rfl rfl ?_
  refine x_lshl (z := lN (2 ^ n)) (pc' := 75) d_H_add_74 rfl (by rw [wb_shl 1 (by omega), Nat.one_mul]) ?_
  refine x_aload_n (pc' := 76) d_H_add_75 rfl rfl ?_
  refine x_iload_n (pc' := 77) d_H_add_76 rfl rfl ?_
  refine x_virtual (a := 1) (as := [.int (sp_vi p1)]) (r := [.long (lN (2 ^ n)), .int (nI n), .ref 5]) (v := (some (.long (lN (sp_ro H p1))))) (h' := (((h.set 2 (.inl (.long, 160, .inr (.inl (vp_updL (vp_updL (vp_updL (vp_updL T (nI (n * 4 + 0)).toNatClampNeg (sp_tv (t 0))) (nI (n * 4 + 1)).toNatClampNeg (sp_tv (t 1))) (nI (n * 4 + 2)).toNatClampNeg (sp_tv (t 2))) (nI (n * 4 + 3)).toNatClampNeg (sp_tv (t 3))))))).set 3 (.inl (.int, 40, .inl (upd P (nI n).toNatClampNeg (sp_vi p1))))).set 4 (.inl (.int, 40, .inl (upd P' (nI n).toNatClampNeg (sp_vi p2)))))) (st' := [.long (lN (sp_ro H p1)), .long (lN (2 ^ n)), .int (nI n), .ref 5]) (c' := 0) (s' := 0) (pc' := 80) d_H_add_77 rfl c_H_39 hH6.1.2 rfl rfl (Nat.le_of_ble_eq_true rfl) (Nat.le_of_ble_eq_true rfl) (Nat.le_of_ble_eq_true rfl) (fun Q' hq => c_H_reachOf hH6 hp1 hq) rfl rfl rfl ?_
  refine x_lor (z := lN (2 ^ n ||| sp_ro H p1)) (pc' := 81) d_H_add_80 rfl (wb_or b0 b1) ?_
  refine x_aload_n (pc' := 82) d_H_add_81 rfl rfl ?_
  refine x_iload_n (pc' := 83) d_H_add_82 rfl rfl ?_
  refine x_virtual (a := 1) (as := [.int (sp_vi p2)]) (r := [.long (lN (2 ^ n ||| sp_ro H p1)), .int (nI n), .ref 5]) (v := (some (.long (lN (sp_ro H p2))))) (h' := (((h.set 2 (.inl (.long, 160, .inr (.inl (vp_updL (vp_updL (vp_updL (vp_updL T (nI (n * 4 + 0)).toNatClampNeg (sp_tv (t 0))) (nI (n * 4 + 1)).toNatClampNeg (sp_tv (t 1))) (nI (n * 4 + 2)).toNatClampNeg (sp_tv (t 2))) (nI (n * 4 + 3)).toNatClampNeg (sp_tv (t 3))))))).set 3 (.inl (.int, 40, .inl (upd P (nI n).toNatClampNeg (sp_vi p1))))).set 4 (.inl (.int, 40, .inl (upd P' (nI n).toNatClampNeg (sp_vi p2)))))) (st' := [.long (lN (sp_ro H p2)), .long (lN (2 ^ n ||| sp_ro H p1)), .int (nI n), .ref 5]) (c' := 0) (s' := 0) (pc' := 86) d_H_add_83 rfl c_H_39 hH6.1.2 rfl rfl (Nat.le_of_ble_eq_true rfl) (Nat.le_of_ble_eq_true rfl) (Nat.le_of_ble_eq_true rfl) (fun Q' hq => c_H_reachOf hH6 hp2 hq) rfl rfl rfl ?_
  refine x_lor (z := lN (2 ^ n ||| sp_ro H p1 ||| sp_ro H p2)) (pc' := 87) d_H_add_86 rfl (wb_or (Nat.or_lt_two_pow b0 b1) b2) ?_
  refine x_lastore (h' := ((((h.set 2 (.inl (.long, 160, .inr (.inl (vp_updL (vp_updL (vp_updL (vp_updL T (nI (n * 4 + 0)).toNatClampNeg (sp_tv (t 0))) (nI (n * 4 + 1)).toNatClampNeg (sp_tv (t 1))) (nI (n * 4 + 2)).toNatClampNeg (sp_tv (t 2))) (nI (n * 4 + 3)).toNatClampNeg (sp_tv (t 3))))))).set 3 (.inl (.int, 40, .inl (upd P (nI n).toNatClampNeg (sp_vi p1))))).set 4 (.inl (.int, 40, .inl (upd P' (nI n).toNatClampNeg (sp_vi p2))))).set 5 (.inl (.long, 40, .inr (.inl (vp_updL R (nI n).toNatClampNeg (lN (2 ^ n ||| sp_ro H p1 ||| sp_ro H p2)))))))) (pc' := 88) d_H_add_87 rfl ((xl_ne (by decide)).trans ((xl_ne (by decide)).trans ((xl_ne (by decide)).trans g5))) (vp_in_nI hn (by decide)) rfl ?_
  refine x_aload_n (pc' := 89) d_H_add_88 rfl rfl ?_
  refine x_iload (pc' := 91) d_H_add_89 rfl rfl ?_
  refine x_iconst (v := nI 1) (pc' := 92) d_H_add_91 rfl (by decide) ?_
  refine x_iadd (z := nI (n + 1)) (pc' := 93) d_H_add_92 rfl (nI_add _ _) ?_
  refine x_putfield (ci := 0) (i := 4) (h' := (((((h.set 2 (.inl (.long, 160, .inr (.inl (vp_updL (vp_updL (vp_updL (vp_updL T (nI (n * 4 + 0)).toNatClampNeg (sp_tv (t 0))) (nI (n * 4 + 1)).toNatClampNeg (sp_tv (t 1))) (nI (n * 4 + 2)).toNatClampNeg (sp_tv (t 2))) (nI (n * 4 + 3)).toNatClampNeg (sp_tv (t 3))))))).set 3 (.inl (.int, 40, .inl (upd P (nI n).toNatClampNeg (sp_vi p1))))).set 4 (.inl (.int, 40, .inl (upd P' (nI n).toNatClampNeg (sp_vi p2))))).set 5 (.inl (.long, 40, .inr (.inl (vp_updL R (nI n).toNatClampNeg (lN (2 ^ n ||| sp_ro H p1 ||| sp_ro H p2))))))).set 1 (.inr (0, [.ref 2, .ref 3, .ref 4, .ref 5, .int (nI (n + 1))])))) (pc' := 96) d_H_add_93 rfl (p_H_25 _ rfl) ((xl_ne (by decide)).trans ((xl_ne (by decide)).trans ((xl_ne (by decide)).trans ((xl_ne (by decide)).trans g1)))) (Nat.le_of_ble_eq_true rfl) rfl rfl rfl ?_
  refine x_iload (pc' := 98) d_H_add_96 rfl rfl ?_
  exact x_ireturn d_H_add_98 rfl rfl (hQ _ hfin hfr)
/-- what holds of the commits: parents come first, what is reached, texts -/
def sp_WH (H : sp_H) : Prop := sp_n H ≤ 40 ∧ (∀ c, c < sp_n H → sp_ok c (sp_p1 H c) ∧ sp_ok c (sp_p2 H c) ∧ sp_rr H c = 2 ^ c ||| sp_ro H (sp_p1 H c) ||| sp_ro H (sp_p2 H c) ∧ sp_rr H c < 2 ^ (c + 1)) ∧ ∀ j, j < 4 * sp_n H → sp_wt (sp_tx H j)
theorem sp_WH_ro {H : sp_H} (hW : sp_WH H) {c : Option Nat} (hc : sp_ok (sp_n H) c) : sp_ro H c < 2 ^ sp_n H := by
  cases c with
  | none => exact Nat.two_pow_pos _
  | some k =>
    have hk := hc k rfl
    exact Nat.lt_of_lt_of_le (hW.2.1 k hk).2.2.2 (Nat.pow_le_pow_right (by decide) (by omega))
theorem sp_WH_64 {H : sp_H} (hW : sp_WH H) {c : Option Nat} (hc : sp_ok (sp_n H) c) : sp_ro H c < 2 ^ 64 := Nat.lt_of_lt_of_le (sp_WH_ro hW hc) (Nat.pow_le_pow_right (by decide) (by have := hW.1; omega))
theorem sp_WH_of {H : sp_H} (hW : sp_WH H) {c : Option Nat} (hc : sp_ok (sp_n H) c) (f : Nat) (hf : f < 4) : sp_wt (sp_of H c f) := by
  cases c with
  | none => exact fun l e => by cases e
  | some k =>
    have hk := hc k rfl
    exact hW.2.2 _ (by omega)
theorem sp_ok_some {n k : Nat} (h : k < n) : sp_ok n (some k) := fun j e => by cases e; exact h
theorem sp_lt_bit {x k j : Nat} (h : x < 2 ^ k) (hj : k ≤ j) : x.testBit j = false := Nat.testBit_lt_two_pow (Nat.lt_of_lt_of_le h (Nat.pow_le_pow_right (by decide) hj))
theorem l_H_rbl {L : Nat} {xs : Nat → Int32} {d : Nat} {h : xm_H} {H : sp_H} {Q : xm_Q} {m c : Nat} {b : Bool} (hH : ch_H h H) (hW : sp_WH H) (hm : m < 2 ^ 64) (hc : c < sp_n H) (hb : b = true ↔ ∃ k, c < k ∧ k < sp_n H ∧ m.testBit k = true ∧ (sp_rr H k).testBit c = true) (hQ : Q (some (.int (sp_bi b))) h) :
    ∀ r k, k + r = sp_n H → c < k → (∀ j, c < j → j < k → ¬ (m.testBit j = true ∧ (sp_rr H j).testBit c = true)) → xm_X L xs (xm_call L xs (d + 3)) m_H_isReachedByLater (5, [.ref 1, .long (lN m), .float 0, .int (nI c), .int (nI k)], [], h, 0, 0) Q := by
  have h40 := hW.1
  intro r
  induction r with
  | zero =>
    intro k hkr hck hk
    have hkr : k = sp_n H := hkr
    subst hkr
    refine x_iload (pc' := 7) d_H_isReachedByLater_5 rfl rfl ?_
    refine x_aload_n (pc' := 8) d_H_isReachedByLater_7 rfl rfl ?_
    refine x_getfield (ci := 0) (i := 4) (v := .int (nI (sp_n H))) (pc' := 11) d_H_isReachedByLater_8 rfl g_H_25 hH.1.2 rfl ?_
    refine x_icmpge (t := 41) (pc' := 14) d_H_isReachedByLater_11 rfl rfl (fun _ => ?_) (fun q => absurd (nI_le (Nat.le_refl _) (by omega)) q)
    refine x_iconst (v := 0) (pc' := 42) d_H_isReachedByLater_41 rfl (by decide) ?_
    exact x_ireturn d_H_isReachedByLater_42 rfl rfl (x_q (by rw [show b = false from by cases hbb : b with | false => rfl | true => exact absurd (hb.mp hbb) (fun ⟨j, h1, h2, h3, h4⟩ => hk j h1 h2 ⟨h3, h4⟩)]; rfl) hQ)
  | succ r ih =>
    intro k hkr hck hk
    have hkn : k < sp_n H := by omega
    refine x_iload (pc' := 7) d_H_isReachedByLater_5 rfl rfl ?_
    refine x_aload_n (pc' := 8) d_H_isReachedByLater_7 rfl rfl ?_
    refine x_getfield (ci := 0) (i := 4) (v := .int (nI (sp_n H))) (pc' := 11) d_H_isReachedByLater_8 rfl g_H_25 hH.1.2 rfl ?_
    refine x_icmpge (t := 41) (pc' := 14) d_H_isReachedByLater_11 rfl rfl (fun q => absurd q (nI_ge hkn (by omega))) (fun _ => ?_)
    refine x_lload_n (pc' := 15) d_H_isReachedByLater_14 rfl rfl rfl ?_
    refine x_iload (pc' := 17) d_H_isReachedByLater_15 rfl rfl ?_
    refine x_static (as := [.long (lN m), .int (nI k)]) (r := []) (v := (some (.int (sp_bi (m.testBit k))))) (h' := h) (st' := [.int (sp_bi (m.testBit k))]) (c' := 0) (s' := 0) (pc' := 20) d_H_isReachedByLater_17 rfl c_H_43 rfl rfl (Nat.le_of_ble_eq_true rfl) (Nat.le_of_ble_eq_true rfl) (Nat.le_of_ble_eq_true rfl) (fun Q' hq => c_H_isIn hm (by omega) hq) rfl rfl rfl ?_
    refine x_ifeq (t := 35) (pc' := 23) d_H_isReachedByLater_20 rfl rfl (fun q1 => ?_) (fun q1 => ?_)
    · refine x_iinc (y := nI (k + 1)) (lo' := [.ref 1, .long (lN m), .float 0, .int (nI c), .int (nI (k + 1))]) (pc' := 38) d_H_isReachedByLater_35 rfl rfl (sp_nI_inc k) rfl ?_
      refine x_goto (t := 5) d_H_isReachedByLater_38 rfl ?_
      exact ih (k + 1) (by omega) (by omega) (fun j h1 h2 h3 => by rcases Nat.lt_or_eq_of_le (Nat.le_of_lt_succ h2) with h4 | h4; exact hk j h1 h4 h3; subst h4; simp_all [sp_bi_eq0])
    · refine x_aload_n (pc' := 24) d_H_isReachedByLater_23 rfl rfl ?_
      refine x_iload (pc' := 26) d_H_isReachedByLater_24 rfl rfl ?_
      refine x_iload_n (pc' := 27) d_H_isReachedByLater_26 rfl rfl ?_
      refine x_virtual (a := 1) (as := [.int (nI k), .int (nI c)]) (r := []) (v := (some (.int (sp_bi ((sp_rr H k).testBit c))))) (h' := h) (st' := [.int (sp_bi ((sp_rr H k).testBit c))]) (c' := 0) (s' := 0) (pc' := 30) d_H_isReachedByLater_27 rfl c_H_50 hH.1.2 rfl rfl (Nat.le_of_ble_eq_true rfl) (Nat.le_of_ble_eq_true rfl) (Nat.le_of_ble_eq_true rfl) (fun Q' hq => c_H_reaches (c := some k) hH (sp_ok_some hkn) (sp_WH_64 hW (sp_ok_some hkn)) (by omega) hq) rfl rfl rfl ?_
      refine x_ifeq (t := 35) (pc' := 33) d_H_isReachedByLater_30 rfl rfl (fun q2 => ?_) (fun q2 => ?_)
      · refine x_iinc (y := nI (k + 1)) (lo' := [.ref 1, .long (lN m), .float 0, .int (nI c), .int (nI (k + 1))]) (pc' := 38) d_H_isReachedByLater_35 rfl rfl (sp_nI_inc k) rfl ?_
        refine x_goto (t := 5) d_H_isReachedByLater_38 rfl ?_
        exact ih (k + 1) (by omega) (by omega) (fun j h1 h2 h3 => by rcases Nat.lt_or_eq_of_le (Nat.le_of_lt_succ h2) with h4 | h4; exact hk j h1 h4 h3; subst h4; simp_all [sp_bi_eq0])
      · refine x_iconst (v := 1) (pc' := 34) d_H_isReachedByLater_33 rfl (by decide) ?_
        exact x_ireturn d_H_isReachedByLater_34 rfl rfl (x_q (by rw [show b = true from hb.mpr ⟨k, hck, hkn, by simpa [sp_bi_eq0] using q1, by simpa [sp_bi_eq0] using q2⟩]; rfl) hQ)
theorem c_H_isReachedByLater {L : Nat} {xs : Nat → Int32} {d : Nat} {h : xm_H} {H : sp_H} {Q : xm_Q} {m c : Nat} {b : Bool} (hH : ch_H h H) (hW : sp_WH H) (hm : m < 2 ^ 64) (hc : c < sp_n H) (hb : b = true ↔ ∃ k, c < k ∧ k < sp_n H ∧ m.testBit k = true ∧ (sp_rr H k).testBit c = true) (hQ : Q (some (.int (sp_bi b))) h) : xm_call L xs (d + 4) m_H_isReachedByLater [.ref 1, .long (lN m), .int (nI c)] h Q := by
  refine x_call (lo := [.ref 1, .long (lN m), .float 0, .int (nI c), .float 0]) (Nat.le_of_ble_eq_true rfl) rfl ?_
  refine x_iload_n (pc' := 1) d_H_isReachedByLater_0 rfl rfl ?_
  refine x_iconst (v := nI 1) (pc' := 2) d_H_isReachedByLater_1 rfl (by decide) ?_
  refine x_iadd (z := nI (c + 1)) (pc' := 3) d_H_isReachedByLater_2 rfl (nI_add _ _) ?_
  refine x_istore (lo' := [.ref 1, .long (lN m), .float 0, .int (nI c), .int (nI (c + 1))]) (pc' := 5) d_H_isReachedByLater_3 rfl (Nat.le_of_ble_eq_true rfl) rfl ?_
  exact l_H_rbl hH hW hm hc hb hQ (sp_n H - (c + 1)) (c + 1) (by omega) (by omega) (fun j h1 h2 => absurd h1 (by omega))
def sp_lat (H : sp_H) (m k : Nat) : Bool := (List.range (sp_n H)).any (fun j => decide (k < j) && (m.testBit j && (sp_rr H j).testBit k))
theorem sp_lat_iff {H : sp_H} {m k : Nat} : sp_lat H m k = true ↔ ∃ j, k < j ∧ j < sp_n H ∧ m.testBit j = true ∧ (sp_rr H j).testBit k = true := by
  unfold sp_lat
  rw [List.any_eq_true]
  constructor
  · rintro ⟨j, h1, h2⟩
    simp only [Bool.and_eq_true, decide_eq_true_eq] at h2
    exact ⟨j, h2.1, List.mem_range.mp h1, h2.2⟩
  · rintro ⟨j, h1, h2, h3⟩
    exact ⟨j, List.mem_range.mpr h2, by simp only [Bool.and_eq_true, decide_eq_true_eq]; exact ⟨h1, h3⟩⟩
theorem sp_best_iff {H : sp_H} (hW : sp_WH H) {m k : Nat} (hk : k < sp_n H) : sp_best H m k = true ↔ m.testBit k = true ∧ ¬ ∃ j, k < j ∧ j < sp_n H ∧ m.testBit j = true ∧ (sp_rr H j).testBit k = true := by
  unfold sp_best
  rw [Bool.and_eq_true, List.all_eq_true]
  refine and_congr_right (fun _ => ⟨fun h => ?_, fun h j hj => ?_⟩)
  · rintro ⟨j, h1, h2, h3, h4⟩
    have := h j (List.mem_range.mpr h2)
    have hne : (j == k) = false := by simp; omega
    simp [hne, h3, h4] at this
  · have hj := List.mem_range.mp hj
    by_cases h1 : j = k
    · simp [h1]
    · by_cases h2 : k < j
      · cases h3 : m.testBit j with
        | false => simp
        | true =>
          cases h4 : (sp_rr H j).testBit k with
          | false => simp
          | true => exact absurd ⟨j, h2, hj, h3, h4⟩ h
      · have h5 := sp_lt_bit (hW.2.1 j hj).2.2.2 (show j + 1 ≤ k by omega)
        simp [h5]
theorem sp_find_some {n k : Nat} {p : Nat → Bool} (hk : k < n) (hp : p k = true) (hj : ∀ j, j < k → p j = false) : (List.range n).find? p = some k := by
  rw [List.find?_range_eq_some]
  exact ⟨hp, List.mem_range.mpr hk, fun j h => by simp [hj j h]⟩
theorem sp_find_none {n : Nat} {p : Nat → Bool} (hj : ∀ j, j < n → p j = false) : (List.range n).find? p = none := by
  rw [List.find?_eq_none]
  intro j h
  simp [hj j (List.mem_range.mp h)]
theorem l_H_base {L : Nat} {xs : Nat → Int32} {d : Nat} {h : xm_H} {H : sp_H} {Q : xm_Q} {m : Nat} {x y : Int32} (hH : ch_H h H) (hW : sp_WH H) (hm : m < 2 ^ 64) (hQ : Q (some (.int (sp_vi ((List.range (sp_n H)).find? (sp_best H m))))) h) :
    ∀ r k, k + r = sp_n H → (∀ j, j < k → sp_best H m j = false) → xm_X L xs (xm_call L xs (d + 4)) m_H_baseOf (15, [.ref 1, .int x, .int y, .long (lN m), .float 0, .int (nI k)], [], h, 0, 0) Q := by
  have h40 := hW.1
  intro r
  induction r with
  | zero =>
    intro k hkr hk
    have hkr : k = sp_n H := hkr
    subst hkr
    refine x_iload (pc' := 17) d_H_baseOf_15 rfl rfl ?_
    refine x_aload_n (pc' := 18) d_H_baseOf_17 rfl rfl ?_
    refine x_getfield (ci := 0) (i := 4) (v := .int (nI (sp_n H))) (pc' := 21) d_H_baseOf_18 rfl g_H_25 hH.1.2 rfl ?_
    refine x_icmpge (t := 52) (pc' := 24) d_H_baseOf_21 rfl rfl (fun _ => ?_) (fun q => absurd (nI_le (Nat.le_refl _) (by omega)) q)
    refine x_bipush (v := (-2)) (pc' := 54) d_H_baseOf_52 rfl (by decide) ?_
    exact x_ireturn d_H_baseOf_54 rfl rfl (x_q (by rw [sp_find_none hk]; rfl) hQ)
  | succ r ih =>
    intro k hkr hk
    have hkn : k < sp_n H := by omega
    refine x_iload (pc' := 17) d_H_baseOf_15 rfl rfl ?_
    refine x_aload_n (pc' := 18) d_H_baseOf_17 rfl rfl ?_
    refine x_getfield (ci := 0) (i := 4) (v := .int (nI (sp_n H))) (pc' := 21) d_H_baseOf_18 rfl g_H_25 hH.1.2 rfl ?_
    refine x_icmpge (t := 52) (pc' := 24) d_H_baseOf_21 rfl rfl (fun q => absurd q (nI_ge hkn (by omega))) (fun _ => ?_)
    refine x_lload_n (pc' := 25) d_H_baseOf_24 rfl rfl rfl ?_
    refine x_iload (pc' := 27) d_H_baseOf_25 rfl rfl ?_
    refine x_static (as := [.long (lN m), .int (nI k)]) (r := []) (v := (some (.int (sp_bi (m.testBit k))))) (h' := h) (st' := [.int (sp_bi (m.testBit k))]) (c' := 0) (s' := 0) (pc' := 30) d_H_baseOf_27 rfl c_H_43 rfl rfl (Nat.le_of_ble_eq_true rfl) (Nat.le_of_ble_eq_true rfl) (Nat.le_of_ble_eq_true rfl) (fun Q' hq => c_H_isIn hm (by omega) hq) rfl rfl rfl ?_
    refine x_ifeq (t := 46) (pc' := 33) d_H_baseOf_30 rfl rfl (fun q1 => ?_) (fun q1 => ?_)
    · refine x_iinc (y := nI (k + 1)) (lo' := [.ref 1, .int x, .int y, .long (lN m), .float 0, .int (nI (k + 1))]) (pc' := 49) d_H_baseOf_46 rfl rfl (sp_nI_inc k) rfl ?_
      refine x_goto (t := 15) d_H_baseOf_49 rfl ?_
      exact ih (k + 1) (by omega) (fun j h2 => by rcases Nat.lt_or_eq_of_le (Nat.le_of_lt_succ h2) with h4 | h4; exact hk j h4; subst h4; rw [Bool.eq_false_iff]; intro h5; have h6 := (sp_best_iff hW hkn).mp h5; rw [← sp_lat_iff] at h6; simp_all [sp_bi_eq0])
    · refine x_aload_n (pc' := 34) d_H_baseOf_33 rfl rfl ?_
      refine x_lload_n (pc' := 35) d_H_baseOf_34 rfl rfl rfl ?_
      refine x_iload (pc' := 37) d_H_baseOf_35 rfl rfl ?_
      refine x_virtual (a := 1) (as := [.long (lN m), .int (nI k)]) (r := []) (v := (some (.int (sp_bi (sp_lat H m k))))) (h' := h) (st' := [.int (sp_bi (sp_lat H m k))]) (c' := 0) (s' := 0) (pc' := 40) d_H_baseOf_37 rfl c_H_47 hH.1.2 rfl rfl (Nat.le_of_ble_eq_true rfl) (Nat.le_of_ble_eq_true rfl) (Nat.le_of_ble_eq_true rfl) (fun Q' hq => c_H_isReachedByLater hH hW hm hkn sp_lat_iff hq) rfl rfl rfl ?_
      refine x_ifne (t := 46) (pc' := 43) d_H_baseOf_40 rfl rfl (fun q2 => ?_) (fun q2 => ?_)
      · refine x_iinc (y := nI (k + 1)) (lo' := [.ref 1, .int x, .int y, .long (lN m), .float 0, .int (nI (k + 1))]) (pc' := 49) d_H_baseOf_46 rfl rfl (sp_nI_inc k) rfl ?_
        refine x_goto (t := 15) d_H_baseOf_49 rfl ?_
        exact ih (k + 1) (by omega) (fun j h2 => by rcases Nat.lt_or_eq_of_le (Nat.le_of_lt_succ h2) with h4 | h4; exact hk j h4; subst h4; rw [Bool.eq_false_iff]; intro h5; have h6 := (sp_best_iff hW hkn).mp h5; rw [← sp_lat_iff] at h6; simp_all [sp_bi_eq0])
      · refine x_iload (pc' := 45) d_H_baseOf_43 rfl rfl ?_
        exact x_ireturn d_H_baseOf_45 rfl rfl (x_q (by rw [sp_find_some hkn ((sp_best_iff hW hkn).mpr ⟨by simpa [sp_bi_eq0] using q1, fun z => by have := sp_lat_iff.mpr z; rw [this] at q2; exact absurd q2 (by decide)⟩) hk]; rfl) hQ)
theorem c_H_baseOf {L : Nat} {xs : Nat → Int32} {d : Nat} {h : xm_H} {H : sp_H} {Q : xm_Q} {a b : Option Nat} (hH : ch_H h H) (hW : sp_WH H) (ha : sp_ok (sp_n H) a) (hb : sp_ok (sp_n H) b) (hQ : Q (some (.int (sp_vi (sp_base H a b)))) h) : xm_call L xs (d + 5) m_H_baseOf [.ref 1, .int (sp_vi a), .int (sp_vi b)] h Q := by
  refine x_call (lo := [.ref 1, .int (sp_vi a), .int (sp_vi b), .float 0, .float 0, .float 0]) (Nat.le_of_ble_eq_true rfl) rfl ?_
  refine x_aload_n (pc' := 1) d_H_baseOf_0 rfl rfl ?_
  refine x_iload_n (pc' := 2) d_H_baseOf_1 rfl rfl ?_
  refine x_virtual (a := 1) (as := [.int (sp_vi a)]) (r := []) (v := (some (.long (lN (sp_ro H a))))) (h' := h) (st' := [.long (lN (sp_ro H a))]) (c' := 0) (s' := 0) (pc' := 5) d_H_baseOf_2 rfl c_H_39 hH.1.2 rfl rfl (Nat.le_of_ble_eq_true rfl) (Nat.le_of_ble_eq_true rfl) (Nat.le_of_ble_eq_true rfl) (fun Q' hq => c_H_reachOf hH ha hq) rfl rfl rfl ?_
  refine x_aload_n (pc' := 6) d_H_baseOf_5 rfl rfl ?_
  refine x_iload_n (pc' := 7) d_H_baseOf_6 rfl rfl ?_
  refine x_virtual (a := 1) (as := [.int (sp_vi b)]) (r := [.long (lN (sp_ro H a))]) (v := (some (.long (lN (sp_ro H b))))) (h' := h) (st' := [.long (lN (sp_ro H b)), .long (lN (sp_ro H a))]) (c' := 0) (s' := 0) (pc' := 10) d_H_baseOf_7 rfl c_H_39 hH.1.2 rfl rfl (Nat.le_of_ble_eq_true rfl) (Nat.le_of_ble_eq_true rfl) (Nat.le_of_ble_eq_true rfl) (fun Q' hq => c_H_reachOf hH hb hq) rfl rfl rfl ?_
  refine x_land (z := lN (sp_ro H a &&& sp_ro H b)) (pc' := 11) d_H_baseOf_10 rfl (wb_and (sp_WH_64 hW ha) (sp_WH_64 hW hb)) ?_
  refine x_lstore_n (lo' := [.ref 1, .int (sp_vi a), .int (sp_vi b), .long (lN (sp_ro H a &&& sp_ro H b)), .float 0, .float 0]) (pc' := 12) d_H_baseOf_11 rfl (Nat.le_of_ble_eq_true rfl) rfl ?_
  refine x_iconst (v := nI 0) (pc' := 13) d_H_baseOf_12 rfl (by decide) ?_
  refine x_istore (lo' := [.ref 1, .int (sp_vi a), .int (sp_vi b), .long (lN (sp_ro H a &&& sp_ro H b)), .float 0, .int (nI 0)]) (pc' := 15) d_H_baseOf_13 rfl (Nat.le_of_ble_eq_true rfl) rfl ?_
  exact l_H_base hH hW (Nat.and_lt_two_pow _ (sp_WH_64 hW hb)) hQ (sp_n H) 0 (by omega) (fun j h => absurd h (Nat.not_lt_zero _))
