/-! commit, write of the reference. (Printed by c_mb.py.) -/
set_option maxHeartbeats 8000000 in
theorem c_M_commit {L : Nat} {xs : Nat → Int32} {d : Nat} {h : xm_H} {Q : xm_Q} {S : sp_S} (hM : mh h S) (hS : sp_WS S) {x : Int32} (hQ : ∀ h', mh h' (sp_commit S x).2 → xl_fr sp_M29 h h' → Q (some (.int (sp_commit S x).1)) h') : xm_call L xs (d + 3) m_M_commit [.ref 29, .int x] h Q := by
  obtain ⟨hK, ⟨tk, hO⟩, hw⟩ := id hM
  have h40 := hK.1
  obtain ⟨T, T1, T2⟩ := hK.2.1
  obtain ⟨P1, p1, p2⟩ := hK.2.2.1
  obtain ⟨P2, q1, q2⟩ := hK.2.2.2.1
  obtain ⟨g, g1, g2⟩ := hK.2.2.2.2.1
  obtain ⟨t, t1, t2⟩ := hK.2.2.2.2.2.1
  obtain ⟨v, v1, v2⟩ := hK.2.2.2.2.2.2.1
  obtain ⟨u, u1, u2⟩ := hK.2.2.2.2.2.2.2.2
  have key : ∀ z, sp_commit S x = (z, S) → Q (some (.int z)) h := fun z e9 => by
    rw [e9] at hQ
    exact hQ h hM xl_rf
  refine x_call (lo := [.ref 29, .int x, .float 0, .float 0]) (Nat.le_of_ble_eq_true rfl) rfl ?_
  rcases sp_in_cases 2 (by decide) x with ⟨_, ex⟩ | ⟨_, _, ex⟩ | ⟨r, hr, rfl, er⟩
  · refine x_iload_n (pc' := 1) d_M_commit_0 rfl rfl ?_
    refine x_iconst (v := nI 2) (pc' := 2) d_M_commit_1 rfl (by decide) ?_
    refine x_static (as := [.int x, .int (nI 2)]) (r := []) (v := (some (.int 1))) (h' := h) (st' := [.int 1]) (c' := 0) (s' := 0) (pc' := 5) d_M_commit_2 rfl c_M_123 rfl rfl (Nat.le_of_ble_eq_true rfl) (Nat.le_of_ble_eq_true rfl) (Nat.le_of_ble_eq_true rfl) (fun Q' hq => c_M_out1 (by decide) ex hq) rfl rfl rfl ?_
    refine x_ifeq (t := 10) (pc' := 8) d_M_commit_5 rfl rfl (fun q => absurd q (by decide)) (fun _ => ?_)
    refine x_iconst (v := (-1)) (pc' := 9) d_M_commit_8 rfl (by decide) ?_
    exact x_ireturn d_M_commit_9 rfl rfl (key _ (by unfold sp_commit; rw [ex]))
  · refine x_iload_n (pc' := 1) d_M_commit_0 rfl rfl ?_
    refine x_iconst (v := nI 2) (pc' := 2) d_M_commit_1 rfl (by decide) ?_
    refine x_static (as := [.int x, .int (nI 2)]) (r := []) (v := (some (.int 1))) (h' := h) (st' := [.int 1]) (c' := 0) (s' := 0) (pc' := 5) d_M_commit_2 rfl c_M_123 rfl rfl (Nat.le_of_ble_eq_true rfl) (Nat.le_of_ble_eq_true rfl) (Nat.le_of_ble_eq_true rfl) (fun Q' hq => c_M_out1 (by decide) ex hq) rfl rfl rfl ?_
    refine x_ifeq (t := 10) (pc' := 8) d_M_commit_5 rfl rfl (fun q => absurd q (by decide)) (fun _ => ?_)
    refine x_iconst (v := (-1)) (pc' := 9) d_M_commit_8 rfl (by decide) ?_
    exact x_ireturn d_M_commit_9 rfl rfl (key _ (by unfold sp_commit; rw [ex]))
  · have hR := hS.2 r hr
    have hk2 : sp_ok (sp_n S.1) (sp_head (S.2 r)) := hR.2.1 _ hR.1
    refine x_iload_n (pc' := 1) d_M_commit_0 rfl rfl ?_
    refine x_iconst (v := nI 2) (pc' := 2) d_M_commit_1 rfl (by decide) ?_
    refine x_static (as := [.int (nI r), .int (nI 2)]) (r := []) (v := (some (.int 0))) (h' := h) (st' := [.int 0]) (c' := 0) (s' := 0) (pc' := 5) d_M_commit_2 rfl c_M_123 rfl rfl (Nat.le_of_ble_eq_true rfl) (Nat.le_of_ble_eq_true rfl) (Nat.le_of_ble_eq_true rfl) (fun Q' hq => c_M_out0 hr (by decide) hq) rfl rfl rfl ?_
    refine x_ifeq (t := 10) (pc' := 8) d_M_commit_5 rfl rfl (fun _ => ?_) (fun q => absurd rfl q)
    refine x_aload_n (pc' := 11) d_M_commit_10 rfl rfl ?_
    refine x_aload_n (pc' := 12) d_M_commit_11 rfl rfl ?_
    refine x_getfield (ci := 4) (i := 8) (v := .ref 37) (pc' := 15) d_M_commit_12 rfl g_M_32 hO rfl ?_
    refine x_iload_n (pc' := 16) d_M_commit_15 rfl rfl ?_
    refine x_virtual (a := 29) (as := [.ref 37, .int (nI r)]) (r := []) (v := (some (.int (sp_bi (sp_eq4 (sp_ix (S.2 r)) (sp_of S.1 (sp_head (S.2 r)))))))) (h' := h) (st' := [.int (sp_bi (sp_eq4 (sp_ix (S.2 r)) (sp_of S.1 (sp_head (S.2 r)))))]) (c' := 0) (s' := 0) (pc' := 19) d_M_commit_16 rfl c_M_119 hO rfl rfl (Nat.le_of_ble_eq_true rfl) (Nat.le_of_ble_eq_true rfl) (Nat.le_of_ble_eq_true rfl) (fun Q' hq => c_M_sameAsHead hO hK hr hR.1 hk2 u1 (u2 r hr) (fun f hf => (hR.2.2.2.2 f hf).2) (sp_WH_of hS.1 hk2) hq) rfl rfl rfl ?_
    cases h1 : sp_eq4 (sp_ix (S.2 r)) (sp_of S.1 (sp_head (S.2 r))) with
    | true =>
      refine x_ifeq (t := 25) (pc' := 22) d_M_commit_19 rfl rfl (fun q => absurd q (by decide)) (fun _ => ?_)
      refine x_bipush (v := (-4)) (pc' := 24) d_M_commit_22 rfl (by decide) ?_
      exact x_ireturn d_M_commit_24 rfl rfl (key _ (by unfold sp_commit; rw [er]; dsimp only; rw [if_pos (by rw [sp_eq4_comm]; exact h1)]))
    | false =>
      have h1' : ¬ sp_eq4 (sp_of S.1 (sp_head (S.2 r))) (sp_ix (S.2 r)) = true := by rw [sp_eq4_comm, h1]; decide
      refine x_ifeq (t := 25) (pc' := 22) d_M_commit_19 rfl rfl (fun _ => ?_) (fun q => absurd rfl q)
      refine x_aload_n (pc' := 26) d_M_commit_25 rfl rfl ?_
      refine x_getfield (ci := 4) (i := 0) (v := .int (nI (sp_n S.1))) (pc' := 29) d_M_commit_26 rfl g_M_104 hO rfl ?_
      refine x_bipush (v := nI 40) (pc' := 31) d_M_commit_29 rfl (by decide) ?_
      by_cases hn : 40 ≤ sp_n S.1
      · refine x_icmpne (t := 37) (pc' := 34) d_M_commit_31 rfl rfl (fun q => absurd (by rw [show sp_n S.1 = 40 by omega]) q) (fun _ => ?_)
        refine x_bipush (v := (-6)) (pc' := 36) d_M_commit_34 rfl (by decide) ?_
        exact x_ireturn d_M_commit_36 rfl rfl (key _ (by unfold sp_commit; rw [er]; dsimp only; rw [if_neg h1', if_pos hn]))
      · have e9 : sp_commit S (nI r) = (nI (sp_n S.1), sp_set (sp_add S.1 (sp_ix (S.2 r)) (sp_head (S.2 r)) none, S.2) r (sp_up (sp_tip (S.2 r)) (sp_cur (S.2 r)) (some (sp_n S.1)), sp_cur (S.2 r), sp_held (S.2 r) ||| 2 ^ sp_n S.1, sp_wk (S.2 r), sp_ix (S.2 r))) := by unfold sp_commit; rw [er]; dsimp only; rw [if_neg h1', if_neg hn]; rfl
        rw [e9] at hQ
        refine x_icmpne (t := 37) (pc' := 34) d_M_commit_31 rfl rfl (fun _ => ?_) (fun q => absurd q (fun z => absurd (sp_nI_inj (by omega) (by decide) z) (by omega)))
        refine x_aload_n (pc' := 38) d_M_commit_37 rfl rfl ?_
        refine x_iload_n (pc' := 39) d_M_commit_38 rfl rfl ?_
        refine x_aload_n (pc' := 40) d_M_commit_39 rfl rfl ?_
        refine x_iload_n (pc' := 41) d_M_commit_40 rfl rfl ?_
        refine x_virtual (a := 29) (as := [.int (nI r)]) (r := [.int (nI r), .ref 29]) (v := (some (.int (sp_vi (sp_head (S.2 r)))))) (h' := h) (st' := [.int (sp_vi (sp_head (S.2 r))), .int (nI r), .ref 29]) (c' := 0) (s' := 0) (pc' := 44) d_M_commit_41 rfl c_M_111 hO rfl rfl (Nat.le_of_ble_eq_true rfl) (Nat.le_of_ble_eq_true rfl) (Nat.le_of_ble_eq_true rfl) (fun Q' hq => c_M_head hO hK hr hR.1 hq) rfl rfl rfl ?_
        refine x_bipush (v := sp_vi none) (pc' := 46) d_M_commit_44 rfl (by decide) ?_
        refine x_virtualR (a := 29) (as := [.int (nI r), .int (sp_vi (sp_head (S.2 r))), .int (sp_vi none)]) (r := []) (Post := fun v9 h9 => v9 = some (.int (nI (sp_n S.1))) ∧ mo h9 (sp_n S.1 + 1) tk ∧ h9[31]? = some (.inl (.int, 40, .inl (upd P1 (sp_n S.1) (sp_vi (sp_head (S.2 r)))))) ∧ h9[32]? = some (.inl (.int, 40, .inl (upd P2 (sp_n S.1) (sp_vi none)))) ∧ h9[33]? = some (.inl (.long, 2, .inr (.inl (vp_updL g r (lN (sp_held (S.2 r) ||| 2 ^ sp_n S.1)))))) ∧ xl_fr sp_MK h h9) (c' := 0) (s' := 0) (pc' := 49) d_M_commit_46 rfl c_M_126 hO rfl rfl (Nat.le_of_ble_eq_true rfl) (Nat.le_of_ble_eq_true rfl) (Nat.le_of_ble_eq_true rfl) (fun Q' hq => c_M_make hO (by omega) p1 q1 g1 hr (g2 r hr) (Nat.lt_of_lt_of_le hR.2.2.1 (Nat.pow_le_pow_right (by decide) (by omega))) (fun h' z1 z2 z3 z4 z5 => hq _ h' ⟨rfl, z1, z2, z3, z4, z5⟩)) rfl rfl (fun v9 h1 hp => ?_)
        obtain ⟨rfl, O1, m1, m2, m3, f1⟩ := hp
        show xm_X L xs (xm_call L xs (d + 2)) m_M_commit (49, [.ref 29, .int (nI r), .float 0, .float 0], [.int (nI (sp_n S.1))], h1, 0, 0) Q
        have i1 := (f1.2 37 (by omega)).trans u1
        have S1 := (f1.2 30 (by omega)).trans T1
        have d1 := (f1.2 34 (by omega)).trans t1
        have n1 := (f1.2 35 (by omega)).trans v1
        refine x_istore_n (lo' := [.ref 29, .int (nI r), .int (nI (sp_n S.1)), .float 0]) (pc' := 50) d_M_commit_49 rfl (Nat.le_of_ble_eq_true rfl) rfl ?_
        refine x_iconst (v := nI 0) (pc' := 51) d_M_commit_50 rfl (by decide) ?_
        refine x_istore_n (lo' := [.ref 29, .int (nI r), .int (nI (sp_n S.1)), .int (nI 0)]) (pc' := 52) d_M_commit_51 rfl (Nat.le_of_ble_eq_true rfl) rfl ?_
        refine x_iload_n (pc' := 53) d_M_commit_52 rfl rfl ?_
        refine x_iconst (v := nI 4) (pc' := 54) d_M_commit_53 rfl (by decide) ?_
        refine x_icmpge (t := 83) (pc' := 57) d_M_commit_54 rfl rfl (fun q => absurd q (nI_ge (by decide) (by decide))) (fun _ => ?_)
        refine x_aload_n (pc' := 58) d_M_commit_57 rfl rfl ?_
        refine x_getfield (ci := 4) (i := 1) (v := .ref 30) (pc' := 61) d_M_commit_58 rfl g_M_7 O1 rfl ?_
        refine x_iconst (v := nI 4) (pc' := 62) d_M_commit_61 rfl (by decide) ?_
        refine x_iload_n (pc' := 63) d_M_commit_62 rfl rfl ?_
        refine x_imul (z := nI (4 * sp_n S.1)) (pc' := 64) d_M_commit_63 rfl (pk_mul 4 _) ?_
        refine x_iload_n (pc' := 65) d_M_commit_64 rfl rfl ?_
        refine x_iadd (z := nI (4 * sp_n S.1 + 0)) (pc' := 66) d_M_commit_65 rfl (nI_add _ _) ?_
        refine x_aload_n (pc' := 67) d_M_commit_66 rfl rfl ?_
        refine x_getfield (ci := 4) (i := 8) (v := .ref 37) (pc' := 70) d_M_commit_67 rfl g_M_32 O1 rfl ?_
        refine x_iconst (v := nI 4) (pc' := 71) d_M_commit_70 rfl (by decide) ?_
        refine x_iload_n (pc' := 72) d_M_commit_71 rfl rfl ?_
        refine x_imul (z := nI (4 * r)) (pc' := 73) d_M_commit_72 rfl (pk_mul 4 r) ?_
        refine x_iload_n (pc' := 74) d_M_commit_73 rfl rfl ?_
        refine x_iadd (z := nI (4 * r + 0)) (pc' := 75) d_M_commit_74 rfl (nI_add _ _) ?_
        refine x_laload (v := sp_tv (sp_ix (S.2 r) 0)) (pc' := 76) d_M_commit_75 rfl i1 (vp_in_nI (by omega) (by decide)) (by rw [nI_clamp (by omega)]; exact u2 r hr 0 (by decide)) ?_
        refine x_lastore (h' := (h1.set 30 (.inl (.long, 160, .inr (.inl (vp_updL T (4 * sp_n S.1 + 0) (sp_tv (sp_ix (S.2 r) 0)))))))) (pc' := 77) d_M_commit_76 rfl S1 (vp_in_nI (by omega) (by decide)) (by rw [nI_clamp (by omega)]) ?_
        refine x_iinc (y := nI 1) (lo' := [.ref 29, .int (nI r), .int (nI (sp_n S.1)), .int (nI 1)]) (pc' := 80) d_M_commit_77 rfl rfl (sp_nI_inc 0) rfl ?_
        refine x_goto (t := 52) d_M_commit_80 rfl ?_
        refine x_iload_n (pc' := 53) d_M_commit_52 rfl rfl ?_
        refine x_iconst (v := nI 4) (pc' := 54) d_M_commit_53 rfl (by decide) ?_
        refine x_icmpge (t := 83) (pc' := 57) d_M_commit_54 rfl rfl (fun q => absurd q (nI_ge (by decide) (by decide))) (fun _ => ?_)
        refine x_aload_n (pc' := 58) d_M_commit_57 rfl rfl ?_
        refine x_getfield (ci := 4) (i := 1) (v := .ref 30) (pc' := 61) d_M_commit_58 rfl g_M_7 ((xl_ne (by decide)).trans O1) rfl ?_
        refine x_iconst (v := nI 4) (pc' := 62) d_M_commit_61 rfl (by decide) ?_
        refine x_iload_n (pc' := 63) d_M_commit_62 rfl rfl ?_
        refine x_imul (z := nI (4 * sp_n S.1)) (pc' := 64) d_M_commit_63 rfl (pk_mul 4 _) ?_
        refine x_iload_n (pc' := 65) d_M_commit_64 rfl rfl ?_
        refine x_iadd (z := nI (4 * sp_n S.1 + 1)) (pc' := 66) d_M_commit_65 rfl (nI_add _ _) ?_
        refine x_aload_n (pc' := 67) d_M_commit_66 rfl rfl ?_
        refine x_getfield (ci := 4) (i := 8) (v := .ref 37) (pc' := 70) d_M_commit_67 rfl g_M_32 ((xl_ne (by decide)).trans O1) rfl ?_
        refine x_iconst (v := nI 4) (pc' := 71) d_M_commit_70 rfl (by decide) ?_
        refine x_iload_n (pc' := 72) d_M_commit_71 rfl rfl ?_
        refine x_imul (z := nI (4 * r)) (pc' := 73) d_M_commit_72 rfl (pk_mul 4 r) ?_
        refine x_iload_n (pc' := 74) d_M_commit_73 rfl rfl ?_
        refine x_iadd (z := nI (4 * r + 1)) (pc' := 75) d_M_commit_74 rfl (nI_add _ _) ?_
        refine x_laload (v := sp_tv (sp_ix (S.2 r) 1)) (pc' := 76) d_M_commit_75 rfl ((xl_ne (by decide)).trans i1) (vp_in_nI (by omega) (by decide)) (by rw [nI_clamp (by omega)]; exact u2 r hr 1 (by decide)) ?_
        refine x_lastore (h' := (h1.set 30 (.inl (.long, 160, .inr (.inl (vp_updL (vp_updL T (4 * sp_n S.1 + 0) (sp_tv (sp_ix (S.2 r) 0))) (4 * sp_n S.1 + 1) (sp_tv (sp_ix (S.2 r) 1)))))))) (pc' := 77) d_M_commit_76 rfl (xl_at S1) (vp_in_nI (by omega) (by decide)) (by rw [nI_clamp (by omega), List.set_set]) ?_
        refine x_iinc (y := nI 2) (lo' := [.ref 29, .int (nI r), .int (nI (sp_n S.1)), .int (nI 2)]) (pc' := 80) d_M_commit_77 rfl rfl (sp_nI_inc 1) rfl ?_
        refine x_goto (t := 52) d_M_commit_80 rfl ?_
        refine x_iload_n (pc' := 53) d_M_commit_52 rfl rfl ?_
        refine x_iconst (v := nI 4) (pc' := 54) d_M_commit_53 rfl (by decide) ?_
        refine x_icmpge (t := 83) (pc' := 57) d_M_commit_54 rfl rfl (fun q => absurd q (nI_ge (by decide) (by decide))) (fun _ => ?_)
        refine x_aload_n (pc' := 58) d_M_commit_57 rfl rfl ?_
        refine x_getfield (ci := 4) (i := 1) (v := .ref 30) (pc' := 61) d_M_commit_58 rfl g_M_7 ((xl_ne (by decide)).trans O1) rfl ?_
        refine x_iconst (v := nI 4) (pc' := 62) d_M_commit_61 rfl (by decide) ?_
        refine x_iload_n (pc' := 63) d_M_commit_62 rfl rfl ?_
        refine x_imul (z := nI (4 * sp_n S.1)) (pc' := 64) d_M_commit_63 rfl (pk_mul 4 _) ?_
        refine x_iload_n (pc' := 65) d_M_commit_64 rfl rfl ?_
        refine x_iadd (z := nI (4 * sp_n S.1 + 2)) (pc' := 66) d_M_commit_65 rfl (nI_add _ _) ?_
        refine x_aload_n (pc' := 67) d_M_commit_66 rfl rfl ?_
        refine x_getfield (ci := 4) (i := 8) (v := .ref 37) (pc' := 70) d_M_commit_67 rfl g_M_32 ((xl_ne (by decide)).trans O1) rfl ?_
        refine x_iconst (v := nI 4) (pc' := 71) d_M_commit_70 rfl (by decide) ?_
        refine x_iload_n (pc' := 72) d_M_commit_71 rfl rfl ?_
        refine x_imul (z := nI (4 * r)) (pc' := 73) d_M_commit_72 rfl (pk_mul 4 r) ?_
        refine x_iload_n (pc' := 74) d_M_commit_73 rfl rfl ?_
        refine x_iadd (z := nI (4 * r + 2)) (pc' := 75) d_M_commit_74 rfl (nI_add _ _) ?_
        refine x_laload (v := sp_tv (sp_ix (S.2 r) 2)) (pc' := 76) d_M_commit_75 rfl ((xl_ne (by decide)).trans i1) (vp_in_nI (by omega) (by decide)) (by rw [nI_clamp (by omega)]; exact u2 r hr 2 (by decide)) ?_
        refine x_lastore (h' := (h1.set 30 (.inl (.long, 160, .inr (.inl (vp_updL (vp_updL (vp_updL T (4 * sp_n S.1 + 0) (sp_tv (sp_ix (S.2 r) 0))) (4 * sp_n S.1 + 1) (sp_tv (sp_ix (S.2 r) 1))) (4 * sp_n S.1 + 2) (sp_tv (sp_ix (S.2 r) 2)))))))) (pc' := 77) d_M_commit_76 rfl (xl_at S1) (vp_in_nI (by omega) (by decide)) (by rw [nI_clamp (by omega), List.set_set]) ?_
        refine x_iinc (y := nI 3) (lo' := [.ref 29, .int (nI r), .int (nI (sp_n S.1)), .int (nI 3)]) (pc' := 80) d_M_commit_77 rfl rfl (sp_nI_inc 2) rfl ?_
        refine x_goto (t := 52) d_M_commit_80 rfl ?_
        refine x_iload_n (pc' := 53) d_M_commit_52 rfl rfl ?_
        refine x_iconst (v := nI 4) (pc' := 54) d_M_commit_53 rfl (by decide) ?_
        refine x_icmpge (t := 83) (pc' := 57) d_M_commit_54 rfl rfl (fun q => absurd q (nI_ge (by decide) (by decide))) (fun _ => ?_)
        refine x_aload_n (pc' := 58) d_M_commit_57 rfl rfl ?_
        refine x_getfield (ci := 4) (i := 1) (v := .ref 30) (pc' := 61) d_M_commit_58 rfl g_M_7 ((xl_ne (by decide)).trans O1) rfl ?_
        refine x_iconst (v := nI 4) (pc' := 62) d_M_commit_61 rfl (by decide) ?_
        refine x_iload_n (pc' := 63) d_M_commit_62 rfl rfl ?_
        refine x_imul (z := nI (4 * sp_n S.1)) (pc' := 64) d_M_commit_63 rfl (pk_mul 4 _) ?_
        refine x_iload_n (pc' := 65) d_M_commit_64 rfl rfl ?_
        refine x_iadd (z := nI (4 * sp_n S.1 + 3)) (pc' := 66) d_M_commit_65 rfl (nI_add _ _) ?_
        refine x_aload_n (pc' := 67) d_M_commit_66 rfl rfl ?_
        refine x_getfield (ci := 4) (i := 8) (v := .ref 37) (pc' := 70) d_M_commit_67 rfl g_M_32 ((xl_ne (by decide)).trans O1) rfl ?_
        refine x_iconst (v := nI 4) (pc' := 71) d_M_commit_70 rfl (by decide) ?_
        refine x_iload_n (pc' := 72) d_M_commit_71 rfl rfl ?_
        refine x_imul (z := nI (4 * r)) (pc' := 73) d_M_commit_72 rfl (pk_mul 4 r) ?_
        refine x_iload_n (pc' := 74) d_M_commit_73 rfl rfl ?_
        refine x_iadd (z := nI (4 * r + 3)) (pc' := 75) d_M_commit_74 rfl (nI_add _ _) ?_
        refine x_laload (v := sp_tv (sp_ix (S.2 r) 3)) (pc' := 76) d_M_commit_75 rfl ((xl_ne (by decide)).trans i1) (vp_in_nI (by omega) (by decide)) (by rw [nI_clamp (by omega)]; exact u2 r hr 3 (by decide)) ?_
        refine x_lastore (h' := (h1.set 30 (.inl (.long, 160, .inr (.inl (vp_updL (vp_updL (vp_updL (vp_updL T (4 * sp_n S.1 + 0) (sp_tv (sp_ix (S.2 r) 0))) (4 * sp_n S.1 + 1) (sp_tv (sp_ix (S.2 r) 1))) (4 * sp_n S.1 + 2) (sp_tv (sp_ix (S.2 r) 2))) (4 * sp_n S.1 + 3) (sp_tv (sp_ix (S.2 r) 3)))))))) (pc' := 77) d_M_commit_76 rfl (xl_at S1) (vp_in_nI (by omega) (by decide)) (by rw [nI_clamp (by omega), List.set_set]) ?_
        refine x_iinc (y := nI 4) (lo' := [.ref 29, .int (nI r), .int (nI (sp_n S.1)), .int (nI 4)]) (pc' := 80) d_M_commit_77 rfl rfl (sp_nI_inc 3) rfl ?_
        refine x_goto (t := 52) d_M_commit_80 rfl ?_
        refine x_iload_n (pc' := 53) d_M_commit_52 rfl rfl ?_
        refine x_iconst (v := nI 4) (pc' := 54) d_M_commit_53 rfl (by decide) ?_
        refine x_icmpge (t := 83) (pc' := 57) d_M_commit_54 rfl rfl (fun _ => ?_) (fun q => absurd (nI_le (Nat.le_refl _) (by decide)) q)
        have a5 : mk (h1.set 30 (.inl (.long, 160, .inr (.inl (vp_updL (vp_updL (vp_updL (vp_updL T (4 * sp_n S.1 + 0) (sp_tv (sp_ix (S.2 r) 0))) (4 * sp_n S.1 + 1) (sp_tv (sp_ix (S.2 r) 1))) (4 * sp_n S.1 + 2) (sp_tv (sp_ix (S.2 r) 2))) (4 * sp_n S.1 + 3) (sp_tv (sp_ix (S.2 r) 3))))))) (sp_set (sp_add S.1 (sp_ix (S.2 r)) (sp_head (S.2 r)) none, S.2) r (sp_tip (S.2 r), sp_cur (S.2 r), sp_held (S.2 r) ||| 2 ^ sp_n S.1, sp_wk (S.2 r), sp_ix (S.2 r))) := mk_add (by omega) hr (T' := sp_q4 T (4 * sp_n S.1) (fun f => sp_tv (sp_ix (S.2 r) f))) (xl_at S1) (fun j hj => (sp_q4_lo _ _ _ (Or.inl hj)).trans (T2 j hj)) (fun f hf => sp_q4_hi _ _ _ hf) ((xl_ne (by decide)).trans m1) p2 ((xl_ne (by decide)).trans m2) q2 ((xl_ne (by decide)).trans m3) (fun k hk => by rw [sp_set_self]; exact g2 k hk) (fun k z1 z2 => (xl_ne (by omega)).trans (f1.2 k (by omega))) (mk_self hK)
        refine x_aload_n (pc' := 84) d_M_commit_83 rfl rfl ?_
        refine x_getfield (ci := 4) (i := 5) (v := .ref 34) (pc' := 87) d_M_commit_84 rfl g_M_23 ((xl_ne (by decide)).trans O1) rfl ?_
        refine x_iconst (v := nI 4) (pc' := 88) d_M_commit_87 rfl (by decide) ?_
        refine x_iload_n (pc' := 89) d_M_commit_88 rfl rfl ?_
        refine x_imul (z := nI (4 * r)) (pc' := 90) d_M_commit_89 rfl (pk_mul 4 r) ?_
        refine x_aload_n (pc' := 91) d_M_commit_90 rfl rfl ?_
        refine x_getfield (ci := 4) (i := 6) (v := .ref 35) (pc' := 94) d_M_commit_91 rfl g_M_26 ((xl_ne (by decide)).trans O1) rfl ?_
        refine x_iload_n (pc' := 95) d_M_commit_94 rfl rfl ?_
        refine x_iaload (v := nI (sp_cur (S.2 r))) (pc' := 96) d_M_commit_95 rfl ((xl_ne (by decide)).trans n1) (vp_in_nI hr (by decide)) (by rw [nI_clamp (by omega)]; exact v2 r hr) ?_
        refine x_iadd (z := nI (4 * r + sp_cur (S.2 r))) (pc' := 97) d_M_commit_96 rfl (nI_add _ _) ?_
        refine x_iload_n (pc' := 98) d_M_commit_97 rfl rfl ?_
        refine x_iastore (h' := ((h1.set 30 (.inl (.long, 160, .inr (.inl (vp_updL (vp_updL (vp_updL (vp_updL T (4 * sp_n S.1 + 0) (sp_tv (sp_ix (S.2 r) 0))) (4 * sp_n S.1 + 1) (sp_tv (sp_ix (S.2 r) 1))) (4 * sp_n S.1 + 2) (sp_tv (sp_ix (S.2 r) 2))) (4 * sp_n S.1 + 3) (sp_tv (sp_ix (S.2 r) 3))))))).set 34 (.inl (.int, 8, .inl (upd t (nI (4 * r + sp_cur (S.2 r))).toNatClampNeg (sp_vi (some (sp_n S.1)))))))) (pc' := 99) d_M_commit_98 rfl ((xl_ne (by decide)).trans d1) (vp_in_nI (by have := hR.1; omega) (by decide)) rfl ?_
        refine x_iload_n (pc' := 100) d_M_commit_99 rfl rfl ?_
        exact x_ireturn d_M_commit_100 rfl rfl (hQ _ (mh_of hM (mk_tip hr ((xl_ne (by decide)).trans d1) hR.1 (some (sp_n S.1)) a5) ((xl_ne (by decide)).trans ((xl_ne (by decide)).trans O1)) (fun k z1 z2 => (xl_ne (by omega)).trans ((xl_ne (by omega)).trans (f1.2 k (by omega))))) (xl_tr (xl_mono f1 (fun k z => by show 29 ≤ k; rcases z with z | z <;> omega)) (xl_tr (xl_set (by decide)) (xl_set (by decide)))))
theorem sp_dec_snoc : ∀ (k m : Nat), sp_dec m (k + 1) = sp_dec m k ++ [m / 16 ^ k % 16]
  | 0, m => by
    show [m % 16] = [] ++ [m / 16 ^ 0 % 16]
    rw [Nat.pow_zero, Nat.div_one]
    rfl
  | k + 1, m => by
    show m % 16 :: sp_dec (m / 16) (k + 1) = m % 16 :: (sp_dec (m / 16) k ++ [m / 16 ^ (k + 1) % 16])
    rw [sp_dec_snoc k, Nat.div_div_eq_div_mul, Nat.pow_succ, Nat.mul_comm 16]
theorem sp_dd (k m : Nat) : sp_dig (sp_dec m (k + 1)) = sp_dig (sp_dec m k) + (m / 16 ^ k % 16) * 16 ^ k := by
  rw [sp_dec_snoc, sp_dig_app, sp_dec_len]
  rfl
theorem l_M_write {L : Nat} {xs : Nat → Int32} {d : Nat} {h : xm_H} {Q : xm_Q} {m c r b : Nat} (hc : c < 9) (K : xm_X L xs (xm_call L xs (d + 1)) m_M_write (72, [.ref 29, .int (nI r), .int (nI b), .long (lN m), .float 0, .int (nI c), .long (lN (c * 4294967296 + sp_dig (sp_dec m c))), .float 0, .int (nI c)], [], h, 0, 0) Q) :
    ∀ z k, k + z = c → xm_X L xs (xm_call L xs (d + 1)) m_M_write (39, [.ref 29, .int (nI r), .int (nI b), .long (lN m), .float 0, .int (nI c), .long (lN (c * 4294967296 + sp_dig (sp_dec m k))), .float 0, .int (nI k)], [], h, 0, 0) Q := by
  intro z
  induction z with
  | zero =>
    intro k hk
    have hk : k = c := hk
    subst hk
    refine x_iload (pc' := 41) d_M_write_39 rfl rfl ?_
    refine x_iload (pc' := 43) d_M_write_41 rfl rfl ?_
    refine x_icmpge (t := 72) (pc' := 46) d_M_write_43 rfl rfl (fun _ => ?_) (fun q => absurd (nI_le (Nat.le_refl _) (by omega)) q)
    exact K
  | succ z ih =>
    intro k hk
    refine x_iload (pc' := 41) d_M_write_39 rfl rfl ?_
    refine x_iload (pc' := 43) d_M_write_41 rfl rfl ?_
    refine x_icmpge (t := 72) (pc' := 46) d_M_write_43 rfl rfl (fun q => absurd q (nI_ge (by omega) (by omega))) (fun _ => ?_)
    refine x_lload (pc' := 48) d_M_write_46 rfl rfl rfl ?_
    refine x_lload_n (pc' := 49) d_M_write_48 rfl rfl rfl ?_
    refine x_iconst (v := nI 4) (pc' := 50) d_M_write_49 rfl (by decide) ?_
    refine x_iload (pc' := 52) d_M_write_50 rfl rfl ?_
    refine x_imul (z := nI (4 * k)) (pc' := 53) d_M_write_52 rfl (pk_mul 4 k) ?_
    refine x_lshr (z := (lN m) >>> ((nI (4 * k)).toInt64 &&& 63)) (pc' := 54) d_M_write_53 rfl rfl ?_
    refine x_ldc2_w (x := 15) (pc' := 57) d_M_write_54 rfl k_M_64 ?_
    refine x_land (z := lN (m / 16 ^ k % 16)) (pc' := 58) d_M_write_57 rfl (by rw [show (15 : Int64) = lN (2 ^ 4 - 1) from rfl, wb_sarm (by omega) (by omega), sp_16]) ?_
    refine x_iconst (v := nI 4) (pc' := 59) d_M_write_58 rfl (by decide) ?_
    refine x_iload (pc' := 61) d_M_write_59 rfl rfl ?_
    refine x_imul (z := nI (4 * k)) (pc' := 62) d_M_write_61 rfl (pk_mul 4 k) ?_
    refine x_lshl (z := lN (m / 16 ^ k % 16 * 16 ^ k)) (pc' := 63) d_M_write_62 rfl (by rw [wb_shl _ (by omega), sp_16]) ?_
    refine x_lor (z := lN (c * 4294967296 + sp_dig (sp_dec m (k + 1)))) (pc' := 64) d_M_write_63 rfl (by rw [sp_orl (by rw [sp_dec_dig]; exact Nat.mod_lt _ (Nat.pow_pos (by decide))) (Nat.mod_lt _ (by decide)) (by omega) (by omega), sp_dd]) ?_
    refine x_lstore (lo' := [.ref 29, .int (nI r), .int (nI b), .long (lN m), .float 0, .int (nI c), .long (lN (c * 4294967296 + sp_dig (sp_dec m (k + 1)))), .float 0, .int (nI k)]) (pc' := 66) d_M_write_64 rfl (Nat.le_of_ble_eq_true rfl) rfl ?_
    refine x_iinc (y := nI (k + 1)) (lo' := [.ref 29, .int (nI r), .int (nI b), .long (lN m), .float 0, .int (nI c), .long (lN (c * 4294967296 + sp_dig (sp_dec m (k + 1)))), .float 0, .int (nI (k + 1))]) (pc' := 69) d_M_write_66 rfl rfl (sp_nI_inc k) rfl ?_
    refine x_goto (t := 39) d_M_write_69 rfl ?_
    exact ih (k + 1) (by omega)
theorem c_M_write {L : Nat} {xs : Nat → Int32} {d : Nat} {h : xm_H} {Q : xm_Q} {S : sp_S} (hM : mh h S) (hS : sp_WS S) {x y z : Int32} {m : Nat} (hQ : ∀ h', mh h' (sp_write S x y m z).2 → xl_fr sp_M29 h h' → Q (some (.int (sp_write S x y m z).1)) h') : xm_call L xs (d + 2) m_M_write [.ref 29, .int x, .int y, .long (lN m), .int z] h Q := by
  obtain ⟨hK, ⟨tk, hO⟩, hw⟩ := id hM
  have h40 := hK.1
  obtain ⟨w, w1, w2⟩ := hK.2.2.2.2.2.2.2.1
  have key : ∀ q, sp_write S x y m z = (q, S) → Q (some (.int q)) h := fun q e9 => by
    rw [e9] at hQ
    exact hQ h hM xl_rf
  refine x_call (lo := [.ref 29, .int x, .int y, .long (lN m), .float 0, .int z, .float 0, .float 0, .float 0]) (Nat.le_of_ble_eq_true rfl) rfl ?_
  rcases sp_in_cases 2 (by decide) x with ⟨_, ex⟩ | ⟨_, _, ex⟩ | ⟨r, hr, rfl, er⟩
  · refine x_iload_n (pc' := 1) d_M_write_0 rfl rfl ?_
    refine x_iconst (v := nI 2) (pc' := 2) d_M_write_1 rfl (by decide) ?_
    refine x_static (as := [.int x, .int (nI 2)]) (r := []) (v := (some (.int 1))) (h' := h) (st' := [.int 1]) (c' := 0) (s' := 0) (pc' := 5) d_M_write_2 rfl c_M_123 rfl rfl (Nat.le_of_ble_eq_true rfl) (Nat.le_of_ble_eq_true rfl) (Nat.le_of_ble_eq_true rfl) (fun Q' hq => c_M_out1 (by decide) ex hq) rfl rfl rfl ?_
    refine x_ifne (t := 26) (pc' := 8) d_M_write_5 rfl rfl (fun _ => ?_) (fun q => absurd q (by decide))
    refine x_iconst (v := 0) (pc' := 27) d_M_write_26 rfl (by decide) ?_
    exact x_ireturn d_M_write_27 rfl rfl (key _ (by unfold sp_write; rw [ex]))
  · refine x_iload_n (pc' := 1) d_M_write_0 rfl rfl ?_
    refine x_iconst (v := nI 2) (pc' := 2) d_M_write_1 rfl (by decide) ?_
    refine x_static (as := [.int x, .int (nI 2)]) (r := []) (v := (some (.int 1))) (h' := h) (st' := [.int 1]) (c' := 0) (s' := 0) (pc' := 5) d_M_write_2 rfl c_M_123 rfl rfl (Nat.le_of_ble_eq_true rfl) (Nat.le_of_ble_eq_true rfl) (Nat.le_of_ble_eq_true rfl) (fun Q' hq => c_M_out1 (by decide) ex hq) rfl rfl rfl ?_
    refine x_ifne (t := 26) (pc' := 8) d_M_write_5 rfl rfl (fun _ => ?_) (fun q => absurd q (by decide))
    refine x_iconst (v := 0) (pc' := 27) d_M_write_26 rfl (by decide) ?_
    exact x_ireturn d_M_write_27 rfl rfl (key _ (by unfold sp_write; rw [ex]))
  · rcases sp_in_cases 4 (by decide) y with ⟨_, ey⟩ | ⟨_, _, ey⟩ | ⟨b, hb, rfl, eb⟩
    · refine x_iload_n (pc' := 1) d_M_write_0 rfl rfl ?_
      refine x_iconst (v := nI 2) (pc' := 2) d_M_write_1 rfl (by decide) ?_
      refine x_static (as := [.int (nI r), .int (nI 2)]) (r := []) (v := (some (.int 0))) (h' := h) (st' := [.int 0]) (c' := 0) (s' := 0) (pc' := 5) d_M_write_2 rfl c_M_123 rfl rfl (Nat.le_of_ble_eq_true rfl) (Nat.le_of_ble_eq_true rfl) (Nat.le_of_ble_eq_true rfl) (fun Q' hq => c_M_out0 hr (by decide) hq) rfl rfl rfl ?_
      refine x_ifne (t := 26) (pc' := 8) d_M_write_5 rfl rfl (fun q => absurd rfl q) (fun _ => ?_)
      refine x_iload_n (pc' := 9) d_M_write_8 rfl rfl ?_
      refine x_iconst (v := nI 4) (pc' := 10) d_M_write_9 rfl (by decide) ?_
      refine x_static (as := [.int y, .int (nI 4)]) (r := []) (v := (some (.int 1))) (h' := h) (st' := [.int 1]) (c' := 0) (s' := 0) (pc' := 13) d_M_write_10 rfl c_M_123 rfl rfl (Nat.le_of_ble_eq_true rfl) (Nat.le_of_ble_eq_true rfl) (Nat.le_of_ble_eq_true rfl) (fun Q' hq => c_M_out1 (by decide) ey hq) rfl rfl rfl ?_
      refine x_ifne (t := 26) (pc' := 16) d_M_write_13 rfl rfl (fun _ => ?_) (fun q => absurd q (by decide))
      refine x_iconst (v := 0) (pc' := 27) d_M_write_26 rfl (by decide) ?_
      exact x_ireturn d_M_write_27 rfl rfl (key _ (by unfold sp_write; rw [er, ey]))
    · refine x_iload_n (pc' := 1) d_M_write_0 rfl rfl ?_
      refine x_iconst (v := nI 2) (pc' := 2) d_M_write_1 rfl (by decide) ?_
      refine x_static (as := [.int (nI r), .int (nI 2)]) (r := []) (v := (some (.int 0))) (h' := h) (st' := [.int 0]) (c' := 0) (s' := 0) (pc' := 5) d_M_write_2 rfl c_M_123 rfl rfl (Nat.le_of_ble_eq_true rfl) (Nat.le_of_ble_eq_true rfl) (Nat.le_of_ble_eq_true rfl) (fun Q' hq => c_M_out0 hr (by decide) hq) rfl rfl rfl ?_
      refine x_ifne (t := 26) (pc' := 8) d_M_write_5 rfl rfl (fun q => absurd rfl q) (fun _ => ?_)
      refine x_iload_n (pc' := 9) d_M_write_8 rfl rfl ?_
      refine x_iconst (v := nI 4) (pc' := 10) d_M_write_9 rfl (by decide) ?_
      refine x_static (as := [.int y, .int (nI 4)]) (r := []) (v := (some (.int 1))) (h' := h) (st' := [.int 1]) (c' := 0) (s' := 0) (pc' := 13) d_M_write_10 rfl c_M_123 rfl rfl (Nat.le_of_ble_eq_true rfl) (Nat.le_of_ble_eq_true rfl) (Nat.le_of_ble_eq_true rfl) (fun Q' hq => c_M_out1 (by decide) ey hq) rfl rfl rfl ?_
      refine x_ifne (t := 26) (pc' := 16) d_M_write_13 rfl rfl (fun _ => ?_) (fun q => absurd q (by decide))
      refine x_iconst (v := 0) (pc' := 27) d_M_write_26 rfl (by decide) ?_
      exact x_ireturn d_M_write_27 rfl rfl (key _ (by unfold sp_write; rw [er, ey]))
    · rcases sp_in_cases 9 (by decide) z with ⟨_, ez⟩ | ⟨_, _, ez⟩ | ⟨c, hc, rfl, ec⟩
      · refine x_iload_n (pc' := 1) d_M_write_0 rfl rfl ?_
        refine x_iconst (v := nI 2) (pc' := 2) d_M_write_1 rfl (by decide) ?_
        refine x_static (as := [.int (nI r), .int (nI 2)]) (r := []) (v := (some (.int 0))) (h' := h) (st' := [.int 0]) (c' := 0) (s' := 0) (pc' := 5) d_M_write_2 rfl c_M_123 rfl rfl (Nat.le_of_ble_eq_true rfl) (Nat.le_of_ble_eq_true rfl) (Nat.le_of_ble_eq_true rfl) (fun Q' hq => c_M_out0 hr (by decide) hq) rfl rfl rfl ?_
        refine x_ifne (t := 26) (pc' := 8) d_M_write_5 rfl rfl (fun q => absurd rfl q) (fun _ => ?_)
        refine x_iload_n (pc' := 9) d_M_write_8 rfl rfl ?_
        refine x_iconst (v := nI 4) (pc' := 10) d_M_write_9 rfl (by decide) ?_
        refine x_static (as := [.int (nI b), .int (nI 4)]) (r := []) (v := (some (.int 0))) (h' := h) (st' := [.int 0]) (c' := 0) (s' := 0) (pc' := 13) d_M_write_10 rfl c_M_123 rfl rfl (Nat.le_of_ble_eq_true rfl) (Nat.le_of_ble_eq_true rfl) (Nat.le_of_ble_eq_true rfl) (fun Q' hq => c_M_out0 hb (by decide) hq) rfl rfl rfl ?_
        refine x_ifne (t := 26) (pc' := 16) d_M_write_13 rfl rfl (fun q => absurd rfl q) (fun _ => ?_)
        refine x_iload (pc' := 18) d_M_write_16 rfl rfl ?_
        refine x_bipush (v := nI 9) (pc' := 20) d_M_write_18 rfl (by decide) ?_
        refine x_static (as := [.int z, .int (nI 9)]) (r := []) (v := (some (.int 1))) (h' := h) (st' := [.int 1]) (c' := 0) (s' := 0) (pc' := 23) d_M_write_20 rfl c_M_123 rfl rfl (Nat.le_of_ble_eq_true rfl) (Nat.le_of_ble_eq_true rfl) (Nat.le_of_ble_eq_true rfl) (fun Q' hq => c_M_out1 (by decide) ez hq) rfl rfl rfl ?_
        refine x_ifeq (t := 28) (pc' := 26) d_M_write_23 rfl rfl (fun q => absurd q (by decide)) (fun _ => ?_)
        refine x_iconst (v := 0) (pc' := 27) d_M_write_26 rfl (by decide) ?_
        exact x_ireturn d_M_write_27 rfl rfl (key _ (by unfold sp_write; rw [er, eb, ez]))
      · refine x_iload_n (pc' := 1) d_M_write_0 rfl rfl ?_
        refine x_iconst (v := nI 2) (pc' := 2) d_M_write_1 rfl (by decide) ?_
        refine x_static (as := [.int (nI r), .int (nI 2)]) (r := []) (v := (some (.int 0))) (h' := h) (st' := [.int 0]) (c' := 0) (s' := 0) (pc' := 5) d_M_write_2 rfl c_M_123 rfl rfl (Nat.le_of_ble_eq_true rfl) (Nat.le_of_ble_eq_true rfl) (Nat.le_of_ble_eq_true rfl) (fun Q' hq => c_M_out0 hr (by decide) hq) rfl rfl rfl ?_
        refine x_ifne (t := 26) (pc' := 8) d_M_write_5 rfl rfl (fun q => absurd rfl q) (fun _ => ?_)
        refine x_iload_n (pc' := 9) d_M_write_8 rfl rfl ?_
        refine x_iconst (v := nI 4) (pc' := 10) d_M_write_9 rfl (by decide) ?_
        refine x_static (as := [.int (nI b), .int (nI 4)]) (r := []) (v := (some (.int 0))) (h' := h) (st' := [.int 0]) (c' := 0) (s' := 0) (pc' := 13) d_M_write_10 rfl c_M_123 rfl rfl (Nat.le_of_ble_eq_true rfl) (Nat.le_of_ble_eq_true rfl) (Nat.le_of_ble_eq_true rfl) (fun Q' hq => c_M_out0 hb (by decide) hq) rfl rfl rfl ?_
        refine x_ifne (t := 26) (pc' := 16) d_M_write_13 rfl rfl (fun q => absurd rfl q) (fun _ => ?_)
        refine x_iload (pc' := 18) d_M_write_16 rfl rfl ?_
        refine x_bipush (v := nI 9) (pc' := 20) d_M_write_18 rfl (by decide) ?_
        refine x_static (as := [.int z, .int (nI 9)]) (r := []) (v := (some (.int 1))) (h' := h) (st' := [.int 1]) (c' := 0) (s' := 0) (pc' := 23) d_M_write_20 rfl c_M_123 rfl rfl (Nat.le_of_ble_eq_true rfl) (Nat.le_of_ble_eq_true rfl) (Nat.le_of_ble_eq_true rfl) (fun Q' hq => c_M_out1 (by decide) ez hq) rfl rfl rfl ?_
        refine x_ifeq (t := 28) (pc' := 26) d_M_write_23 rfl rfl (fun q => absurd q (by decide)) (fun _ => ?_)
        refine x_iconst (v := 0) (pc' := 27) d_M_write_26 rfl (by decide) ?_
        exact x_ireturn d_M_write_27 rfl rfl (key _ (by unfold sp_write; rw [er, eb, ez]))
      · have e9 : sp_write S (nI r) (nI b) m (nI c) = (1, sp_set S r (sp_tip (S.2 r), sp_cur (S.2 r), sp_held (S.2 r), sp_up (sp_wk (S.2 r)) b (some (sp_dec m c)), sp_ix (S.2 r))) := by unfold sp_write; rw [er, eb, ec]
        rw [e9] at hQ
        have et : lN (c * 4294967296 + sp_dig (sp_dec m c)) = sp_tv (some (sp_dec m c)) := by show _ = lN (sp_enc (sp_dec m c)); unfold sp_enc; rw [sp_dec_len]
        refine x_iload_n (pc' := 1) d_M_write_0 rfl rfl ?_
        refine x_iconst (v := nI 2) (pc' := 2) d_M_write_1 rfl (by decide) ?_
        refine x_static (as := [.int (nI r), .int (nI 2)]) (r := []) (v := (some (.int 0))) (h' := h) (st' := [.int 0]) (c' := 0) (s' := 0) (pc' := 5) d_M_write_2 rfl c_M_123 rfl rfl (Nat.le_of_ble_eq_true rfl) (Nat.le_of_ble_eq_true rfl) (Nat.le_of_ble_eq_true rfl) (fun Q' hq => c_M_out0 hr (by decide) hq) rfl rfl rfl ?_
        refine x_ifne (t := 26) (pc' := 8) d_M_write_5 rfl rfl (fun q => absurd rfl q) (fun _ => ?_)
        refine x_iload_n (pc' := 9) d_M_write_8 rfl rfl ?_
        refine x_iconst (v := nI 4) (pc' := 10) d_M_write_9 rfl (by decide) ?_
        refine x_static (as := [.int (nI b), .int (nI 4)]) (r := []) (v := (some (.int 0))) (h' := h) (st' := [.int 0]) (c' := 0) (s' := 0) (pc' := 13) d_M_write_10 rfl c_M_123 rfl rfl (Nat.le_of_ble_eq_true rfl) (Nat.le_of_ble_eq_true rfl) (Nat.le_of_ble_eq_true rfl) (fun Q' hq => c_M_out0 hb (by decide) hq) rfl rfl rfl ?_
        refine x_ifne (t := 26) (pc' := 16) d_M_write_13 rfl rfl (fun q => absurd rfl q) (fun _ => ?_)
        refine x_iload (pc' := 18) d_M_write_16 rfl rfl ?_
        refine x_bipush (v := nI 9) (pc' := 20) d_M_write_18 rfl (by decide) ?_
        refine x_static (as := [.int (nI c), .int (nI 9)]) (r := []) (v := (some (.int 0))) (h' := h) (st' := [.int 0]) (c' := 0) (s' := 0) (pc' := 23) d_M_write_20 rfl c_M_123 rfl rfl (Nat.le_of_ble_eq_true rfl) (Nat.le_of_ble_eq_true rfl) (Nat.le_of_ble_eq_true rfl) (fun Q' hq => c_M_out0 hc (by decide) hq) rfl rfl rfl ?_
        refine x_ifeq (t := 28) (pc' := 26) d_M_write_23 rfl rfl (fun _ => ?_) (fun q => absurd rfl q)
        refine x_iload (pc' := 30) d_M_write_28 rfl rfl ?_
        refine x_i2l (z := lN c) (pc' := 31) d_M_write_30 rfl (nI_l (by omega)) ?_
        refine x_bipush (v := nI 32) (pc' := 33) d_M_write_31 rfl (by decide) ?_
        refine x_lshl (z := lN (c * 4294967296 + sp_dig (sp_dec m 0))) (pc' := 34) d_M_write_33 rfl (by rw [wb_shl _ (by decide), show sp_dig (sp_dec m 0) = 0 from rfl, Nat.add_zero, show (2 : Nat) ^ 32 = 4294967296 from rfl]) ?_
        refine x_lstore (lo' := [.ref 29, .int (nI r), .int (nI b), .long (lN m), .float 0, .int (nI c), .long (lN (c * 4294967296 + sp_dig (sp_dec m 0))), .float 0, .float 0]) (pc' := 36) d_M_write_34 rfl (Nat.le_of_ble_eq_true rfl) rfl ?_
        refine x_iconst (v := nI 0) (pc' := 37) d_M_write_36 rfl (by decide) ?_
        refine x_istore (lo' := [.ref 29, .int (nI r), .int (nI b), .long (lN m), .float 0, .int (nI c), .long (lN (c * 4294967296 + sp_dig (sp_dec m 0))), .float 0, .int (nI 0)]) (pc' := 39) d_M_write_37 rfl (Nat.le_of_ble_eq_true rfl) rfl ?_
        refine l_M_write hc ?_ c 0 (by omega)
        rw [et]
        refine x_aload_n (pc' := 73) d_M_write_72 rfl rfl ?_
        refine x_getfield (ci := 4) (i := 7) (v := .ref 36) (pc' := 76) d_M_write_73 rfl g_M_29 hO rfl ?_
        refine x_iconst (v := nI 4) (pc' := 77) d_M_write_76 rfl (by decide) ?_
        refine x_iload_n (pc' := 78) d_M_write_77 rfl rfl ?_
        refine x_imul (z := nI (4 * r)) (pc' := 79) d_M_write_78 rfl (pk_mul 4 r) ?_
        refine x_iload_n (pc' := 80) d_M_write_79 rfl rfl ?_
        refine x_iadd (z := nI (4 * r + b)) (pc' := 81) d_M_write_80 rfl (nI_add _ _) ?_
        refine x_lload (pc' := 83) d_M_write_81 rfl rfl rfl ?_
        refine x_lastore (h' := (h.set 36 (.inl (.long, 8, .inr (.inl (vp_updL w (nI (4 * r + b)).toNatClampNeg (sp_tv (some (sp_dec m c))))))))) (pc' := 84) d_M_write_83 rfl w1 (vp_in_nI (by omega) (by decide)) rfl ?_
        refine x_iconst (v := 1) (pc' := 85) d_M_write_84 rfl (by decide) ?_
        exact x_ireturn d_M_write_85 rfl rfl (hQ _ (mh_set hM (by decide) rfl (mk_wk hr w1 hb _ (mk_self hK))) (xl_set (by decide)))
