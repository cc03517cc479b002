/-! rebase of the reference, the call. (Printed by c_mh.py.) -/
set_option maxHeartbeats 4000000 in
theorem c_M_rebase {L : Nat} {xs : Nat → Int32} {d : Nat} {h : xm_H} {Q : xm_Q} {S : sp_S} (hM : mh h S) (hS : sp_WS S) {x y : Int32} (hQ : ∀ h', mh h' (sp_rebase S x y).2 → xl_fr sp_M29 h h' → Q (some (.int (sp_rebase S x y).1)) h') : xm_call L xs (d + 8) m_M_rebase [.ref 29, .int x, .int y] h Q := by
  obtain ⟨hK, ⟨tk, hO⟩, hw⟩ := id hM
  have h40 := hK.1
  obtain ⟨t, t1, t2⟩ := hK.2.2.2.2.2.1
  have key : ∀ z, sp_rebase S x y = (z, S) → Q (some (.int z)) h := fun z e9 => by
    rw [e9] at hQ
    exact hQ h hM xl_rf
  refine x_call (lo := [.ref 29, .int x, .int y, .float 0, .float 0, .float 0, .float 0]) (Nat.le_of_ble_eq_true rfl) rfl ?_
  rcases sp_in_cases 2 (by decide) x with ⟨_, ex⟩ | ⟨_, _, ex⟩ | ⟨r, hr, rfl, er⟩
  · refine x_iload_n (pc' := 1) d_M_rebase_0 rfl rfl ?_
    refine x_iconst (v := nI 2) (pc' := 2) d_M_rebase_1 rfl (by decide) ?_
    refine x_static (as := [.int x, .int (nI 2)]) (r := []) (v := (some (.int 1))) (h' := h) (st' := [.int 1]) (c' := 0) (s' := 0) (pc' := 5) d_M_rebase_2 rfl c_M_123 rfl rfl (Nat.le_of_ble_eq_true rfl) (Nat.le_of_ble_eq_true rfl) (Nat.le_of_ble_eq_true rfl) (fun Q' hq => c_M_out1 (by decide) ex hq) rfl rfl rfl ?_
    refine x_ifne (t := 16) (pc' := 8) d_M_rebase_5 rfl rfl (fun _ => ?_) (fun q => absurd q (by decide))
    refine x_iconst (v := (-1)) (pc' := 17) d_M_rebase_16 rfl (by decide) ?_
    exact x_ireturn d_M_rebase_17 rfl rfl (key _ (by unfold sp_rebase; rw [ex]))
  · refine x_iload_n (pc' := 1) d_M_rebase_0 rfl rfl ?_
    refine x_iconst (v := nI 2) (pc' := 2) d_M_rebase_1 rfl (by decide) ?_
    refine x_static (as := [.int x, .int (nI 2)]) (r := []) (v := (some (.int 1))) (h' := h) (st' := [.int 1]) (c' := 0) (s' := 0) (pc' := 5) d_M_rebase_2 rfl c_M_123 rfl rfl (Nat.le_of_ble_eq_true rfl) (Nat.le_of_ble_eq_true rfl) (Nat.le_of_ble_eq_true rfl) (fun Q' hq => c_M_out1 (by decide) ex hq) rfl rfl rfl ?_
    refine x_ifne (t := 16) (pc' := 8) d_M_rebase_5 rfl rfl (fun _ => ?_) (fun q => absurd q (by decide))
    refine x_iconst (v := (-1)) (pc' := 17) d_M_rebase_16 rfl (by decide) ?_
    exact x_ireturn d_M_rebase_17 rfl rfl (key _ (by unfold sp_rebase; rw [ex]))
  · rcases sp_in_cases 4 (by decide) y with ⟨_, ey⟩ | ⟨_, _, ey⟩ | ⟨b, hb, rfl, eb⟩
    · refine x_iload_n (pc' := 1) d_M_rebase_0 rfl rfl ?_
      refine x_iconst (v := nI 2) (pc' := 2) d_M_rebase_1 rfl (by decide) ?_
      refine x_static (as := [.int (nI r), .int (nI 2)]) (r := []) (v := (some (.int 0))) (h' := h) (st' := [.int 0]) (c' := 0) (s' := 0) (pc' := 5) d_M_rebase_2 rfl c_M_123 rfl rfl (Nat.le_of_ble_eq_true rfl) (Nat.le_of_ble_eq_true rfl) (Nat.le_of_ble_eq_true rfl) (fun Q' hq => c_M_out0 hr (by decide) hq) rfl rfl rfl ?_
      refine x_ifne (t := 16) (pc' := 8) d_M_rebase_5 rfl rfl (fun q => absurd rfl q) (fun _ => ?_)
      refine x_iload_n (pc' := 9) d_M_rebase_8 rfl rfl ?_
      refine x_iconst (v := nI 4) (pc' := 10) d_M_rebase_9 rfl (by decide) ?_
      refine x_static (as := [.int y, .int (nI 4)]) (r := []) (v := (some (.int 1))) (h' := h) (st' := [.int 1]) (c' := 0) (s' := 0) (pc' := 13) d_M_rebase_10 rfl c_M_123 rfl rfl (Nat.le_of_ble_eq_true rfl) (Nat.le_of_ble_eq_true rfl) (Nat.le_of_ble_eq_true rfl) (fun Q' hq => c_M_out1 (by decide) ey hq) rfl rfl rfl ?_
      refine x_ifeq (t := 18) (pc' := 16) d_M_rebase_13 rfl rfl (fun q => absurd q (by decide)) (fun _ => ?_)
      refine x_iconst (v := (-1)) (pc' := 17) d_M_rebase_16 rfl (by decide) ?_
      exact x_ireturn d_M_rebase_17 rfl rfl (key _ (by unfold sp_rebase; rw [er, ey]))
    · refine x_iload_n (pc' := 1) d_M_rebase_0 rfl rfl ?_
      refine x_iconst (v := nI 2) (pc' := 2) d_M_rebase_1 rfl (by decide) ?_
      refine x_static (as := [.int (nI r), .int (nI 2)]) (r := []) (v := (some (.int 0))) (h' := h) (st' := [.int 0]) (c' := 0) (s' := 0) (pc' := 5) d_M_rebase_2 rfl c_M_123 rfl rfl (Nat.le_of_ble_eq_true rfl) (Nat.le_of_ble_eq_true rfl) (Nat.le_of_ble_eq_true rfl) (fun Q' hq => c_M_out0 hr (by decide) hq) rfl rfl rfl ?_
      refine x_ifne (t := 16) (pc' := 8) d_M_rebase_5 rfl rfl (fun q => absurd rfl q) (fun _ => ?_)
      refine x_iload_n (pc' := 9) d_M_rebase_8 rfl rfl ?_
      refine x_iconst (v := nI 4) (pc' := 10) d_M_rebase_9 rfl (by decide) ?_
      refine x_static (as := [.int y, .int (nI 4)]) (r := []) (v := (some (.int 1))) (h' := h) (st' := [.int 1]) (c' := 0) (s' := 0) (pc' := 13) d_M_rebase_10 rfl c_M_123 rfl rfl (Nat.le_of_ble_eq_true rfl) (Nat.le_of_ble_eq_true rfl) (Nat.le_of_ble_eq_true rfl) (fun Q' hq => c_M_out1 (by decide) ey hq) rfl rfl rfl ?_
      refine x_ifeq (t := 18) (pc' := 16) d_M_rebase_13 rfl rfl (fun q => absurd q (by decide)) (fun _ => ?_)
      refine x_iconst (v := (-1)) (pc' := 17) d_M_rebase_16 rfl (by decide) ?_
      exact x_ireturn d_M_rebase_17 rfl rfl (key _ (by unfold sp_rebase; rw [er, ey]))
    · have hR := hS.2 r hr
      refine x_iload_n (pc' := 1) d_M_rebase_0 rfl rfl ?_
      refine x_iconst (v := nI 2) (pc' := 2) d_M_rebase_1 rfl (by decide) ?_
      refine x_static (as := [.int (nI r), .int (nI 2)]) (r := []) (v := (some (.int 0))) (h' := h) (st' := [.int 0]) (c' := 0) (s' := 0) (pc' := 5) d_M_rebase_2 rfl c_M_123 rfl rfl (Nat.le_of_ble_eq_true rfl) (Nat.le_of_ble_eq_true rfl) (Nat.le_of_ble_eq_true rfl) (fun Q' hq => c_M_out0 hr (by decide) hq) rfl rfl rfl ?_
      refine x_ifne (t := 16) (pc' := 8) d_M_rebase_5 rfl rfl (fun q => absurd rfl q) (fun _ => ?_)
      refine x_iload_n (pc' := 9) d_M_rebase_8 rfl rfl ?_
      refine x_iconst (v := nI 4) (pc' := 10) d_M_rebase_9 rfl (by decide) ?_
      refine x_static (as := [.int (nI b), .int (nI 4)]) (r := []) (v := (some (.int 0))) (h' := h) (st' := [.int 0]) (c' := 0) (s' := 0) (pc' := 13) d_M_rebase_10 rfl c_M_123 rfl rfl (Nat.le_of_ble_eq_true rfl) (Nat.le_of_ble_eq_true rfl) (Nat.le_of_ble_eq_true rfl) (fun Q' hq => c_M_out0 hb (by decide) hq) rfl rfl rfl ?_
      refine x_ifeq (t := 18) (pc' := 16) d_M_rebase_13 rfl rfl (fun _ => ?_) (fun q => absurd rfl q)
      refine x_aload_n (pc' := 19) d_M_rebase_18 rfl rfl ?_
      refine x_iload_n (pc' := 20) d_M_rebase_19 rfl rfl ?_
      refine x_iload_n (pc' := 21) d_M_rebase_20 rfl rfl ?_
      refine x_virtual (a := 29) (as := [.int (nI r), .int (nI b)]) (r := []) (v := (some (.int (sp_bi (decide (sp_tip (S.2 r) b ≠ none)))))) (h' := h) (st' := [.int (sp_bi (decide (sp_tip (S.2 r) b ≠ none)))]) (c' := 0) (s' := 0) (pc' := 24) d_M_rebase_21 rfl c_M_130 hO rfl rfl (Nat.le_of_ble_eq_true rfl) (Nat.le_of_ble_eq_true rfl) (Nat.le_of_ble_eq_true rfl) (fun Q' hq => c_M_there hO hK hS hr hb hq) rfl rfl rfl ?_
      rcases sp_oc (sp_tip (S.2 r) b) with h1 | ⟨q, h1⟩
      · refine x_ifeq (t := 35) (pc' := 27) d_M_rebase_24 rfl rfl (fun _ => ?_) (fun q => absurd (by rw [h1]; rfl) q)
        refine x_bipush (v := (-2)) (pc' := 37) d_M_rebase_35 rfl (by decide) ?_
        exact x_ireturn d_M_rebase_37 rfl rfl (key _ (by unfold sp_rebase; rw [er, eb]; dsimp only; rw [h1]))
      · refine x_ifeq (t := 35) (pc' := 27) d_M_rebase_24 rfl rfl (fun q => absurd q (by rw [decide_eq_true (show sp_tip (S.2 r) b ≠ none by rw [h1]; exact Option.some_ne_none _)]; decide)) (fun _ => ?_)
        refine x_aload_n (pc' := 28) d_M_rebase_27 rfl rfl ?_
        refine x_iload_n (pc' := 29) d_M_rebase_28 rfl rfl ?_
        refine x_virtual (a := 29) (as := [.int (nI r)]) (r := []) (v := (some (.int (sp_vi (sp_head (S.2 r)))))) (h' := h) (st' := [.int (sp_vi (sp_head (S.2 r)))]) (c' := 0) (s' := 0) (pc' := 32) d_M_rebase_29 rfl c_M_111 hO rfl rfl (Nat.le_of_ble_eq_true rfl) (Nat.le_of_ble_eq_true rfl) (Nat.le_of_ble_eq_true rfl) (fun Q' hq => c_M_head hO hK hr hR.1 hq) rfl rfl rfl ?_
        have hq1 := hR.2.1 b hb q h1
        rcases sp_oc (sp_head (S.2 r)) with hd | ⟨p, hd⟩
        · refine x_ifge (t := 38) (pc' := 35) d_M_rebase_32 rfl rfl (fun q => absurd q (by rw [hd]; decide)) (fun _ => ?_)
          refine x_bipush (v := (-2)) (pc' := 37) d_M_rebase_35 rfl (by decide) ?_
          exact x_ireturn d_M_rebase_37 rfl rfl (key _ (by unfold sp_rebase; rw [er, eb]; dsimp only; rw [h1, hd]))
        · have hp1 := hR.2.1 _ hR.1 p hd
          refine x_ifge (t := 38) (pc' := 35) d_M_rebase_32 rfl rfl (fun _ => ?_) (fun q => absurd (by rw [hd]; exact nI_pos' (by omega)) q)
          refine x_aload_n (pc' := 39) d_M_rebase_38 rfl rfl ?_
          refine x_iload_n (pc' := 40) d_M_rebase_39 rfl rfl ?_
          refine x_virtual (a := 29) (as := [.int (nI r)]) (r := []) (v := (some (.int (sp_bi (!sp_clean S.1 (S.2 r)))))) (h' := h) (st' := [.int (sp_bi (!sp_clean S.1 (S.2 r)))]) (c' := 0) (s' := 0) (pc' := 43) d_M_rebase_40 rfl c_M_133 hO rfl rfl (Nat.le_of_ble_eq_true rfl) (Nat.le_of_ble_eq_true rfl) (Nat.le_of_ble_eq_true rfl) (fun Q' hq => c_M_dirty hO hK hS hr hq) rfl rfl rfl ?_
          by_cases h3 : sp_clean S.1 (S.2 r) = true
          · refine x_ifeq (t := 49) (pc' := 46) d_M_rebase_43 rfl rfl (fun _ => ?_) (fun q => absurd (by rw [h3]; rfl) q)
            refine x_aload_n (pc' := 50) d_M_rebase_49 rfl rfl ?_
            refine x_getfield (ci := 4) (i := 5) (v := .ref 34) (pc' := 53) d_M_rebase_50 rfl g_M_23 hO rfl ?_
            refine x_iconst (v := nI 4) (pc' := 54) d_M_rebase_53 rfl (by decide) ?_
            refine x_iload_n (pc' := 55) d_M_rebase_54 rfl rfl ?_
            refine x_imul (z := nI (4 * r)) (pc' := 56) d_M_rebase_55 rfl (pk_mul 4 r) ?_
            refine x_iload_n (pc' := 57) d_M_rebase_56 rfl rfl ?_
            refine x_iadd (z := nI (4 * r + b)) (pc' := 58) d_M_rebase_57 rfl (nI_add _ _) ?_
            refine x_iaload (v := nI q) (pc' := 59) d_M_rebase_58 rfl t1 (vp_in_nI (by omega) (by decide)) (by rw [nI_clamp (by omega), t2 r hr b hb, h1]; rfl) ?_
            refine x_istore_n (lo' := [.ref 29, .int (nI r), .int (nI b), .int (nI q), .float 0, .float 0, .float 0]) (pc' := 60) d_M_rebase_59 rfl (Nat.le_of_ble_eq_true rfl) rfl ?_
            refine x_iconst (v := nI 0) (pc' := 61) d_M_rebase_60 rfl (by decide) ?_
            refine x_istore (lo' := [.ref 29, .int (nI r), .int (nI b), .int (nI q), .int (nI 0), .float 0, .float 0]) (pc' := 63) d_M_rebase_61 rfl (Nat.le_of_ble_eq_true rfl) rfl ?_
            have e9 : sp_rebase S (nI r) (nI b) = match sp_replay S.1 (sp_rr S.1 p &&& (sp_rr S.1 p ^^^ sp_rr S.1 q)) (sp_n S.1) 0 (sp_of S.1 (some q)) [] with
      | .inl e => (e, S)
      | .inr ts => (nI ts.length, ((sp_adds S.1 (some q) ts).1, sp_up S.2 r (sp_mv (sp_adds S.1 (some q) ts).1 (S.2 r) (if ts.length = 0 then q else sp_n S.1 + ts.length - 1)))) := by unfold sp_rebase; rw [er, eb]; dsimp only; rw [h1, hd]; dsimp only; rw [h3]; rfl
            rw [e9] at hQ
            refine l_M_rebase39 hq1 (fun h1' K1 O1 r1 f1 => ?_) 4 0 rfl h hK hO (sp_rk_0 hw.2.1) xl_rf
            refine x_aload_n (pc' := 90) d_M_rebase_89 rfl rfl ?_
            refine x_aload_n (pc' := 91) d_M_rebase_90 rfl rfl ?_
            refine x_aload_n (pc' := 92) d_M_rebase_91 rfl rfl ?_
            refine x_iload_n (pc' := 93) d_M_rebase_92 rfl rfl ?_
            refine x_virtual (a := 29) (as := [.int (nI r)]) (r := [.ref 29, .ref 29]) (v := (some (.int (nI p)))) (h' := h1') (st' := [.int (nI p), .ref 29, .ref 29]) (c' := 0) (s' := 0) (pc' := 96) d_M_rebase_93 rfl c_M_111 O1 rfl rfl (Nat.le_of_ble_eq_true rfl) (Nat.le_of_ble_eq_true rfl) (Nat.le_of_ble_eq_true rfl) (fun Q' hq => c_M_head O1 K1 hr hR.1 (by rw [hd]; exact hq)) rfl rfl rfl ?_
            refine x_virtual (a := 29) (as := [.int (nI p)]) (r := [.ref 29]) (v := (some (.long (lN (sp_rr S.1 p))))) (h' := h1') (st' := [.long (lN (sp_rr S.1 p)), .ref 29]) (c' := 0) (s' := 0) (pc' := 99) d_M_rebase_96 rfl c_M_100 O1 rfl rfl (Nat.le_of_ble_eq_true rfl) (Nat.le_of_ble_eq_true rfl) (Nat.le_of_ble_eq_true rfl) (fun Q' hq => c_M_reached1 O1 K1 hS.1 hp1 hq) rfl rfl rfl ?_
            refine x_aload_n (pc' := 100) d_M_rebase_99 rfl rfl ?_
            refine x_iload_n (pc' := 101) d_M_rebase_100 rfl rfl ?_
            refine x_virtual (a := 29) (as := [.int (nI q)]) (r := [.long (lN (sp_rr S.1 p)), .ref 29]) (v := (some (.long (lN (sp_rr S.1 q))))) (h' := h1') (st' := [.long (lN (sp_rr S.1 q)), .long (lN (sp_rr S.1 p)), .ref 29]) (c' := 0) (s' := 0) (pc' := 104) d_M_rebase_101 rfl c_M_100 O1 rfl rfl (Nat.le_of_ble_eq_true rfl) (Nat.le_of_ble_eq_true rfl) (Nat.le_of_ble_eq_true rfl) (fun Q' hq => c_M_reached1 O1 K1 hS.1 hq1 hq) rfl rfl rfl ?_
            refine x_ldc2_w (x := (-1)) (pc' := 107) d_M_rebase_104 rfl k_M_158 ?_
            refine x_lxor (z := (lN (sp_rr S.1 q)) ^^^ (-1)) (pc' := 108) d_M_rebase_107 rfl rfl ?_
            refine x_land (z := lN (sp_rr S.1 p &&& (sp_rr S.1 p ^^^ sp_rr S.1 q))) (pc' := 109) d_M_rebase_108 rfl wb_andn ?_
            refine x_virtualR (a := 29) (as := [.long (lN (sp_rr S.1 p &&& (sp_rr S.1 p ^^^ sp_rr S.1 q)))]) (r := []) (Post := fun v9 h9 => (∃ e, v9 = some (.int e) ∧ (e = -5 ∨ e = -6) ∧ sp_replay S.1 (sp_rr S.1 p &&& (sp_rr S.1 p ^^^ sp_rr S.1 q)) (sp_n S.1) 0 (sp_of S.1 (some q)) [] = .inl e ∧ mk h9 S ∧ (∃ tk, mo h9 (sp_n S.1) tk) ∧ mw h9 ∧ xl_fr sp_MB h1' h9) ∨ (∃ ts, v9 = some (.int (nI ts.length)) ∧ sp_replay S.1 (sp_rr S.1 p &&& (sp_rr S.1 p ^^^ sp_rr S.1 q)) (sp_n S.1) 0 (sp_of S.1 (some q)) [] = .inr ts ∧ mk h9 S ∧ (∃ tk, mo h9 (sp_n S.1) tk) ∧ mw h9 ∧ sp_sk h9 ts ∧ sp_n S.1 + ts.length ≤ 40 ∧ xl_fr sp_MB h1' h9)) (c' := 0) (s' := 0) (pc' := 112) d_M_rebase_109 rfl c_M_160 O1 rfl rfl (Nat.le_of_ble_eq_true rfl) (Nat.le_of_ble_eq_true rfl) (Nat.le_of_ble_eq_true rfl) (fun Q' hq => c_M_replay hS.1 K1 ⟨_, O1⟩ (mw_39 hw (sp_rk_w r1) f1) r1 (sp_WH_of hS.1 (sp_ok_some hq1)) rfl (fun e e0 e1 h' z1 z2 z3 z4 => hq _ h' (Or.inl ⟨e, rfl, e0, e1, z1, z2, z3, z4⟩)) (fun ts e1 h' z1 z2 z3 z4 z5 z6 => hq _ h' (Or.inr ⟨ts, rfl, e1, z1, z2, z3, z4, z5, z6⟩))) rfl rfl (fun v9 h2 hp => ?_)
            have FF : ∀ h2, xl_fr sp_MB h1' h2 → xl_fr sp_M29 h h2 := fun h2 f2 => xl_tr (xl_mono f1 (fun k z => by show 29 ≤ k; omega)) (xl_mono f2 (fun k z => by show 29 ≤ k; rcases z with z | z <;> omega))
            rcases hp with ⟨e', rfl, e0, e1, K2, O2, w2, f2⟩ | ⟨ts, rfl, e1, K2, ⟨tk2, O2⟩, w2, sk, hl, f2⟩
            · show xm_X L xs (xm_call L xs (d + 7)) m_M_rebase (112, [.ref 29, .int (nI r), .int (nI b), .int (nI q), .int (nI 4), .float 0, .float 0], [.int e'], h2, 0, 0) Q
              rw [e1] at hQ
              refine x_istore (lo' := [.ref 29, .int (nI r), .int (nI b), .int (nI q), .int e', .float 0, .float 0]) (pc' := 114) d_M_rebase_112 rfl (Nat.le_of_ble_eq_true rfl) rfl ?_
              refine x_iload (pc' := 116) d_M_rebase_114 rfl rfl ?_
              refine x_ifge (t := 122) (pc' := 119) d_M_rebase_116 rfl rfl (fun q => absurd q (by rcases e0 with rfl | rfl <;> decide)) (fun _ => ?_)
              refine x_iload (pc' := 121) d_M_rebase_119 rfl rfl ?_
              exact x_ireturn d_M_rebase_121 rfl rfl (hQ h2 ⟨K2, O2, w2⟩ (FF h2 f2))
            · show xm_X L xs (xm_call L xs (d + 7)) m_M_rebase (112, [.ref 29, .int (nI r), .int (nI b), .int (nI q), .int (nI 4), .float 0, .float 0], [.int (nI ts.length)], h2, 0, 0) Q
              rw [e1] at hQ
              dsimp only at hQ
              refine x_istore (lo' := [.ref 29, .int (nI r), .int (nI b), .int (nI q), .int (nI ts.length), .float 0, .float 0]) (pc' := 114) d_M_rebase_112 rfl (Nat.le_of_ble_eq_true rfl) rfl ?_
              refine x_iload (pc' := 116) d_M_rebase_114 rfl rfl ?_
              refine x_ifge (t := 122) (pc' := 119) d_M_rebase_116 rfl rfl (fun _ => ?_) (fun q => absurd (nI_pos' (by omega)) q)
              refine x_iconst (v := nI 0) (pc' := 123) d_M_rebase_122 rfl (by decide) ?_
              refine x_istore (lo' := [.ref 29, .int (nI r), .int (nI b), .int (nI q), .int (nI ts.length), .int (nI 0), .float 0]) (pc' := 125) d_M_rebase_123 rfl (Nat.le_of_ble_eq_true rfl) rfl ?_
              have hh : sp_held (S.2 r) ||| sp_rr S.1 q = sp_held (S.2 r) := by have := hR.2.2.2.1 b hb; rw [h1] at this; rw [Nat.or_comm]; exact this
              have eR : sp_RR (S.2 r) S.1 q = S.2 r := by show (sp_tip (S.2 r), sp_cur (S.2 r), sp_held (S.2 r) ||| sp_rr S.1 q, sp_wk (S.2 r), sp_ix (S.2 r)) = S.2 r; rw [hh]
              have a0 : mk h2 (sp_set (S.1, S.2) r (sp_RR (S.2 r) S.1 q)) := by rw [eR]; exact mk_self K2
              obtain ⟨w1, -⟩ := sp_replay_wt hS.1 (sp_n S.1) 0 (sp_of S.1 (some q)) [] ts (by omega) (sp_WH_of hS.1 (sp_ok_some hq1)) (fun u hu => by cases hu) h40 e1
              obtain ⟨s, s1, s2⟩ := sk
              refine l_M_rb hr (Nat.lt_of_lt_of_le hR.2.2.1 (Nat.pow_le_pow_right (by decide) (by omega))) s1 (by omega) ts S.1 q 0 h2 _ (by omega) (fun i hi f hf => by rw [Nat.zero_add]; exact s2 i hi f hf) hl w1 hS.1 hq1 a0 O2 xl_rf (fun h3 l x6 el a3 O3 W3 l3 f3 => ?_)
              have e5 := sp_adds_last ts S.1 q
              rw [el] at e5
              refine x_aload_n (pc' := 186) d_M_rebase_185 rfl rfl ?_
              refine x_iload_n (pc' := 187) d_M_rebase_186 rfl rfl ?_
              refine x_iload_n (pc' := 188) d_M_rebase_187 rfl rfl ?_
              refine x_virtualR (a := 29) (as := [.int (nI r), .int (nI l)]) (r := []) (Post := fun v9 h9 => v9 = some (.int (nI l)) ∧ mk h9 (sp_set ((sp_adds S.1 (some q) ts).1, S.2) r (sp_mv (sp_adds S.1 (some q) ts).1 (S.2 r) l)) ∧ mo h9 (sp_n (sp_adds S.1 (some q) ts).1) tk2 ∧ xl_fr sp_MV h3 h9) (c' := 0) (s' := 0) (pc' := 191) d_M_rebase_188 rfl c_M_137 O3 rfl rfl (Nat.le_of_ble_eq_true rfl) (Nat.le_of_ble_eq_true rfl) (Nat.le_of_ble_eq_true rfl) (fun Q' hq => c_M_moveTo (S := ((sp_adds S.1 (some q) ts).1, S.2)) a3 O3 hr hR.1 l3 (fun h' z1 z2 z3 => hq _ h' ⟨rfl, z1, z2, z3⟩)) rfl rfl (fun v9 h5 hp => ?_)
              obtain ⟨rfl, a5, O5, f5⟩ := hp
              show xm_X L xs (xm_call L xs (d + 7)) m_M_rebase (191, [.ref 29, .int (nI r), .int (nI b), .int (nI l), .int (nI ts.length), .int (nI ts.length), x6], [.int (nI l)], h5, 0, 0) Q
              refine x_istore (lo' := [.ref 29, .int (nI r), .int (nI b), .int (nI l), .int (nI ts.length), .int (nI l), x6]) (pc' := 193) d_M_rebase_191 rfl (Nat.le_of_ble_eq_true rfl) rfl ?_
              refine x_iload (pc' := 195) d_M_rebase_193 rfl rfl ?_
              refine x_ifge (t := 202) (pc' := 198) d_M_rebase_195 rfl rfl (fun _ => ?_) (fun q => absurd (nI_pos' (by have := W3.1; omega)) q)
              refine x_iload (pc' := 204) d_M_rebase_202 rfl rfl ?_
              exact x_ireturn d_M_rebase_204 rfl rfl (hQ h5 ⟨by rw [← Option.some.inj e5]; exact a5, ⟨tk2, O5⟩, mw_go w2 (fun k z1 z2 => (f5.2 k (by omega)).trans (f3.2 k (by omega)))⟩ (xl_tr (FF h2 f2) (xl_tr (xl_mono f3 (fun k z => z.1)) (xl_mono f5 (fun k z => by show 29 ≤ k; omega)))))
          · refine x_ifeq (t := 49) (pc' := 46) d_M_rebase_43 rfl rfl (fun q => absurd q (by rw [Bool.eq_false_iff.mpr h3]; decide)) (fun _ => ?_)
            refine x_bipush (v := (-3)) (pc' := 48) d_M_rebase_46 rfl (by decide) ?_
            exact x_ireturn d_M_rebase_48 rfl rfl (key _ (by unfold sp_rebase; rw [er, eb]; dsimp only; rw [h1, hd]; dsimp only; rw [Bool.eq_false_iff.mpr h3]; rfl))
