/-! replay of the reference. (Printed by c_mf.py.) -/
abbrev sp_MB : Nat → Prop := fun k => k = 29 ∨ (38 ≤ k ∧ k ≤ 46)
/-- the steps written so far -/
def sp_sk (h : xm_H) (acc : List sp_T) : Prop := ∃ s : Nat → Int64, h[46]? = some (.inl (.long, 160, .inr (.inl s))) ∧ ∀ i, i < acc.length → ∀ f, f < 4 → s (4 * i + f) = sp_tv ((acc.getD i (fun _ => none)) f)
/-- one more step, j files of it -/
def sp_sj (h : xm_H) (acc : List sp_T) (u : sp_T) (j : Nat) : Prop := ∃ s : Nat → Int64, h[46]? = some (.inl (.long, 160, .inr (.inl s))) ∧ (∀ i, i < acc.length → ∀ f, f < 4 → s (4 * i + f) = sp_tv ((acc.getD i (fun _ => none)) f)) ∧ ∀ f, f < j → s (4 * acc.length + f) = sp_tv (u f)
theorem sp_sk_go {h h' : xm_H} {acc : List sp_T} (a : sp_sk h acc) (e : h'[46]? = h[46]?) : sp_sk h' acc := ⟨a.choose, e.trans a.choose_spec.1, a.choose_spec.2⟩
theorem sp_sj_4 {h : xm_H} {acc : List sp_T} {u : sp_T} (a : sp_sj h acc u 4) : sp_sk h (acc ++ [u]) := by
  obtain ⟨s, s1, s2, s3⟩ := a
  refine ⟨s, s1, fun i hi f hf => ?_⟩
  rw [sp_ln1] at hi
  by_cases e : i = acc.length
  · rw [e, s3 f hf, List.getD_eq_getElem?_getD, List.getElem?_append_right (Nat.le_refl _), Nat.sub_self]
    rfl
  · rw [s2 i (by omega) f hf, List.getD_eq_getElem?_getD, List.getD_eq_getElem?_getD, List.getElem?_append_left (by omega)]
theorem mw_46 {h h' : xm_H} (w : mw h) (r1 : mw4 h' 39) (r2 : ∃ f : Nat → Int64, h'[46]? = some (.inl (.long, 160, .inr (.inl f)))) (f : xl_fr (fun k => k = 39 ∨ k = 46) h h') : mw h' := by
  obtain ⟨a1, a2, a3, a4, ⟨f1, b1⟩, ⟨f2, b2⟩, ⟨f3, b3⟩, ⟨f4, b4⟩, ⟨f5, b5⟩⟩ := w
  exact ⟨mw4_go a1 (f.2 38 (by omega)), r1, mw4_go a3 (f.2 40 (by omega)), mw4_go a4 (f.2 41 (by omega)), ⟨f1, (f.2 42 (by omega)).trans b1⟩, ⟨f2, (f.2 43 (by omega)).trans b2⟩, ⟨f3, (f.2 44 (by omega)).trans b3⟩, ⟨f4, (f.2 45 (by omega)).trans b4⟩, r2⟩
theorem l_M_rp1 {L : Nat} {xs : Nat → Int32} {d : Nat} {h : xm_H} {Q : xm_Q} {S : sp_S} {tk : Int32} {m k : Nat} {acc : List sp_T} {u : sp_T} (ha : acc.length < 40) (r41 : sp_rk h 41 u 4)
    (K : ∀ h1, mo h1 (sp_n S.1) tk → sp_sj h1 acc u 4 → sp_rk h1 39 u 4 → xl_fr (fun k => k = 39 ∨ k = 46) h h1 → xm_X L xs (xm_call L xs (d + 6)) m_M_replay (115, [.ref 29, .long (lN m), .float 0, .int (nI acc.length), .int (nI k), .int (nI 4)], [], h1, 0, 0) Q) :
    ∀ z j, j + z = 4 → ∀ h1, mo h1 (sp_n S.1) tk → sp_sj h1 acc u j → sp_rk h1 39 u j → xl_fr (fun k => k = 39 ∨ k = 46) h h1 → xm_X L xs (xm_call L xs (d + 6)) m_M_replay (71, [.ref 29, .long (lN m), .float 0, .int (nI acc.length), .int (nI k), .int (nI j)], [], h1, 0, 0) Q := by
  intro z
  induction z with
  | zero =>
    intro j hj h1 hO sj r39 hf
    have hj : j = 4 := hj
    subst hj
    refine x_iload (pc' := 73) d_M_replay_71 rfl rfl ?_
    refine x_iconst (v := nI 4) (pc' := 74) d_M_replay_73 rfl (by decide) ?_
    refine x_icmpge (t := 115) (pc' := 77) d_M_replay_74 rfl rfl (fun _ => ?_) (fun q => absurd (nI_le (Nat.le_refl _) (by decide)) q)
    exact K h1 hO sj r39 hf
  | succ z ih =>
    intro j hj h1 hO sj r39 hf
    have hj4 : j < 4 := by omega
    obtain ⟨s, s1, s2, s3⟩ := sj
    obtain ⟨f, f1, f2⟩ := r39
    obtain ⟨v, v0, v2⟩ := r41
    have v1 := (hf.2 41 (by omega)).trans v0
    refine x_iload (pc' := 73) d_M_replay_71 rfl rfl ?_
    refine x_iconst (v := nI 4) (pc' := 74) d_M_replay_73 rfl (by decide) ?_
    refine x_icmpge (t := 115) (pc' := 77) d_M_replay_74 rfl rfl (fun q => absurd q (nI_ge hj4 (by decide))) (fun _ => ?_)
    refine x_aload_n (pc' := 78) d_M_replay_77 rfl rfl ?_
    refine x_getfield (ci := 4) (i := 18) (v := .ref 46) (pc' := 81) d_M_replay_78 rfl g_M_59 hO rfl ?_
    refine x_iconst (v := nI 4) (pc' := 82) d_M_replay_81 rfl (by decide) ?_
    refine x_iload_n (pc' := 83) d_M_replay_82 rfl rfl ?_
    refine x_imul (z := nI (4 * acc.length)) (pc' := 84) d_M_replay_83 rfl (pk_mul 4 _) ?_
    refine x_iload (pc' := 86) d_M_replay_84 rfl rfl ?_
    refine x_iadd (z := nI (4 * acc.length + j)) (pc' := 87) d_M_replay_86 rfl (nI_add _ _) ?_
    refine x_aload_n (pc' := 88) d_M_replay_87 rfl rfl ?_
    refine x_getfield (ci := 4) (i := 12) (v := .ref 41) (pc' := 91) d_M_replay_88 rfl g_M_44 hO rfl ?_
    refine x_iload (pc' := 93) d_M_replay_91 rfl rfl ?_
    refine x_laload (v := sp_tv (u j)) (pc' := 94) d_M_replay_93 rfl v1 (vp_in_nI (by omega) (by decide)) (by rw [nI_clamp (by omega)]; exact v2 j hj4) ?_
    refine x_lastore (h' := (h1.set 46 (.inl (.long, 160, .inr (.inl (vp_updL s (nI (4 * acc.length + j)).toNatClampNeg (sp_tv (u j)))))))) (pc' := 95) d_M_replay_94 rfl s1 (vp_in_nI (by omega) (by decide)) rfl ?_
    refine x_aload_n (pc' := 96) d_M_replay_95 rfl rfl ?_
    refine x_getfield (ci := 4) (i := 10) (v := .ref 39) (pc' := 99) d_M_replay_96 rfl g_M_38 ((xl_ne (by decide)).trans hO) rfl ?_
    refine x_iload (pc' := 101) d_M_replay_99 rfl rfl ?_
    refine x_aload_n (pc' := 102) d_M_replay_101 rfl rfl ?_
    refine x_getfield (ci := 4) (i := 12) (v := .ref 41) (pc' := 105) d_M_replay_102 rfl g_M_44 ((xl_ne (by decide)).trans hO) rfl ?_
    refine x_iload (pc' := 107) d_M_replay_105 rfl rfl ?_
    refine x_laload (v := sp_tv (u j)) (pc' := 108) d_M_replay_107 rfl ((xl_ne (by decide)).trans v1) (vp_in_nI (by omega) (by decide)) (by rw [nI_clamp (by omega)]; exact v2 j hj4) ?_
    refine x_lastore (h' := ((h1.set 46 (.inl (.long, 160, .inr (.inl (vp_updL s (nI (4 * acc.length + j)).toNatClampNeg (sp_tv (u j))))))).set 39 (.inl (.long, 4, .inr (.inl (vp_updL f (nI j).toNatClampNeg (sp_tv (u j)))))))) (pc' := 109) d_M_replay_108 rfl ((xl_ne (by decide)).trans f1) (vp_in_nI (by omega) (by decide)) rfl ?_
    refine x_iinc (y := nI (j + 1)) (lo' := [.ref 29, .long (lN m), .float 0, .int (nI acc.length), .int (nI k), .int (nI (j + 1))]) (pc' := 112) d_M_replay_109 rfl rfl (sp_nI_inc j) rfl ?_
    refine x_goto (t := 71) d_M_replay_112 rfl ?_
    refine ih (j + 1) (by omega) ((h1.set 46 (.inl (.long, 160, .inr (.inl (vp_updL s (nI (4 * acc.length + j)).toNatClampNeg (sp_tv (u j))))))).set 39 (.inl (.long, 4, .inr (.inl (vp_updL f (nI j).toNatClampNeg (sp_tv (u j))))))) ((xl_ne (by decide)).trans ((xl_ne (by decide)).trans hO)) ⟨_, (xl_ne (by decide)).trans (xl_at s1), fun i hi g hg => ?_, fun g hg => ?_⟩ (sp_rk_s ((xl_ne (by decide)).trans f1) f2 hj4) (xl_tr hf (xl_tr (xl_set (Or.inr rfl)) (xl_set (Or.inl rfl))))
    · rw [nI_clamp (by omega), sp_updL_ne (by omega)]; exact s2 i hi g hg
    · rw [nI_clamp (by omega)]
      by_cases e : g = j
      · rw [e, sp_updL_at]
      · rw [sp_updL_ne (by omega)]; exact s3 g (by omega)
set_option maxHeartbeats 4000000 in
theorem l_M_replay {L : Nat} {xs : Nat → Int32} {d : Nat} {h : xm_H} {Q : xm_Q} {S : sp_S} {m : Nat} {R : Int32 ⊕ List sp_T} (hW : sp_WH S.1)
    (hE : ∀ e : Int32, (e = -5 ∨ e = -6) → R = .inl e → ∀ h', mk h' S → (∃ tk, mo h' (sp_n S.1) tk) → mw h' → xl_fr sp_MB h h' → Q (some (.int e)) h')
    (hI : ∀ ts, R = .inr ts → ∀ h', mk h' S → (∃ tk, mo h' (sp_n S.1) tk) → mw h' → sp_sk h' ts → sp_n S.1 + ts.length ≤ 40 → xl_fr sp_MB h h' → Q (some (.int (nI ts.length))) h') :
    ∀ z k, k + z = sp_n S.1 → ∀ (h1 : xm_H) (t : sp_T) (acc : List sp_T) (x5 : Value), sp_replay S.1 m (sp_n S.1 - k) k t acc = R → mk h1 S → (∃ tk, mo h1 (sp_n S.1) tk) → mw h1 → sp_rk h1 39 t 4 → sp_sk h1 acc → sp_w4 t → sp_n S.1 + acc.length ≤ 40 → xl_fr sp_MB h h1 →
      xm_X L xs (xm_call L xs (d + 6)) m_M_replay (5, [.ref 29, .long (lN m), .float 0, .int (nI acc.length), .int (nI k), x5], [], h1, 0, 0) Q := by
  have h40 := hW.1
  intro z
  induction z with
  | zero =>
    intro k hk h1 t acc x5 hr hM hO hw r39 sk ht hl hf
    obtain ⟨tk, hO⟩ := hO
    have hk : k = sp_n S.1 := hk
    subst hk
    rw [Nat.sub_self] at hr
    change Sum.inr acc = R at hr
    refine x_iload (pc' := 7) d_M_replay_5 rfl rfl ?_
    refine x_aload_n (pc' := 8) d_M_replay_7 rfl rfl ?_
    refine x_getfield (ci := 4) (i := 0) (v := .int (nI (sp_n S.1))) (pc' := 11) d_M_replay_8 rfl g_M_104 hO rfl ?_
    refine x_icmpge (t := 124) (pc' := 14) d_M_replay_11 rfl rfl (fun _ => ?_) (fun q => absurd (nI_le (Nat.le_refl _) (by omega)) q)
    refine x_iload_n (pc' := 125) d_M_replay_124 rfl rfl ?_
    exact x_ireturn d_M_replay_125 rfl rfl (hI acc hr.symm h1 hM ⟨tk, hO⟩ hw sk hl hf)
  | succ z ih =>
    intro k hkz h1 t acc x5 hr hM hO hw r39 sk ht hl hf
    obtain ⟨tk, hO⟩ := hO
    have hk : k < sp_n S.1 := by omega
    obtain ⟨P2, q1, q2⟩ := hM.2.2.2.1
    refine x_iload (pc' := 7) d_M_replay_5 rfl rfl ?_
    refine x_aload_n (pc' := 8) d_M_replay_7 rfl rfl ?_
    refine x_getfield (ci := 4) (i := 0) (v := .int (nI (sp_n S.1))) (pc' := 11) d_M_replay_8 rfl g_M_104 hO rfl ?_
    refine x_icmpge (t := 124) (pc' := 14) d_M_replay_11 rfl rfl (fun q => absurd q (nI_ge hk (by omega))) (fun _ => ?_)
    refine x_lload_n (pc' := 15) d_M_replay_14 rfl rfl rfl ?_
    refine x_iload (pc' := 17) d_M_replay_15 rfl rfl ?_
    refine x_lshr (z := (lN m) >>> ((nI k).toInt64 &&& 63)) (pc' := 18) d_M_replay_17 rfl rfl ?_
    refine x_lconst (v := 1) (pc' := 19) d_M_replay_18 rfl (by decide) ?_
    cases hb : m.testBit k with
    | false =>
      refine x_land (z := lN 0) (pc' := 20) d_M_replay_19 rfl (wb_sb (by omega) hb) ?_
      refine x_lconst (v := 1) (pc' := 21) d_M_replay_20 rfl (by decide) ?_
      refine x_lcmp (z := lg_cmp (lN 0) 1) (pc' := 22) d_M_replay_21 rfl rfl ?_
      refine x_ifne (t := 118) (pc' := 25) d_M_replay_22 rfl rfl (fun _ => ?_) (fun q => absurd q (by decide))
      refine x_iinc (y := nI (k + 1)) (lo' := [.ref 29, .long (lN m), .float 0, .int (nI acc.length), .int (nI (k + 1)), x5]) (pc' := 121) d_M_replay_118 rfl rfl (sp_nI_inc k) rfl ?_
      refine x_goto (t := 5) d_M_replay_121 rfl ?_
      exact ih (k + 1) (by omega) h1 t acc _ ((sp_rep_s (fun z => by rw [hb] at z; exact absurd z.1 (by decide))).symm.trans hr) hM ⟨tk, hO⟩ hw r39 sk ht hl hf
    | true =>
      refine x_land (z := lN 1) (pc' := 20) d_M_replay_19 rfl (wb_sb (by omega) hb) ?_
      refine x_lconst (v := 1) (pc' := 21) d_M_replay_20 rfl (by decide) ?_
      refine x_lcmp (z := lg_cmp (lN 1) 1) (pc' := 22) d_M_replay_21 rfl rfl ?_
      refine x_ifne (t := 118) (pc' := 25) d_M_replay_22 rfl rfl (fun q => absurd rfl q) (fun _ => ?_)
      refine x_aload_n (pc' := 26) d_M_replay_25 rfl rfl ?_
      refine x_getfield (ci := 4) (i := 3) (v := .ref 32) (pc' := 29) d_M_replay_26 rfl g_M_17 hO rfl ?_
      refine x_iload (pc' := 31) d_M_replay_29 rfl rfl ?_
      refine x_iaload (v := sp_vi (sp_p2 S.1 k)) (pc' := 32) d_M_replay_31 rfl q1 (vp_in_nI (by omega) (by decide)) (by rw [nI_clamp (by omega)]; exact q2 k hk) ?_
      have hv := sp_vi_ge (n := 40) (by decide) (fun j hj => Nat.lt_of_lt_of_le ((hW.2.1 k hk).2.1 j hj) (by omega))
      by_cases h4 : sp_p2 S.1 k = none
      · rw [sp_rep_t hk hb h4] at hr
        refine x_ifge (t := 118) (pc' := 35) d_M_replay_32 rfl rfl (fun q => absurd q (fun z => absurd (hv.1.mpr h4) (Int32.not_lt.mpr z))) (fun _ => ?_)
        refine x_aload_n (pc' := 36) d_M_replay_35 rfl rfl ?_
        refine x_iload (pc' := 38) d_M_replay_36 rfl rfl ?_
        refine x_virtualR (a := 29) (as := [.int (nI k)]) (r := []) (Post := fun v9 h9 => (v9 = some (.int 0) ∧ sp_snap (sp_of S.1 (sp_p1 S.1 k)) t (sp_of S.1 (some k)) = none ∧ mk h9 S ∧ (∃ tk, mo h9 (sp_n S.1) tk) ∧ mw h9 ∧ sp_rk h9 39 t 4 ∧ xl_fr sp_MA h1 h9) ∨ (v9 = some (.int 1) ∧ ∃ u, sp_snap (sp_of S.1 (sp_p1 S.1 k)) t (sp_of S.1 (some k)) = some u ∧ mk h9 S ∧ (∃ tk, mo h9 (sp_n S.1) tk) ∧ mw h9 ∧ sp_rk h9 39 t 4 ∧ sp_rk h9 41 u 4 ∧ xl_fr sp_MA h1 h9)) (c' := 0) (s' := 0) (pc' := 41) d_M_replay_38 rfl c_M_152 hO rfl rfl (Nat.le_of_ble_eq_true rfl) (Nat.le_of_ble_eq_true rfl) (Nat.le_of_ble_eq_true rfl) (fun Q' hq => c_M_again hW hk hM hO hw ht r39 (fun e h' z1 z2 z3 z4 z5 => hq _ h' (Or.inl ⟨rfl, e, z1, z2, z3, z4, z5⟩)) (fun u e h' z1 z2 z3 z4 z5 z6 => hq _ h' (Or.inr ⟨rfl, u, e, z1, z2, z3, z4, z5, z6⟩))) rfl rfl (fun v9 h2 hp => ?_)
        have FF : ∀ h2, xl_fr sp_MA h1 h2 → xl_fr sp_MB h h2 := fun h2 f2 => xl_tr hf (xl_mono f2 (fun k z => by rcases z with z | z; exact Or.inl z; exact Or.inr ⟨z.1, by omega⟩))
        rcases hp with ⟨rfl, en, K2, ⟨tk2, O2⟩, w2, r39', f2⟩ | ⟨rfl, u, en, K2, ⟨tk2, O2⟩, w2, r39', r41, f2⟩
        · show xm_X L xs (xm_call L xs (d + 6)) m_M_replay (41, [.ref 29, .long (lN m), .float 0, .int (nI acc.length), .int (nI k), x5], [.int 0], h2, 0, 0) Q
          rw [show sp_again S.1 k t = none by unfold sp_again; rw [en]] at hr
          refine x_ifne (t := 47) (pc' := 44) d_M_replay_41 rfl rfl (fun q => absurd rfl q) (fun _ => ?_)
          refine x_bipush (v := (-5)) (pc' := 46) d_M_replay_44 rfl (by decide) ?_
          exact x_ireturn d_M_replay_46 rfl rfl (hE (-5) (Or.inl rfl) hr.symm h2 K2 ⟨tk2, O2⟩ w2 (FF h2 f2))
        · show xm_X L xs (xm_call L xs (d + 6)) m_M_replay (41, [.ref 29, .long (lN m), .float 0, .int (nI acc.length), .int (nI k), x5], [.int 1], h2, 0, 0) Q
          have wt : sp_w4 u := sp_snap_wt (sp_WH_of hW (sp_ok_mono (Nat.le_of_lt hk) (hW.2.1 k hk).1)) ht (sp_WH_of hW (sp_ok_some hk)) en
          have sk2 : sp_sk h2 acc := sp_sk_go sk (f2.2 46 (by omega))
          refine x_ifne (t := 47) (pc' := 44) d_M_replay_41 rfl rfl (fun _ => ?_) (fun q => absurd q (by decide))
          refine x_aload_n (pc' := 48) d_M_replay_47 rfl rfl ?_
          refine x_virtual (a := 29) (as := []) (r := []) (v := (some (.int (sp_bi (sp_eq4 u t))))) (h' := h2) (st' := [.int (sp_bi (sp_eq4 u t))]) (c' := 0) (s' := 0) (pc' := 51) d_M_replay_48 rfl c_M_155 O2 rfl rfl (Nat.le_of_ble_eq_true rfl) (Nat.le_of_ble_eq_true rfl) (Nat.le_of_ble_eq_true rfl) (fun Q' hq => c_M_changedNothing O2 r41 r39' wt ht hq) rfl rfl rfl ?_
          by_cases h6 : sp_eq4 u t = true
          · rw [show sp_again S.1 k t = some none by unfold sp_again; rw [en]; dsimp only; rw [if_pos h6]] at hr
            dsimp only at hr
            refine x_ifne (t := 118) (pc' := 54) d_M_replay_51 rfl rfl (fun _ => ?_) (fun q => absurd q (by rw [h6]; decide))
            refine x_iinc (y := nI (k + 1)) (lo' := [.ref 29, .long (lN m), .float 0, .int (nI acc.length), .int (nI (k + 1)), x5]) (pc' := 121) d_M_replay_118 rfl rfl (sp_nI_inc k) rfl ?_
            refine x_goto (t := 5) d_M_replay_121 rfl ?_
            exact ih (k + 1) (by omega) h2 t acc _ hr K2 ⟨tk2, O2⟩ w2 r39' sk2 ht hl (FF h2 f2)
          · rw [show sp_again S.1 k t = some (some u) by unfold sp_again; rw [en]; dsimp only; rw [if_neg h6]] at hr
            dsimp only at hr
            refine x_ifne (t := 118) (pc' := 54) d_M_replay_51 rfl rfl (fun q => absurd (by rw [Bool.eq_false_iff.mpr h6]; rfl) q) (fun _ => ?_)
            refine x_aload_n (pc' := 55) d_M_replay_54 rfl rfl ?_
            refine x_getfield (ci := 4) (i := 0) (v := .int (nI (sp_n S.1))) (pc' := 58) d_M_replay_55 rfl g_M_104 O2 rfl ?_
            refine x_iload_n (pc' := 59) d_M_replay_58 rfl rfl ?_
            refine x_iadd (z := nI (sp_n S.1 + acc.length)) (pc' := 60) d_M_replay_59 rfl (nI_add _ _) ?_
            refine x_bipush (v := nI 40) (pc' := 62) d_M_replay_60 rfl (by decide) ?_
            by_cases hn : 40 ≤ sp_n S.1 + acc.length
            · rw [if_pos hn] at hr
              refine x_icmpne (t := 68) (pc' := 65) d_M_replay_62 rfl rfl (fun q => absurd (by rw [show sp_n S.1 + acc.length = 40 by omega]) q) (fun _ => ?_)
              refine x_bipush (v := (-6)) (pc' := 67) d_M_replay_65 rfl (by decide) ?_
              exact x_ireturn d_M_replay_67 rfl rfl (hE (-6) (Or.inr rfl) hr.symm h2 K2 ⟨tk2, O2⟩ w2 (FF h2 f2))
            · rw [if_neg hn] at hr
              refine x_icmpne (t := 68) (pc' := 65) d_M_replay_62 rfl rfl (fun _ => ?_) (fun q => absurd q (fun z => absurd (sp_nI_inj (by omega) (by decide) z) (by omega)))
              refine x_iconst (v := nI 0) (pc' := 69) d_M_replay_68 rfl (by decide) ?_
              refine x_istore (lo' := [.ref 29, .long (lN m), .float 0, .int (nI acc.length), .int (nI k), .int (nI 0)]) (pc' := 71) d_M_replay_69 rfl (Nat.le_of_ble_eq_true rfl) rfl ?_
              refine l_M_rp1 (S := S) (by omega) r41 (fun h3 O3 sj r39c f3 => ?_) 4 0 rfl h2 O2 ⟨sk2.choose, sk2.choose_spec.1, sk2.choose_spec.2, fun f hf => absurd hf (Nat.not_lt_zero f)⟩ ⟨r39'.choose, r39'.choose_spec.1, fun f hf => absurd hf (Nat.not_lt_zero f)⟩ xl_rf
              refine x_iinc (y := nI (acc.length + 1)) (lo' := [.ref 29, .long (lN m), .float 0, .int (nI (acc.length + 1)), .int (nI k), .int (nI 4)]) (pc' := 118) d_M_replay_115 rfl rfl (sp_nI_inc _) rfl ?_
              refine x_iinc (y := nI (k + 1)) (lo' := [.ref 29, .long (lN m), .float 0, .int (nI (acc.length + 1)), .int (nI (k + 1)), .int (nI 4)]) (pc' := 121) d_M_replay_118 rfl rfl (sp_nI_inc k) rfl ?_
              refine x_goto (t := 5) d_M_replay_121 rfl ?_
              have hh := ih (k + 1) (by omega) h3 u (acc ++ [u]) (.int (nI 4)) hr (mk_go K2 (fun k z1 z2 => f3.2 k (by omega))) ⟨tk2, O3⟩ (mw_46 w2 (sp_rk_w r39c) ⟨sj.choose, sj.choose_spec.1⟩ f3) r39c (sp_sj_4 sj) wt (by rw [sp_ln1]; omega) (xl_tr (FF h2 f2) (xl_mono f3 (fun k z => Or.inr (by omega))))
              rw [sp_ln1] at hh
              exact hh
      · refine x_ifge (t := 118) (pc' := 35) d_M_replay_32 rfl rfl (fun _ => ?_) (fun q => absurd (Int32.not_lt.mp (fun z => h4 (hv.1.mp z))) q)
        refine x_iinc (y := nI (k + 1)) (lo' := [.ref 29, .long (lN m), .float 0, .int (nI acc.length), .int (nI (k + 1)), x5]) (pc' := 121) d_M_replay_118 rfl rfl (sp_nI_inc k) rfl ?_
        refine x_goto (t := 5) d_M_replay_121 rfl ?_
        exact ih (k + 1) (by omega) h1 t acc _ ((sp_rep_s (fun z => h4 z.2)).symm.trans hr) hM ⟨tk, hO⟩ hw r39 sk ht hl hf
theorem c_M_replay {L : Nat} {xs : Nat → Int32} {d : Nat} {h : xm_H} {Q : xm_Q} {S : sp_S} {m : Nat} {R : Int32 ⊕ List sp_T} (hW : sp_WH S.1) {t : sp_T} (hM : mk h S) (hO : ∃ tk, mo h (sp_n S.1) tk) (hw : mw h) (r39 : sp_rk h 39 t 4) (ht : sp_w4 t) (hr : sp_replay S.1 m (sp_n S.1) 0 t [] = R)
    (hE : ∀ e : Int32, (e = -5 ∨ e = -6) → R = .inl e → ∀ h', mk h' S → (∃ tk, mo h' (sp_n S.1) tk) → mw h' → xl_fr sp_MB h h' → Q (some (.int e)) h')
    (hI : ∀ ts, R = .inr ts → ∀ h', mk h' S → (∃ tk, mo h' (sp_n S.1) tk) → mw h' → sp_sk h' ts → sp_n S.1 + ts.length ≤ 40 → xl_fr sp_MB h h' → Q (some (.int (nI ts.length))) h') : xm_call L xs (d + 7) m_M_replay [.ref 29, .long (lN m)] h Q := by
  refine x_call (lo := [.ref 29, .long (lN m), .float 0, .float 0, .float 0, .float 0]) (Nat.le_of_ble_eq_true rfl) rfl ?_
  refine x_iconst (v := nI 0) (pc' := 1) d_M_replay_0 rfl (by decide) ?_
  refine x_istore_n (lo' := [.ref 29, .long (lN m), .float 0, .int (nI 0), .float 0, .float 0]) (pc' := 2) d_M_replay_1 rfl (Nat.le_of_ble_eq_true rfl) rfl ?_
  refine x_iconst (v := nI 0) (pc' := 3) d_M_replay_2 rfl (by decide) ?_
  refine x_istore (lo' := [.ref 29, .long (lN m), .float 0, .int (nI 0), .int (nI 0), .float 0]) (pc' := 5) d_M_replay_3 rfl (Nat.le_of_ble_eq_true rfl) rfl ?_
  exact l_M_replay hW hE hI (sp_n S.1) 0 (by omega) h t [] _ hr hM hO hw r39 ⟨hw.2.2.2.2.2.2.2.2.choose, hw.2.2.2.2.2.2.2.2.choose_spec, fun i hi => absurd hi (Nat.not_lt_zero i)⟩ ht hW.1 xl_rf
