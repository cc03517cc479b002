/-! Snapshots united file by file; contract of uniteSnapshots. (Printed by c_snap.py.) -/
def ch_U (h : xm_H) (u : Nat → Int64) : Prop := ch_U0 h ∧ h[16]? = some (.inl (.long, 4, .inr (.inl u))) ∧ (∃ f : Nat → Int32, h[17]? = some (.inl (.int, 9, .inl f))) ∧ (∃ f : Nat → Int32, h[18]? = some (.inl (.int, 9, .inl f))) ∧ ∃ cm, ch_C h cm
abbrev sp_US : Nat → Prop := fun k => 16 ≤ k ∧ k ≤ 28
theorem ch_U_set {h : xm_H} {u v : Nat → Int64} (hU : ch_U h u) : ch_U (h.set 16 (.inl (.long, 4, .inr (.inl v)))) v := by
  obtain ⟨h0, h1, ⟨f1, h2⟩, ⟨f2, h3⟩, ⟨cm, h4⟩⟩ := hU
  exact ⟨⟨(xl_ne (by decide)).trans h0.1, (xl_ne (by decide)).trans h0.2⟩, xl_at h1, ⟨f1, (xl_ne (by decide)).trans h2⟩, ⟨f2, (xl_ne (by decide)).trans h3⟩, ⟨cm, ch_C_go h4 (fun k a b => xl_ne (by omega))⟩⟩
theorem ch_H_fr {h h' : xm_H} {H : sp_H} (hH : ch_H h H) {S : Nat → Prop} (hf : xl_fr S h h') (hS : ∀ k, 1 ≤ k → k ≤ 5 → ¬ S k) : ch_H h' H := ch_H_go hH (fun k h1 h2 => hf.2 k (hS k h1 h2))
theorem sp_tv5 {t : Option (List Nat)} (h : sp_wt t) : sp_tv t ≠ -5 := by
  cases t with
  | none => exact fun e => absurd e (by decide)
  | some t => exact sp_jv5 (h t rfl)
theorem sp_tv2 {t : List Nat} (h : sp_wl t) : sp_tv (some t) ≠ -2 := sp_lN_m2 (Nat.lt_of_lt_of_le (sp_enc_lt h.1 h.2) (by decide))
theorem sp_unite_wt {o a b : List Nat} (ho : sp_wl o) (ha : sp_wl a) (hb : sp_wl b) : sp_wt (sp_unite o a b) := by
  have key : ∀ r k i p q acc, (∀ d ∈ acc, d < 16) → ∀ t, sp_go o a b (sp_mt o a 0) (sp_mt o b 0) r k i p q acc = some t → k + r ≤ o.length → ∀ d ∈ t, d < 16 := by
    intro r
    induction r with
    | zero =>
      intro k i p q acc hacc t e hk d hd
      unfold sp_go at e
      rw [Option.map_eq_some_iff] at e
      obtain ⟨u, h1, rfl⟩ := e
      rcases List.mem_append.mp hd with h | h
      · exact hacc d h
      · exact (sp_take_wt (sp_wl_sl ha _ _) (sp_wl_sl hb _ _) u h1).2 d h
    | succ r ih =>
      intro k i p q acc hacc t e hk
      cases h1 : (sp_mt o a 0).getD k none with
      | none =>
        rw [sp_go_1 h1] at e
        exact ih _ _ _ _ _ hacc t e (by omega)
      | some x =>
        cases h2 : (sp_mt o b 0).getD k none with
        | none =>
          rw [sp_go_2 h1 h2] at e
          exact ih _ _ _ _ _ hacc t e (by omega)
        | some y =>
          rw [sp_go_3 h1 h2, Option.bind_eq_some_iff] at e
          obtain ⟨u, h3, h4⟩ := e
          refine ih _ _ _ _ _ (fun d hd => ?_) t h4 (by omega)
          rcases List.mem_append.mp hd with h | h
          · rcases List.mem_append.mp h with h | h
            · exact hacc d h
            · exact (sp_take_wt (sp_wl_sl ha _ _) (sp_wl_sl hb _ _) u h3).2 d h
          · rw [List.mem_singleton] at h
            rw [h]
            exact sp_line16 ho (by omega)
  intro l e
  unfold sp_unite at e
  rw [Option.bind_eq_some_iff] at e
  obtain ⟨u, h1, h2⟩ := e
  split at h2
  · rename_i h3
    cases h2
    exact ⟨h3, key _ _ _ _ _ _ (fun d hd => by cases hd) _ h1 (by omega)⟩
  · cases h2
def sp_un3 (o a b : Option (List Nat)) : Option (Option (List Nat)) := match o, a, b with
  | some o, some a, some b => (sp_unite o a b).map some
  | _, _, _ => none
theorem sp_file_3 {o a b : Option (List Nat)} (h1 : ¬ a = o) (h2 : ¬ (b = o ∨ b = a)) : sp_file o a b = sp_un3 o a b := (if_neg h1).trans ((if_neg h2).trans (by cases o <;> cases a <;> cases b <;> rfl))
theorem sp_file_wt {o a b : Option (List Nat)} (ho : sp_wt o) (ha : sp_wt a) (hb : sp_wt b) {t : Option (List Nat)} (e : sp_file o a b = some t) : sp_wt t := by
  unfold sp_file at e
  split at e
  · cases e
    exact hb
  · split at e
    · cases e
      exact ha
    · split at e
      · rename_i o a b _ _
        rw [Option.map_eq_some_iff] at e
        obtain ⟨u, h1, rfl⟩ := e
        intro l h2
        cases h2
        exact sp_unite_wt (ho o rfl) (ha a rfl) (hb b rfl) _ h1
      · cases e
theorem l_U_us1 {L : Nat} {xs : Nat → Int32} {d : Nat} {Q : xm_Q} {h : xm_H} {u : Nat → Int64} {c1 c2 c3 : Option Nat} {k : Nat} (hk : k < 4) (hU : ch_U h u) {O A B t : Option (List Nat)} (ht : sp_wt t) (htk : sp_tk (sp_tv O) (sp_tv A) (sp_tv B) = sp_tv t) {t12 t12b : Value}
    (K : xm_X L xs (xm_call L xs (d + 3)) m_U_uniteSnapshots (3, [.ref 15, .ref 1, .int (sp_vi c1), .int (sp_vi c2), .int (sp_vi c3), .int (nI (k + 1)), .long (sp_tv O), .float 0, .long (sp_tv A), .float 0, .long (sp_tv B), .float 0, .long (sp_tv t), .float 0], [], (h.set 16 (.inl (.long, 4, .inr (.inl (vp_updL u (nI k).toNatClampNeg (sp_tv t)))))), 0, 0) Q) : xm_X L xs (xm_call L xs (d + 3)) m_U_uniteSnapshots (37, [.ref 15, .ref 1, .int (sp_vi c1), .int (sp_vi c2), .int (sp_vi c3), .int (nI k), .long (sp_tv O), .float 0, .long (sp_tv A), .float 0, .long (sp_tv B), .float 0, t12, t12b], [], h, 0, 0) Q := by
  refine x_lload (pc' := 39) d_U_uniteSnapshots_37 rfl rfl rfl ?_
  refine x_lload (pc' := 41) d_U_uniteSnapshots_39 rfl rfl rfl ?_
  refine x_lload (pc' := 43) d_U_uniteSnapshots_41 rfl rfl rfl ?_
  refine x_static (as := [.long (sp_tv O), .long (sp_tv A), .long (sp_tv B)]) (r := []) (v := (some (.long (sp_tv t)))) (h' := h) (st' := [.long (sp_tv t)]) (c' := 0) (s' := 0) (pc' := 46) d_U_uniteSnapshots_43 rfl c_U_33 rfl rfl (Nat.le_of_ble_eq_true rfl) (Nat.le_of_ble_eq_true rfl) (Nat.le_of_ble_eq_true rfl) (fun Q' hq => c_U_take (x_ql htk.symm hq)) rfl rfl rfl ?_
  refine x_lstore (lo' := [.ref 15, .ref 1, .int (sp_vi c1), .int (sp_vi c2), .int (sp_vi c3), .int (nI k), .long (sp_tv O), .float 0, .long (sp_tv A), .float 0, .long (sp_tv B), .float 0, .long (sp_tv t), .float 0]) (pc' := 48) d_U_uniteSnapshots_46 rfl (Nat.le_of_ble_eq_true rfl) rfl ?_
  refine x_lload (pc' := 50) d_U_uniteSnapshots_48 rfl rfl rfl ?_
  refine x_ldc2_w (x := (-5)) (pc' := 53) d_U_uniteSnapshots_50 rfl k_U_37 ?_
  refine x_lcmp (z := lg_cmp (sp_tv t) (-5)) (pc' := 54) d_U_uniteSnapshots_53 rfl rfl ?_
  refine x_ifne (t := 96) (pc' := 57) d_U_uniteSnapshots_54 rfl rfl (fun _ => ?_) (fun q => absurd q (fun z => sp_tv5 ht ((lg_cmp_eq _ _).mp z)))
  refine x_lload (pc' := 98) d_U_uniteSnapshots_96 rfl rfl rfl ?_
  refine x_ldc2_w (x := (-5)) (pc' := 101) d_U_uniteSnapshots_98 rfl k_U_37 ?_
  refine x_lcmp (z := lg_cmp (sp_tv t) (-5)) (pc' := 102) d_U_uniteSnapshots_101 rfl rfl ?_
  refine x_ifne (t := 107) (pc' := 105) d_U_uniteSnapshots_102 rfl rfl (fun _ => ?_) (fun q => absurd q (fun z => sp_tv5 ht ((lg_cmp_eq _ _).mp z)))
  refine x_aload_n (pc' := 108) d_U_uniteSnapshots_107 rfl rfl ?_
  refine x_getfield (ci := 2) (i := 0) (v := .ref 16) (pc' := 111) d_U_uniteSnapshots_108 rfl g_U_9 hU.1.1 rfl ?_
  refine x_iload (pc' := 113) d_U_uniteSnapshots_111 rfl rfl ?_
  refine x_lload (pc' := 115) d_U_uniteSnapshots_113 rfl rfl rfl ?_
  refine x_lastore (h' := (h.set 16 (.inl (.long, 4, .inr (.inl (vp_updL u (nI k).toNatClampNeg (sp_tv t))))))) (pc' := 116) d_U_uniteSnapshots_115 rfl hU.2.1 (vp_in_nI hk (by decide)) rfl ?_
  refine x_iinc (y := nI (k + 1)) (lo' := [.ref 15, .ref 1, .int (sp_vi c1), .int (sp_vi c2), .int (sp_vi c3), .int (nI (k + 1)), .long (sp_tv O), .float 0, .long (sp_tv A), .float 0, .long (sp_tv B), .float 0, .long (sp_tv t), .float 0]) (pc' := 119) d_U_uniteSnapshots_116 rfl rfl (sp_nI_inc k) rfl ?_
  refine x_goto (t := 3) d_U_uniteSnapshots_119 rfl ?_
  exact K
theorem l_U_us2a {L : Nat} {xs : Nat → Int32} {d : Nat} {Q : xm_Q} {h : xm_H} {c1 c2 c3 : Option Nat} {k : Nat} {A B : Option (List Nat)} (htk : sp_tk (sp_tv (none)) (sp_tv (A)) (sp_tv (B)) = -5) {t12 t12b : Value} (hQ : Q (some (.int 0)) h) : xm_X L xs (xm_call L xs (d + 3)) m_U_uniteSnapshots (37, [.ref 15, .ref 1, .int (sp_vi c1), .int (sp_vi c2), .int (sp_vi c3), .int (nI k), .long (sp_tv (none)), .float 0, .long (sp_tv (A)), .float 0, .long (sp_tv (B)), .float 0, t12, t12b], [], h, 0, 0) Q := by
  refine x_lload (pc' := 39) d_U_uniteSnapshots_37 rfl rfl rfl ?_
  refine x_lload (pc' := 41) d_U_uniteSnapshots_39 rfl rfl rfl ?_
  refine x_lload (pc' := 43) d_U_uniteSnapshots_41 rfl rfl rfl ?_
  refine x_static (as := [.long (sp_tv (none)), .long (sp_tv (A)), .long (sp_tv (B))]) (r := []) (v := (some (.long (-5)))) (h' := h) (st' := [.long (-5)]) (c' := 0) (s' := 0) (pc' := 46) d_U_uniteSnapshots_43 rfl c_U_33 rfl rfl (Nat.le_of_ble_eq_true rfl) (Nat.le_of_ble_eq_true rfl) (Nat.le_of_ble_eq_true rfl) (fun Q' hq => c_U_take (x_ql htk.symm hq)) rfl rfl rfl ?_
  refine x_lstore (lo' := [.ref 15, .ref 1, .int (sp_vi c1), .int (sp_vi c2), .int (sp_vi c3), .int (nI k), .long (sp_tv (none)), .float 0, .long (sp_tv (A)), .float 0, .long (sp_tv (B)), .float 0, .long (-5), .float 0]) (pc' := 48) d_U_uniteSnapshots_46 rfl (Nat.le_of_ble_eq_true rfl) rfl ?_
  refine x_lload (pc' := 50) d_U_uniteSnapshots_48 rfl rfl rfl ?_
  refine x_ldc2_w (x := (-5)) (pc' := 53) d_U_uniteSnapshots_50 rfl k_U_37 ?_
  refine x_lcmp (z := lg_cmp (-5) (-5)) (pc' := 54) d_U_uniteSnapshots_53 rfl rfl ?_
  refine x_ifne (t := 96) (pc' := 57) d_U_uniteSnapshots_54 rfl rfl (fun q => absurd ((lg_cmp_eq _ _).mpr (rfl)) q) (fun _ => ?_)
  refine x_lload (pc' := 59) d_U_uniteSnapshots_57 rfl rfl rfl ?_
  refine x_ldc2_w (x := (-2)) (pc' := 62) d_U_uniteSnapshots_59 rfl k_U_39 ?_
  refine x_lcmp (z := lg_cmp (sp_tv (none)) (-2)) (pc' := 63) d_U_uniteSnapshots_62 rfl rfl ?_
  refine x_ifeq (t := 96) (pc' := 66) d_U_uniteSnapshots_63 rfl rfl (fun _ => ?_) (fun q => absurd ((lg_cmp_eq _ _).mpr (rfl)) q)
  refine x_lload (pc' := 98) d_U_uniteSnapshots_96 rfl rfl rfl ?_
  refine x_ldc2_w (x := (-5)) (pc' := 101) d_U_uniteSnapshots_98 rfl k_U_37 ?_
  refine x_lcmp (z := lg_cmp (-5) (-5)) (pc' := 102) d_U_uniteSnapshots_101 rfl rfl ?_
  refine x_ifne (t := 107) (pc' := 105) d_U_uniteSnapshots_102 rfl rfl (fun q => absurd ((lg_cmp_eq _ _).mpr (rfl)) q) (fun _ => ?_)
  refine x_iconst (v := 0) (pc' := 106) d_U_uniteSnapshots_105 rfl (by decide) ?_
  exact x_ireturn d_U_uniteSnapshots_106 rfl rfl hQ
theorem l_U_us2b {L : Nat} {xs : Nat → Int32} {d : Nat} {Q : xm_Q} {h : xm_H} {c1 c2 c3 : Option Nat} {k : Nat} {o : List Nat} {B : Option (List Nat)} (ho : sp_wl o) (htk : sp_tk (sp_tv (some o)) (sp_tv (none)) (sp_tv (B)) = -5) {t12 t12b : Value} (hQ : Q (some (.int 0)) h) : xm_X L xs (xm_call L xs (d + 3)) m_U_uniteSnapshots (37, [.ref 15, .ref 1, .int (sp_vi c1), .int (sp_vi c2), .int (sp_vi c3), .int (nI k), .long (sp_tv (some o)), .float 0, .long (sp_tv (none)), .float 0, .long (sp_tv (B)), .float 0, t12, t12b], [], h, 0, 0) Q := by
  refine x_lload (pc' := 39) d_U_uniteSnapshots_37 rfl rfl rfl ?_
  refine x_lload (pc' := 41) d_U_uniteSnapshots_39 rfl rfl rfl ?_
  refine x_lload (pc' := 43) d_U_uniteSnapshots_41 rfl rfl rfl ?_
  refine x_static (as := [.long (sp_tv (some o)), .long (sp_tv (none)), .long (sp_tv (B))]) (r := []) (v := (some (.long (-5)))) (h' := h) (st' := [.long (-5)]) (c' := 0) (s' := 0) (pc' := 46) d_U_uniteSnapshots_43 rfl c_U_33 rfl rfl (Nat.le_of_ble_eq_true rfl) (Nat.le_of_ble_eq_true rfl) (Nat.le_of_ble_eq_true rfl) (fun Q' hq => c_U_take (x_ql htk.symm hq)) rfl rfl rfl ?_
  refine x_lstore (lo' := [.ref 15, .ref 1, .int (sp_vi c1), .int (sp_vi c2), .int (sp_vi c3), .int (nI k), .long (sp_tv (some o)), .float 0, .long (sp_tv (none)), .float 0, .long (sp_tv (B)), .float 0, .long (-5), .float 0]) (pc' := 48) d_U_uniteSnapshots_46 rfl (Nat.le_of_ble_eq_true rfl) rfl ?_
  refine x_lload (pc' := 50) d_U_uniteSnapshots_48 rfl rfl rfl ?_
  refine x_ldc2_w (x := (-5)) (pc' := 53) d_U_uniteSnapshots_50 rfl k_U_37 ?_
  refine x_lcmp (z := lg_cmp (-5) (-5)) (pc' := 54) d_U_uniteSnapshots_53 rfl rfl ?_
  refine x_ifne (t := 96) (pc' := 57) d_U_uniteSnapshots_54 rfl rfl (fun q => absurd ((lg_cmp_eq _ _).mpr (rfl)) q) (fun _ => ?_)
  refine x_lload (pc' := 59) d_U_uniteSnapshots_57 rfl rfl rfl ?_
  refine x_ldc2_w (x := (-2)) (pc' := 62) d_U_uniteSnapshots_59 rfl k_U_39 ?_
  refine x_lcmp (z := lg_cmp (sp_tv (some o)) (-2)) (pc' := 63) d_U_uniteSnapshots_62 rfl rfl ?_
  refine x_ifeq (t := 96) (pc' := 66) d_U_uniteSnapshots_63 rfl rfl (fun q => absurd q (fun z => sp_tv2 ho ((lg_cmp_eq _ _).mp z))) (fun _ => ?_)
  refine x_lload (pc' := 68) d_U_uniteSnapshots_66 rfl rfl rfl ?_
  refine x_ldc2_w (x := (-2)) (pc' := 71) d_U_uniteSnapshots_68 rfl k_U_39 ?_
  refine x_lcmp (z := lg_cmp (sp_tv (none)) (-2)) (pc' := 72) d_U_uniteSnapshots_71 rfl rfl ?_
  refine x_ifeq (t := 96) (pc' := 75) d_U_uniteSnapshots_72 rfl rfl (fun _ => ?_) (fun q => absurd ((lg_cmp_eq _ _).mpr (rfl)) q)
  refine x_lload (pc' := 98) d_U_uniteSnapshots_96 rfl rfl rfl ?_
  refine x_ldc2_w (x := (-5)) (pc' := 101) d_U_uniteSnapshots_98 rfl k_U_37 ?_
  refine x_lcmp (z := lg_cmp (-5) (-5)) (pc' := 102) d_U_uniteSnapshots_101 rfl rfl ?_
  refine x_ifne (t := 107) (pc' := 105) d_U_uniteSnapshots_102 rfl rfl (fun q => absurd ((lg_cmp_eq _ _).mpr (rfl)) q) (fun _ => ?_)
  refine x_iconst (v := 0) (pc' := 106) d_U_uniteSnapshots_105 rfl (by decide) ?_
  exact x_ireturn d_U_uniteSnapshots_106 rfl rfl hQ
theorem l_U_us2c {L : Nat} {xs : Nat → Int32} {d : Nat} {Q : xm_Q} {h : xm_H} {c1 c2 c3 : Option Nat} {k : Nat} {o a : List Nat} (ho : sp_wl o) (ha : sp_wl a) (htk : sp_tk (sp_tv (some o)) (sp_tv (some a)) (sp_tv (none)) = -5) {t12 t12b : Value} (hQ : Q (some (.int 0)) h) : xm_X L xs (xm_call L xs (d + 3)) m_U_uniteSnapshots (37, [.ref 15, .ref 1, .int (sp_vi c1), .int (sp_vi c2), .int (sp_vi c3), .int (nI k), .long (sp_tv (some o)), .float 0, .long (sp_tv (some a)), .float 0, .long (sp_tv (none)), .float 0, t12, t12b], [], h, 0, 0) Q := by
  refine x_lload (pc' := 39) d_U_uniteSnapshots_37 rfl rfl rfl ?_
  refine x_lload (pc' := 41) d_U_uniteSnapshots_39 rfl rfl rfl ?_
  refine x_lload (pc' := 43) d_U_uniteSnapshots_41 rfl rfl rfl ?_
  refine x_static (as := [.long (sp_tv (some o)), .long (sp_tv (some a)), .long (sp_tv (none))]) (r := []) (v := (some (.long (-5)))) (h' := h) (st' := [.long (-5)]) (c' := 0) (s' := 0) (pc' := 46) d_U_uniteSnapshots_43 rfl c_U_33 rfl rfl (Nat.le_of_ble_eq_true rfl) (Nat.le_of_ble_eq_true rfl) (Nat.le_of_ble_eq_true rfl) (fun Q' hq => c_U_take (x_ql htk.symm hq)) rfl rfl rfl ?_
  refine x_lstore (lo' := [.ref 15, .ref 1, .int (sp_vi c1), .int (sp_vi c2), .int (sp_vi c3), .int (nI k), .long (sp_tv (some o)), .float 0, .long (sp_tv (some a)), .float 0, .long (sp_tv (none)), .float 0, .long (-5), .float 0]) (pc' := 48) d_U_uniteSnapshots_46 rfl (Nat.le_of_ble_eq_true rfl) rfl ?_
  refine x_lload (pc' := 50) d_U_uniteSnapshots_48 rfl rfl rfl ?_
  refine x_ldc2_w (x := (-5)) (pc' := 53) d_U_uniteSnapshots_50 rfl k_U_37 ?_
  refine x_lcmp (z := lg_cmp (-5) (-5)) (pc' := 54) d_U_uniteSnapshots_53 rfl rfl ?_
  refine x_ifne (t := 96) (pc' := 57) d_U_uniteSnapshots_54 rfl rfl (fun q => absurd ((lg_cmp_eq _ _).mpr (rfl)) q) (fun _ => ?_)
  refine x_lload (pc' := 59) d_U_uniteSnapshots_57 rfl rfl rfl ?_
  refine x_ldc2_w (x := (-2)) (pc' := 62) d_U_uniteSnapshots_59 rfl k_U_39 ?_
  refine x_lcmp (z := lg_cmp (sp_tv (some o)) (-2)) (pc' := 63) d_U_uniteSnapshots_62 rfl rfl ?_
  refine x_ifeq (t := 96) (pc' := 66) d_U_uniteSnapshots_63 rfl rfl (fun q => absurd q (fun z => sp_tv2 ho ((lg_cmp_eq _ _).mp z))) (fun _ => ?_)
  refine x_lload (pc' := 68) d_U_uniteSnapshots_66 rfl rfl rfl ?_
  refine x_ldc2_w (x := (-2)) (pc' := 71) d_U_uniteSnapshots_68 rfl k_U_39 ?_
  refine x_lcmp (z := lg_cmp (sp_tv (some a)) (-2)) (pc' := 72) d_U_uniteSnapshots_71 rfl rfl ?_
  refine x_ifeq (t := 96) (pc' := 75) d_U_uniteSnapshots_72 rfl rfl (fun q => absurd q (fun z => sp_tv2 ha ((lg_cmp_eq _ _).mp z))) (fun _ => ?_)
  refine x_lload (pc' := 77) d_U_uniteSnapshots_75 rfl rfl rfl ?_
  refine x_ldc2_w (x := (-2)) (pc' := 80) d_U_uniteSnapshots_77 rfl k_U_39 ?_
  refine x_lcmp (z := lg_cmp (sp_tv (none)) (-2)) (pc' := 81) d_U_uniteSnapshots_80 rfl rfl ?_
  refine x_ifeq (t := 96) (pc' := 84) d_U_uniteSnapshots_81 rfl rfl (fun _ => ?_) (fun q => absurd ((lg_cmp_eq _ _).mpr (rfl)) q)
  refine x_lload (pc' := 98) d_U_uniteSnapshots_96 rfl rfl rfl ?_
  refine x_ldc2_w (x := (-5)) (pc' := 101) d_U_uniteSnapshots_98 rfl k_U_37 ?_
  refine x_lcmp (z := lg_cmp (-5) (-5)) (pc' := 102) d_U_uniteSnapshots_101 rfl rfl ?_
  refine x_ifne (t := 107) (pc' := 105) d_U_uniteSnapshots_102 rfl rfl (fun q => absurd ((lg_cmp_eq _ _).mpr (rfl)) q) (fun _ => ?_)
  refine x_iconst (v := 0) (pc' := 106) d_U_uniteSnapshots_105 rfl (by decide) ?_
  exact x_ireturn d_U_uniteSnapshots_106 rfl rfl hQ
theorem l_U_us3 {L : Nat} {xs : Nat → Int32} {d : Nat} {Q : xm_Q} {h : xm_H} {u : Nat → Int64} {c1 c2 c3 : Option Nat} {k : Nat} (hk : k < 4) (hU : ch_U h u) {o a b : List Nat} (ho : sp_wl o) (ha : sp_wl a) (hb : sp_wl b) (htk : sp_tk (sp_tv (some o)) (sp_tv (some a)) (sp_tv (some b)) = -5) {t12 t12b : Value}
    (hno : sp_unite o a b = none → ∀ h1, xl_fr (fun k => 17 ≤ k ∧ k ≤ 28) h h1 → ch_U h1 u → Q (some (.int 0)) h1)
    (hyes : ∀ t, sp_unite o a b = some t → ∀ h1, xl_fr (fun k => 17 ≤ k ∧ k ≤ 28) h h1 → ch_U h1 u → xm_X L xs (xm_call L xs (d + 3)) m_U_uniteSnapshots (3, [.ref 15, .ref 1, .int (sp_vi c1), .int (sp_vi c2), .int (sp_vi c3), .int (nI (k + 1)), .long (sp_tv (some o)), .float 0, .long (sp_tv (some a)), .float 0, .long (sp_tv (some b)), .float 0, .long (sp_tv (some t)), .float 0], [], (h1.set 16 (.inl (.long, 4, .inr (.inl (vp_updL u (nI k).toNatClampNeg (sp_tv (some t))))))), 0, 0) Q) : xm_X L xs (xm_call L xs (d + 3)) m_U_uniteSnapshots (37, [.ref 15, .ref 1, .int (sp_vi c1), .int (sp_vi c2), .int (sp_vi c3), .int (nI k), .long (sp_tv (some o)), .float 0, .long (sp_tv (some a)), .float 0, .long (sp_tv (some b)), .float 0, t12, t12b], [], h, 0, 0) Q := by
  obtain ⟨f1, hf1⟩ := hU.2.2.1
  obtain ⟨f2, hf2⟩ := hU.2.2.2.1
  obtain ⟨cm, hC⟩ := hU.2.2.2.2
  refine x_lload (pc' := 39) d_U_uniteSnapshots_37 rfl rfl rfl ?_
  refine x_lload (pc' := 41) d_U_uniteSnapshots_39 rfl rfl rfl ?_
  refine x_lload (pc' := 43) d_U_uniteSnapshots_41 rfl rfl rfl ?_
  refine x_static (as := [.long (sp_tv (some o)), .long (sp_tv (some a)), .long (sp_tv (some b))]) (r := []) (v := (some (.long (-5)))) (h' := h) (st' := [.long (-5)]) (c' := 0) (s' := 0) (pc' := 46) d_U_uniteSnapshots_43 rfl c_U_33 rfl rfl (Nat.le_of_ble_eq_true rfl) (Nat.le_of_ble_eq_true rfl) (Nat.le_of_ble_eq_true rfl) (fun Q' hq => c_U_take (x_ql htk.symm hq)) rfl rfl rfl ?_
  refine x_lstore (lo' := [.ref 15, .ref 1, .int (sp_vi c1), .int (sp_vi c2), .int (sp_vi c3), .int (nI k), .long (sp_tv (some o)), .float 0, .long (sp_tv (some a)), .float 0, .long (sp_tv (some b)), .float 0, .long (-5), .float 0]) (pc' := 48) d_U_uniteSnapshots_46 rfl (Nat.le_of_ble_eq_true rfl) rfl ?_
  refine x_lload (pc' := 50) d_U_uniteSnapshots_48 rfl rfl rfl ?_
  refine x_ldc2_w (x := (-5)) (pc' := 53) d_U_uniteSnapshots_50 rfl k_U_37 ?_
  refine x_lcmp (z := lg_cmp (-5) (-5)) (pc' := 54) d_U_uniteSnapshots_53 rfl rfl ?_
  refine x_ifne (t := 96) (pc' := 57) d_U_uniteSnapshots_54 rfl rfl (fun q => absurd ((lg_cmp_eq _ _).mpr (rfl)) q) (fun _ => ?_)
  refine x_lload (pc' := 59) d_U_uniteSnapshots_57 rfl rfl rfl ?_
  refine x_ldc2_w (x := (-2)) (pc' := 62) d_U_uniteSnapshots_59 rfl k_U_39 ?_
  refine x_lcmp (z := lg_cmp (sp_tv (some o)) (-2)) (pc' := 63) d_U_uniteSnapshots_62 rfl rfl ?_
  refine x_ifeq (t := 96) (pc' := 66) d_U_uniteSnapshots_63 rfl rfl (fun q => absurd q (fun z => sp_tv2 ho ((lg_cmp_eq _ _).mp z))) (fun _ => ?_)
  refine x_lload (pc' := 68) d_U_uniteSnapshots_66 rfl rfl rfl ?_
  refine x_ldc2_w (x := (-2)) (pc' := 71) d_U_uniteSnapshots_68 rfl k_U_39 ?_
  refine x_lcmp (z := lg_cmp (sp_tv (some a)) (-2)) (pc' := 72) d_U_uniteSnapshots_71 rfl rfl ?_
  refine x_ifeq (t := 96) (pc' := 75) d_U_uniteSnapshots_72 rfl rfl (fun q => absurd q (fun z => sp_tv2 ha ((lg_cmp_eq _ _).mp z))) (fun _ => ?_)
  refine x_lload (pc' := 77) d_U_uniteSnapshots_75 rfl rfl rfl ?_
  refine x_ldc2_w (x := (-2)) (pc' := 80) d_U_uniteSnapshots_77 rfl k_U_39 ?_
  refine x_lcmp (z := lg_cmp (sp_tv (some b)) (-2)) (pc' := 81) d_U_uniteSnapshots_80 rfl rfl ?_
  refine x_ifeq (t := 96) (pc' := 84) d_U_uniteSnapshots_81 rfl rfl (fun q => absurd q (fun z => sp_tv2 hb ((lg_cmp_eq _ _).mp z))) (fun _ => ?_)
  refine x_aload_n (pc' := 85) d_U_uniteSnapshots_84 rfl rfl ?_
  refine x_lload (pc' := 87) d_U_uniteSnapshots_85 rfl rfl rfl ?_
  refine x_lload (pc' := 89) d_U_uniteSnapshots_87 rfl rfl rfl ?_
  refine x_lload (pc' := 91) d_U_uniteSnapshots_89 rfl rfl rfl ?_
  refine x_virtualR (a := 15) (as := [.long (sp_tv (some o)), .long (sp_tv (some a)), .long (sp_tv (some b))]) (r := []) (Post := fun v h9 => v = some (.long (sp_jv (sp_unite o a b))) ∧ xl_fr (fun k => 17 ≤ k ∧ k ≤ 28) h h9 ∧ ch_U h9 u) (c' := 0) (s' := 0) (pc' := 94) d_U_uniteSnapshots_91 rfl c_U_41 hU.1.1 rfl rfl (Nat.le_of_ble_eq_true rfl) (Nat.le_of_ble_eq_true rfl) (Nat.le_of_ble_eq_true rfl) (fun Q' hq => c_U_uniteTexts ho ha hb hU.1 hf1 hf2 hC (fun h' z1 z2 z3 z4 z5 => hq _ h' ⟨rfl, z1, z2, (z1.2 16 (fun z => absurd z.1 (by decide))).trans hU.2.1, z3, z4, z5⟩)) rfl rfl (fun v9 h1 hp => ?_)
  obtain ⟨rfl, f1, U1⟩ := hp
  show xm_X L xs (xm_call L xs (d + 3)) m_U_uniteSnapshots (94, [.ref 15, .ref 1, .int (sp_vi c1), .int (sp_vi c2), .int (sp_vi c3), .int (nI k), .long (sp_tv (some o)), .float 0, .long (sp_tv (some a)), .float 0, .long (sp_tv (some b)), .float 0, .long (-5), .float 0], [.long (sp_jv (sp_unite o a b))], h1, 0, 0) Q
  cases hj : sp_unite o a b with
  | none =>
    refine x_lstore (lo' := [.ref 15, .ref 1, .int (sp_vi c1), .int (sp_vi c2), .int (sp_vi c3), .int (nI k), .long (sp_tv (some o)), .float 0, .long (sp_tv (some a)), .float 0, .long (sp_tv (some b)), .float 0, .long (-5), .float 0]) (pc' := 96) d_U_uniteSnapshots_94 rfl (Nat.le_of_ble_eq_true rfl) rfl ?_
    refine x_lload (pc' := 98) d_U_uniteSnapshots_96 rfl rfl rfl ?_
    refine x_ldc2_w (x := (-5)) (pc' := 101) d_U_uniteSnapshots_98 rfl k_U_37 ?_
    refine x_lcmp (z := lg_cmp (-5) (-5)) (pc' := 102) d_U_uniteSnapshots_101 rfl rfl ?_
    refine x_ifne (t := 107) (pc' := 105) d_U_uniteSnapshots_102 rfl rfl (fun q => absurd ((lg_cmp_eq _ _).mpr (rfl)) q) (fun _ => ?_)
    refine x_iconst (v := 0) (pc' := 106) d_U_uniteSnapshots_105 rfl (by decide) ?_
    exact x_ireturn d_U_uniteSnapshots_106 rfl rfl (hno hj h1 f1 U1)
  | some t =>
    refine x_lstore (lo' := [.ref 15, .ref 1, .int (sp_vi c1), .int (sp_vi c2), .int (sp_vi c3), .int (nI k), .long (sp_tv (some o)), .float 0, .long (sp_tv (some a)), .float 0, .long (sp_tv (some b)), .float 0, .long (sp_tv (some t)), .float 0]) (pc' := 96) d_U_uniteSnapshots_94 rfl (Nat.le_of_ble_eq_true rfl) rfl ?_
    refine x_lload (pc' := 98) d_U_uniteSnapshots_96 rfl rfl rfl ?_
    refine x_ldc2_w (x := (-5)) (pc' := 101) d_U_uniteSnapshots_98 rfl k_U_37 ?_
    refine x_lcmp (z := lg_cmp (sp_tv (some t)) (-5)) (pc' := 102) d_U_uniteSnapshots_101 rfl rfl ?_
    refine x_ifne (t := 107) (pc' := 105) d_U_uniteSnapshots_102 rfl rfl (fun _ => ?_) (fun q => absurd q (fun z => sp_jv5 (sp_unite_wt ho ha hb t hj) ((lg_cmp_eq _ _).mp z)))
    refine x_aload_n (pc' := 108) d_U_uniteSnapshots_107 rfl rfl ?_
    refine x_getfield (ci := 2) (i := 0) (v := .ref 16) (pc' := 111) d_U_uniteSnapshots_108 rfl g_U_9 U1.1.1 rfl ?_
    refine x_iload (pc' := 113) d_U_uniteSnapshots_111 rfl rfl ?_
    refine x_lload (pc' := 115) d_U_uniteSnapshots_113 rfl rfl rfl ?_
    refine x_lastore (h' := (h1.set 16 (.inl (.long, 4, .inr (.inl (vp_updL u (nI k).toNatClampNeg (sp_tv (some t)))))))) (pc' := 116) d_U_uniteSnapshots_115 rfl U1.2.1 (vp_in_nI hk (by decide)) rfl ?_
    refine x_iinc (y := nI (k + 1)) (lo' := [.ref 15, .ref 1, .int (sp_vi c1), .int (sp_vi c2), .int (sp_vi c3), .int (nI (k + 1)), .long (sp_tv (some o)), .float 0, .long (sp_tv (some a)), .float 0, .long (sp_tv (some b)), .float 0, .long (sp_tv (some t)), .float 0]) (pc' := 119) d_U_uniteSnapshots_116 rfl rfl (sp_nI_inc k) rfl ?_
    refine x_goto (t := 3) d_U_uniteSnapshots_119 rfl ?_
    exact hyes t hj h1 f1 U1
theorem l_U_us4 {L : Nat} {xs : Nat → Int32} {d : Nat} {Q : xm_Q} {h : xm_H} {H : sp_H} {u : Nat → Int64} {c1 c2 c3 : Option Nat} (hH : ch_H h H) (hW : sp_WH H) (k1 : sp_ok (sp_n H) c1) (k2 : sp_ok (sp_n H) c2) (k3 : sp_ok (sp_n H) c3) {k : Nat} (hk : k < 4) (hU : ch_U h u) {u6 u7 u8 u9 u10 u11 u12 u13 : Value}
    (hno : sp_file (sp_of H c1 k) (sp_of H c2 k) (sp_of H c3 k) = none → ∀ h1, xl_fr sp_US h h1 → ch_U h1 u → Q (some (.int 0)) h1)
    (hyes : ∀ t, sp_file (sp_of H c1 k) (sp_of H c2 k) (sp_of H c3 k) = some t → ∀ h1, xl_fr sp_US h h1 → ch_U h1 (vp_updL u (nI k).toNatClampNeg (sp_tv t)) → ∀ u6 u7 u8 u9 u10 u11 u12 u13 : Value, xm_X L xs (xm_call L xs (d + 3)) m_U_uniteSnapshots (3, [.ref 15, .ref 1, .int (sp_vi c1), .int (sp_vi c2), .int (sp_vi c3), .int (nI (k + 1)), u6, u7, u8, u9, u10, u11, u12, u13], [], h1, 0, 0) Q) : xm_X L xs (xm_call L xs (d + 3)) m_U_uniteSnapshots (3, [.ref 15, .ref 1, .int (sp_vi c1), .int (sp_vi c2), .int (sp_vi c3), .int (nI k), u6, u7, u8, u9, u10, u11, u12, u13], [], h, 0, 0) Q := by
  refine x_iload (pc' := 5) d_U_uniteSnapshots_3 rfl rfl ?_
  refine x_iconst (v := nI 4) (pc' := 6) d_U_uniteSnapshots_5 rfl (by decide) ?_
  refine x_icmpge (t := 122) (pc' := 9) d_U_uniteSnapshots_6 rfl rfl (fun q => absurd q (nI_ge hk (by decide))) (fun _ => ?_)
  refine x_aload_n (pc' := 10) d_U_uniteSnapshots_9 rfl rfl ?_
  refine x_iload_n (pc' := 11) d_U_uniteSnapshots_10 rfl rfl ?_
  refine x_iload (pc' := 13) d_U_uniteSnapshots_11 rfl rfl ?_
  refine x_virtual (a := 1) (as := [.int (sp_vi c1), .int (nI k)]) (r := []) (v := (some (.long (sp_tv (sp_of H c1 k))))) (h' := h) (st' := [.long (sp_tv (sp_of H c1 k))]) (c' := 0) (s' := 0) (pc' := 16) d_U_uniteSnapshots_13 rfl c_U_27 hH.1.2 rfl rfl (Nat.le_of_ble_eq_true rfl) (Nat.le_of_ble_eq_true rfl) (Nat.le_of_ble_eq_true rfl) (fun Q' hq => c_H_textOf hH k1 hk hq) rfl rfl rfl ?_
  refine x_lstore (lo' := [.ref 15, .ref 1, .int (sp_vi c1), .int (sp_vi c2), .int (sp_vi c3), .int (nI k), .long (sp_tv (sp_of H c1 k)), .float 0, u8, u9, u10, u11, u12, u13]) (pc' := 18) d_U_uniteSnapshots_16 rfl (Nat.le_of_ble_eq_true rfl) rfl ?_
  refine x_aload_n (pc' := 19) d_U_uniteSnapshots_18 rfl rfl ?_
  refine x_iload_n (pc' := 20) d_U_uniteSnapshots_19 rfl rfl ?_
  refine x_iload (pc' := 22) d_U_uniteSnapshots_20 rfl rfl ?_
  refine x_virtual (a := 1) (as := [.int (sp_vi c2), .int (nI k)]) (r := []) (v := (some (.long (sp_tv (sp_of H c2 k))))) (h' := h) (st' := [.long (sp_tv (sp_of H c2 k))]) (c' := 0) (s' := 0) (pc' := 25) d_U_uniteSnapshots_22 rfl c_U_27 hH.1.2 rfl rfl (Nat.le_of_ble_eq_true rfl) (Nat.le_of_ble_eq_true rfl) (Nat.le_of_ble_eq_true rfl) (fun Q' hq => c_H_textOf hH k2 hk hq) rfl rfl rfl ?_
  refine x_lstore (lo' := [.ref 15, .ref 1, .int (sp_vi c1), .int (sp_vi c2), .int (sp_vi c3), .int (nI k), .long (sp_tv (sp_of H c1 k)), .float 0, .long (sp_tv (sp_of H c2 k)), .float 0, u10, u11, u12, u13]) (pc' := 27) d_U_uniteSnapshots_25 rfl (Nat.le_of_ble_eq_true rfl) rfl ?_
  refine x_aload_n (pc' := 28) d_U_uniteSnapshots_27 rfl rfl ?_
  refine x_iload (pc' := 30) d_U_uniteSnapshots_28 rfl rfl ?_
  refine x_iload (pc' := 32) d_U_uniteSnapshots_30 rfl rfl ?_
  refine x_virtual (a := 1) (as := [.int (sp_vi c3), .int (nI k)]) (r := []) (v := (some (.long (sp_tv (sp_of H c3 k))))) (h' := h) (st' := [.long (sp_tv (sp_of H c3 k))]) (c' := 0) (s' := 0) (pc' := 35) d_U_uniteSnapshots_32 rfl c_U_27 hH.1.2 rfl rfl (Nat.le_of_ble_eq_true rfl) (Nat.le_of_ble_eq_true rfl) (Nat.le_of_ble_eq_true rfl) (fun Q' hq => c_H_textOf hH k3 hk hq) rfl rfl rfl ?_
  refine x_lstore (lo' := [.ref 15, .ref 1, .int (sp_vi c1), .int (sp_vi c2), .int (sp_vi c3), .int (nI k), .long (sp_tv (sp_of H c1 k)), .float 0, .long (sp_tv (sp_of H c2 k)), .float 0, .long (sp_tv (sp_of H c3 k)), .float 0, u12, u13]) (pc' := 37) d_U_uniteSnapshots_35 rfl (Nat.le_of_ble_eq_true rfl) rfl ?_
  have wo := sp_WH_of hW k1 k hk
  have wa := sp_WH_of hW k2 k hk
  have wb := sp_WH_of hW k3 k hk
  revert hno hyes wo wa wb
  generalize sp_of H c1 k = O
  generalize sp_of H c2 k = A
  generalize sp_of H c3 k = B
  intro hno hyes wo wa wb
  have hset : ∀ v : Nat → Int64, xl_fr sp_US h (h.set 16 (.inl (.long, 4, .inr (.inl v)))) := fun v => xl_set ⟨by decide, by decide⟩
  by_cases h1 : A = O
  · exact l_U_us1 hk hU wb (by unfold sp_tk; rw [if_pos (by rw [h1])]) (hyes B (by unfold sp_file; rw [if_pos h1]) _ (hset _) (ch_U_set hU) _ _ _ _ _ _ _ _)
  · have e1 : ¬ sp_tv A = sp_tv O := fun e => h1 ((sp_tv_inj wa wo).mp e)
    by_cases h2 : B = O ∨ B = A
    · exact l_U_us1 hk hU wa (by unfold sp_tk; rw [if_neg e1, if_pos (h2.elim (fun e => Or.inl (by rw [e])) (fun e => Or.inr (by rw [e])))]) (hyes A (by unfold sp_file; rw [if_neg h1, if_pos h2]) _ (hset _) (ch_U_set hU) _ _ _ _ _ _ _ _)
    · have htk : sp_tk (sp_tv O) (sp_tv A) (sp_tv B) = -5 := by
        unfold sp_tk
        rw [if_neg e1, if_neg (fun e => h2 (e.elim (fun e => Or.inl ((sp_tv_inj wb wo).mp e)) (fun e => Or.inr ((sp_tv_inj wb wa).mp e))))]
      have hfl := sp_file_3 h1 h2
      cases O with
      | none => exact l_U_us2a htk (hno (by rw [hfl]; rfl) h xl_rf hU)
      | some o =>
        have ho := wo o rfl
        cases A with
        | none => exact l_U_us2b ho htk (hno (by rw [hfl]; rfl) h xl_rf hU)
        | some a =>
          have ha := wa a rfl
          cases B with
          | none => exact l_U_us2c ho ha htk (hno (by rw [hfl]; rfl) h xl_rf hU)
          | some b =>
            have hb := wb b rfl
            have hm : ∀ h1, xl_fr (fun k => 17 ≤ k ∧ k ≤ 28) h h1 → xl_fr sp_US h h1 := fun h1 f => xl_mono f (fun k z => ⟨by omega, z.2⟩)
            refine l_U_us3 hk hU ho ha hb htk (fun hj h1 f U => hno (by rw [hfl]; show (sp_unite o a b).map some = _; rw [hj]; rfl) h1 (hm h1 f) U) (fun t hj h1 f U => hyes (some t) (by rw [hfl]; show (sp_unite o a b).map some = _; rw [hj]; rfl) _ (xl_tr (hm h1 f) (xl_set ⟨by decide, by decide⟩)) (ch_U_set U) _ _ _ _ _ _ _ _)
theorem c_U_uniteSnapshots {L : Nat} {xs : Nat → Int32} {d : Nat} {Q : xm_Q} {h : xm_H} {H : sp_H} {u : Nat → Int64} {c1 c2 c3 : Option Nat} (hH : ch_H h H) (hW : sp_WH H) (k1 : sp_ok (sp_n H) c1) (k2 : sp_ok (sp_n H) c2) (k3 : sp_ok (sp_n H) c3) (hU : ch_U h u)
    (hQ0 : sp_snap (sp_of H c1) (sp_of H c2) (sp_of H c3) = none → ∀ h' u', xl_fr sp_US h h' → ch_U h' u' → Q (some (.int 0)) h')
    (hQ1 : ∀ t, sp_snap (sp_of H c1) (sp_of H c2) (sp_of H c3) = some t → ∀ h' u', xl_fr sp_US h h' → ch_U h' u' → (∀ j, j < 4 → u' j = sp_tv (t j)) → (∀ j, j < 4 → sp_wt (t j)) → Q (some (.int 1)) h') : xm_call L xs (d + 4) m_U_uniteSnapshots [.ref 15, .ref 1, .int (sp_vi c1), .int (sp_vi c2), .int (sp_vi c3)] h Q := by
  have hno : ∀ k, k < 4 → sp_file (sp_of H c1 k) (sp_of H c2 k) (sp_of H c3 k) = none → ∀ h' u', xl_fr sp_US h h' → ch_U h' u' → Q (some (.int 0)) h' := by
    intro k hk hn h' u' f U
    refine hQ0 ?_ h' u' f U
    unfold sp_snap
    match k, hk with
    | 0, _ => rw [hn]
    | 1, _ => rw [hn]; split <;> first | rfl | (rename_i z _ _; cases z) | (rename_i z _; cases z) | (rename_i z; cases z)
    | 2, _ => rw [hn]; split <;> first | rfl | (rename_i z _; cases z) | (rename_i z _ _; cases z) | (rename_i z; cases z)
    | 3, _ => rw [hn]; split <;> first | rfl | (rename_i z; cases z) | (rename_i z _; cases z) | (rename_i z _ _; cases z)
  have hyes : ∀ t0 t1 t2 t3, sp_file (sp_of H c1 0) (sp_of H c2 0) (sp_of H c3 0) = some t0 → sp_file (sp_of H c1 1) (sp_of H c2 1) (sp_of H c3 1) = some t1 → sp_file (sp_of H c1 2) (sp_of H c2 2) (sp_of H c3 2) = some t2 → sp_file (sp_of H c1 3) (sp_of H c2 3) (sp_of H c3 3) = some t3 → ∀ h', xl_fr sp_US h h' → ch_U h' (vp_updL (vp_updL (vp_updL (vp_updL u (nI 0).toNatClampNeg (sp_tv t0)) (nI 1).toNatClampNeg (sp_tv t1)) (nI 2).toNatClampNeg (sp_tv t2)) (nI 3).toNatClampNeg (sp_tv t3)) → Q (some (.int 1)) h' := by
    intro t0 t1 t2 t3 e0 e1 e2 e3 h' f U
    refine hQ1 (fun f => if f = 0 then t0 else if f = 1 then t1 else if f = 2 then t2 else t3) (by unfold sp_snap; rw [e0, e1, e2, e3]) h' _ f U (sp_u4 (fun j => sp_tv ((fun f => if f = 0 then t0 else if f = 1 then t1 else if f = 2 then t2 else t3) j)) u) (fun j hj => ?_)
    have z := fun k (hk : k < 4) t e => sp_file_wt (sp_WH_of hW k1 k hk) (sp_WH_of hW k2 k hk) (sp_WH_of hW k3 k hk) (t := t) e
    match j, hj with
    | 0, _ => exact z 0 (by decide) t0 e0
    | 1, _ => exact z 1 (by decide) t1 e1
    | 2, _ => exact z 2 (by decide) t2 e2
    | 3, _ => exact z 3 (by decide) t3 e3
  have hS : ∀ k, 1 ≤ k → k ≤ 5 → ¬ sp_US k := fun k _ h2 z => by have := z.1; omega
  refine x_call (lo := [.ref 15, .ref 1, .int (sp_vi c1), .int (sp_vi c2), .int (sp_vi c3), .float 0, .float 0, .float 0, .float 0, .float 0, .float 0, .float 0, .float 0, .float 0]) (Nat.le_of_ble_eq_true rfl) rfl ?_
  refine x_iconst (v := nI 0) (pc' := 1) d_U_uniteSnapshots_0 rfl (by decide) ?_
  refine x_istore (lo' := [.ref 15, .ref 1, .int (sp_vi c1), .int (sp_vi c2), .int (sp_vi c3), .int (nI 0), .float 0, .float 0, .float 0, .float 0, .float 0, .float 0, .float 0, .float 0]) (pc' := 3) d_U_uniteSnapshots_1 rfl (Nat.le_of_ble_eq_true rfl) rfl ?_
  refine l_U_us4 hH hW k1 k2 k3 (k := 0) (by decide) hU (fun e h1 f U => hno 0 (by decide) e h1 u f U) (fun t0 e0 h1 f1 U1 _ _ _ _ _ _ _ _ => ?_)
  refine l_U_us4 (ch_H_fr hH f1 hS) hW k1 k2 k3 (k := 1) (by decide) U1 (fun e h2 f U => hno 1 (by decide) e h2 _ (xl_tr f1 f) U) (fun t1 e1 h2 f2 U2 _ _ _ _ _ _ _ _ => ?_)
  refine l_U_us4 (ch_H_fr hH (xl_tr f1 f2) hS) hW k1 k2 k3 (k := 2) (by decide) U2 (fun e h3 f U => hno 2 (by decide) e h3 _ (xl_tr f1 (xl_tr f2 f)) U) (fun t2 e2 h3 f3 U3 _ _ _ _ _ _ _ _ => ?_)
  refine l_U_us4 (ch_H_fr hH (xl_tr f1 (xl_tr f2 f3)) hS) hW k1 k2 k3 (k := 3) (by decide) U3 (fun e h4 f U => hno 3 (by decide) e h4 _ (xl_tr f1 (xl_tr f2 (xl_tr f3 f))) U) (fun t3 e3 h4 f4 U4 u6 u7 u8 u9 u10 u11 u12 u13 => ?_)
  refine x_iload (pc' := 5) d_U_uniteSnapshots_3 rfl rfl ?_
  refine x_iconst (v := nI 4) (pc' := 6) d_U_uniteSnapshots_5 rfl (by decide) ?_
  refine x_icmpge (t := 122) (pc' := 9) d_U_uniteSnapshots_6 rfl rfl (fun _ => ?_) (fun q => absurd (nI_le (Nat.le_refl _) (by decide)) q)
  refine x_iconst (v := 1) (pc' := 123) d_U_uniteSnapshots_122 rfl (by decide) ?_
  exact x_ireturn d_U_uniteSnapshots_123 rfl rfl (hyes t0 t1 t2 t3 e0 e1 e2 e3 h4 (xl_tr f1 (xl_tr f2 (xl_tr f3 f4))) U4)
