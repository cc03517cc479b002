/-! Which line is matched with which; contract of matchLines. (Printed by c_match.py.) -/
def sp_mv1 (x : Option Nat) : Int32 := match x with
  | none => -1
  | some j => nI j
theorem sp_mt_nil : ∀ (xs : List Nat) (j k : Nat), (sp_mt xs [] j).getD k none = none
  | [], _, _ => by simp [sp_mt]
  | x :: xs, j, 0 => rfl
  | x :: xs, j, k + 1 => by
    show (none :: sp_mt xs [] j).getD (k + 1) none = none
    rw [List.getD_cons_succ]
    exact sp_mt_nil xs j k
theorem sp_mt_eq {o a : List Nat} {i j : Nat} (hi : i < o.length) (hj : j < a.length) (h : o.getD i 0 = a.getD j 0) : sp_mt (o.drop i) (a.drop j) j = some j :: sp_mt (o.drop (i + 1)) (a.drop (j + 1)) (j + 1) := by
  rw [sp_getD hi, sp_getD hj]
  exact if_pos h
theorem sp_mt_up {o a : List Nat} {i j : Nat} (hi : i < o.length) (hj : j < a.length) (h : ¬ o.getD i 0 = a.getD j 0) (h2 : sp_lcs (o.drop (i + 1)) (a.drop j) ≥ sp_lcs (o.drop i) (a.drop (j + 1))) : sp_mt (o.drop i) (a.drop j) j = none :: sp_mt (o.drop (i + 1)) (a.drop j) j := by
  rw [sp_getD hi, sp_getD hj] at h2 ⊢
  exact (if_neg h).trans (if_pos h2)
theorem sp_mt_right {o a : List Nat} {i j : Nat} (hi : i < o.length) (hj : j < a.length) (h : ¬ o.getD i 0 = a.getD j 0) (h2 : ¬ sp_lcs (o.drop (i + 1)) (a.drop j) ≥ sp_lcs (o.drop i) (a.drop (j + 1))) : sp_mt (o.drop i) (a.drop j) j = sp_mt (o.drop i) (a.drop (j + 1)) (j + 1) := by
  rw [sp_getD hj] at h2 ⊢
  rw [sp_getD hi] at h2 ⊢
  exact (if_neg h).trans (if_neg h2)
theorem sp_drop_cons {α : Type} {M : List α} {i : Nat} {x y : α} {r : List α} (h : M.drop i = x :: r) : M.getD i y = x ∧ M.drop (i + 1) = r := by
  have hl : i < M.length := by
    rcases Nat.lt_or_ge i M.length with h1 | h1
    · exact h1
    · rw [List.drop_eq_nil_of_le h1] at h
      cases h
  rw [List.drop_eq_getElem_cons hl] at h
  obtain ⟨h1, h2⟩ := List.cons.inj h
  exact ⟨by rw [List.getD_eq_getElem?_getD, List.getElem?_eq_getElem hl, h1]; rfl, h2⟩
theorem sp_getD_drop {α : Type} (M : List α) (i k : Nat) (y : α) : M.getD (i + k) y = (M.drop i).getD k y := by
  rw [List.getD_eq_getElem?_getD, List.getD_eq_getElem?_getD, List.getElem?_drop]
theorem xl_self {h : xm_H} {q : Nat} {c : xm_C} (hq : h[q]? = some c) : h.set q c = h := by
  apply List.ext_getElem?
  intro k
  by_cases hk : q = k
  · subst hk
    rw [xl_at hq, hq]
  · rw [xl_ne hk]
theorem ch_C_go {h h' : xm_H} {cm : Nat → Nat → Int32} (a : ch_C h cm) (f : ∀ k, 20 ≤ k → k ≤ 28 → h'[k]? = h[k]?) : ch_C h' cm := fun i hi => (f (20 + i) (by omega) (by omega)).trans (a i hi)
theorem l_U_ml1 {L : Nat} {xs : Nat → Int32} {d : Nat} {Q : xm_Q} {o a : List Nat} (l8 : o.length ≤ 8) {p : Nat} {h : xm_H} {c0 : xm_C} (hp : h[p]? = some c0)
    (K : ∀ f : Nat → Int32, (∀ k, k < o.length → f k = -1) → xm_X L xs (xm_call L xs (d + 1)) m_U_matchLines (34, [.ref 15, .long (lN (sp_enc o)), .float 0, .long (lN (sp_enc a)), .float 0, .ref p, .int (nI o.length), .int (nI a.length), .int (nI o.length), .float 0], [], (h.set p (.inl (.int, 9, .inl f))), 0, 0) Q) :
    ∀ (r k : Nat), k + r = o.length → ∀ f : Nat → Int32, (∀ j, j < k → f j = -1) → xm_X L xs (xm_call L xs (d + 1)) m_U_matchLines (15, [.ref 15, .long (lN (sp_enc o)), .float 0, .long (lN (sp_enc a)), .float 0, .ref p, .int (nI o.length), .int (nI a.length), .int (nI k), .float 0], [], (h.set p (.inl (.int, 9, .inl f))), 0, 0) Q := by
  intro r
  induction r with
  | zero =>
    intro k hk f hf
    have hk : k = o.length := hk
    subst hk
    refine x_iload (pc' := 17) d_U_matchLines_15 rfl rfl ?_
    refine x_iload (pc' := 19) d_U_matchLines_17 rfl rfl ?_
    refine x_icmpge (t := 34) (pc' := 22) d_U_matchLines_19 rfl rfl (fun _ => ?_) (fun q => absurd (nI_le (Nat.le_refl _) (by omega)) q)
    exact K f hf
  | succ r ih =>
    intro k hk f hf
    have hkn : k < o.length := by omega
    refine x_iload (pc' := 17) d_U_matchLines_15 rfl rfl ?_
    refine x_iload (pc' := 19) d_U_matchLines_17 rfl rfl ?_
    refine x_icmpge (t := 34) (pc' := 22) d_U_matchLines_19 rfl rfl (fun q => absurd q (nI_ge hkn (by omega))) (fun _ => ?_)
    refine x_aload (pc' := 24) d_U_matchLines_22 rfl rfl ?_
    refine x_iload (pc' := 26) d_U_matchLines_24 rfl rfl ?_
    refine x_iconst (v := (-1)) (pc' := 27) d_U_matchLines_26 rfl (by decide) ?_
    refine x_iastore (h' := (h.set p (.inl (.int, 9, .inl (upd f (nI k).toNatClampNeg (-1)))))) (pc' := 28) d_U_matchLines_27 rfl (xl_at hp) (vp_in_nI (by omega) (by decide)) (List.set_set ..) ?_
    refine x_iinc (y := nI (k + 1)) (lo' := [.ref 15, .long (lN (sp_enc o)), .float 0, .long (lN (sp_enc a)), .float 0, .ref p, .int (nI o.length), .int (nI a.length), .int (nI (k + 1)), .float 0]) (pc' := 31) d_U_matchLines_28 rfl rfl (sp_nI_inc k) rfl ?_
    refine x_goto (t := 15) d_U_matchLines_31 rfl ?_
    refine ih (k + 1) (by omega) _ (fun j hj => ?_)
    rw [nI_clamp (n := k) (by omega)]
    unfold upd
    by_cases hjk : j = k
    · rw [if_pos hjk]
    · rw [if_neg hjk]
      exact hf j (by omega)
set_option maxHeartbeats 4000000 in
theorem l_U_ml2 {L : Nat} {xs : Nat → Int32} {d : Nat} {Q : xm_Q} {o a : List Nat} (ho : sp_wl o) (ha : sp_wl a) {p : Nat} (hp7 : 17 ≤ p ∧ p ≤ 18) {h : xm_H} {c0 : xm_C} (hp : h[p]? = some c0) {cm : Nat → Nat → Int32} (hU : ch_U0 h) (hC : ch_C h cm) (hT : ∀ x y, x ≤ o.length → y ≤ a.length → cm x y = nI (sp_lcs (o.drop x) (a.drop y)))
    (hQ : ∀ f : Nat → Int32, f o.length = nI a.length → (∀ k, k < o.length → f k = sp_mv1 ((sp_mt o a 0).getD k none)) → Q none (h.set p (.inl (.int, 9, .inl f)))) :
    ∀ (r i j : Nat), (o.length - i) + (a.length - j) = r → i ≤ o.length → j ≤ a.length → ∀ f : Nat → Int32, (sp_mt o a 0).drop i = sp_mt (o.drop i) (a.drop j) j → (∀ k, k < i → f k = sp_mv1 ((sp_mt o a 0).getD k none)) → (∀ k, i ≤ k → k < o.length → f k = -1) → f o.length = nI a.length →
      xm_X L xs (xm_call L xs (d + 1)) m_U_matchLines (47, [.ref 15, .long (lN (sp_enc o)), .float 0, .long (lN (sp_enc a)), .float 0, .ref p, .int (nI o.length), .int (nI a.length), .int (nI i), .int (nI j)], [], (h.set p (.inl (.int, 9, .inl f))), 0, 0) Q := by
  have l8 := ho.1
  have m8 := ha.1
  intro r
  induction r using Nat.strongRecOn with
  | _ r ihr =>
  intro i j hr hi hj f hM hf1 hf0 hf2
  have hU1 : ch_U0 (h.set p (.inl (.int, 9, .inl f))) := ⟨(xl_ne (by omega)).trans hU.1, (xl_ne (by omega)).trans hU.2⟩
  have hC1 : ch_C (h.set p (.inl (.int, 9, .inl f))) cm := ch_C_go hC (fun k h1 h2 => xl_ne (by omega))
  have ih : ∀ i' j', (o.length - i') + (a.length - j') < r → i' ≤ o.length → j' ≤ a.length → ∀ f : Nat → Int32, (sp_mt o a 0).drop i' = sp_mt (o.drop i') (a.drop j') j' → (∀ k, k < i' → f k = sp_mv1 ((sp_mt o a 0).getD k none)) → (∀ k, i' ≤ k → k < o.length → f k = -1) → f o.length = nI a.length → xm_X L xs (xm_call L xs (d + 1)) m_U_matchLines (47, [.ref 15, .long (lN (sp_enc o)), .float 0, .long (lN (sp_enc a)), .float 0, .ref p, .int (nI o.length), .int (nI a.length), .int (nI i'), .int (nI j')], [], (h.set p (.inl (.int, 9, .inl f))), 0, 0) Q := fun i' j' h1 h2 h3 => ihr _ h1 i' j' rfl h2 h3
  by_cases hin : i < o.length
  · by_cases hjm : j < a.length
    · skip
      refine x_iload (pc' := 49) d_U_matchLines_47 rfl rfl ?_
      refine x_iload (pc' := 51) d_U_matchLines_49 rfl rfl ?_
      refine x_icmpge (t := 132) (pc' := 54) d_U_matchLines_51 rfl rfl (fun q => absurd q (nI_ge hin (by omega))) (fun _ => ?_)
      refine x_iload (pc' := 56) d_U_matchLines_54 rfl rfl ?_
      refine x_iload (pc' := 58) d_U_matchLines_56 rfl rfl ?_
      refine x_icmpge (t := 132) (pc' := 61) d_U_matchLines_58 rfl rfl (fun q => absurd q (nI_ge hjm (by omega))) (fun _ => ?_)
      refine x_lload_n (pc' := 62) d_U_matchLines_61 rfl rfl rfl ?_
      refine x_iload (pc' := 64) d_U_matchLines_62 rfl rfl ?_
      refine x_static (as := [.long (lN (sp_enc o)), .int (nI i)]) (r := []) (v := (some (.long (lN (o.getD i 0))))) (h' := (h.set p (.inl (.int, 9, .inl f)))) (st' := [.long (lN (o.getD i 0))]) (c' := 0) (s' := 0) (pc' := 67) d_U_matchLines_64 rfl c_U_66 rfl rfl (Nat.le_of_ble_eq_true rfl) (Nat.le_of_ble_eq_true rfl) (Nat.le_of_ble_eq_true rfl) (fun Q' hq => c_T_lineAt ho hin hq) rfl rfl rfl ?_
      refine x_lload_n (pc' := 68) d_U_matchLines_67 rfl rfl rfl ?_
      refine x_iload (pc' := 70) d_U_matchLines_68 rfl rfl ?_
      refine x_static (as := [.long (lN (sp_enc a)), .int (nI j)]) (r := [.long (lN (o.getD i 0))]) (v := (some (.long (lN (a.getD j 0))))) (h' := (h.set p (.inl (.int, 9, .inl f)))) (st' := [.long (lN (a.getD j 0)), .long (lN (o.getD i 0))]) (c' := 0) (s' := 0) (pc' := 73) d_U_matchLines_70 rfl c_U_66 rfl rfl (Nat.le_of_ble_eq_true rfl) (Nat.le_of_ble_eq_true rfl) (Nat.le_of_ble_eq_true rfl) (fun Q' hq => c_T_lineAt ha hjm hq) rfl rfl rfl ?_
      refine x_lcmp (z := lg_cmp (lN (o.getD i 0)) (lN (a.getD j 0))) (pc' := 74) d_U_matchLines_73 rfl rfl ?_
      refine x_ifne (t := 93) (pc' := 77) d_U_matchLines_74 rfl rfl (fun q3 => ?_) (fun q3 => ?_)
      · refine x_aload_n (pc' := 94) d_U_matchLines_93 rfl rfl ?_
        refine x_getfield (ci := 2) (i := 3) (v := .ref 19) (pc' := 97) d_U_matchLines_94 rfl g_U_24 hU1.1 rfl ?_
        refine x_iload (pc' := 99) d_U_matchLines_97 rfl rfl ?_
        refine x_iconst (v := nI 1) (pc' := 100) d_U_matchLines_99 rfl (by decide) ?_
        refine x_iadd (z := nI (i + 1)) (pc' := 101) d_U_matchLines_100 rfl (nI_add _ _) ?_
        refine x_aaload (q := (20 + (i + 1))) (pc' := 102) d_U_matchLines_101 rfl hU1.2 (Or.inl rfl) (vp_in_nI (by omega) (by decide)) (by rw [nI_clamp (by omega)]) ?_
        refine x_iload (pc' := 104) d_U_matchLines_102 rfl rfl ?_
        refine x_iaload (v := nI (sp_lcs (o.drop (i + 1)) (a.drop j))) (pc' := 105) d_U_matchLines_104 rfl (hC1 (i + 1) (by omega)) (vp_in_nI (by omega) (by decide)) (by rw [nI_clamp (by omega)]; exact hT (i + 1) j (by omega) (by omega)) ?_
        refine x_aload_n (pc' := 106) d_U_matchLines_105 rfl rfl ?_
        refine x_getfield (ci := 2) (i := 3) (v := .ref 19) (pc' := 109) d_U_matchLines_106 rfl g_U_24 hU1.1 rfl ?_
        refine x_iload (pc' := 111) d_U_matchLines_109 rfl rfl ?_
        refine x_aaload (q := (20 + i)) (pc' := 112) d_U_matchLines_111 rfl hU1.2 (Or.inl rfl) (vp_in_nI (by omega) (by decide)) (by rw [nI_clamp (by omega)]) ?_
        refine x_iload (pc' := 114) d_U_matchLines_112 rfl rfl ?_
        refine x_iconst (v := nI 1) (pc' := 115) d_U_matchLines_114 rfl (by decide) ?_
        refine x_iadd (z := nI (j + 1)) (pc' := 116) d_U_matchLines_115 rfl (nI_add _ _) ?_
        refine x_iaload (v := nI (sp_lcs (o.drop i) (a.drop (j + 1)))) (pc' := 117) d_U_matchLines_116 rfl (hC1 i (by omega)) (vp_in_nI (by omega) (by decide)) (by rw [nI_clamp (by omega)]; exact hT i (j + 1) (by omega) (by omega)) ?_
        refine x_icmplt (t := 126) (pc' := 120) d_U_matchLines_117 rfl rfl (fun q4 => ?_) (fun q4 => ?_)
        · refine x_iinc (y := nI (j + 1)) (lo' := [.ref 15, .long (lN (sp_enc o)), .float 0, .long (lN (sp_enc a)), .float 0, .ref p, .int (nI o.length), .int (nI a.length), .int (nI i), .int (nI (j + 1))]) (pc' := 129) d_U_matchLines_126 rfl rfl (sp_nI_inc j) rfl ?_
          refine x_goto (t := 47) d_U_matchLines_129 rfl ?_
          have hne : ¬ o.getD i 0 = a.getD j 0 := fun z => q3 ((sp_line_eq ho ha hin hjm).mpr z)
          have c1 := sp_lcs8 (a := a) ho.1 (i + 1) j
          have c2 := sp_lcs8 (a := a) ho.1 i (j + 1)
          exact ih i (j + 1) (by omega) (by omega) (by omega) f (hM.trans (sp_mt_right hin hjm hne (fun z => absurd q4 (nI_nlt z (by omega))))) hf1 hf0 hf2
        · refine x_iinc (y := nI (i + 1)) (lo' := [.ref 15, .long (lN (sp_enc o)), .float 0, .long (lN (sp_enc a)), .float 0, .ref p, .int (nI o.length), .int (nI a.length), .int (nI (i + 1)), .int (nI j)]) (pc' := 123) d_U_matchLines_120 rfl rfl (sp_nI_inc i) rfl ?_
          refine x_goto (t := 47) d_U_matchLines_123 rfl ?_
          have hne : ¬ o.getD i 0 = a.getD j 0 := fun z => q3 ((sp_line_eq ho ha hin hjm).mpr z)
          have c1 := sp_lcs8 (a := a) ho.1 (i + 1) j
          have c2 := sp_lcs8 (a := a) ho.1 i (j + 1)
          obtain ⟨z1, z2⟩ := sp_drop_cons (y := none) (hM.trans (sp_mt_up hin hjm hne (by rcases Nat.lt_or_ge (sp_lcs (o.drop (i + 1)) (a.drop j)) (sp_lcs (o.drop i) (a.drop (j + 1))) with hh | hh; exact absurd (nI_lt hh (by omega)) q4; exact hh)))
          refine ih (i + 1) j (by omega) (by omega) (by omega) f z2 ?_ (fun k hk hk2 => hf0 k (by omega) hk2) hf2
          intro k hk
          by_cases hki : k = i
          · rw [hki, z1, hf0 i (Nat.le_refl _) hin]
            rfl
          · exact hf1 k (by omega)
      · refine x_aload (pc' := 79) d_U_matchLines_77 rfl rfl ?_
        refine x_iload (pc' := 81) d_U_matchLines_79 rfl rfl ?_
        refine x_iload (pc' := 83) d_U_matchLines_81 rfl rfl ?_
        refine x_iastore (h' := (h.set p (.inl (.int, 9, .inl (upd f (nI i).toNatClampNeg (nI j)))))) (pc' := 84) d_U_matchLines_83 rfl (xl_at hp) (vp_in_nI (by omega) (by decide)) (List.set_set ..) ?_
        refine x_iinc (y := nI (i + 1)) (lo' := [.ref 15, .long (lN (sp_enc o)), .float 0, .long (lN (sp_enc a)), .float 0, .ref p, .int (nI o.length), .int (nI a.length), .int (nI (i + 1)), .int (nI j)]) (pc' := 87) d_U_matchLines_84 rfl rfl (sp_nI_inc i) rfl ?_
        refine x_iinc (y := nI (j + 1)) (lo' := [.ref 15, .long (lN (sp_enc o)), .float 0, .long (lN (sp_enc a)), .float 0, .ref p, .int (nI o.length), .int (nI a.length), .int (nI (i + 1)), .int (nI (j + 1))]) (pc' := 90) d_U_matchLines_87 rfl rfl (sp_nI_inc j) rfl ?_
        refine x_goto (t := 47) d_U_matchLines_90 rfl ?_
        obtain ⟨z1, z2⟩ := sp_drop_cons (y := none) (hM.trans (sp_mt_eq hin hjm ((sp_line_eq ho ha hin hjm).mp q3)))
        refine ih (i + 1) (j + 1) (by omega) (by omega) (by omega) _ z2 ?_ ?_ ?_
        · intro k hk
          rw [nI_clamp (n := i) (by omega)]
          unfold upd
          by_cases hki : k = i
          · rw [if_pos hki, hki, z1]
            rfl
          · rw [if_neg hki]
            exact hf1 k (by omega)
        · intro k hk hk2
          rw [nI_clamp (n := i) (by omega)]
          unfold upd
          rw [if_neg (by omega)]
          exact hf0 k (by omega) hk2
        · rw [nI_clamp (n := i) (by omega)]
          unfold upd
          rw [if_neg (by omega)]
          exact hf2
    · have hfin : ∀ k, k < o.length → f k = sp_mv1 ((sp_mt o a 0).getD k none) := by
        intro k hk
        by_cases hki : k < i
        · exact hf1 k hki
        · obtain ⟨x, rfl⟩ : ∃ x, k = i + x := ⟨k - i, by omega⟩
          rw [hf0 (i + x) (by omega) hk, sp_getD_drop, hM, show a.drop j = [] from List.drop_eq_nil_of_le (by omega), sp_mt_nil]
          rfl
      refine x_iload (pc' := 49) d_U_matchLines_47 rfl rfl ?_
      refine x_iload (pc' := 51) d_U_matchLines_49 rfl rfl ?_
      refine x_icmpge (t := 132) (pc' := 54) d_U_matchLines_51 rfl rfl (fun q => absurd q (nI_ge (by omega) (by omega))) (fun _ => ?_)
      refine x_iload (pc' := 56) d_U_matchLines_54 rfl rfl ?_
      refine x_iload (pc' := 58) d_U_matchLines_56 rfl rfl ?_
      refine x_icmpge (t := 132) (pc' := 61) d_U_matchLines_58 rfl rfl (fun _ => ?_) (fun q => absurd (nI_le (by omega) (by omega)) q)
      exact x_return d_U_matchLines_132 rfl (hQ f hf2 hfin)
  · have hfin : ∀ k, k < o.length → f k = sp_mv1 ((sp_mt o a 0).getD k none) := fun k hk => hf1 k (by omega)
    refine x_iload (pc' := 49) d_U_matchLines_47 rfl rfl ?_
    refine x_iload (pc' := 51) d_U_matchLines_49 rfl rfl ?_
    refine x_icmpge (t := 132) (pc' := 54) d_U_matchLines_51 rfl rfl (fun _ => ?_) (fun q => absurd (nI_le (by omega) (by omega)) q)
    exact x_return d_U_matchLines_132 rfl (hQ f hf2 hfin)
theorem c_U_matchLines {L : Nat} {xs : Nat → Int32} {d : Nat} {Q : xm_Q} {o a : List Nat} (ho : sp_wl o) (ha : sp_wl a) {p : Nat} (hp7 : 17 ≤ p ∧ p ≤ 18) {h : xm_H} {f0 : Nat → Int32} (hp : h[p]? = some (.inl (.int, 9, .inl f0))) {cm : Nat → Nat → Int32} (hU : ch_U0 h) (hC : ch_C h cm) (hT : ∀ x y, x ≤ o.length → y ≤ a.length → cm x y = nI (sp_lcs (o.drop x) (a.drop y)))
    (hQ : ∀ f : Nat → Int32, f o.length = nI a.length → (∀ k, k < o.length → f k = sp_mv1 ((sp_mt o a 0).getD k none)) → Q none (h.set p (.inl (.int, 9, .inl f)))) : xm_call L xs (d + 2) m_U_matchLines [.ref 15, .long (lN (sp_enc o)), .long (lN (sp_enc a)), .ref p] h Q := by
  have l8 := ho.1
  rw [← xl_self hp]
  refine x_call (lo := [.ref 15, .long (lN (sp_enc o)), .float 0, .long (lN (sp_enc a)), .float 0, .ref p, .float 0, .float 0, .float 0, .float 0]) (Nat.le_of_ble_eq_true rfl) rfl ?_
  refine x_lload_n (pc' := 1) d_U_matchLines_0 rfl rfl rfl ?_
  refine x_static (as := [.long (lN (sp_enc o))]) (r := []) (v := (some (.int (nI o.length)))) (h' := (h.set p (.inl (.int, 9, .inl f0)))) (st' := [.int (nI o.length)]) (c' := 0) (s' := 0) (pc' := 4) d_U_matchLines_1 rfl c_U_52 rfl rfl (Nat.le_of_ble_eq_true rfl) (Nat.le_of_ble_eq_true rfl) (Nat.le_of_ble_eq_true rfl) (fun Q' hq => c_T_countOf ho hq) rfl rfl rfl ?_
  refine x_istore (lo' := [.ref 15, .long (lN (sp_enc o)), .float 0, .long (lN (sp_enc a)), .float 0, .ref p, .int (nI o.length), .float 0, .float 0, .float 0]) (pc' := 6) d_U_matchLines_4 rfl (Nat.le_of_ble_eq_true rfl) rfl ?_
  refine x_lload_n (pc' := 7) d_U_matchLines_6 rfl rfl rfl ?_
  refine x_static (as := [.long (lN (sp_enc a))]) (r := []) (v := (some (.int (nI a.length)))) (h' := (h.set p (.inl (.int, 9, .inl f0)))) (st' := [.int (nI a.length)]) (c' := 0) (s' := 0) (pc' := 10) d_U_matchLines_7 rfl c_U_52 rfl rfl (Nat.le_of_ble_eq_true rfl) (Nat.le_of_ble_eq_true rfl) (Nat.le_of_ble_eq_true rfl) (fun Q' hq => c_T_countOf ha hq) rfl rfl rfl ?_
  refine x_istore (lo' := [.ref 15, .long (lN (sp_enc o)), .float 0, .long (lN (sp_enc a)), .float 0, .ref p, .int (nI o.length), .int (nI a.length), .float 0, .float 0]) (pc' := 12) d_U_matchLines_10 rfl (Nat.le_of_ble_eq_true rfl) rfl ?_
  refine x_iconst (v := nI 0) (pc' := 13) d_U_matchLines_12 rfl (by decide) ?_
  refine x_istore (lo' := [.ref 15, .long (lN (sp_enc o)), .float 0, .long (lN (sp_enc a)), .float 0, .ref p, .int (nI o.length), .int (nI a.length), .int (nI 0), .float 0]) (pc' := 15) d_U_matchLines_13 rfl (Nat.le_of_ble_eq_true rfl) rfl ?_
  refine l_U_ml1 l8 hp (fun f hf => ?_) o.length 0 (by omega) f0 (fun j hj => absurd hj (Nat.not_lt_zero _))
  refine x_aload (pc' := 36) d_U_matchLines_34 rfl rfl ?_
  refine x_iload (pc' := 38) d_U_matchLines_36 rfl rfl ?_
  refine x_iload (pc' := 40) d_U_matchLines_38 rfl rfl ?_
  refine x_iastore (h' := (h.set p (.inl (.int, 9, .inl (upd f (nI o.length).toNatClampNeg (nI a.length)))))) (pc' := 41) d_U_matchLines_40 rfl (xl_at hp) (vp_in_nI (by omega) (by decide)) (List.set_set ..) ?_
  refine x_iconst (v := nI 0) (pc' := 42) d_U_matchLines_41 rfl (by decide) ?_
  refine x_istore (lo' := [.ref 15, .long (lN (sp_enc o)), .float 0, .long (lN (sp_enc a)), .float 0, .ref p, .int (nI o.length), .int (nI a.length), .int (nI 0), .float 0]) (pc' := 44) d_U_matchLines_42 rfl (Nat.le_of_ble_eq_true rfl) rfl ?_
  refine x_iconst (v := nI 0) (pc' := 45) d_U_matchLines_44 rfl (by decide) ?_
  refine x_istore (lo' := [.ref 15, .long (lN (sp_enc o)), .float 0, .long (lN (sp_enc a)), .float 0, .ref p, .int (nI o.length), .int (nI a.length), .int (nI 0), .int (nI 0)]) (pc' := 47) d_U_matchLines_45 rfl (Nat.le_of_ble_eq_true rfl) rfl ?_
  refine l_U_ml2 ho ha hp7 hp hU hC hT hQ _ 0 0 rfl (Nat.zero_le _) (Nat.zero_le _) _ (by rw [List.drop_zero, List.drop_zero, List.drop_zero]) (fun k hk => absurd hk (Nat.not_lt_zero _)) (fun k h1 h2 => ?_) ?_
  · rw [nI_clamp (n := o.length) (by omega)]
    unfold upd
    rw [if_neg (by omega)]
    exact hf k h2
  · rw [nI_clamp (n := o.length) (by omega)]
    unfold upd
    rw [if_pos rfl]
