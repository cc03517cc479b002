/-! The longest shared subsequence by its table; contract of countCommon. (Printed by c_unit.py.) -/
theorem sp_nI_dec (k : Nat) : nI (k + 1) + Int32.ofInt (-1) = nI k := by
  rw [show Int32.ofInt (-1) = -1 by decide]
  exact pk_m1 k
theorem sp_lcg_le (x : Nat) (f : List Nat → Nat) (N : Nat) (hf : ∀ l, f l ≤ N) : ∀ l, sp_lcg x f l ≤ N + 1
  | [] => Nat.zero_le _
  | y :: ys => by
    have h1 := hf ys
    have h2 := hf (y :: ys)
    have h3 := sp_lcg_le x f N hf ys
    unfold sp_lcg
    split
    · omega
    · split <;> omega
theorem sp_lcs_le : ∀ (xs ys : List Nat), sp_lcs xs ys ≤ xs.length
  | [], _ => Nat.le_refl _
  | x :: xs, ys => sp_lcg_le x (sp_lcs xs) xs.length (sp_lcs_le xs) ys
theorem sp_lcs_nil (xs : List Nat) : sp_lcs xs [] = 0 := by cases xs <;> rfl
theorem sp_getD {t : List Nat} {i : Nat} (hi : i < t.length) : t.drop i = t.getD i 0 :: t.drop (i + 1) := by
  rw [List.drop_eq_getElem_cons hi, List.getD_eq_getElem?_getD, List.getElem?_eq_getElem hi]
  rfl
theorem sp_lcs_eq {o a : List Nat} {i j : Nat} (hi : i < o.length) (hj : j < a.length) (h : o.getD i 0 = a.getD j 0) : sp_lcs (o.drop i) (a.drop j) = sp_lcs (o.drop (i + 1)) (a.drop (j + 1)) + 1 := by
  rw [sp_getD hi, sp_getD hj]
  exact if_pos h
theorem sp_lcs_ne {o a : List Nat} {i j : Nat} (hi : i < o.length) (hj : j < a.length) (h : ¬ o.getD i 0 = a.getD j 0) : sp_lcs (o.drop i) (a.drop j) = if sp_lcs (o.drop (i + 1)) (a.drop j) ≥ sp_lcs (o.drop i) (a.drop (j + 1)) then sp_lcs (o.drop (i + 1)) (a.drop j) else sp_lcs (o.drop i) (a.drop (j + 1)) := by
  rw [sp_getD hi, sp_getD hj]
  exact if_neg h
theorem sp_lcs8 {o a : List Nat} (ho : o.length ≤ 8) (i j : Nat) : sp_lcs (o.drop i) (a.drop j) ≤ 8 := Nat.le_trans (sp_lcs_le _ _) (by rw [List.length_drop]; omega)
theorem sp_line16 {t : List Nat} (h : sp_wl t) {i : Nat} (hi : i < t.length) : t.getD i 0 < 16 := by
  rw [List.getD_eq_getElem?_getD, List.getElem?_eq_getElem hi]
  exact h.2 _ (List.getElem_mem hi)
theorem sp_line_eq {o a : List Nat} (ho : sp_wl o) (ha : sp_wl a) {i j : Nat} (hi : i < o.length) (hj : j < a.length) : lg_cmp (lN (o.getD i 0)) (lN (a.getD j 0)) = 0 ↔ o.getD i 0 = a.getD j 0 := by
  have h1 := sp_line16 ho hi
  have h2 := sp_line16 ha hj
  rw [lg_cmp_eq, pk_lEQ (by omega) (by omega)]
abbrev sp_CS : Nat → Prop := fun k => 20 ≤ k ∧ k ≤ 28
/-- the table's rows -/
def ch_C (h : xm_H) (cm : Nat → Nat → Int32) : Prop := ∀ i, i < 9 → h[20 + i]? = some (.inl (.int, 9, .inl (cm i)))
def sp_cu (cm : Nat → Nat → Int32) (i j : Nat) (v : Int32) : Nat → Nat → Int32 := fun x => if x = i then upd (cm i) j v else cm x
theorem ch_C_set {h : xm_H} {cm : Nat → Nat → Int32} (hC : ch_C h cm) {i j : Nat} (hi : i < 9) (v : Int32) : ch_C (h.set (20 + i) (.inl (.int, 9, .inl (upd (cm i) j v)))) (sp_cu cm i j v) := by
  intro x hx
  unfold sp_cu
  by_cases hxi : x = i
  · subst hxi
    rw [if_pos rfl]
    exact xl_at (hC x hx)
  · rw [if_neg hxi, xl_ne (by omega)]
    exact hC x hx
theorem sp_cu_at (cm : Nat → Nat → Int32) (i j : Nat) (v : Int32) : sp_cu cm i j v i j = v := by
  unfold sp_cu upd
  rw [if_pos rfl, if_pos rfl]
theorem sp_cu_ne {cm : Nat → Nat → Int32} {i j x y : Nat} {v : Int32} (h : x ≠ i ∨ y ≠ j) : sp_cu cm i j v x y = cm x y := by
  unfold sp_cu upd
  by_cases hx : x = i
  · subst hx
    rw [if_pos rfl, if_neg (by rcases h with h | h; exact absurd rfl h; exact h)]
  · rw [if_neg hx]
def ch_U0 (h : xm_H) : Prop := h[15]? = some (.inr (2, [.ref 16, .ref 17, .ref 18, .ref 19])) ∧ h[19]? = some (.inl (.array .int, 9, .inr (.inr (.inr (.inr (fun j => some (20 + j)))))))
theorem ch_U0_go {h h' : xm_H} (a : ch_U0 h) (f : xl_fr sp_CS h h') : ch_U0 h' := ⟨(f.2 15 (by intro z; exact absurd z.1 (by decide))).trans a.1, (f.2 19 (by intro z; exact absurd z.1 (by decide))).trans a.2⟩
set_option maxHeartbeats 4000000 in
theorem l_U_cc1 {L : Nat} {xs : Nat → Int32} {d : Nat} {Q : xm_Q} {o a : List Nat} (ho : sp_wl o) (ha : sp_wl a) {i : Nat} (hi : i ≤ o.length) {j : Nat} (hj : j ≤ a.length) {h : xm_H} {cm : Nat → Nat → Int32} (hU : ch_U0 h) (hC : ch_C h cm) (hR : ∀ x y, i < x → x ≤ o.length → y ≤ a.length → cm x y = nI (sp_lcs (o.drop x) (a.drop y))) (hJ : ∀ y, j < y → y ≤ a.length → cm i y = nI (sp_lcs (o.drop i) (a.drop y)))
    (tail : ∀ v, v = nI (sp_lcs (o.drop i) (a.drop j)) → xm_X L xs (xm_call L xs (d + 1)) m_U_countCommon (140, [.ref 15, .long (lN (sp_enc o)), .float 0, .long (lN (sp_enc a)), .float 0, .int (nI o.length), .int (nI a.length), .int (nI i), .int (nI j)], [], (h.set (20 + i) (.inl (.int, 9, .inl (upd (cm i) (nI j).toNatClampNeg (v))))), 0, 0) Q) :
    xm_X L xs (xm_call L xs (d + 1)) m_U_countCommon (25, [.ref 15, .long (lN (sp_enc o)), .float 0, .long (lN (sp_enc a)), .float 0, .int (nI o.length), .int (nI a.length), .int (nI i), .int (nI j)], [], h, 0, 0) Q := by
  have l8 := ho.1
  have m8 := ha.1
  refine x_iload (pc' := 27) d_U_countCommon_25 rfl rfl ?_
  refine x_iflt (t := 146) (pc' := 30) d_U_countCommon_27 rfl rfl (fun q => absurd q (nI_pos (by omega))) (fun _ => ?_)
  refine x_iload (pc' := 32) d_U_countCommon_30 rfl rfl ?_
  refine x_iload (pc' := 34) d_U_countCommon_32 rfl rfl ?_
  refine x_icmpeq (t := 44) (pc' := 37) d_U_countCommon_34 rfl rfl (fun q1 => ?_) (fun q1 => ?_)
  · refine x_aload_n (pc' := 45) d_U_countCommon_44 rfl rfl ?_
    refine x_getfield (ci := 2) (i := 3) (v := .ref 19) (pc' := 48) d_U_countCommon_45 rfl g_U_24 hU.1 rfl ?_
    refine x_iload (pc' := 50) d_U_countCommon_48 rfl rfl ?_
    refine x_aaload (q := (20 + i)) (pc' := 51) d_U_countCommon_50 rfl hU.2 (Or.inl rfl) (vp_in_nI (by omega) (by decide)) (by rw [nI_clamp (by omega)]) ?_
    refine x_iload (pc' := 53) d_U_countCommon_51 rfl rfl ?_
    refine x_iconst (v := nI 0) (pc' := 54) d_U_countCommon_53 rfl (by decide) ?_
    refine x_iastore (h' := (h.set (20 + i) (.inl (.int, 9, .inl (upd (cm i) (nI j).toNatClampNeg (nI 0)))))) (pc' := 55) d_U_countCommon_54 rfl (hC i (by omega)) (vp_in_nI (by omega) (by decide)) rfl ?_
    refine x_goto (t := 140) d_U_countCommon_55 rfl ?_
    exact tail _ (by rw [sp_nI_inj (by omega) (by omega) q1, List.drop_length]; rfl)
  · refine x_iload (pc' := 39) d_U_countCommon_37 rfl rfl ?_
    refine x_iload (pc' := 41) d_U_countCommon_39 rfl rfl ?_
    refine x_icmpne (t := 58) (pc' := 44) d_U_countCommon_41 rfl rfl (fun q2 => ?_) (fun q2 => ?_)
    · have hin : i < o.length := Nat.lt_of_le_of_ne hi (fun e => q1 (by rw [e]))
      have hjm : j < a.length := Nat.lt_of_le_of_ne hj (fun e => q2 (by rw [e]))
      refine x_lload_n (pc' := 59) d_U_countCommon_58 rfl rfl rfl ?_
      refine x_iload (pc' := 61) d_U_countCommon_59 rfl rfl ?_
      refine x_static (as := [.long (lN (sp_enc o)), .int (nI i)]) (r := []) (v := (some (.long (lN (o.getD i 0))))) (h' := h) (st' := [.long (lN (o.getD i 0))]) (c' := 0) (s' := 0) (pc' := 64) d_U_countCommon_61 rfl c_U_66 rfl rfl (Nat.le_of_ble_eq_true rfl) (Nat.le_of_ble_eq_true rfl) (Nat.le_of_ble_eq_true rfl) (fun Q' hq => c_T_lineAt ho hin hq) rfl rfl rfl ?_
      refine x_lload_n (pc' := 65) d_U_countCommon_64 rfl rfl rfl ?_
      refine x_iload (pc' := 67) d_U_countCommon_65 rfl rfl ?_
      refine x_static (as := [.long (lN (sp_enc a)), .int (nI j)]) (r := [.long (lN (o.getD i 0))]) (v := (some (.long (lN (a.getD j 0))))) (h' := h) (st' := [.long (lN (a.getD j 0)), .long (lN (o.getD i 0))]) (c' := 0) (s' := 0) (pc' := 70) d_U_countCommon_67 rfl c_U_66 rfl rfl (Nat.le_of_ble_eq_true rfl) (Nat.le_of_ble_eq_true rfl) (Nat.le_of_ble_eq_true rfl) (fun Q' hq => c_T_lineAt ha hjm hq) rfl rfl rfl ?_
      refine x_lcmp (z := lg_cmp (lN (o.getD i 0)) (lN (a.getD j 0))) (pc' := 71) d_U_countCommon_70 rfl rfl ?_
      refine x_ifne (t := 103) (pc' := 74) d_U_countCommon_71 rfl rfl (fun q3 => ?_) (fun q3 => ?_)
      · have hmax : (if nI (sp_lcs (o.drop (i + 1)) (a.drop j)) < nI (sp_lcs (o.drop i) (a.drop (j + 1))) then nI (sp_lcs (o.drop i) (a.drop (j + 1))) else nI (sp_lcs (o.drop (i + 1)) (a.drop j))) = nI (sp_lcs (o.drop i) (a.drop j)) := by
          have c1 := sp_lcs8 (a := a) ho.1 (i + 1) j
          have c2 := sp_lcs8 (a := a) ho.1 i (j + 1)
          rw [sp_lcs_ne hin hjm (fun z => q3 ((sp_line_eq ho ha hin hjm).mpr z))]
          by_cases hlt : sp_lcs (o.drop (i + 1)) (a.drop j) < sp_lcs (o.drop i) (a.drop (j + 1))
          · rw [if_pos (nI_lt hlt (by omega)), if_neg (by omega)]
          · rw [if_neg (nI_nlt (by omega) (by omega)), if_pos (by omega)]
        refine x_aload_n (pc' := 104) d_U_countCommon_103 rfl rfl ?_
        refine x_getfield (ci := 2) (i := 3) (v := .ref 19) (pc' := 107) d_U_countCommon_104 rfl g_U_24 hU.1 rfl ?_
        refine x_iload (pc' := 109) d_U_countCommon_107 rfl rfl ?_
        refine x_aaload (q := (20 + i)) (pc' := 110) d_U_countCommon_109 rfl hU.2 (Or.inl rfl) (vp_in_nI (by omega) (by decide)) (by rw [nI_clamp (by omega)]) ?_
        refine x_iload (pc' := 112) d_U_countCommon_110 rfl rfl ?_
        refine x_aload_n (pc' := 113) d_U_countCommon_112 rfl rfl ?_
        refine x_getfield (ci := 2) (i := 3) (v := .ref 19) (pc' := 116) d_U_countCommon_113 rfl g_U_24 hU.1 rfl ?_
        refine x_iload (pc' := 118) d_U_countCommon_116 rfl rfl ?_
        refine x_iconst (v := nI 1) (pc' := 119) d_U_countCommon_118 rfl (by decide) ?_
        refine x_iadd (z := nI (i + 1)) (pc' := 120) d_U_countCommon_119 rfl (nI_add _ _) ?_
        refine x_aaload (q := (20 + (i + 1))) (pc' := 121) d_U_countCommon_120 rfl hU.2 (Or.inl rfl) (vp_in_nI (by omega) (by decide)) (by rw [nI_clamp (by omega)]) ?_
        refine x_iload (pc' := 123) d_U_countCommon_121 rfl rfl ?_
        refine x_iaload (v := nI (sp_lcs (o.drop (i + 1)) (a.drop j))) (pc' := 124) d_U_countCommon_123 rfl (hC (i + 1) (by omega)) (vp_in_nI (by omega) (by decide)) (by rw [nI_clamp (by omega)]; exact hR (i + 1) j (by omega) (by omega) (by omega)) ?_
        refine x_aload_n (pc' := 125) d_U_countCommon_124 rfl rfl ?_
        refine x_getfield (ci := 2) (i := 3) (v := .ref 19) (pc' := 128) d_U_countCommon_125 rfl g_U_24 hU.1 rfl ?_
        refine x_iload (pc' := 130) d_U_countCommon_128 rfl rfl ?_
        refine x_aaload (q := (20 + i)) (pc' := 131) d_U_countCommon_130 rfl hU.2 (Or.inl rfl) (vp_in_nI (by omega) (by decide)) (by rw [nI_clamp (by omega)]) ?_
        refine x_iload (pc' := 133) d_U_countCommon_131 rfl rfl ?_
        refine x_iconst (v := nI 1) (pc' := 134) d_U_countCommon_133 rfl (by decide) ?_
        refine x_iadd (z := nI (j + 1)) (pc' := 135) d_U_countCommon_134 rfl (nI_add _ _) ?_
        refine x_iaload (v := nI (sp_lcs (o.drop i) (a.drop (j + 1)))) (pc' := 136) d_U_countCommon_135 rfl (hC i (by omega)) (vp_in_nI (by omega) (by decide)) (by rw [nI_clamp (by omega)]; exact hJ (j + 1) (by omega) (by omega)) ?_
        refine x_mmax (z := nI (sp_lcs (o.drop i) (a.drop j))) (pc' := 139) d_U_countCommon_136 rfl c_U_70 (Nat.le_of_ble_eq_true rfl) hmax ?_
        refine x_iastore (h' := (h.set (20 + i) (.inl (.int, 9, .inl (upd (cm i) (nI j).toNatClampNeg (nI (sp_lcs (o.drop i) (a.drop j)))))))) (pc' := 140) d_U_countCommon_139 rfl (hC i (by omega)) (vp_in_nI (by omega) (by decide)) rfl ?_
        exact tail _ rfl
      · refine x_aload_n (pc' := 75) d_U_countCommon_74 rfl rfl ?_
        refine x_getfield (ci := 2) (i := 3) (v := .ref 19) (pc' := 78) d_U_countCommon_75 rfl g_U_24 hU.1 rfl ?_
        refine x_iload (pc' := 80) d_U_countCommon_78 rfl rfl ?_
        refine x_aaload (q := (20 + i)) (pc' := 81) d_U_countCommon_80 rfl hU.2 (Or.inl rfl) (vp_in_nI (by omega) (by decide)) (by rw [nI_clamp (by omega)]) ?_
        refine x_iload (pc' := 83) d_U_countCommon_81 rfl rfl ?_
        refine x_aload_n (pc' := 84) d_U_countCommon_83 rfl rfl ?_
        refine x_getfield (ci := 2) (i := 3) (v := .ref 19) (pc' := 87) d_U_countCommon_84 rfl g_U_24 hU.1 rfl ?_
        refine x_iload (pc' := 89) d_U_countCommon_87 rfl rfl ?_
        refine x_iconst (v := nI 1) (pc' := 90) d_U_countCommon_89 rfl (by decide) ?_
        refine x_iadd (z := nI (i + 1)) (pc' := 91) d_U_countCommon_90 rfl (nI_add _ _) ?_
        refine x_aaload (q := (20 + (i + 1))) (pc' := 92) d_U_countCommon_91 rfl hU.2 (Or.inl rfl) (vp_in_nI (by omega) (by decide)) (by rw [nI_clamp (by omega)]) ?_
        refine x_iload (pc' := 94) d_U_countCommon_92 rfl rfl ?_
        refine x_iconst (v := nI 1) (pc' := 95) d_U_countCommon_94 rfl (by decide) ?_
        refine x_iadd (z := nI (j + 1)) (pc' := 96) d_U_countCommon_95 rfl (nI_add _ _) ?_
        refine x_iaload (v := nI (sp_lcs (o.drop (i + 1)) (a.drop (j + 1)))) (pc' := 97) d_U_countCommon_96 rfl (hC (i + 1) (by omega)) (vp_in_nI (by omega) (by decide)) (by rw [nI_clamp (by omega)]; exact hR (i + 1) (j + 1) (by omega) (by omega) (by omega)) ?_
        refine x_iconst (v := nI 1) (pc' := 98) d_U_countCommon_97 rfl (by decide) ?_
        refine x_iadd (z := nI (sp_lcs (o.drop (i + 1)) (a.drop (j + 1)) + 1)) (pc' := 99) d_U_countCommon_98 rfl (nI_add _ _) ?_
        refine x_iastore (h' := (h.set (20 + i) (.inl (.int, 9, .inl (upd (cm i) (nI j).toNatClampNeg (nI (sp_lcs (o.drop (i + 1)) (a.drop (j + 1)) + 1))))))) (pc' := 100) d_U_countCommon_99 rfl (hC i (by omega)) (vp_in_nI (by omega) (by decide)) rfl ?_
        refine x_goto (t := 140) d_U_countCommon_100 rfl ?_
        exact tail _ (by rw [sp_lcs_eq hin hjm ((sp_line_eq ho ha hin hjm).mp q3)])
    · refine x_aload_n (pc' := 45) d_U_countCommon_44 rfl rfl ?_
      refine x_getfield (ci := 2) (i := 3) (v := .ref 19) (pc' := 48) d_U_countCommon_45 rfl g_U_24 hU.1 rfl ?_
      refine x_iload (pc' := 50) d_U_countCommon_48 rfl rfl ?_
      refine x_aaload (q := (20 + i)) (pc' := 51) d_U_countCommon_50 rfl hU.2 (Or.inl rfl) (vp_in_nI (by omega) (by decide)) (by rw [nI_clamp (by omega)]) ?_
      refine x_iload (pc' := 53) d_U_countCommon_51 rfl rfl ?_
      refine x_iconst (v := nI 0) (pc' := 54) d_U_countCommon_53 rfl (by decide) ?_
      refine x_iastore (h' := (h.set (20 + i) (.inl (.int, 9, .inl (upd (cm i) (nI j).toNatClampNeg (nI 0)))))) (pc' := 55) d_U_countCommon_54 rfl (hC i (by omega)) (vp_in_nI (by omega) (by decide)) rfl ?_
      refine x_goto (t := 140) d_U_countCommon_55 rfl ?_
      exact tail _ (by rw [sp_nI_inj (by omega) (by omega) q2, List.drop_length, sp_lcs_nil])
theorem l_U_cc2 {L : Nat} {xs : Nat → Int32} {d : Nat} {Q : xm_Q} {o a : List Nat} (ho : sp_wl o) (ha : sp_wl a) {i : Nat} (hi : i ≤ o.length) {h0 : xm_H} (hU0 : ch_U0 h0)
    (K : ∀ (h : xm_H) (cm : Nat → Nat → Int32), xl_fr sp_CS h0 h → ch_C h cm → (∀ x y, i ≤ x → x ≤ o.length → y ≤ a.length → cm x y = nI (sp_lcs (o.drop x) (a.drop y))) → xm_X L xs (xm_call L xs (d + 1)) m_U_countCommon (146, [.ref 15, .long (lN (sp_enc o)), .float 0, .long (lN (sp_enc a)), .float 0, .int (nI o.length), .int (nI a.length), .int (nI i), .int (-1)], [], h, 0, 0) Q) :
    ∀ (j : Nat), j ≤ a.length → ∀ (h : xm_H) (cm : Nat → Nat → Int32), xl_fr sp_CS h0 h → ch_C h cm → (∀ x y, i < x → x ≤ o.length → y ≤ a.length → cm x y = nI (sp_lcs (o.drop x) (a.drop y))) → (∀ y, j < y → y ≤ a.length → cm i y = nI (sp_lcs (o.drop i) (a.drop y))) →
      xm_X L xs (xm_call L xs (d + 1)) m_U_countCommon (25, [.ref 15, .long (lN (sp_enc o)), .float 0, .long (lN (sp_enc a)), .float 0, .int (nI o.length), .int (nI a.length), .int (nI i), .int (nI j)], [], h, 0, 0) Q := by
  have l8 := ho.1
  have m8 := ha.1
  intro j
  induction j with
  | zero =>
    intro hj h cm hf hC hR hJ
    have hU := ch_U0_go hU0 hf
    refine l_U_cc1 ho ha hi hj hU hC hR hJ (fun v hv => ?_)
    have hC1 := ch_C_set hC (i := i) (j := (nI 0).toNatClampNeg) (by omega) v
    have hf1 : xl_fr sp_CS h0 (h.set (20 + i) (.inl (.int, 9, .inl (upd (cm i) (nI 0).toNatClampNeg (v))))) := xl_tr hf (xl_set ⟨by omega, by omega⟩)
    have hT : ∀ x y, i ≤ x → x ≤ o.length → y ≤ a.length → sp_cu cm i (nI 0).toNatClampNeg v x y = nI (sp_lcs (o.drop x) (a.drop y)) := by
      intro x y h1 h2 h3
      rw [nI_clamp (n := 0) (by decide)]
      by_cases hx : x = i
      · subst hx
        by_cases hy : y = 0
        · subst hy
          rw [sp_cu_at, hv]
        · rw [sp_cu_ne (Or.inr hy)]
          exact hJ y (by omega) h3
      · rw [sp_cu_ne (Or.inl hx)]
        exact hR x y (by omega) h2 h3
    refine x_iinc (y := (-1)) (lo' := [.ref 15, .long (lN (sp_enc o)), .float 0, .long (lN (sp_enc a)), .float 0, .int (nI o.length), .int (nI a.length), .int (nI i), .int (-1)]) (pc' := 143) d_U_countCommon_140 rfl rfl (by decide) rfl ?_
    refine x_goto (t := 25) d_U_countCommon_143 rfl ?_
    refine x_iload (pc' := 27) d_U_countCommon_25 rfl rfl ?_
    refine x_iflt (t := 146) (pc' := 30) d_U_countCommon_27 rfl rfl (fun _ => ?_) (fun q => absurd (by decide) q)
    exact K _ _ hf1 hC1 hT
  | succ j ih =>
    intro hj h cm hf hC hR hJ
    have hU := ch_U0_go hU0 hf
    refine l_U_cc1 ho ha hi hj hU hC hR hJ (fun v hv => ?_)
    have hC1 := ch_C_set hC (i := i) (j := (nI (j + 1)).toNatClampNeg) (by omega) v
    have hf1 : xl_fr sp_CS h0 (h.set (20 + i) (.inl (.int, 9, .inl (upd (cm i) (nI (j + 1)).toNatClampNeg (v))))) := xl_tr hf (xl_set ⟨by omega, by omega⟩)
    refine x_iinc (y := nI j) (lo' := [.ref 15, .long (lN (sp_enc o)), .float 0, .long (lN (sp_enc a)), .float 0, .int (nI o.length), .int (nI a.length), .int (nI i), .int (nI j)]) (pc' := 143) d_U_countCommon_140 rfl rfl (sp_nI_dec j) rfl ?_
    refine x_goto (t := 25) d_U_countCommon_143 rfl ?_
    refine ih (by omega) _ _ hf1 hC1 (fun x y h1 h2 h3 => ?_) (fun y h1 h2 => ?_)
    · rw [sp_cu_ne (Or.inl (by omega))]
      exact hR x y (by omega) h2 h3
    · rw [nI_clamp (n := j + 1) (by omega)]
      by_cases hy : y = j + 1
      · subst hy
        rw [sp_cu_at, hv]
      · rw [sp_cu_ne (Or.inr hy)]
        exact hJ y (by omega) h2
theorem l_U_cc3 {L : Nat} {xs : Nat → Int32} {d : Nat} {Q : xm_Q} {o a : List Nat} (ho : sp_wl o) (ha : sp_wl a) {h0 : xm_H} (hU0 : ch_U0 h0)
    (hQ : ∀ (h : xm_H) (cm : Nat → Nat → Int32), xl_fr sp_CS h0 h → ch_C h cm → (∀ x y, x ≤ o.length → y ≤ a.length → cm x y = nI (sp_lcs (o.drop x) (a.drop y))) → Q none h) :
    ∀ (i : Nat), i ≤ o.length → ∀ (h : xm_H) (cm : Nat → Nat → Int32) (z : Int32), xl_fr sp_CS h0 h → ch_C h cm → (∀ x y, i < x → x ≤ o.length → y ≤ a.length → cm x y = nI (sp_lcs (o.drop x) (a.drop y))) →
      xm_X L xs (xm_call L xs (d + 1)) m_U_countCommon (16, [.ref 15, .long (lN (sp_enc o)), .float 0, .long (lN (sp_enc a)), .float 0, .int (nI o.length), .int (nI a.length), .int (nI i), .int z], [], h, 0, 0) Q := by
  have l8 := ho.1
  have m8 := ha.1
  intro i
  induction i with
  | zero =>
    intro hi h cm z hf hC hR
    have hU := ch_U0_go hU0 hf
    refine x_iload (pc' := 18) d_U_countCommon_16 rfl rfl ?_
    refine x_iflt (t := 152) (pc' := 21) d_U_countCommon_18 rfl rfl (fun q => absurd q (nI_pos (by omega))) (fun _ => ?_)
    refine x_iload (pc' := 23) d_U_countCommon_21 rfl rfl ?_
    refine x_istore (lo' := [.ref 15, .long (lN (sp_enc o)), .float 0, .long (lN (sp_enc a)), .float 0, .int (nI o.length), .int (nI a.length), .int (nI 0), .int (nI a.length)]) (pc' := 25) d_U_countCommon_23 rfl (Nat.le_of_ble_eq_true rfl) rfl ?_
    refine l_U_cc2 ho ha hi hU0 (fun h1 cm1 hf1 hC1 hT1 => ?_) a.length (Nat.le_refl _) h cm hf hC hR (fun y h1 h2 => absurd h1 (by omega))
    refine x_iinc (y := (-1)) (lo' := [.ref 15, .long (lN (sp_enc o)), .float 0, .long (lN (sp_enc a)), .float 0, .int (nI o.length), .int (nI a.length), .int (-1), .int (-1)]) (pc' := 149) d_U_countCommon_146 rfl rfl (by decide) rfl ?_
    refine x_goto (t := 16) d_U_countCommon_149 rfl ?_
    refine x_iload (pc' := 18) d_U_countCommon_16 rfl rfl ?_
    refine x_iflt (t := 152) (pc' := 21) d_U_countCommon_18 rfl rfl (fun _ => ?_) (fun q => absurd (by decide) q)
    exact x_return d_U_countCommon_152 rfl (hQ _ _ hf1 hC1 (fun x y h1 h2 => hT1 x y (Nat.zero_le _) h1 h2))
  | succ i ih =>
    intro hi h cm z hf hC hR
    have hU := ch_U0_go hU0 hf
    refine x_iload (pc' := 18) d_U_countCommon_16 rfl rfl ?_
    refine x_iflt (t := 152) (pc' := 21) d_U_countCommon_18 rfl rfl (fun q => absurd q (nI_pos (by omega))) (fun _ => ?_)
    refine x_iload (pc' := 23) d_U_countCommon_21 rfl rfl ?_
    refine x_istore (lo' := [.ref 15, .long (lN (sp_enc o)), .float 0, .long (lN (sp_enc a)), .float 0, .int (nI o.length), .int (nI a.length), .int (nI (i + 1)), .int (nI a.length)]) (pc' := 25) d_U_countCommon_23 rfl (Nat.le_of_ble_eq_true rfl) rfl ?_
    refine l_U_cc2 ho ha hi hU0 (fun h1 cm1 hf1 hC1 hT1 => ?_) a.length (Nat.le_refl _) h cm hf hC hR (fun y h1 h2 => absurd h1 (by omega))
    refine x_iinc (y := nI i) (lo' := [.ref 15, .long (lN (sp_enc o)), .float 0, .long (lN (sp_enc a)), .float 0, .int (nI o.length), .int (nI a.length), .int (nI i), .int (-1)]) (pc' := 149) d_U_countCommon_146 rfl rfl (sp_nI_dec i) rfl ?_
    refine x_goto (t := 16) d_U_countCommon_149 rfl ?_
    exact ih (by omega) h1 cm1 _ hf1 hC1 (fun x y h2 h3 h4 => hT1 x y h2 h3 h4)
theorem l_U_cc4 {L : Nat} {xs : Nat → Int32} {d : Nat} {Q : xm_Q} {o a : List Nat} {h : xm_H} {cm : Nat → Nat → Int32} (hi : o.length ≤ 8) (hU : ch_U0 h) (hC : ch_C h cm)
    (k : xm_X L xs (xm_call L xs (d + 1)) m_U_countCommon (25, [.ref 15, .long (lN (sp_enc o)), .float 0, .long (lN (sp_enc a)), .float 0, .int (nI o.length), .int (nI a.length), .int (nI o.length), .int (nI a.length)], [], h, 0, 0) Q) : xm_X L xs (xm_call L xs (d + 1)) m_U_countCommon (16, [.ref 15, .long (lN (sp_enc o)), .float 0, .long (lN (sp_enc a)), .float 0, .int (nI o.length), .int (nI a.length), .int (nI o.length), .float 0], [], h, 0, 0) Q := by
  refine x_iload (pc' := 18) d_U_countCommon_16 rfl rfl ?_
  refine x_iflt (t := 152) (pc' := 21) d_U_countCommon_18 rfl rfl (fun q => absurd q (nI_pos (by omega))) (fun _ => ?_)
  refine x_iload (pc' := 23) d_U_countCommon_21 rfl rfl ?_
  refine x_istore (lo' := [.ref 15, .long (lN (sp_enc o)), .float 0, .long (lN (sp_enc a)), .float 0, .int (nI o.length), .int (nI a.length), .int (nI o.length), .int (nI a.length)]) (pc' := 25) d_U_countCommon_23 rfl (Nat.le_of_ble_eq_true rfl) rfl ?_
  exact k
theorem c_U_countCommon {L : Nat} {xs : Nat → Int32} {d : Nat} {Q : xm_Q} {o a : List Nat} {h : xm_H} {cm : Nat → Nat → Int32} (ho : sp_wl o) (ha : sp_wl a) (hU : ch_U0 h) (hC : ch_C h cm)
    (hQ : ∀ (h' : xm_H) (cm' : Nat → Nat → Int32), xl_fr sp_CS h h' → ch_C h' cm' → (∀ x y, x ≤ o.length → y ≤ a.length → cm' x y = nI (sp_lcs (o.drop x) (a.drop y))) → Q none h') : xm_call L xs (d + 2) m_U_countCommon [.ref 15, .long (lN (sp_enc o)), .long (lN (sp_enc a))] h Q := by
  have l8 := ho.1
  refine x_call (lo := [.ref 15, .long (lN (sp_enc o)), .float 0, .long (lN (sp_enc a)), .float 0, .float 0, .float 0, .float 0, .float 0]) (Nat.le_of_ble_eq_true rfl) rfl ?_
  refine x_lload_n (pc' := 1) d_U_countCommon_0 rfl rfl rfl ?_
  refine x_static (as := [.long (lN (sp_enc o))]) (r := []) (v := (some (.int (nI o.length)))) (h' := h) (st' := [.int (nI o.length)]) (c' := 0) (s' := 0) (pc' := 4) d_U_countCommon_1 rfl c_U_52 rfl rfl (Nat.le_of_ble_eq_true rfl) (Nat.le_of_ble_eq_true rfl) (Nat.le_of_ble_eq_true rfl) (fun Q' hq => c_T_countOf ho hq) rfl rfl rfl ?_
  refine x_istore (lo' := [.ref 15, .long (lN (sp_enc o)), .float 0, .long (lN (sp_enc a)), .float 0, .int (nI o.length), .float 0, .float 0, .float 0]) (pc' := 6) d_U_countCommon_4 rfl (Nat.le_of_ble_eq_true rfl) rfl ?_
  refine x_lload_n (pc' := 7) d_U_countCommon_6 rfl rfl rfl ?_
  refine x_static (as := [.long (lN (sp_enc a))]) (r := []) (v := (some (.int (nI a.length)))) (h' := h) (st' := [.int (nI a.length)]) (c' := 0) (s' := 0) (pc' := 10) d_U_countCommon_7 rfl c_U_52 rfl rfl (Nat.le_of_ble_eq_true rfl) (Nat.le_of_ble_eq_true rfl) (Nat.le_of_ble_eq_true rfl) (fun Q' hq => c_T_countOf ha hq) rfl rfl rfl ?_
  refine x_istore (lo' := [.ref 15, .long (lN (sp_enc o)), .float 0, .long (lN (sp_enc a)), .float 0, .int (nI o.length), .int (nI a.length), .float 0, .float 0]) (pc' := 12) d_U_countCommon_10 rfl (Nat.le_of_ble_eq_true rfl) rfl ?_
  refine x_iload (pc' := 14) d_U_countCommon_12 rfl rfl ?_
  refine x_istore (lo' := [.ref 15, .long (lN (sp_enc o)), .float 0, .long (lN (sp_enc a)), .float 0, .int (nI o.length), .int (nI a.length), .int (nI o.length), .float 0]) (pc' := 16) d_U_countCommon_14 rfl (Nat.le_of_ble_eq_true rfl) rfl ?_
  refine l_U_cc4 l8 hU hC ?_
  obtain ⟨n, hn⟩ : ∃ n, n = o.length := ⟨_, rfl⟩
  refine l_U_cc2 ho ha (Nat.le_refl _) hU (fun h1 cm1 hf1 hC1 hT1 => ?_) a.length (Nat.le_refl _) h cm xl_rf hC (fun x y h1 h2 h3 => absurd h1 (by omega)) (fun y h1 h2 => absurd h1 (by omega))
  cases hl : o.length with
  | zero =>
    rw [hl] at hT1
    refine x_iinc (y := (-1)) (lo' := [.ref 15, .long (lN (sp_enc o)), .float 0, .long (lN (sp_enc a)), .float 0, .int (nI 0), .int (nI a.length), .int (-1), .int (-1)]) (pc' := 149) d_U_countCommon_146 rfl rfl (by decide) rfl ?_
    refine x_goto (t := 16) d_U_countCommon_149 rfl ?_
    refine x_iload (pc' := 18) d_U_countCommon_16 rfl rfl ?_
    refine x_iflt (t := 152) (pc' := 21) d_U_countCommon_18 rfl rfl (fun _ => ?_) (fun q => absurd (by decide) q)
    exact x_return d_U_countCommon_152 rfl (hQ _ _ hf1 hC1 (fun x y h1 h2 => hT1 x y (Nat.zero_le _) (by rw [hl] at h1; exact h1) h2))
  | succ i =>
    rw [hl] at hT1
    rw [← hl]
    refine x_iinc (y := nI i) (lo' := [.ref 15, .long (lN (sp_enc o)), .float 0, .long (lN (sp_enc a)), .float 0, .int (nI o.length), .int (nI a.length), .int (nI i), .int (-1)]) (pc' := 149) d_U_countCommon_146 rfl rfl (by rw [hl]; exact sp_nI_dec i) rfl ?_
    refine x_goto (t := 16) d_U_countCommon_149 rfl ?_
    exact l_U_cc3 ho ha hU hQ i (by omega) h1 cm1 _ hf1 hC1 (fun x y h2 h3 h4 => hT1 x y h2 (by rw [← hl]; exact h3) h4)
