/-! rebase of the reference. (Printed by c_mg.py.) -/
abbrev sp_RB : Nat → Prop := fun k => 29 ≤ k ∧ k ≤ 33
abbrev sp_RR (R : sp_R) (H : sp_H) (o : Nat) : sp_R := (sp_tip R, sp_cur R, sp_held R ||| sp_rr H o, sp_wk R, sp_ix R)
theorem sp_rr_ch {R : sp_R} {H : sp_H} {o : Nat} {t : sp_T} : (sp_held R ||| sp_rr H o) ||| 2 ^ sp_n H = sp_held R ||| sp_rr (sp_add H t (some o) none) (sp_n H) := by
  rw [sp_rr_new, show sp_ro H none = 0 from rfl, Nat.or_zero, Nat.or_assoc, Nat.or_comm (2 ^ sp_n H)]
  rfl
set_option maxHeartbeats 8000000 in
theorem l_M_rb {L : Nat} {xs : Nat → Int32} {d : Nat} {h : xm_H} {Q : xm_Q} {S : sp_S} {tk : Int32} {r b N : Nat} (hr : r < 2) (hh64 : sp_held (S.2 r) < 2 ^ 64) {s : Nat → Int64} (s1 : h[46]? = some (.inl (.long, 160, .inr (.inl s)))) (hN : N ≤ 40) :
    ∀ (ts : List sp_T) (H : sp_H) (o k : Nat) (h1 : xm_H) (x6 : Value), k + ts.length = N → (∀ i, i < ts.length → ∀ f, f < 4 → s (4 * (k + i) + f) = sp_tv ((ts.getD i (fun _ => none)) f)) → sp_n H + ts.length ≤ 40 → (∀ u ∈ ts, sp_w4 u) → sp_WH H → o < sp_n H → mk h1 (sp_set (H, S.2) r (sp_RR (S.2 r) H o)) → mo h1 (sp_n H) tk → xl_fr sp_RB h h1 →
      (∀ (h' : xm_H) (l : Nat) (x6 : Value), (sp_adds H (some o) ts).2 = some l → mk h' (sp_set ((sp_adds H (some o) ts).1, S.2) r (sp_RR (S.2 r) (sp_adds H (some o) ts).1 l)) → mo h' (sp_n (sp_adds H (some o) ts).1) tk → sp_WH (sp_adds H (some o) ts).1 → l < sp_n (sp_adds H (some o) ts).1 → xl_fr sp_RB h h' → xm_X L xs (xm_call L xs (d + 7)) m_M_rebase (185, [.ref 29, .int (nI r), .int (nI b), .int (nI l), .int (nI N), .int (nI N), x6], [], h', 0, 0) Q) → xm_X L xs (xm_call L xs (d + 7)) m_M_rebase (125, [.ref 29, .int (nI r), .int (nI b), .int (nI o), .int (nI N), .int (nI k), x6], [], h1, 0, 0) Q := by
  intro ts
  induction ts with
  | nil =>
    intro H o k h1 x6 hk hs hl hw4 hW ho a hO hf K
    have hk : k = N := hk
    subst hk
    refine x_iload (pc' := 127) d_M_rebase_125 rfl rfl ?_
    refine x_iload (pc' := 129) d_M_rebase_127 rfl rfl ?_
    refine x_icmpge (t := 185) (pc' := 132) d_M_rebase_129 rfl rfl (fun _ => ?_) (fun q => absurd (nI_le (Nat.le_refl _) (by omega)) q)
    exact K h1 o x6 rfl a hO hW ho hf
  | cons t ts ih =>
    intro H o k h1 x6 hk hs hl hw4 hW ho a hO hf K
    rw [List.length_cons] at hk hl
    have hkN : k < N := by omega
    have hs0 : ∀ f, f < 4 → s (4 * k + f) = sp_tv (t f) := fun f hf => by have := hs 0 (by rw [List.length_cons]; omega) f hf; exact this
    obtain ⟨T, T1, T2⟩ := a.2.1
    obtain ⟨P1, p1, p2⟩ := a.2.2.1
    obtain ⟨P2, q1, q2⟩ := a.2.2.2.1
    obtain ⟨g, g1, g2⟩ := a.2.2.2.2.1
    have gr : g r = lN (sp_held (S.2 r) ||| sp_rr H o) := by rw [g2 r hr, show (sp_set (H, S.2) r (sp_RR (S.2 r) H o)).2 r = sp_RR (S.2 r) H o from sp_up_at]
    have m64 : sp_held (S.2 r) ||| sp_rr H o < 2 ^ 64 := Nat.or_lt_two_pow hh64 (sp_WH_64 hW (c := some o) (sp_ok_some ho))
    refine x_iload (pc' := 127) d_M_rebase_125 rfl rfl ?_
    refine x_iload (pc' := 129) d_M_rebase_127 rfl rfl ?_
    refine x_icmpge (t := 185) (pc' := 132) d_M_rebase_129 rfl rfl (fun q => absurd q (nI_ge hkN (by omega))) (fun _ => ?_)
    refine x_aload_n (pc' := 133) d_M_rebase_132 rfl rfl ?_
    refine x_iload_n (pc' := 134) d_M_rebase_133 rfl rfl ?_
    refine x_iload_n (pc' := 135) d_M_rebase_134 rfl rfl ?_
    refine x_bipush (v := sp_vi none) (pc' := 137) d_M_rebase_135 rfl (by decide) ?_
    refine x_virtualR (a := 29) (as := [.int (nI r), .int (nI o), .int (sp_vi none)]) (r := []) (Post := fun v9 h9 => v9 = some (.int (nI (sp_n H))) ∧ mo h9 (sp_n H + 1) tk ∧ h9[31]? = some (.inl (.int, 40, .inl (upd P1 (sp_n H) (sp_vi (some o))))) ∧ h9[32]? = some (.inl (.int, 40, .inl (upd P2 (sp_n H) (sp_vi none)))) ∧ h9[33]? = some (.inl (.long, 2, .inr (.inl (vp_updL g r (lN ((sp_held (S.2 r) ||| sp_rr H o) ||| 2 ^ sp_n H)))))) ∧ xl_fr sp_MK h1 h9) (c' := 0) (s' := 0) (pc' := 140) d_M_rebase_137 rfl c_M_126 hO rfl rfl (Nat.le_of_ble_eq_true rfl) (Nat.le_of_ble_eq_true rfl) (Nat.le_of_ble_eq_true rfl) (fun Q' hq => c_M_make hO (by omega) p1 q1 g1 hr gr m64 (fun h' z1 z2 z3 z4 z5 => hq _ h' ⟨rfl, z1, z2, z3, z4, z5⟩)) rfl rfl (fun v9 h2 hp => ?_)
    obtain ⟨rfl, O2, m1, m2, m3, f2⟩ := hp
    show xm_X L xs (xm_call L xs (d + 7)) m_M_rebase (140, [.ref 29, .int (nI r), .int (nI b), .int (nI o), .int (nI N), .int (nI k), x6], [.int (nI (sp_n H))], h2, 0, 0) Q
    have S2 := (f2.2 30 (by omega)).trans T1
    have Z2 := (f2.2 46 (by omega)).trans (by exact (hf.2 46 (by omega)).trans s1)
    refine x_istore_n (lo' := [.ref 29, .int (nI r), .int (nI b), .int (nI (sp_n H)), .int (nI N), .int (nI k), x6]) (pc' := 141) d_M_rebase_140 rfl (Nat.le_of_ble_eq_true rfl) rfl ?_
    refine x_iconst (v := nI 0) (pc' := 142) d_M_rebase_141 rfl (by decide) ?_
    refine x_istore (lo' := [.ref 29, .int (nI r), .int (nI b), .int (nI (sp_n H)), .int (nI N), .int (nI k), .int (nI 0)]) (pc' := 144) d_M_rebase_142 rfl (Nat.le_of_ble_eq_true rfl) rfl ?_
    refine x_iload (pc' := 146) d_M_rebase_144 rfl rfl ?_
    refine x_iconst (v := nI 4) (pc' := 147) d_M_rebase_146 rfl (by decide) ?_
    refine x_icmpge (t := 179) (pc' := 150) d_M_rebase_147 rfl rfl (fun q => absurd q (nI_ge (by decide) (by decide))) (fun _ => ?_)
    refine x_aload_n (pc' := 151) d_M_rebase_150 rfl rfl ?_
    refine x_getfield (ci := 4) (i := 1) (v := .ref 30) (pc' := 154) d_M_rebase_151 rfl g_M_7 O2 rfl ?_
    refine x_iconst (v := nI 4) (pc' := 155) d_M_rebase_154 rfl (by decide) ?_
    refine x_iload_n (pc' := 156) d_M_rebase_155 rfl rfl ?_
    refine x_imul (z := nI (4 * sp_n H)) (pc' := 157) d_M_rebase_156 rfl (pk_mul 4 _) ?_
    refine x_iload (pc' := 159) d_M_rebase_157 rfl rfl ?_
    refine x_iadd (z := nI (4 * sp_n H + 0)) (pc' := 160) d_M_rebase_159 rfl (nI_add _ _) ?_
    refine x_aload_n (pc' := 161) d_M_rebase_160 rfl rfl ?_
    refine x_getfield (ci := 4) (i := 18) (v := .ref 46) (pc' := 164) d_M_rebase_161 rfl g_M_59 O2 rfl ?_
    refine x_iconst (v := nI 4) (pc' := 165) d_M_rebase_164 rfl (by decide) ?_
    refine x_iload (pc' := 167) d_M_rebase_165 rfl rfl ?_
    refine x_imul (z := nI (4 * k)) (pc' := 168) d_M_rebase_167 rfl (pk_mul 4 k) ?_
    refine x_iload (pc' := 170) d_M_rebase_168 rfl rfl ?_
    refine x_iadd (z := nI (4 * k + 0)) (pc' := 171) d_M_rebase_170 rfl (nI_add _ _) ?_
    refine x_laload (v := sp_tv (t 0)) (pc' := 172) d_M_rebase_171 rfl Z2 (vp_in_nI (by omega) (by decide)) (by rw [nI_clamp (by omega)]; exact hs0 0 (by decide)) ?_
    refine x_lastore (h' := (h2.set 30 (.inl (.long, 160, .inr (.inl (vp_updL T (4 * sp_n H + 0) (sp_tv (t 0)))))))) (pc' := 173) d_M_rebase_172 rfl S2 (vp_in_nI (by omega) (by decide)) (by rw [nI_clamp (by omega)]) ?_
    refine x_iinc (y := nI 1) (lo' := [.ref 29, .int (nI r), .int (nI b), .int (nI (sp_n H)), .int (nI N), .int (nI k), .int (nI 1)]) (pc' := 176) d_M_rebase_173 rfl rfl (sp_nI_inc 0) rfl ?_
    refine x_goto (t := 144) d_M_rebase_176 rfl ?_
    refine x_iload (pc' := 146) d_M_rebase_144 rfl rfl ?_
    refine x_iconst (v := nI 4) (pc' := 147) d_M_rebase_146 rfl (by decide) ?_
    refine x_icmpge (t := 179) (pc' := 150) d_M_rebase_147 rfl rfl (fun q => absurd q (nI_ge (by decide) (by decide))) (fun _ => ?_)
    refine x_aload_n (pc' := 151) d_M_rebase_150 rfl rfl ?_
    refine x_getfield (ci := 4) (i := 1) (v := .ref 30) (pc' := 154) d_M_rebase_151 rfl g_M_7 ((xl_ne (by decide)).trans O2) rfl ?_
    refine x_iconst (v := nI 4) (pc' := 155) d_M_rebase_154 rfl (by decide) ?_
    refine x_iload_n (pc' := 156) d_M_rebase_155 rfl rfl ?_
    refine x_imul (z := nI (4 * sp_n H)) (pc' := 157) d_M_rebase_156 rfl (pk_mul 4 _) ?_
    refine x_iload (pc' := 159) d_M_rebase_157 rfl rfl ?_
    refine x_iadd (z := nI (4 * sp_n H + 1)) (pc' := 160) d_M_rebase_159 rfl (nI_add _ _) ?_
    refine x_aload_n (pc' := 161) d_M_rebase_160 rfl rfl ?_
    refine x_getfield (ci := 4) (i := 18) (v := .ref 46) (pc' := 164) d_M_rebase_161 rfl g_M_59 ((xl_ne (by decide)).trans O2) rfl ?_
    refine x_iconst (v := nI 4) (pc' := 165) d_M_rebase_164 rfl (by decide) ?_
    refine x_iload (pc' := 167) d_M_rebase_165 rfl rfl ?_
    refine x_imul (z := nI (4 * k)) (pc' := 168) d_M_rebase_167 rfl (pk_mul 4 k) ?_
    refine x_iload (pc' := 170) d_M_rebase_168 rfl rfl ?_
    refine x_iadd (z := nI (4 * k + 1)) (pc' := 171) d_M_rebase_170 rfl (nI_add _ _) ?_
    refine x_laload (v := sp_tv (t 1)) (pc' := 172) d_M_rebase_171 rfl ((xl_ne (by decide)).trans Z2) (vp_in_nI (by omega) (by decide)) (by rw [nI_clamp (by omega)]; exact hs0 1 (by decide)) ?_
    refine x_lastore (h' := (h2.set 30 (.inl (.long, 160, .inr (.inl (vp_updL (vp_updL T (4 * sp_n H + 0) (sp_tv (t 0))) (4 * sp_n H + 1) (sp_tv (t 1)))))))) (pc' := 173) d_M_rebase_172 rfl (xl_at S2) (vp_in_nI (by omega) (by decide)) (by rw [nI_clamp (by omega), List.set_set]) ?_
    refine x_iinc (y := nI 2) (lo' := [.ref 29, .int (nI r), .int (nI b), .int (nI (sp_n H)), .int (nI N), .int (nI k), .int (nI 2)]) (pc' := 176) d_M_rebase_173 rfl rfl (sp_nI_inc 1) rfl ?_
    refine x_goto (t := 144) d_M_rebase_176 rfl ?_
    refine x_iload (pc' := 146) d_M_rebase_144 rfl rfl ?_
    refine x_iconst (v := nI 4) (pc' := 147) d_M_rebase_146 rfl (by decide) ?_
    refine x_icmpge (t := 179) (pc' := 150) d_M_rebase_147 rfl rfl (fun q => absurd q (nI_ge (by decide) (by decide))) (fun _ => ?_)
    refine x_aload_n (pc' := 151) d_M_rebase_150 rfl rfl ?_
    refine x_getfield (ci := 4) (i := 1) (v := .ref 30) (pc' := 154) d_M_rebase_151 rfl g_M_7 ((xl_ne (by decide)).trans O2) rfl ?_
    refine x_iconst (v := nI 4) (pc' := 155) d_M_rebase_154 rfl (by decide) ?_
    refine x_iload_n (pc' := 156) d_M_rebase_155 rfl rfl ?_
    refine x_imul (z := nI (4 * sp_n H)) (pc' := 157) d_M_rebase_156 rfl (pk_mul 4 _) ?_
    refine x_iload (pc' := 159) d_M_rebase_157 rfl rfl ?_
    refine x_iadd (z := nI (4 * sp_n H + 2)) (pc' := 160) d_M_rebase_159 rfl (nI_add _ _) ?_
    refine x_aload_n (pc' := 161) d_M_rebase_160 rfl rfl ?_
    refine x_getfield (ci := 4) (i := 18) (v := .ref 46) (pc' := 164) d_M_rebase_161 rfl g_M_59 ((xl_ne (by decide)).trans O2) rfl ?_
    refine x_iconst (v := nI 4) (pc' := 165) d_M_rebase_164 rfl (by decide) ?_
    refine x_iload (pc' := 167) d_M_rebase_165 rfl rfl ?_
    refine x_imul (z := nI (4 * k)) (pc' := 168) d_M_rebase_167 rfl (pk_mul 4 k) ?_
    refine x_iload (pc' := 170) d_M_rebase_168 rfl rfl ?_
    refine x_iadd (z := nI (4 * k + 2)) (pc' := 171) d_M_rebase_170 rfl (nI_add _ _) ?_
    refine x_laload (v := sp_tv (t 2)) (pc' := 172) d_M_rebase_171 rfl ((xl_ne (by decide)).trans Z2) (vp_in_nI (by omega) (by decide)) (by rw [nI_clamp (by omega)]; exact hs0 2 (by decide)) ?_
    refine x_lastore (h' := (h2.set 30 (.inl (.long, 160, .inr (.inl (vp_updL (vp_updL (vp_updL T (4 * sp_n H + 0) (sp_tv (t 0))) (4 * sp_n H + 1) (sp_tv (t 1))) (4 * sp_n H + 2) (sp_tv (t 2)))))))) (pc' := 173) d_M_rebase_172 rfl (xl_at S2) (vp_in_nI (by omega) (by decide)) (by rw [nI_clamp (by omega), List.set_set]) ?_
    refine x_iinc (y := nI 3) (lo' := [.ref 29, .int (nI r), .int (nI b), .int (nI (sp_n H)), .int (nI N), .int (nI k), .int (nI 3)]) (pc' := 176) d_M_rebase_173 rfl rfl (sp_nI_inc 2) rfl ?_
    refine x_goto (t := 144) d_M_rebase_176 rfl ?_
    refine x_iload (pc' := 146) d_M_rebase_144 rfl rfl ?_
    refine x_iconst (v := nI 4) (pc' := 147) d_M_rebase_146 rfl (by decide) ?_
    refine x_icmpge (t := 179) (pc' := 150) d_M_rebase_147 rfl rfl (fun q => absurd q (nI_ge (by decide) (by decide))) (fun _ => ?_)
    refine x_aload_n (pc' := 151) d_M_rebase_150 rfl rfl ?_
    refine x_getfield (ci := 4) (i := 1) (v := .ref 30) (pc' := 154) d_M_rebase_151 rfl g_M_7 ((xl_ne (by decide)).trans O2) rfl ?_
    refine x_iconst (v := nI 4) (pc' := 155) d_M_rebase_154 rfl (by decide) ?_
    refine x_iload_n (pc' := 156) d_M_rebase_155 rfl rfl ?_
    refine x_imul (z := nI (4 * sp_n H)) (pc' := 157) d_M_rebase_156 rfl (pk_mul 4 _) ?_
    refine x_iload (pc' := 159) d_M_rebase_157 rfl rfl ?_
    refine x_iadd (z := nI (4 * sp_n H + 3)) (pc' := 160) d_M_rebase_159 rfl (nI_add _ _) ?_
    refine x_aload_n (pc' := 161) d_M_rebase_160 rfl rfl ?_
    refine x_getfield (ci := 4) (i := 18) (v := .ref 46) (pc' := 164) d_M_rebase_161 rfl g_M_59 ((xl_ne (by decide)).trans O2) rfl ?_
    refine x_iconst (v := nI 4) (pc' := 165) d_M_rebase_164 rfl (by decide) ?_
    refine x_iload (pc' := 167) d_M_rebase_165 rfl rfl ?_
    refine x_imul (z := nI (4 * k)) (pc' := 168) d_M_rebase_167 rfl (pk_mul 4 k) ?_
    refine x_iload (pc' := 170) d_M_rebase_168 rfl rfl ?_
    refine x_iadd (z := nI (4 * k + 3)) (pc' := 171) d_M_rebase_170 rfl (nI_add _ _) ?_
    refine x_laload (v := sp_tv (t 3)) (pc' := 172) d_M_rebase_171 rfl ((xl_ne (by decide)).trans Z2) (vp_in_nI (by omega) (by decide)) (by rw [nI_clamp (by omega)]; exact hs0 3 (by decide)) ?_
    refine x_lastore (h' := (h2.set 30 (.inl (.long, 160, .inr (.inl (vp_updL (vp_updL (vp_updL (vp_updL T (4 * sp_n H + 0) (sp_tv (t 0))) (4 * sp_n H + 1) (sp_tv (t 1))) (4 * sp_n H + 2) (sp_tv (t 2))) (4 * sp_n H + 3) (sp_tv (t 3)))))))) (pc' := 173) d_M_rebase_172 rfl (xl_at S2) (vp_in_nI (by omega) (by decide)) (by rw [nI_clamp (by omega), List.set_set]) ?_
    refine x_iinc (y := nI 4) (lo' := [.ref 29, .int (nI r), .int (nI b), .int (nI (sp_n H)), .int (nI N), .int (nI k), .int (nI 4)]) (pc' := 176) d_M_rebase_173 rfl rfl (sp_nI_inc 3) rfl ?_
    refine x_goto (t := 144) d_M_rebase_176 rfl ?_
    refine x_iload (pc' := 146) d_M_rebase_144 rfl rfl ?_
    refine x_iconst (v := nI 4) (pc' := 147) d_M_rebase_146 rfl (by decide) ?_
    refine x_icmpge (t := 179) (pc' := 150) d_M_rebase_147 rfl rfl (fun _ => ?_) (fun q => absurd (nI_le (Nat.le_refl _) (by decide)) q)
    refine x_iinc (y := nI (k + 1)) (lo' := [.ref 29, .int (nI r), .int (nI b), .int (nI (sp_n H)), .int (nI N), .int (nI (k + 1)), .int (nI 4)]) (pc' := 182) d_M_rebase_179 rfl rfl (sp_nI_inc k) rfl ?_
    refine x_goto (t := 125) d_M_rebase_182 rfl ?_
    have a5 : mk (h2.set 30 (.inl (.long, 160, .inr (.inl (vp_updL (vp_updL (vp_updL (vp_updL T (4 * sp_n H + 0) (sp_tv (t 0))) (4 * sp_n H + 1) (sp_tv (t 1))) (4 * sp_n H + 2) (sp_tv (t 2))) (4 * sp_n H + 3) (sp_tv (t 3))))))) (sp_set ((sp_add H t (some o) none), S.2) r (sp_RR (S.2 r) (sp_add H t (some o) none) (sp_n H))) := by
      have := mk_add (S := (H, S.2)) (R := sp_RR (S.2 r) H o) (t := t) (o1 := some o) (o2 := none) (by show sp_n H < 40; omega) hr (T' := sp_q4 T (4 * sp_n H) (fun f => sp_tv (t f))) (h' := (h2.set 30 (.inl (.long, 160, .inr (.inl (vp_updL (vp_updL (vp_updL (vp_updL T (4 * sp_n H + 0) (sp_tv (t 0))) (4 * sp_n H + 1) (sp_tv (t 1))) (4 * sp_n H + 2) (sp_tv (t 2))) (4 * sp_n H + 3) (sp_tv (t 3)))))))) (xl_at S2) (fun j hj => (sp_q4_lo _ _ _ (Or.inl hj)).trans (T2 j hj)) (fun f hf => sp_q4_hi _ _ _ hf) ((xl_ne (by decide)).trans m1) p2 ((xl_ne (by decide)).trans m2) q2 ((xl_ne (by decide)).trans m3) g2 (fun k z1 z2 => (xl_ne (by omega)).trans (f2.2 k (by omega))) a
      have e := sp_rr_ch (R := S.2 r) (H := H) (o := o) (t := t)
      show mk _ (sp_set (_, S.2) r (sp_tip (S.2 r), sp_cur (S.2 r), sp_held (S.2 r) ||| sp_rr (sp_add H t (some o) none) (sp_n H), sp_wk (S.2 r), sp_ix (S.2 r)))
      rw [← e]
      exact this
    exact ih (sp_add H t (some o) none) (sp_n H) (k + 1) (h2.set 30 (.inl (.long, 160, .inr (.inl (vp_updL (vp_updL (vp_updL (vp_updL T (4 * sp_n H + 0) (sp_tv (t 0))) (4 * sp_n H + 1) (sp_tv (t 1))) (4 * sp_n H + 2) (sp_tv (t 2))) (4 * sp_n H + 3) (sp_tv (t 3))))))) _ (by omega) (fun i hi f hf9 => by have := hs (i + 1) (by rw [List.length_cons]; omega) f hf9; rw [show 4 * (k + (i + 1)) = 4 * (k + 1 + i) by omega] at this; exact this) (by show sp_n H + 1 + ts.length ≤ 40; omega) (fun u hu => hw4 u (List.mem_cons_of_mem _ hu)) (sp_WH_add hW (by omega) (sp_ok_some ho) sp_ok_none (hw4 t (List.mem_cons_self ..))) (Nat.lt_succ_self _) a5 ((xl_ne (by decide)).trans O2) (xl_tr hf (xl_tr (xl_mono f2 (fun k z => by rcases z with z | z; exact ⟨by omega, by omega⟩; exact ⟨by omega, z.2⟩)) (xl_set ⟨by decide, by decide⟩))) K
