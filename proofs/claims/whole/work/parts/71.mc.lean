/-! again, merge of the reference. (Printed by c_mc.py.) -/
def sp_rk (h : xm_H) (q : Nat) (t : sp_T) (k : Nat) : Prop := ∃ f : Nat → Int64, h[q]? = some (.inl (.long, 4, .inr (.inl f))) ∧ ∀ j, j < k → f j = sp_tv (t j)
theorem sp_rk_s {h : xm_H} {q : Nat} {t : sp_T} {k : Nat} {f : Nat → Int64} (h1 : h[q]? = some (.inl (.long, 4, .inr (.inl f)))) (h2 : ∀ j, j < k → f j = sp_tv (t j)) (hk : k < 4) : sp_rk (h.set q (.inl (.long, 4, .inr (.inl (vp_updL f (nI k).toNatClampNeg (sp_tv (t k))))))) q t (k + 1) := by
  refine ⟨_, xl_at h1, fun j hj => ?_⟩
  rw [nI_clamp (by omega)]
  by_cases e : j = k
  · rw [e, sp_updL_at]
  · rw [sp_updL_ne e]; exact h2 j (by omega)
theorem sp_rk_go {h h' : xm_H} {q : Nat} {t : sp_T} {k : Nat} (a : sp_rk h q t k) (e : h'[q]? = h[q]?) : sp_rk h' q t k := ⟨a.choose, e.trans a.choose_spec.1, a.choose_spec.2⟩
theorem sp_rk_0 {h : xm_H} {q : Nat} {t : sp_T} (a : mw4 h q) : sp_rk h q t 0 := ⟨a.choose, a.choose_spec, fun j hj => absurd hj (Nat.not_lt_zero j)⟩
theorem sp_rk_w {h : xm_H} {q : Nat} {t : sp_T} {k : Nat} (a : sp_rk h q t k) : mw4 h q := ⟨a.choose, a.choose_spec.1⟩
theorem mu_mw {h : xm_H} {n : Nat} {tk : Int32} (hO : mo h n tk) (w : mw h) : mu h n := ⟨⟨tk, hO⟩, w.2.2.2.2.1, w.2.2.2.2.2.1, w.2.2.2.2.2.2.1, w.2.2.2.2.2.2.2.1⟩
theorem mw_mu {h : xm_H} {n : Nat} (h1 : mw4 h 38) (h2 : mw4 h 39) (h3 : mw4 h 40) (h4 : mw4 h 41) (m : mu h n) (h5 : ∃ f : Nat → Int64, h[46]? = some (.inl (.long, 160, .inr (.inl f)))) : mw h := ⟨h1, h2, h3, h4, m.2.1, m.2.2.1, m.2.2.2.1, m.2.2.2.2, h5⟩
/-- a state with the scratch rows and one more row known -/
def mx (h : xm_H) (S : sp_S) : Prop := mk h S ∧ mw h
abbrev sp_MA : Nat → Prop := fun k => k = 29 ∨ (38 ≤ k ∧ k ≤ 45)
theorem sp_hn {H p q n : Nat} (hp : p ||| H = H) (hq : q ||| H = H) : H ||| (2 ^ n ||| p ||| q) = H ||| 2 ^ n := by
  rw [Nat.or_assoc, Nat.or_comm (2 ^ n), ← Nat.or_assoc, ← Nat.or_assoc, Nat.or_comm H p, hp, Nat.or_comm H q, hq]
theorem l_M_again {L : Nat} {xs : Nat → Int32} {d : Nat} {h : xm_H} {Q : xm_Q} {S : sp_S} {tk : Int32} {c : Nat} (hW : sp_WH S.1) (hc : c < sp_n S.1)
    (K : ∀ h1, mk h1 S → mo h1 (sp_n S.1) tk → sp_rk h1 38 (sp_of S.1 (sp_p1 S.1 c)) 4 → sp_rk h1 40 (sp_of S.1 (some c)) 4 → xl_fr (fun k => k = 38 ∨ k = 40) h h1 → xm_X L xs (xm_call L xs (d + 5)) m_M_again (42, [.ref 29, .int (nI c), .int (nI 4)], [], h1, 0, 0) Q) :
    ∀ z k, k + z = 4 → ∀ h1, mk h1 S → mo h1 (sp_n S.1) tk → sp_rk h1 38 (sp_of S.1 (sp_p1 S.1 c)) k → sp_rk h1 40 (sp_of S.1 (some c)) k → xl_fr (fun k => k = 38 ∨ k = 40) h h1 → xm_X L xs (xm_call L xs (d + 5)) m_M_again (2, [.ref 29, .int (nI c), .int (nI k)], [], h1, 0, 0) Q := by
  have hok : sp_ok (sp_n S.1) (sp_p1 S.1 c) := sp_ok_mono (Nat.le_of_lt hc) (hW.2.1 c hc).1
  intro z
  induction z with
  | zero =>
    intro k hk h1 hM hO r1 r2 hf
    have hk : k = 4 := hk
    subst hk
    refine x_iload_n (pc' := 3) d_M_again_2 rfl rfl ?_
    refine x_iconst (v := nI 4) (pc' := 4) d_M_again_3 rfl (by decide) ?_
    refine x_icmpge (t := 42) (pc' := 7) d_M_again_4 rfl rfl (fun _ => ?_) (fun q => absurd (nI_le (Nat.le_refl _) (by decide)) q)
    exact K h1 hM hO r1 r2 hf
  | succ z ih =>
    intro k hk h1 hM hO r1 r2 hf
    have hk4 : k < 4 := by omega
    have h40 := hM.1
    obtain ⟨f, f1, f2⟩ := r1
    obtain ⟨f', f1', f2'⟩ := r2
    obtain ⟨P, p1, p2⟩ := hM.2.2.1
    have M2 : mk (h1.set 38 (.inl (.long, 4, .inr (.inl (vp_updL f (nI k).toNatClampNeg (sp_tv (sp_of S.1 (sp_p1 S.1 c) k))))))) S := mk_go hM (fun k z1 z2 => xl_ne (by omega))
    refine x_iload_n (pc' := 3) d_M_again_2 rfl rfl ?_
    refine x_iconst (v := nI 4) (pc' := 4) d_M_again_3 rfl (by decide) ?_
    refine x_icmpge (t := 42) (pc' := 7) d_M_again_4 rfl rfl (fun q => absurd q (nI_ge hk4 (by decide))) (fun _ => ?_)
    refine x_aload_n (pc' := 8) d_M_again_7 rfl rfl ?_
    refine x_getfield (ci := 4) (i := 9) (v := .ref 38) (pc' := 11) d_M_again_8 rfl g_M_35 hO rfl ?_
    refine x_iload_n (pc' := 12) d_M_again_11 rfl rfl ?_
    refine x_aload_n (pc' := 13) d_M_again_12 rfl rfl ?_
    refine x_aload_n (pc' := 14) d_M_again_13 rfl rfl ?_
    refine x_getfield (ci := 4) (i := 2) (v := .ref 31) (pc' := 17) d_M_again_14 rfl g_M_13 hO rfl ?_
    refine x_iload_n (pc' := 18) d_M_again_17 rfl rfl ?_
    refine x_iaload (v := sp_vi (sp_p1 S.1 c)) (pc' := 19) d_M_again_18 rfl p1 (vp_in_nI (by omega) (by decide)) (by rw [nI_clamp (by omega)]; exact p2 c hc) ?_
    refine x_iload_n (pc' := 20) d_M_again_19 rfl rfl ?_
    refine x_virtual (a := 29) (as := [.int (sp_vi (sp_p1 S.1 c)), .int (nI k)]) (r := [.int (nI k), .ref 38]) (v := (some (.long (sp_tv (sp_of S.1 (sp_p1 S.1 c) k))))) (h' := h1) (st' := [.long (sp_tv (sp_of S.1 (sp_p1 S.1 c) k)), .int (nI k), .ref 38]) (c' := 0) (s' := 0) (pc' := 23) d_M_again_20 rfl c_M_115 hO rfl rfl (Nat.le_of_ble_eq_true rfl) (Nat.le_of_ble_eq_true rfl) (Nat.le_of_ble_eq_true rfl) (fun Q' hq => c_M_textOf hO hM hok hk4 hq) rfl rfl rfl ?_
    refine x_lastore (h' := (h1.set 38 (.inl (.long, 4, .inr (.inl (vp_updL f (nI k).toNatClampNeg (sp_tv (sp_of S.1 (sp_p1 S.1 c) k)))))))) (pc' := 24) d_M_again_23 rfl f1 (vp_in_nI (by omega) (by decide)) rfl ?_
    refine x_aload_n (pc' := 25) d_M_again_24 rfl rfl ?_
    refine x_getfield (ci := 4) (i := 11) (v := .ref 40) (pc' := 28) d_M_again_25 rfl g_M_41 ((xl_ne (by decide)).trans hO) rfl ?_
    refine x_iload_n (pc' := 29) d_M_again_28 rfl rfl ?_
    refine x_aload_n (pc' := 30) d_M_again_29 rfl rfl ?_
    refine x_iload_n (pc' := 31) d_M_again_30 rfl rfl ?_
    refine x_iload_n (pc' := 32) d_M_again_31 rfl rfl ?_
    refine x_virtual (a := 29) (as := [.int (nI c), .int (nI k)]) (r := [.int (nI k), .ref 40]) (v := (some (.long (sp_tv (sp_of S.1 (some c) k))))) (h' := (h1.set 38 (.inl (.long, 4, .inr (.inl (vp_updL f (nI k).toNatClampNeg (sp_tv (sp_of S.1 (sp_p1 S.1 c) k)))))))) (st' := [.long (sp_tv (sp_of S.1 (some c) k)), .int (nI k), .ref 40]) (c' := 0) (s' := 0) (pc' := 35) d_M_again_32 rfl c_M_115 ((xl_ne (by decide)).trans hO) rfl rfl (Nat.le_of_ble_eq_true rfl) (Nat.le_of_ble_eq_true rfl) (Nat.le_of_ble_eq_true rfl) (fun Q' hq => c_M_textOf1 ((xl_ne (by decide)).trans hO) M2 hc hk4 hq) rfl rfl rfl ?_
    refine x_lastore (h' := ((h1.set 38 (.inl (.long, 4, .inr (.inl (vp_updL f (nI k).toNatClampNeg (sp_tv (sp_of S.1 (sp_p1 S.1 c) k))))))).set 40 (.inl (.long, 4, .inr (.inl (vp_updL f' (nI k).toNatClampNeg (sp_tv (sp_of S.1 (some c) k)))))))) (pc' := 36) d_M_again_35 rfl ((xl_ne (by decide)).trans f1') (vp_in_nI (by omega) (by decide)) rfl ?_
    refine x_iinc (y := nI (k + 1)) (lo' := [.ref 29, .int (nI c), .int (nI (k + 1))]) (pc' := 39) d_M_again_36 rfl rfl (sp_nI_inc k) rfl ?_
    refine x_goto (t := 2) d_M_again_39 rfl ?_
    exact ih (k + 1) (by omega) ((h1.set 38 (.inl (.long, 4, .inr (.inl (vp_updL f (nI k).toNatClampNeg (sp_tv (sp_of S.1 (sp_p1 S.1 c) k))))))).set 40 (.inl (.long, 4, .inr (.inl (vp_updL f' (nI k).toNatClampNeg (sp_tv (sp_of S.1 (some c) k))))))) (mk_go M2 (fun k z1 z2 => xl_ne (by omega))) ((xl_ne (by decide)).trans ((xl_ne (by decide)).trans hO)) (sp_rk_go (sp_rk_s f1 f2 hk4) (xl_ne (by decide))) (sp_rk_s ((xl_ne (by decide)).trans f1') f2' hk4) (xl_tr hf (xl_tr (xl_set (by decide)) (xl_set (by decide))))
set_option maxHeartbeats 4000000 in
theorem c_M_again {L : Nat} {xs : Nat → Int32} {d : Nat} {h : xm_H} {Q : xm_Q} {S : sp_S} {tk : Int32} {c : Nat} (hW : sp_WH S.1) (hc : c < sp_n S.1) (hM : mk h S) (hO : mo h (sp_n S.1) tk) (hw : mw h) {t : sp_T} (ht : sp_w4 t) (h39 : sp_rk h 39 t 4)
    (h0 : sp_snap (sp_of S.1 (sp_p1 S.1 c)) t (sp_of S.1 (some c)) = none → ∀ h', mk h' S → (∃ tk, mo h' (sp_n S.1) tk) → mw h' → sp_rk h' 39 t 4 → xl_fr sp_MA h h' → Q (some (.int 0)) h')
    (h1q : ∀ u, sp_snap (sp_of S.1 (sp_p1 S.1 c)) t (sp_of S.1 (some c)) = some u → ∀ h', mk h' S → (∃ tk, mo h' (sp_n S.1) tk) → mw h' → sp_rk h' 39 t 4 → sp_rk h' 41 u 4 → xl_fr sp_MA h h' → Q (some (.int 1)) h') : xm_call L xs (d + 6) m_M_again [.ref 29, .int (nI c)] h Q := by
  refine x_call (lo := [.ref 29, .int (nI c), .float 0]) (Nat.le_of_ble_eq_true rfl) rfl ?_
  refine x_iconst (v := nI 0) (pc' := 1) d_M_again_0 rfl (by decide) ?_
  refine x_istore_n (lo' := [.ref 29, .int (nI c), .int (nI 0)]) (pc' := 2) d_M_again_1 rfl (Nat.le_of_ble_eq_true rfl) rfl ?_
  refine l_M_again hW hc (fun h1 hM hO r1 r2 hf => ?_) 4 0 rfl h hM hO (sp_rk_0 hw.1) (sp_rk_0 hw.2.2.1) xl_rf
  have hok : sp_ok (sp_n S.1) (sp_p1 S.1 c) := sp_ok_mono (Nat.le_of_lt hc) (hW.2.1 c hc).1
  have R39 : sp_rk h1 39 t 4 := sp_rk_go h39 (hf.2 39 (by omega))
  have W41 : mw4 h1 41 := mw4_go hw.2.2.2.1 (hf.2 41 (by omega))
  have MU : mu h1 (sp_n S.1) := by
    obtain ⟨⟨f1, b1⟩, ⟨f2, b2⟩, ⟨f3, b3⟩, ⟨f4, b4⟩, -⟩ := hw.2.2.2.2
    exact ⟨⟨_, hO⟩, ⟨f1, (hf.2 42 (by omega)).trans b1⟩, ⟨f2, (hf.2 43 (by omega)).trans b2⟩, ⟨f3, (hf.2 44 (by omega)).trans b3⟩, ⟨f4, (hf.2 45 (by omega)).trans b4⟩⟩
  have W46 : ∃ f : Nat → Int64, h1[46]? = some (.inl (.long, 160, .inr (.inl f))) := ⟨hw.2.2.2.2.2.2.2.2.choose, (hf.2 46 (by omega)).trans hw.2.2.2.2.2.2.2.2.choose_spec⟩
  refine x_aload_n (pc' := 43) d_M_again_42 rfl rfl ?_
  refine x_virtualR (a := 29) (as := []) (r := []) (Post := fun v9 h9 => (v9 = some (.int 0) ∧ sp_snap (sp_of S.1 (sp_p1 S.1 c)) t (sp_of S.1 (some c)) = none ∧ mu h9 (sp_n S.1) ∧ mw4 h9 41 ∧ xl_fr sp_MU h1 h9) ∨ (v9 = some (.int 1) ∧ ∃ u, sp_snap (sp_of S.1 (sp_p1 S.1 c)) t (sp_of S.1 (some c)) = some u ∧ mu h9 (sp_n S.1) ∧ sp_rk h9 41 u 4 ∧ xl_fr sp_MU h1 h9)) (c' := 0) (s' := 0) (pc' := 46) d_M_again_43 rfl c_M_144 hO rfl rfl (Nat.le_of_ble_eq_true rfl) (Nat.le_of_ble_eq_true rfl) (Nat.le_of_ble_eq_true rfl) (fun Q' hq => c_M_unite (sp_WH_of hW hok) ht (sp_WH_of hW (sp_ok_some hc)) r1 R39 r2 MU W41.choose_spec (fun e h' g z1 z2 z3 => hq _ h' (Or.inl ⟨rfl, e, z1, ⟨g, z2⟩, z3⟩)) (fun u e h' g z1 z2 z3 z4 => hq _ h' (Or.inr ⟨rfl, u, e, z1, ⟨g, z2, z3⟩, z4⟩))) rfl rfl (fun v9 h2 hp => ?_)
  have FF : ∀ h2, xl_fr sp_MU h1 h2 → mu h2 (sp_n S.1) → mw4 h2 41 → mk h2 S ∧ mw h2 ∧ sp_rk h2 39 t 4 ∧ xl_fr sp_MA h h2 := fun h2 f2 m2 w2 => ⟨mk_go hM (fun k z1 z2 => f2.2 k (by omega)), mw_mu (mw4_go (sp_rk_w r1) (f2.2 38 (by omega))) (mw4_go (sp_rk_w R39) (f2.2 39 (by omega))) (mw4_go (sp_rk_w r2) (f2.2 40 (by omega))) w2 m2 ⟨W46.choose, (f2.2 46 (by omega)).trans W46.choose_spec⟩, sp_rk_go R39 (f2.2 39 (by omega)), xl_tr (xl_mono hf (fun k z => Or.inr (by omega))) (xl_mono f2 (fun k z => by rcases z with z | z; exact Or.inl z; exact Or.inr ⟨by omega, z.2⟩))⟩
  rcases hp with ⟨rfl, e, m2, w2, f2⟩ | ⟨rfl, u, e, m2, w2, f2⟩
  · show xm_X L xs (xm_call L xs (d + 5)) m_M_again (46, [.ref 29, .int (nI c), .int (nI 4)], [.int 0], h2, 0, 0) Q
    exact x_ireturn d_M_again_46 rfl rfl (by obtain ⟨z1, z2, z3, z4⟩ := FF h2 f2 m2 w2; exact h0 e h2 z1 m2.1 z2 z3 z4)
  · show xm_X L xs (xm_call L xs (d + 5)) m_M_again (46, [.ref 29, .int (nI c), .int (nI 4)], [.int 1], h2, 0, 0) Q
    exact x_ireturn d_M_again_46 rfl rfl (by obtain ⟨z1, z2, z3, z4⟩ := FF h2 f2 m2 (sp_rk_w w2); exact h1q u e h2 z1 m2.1 z2 z3 w2 z4)
