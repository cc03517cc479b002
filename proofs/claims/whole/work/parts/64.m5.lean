/-! unite, changedNothing, sameAsHead, dirty, there of the reference. (Printed by c_m5.py.) -/
theorem sp_oc {α : Type} (x : Option α) : x = none ∨ ∃ y, x = some y := by
  cases x with
  | none => exact Or.inl rfl
  | some y => exact Or.inr ⟨y, rfl⟩
def sp_J (x : Option (Option (List Nat))) : Int64 := match x with
  | none => -5
  | some t => sp_tv t
theorem sp_J5 {x : Option (Option (List Nat))} (h : ∀ t, x = some t → sp_wt t) : sp_J x = -5 ↔ x = none := by
  cases x with
  | none => exact ⟨fun _ => rfl, fun _ => rfl⟩
  | some t => exact ⟨fun e => absurd e (sp_tv5 (h t rfl)), fun e => by cases e⟩
theorem sp_snap_i {o a b : sp_T} (h : ∀ j, j < 4 → sp_file (o j) (a j) (b j) ≠ none) : ∃ t, sp_snap o a b = some t ∧ ∀ j, j < 4 → sp_file (o j) (a j) (b j) = some (t j) := by
  obtain ⟨x0, e0⟩ := Option.ne_none_iff_exists'.mp (h 0 (by decide))
  obtain ⟨x1, e1⟩ := Option.ne_none_iff_exists'.mp (h 1 (by decide))
  obtain ⟨x2, e2⟩ := Option.ne_none_iff_exists'.mp (h 2 (by decide))
  obtain ⟨x3, e3⟩ := Option.ne_none_iff_exists'.mp (h 3 (by decide))
  refine ⟨fun f => if f = 0 then x0 else if f = 1 then x1 else if f = 2 then x2 else x3, by unfold sp_snap; rw [e0, e1, e2, e3], fun j hj => ?_⟩
  match j, hj with
  | 0, _ => exact e0
  | 1, _ => exact e1
  | 2, _ => exact e2
  | 3, _ => exact e3
  | k + 4, h => omega
theorem sp_snap_n {o a b : sp_T} {j : Nat} (hj : j < 4) (h : sp_file (o j) (a j) (b j) = none) : sp_snap o a b = none := by
  unfold sp_snap
  split
  · rename_i e0 e1 e2 e3
    match j, hj with
    | 0, _ => rw [h] at e0; cases e0
    | 1, _ => rw [h] at e1; cases e1
    | 2, _ => rw [h] at e2; cases e2
    | 3, _ => rw [h] at e3; cases e3
    | k + 4, h => omega
  · rfl
theorem sp_nneg {t : List Nat} (h : sp_wl t) : ¬ lg_cmp (sp_tv (some t)) (lN 0) < 0 := by
  rw [lg_cmp_lt]
  exact fun z => absurd ((pk_lLT (Nat.lt_of_lt_of_le (sp_enc_lt h.1 h.2) (by decide)) (by decide)).mp z) (Nat.not_lt_zero _)
theorem sp_updL_at {f : Nat → Int64} {k : Nat} {v : Int64} : vp_updL f k v k = v := if_pos rfl
theorem sp_updL_ne {f : Nat → Int64} {k j : Nat} {v : Int64} (h : j ≠ k) : vp_updL f k v j = f j := if_neg h
theorem sp_file_u {o a b : List Nat} (h1 : ¬ some a = some o) (h2 : ¬ (some b = some o ∨ some b = some a)) : sp_J (sp_file (some o) (some a) (some b)) = sp_jv (sp_unite o a b) := by
  unfold sp_file
  rw [if_neg h1, if_neg h2]
  show sp_J ((sp_unite o a b).map some) = _
  cases sp_unite o a b <;> rfl
theorem sp_file_x {o a b : Option (List Nat)} (h1 : ¬ a = o) (h2 : ¬ (b = o ∨ b = a)) (h3 : o = none ∨ a = none ∨ b = none) : sp_J (sp_file o a b) = -5 := by
  unfold sp_file
  rw [if_neg h1, if_neg h2]
  rcases h3 with rfl | rfl | rfl
  · rfl
  · cases o <;> rfl
  · cases o <;> cases a <;> rfl
abbrev sp_MU : Nat → Prop := fun k => k = 29 ∨ (41 ≤ k ∧ k ≤ 45)
theorem mu_set {h : xm_H} {n k : Nat} {c : xm_C} (a : mu h n) (h1 : k ≠ 29) (h2 : k < 42 ∨ 45 < k) : mu (h.set k c) n := by
  obtain ⟨⟨tk, a1⟩, ⟨f1, b1⟩, ⟨f2, b2⟩, ⟨f3, b3⟩, ⟨f4, b4⟩⟩ := a
  exact ⟨⟨tk, (xl_ne h1).trans a1⟩, ⟨f1, (xl_ne (by omega)).trans b1⟩, ⟨f2, (xl_ne (by omega)).trans b2⟩, ⟨f3, (xl_ne (by omega)).trans b3⟩, ⟨f4, (xl_ne (by omega)).trans b4⟩⟩
abbrev sp_row4 (h : xm_H) (q : Nat) (t : sp_T) : Prop := ∃ f : Nat → Int64, h[q]? = some (.inl (.long, 4, .inr (.inl f))) ∧ ∀ j, j < 4 → f j = sp_tv (t j)
set_option maxHeartbeats 4000000 in
theorem l_M_unite {L : Nat} {xs : Nat → Int32} {d : Nat} {h : xm_H} {Q : xm_Q} {o a b : sp_T} (ho : sp_w4 o) (ha : sp_w4 a) (hb : sp_w4 b) {n : Nat} (h38 : sp_row4 h 38 o) (h39 : sp_row4 h 39 a) (h40 : sp_row4 h 40 b)
    (hQ : ∀ (fb : Bool) (h' : xm_H) (g : Nat → Int64), (fb = true ↔ ∀ j, j < 4 → sp_file (o j) (a j) (b j) ≠ none) → mu h' n → h'[41]? = some (.inl (.long, 4, .inr (.inl g))) → (∀ j, j < 4 → g j = sp_J (sp_file (o j) (a j) (b j))) → xl_fr sp_MU h h' → Q (some (.int (sp_bi fb))) h') :
    ∀ r k, k + r = 4 → ∀ (fb : Bool) (h1 : xm_H) (g : Nat → Int64) (x3 x4 x5 x6 x7 x8 : Value), (fb = true ↔ ∀ j, j < k → sp_file (o j) (a j) (b j) ≠ none) → mu h1 n → h1[41]? = some (.inl (.long, 4, .inr (.inl g))) → (∀ j, j < k → g j = sp_J (sp_file (o j) (a j) (b j))) → xl_fr sp_MU h h1 →
      xm_X L xs (xm_call L xs (d + 4)) m_M_unite (4, [.ref 29, .int (sp_bi fb), .int (nI k), x3, x4, x5, x6, x7, x8], [], h1, 0, 0) Q := by
  intro r
  induction r with
  | zero =>
    intro k hk fb h1 g x3 x4 x5 x6 x7 x8 hfb hm hg hg2 hf
    have hk : k = 4 := hk
    subst hk
    obtain ⟨tk, hO⟩ := hm.1
    refine x_iload_n (pc' := 5) d_M_unite_4 rfl rfl ?_
    refine x_iconst (v := nI 4) (pc' := 6) d_M_unite_5 rfl (by decide) ?_
    refine x_icmpge (t := 146) (pc' := 9) d_M_unite_6 rfl rfl (fun _ => ?_) (fun q => absurd (nI_le (Nat.le_refl _) (by decide)) q)
    refine x_iload_n (pc' := 147) d_M_unite_146 rfl rfl ?_
    exact x_ireturn d_M_unite_147 rfl (by cases fb <;> rfl) (hQ fb h1 g hfb hm hg hg2 hf)
  | succ r ih =>
    intro k hk fb h1 g x3 x4 x5 x6 x7 x8 hfb hm hg hg2 hf
    have hk4 : k < 4 := by omega
    obtain ⟨tk, hO⟩ := hm.1
    obtain ⟨p, p0, p2⟩ := h38
    obtain ⟨q, q0, q2⟩ := h39
    obtain ⟨r, r0, r2⟩ := h40
    have p1 := (hf.2 38 (by omega)).trans p0
    have q1 := (hf.2 39 (by omega)).trans q0
    have r1 := (hf.2 40 (by omega)).trans r0
    refine x_iload_n (pc' := 5) d_M_unite_4 rfl rfl ?_
    refine x_iconst (v := nI 4) (pc' := 6) d_M_unite_5 rfl (by decide) ?_
    refine x_icmpge (t := 146) (pc' := 9) d_M_unite_6 rfl rfl (fun q => absurd q (nI_ge hk4 (by decide))) (fun _ => ?_)
    refine x_aload_n (pc' := 10) d_M_unite_9 rfl rfl ?_
    refine x_getfield (ci := 4) (i := 9) (v := .ref 38) (pc' := 13) d_M_unite_10 rfl g_M_35 hO rfl ?_
    refine x_iload_n (pc' := 14) d_M_unite_13 rfl rfl ?_
    refine x_laload (v := sp_tv (o k)) (pc' := 15) d_M_unite_14 rfl p1 (vp_in_nI (by omega) (by decide)) (by rw [nI_clamp (by omega)]; exact p2 k hk4) ?_
    refine x_lstore_n (lo' := [.ref 29, .int (sp_bi fb), .int (nI k), .long (sp_tv (o k)), .float 0, x5, x6, x7, x8]) (pc' := 16) d_M_unite_15 rfl (Nat.le_of_ble_eq_true rfl) rfl ?_
    refine x_aload_n (pc' := 17) d_M_unite_16 rfl rfl ?_
    refine x_getfield (ci := 4) (i := 10) (v := .ref 39) (pc' := 20) d_M_unite_17 rfl g_M_38 hO rfl ?_
    refine x_iload_n (pc' := 21) d_M_unite_20 rfl rfl ?_
    refine x_laload (v := sp_tv (a k)) (pc' := 22) d_M_unite_21 rfl q1 (vp_in_nI (by omega) (by decide)) (by rw [nI_clamp (by omega)]; exact q2 k hk4) ?_
    refine x_lstore (lo' := [.ref 29, .int (sp_bi fb), .int (nI k), .long (sp_tv (o k)), .float 0, .long (sp_tv (a k)), .float 0, x7, x8]) (pc' := 24) d_M_unite_22 rfl (Nat.le_of_ble_eq_true rfl) rfl ?_
    refine x_aload_n (pc' := 25) d_M_unite_24 rfl rfl ?_
    refine x_getfield (ci := 4) (i := 11) (v := .ref 40) (pc' := 28) d_M_unite_25 rfl g_M_41 hO rfl ?_
    refine x_iload_n (pc' := 29) d_M_unite_28 rfl rfl ?_
    refine x_laload (v := sp_tv (b k)) (pc' := 30) d_M_unite_29 rfl r1 (vp_in_nI (by omega) (by decide)) (by rw [nI_clamp (by omega)]; exact r2 k hk4) ?_
    refine x_lstore (lo' := [.ref 29, .int (sp_bi fb), .int (nI k), .long (sp_tv (o k)), .float 0, .long (sp_tv (a k)), .float 0, .long (sp_tv (b k)), .float 0]) (pc' := 32) d_M_unite_30 rfl (Nat.le_of_ble_eq_true rfl) rfl ?_
    have wo := ho k hk4
    have wa := ha k hk4
    have wb := hb k hk4
    have T : ∀ (v : Int64) (h2 : xm_H), v = sp_J (sp_file (o k) (a k) (b k)) → mu h2 n → h2[41]? = some (.inl (.long, 4, .inr (.inl (vp_updL g (nI k).toNatClampNeg v)))) → xl_fr sp_MU h1 h2 → xm_X L xs (xm_call L xs (d + 4)) m_M_unite (117, [.ref 29, .int (sp_bi fb), .int (nI k), .long (sp_tv (o k)), .float 0, .long (sp_tv (a k)), .float 0, .long (sp_tv (b k)), .float 0], [], h2, 0, 0) Q := by
      intro v h2 ev hm2 h41 f2
      obtain ⟨tk2, hO2⟩ := hm2.1
      have hw5 := sp_J5 (x := sp_file (o k) (a k) (b k)) (fun t e => sp_file_wt wo wa wb e)
      have hg3 : ∀ j, j < k + 1 → vp_updL g (nI k).toNatClampNeg v j = sp_J (sp_file (o j) (a j) (b j)) := fun j hj => by
        rw [nI_clamp (by omega)]
        by_cases ej : j = k
        · rw [ej, sp_updL_at, ev]
        · rw [sp_updL_ne ej]; exact hg2 j (by omega)
      cases fb with
      | false =>
        refine x_iload_n (pc' := 118) d_M_unite_117 rfl rfl ?_
        refine x_ifeq (t := 138) (pc' := 121) d_M_unite_118 rfl rfl (fun _ => ?_) (fun q => absurd rfl q)
        refine x_iconst (v := 0) (pc' := 139) d_M_unite_138 rfl (by decide) ?_
        refine x_istore_n (lo' := [.ref 29, .int 0, .int (nI k), .long (sp_tv (o k)), .float 0, .long (sp_tv (a k)), .float 0, .long (sp_tv (b k)), .float 0]) (pc' := 140) d_M_unite_139 rfl (Nat.le_of_ble_eq_true rfl) rfl ?_
        refine x_iinc (y := nI (k + 1)) (lo' := [.ref 29, .int 0, .int (nI (k + 1)), .long (sp_tv (o k)), .float 0, .long (sp_tv (a k)), .float 0, .long (sp_tv (b k)), .float 0]) (pc' := 143) d_M_unite_140 rfl rfl (sp_nI_inc k) rfl ?_
        refine x_goto (t := 4) d_M_unite_143 rfl ?_
        exact ih (k + 1) (by omega) false h2 _ _ _ _ _ _ _ ⟨fun z => (by cases z), fun z => hfb.mpr (fun j hj => z j (by omega))⟩ hm2 h41 hg3 (xl_tr hf f2)
      | true =>
        refine x_iload_n (pc' := 118) d_M_unite_117 rfl rfl ?_
        refine x_ifeq (t := 138) (pc' := 121) d_M_unite_118 rfl rfl (fun q => absurd q (by decide)) (fun _ => ?_)
        refine x_aload_n (pc' := 122) d_M_unite_121 rfl rfl ?_
        refine x_getfield (ci := 4) (i := 12) (v := .ref 41) (pc' := 125) d_M_unite_122 rfl g_M_44 hO2 rfl ?_
        refine x_iload_n (pc' := 126) d_M_unite_125 rfl rfl ?_
        refine x_laload (v := v) (pc' := 127) d_M_unite_126 rfl h41 (vp_in_nI (by omega) (by decide)) (by rw [nI_clamp (by omega), sp_updL_at]) ?_
        refine x_ldc2_w (x := (-5)) (pc' := 130) d_M_unite_127 rfl k_M_94 ?_
        refine x_lcmp (z := lg_cmp v (-5)) (pc' := 131) d_M_unite_130 rfl rfl ?_
        by_cases e5 : sp_file (o k) (a k) (b k) = none
        · refine x_ifeq (t := 138) (pc' := 134) d_M_unite_131 rfl rfl (fun _ => ?_) (fun q => absurd ((lg_cmp_eq _ _).mpr (ev.trans (hw5.mpr e5))) q)
          refine x_iconst (v := 0) (pc' := 139) d_M_unite_138 rfl (by decide) ?_
          refine x_istore_n (lo' := [.ref 29, .int 0, .int (nI k), .long (sp_tv (o k)), .float 0, .long (sp_tv (a k)), .float 0, .long (sp_tv (b k)), .float 0]) (pc' := 140) d_M_unite_139 rfl (Nat.le_of_ble_eq_true rfl) rfl ?_
          refine x_iinc (y := nI (k + 1)) (lo' := [.ref 29, .int 0, .int (nI (k + 1)), .long (sp_tv (o k)), .float 0, .long (sp_tv (a k)), .float 0, .long (sp_tv (b k)), .float 0]) (pc' := 143) d_M_unite_140 rfl rfl (sp_nI_inc k) rfl ?_
          refine x_goto (t := 4) d_M_unite_143 rfl ?_
          exact ih (k + 1) (by omega) false h2 _ _ _ _ _ _ _ ⟨fun z => (by cases z), fun z => absurd e5 (z k (Nat.lt_succ_self _))⟩ hm2 h41 hg3 (xl_tr hf f2)
        · refine x_ifeq (t := 138) (pc' := 134) d_M_unite_131 rfl rfl (fun q => absurd q (fun z => e5 (hw5.mp (ev.symm.trans ((lg_cmp_eq _ _).mp z))))) (fun _ => ?_)
          refine x_iconst (v := 1) (pc' := 135) d_M_unite_134 rfl (by decide) ?_
          refine x_goto (t := 139) d_M_unite_135 rfl ?_
          refine x_istore_n (lo' := [.ref 29, .int 1, .int (nI k), .long (sp_tv (o k)), .float 0, .long (sp_tv (a k)), .float 0, .long (sp_tv (b k)), .float 0]) (pc' := 140) d_M_unite_139 rfl (Nat.le_of_ble_eq_true rfl) rfl ?_
          refine x_iinc (y := nI (k + 1)) (lo' := [.ref 29, .int 1, .int (nI (k + 1)), .long (sp_tv (o k)), .float 0, .long (sp_tv (a k)), .float 0, .long (sp_tv (b k)), .float 0]) (pc' := 143) d_M_unite_140 rfl rfl (sp_nI_inc k) rfl ?_
          refine x_goto (t := 4) d_M_unite_143 rfl ?_
          exact ih (k + 1) (by omega) true h2 _ _ _ _ _ _ _ ⟨fun _ j hj => (by rcases Nat.lt_or_eq_of_le (Nat.le_of_lt_succ hj) with z | z; exact hfb.mp rfl j z; subst z; exact e5), fun _ => rfl⟩ hm2 h41 hg3 (xl_tr hf f2)
    refine x_lload (pc' := 34) d_M_unite_32 rfl rfl rfl ?_
    refine x_lload_n (pc' := 35) d_M_unite_34 rfl rfl rfl ?_
    refine x_lcmp (z := lg_cmp (sp_tv (a k)) (sp_tv (o k))) (pc' := 36) d_M_unite_35 rfl rfl ?_
    by_cases e1 : a k = o k
    · refine x_ifne (t := 50) (pc' := 39) d_M_unite_36 rfl rfl (fun q => absurd (by rw [e1]; exact (lg_cmp_eq _ _).mpr rfl) q) (fun _ => ?_)
      refine x_aload_n (pc' := 40) d_M_unite_39 rfl rfl ?_
      refine x_getfield (ci := 4) (i := 12) (v := .ref 41) (pc' := 43) d_M_unite_40 rfl g_M_44 hO rfl ?_
      refine x_iload_n (pc' := 44) d_M_unite_43 rfl rfl ?_
      refine x_lload (pc' := 46) d_M_unite_44 rfl rfl rfl ?_
      refine x_lastore (h' := (h1.set 41 (.inl (.long, 4, .inr (.inl (vp_updL g (nI k).toNatClampNeg (sp_tv (b k)))))))) (pc' := 47) d_M_unite_46 rfl hg (vp_in_nI (by omega) (by decide)) rfl ?_
      refine x_goto (t := 117) d_M_unite_47 rfl ?_
      exact T _ _ (by unfold sp_file; rw [if_pos e1]; rfl) (mu_set hm (by decide) (by decide)) (xl_at hg) (xl_set (by decide))
    · refine x_ifne (t := 50) (pc' := 39) d_M_unite_36 rfl rfl (fun _ => ?_) (fun q => absurd q (fun z => e1 (sp_tv_cmp wa wo z)))
      refine x_lload (pc' := 52) d_M_unite_50 rfl rfl rfl ?_
      refine x_lload_n (pc' := 53) d_M_unite_52 rfl rfl rfl ?_
      refine x_lcmp (z := lg_cmp (sp_tv (b k)) (sp_tv (o k))) (pc' := 54) d_M_unite_53 rfl rfl ?_
      by_cases e2 : b k = o k
      · refine x_ifeq (t := 65) (pc' := 57) d_M_unite_54 rfl rfl (fun _ => ?_) (fun q => absurd (by rw [e2]; exact (lg_cmp_eq _ _).mpr rfl) q)
        refine x_aload_n (pc' := 66) d_M_unite_65 rfl rfl ?_
        refine x_getfield (ci := 4) (i := 12) (v := .ref 41) (pc' := 69) d_M_unite_66 rfl g_M_44 hO rfl ?_
        refine x_iload_n (pc' := 70) d_M_unite_69 rfl rfl ?_
        refine x_lload (pc' := 72) d_M_unite_70 rfl rfl rfl ?_
        refine x_lastore (h' := (h1.set 41 (.inl (.long, 4, .inr (.inl (vp_updL g (nI k).toNatClampNeg (sp_tv (a k)))))))) (pc' := 73) d_M_unite_72 rfl hg (vp_in_nI (by omega) (by decide)) rfl ?_
        refine x_goto (t := 117) d_M_unite_73 rfl ?_
        exact T _ _ (by unfold sp_file; rw [if_neg e1, if_pos (Or.inl e2)]; rfl) (mu_set hm (by decide) (by decide)) (xl_at hg) (xl_set (by decide))
      · refine x_ifeq (t := 65) (pc' := 57) d_M_unite_54 rfl rfl (fun q => absurd q (fun z => e2 (sp_tv_cmp wb wo z))) (fun _ => ?_)
        refine x_lload (pc' := 59) d_M_unite_57 rfl rfl rfl ?_
        refine x_lload (pc' := 61) d_M_unite_59 rfl rfl rfl ?_
        refine x_lcmp (z := lg_cmp (sp_tv (b k)) (sp_tv (a k))) (pc' := 62) d_M_unite_61 rfl rfl ?_
        by_cases e3 : b k = a k
        · refine x_ifne (t := 76) (pc' := 65) d_M_unite_62 rfl rfl (fun q => absurd (by rw [e3]; exact (lg_cmp_eq _ _).mpr rfl) q) (fun _ => ?_)
          refine x_aload_n (pc' := 66) d_M_unite_65 rfl rfl ?_
          refine x_getfield (ci := 4) (i := 12) (v := .ref 41) (pc' := 69) d_M_unite_66 rfl g_M_44 hO rfl ?_
          refine x_iload_n (pc' := 70) d_M_unite_69 rfl rfl ?_
          refine x_lload (pc' := 72) d_M_unite_70 rfl rfl rfl ?_
          refine x_lastore (h' := (h1.set 41 (.inl (.long, 4, .inr (.inl (vp_updL g (nI k).toNatClampNeg (sp_tv (a k)))))))) (pc' := 73) d_M_unite_72 rfl hg (vp_in_nI (by omega) (by decide)) rfl ?_
          refine x_goto (t := 117) d_M_unite_73 rfl ?_
          exact T _ _ (by unfold sp_file; rw [if_neg e1, if_pos (Or.inr e3)]; rfl) (mu_set hm (by decide) (by decide)) (xl_at hg) (xl_set (by decide))
        · have e4 : ¬ (b k = o k ∨ b k = a k) := fun z => z.elim e2 e3
          refine x_ifne (t := 76) (pc' := 65) d_M_unite_62 rfl rfl (fun _ => ?_) (fun q => absurd q (fun z => e3 (sp_tv_cmp wb wa z)))
          refine x_aload_n (pc' := 77) d_M_unite_76 rfl rfl ?_
          refine x_getfield (ci := 4) (i := 12) (v := .ref 41) (pc' := 80) d_M_unite_77 rfl g_M_44 hO rfl ?_
          refine x_iload_n (pc' := 81) d_M_unite_80 rfl rfl ?_
          refine x_lload_n (pc' := 82) d_M_unite_81 rfl rfl rfl ?_
          refine x_lconst (v := lN 0) (pc' := 83) d_M_unite_82 rfl (by decide) ?_
          refine x_lcmp (z := lg_cmp (sp_tv (o k)) (lN 0)) (pc' := 84) d_M_unite_83 rfl rfl ?_
          rcases sp_oc (o k) with eo | ⟨ot, eo⟩
          · refine x_iflt (t := 101) (pc' := 87) d_M_unite_84 rfl rfl (fun _ => ?_) (fun q => absurd (by rw [eo]; decide) q)
            refine x_ldc2_w (x := (-5)) (pc' := 104) d_M_unite_101 rfl k_M_94 ?_
            refine x_goto (t := 116) d_M_unite_104 rfl ?_
            refine x_lastore (h' := (h1.set 41 (.inl (.long, 4, .inr (.inl (vp_updL g (nI k).toNatClampNeg (-5))))))) (pc' := 117) d_M_unite_116 rfl hg (vp_in_nI (by omega) (by decide)) rfl ?_
            exact T _ _ (sp_file_x e1 e4 (Or.inl eo)).symm (mu_set hm (by decide) (by decide)) (xl_at hg) (xl_set (by decide))
          · refine x_iflt (t := 101) (pc' := 87) d_M_unite_84 rfl rfl (fun q => absurd q (by rw [eo]; exact sp_nneg (wo ot eo))) (fun _ => ?_)
            refine x_lload (pc' := 89) d_M_unite_87 rfl rfl rfl ?_
            refine x_lconst (v := lN 0) (pc' := 90) d_M_unite_89 rfl (by decide) ?_
            refine x_lcmp (z := lg_cmp (sp_tv (a k)) (lN 0)) (pc' := 91) d_M_unite_90 rfl rfl ?_
            rcases sp_oc (a k) with ea | ⟨at_, ea⟩
            · refine x_iflt (t := 101) (pc' := 94) d_M_unite_91 rfl rfl (fun _ => ?_) (fun q => absurd (by rw [ea]; decide) q)
              refine x_ldc2_w (x := (-5)) (pc' := 104) d_M_unite_101 rfl k_M_94 ?_
              refine x_goto (t := 116) d_M_unite_104 rfl ?_
              refine x_lastore (h' := (h1.set 41 (.inl (.long, 4, .inr (.inl (vp_updL g (nI k).toNatClampNeg (-5))))))) (pc' := 117) d_M_unite_116 rfl hg (vp_in_nI (by omega) (by decide)) rfl ?_
              exact T _ _ (sp_file_x e1 e4 (Or.inr (Or.inl ea))).symm (mu_set hm (by decide) (by decide)) (xl_at hg) (xl_set (by decide))
            · refine x_iflt (t := 101) (pc' := 94) d_M_unite_91 rfl rfl (fun q => absurd q (by rw [ea]; exact sp_nneg (wa at_ ea))) (fun _ => ?_)
              refine x_lload (pc' := 96) d_M_unite_94 rfl rfl rfl ?_
              refine x_lconst (v := lN 0) (pc' := 97) d_M_unite_96 rfl (by decide) ?_
              refine x_lcmp (z := lg_cmp (sp_tv (b k)) (lN 0)) (pc' := 98) d_M_unite_97 rfl rfl ?_
              rcases sp_oc (b k) with eb | ⟨bt, eb⟩
              · refine x_ifge (t := 107) (pc' := 101) d_M_unite_98 rfl rfl (fun q => absurd q (by rw [eb]; decide)) (fun _ => ?_)
                refine x_ldc2_w (x := (-5)) (pc' := 104) d_M_unite_101 rfl k_M_94 ?_
                refine x_goto (t := 116) d_M_unite_104 rfl ?_
                refine x_lastore (h' := (h1.set 41 (.inl (.long, 4, .inr (.inl (vp_updL g (nI k).toNatClampNeg (-5))))))) (pc' := 117) d_M_unite_116 rfl hg (vp_in_nI (by omega) (by decide)) rfl ?_
                exact T _ _ (sp_file_x e1 e4 (Or.inr (Or.inr eb))).symm (mu_set hm (by decide) (by decide)) (xl_at hg) (xl_set (by decide))
              · refine x_ifge (t := 107) (pc' := 101) d_M_unite_98 rfl rfl (fun _ => ?_) (fun q => absurd (Int32.not_lt.mp (by rw [eb]; exact sp_nneg (wb bt eb))) q)
                refine x_aload_n (pc' := 108) d_M_unite_107 rfl rfl ?_
                refine x_lload_n (pc' := 109) d_M_unite_108 rfl rfl rfl ?_
                refine x_lload (pc' := 111) d_M_unite_109 rfl rfl rfl ?_
                refine x_lload (pc' := 113) d_M_unite_111 rfl rfl rfl ?_
                refine x_virtualR (a := 29) (as := [.long (sp_tv (o k)), .long (sp_tv (a k)), .long (sp_tv (b k))]) (r := [.int (nI k), .ref 41]) (Post := fun v h9 => v = some (.long (sp_jv (sp_unite ot at_ bt))) ∧ mu h9 n ∧ xl_fr sp_MS h1 h9) (c' := 0) (s' := 0) (pc' := 116) d_M_unite_113 rfl c_M_96 hO rfl rfl (Nat.le_of_ble_eq_true rfl) (Nat.le_of_ble_eq_true rfl) (Nat.le_of_ble_eq_true rfl) (fun Q' hq => by rw [eo, ea, eb]; exact c_M_uniteTexts (wo ot eo) (wa at_ ea) (wb bt eb) hO hm.2.1.choose_spec hm.2.2.1.choose_spec hm.2.2.2.1 hm.2.2.2.2 (fun h' z1 z2 => hq _ h' ⟨rfl, z1, z2⟩)) rfl rfl (fun v9 h3 hp => ?_)
                obtain ⟨rfl, m3, f3⟩ := hp
                show xm_X L xs (xm_call L xs (d + 4)) m_M_unite (116, [.ref 29, .int (sp_bi fb), .int (nI k), .long (sp_tv (o k)), .float 0, .long (sp_tv (a k)), .float 0, .long (sp_tv (b k)), .float 0], [.long (sp_jv (sp_unite ot at_ bt)), .int (nI k), .ref 41], h3, 0, 0) Q
                have hg5 := (f3.2 41 (by omega)).trans hg
                refine x_lastore (h' := (h3.set 41 (.inl (.long, 4, .inr (.inl (vp_updL g (nI k).toNatClampNeg (sp_jv (sp_unite ot at_ bt)))))))) (pc' := 117) d_M_unite_116 rfl hg5 (vp_in_nI (by omega) (by decide)) rfl ?_
                refine T _ _ ?_ (mu_set m3 (by decide) (by decide)) (xl_at hg5) (xl_tr (xl_mono f3 (fun k z => by rcases z with z | z; exact Or.inl z; exact Or.inr ⟨by omega, z.2⟩)) (xl_set (by decide)))
                rw [eo, ea, eb] at e4 ⊢
                rw [eo, ea] at e1
                exact (sp_file_u e1 e4).symm
theorem c_M_unite {L : Nat} {xs : Nat → Int32} {d : Nat} {h : xm_H} {Q : xm_Q} {o a b : sp_T} (ho : sp_w4 o) (ha : sp_w4 a) (hb : sp_w4 b) {n : Nat} (h38 : sp_row4 h 38 o) (h39 : sp_row4 h 39 a) (h40 : sp_row4 h 40 b) (hm : mu h n) {g0 : Nat → Int64} (g41 : h[41]? = some (.inl (.long, 4, .inr (.inl g0))))
    (h0 : sp_snap o a b = none → ∀ (h' : xm_H) (g : Nat → Int64), mu h' n → h'[41]? = some (.inl (.long, 4, .inr (.inl g))) → xl_fr sp_MU h h' → Q (some (.int 0)) h')
    (h1q : ∀ t, sp_snap o a b = some t → ∀ (h' : xm_H) (g : Nat → Int64), mu h' n → h'[41]? = some (.inl (.long, 4, .inr (.inl g))) → (∀ j, j < 4 → g j = sp_tv (t j)) → xl_fr sp_MU h h' → Q (some (.int 1)) h') : xm_call L xs (d + 5) m_M_unite [.ref 29] h Q := by
  refine x_call (lo := [.ref 29, .float 0, .float 0, .float 0, .float 0, .float 0, .float 0, .float 0, .float 0]) (Nat.le_of_ble_eq_true rfl) rfl ?_
  refine x_iconst (v := 1) (pc' := 1) d_M_unite_0 rfl (by decide) ?_
  refine x_istore_n (lo' := [.ref 29, .int 1, .float 0, .float 0, .float 0, .float 0, .float 0, .float 0, .float 0]) (pc' := 2) d_M_unite_1 rfl (Nat.le_of_ble_eq_true rfl) rfl ?_
  refine x_iconst (v := nI 0) (pc' := 3) d_M_unite_2 rfl (by decide) ?_
  refine x_istore_n (lo' := [.ref 29, .int 1, .int (nI 0), .float 0, .float 0, .float 0, .float 0, .float 0, .float 0]) (pc' := 4) d_M_unite_3 rfl (Nat.le_of_ble_eq_true rfl) rfl ?_
  refine l_M_unite ho ha hb h38 h39 h40 (fun fb h' g hfb hm hg hg2 hf => ?_) 4 0 rfl true h g0 _ _ _ _ _ _ ⟨fun _ j hj => absurd hj (Nat.not_lt_zero j), fun _ => rfl⟩ hm g41 (fun j hj => absurd hj (Nat.not_lt_zero j)) xl_rf
  cases fb with
  | false =>
    refine h0 ?_ h' g hm hg hf
    cases e : sp_snap o a b with
    | none => rfl
    | some t => exact absurd (hfb.mpr (fun j hj z => by rw [sp_snap_n hj z] at e; cases e)) (by decide)
  | true =>
    obtain ⟨t, e, e2⟩ := sp_snap_i (hfb.mp rfl)
    exact h1q t e h' g hm hg (fun j hj => by rw [hg2 j hj, e2 j hj]; rfl) hf
theorem l_M_changedNothing {L : Nat} {xs : Nat → Int32} {d : Nat} {h : xm_H} {Q : xm_Q} {t u : sp_T} {n : Nat} {tk : Int32} (hO : mo h n tk) (h41 : sp_row4 h 41 t) (h39 : sp_row4 h 39 u) (hX : sp_w4 (t)) (hY : sp_w4 (u)) (hQ : Q (some (.int (sp_bi (sp_eq4 (t) (u))))) h) :
    ∀ z9 k, k + z9 = 4 → ∀ fb : Bool, (fb = true ↔ ∀ j, j < k → t j = u j) → xm_X L xs (xm_call L xs (d + 0)) m_M_changedNothing (4, [.ref 29, .int (sp_bi fb), .int (nI k)], [], h, 0, 0) Q := by
  obtain ⟨p, p1, p2⟩ := h41
  obtain ⟨q, q1, q2⟩ := h39
  intro z9
  induction z9 with
  | zero =>
    intro k hk fb hfb
    have hk : k = 4 := hk
    subst hk
    have e9 : sp_eq4 (t) (u) = fb := by
      unfold sp_eq4
      rw [Bool.eq_iff_iff, decide_eq_true_iff, hfb]
      constructor
      · rintro ⟨z0, z1, z2, z3⟩ j hj
        match j, hj with
        | 0, _ => exact z0
        | 1, _ => exact z1
        | 2, _ => exact z2
        | 3, _ => exact z3
        | k + 4, h => omega
      · intro z
        exact ⟨z 0 (by decide), z 1 (by decide), z 2 (by decide), z 3 (by decide)⟩
    rw [e9] at hQ
    refine x_iload_n (pc' := 5) d_M_changedNothing_4 rfl rfl ?_
    refine x_iconst (v := nI 4) (pc' := 6) d_M_changedNothing_5 rfl (by decide) ?_
    refine x_icmpge (t := 41) (pc' := 9) d_M_changedNothing_6 rfl rfl (fun _ => ?_) (fun q => absurd (nI_le (Nat.le_refl _) (by decide)) q)
    refine x_iload_n (pc' := 42) d_M_changedNothing_41 rfl rfl ?_
    exact x_ireturn d_M_changedNothing_42 rfl (by cases fb <;> rfl) hQ
  | succ z9 ih =>
    intro k hk fb hfb
    have hk4 : k < 4 := by omega
    refine x_iload_n (pc' := 5) d_M_changedNothing_4 rfl rfl ?_
    refine x_iconst (v := nI 4) (pc' := 6) d_M_changedNothing_5 rfl (by decide) ?_
    refine x_icmpge (t := 41) (pc' := 9) d_M_changedNothing_6 rfl rfl (fun q => absurd q (nI_ge hk4 (by decide))) (fun _ => ?_)
    refine x_iload_n (pc' := 10) d_M_changedNothing_9 rfl rfl ?_
    cases fb with
    | false =>
      refine x_ifeq (t := 33) (pc' := 13) d_M_changedNothing_10 rfl rfl (fun _ => ?_) (fun q => absurd rfl q)
      refine x_iconst (v := 0) (pc' := 34) d_M_changedNothing_33 rfl (by decide) ?_
      refine x_istore_n (lo' := [.ref 29, .int 0, .int (nI k)]) (pc' := 35) d_M_changedNothing_34 rfl (Nat.le_of_ble_eq_true rfl) rfl ?_
      refine x_iinc (y := nI (k + 1)) (lo' := [.ref 29, .int 0, .int (nI (k + 1))]) (pc' := 38) d_M_changedNothing_35 rfl rfl (sp_nI_inc k) rfl ?_
      refine x_goto (t := 4) d_M_changedNothing_38 rfl ?_
      exact ih (k + 1) (by omega) false ⟨fun z => (by cases z), fun z => hfb.mpr (fun j hj => z j (by omega))⟩
    | true =>
      refine x_ifeq (t := 33) (pc' := 13) d_M_changedNothing_10 rfl rfl (fun q => absurd q (by decide)) (fun _ => ?_)
      refine x_aload_n (pc' := 14) d_M_changedNothing_13 rfl rfl ?_
      refine x_getfield (ci := 4) (i := 12) (v := .ref 41) (pc' := 17) d_M_changedNothing_14 rfl g_M_44 hO rfl ?_
      refine x_iload_n (pc' := 18) d_M_changedNothing_17 rfl rfl ?_
      refine x_laload (v := sp_tv (t k)) (pc' := 19) d_M_changedNothing_18 rfl p1 (vp_in_nI (by omega) (by decide)) (by rw [nI_clamp (by omega)]; exact p2 k hk4) ?_
      refine x_aload_n (pc' := 20) d_M_changedNothing_19 rfl rfl ?_
      refine x_getfield (ci := 4) (i := 10) (v := .ref 39) (pc' := 23) d_M_changedNothing_20 rfl g_M_38 hO rfl ?_
      refine x_iload_n (pc' := 24) d_M_changedNothing_23 rfl rfl ?_
      refine x_laload (v := sp_tv (u k)) (pc' := 25) d_M_changedNothing_24 rfl q1 (vp_in_nI (by omega) (by decide)) (by rw [nI_clamp (by omega)]; exact q2 k hk4) ?_
      refine x_lcmp (z := lg_cmp (sp_tv (t k)) (sp_tv (u k))) (pc' := 26) d_M_changedNothing_25 rfl rfl ?_
      by_cases e : t k = u k
      · refine x_ifne (t := 33) (pc' := 29) d_M_changedNothing_26 rfl rfl (fun q => absurd (by rw [e]; exact (lg_cmp_eq _ _).mpr rfl) q) (fun _ => ?_)
        refine x_iconst (v := 1) (pc' := 30) d_M_changedNothing_29 rfl (by decide) ?_
        refine x_goto (t := 34) d_M_changedNothing_30 rfl ?_
        refine x_istore_n (lo' := [.ref 29, .int 1, .int (nI k)]) (pc' := 35) d_M_changedNothing_34 rfl (Nat.le_of_ble_eq_true rfl) rfl ?_
        refine x_iinc (y := nI (k + 1)) (lo' := [.ref 29, .int 1, .int (nI (k + 1))]) (pc' := 38) d_M_changedNothing_35 rfl rfl (sp_nI_inc k) rfl ?_
        refine x_goto (t := 4) d_M_changedNothing_38 rfl ?_
        exact ih (k + 1) (by omega) true ⟨fun _ j hj => (by rcases Nat.lt_or_eq_of_le (Nat.le_of_lt_succ hj) with z | z; exact hfb.mp rfl j z; subst z; exact e), fun _ => rfl⟩
      · refine x_ifne (t := 33) (pc' := 29) d_M_changedNothing_26 rfl rfl (fun _ => ?_) (fun q => absurd q (fun z => e (sp_tv_cmp (hX k hk4) (hY k hk4) z)))
        refine x_iconst (v := 0) (pc' := 34) d_M_changedNothing_33 rfl (by decide) ?_
        refine x_istore_n (lo' := [.ref 29, .int 0, .int (nI k)]) (pc' := 35) d_M_changedNothing_34 rfl (Nat.le_of_ble_eq_true rfl) rfl ?_
        refine x_iinc (y := nI (k + 1)) (lo' := [.ref 29, .int 0, .int (nI (k + 1))]) (pc' := 38) d_M_changedNothing_35 rfl rfl (sp_nI_inc k) rfl ?_
        refine x_goto (t := 4) d_M_changedNothing_38 rfl ?_
        exact ih (k + 1) (by omega) false ⟨fun z => (by cases z), fun z => absurd (z k (Nat.lt_succ_self _)) e⟩
theorem c_M_changedNothing {L : Nat} {xs : Nat → Int32} {d : Nat} {h : xm_H} {Q : xm_Q} {t u : sp_T} {n : Nat} {tk : Int32} (hO : mo h n tk) (h41 : sp_row4 h 41 t) (h39 : sp_row4 h 39 u) (hX : sp_w4 (t)) (hY : sp_w4 (u)) (hQ : Q (some (.int (sp_bi (sp_eq4 (t) (u))))) h) : xm_call L xs (d + 1) m_M_changedNothing [.ref 29] h Q := by
  refine x_call (lo := [.ref 29, .float 0, .float 0]) (Nat.le_of_ble_eq_true rfl) rfl ?_
  refine x_iconst (v := 1) (pc' := 1) d_M_changedNothing_0 rfl (by decide) ?_
  refine x_istore_n (lo' := [.ref 29, .int 1, .float 0]) (pc' := 2) d_M_changedNothing_1 rfl (Nat.le_of_ble_eq_true rfl) rfl ?_
  refine x_iconst (v := nI 0) (pc' := 3) d_M_changedNothing_2 rfl (by decide) ?_
  refine x_istore_n (lo' := [.ref 29, .int 1, .int (nI 0)]) (pc' := 4) d_M_changedNothing_3 rfl (Nat.le_of_ble_eq_true rfl) rfl ?_
  exact l_M_changedNothing hO h41 h39 hX hY hQ 4 0 rfl true ⟨fun _ j hj => absurd hj (Nat.not_lt_zero j), fun _ => rfl⟩
theorem l_M_sameAsHead {L : Nat} {xs : Nat → Int32} {d : Nat} {h : xm_H} {Q : xm_Q} {S : sp_S} {tk : Int32} (hO : mo h (sp_n S.1) tk) (hM : mk h S) {r q : Nat} {t : sp_T} {w : Nat → Int64} (hr : r < 2) (hc : sp_cur (S.2 r) < 4) (hk2 : sp_ok (sp_n S.1) (sp_head (S.2 r))) (hq : h[q]? = some (.inl (.long, 8, .inr (.inl w)))) (hw : ∀ f, f < 4 → w (4 * r + f) = sp_tv (t f)) (hX : sp_w4 (t)) (hY : sp_w4 (sp_of S.1 (sp_head (S.2 r)))) (hQ : Q (some (.int (sp_bi (sp_eq4 (t) (sp_of S.1 (sp_head (S.2 r))))))) h) :
    ∀ z9 k, k + z9 = 4 → ∀ fb : Bool, (fb = true ↔ ∀ j, j < k → t j = sp_of S.1 (sp_head (S.2 r)) j) → xm_X L xs (xm_call L xs (d + 1)) m_M_sameAsHead (5, [.ref 29, .ref q, .int (nI r), .int (sp_bi fb), .int (nI k)], [], h, 0, 0) Q := by
  intro z9
  induction z9 with
  | zero =>
    intro k hk fb hfb
    have hk : k = 4 := hk
    subst hk
    have e9 : sp_eq4 (t) (sp_of S.1 (sp_head (S.2 r))) = fb := by
      unfold sp_eq4
      rw [Bool.eq_iff_iff, decide_eq_true_iff, hfb]
      constructor
      · rintro ⟨z0, z1, z2, z3⟩ j hj
        match j, hj with
        | 0, _ => exact z0
        | 1, _ => exact z1
        | 2, _ => exact z2
        | 3, _ => exact z3
        | k + 4, h => omega
      · intro z
        exact ⟨z 0 (by decide), z 1 (by decide), z 2 (by decide), z 3 (by decide)⟩
    rw [e9] at hQ
    refine x_iload (pc' := 7) d_M_sameAsHead_5 rfl rfl ?_
    refine x_iconst (v := nI 4) (pc' := 8) d_M_sameAsHead_7 rfl (by decide) ?_
    refine x_icmpge (t := 50) (pc' := 11) d_M_sameAsHead_8 rfl rfl (fun _ => ?_) (fun q => absurd (nI_le (Nat.le_refl _) (by decide)) q)
    refine x_iload_n (pc' := 51) d_M_sameAsHead_50 rfl rfl ?_
    exact x_ireturn d_M_sameAsHead_51 rfl (by cases fb <;> rfl) hQ
  | succ z9 ih =>
    intro k hk fb hfb
    have hk4 : k < 4 := by omega
    refine x_iload (pc' := 7) d_M_sameAsHead_5 rfl rfl ?_
    refine x_iconst (v := nI 4) (pc' := 8) d_M_sameAsHead_7 rfl (by decide) ?_
    refine x_icmpge (t := 50) (pc' := 11) d_M_sameAsHead_8 rfl rfl (fun q => absurd q (nI_ge hk4 (by decide))) (fun _ => ?_)
    refine x_iload_n (pc' := 12) d_M_sameAsHead_11 rfl rfl ?_
    cases fb with
    | false =>
      refine x_ifeq (t := 42) (pc' := 15) d_M_sameAsHead_12 rfl rfl (fun _ => ?_) (fun q => absurd rfl q)
      refine x_iconst (v := 0) (pc' := 43) d_M_sameAsHead_42 rfl (by decide) ?_
      refine x_istore_n (lo' := [.ref 29, .ref q, .int (nI r), .int 0, .int (nI k)]) (pc' := 44) d_M_sameAsHead_43 rfl (Nat.le_of_ble_eq_true rfl) rfl ?_
      refine x_iinc (y := nI (k + 1)) (lo' := [.ref 29, .ref q, .int (nI r), .int 0, .int (nI (k + 1))]) (pc' := 47) d_M_sameAsHead_44 rfl rfl (sp_nI_inc k) rfl ?_
      refine x_goto (t := 5) d_M_sameAsHead_47 rfl ?_
      exact ih (k + 1) (by omega) false ⟨fun z => (by cases z), fun z => hfb.mpr (fun j hj => z j (by omega))⟩
    | true =>
      refine x_ifeq (t := 42) (pc' := 15) d_M_sameAsHead_12 rfl rfl (fun q => absurd q (by decide)) (fun _ => ?_)
      refine x_aload_n (pc' := 16) d_M_sameAsHead_15 rfl rfl ?_
      refine x_iconst (v := nI 4) (pc' := 17) d_M_sameAsHead_16 rfl (by decide) ?_
      refine x_iload_n (pc' := 18) d_M_sameAsHead_17 rfl rfl ?_
      refine x_imul (z := nI (4 * r)) (pc' := 19) d_M_sameAsHead_18 rfl (pk_mul 4 r) ?_
      refine x_iload (pc' := 21) d_M_sameAsHead_19 rfl rfl ?_
      refine x_iadd (z := nI (4 * r + k)) (pc' := 22) d_M_sameAsHead_21 rfl (nI_add _ _) ?_
      refine x_laload (v := sp_tv (t k)) (pc' := 23) d_M_sameAsHead_22 rfl hq (vp_in_nI (by omega) (by decide)) (by rw [nI_clamp (by omega)]; exact hw k hk4) ?_
      refine x_aload_n (pc' := 24) d_M_sameAsHead_23 rfl rfl ?_
      refine x_aload_n (pc' := 25) d_M_sameAsHead_24 rfl rfl ?_
      refine x_iload_n (pc' := 26) d_M_sameAsHead_25 rfl rfl ?_
      refine x_virtual (a := 29) (as := [.int (nI r)]) (r := [.ref 29, .long (sp_tv (t k))]) (v := (some (.int (sp_vi (sp_head (S.2 r)))))) (h' := h) (st' := [.int (sp_vi (sp_head (S.2 r))), .ref 29, .long (sp_tv (t k))]) (c' := 0) (s' := 0) (pc' := 29) d_M_sameAsHead_26 rfl c_M_111 hO rfl rfl (Nat.le_of_ble_eq_true rfl) (Nat.le_of_ble_eq_true rfl) (Nat.le_of_ble_eq_true rfl) (fun Q' hq => c_M_head hO hM hr hc hq) rfl rfl rfl ?_
      refine x_iload (pc' := 31) d_M_sameAsHead_29 rfl rfl ?_
      refine x_virtual (a := 29) (as := [.int (sp_vi (sp_head (S.2 r))), .int (nI k)]) (r := [.long (sp_tv (t k))]) (v := (some (.long (sp_tv (sp_of S.1 (sp_head (S.2 r)) k))))) (h' := h) (st' := [.long (sp_tv (sp_of S.1 (sp_head (S.2 r)) k)), .long (sp_tv (t k))]) (c' := 0) (s' := 0) (pc' := 34) d_M_sameAsHead_31 rfl c_M_115 hO rfl rfl (Nat.le_of_ble_eq_true rfl) (Nat.le_of_ble_eq_true rfl) (Nat.le_of_ble_eq_true rfl) (fun Q' hq => c_M_textOf hO hM hk2 hk4 hq) rfl rfl rfl ?_
      refine x_lcmp (z := lg_cmp (sp_tv (t k)) (sp_tv (sp_of S.1 (sp_head (S.2 r)) k))) (pc' := 35) d_M_sameAsHead_34 rfl rfl ?_
      by_cases e : t k = sp_of S.1 (sp_head (S.2 r)) k
      · refine x_ifne (t := 42) (pc' := 38) d_M_sameAsHead_35 rfl rfl (fun q => absurd (by rw [e]; exact (lg_cmp_eq _ _).mpr rfl) q) (fun _ => ?_)
        refine x_iconst (v := 1) (pc' := 39) d_M_sameAsHead_38 rfl (by decide) ?_
        refine x_goto (t := 43) d_M_sameAsHead_39 rfl ?_
        refine x_istore_n (lo' := [.ref 29, .ref q, .int (nI r), .int 1, .int (nI k)]) (pc' := 44) d_M_sameAsHead_43 rfl (Nat.le_of_ble_eq_true rfl) rfl ?_
        refine x_iinc (y := nI (k + 1)) (lo' := [.ref 29, .ref q, .int (nI r), .int 1, .int (nI (k + 1))]) (pc' := 47) d_M_sameAsHead_44 rfl rfl (sp_nI_inc k) rfl ?_
        refine x_goto (t := 5) d_M_sameAsHead_47 rfl ?_
        exact ih (k + 1) (by omega) true ⟨fun _ j hj => (by rcases Nat.lt_or_eq_of_le (Nat.le_of_lt_succ hj) with z | z; exact hfb.mp rfl j z; subst z; exact e), fun _ => rfl⟩
      · refine x_ifne (t := 42) (pc' := 38) d_M_sameAsHead_35 rfl rfl (fun _ => ?_) (fun q => absurd q (fun z => e (sp_tv_cmp (hX k hk4) (hY k hk4) z)))
        refine x_iconst (v := 0) (pc' := 43) d_M_sameAsHead_42 rfl (by decide) ?_
        refine x_istore_n (lo' := [.ref 29, .ref q, .int (nI r), .int 0, .int (nI k)]) (pc' := 44) d_M_sameAsHead_43 rfl (Nat.le_of_ble_eq_true rfl) rfl ?_
        refine x_iinc (y := nI (k + 1)) (lo' := [.ref 29, .ref q, .int (nI r), .int 0, .int (nI (k + 1))]) (pc' := 47) d_M_sameAsHead_44 rfl rfl (sp_nI_inc k) rfl ?_
        refine x_goto (t := 5) d_M_sameAsHead_47 rfl ?_
        exact ih (k + 1) (by omega) false ⟨fun z => (by cases z), fun z => absurd (z k (Nat.lt_succ_self _)) e⟩
theorem c_M_sameAsHead {L : Nat} {xs : Nat → Int32} {d : Nat} {h : xm_H} {Q : xm_Q} {S : sp_S} {tk : Int32} (hO : mo h (sp_n S.1) tk) (hM : mk h S) {r q : Nat} {t : sp_T} {w : Nat → Int64} (hr : r < 2) (hc : sp_cur (S.2 r) < 4) (hk2 : sp_ok (sp_n S.1) (sp_head (S.2 r))) (hq : h[q]? = some (.inl (.long, 8, .inr (.inl w)))) (hw : ∀ f, f < 4 → w (4 * r + f) = sp_tv (t f)) (hX : sp_w4 (t)) (hY : sp_w4 (sp_of S.1 (sp_head (S.2 r)))) (hQ : Q (some (.int (sp_bi (sp_eq4 (t) (sp_of S.1 (sp_head (S.2 r))))))) h) : xm_call L xs (d + 2) m_M_sameAsHead [.ref 29, .ref q, .int (nI r)] h Q := by
  refine x_call (lo := [.ref 29, .ref q, .int (nI r), .float 0, .float 0]) (Nat.le_of_ble_eq_true rfl) rfl ?_
  refine x_iconst (v := 1) (pc' := 1) d_M_sameAsHead_0 rfl (by decide) ?_
  refine x_istore_n (lo' := [.ref 29, .ref q, .int (nI r), .int 1, .float 0]) (pc' := 2) d_M_sameAsHead_1 rfl (Nat.le_of_ble_eq_true rfl) rfl ?_
  refine x_iconst (v := nI 0) (pc' := 3) d_M_sameAsHead_2 rfl (by decide) ?_
  refine x_istore (lo' := [.ref 29, .ref q, .int (nI r), .int 1, .int (nI 0)]) (pc' := 5) d_M_sameAsHead_3 rfl (Nat.le_of_ble_eq_true rfl) rfl ?_
  exact l_M_sameAsHead hO hM hr hc hk2 hq hw hX hY hQ 4 0 rfl true ⟨fun _ j hj => absurd hj (Nat.not_lt_zero j), fun _ => rfl⟩
theorem c_M_dirty {L : Nat} {xs : Nat → Int32} {d : Nat} {h : xm_H} {Q : xm_Q} {S : sp_S} {tk : Int32} (hO : mo h (sp_n S.1) tk) (hM : mk h S) (hS : sp_WS S) {r : Nat} (hr : r < 2) (hQ : Q (some (.int (sp_bi (!sp_clean S.1 (S.2 r))))) h) : xm_call L xs (d + 3) m_M_dirty [.ref 29, .int (nI r)] h Q := by
  have hR := hS.2 r hr
  have hk2 : sp_ok (sp_n S.1) (sp_head (S.2 r)) := hR.2.1 _ hR.1
  obtain ⟨w, w1, w2⟩ := hM.2.2.2.2.2.2.2.1
  obtain ⟨x, x1, x2⟩ := hM.2.2.2.2.2.2.2.2
  refine x_call (lo := [.ref 29, .int (nI r)]) (Nat.le_of_ble_eq_true rfl) rfl ?_
  refine x_aload_n (pc' := 1) d_M_dirty_0 rfl rfl ?_
  refine x_aload_n (pc' := 2) d_M_dirty_1 rfl rfl ?_
  refine x_getfield (ci := 4) (i := 7) (v := .ref 36) (pc' := 5) d_M_dirty_2 rfl g_M_29 hO rfl ?_
  refine x_iload_n (pc' := 6) d_M_dirty_5 rfl rfl ?_
  refine x_virtual (a := 29) (as := [.ref 36, .int (nI r)]) (r := []) (v := (some (.int (sp_bi (sp_eq4 (sp_wk (S.2 r)) (sp_of S.1 (sp_head (S.2 r)))))))) (h' := h) (st' := [.int (sp_bi (sp_eq4 (sp_wk (S.2 r)) (sp_of S.1 (sp_head (S.2 r)))))]) (c' := 0) (s' := 0) (pc' := 9) d_M_dirty_6 rfl c_M_119 hO rfl rfl (Nat.le_of_ble_eq_true rfl) (Nat.le_of_ble_eq_true rfl) (Nat.le_of_ble_eq_true rfl) (fun Q' hq => c_M_sameAsHead hO hM hr hR.1 hk2 w1 (w2 r hr) (fun f hf => (hR.2.2.2.2 f hf).1) (sp_WH_of hS.1 hk2) hq) rfl rfl rfl ?_
  cases e1 : sp_eq4 (sp_wk (S.2 r)) (sp_of S.1 (sp_head (S.2 r))) with
  | false =>
    refine x_ifeq (t := 24) (pc' := 12) d_M_dirty_9 rfl rfl (fun _ => ?_) (fun q => absurd rfl q)
    refine x_iconst (v := 1) (pc' := 25) d_M_dirty_24 rfl (by decide) ?_
    refine x_goto (t := 29) d_M_dirty_25 rfl ?_
    exact x_ireturn d_M_dirty_29 rfl rfl (x_q (by unfold sp_clean; rw [sp_eq4_comm, e1]; rfl) hQ)
  | true =>
    refine x_ifeq (t := 24) (pc' := 12) d_M_dirty_9 rfl rfl (fun q => absurd q (by decide)) (fun _ => ?_)
    refine x_aload_n (pc' := 13) d_M_dirty_12 rfl rfl ?_
    refine x_aload_n (pc' := 14) d_M_dirty_13 rfl rfl ?_
    refine x_getfield (ci := 4) (i := 8) (v := .ref 37) (pc' := 17) d_M_dirty_14 rfl g_M_32 hO rfl ?_
    refine x_iload_n (pc' := 18) d_M_dirty_17 rfl rfl ?_
    refine x_virtual (a := 29) (as := [.ref 37, .int (nI r)]) (r := []) (v := (some (.int (sp_bi (sp_eq4 (sp_ix (S.2 r)) (sp_of S.1 (sp_head (S.2 r)))))))) (h' := h) (st' := [.int (sp_bi (sp_eq4 (sp_ix (S.2 r)) (sp_of S.1 (sp_head (S.2 r)))))]) (c' := 0) (s' := 0) (pc' := 21) d_M_dirty_18 rfl c_M_119 hO rfl rfl (Nat.le_of_ble_eq_true rfl) (Nat.le_of_ble_eq_true rfl) (Nat.le_of_ble_eq_true rfl) (fun Q' hq => c_M_sameAsHead hO hM hr hR.1 hk2 x1 (x2 r hr) (fun f hf => (hR.2.2.2.2 f hf).2) (sp_WH_of hS.1 hk2) hq) rfl rfl rfl ?_
    cases e2 : sp_eq4 (sp_ix (S.2 r)) (sp_of S.1 (sp_head (S.2 r))) with
    | false =>
      refine x_ifne (t := 28) (pc' := 24) d_M_dirty_21 rfl rfl (fun q => absurd rfl q) (fun _ => ?_)
      refine x_iconst (v := 1) (pc' := 25) d_M_dirty_24 rfl (by decide) ?_
      refine x_goto (t := 29) d_M_dirty_25 rfl ?_
      exact x_ireturn d_M_dirty_29 rfl rfl (x_q (by unfold sp_clean; rw [sp_eq4_comm, e1, sp_eq4_comm, e2]; rfl) hQ)
    | true =>
      refine x_ifne (t := 28) (pc' := 24) d_M_dirty_21 rfl rfl (fun _ => ?_) (fun q => absurd q (by decide))
      refine x_iconst (v := 0) (pc' := 29) d_M_dirty_28 rfl (by decide) ?_
      exact x_ireturn d_M_dirty_29 rfl rfl (x_q (by unfold sp_clean; rw [sp_eq4_comm, e1, sp_eq4_comm, e2]; rfl) hQ)
theorem c_M_there {L : Nat} {xs : Nat → Int32} {d : Nat} {h : xm_H} {Q : xm_Q} {S : sp_S} {tk : Int32} (hO : mo h (sp_n S.1) tk) (hM : mk h S) (hS : sp_WS S) {r : Nat} (hr : r < 2) {b : Nat} (hb : b < 4) (hQ : Q (some (.int (sp_bi (decide (sp_tip (S.2 r) b ≠ none))))) h) : xm_call L xs (d + 1) m_M_there [.ref 29, .int (nI r), .int (nI b)] h Q := by
  obtain ⟨t, t1, t2⟩ := hM.2.2.2.2.2.1
  refine x_call (lo := [.ref 29, .int (nI r), .int (nI b)]) (Nat.le_of_ble_eq_true rfl) rfl ?_
  refine x_aload_n (pc' := 1) d_M_there_0 rfl rfl ?_
  refine x_getfield (ci := 4) (i := 5) (v := .ref 34) (pc' := 4) d_M_there_1 rfl g_M_23 hO rfl ?_
  refine x_iconst (v := nI 4) (pc' := 5) d_M_there_4 rfl (by decide) ?_
  refine x_iload_n (pc' := 6) d_M_there_5 rfl rfl ?_
  refine x_imul (z := nI (4 * r)) (pc' := 7) d_M_there_6 rfl (pk_mul 4 r) ?_
  refine x_iload_n (pc' := 8) d_M_there_7 rfl rfl ?_
  refine x_iadd (z := nI (4 * r + b)) (pc' := 9) d_M_there_8 rfl (nI_add _ _) ?_
  refine x_iaload (v := sp_vi (sp_tip (S.2 r) b)) (pc' := 10) d_M_there_9 rfl t1 (vp_in_nI (by omega) (by decide)) (by rw [nI_clamp (by omega)]; exact t2 r hr b hb) ?_
  have hv := sp_vi_ge (n := 40) (by decide) (fun k hk => Nat.lt_of_lt_of_le ((hS.2 r hr).2.1 b hb k hk) hM.1)
  by_cases e : sp_tip (S.2 r) b = none
  · refine x_iflt (t := 17) (pc' := 13) d_M_there_10 rfl rfl (fun _ => ?_) (fun q => absurd (hv.1.mpr e) q)
    refine x_iconst (v := 0) (pc' := 18) d_M_there_17 rfl (by decide) ?_
    exact x_ireturn d_M_there_18 rfl rfl (x_q (by rw [e]; rfl) hQ)
  · refine x_iflt (t := 17) (pc' := 13) d_M_there_10 rfl rfl (fun q => absurd q (fun z => e (hv.1.mp z))) (fun _ => ?_)
    refine x_iconst (v := 1) (pc' := 14) d_M_there_13 rfl (by decide) ?_
    refine x_goto (t := 18) d_M_there_14 rfl ?_
    exact x_ireturn d_M_there_18 rfl rfl (x_q (by rw [decide_eq_true e]; rfl) hQ)
