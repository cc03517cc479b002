/-! reached, reaches, baseOf of the reference. (Printed by c_m2.py.) -/
theorem sp_cl {H : sp_H} (hW : sp_WH H) : ∀ (c : Nat), c < sp_n H → ∀ k, (sp_rr H c).testBit k = true → k < sp_n H ∧ ∀ j, (sp_rr H k).testBit j = true → (sp_rr H c).testBit j = true := by
  intro c
  induction c using Nat.strongRecOn with
  | ind c ih =>
    intro hc k hk
    obtain ⟨h1, h2, h3, -⟩ := hW.2.1 c hc
    rw [h3, Nat.testBit_or, Nat.testBit_or, Bool.or_eq_true, Bool.or_eq_true, Nat.testBit_two_pow] at hk
    rcases hk with (hk | hk) | hk
    · have := of_decide_eq_true hk
      subst this
      exact ⟨hc, fun j hj => hj⟩
    · cases e : sp_p1 H c with
      | none => rw [e] at hk; exact absurd hk (by show ¬ (0 : Nat).testBit k = true; rw [Nat.zero_testBit]; decide)
      | some p =>
        rw [e] at hk
        obtain ⟨a, b⟩ := ih p (h1 p e) (Nat.lt_trans (h1 p e) hc) k hk
        refine ⟨a, fun j hj => ?_⟩
        rw [h3, Nat.testBit_or, Nat.testBit_or, e, show (sp_ro H (some p)).testBit j = true from b j hj]
        simp
    · cases e : sp_p2 H c with
      | none => rw [e] at hk; exact absurd hk (by show ¬ (0 : Nat).testBit k = true; rw [Nat.zero_testBit]; decide)
      | some p =>
        rw [e] at hk
        obtain ⟨a, b⟩ := ih p (h2 p e) (Nat.lt_trans (h2 p e) hc) k hk
        refine ⟨a, fun j hj => ?_⟩
        rw [h3, Nat.testBit_or, Nat.testBit_or, e, show (sp_ro H (some p)).testBit j = true from b j hj]
        simp
theorem sp_self {H : sp_H} (hW : sp_WH H) {c : Nat} (hc : c < sp_n H) : (sp_rr H c).testBit c = true := by
  rw [(hW.2.1 c hc).2.2.1, Nat.testBit_or, Nat.testBit_or, Nat.testBit_two_pow_self]
  simp
theorem sp_par {H : sp_H} (hW : sp_WH H) {c p : Nat} (hc : c < sp_n H) (h : sp_p1 H c = some p ∨ sp_p2 H c = some p) : (sp_rr H c).testBit p = true := by
  obtain ⟨h1, h2, h3, -⟩ := hW.2.1 c hc
  rw [h3, Nat.testBit_or, Nat.testBit_or]
  rcases h with h | h
  · rw [h, show (sp_ro H (some p)).testBit p = true from sp_self hW (Nat.lt_trans (h1 p h) hc)]
    simp
  · rw [h, show (sp_ro H (some p)).testBit p = true from sp_self hW (Nat.lt_trans (h2 p h) hc)]
    simp
theorem sp_cl2 {H : sp_H} (hW : sp_WH H) {A : Nat} (hA : ∀ k, k < sp_n H → A.testBit k = true → ∀ p, (sp_p1 H k = some p ∨ sp_p2 H k = some p) → A.testBit p = true) : ∀ (c : Nat), c < sp_n H → A.testBit c = true → ∀ j, (sp_rr H c).testBit j = true → A.testBit j = true := by
  intro c
  induction c using Nat.strongRecOn with
  | ind c ih =>
    intro hc hb j hj
    obtain ⟨h1, h2, h3, -⟩ := hW.2.1 c hc
    rw [h3, Nat.testBit_or, Nat.testBit_or, Bool.or_eq_true, Bool.or_eq_true, Nat.testBit_two_pow] at hj
    rcases hj with (hj | hj) | hj
    · exact (of_decide_eq_true hj) ▸ hb
    · cases e : sp_p1 H c with
      | none => rw [e] at hj; exact absurd hj (by show ¬ (0 : Nat).testBit j = true; rw [Nat.zero_testBit]; decide)
      | some p =>
        rw [e] at hj
        exact ih p (h1 p e) (Nat.lt_trans (h1 p e) hc) (hA c hc hb p (Or.inl e)) j hj
    · cases e : sp_p2 H c with
      | none => rw [e] at hj; exact absurd hj (by show ¬ (0 : Nat).testBit j = true; rw [Nat.zero_testBit]; decide)
      | some p =>
        rw [e] at hj
        exact ih p (h2 p e) (Nat.lt_trans (h2 p e) hc) (hA c hc hb p (Or.inr e)) j hj
def sp_st (A : Nat) (o : Option Nat) : Nat := match o with
  | none => A
  | some p => A ||| 2 ^ p
theorem sp_st_bit (A : Nat) (o : Option Nat) (j : Nat) : (sp_st A o).testBit j = true ↔ A.testBit j = true ∨ o = some j := by
  cases o with
  | none => simp [sp_st]
  | some p => simp [sp_st, Nat.testBit_or, Nat.testBit_two_pow]
/-- what the walk down has gathered: the commits from r on are done -/
def sp_iv (H : sp_H) (c r A : Nat) : Prop := A.testBit c = true ∧ (∀ j, A.testBit j = true → (sp_rr H c).testBit j = true) ∧ ∀ k, r ≤ k → A.testBit k = true → ∀ p, (sp_p1 H k = some p ∨ sp_p2 H k = some p) → A.testBit p = true
theorem sp_iv_0 {H : sp_H} (hW : sp_WH H) {c : Nat} (hc : c < sp_n H) : sp_iv H c (c + 1) (2 ^ c) := by
  refine ⟨Nat.testBit_two_pow_self, fun j hj => ?_, fun k hk hb => ?_⟩
  · rw [Nat.testBit_two_pow] at hj
    exact (of_decide_eq_true hj) ▸ sp_self hW hc
  · rw [Nat.testBit_two_pow] at hb
    have := of_decide_eq_true hb
    omega
theorem sp_iv_f {H : sp_H} {c r A : Nat} (h : sp_iv H c (r + 1) A) (hb : A.testBit r = false) : sp_iv H c r A := by
  refine ⟨h.1, h.2.1, fun k hk hk2 => ?_⟩
  rcases Nat.lt_or_eq_of_le hk with h1 | h1
  · exact h.2.2 k h1 hk2
  · rw [h1, hk2] at hb; cases hb
theorem sp_iv_t {H : sp_H} (hW : sp_WH H) {c r A : Nat} (hc : c < sp_n H) (h : sp_iv H c (r + 1) A) (hb : A.testBit r = true) : sp_iv H c r (sp_st (sp_st A (sp_p1 H r)) (sp_p2 H r)) := by
  have hr := h.2.1 r hb
  obtain ⟨hrn, hrc⟩ := sp_cl hW c hc r hr
  obtain ⟨g1, g2, -, -⟩ := hW.2.1 r hrn
  have key : ∀ k, r ≤ k → ¬ (sp_p1 H r = some k ∨ sp_p2 H r = some k) := fun k hk z => by
    rcases z with z | z
    · have := g1 k z; omega
    · have := g2 k z; omega
  have bit : ∀ j, (sp_st (sp_st A (sp_p1 H r)) (sp_p2 H r)).testBit j = true ↔ A.testBit j = true ∨ sp_p1 H r = some j ∨ sp_p2 H r = some j := fun j => by
    rw [sp_st_bit, sp_st_bit, or_assoc]
  refine ⟨(bit c).mpr (Or.inl h.1), fun j hj => ?_, fun k hk hk2 p hp => ?_⟩
  · rcases (bit j).mp hj with z | z
    · exact h.2.1 j z
    · exact hrc j (sp_par hW hrn z)
  · have hA : A.testBit k = true := ((bit k).mp hk2).elim id (fun z => absurd z (key k hk))
    rcases Nat.lt_or_eq_of_le hk with h1 | h1
    · exact (bit p).mpr (Or.inl (h.2.2 k h1 hA p hp))
    · subst h1
      exact (bit p).mpr (Or.inr hp)
theorem sp_iv_e {H : sp_H} (hW : sp_WH H) {c A : Nat} (hc : c < sp_n H) (h : sp_iv H c 0 A) : A = sp_rr H c := by
  apply Nat.eq_of_testBit_eq
  intro j
  rw [Bool.eq_iff_iff]
  exact ⟨h.2.1 j, sp_cl2 hW (fun k _ hb p hp => h.2.2 k (Nat.zero_le _) hb p hp) c hc h.1 j⟩
theorem sp_iv_64 {H : sp_H} (hW : sp_WH H) {c r A : Nat} (hc : c < sp_n H) (h : sp_iv H c r A) : A < 2 ^ 64 := by
  apply Nat.lt_pow_two_of_testBit
  intro i hi
  rw [Bool.eq_false_iff]
  intro z
  have h1 := h.2.1 i z
  rw [show (sp_rr H c).testBit i = false from Nat.testBit_lt_two_pow (Nat.lt_of_lt_of_le (sp_WH_64 hW (c := some c) (sp_ok_some hc)) (Nat.pow_le_pow_right (by decide) hi))] at h1
  cases h1
theorem sp_or1 {A p : Nat} (hA : A < 2 ^ 64) (hp : p < 40) : lN A ||| lN (2 ^ p) = lN (A ||| 2 ^ p) := wb_or hA (Nat.pow_lt_pow_right (by decide) (by omega))
theorem sp_lsh {p : Nat} (hp : p < 40) : lN 1 <<< ((nI p).toInt64 &&& 63) = lN (2 ^ p) := by rw [wb_shl 1 (by omega), Nat.one_mul]
set_option maxHeartbeats 4000000 in
theorem l_M_reached {L : Nat} {xs : Nat → Int32} {d : Nat} {h : xm_H} {Q : xm_Q} {S : sp_S} {tk : Int32} (hO : mo h (sp_n S.1) tk) (hM : mk h S) (hW : sp_WH S.1) {c : Nat} (hc : c < sp_n S.1) (hQ : Q (some (.long (lN (sp_rr S.1 c)))) h) : ∀ r, r ≤ c + 1 → ∀ (A : Nat) (x5 : Value), sp_iv S.1 c r A →
    xm_X L xs (xm_call L xs d) m_M_reached (15, [.ref 29, .int (nI c), .long (lN A), .float 0, .int (nI r - nI 1), x5], [], h, 0, 0) Q := by
  have h40 := hM.1
  obtain ⟨P1, p1, g1⟩ := hM.2.2.1
  obtain ⟨P2, p2, g2⟩ := hM.2.2.2.1
  intro r
  induction r with
  | zero =>
    intro _ A x5 hA
    refine x_iload (pc' := 17) d_M_reached_15 rfl rfl ?_
    refine x_iflt (t := 106) (pc' := 20) d_M_reached_17 rfl rfl (fun _ => ?_) (fun q => absurd (by decide) q)
    refine x_lload_n (pc' := 107) d_M_reached_106 rfl rfl rfl ?_
    exact x_lreturn d_M_reached_107 rfl (sp_iv_e hW hc hA ▸ hQ)
  | succ r ih =>
    intro hrc A x5 hA
    rw [show nI (r + 1) - nI 1 = nI r from pk_sub (Nat.le_add_left 1 r)]
    refine x_iload (pc' := 17) d_M_reached_15 rfl rfl ?_
    refine x_iflt (t := 106) (pc' := 20) d_M_reached_17 rfl rfl (fun q => absurd q (nI_pos (by omega))) (fun _ => ?_)
    refine x_lload_n (pc' := 21) d_M_reached_20 rfl rfl rfl ?_
    refine x_iload (pc' := 23) d_M_reached_21 rfl rfl ?_
    refine x_lshr (z := (lN A) >>> ((nI r).toInt64 &&& 63)) (pc' := 24) d_M_reached_23 rfl rfl ?_
    refine x_lconst (v := 1) (pc' := 25) d_M_reached_24 rfl (by decide) ?_
    cases hb : A.testBit r with
    | false =>
      refine x_land (z := lN 0) (pc' := 26) d_M_reached_25 rfl (wb_sb (by omega) hb) ?_
      refine x_lconst (v := 1) (pc' := 27) d_M_reached_26 rfl (by decide) ?_
      refine x_lcmp (z := lg_cmp (lN 0) 1) (pc' := 28) d_M_reached_27 rfl rfl ?_
      refine x_ifne (t := 35) (pc' := 31) d_M_reached_28 rfl rfl (fun _ => ?_) (fun q => absurd q (by decide))
      refine x_iconst (v := 0) (pc' := 36) d_M_reached_35 rfl (by decide) ?_
      refine x_istore (lo' := [.ref 29, .int (nI c), .long (lN A), .float 0, .int (nI r), .int 0]) (pc' := 38) d_M_reached_36 rfl (Nat.le_of_ble_eq_true rfl) rfl ?_
      refine x_iload (pc' := 40) d_M_reached_38 rfl rfl ?_
      refine x_ifeq (t := 67) (pc' := 43) d_M_reached_40 rfl rfl (fun _ => ?_) (fun q => absurd rfl q)
      refine x_lload_n (pc' := 68) d_M_reached_67 rfl rfl rfl ?_
      refine x_lstore_n (lo' := [.ref 29, .int (nI c), .long (lN A), .float 0, .int (nI r), .int 0]) (pc' := 69) d_M_reached_68 rfl (Nat.le_of_ble_eq_true rfl) rfl ?_
      refine x_iload (pc' := 71) d_M_reached_69 rfl rfl ?_
      refine x_ifeq (t := 98) (pc' := 74) d_M_reached_71 rfl rfl (fun _ => ?_) (fun q => absurd rfl q)
      refine x_lload_n (pc' := 99) d_M_reached_98 rfl rfl rfl ?_
      refine x_lstore_n (lo' := [.ref 29, .int (nI c), .long (lN A), .float 0, .int (nI r), .int 0]) (pc' := 100) d_M_reached_99 rfl (Nat.le_of_ble_eq_true rfl) rfl ?_
      refine x_iinc (y := nI r - nI 1) (lo' := [.ref 29, .int (nI c), .long (lN A), .float 0, .int (nI r - nI 1), .int 0]) (pc' := 103) d_M_reached_100 rfl rfl (sp_m1 r) rfl ?_
      refine x_goto (t := 15) d_M_reached_103 rfl ?_
      exact ih (by omega) A _ (sp_iv_f hA hb)
    | true =>
      have hr := (sp_cl hW c hc r (hA.2.1 r hb)).1
      have e64 := sp_iv_64 hW hc hA
      have hI := sp_iv_t hW hc hA hb
      refine x_land (z := lN 1) (pc' := 26) d_M_reached_25 rfl (wb_sb (by omega) hb) ?_
      refine x_lconst (v := 1) (pc' := 27) d_M_reached_26 rfl (by decide) ?_
      refine x_lcmp (z := lg_cmp (lN 1) 1) (pc' := 28) d_M_reached_27 rfl rfl ?_
      refine x_ifne (t := 35) (pc' := 31) d_M_reached_28 rfl rfl (fun q => absurd rfl q) (fun _ => ?_)
      refine x_iconst (v := 1) (pc' := 32) d_M_reached_31 rfl (by decide) ?_
      refine x_goto (t := 36) d_M_reached_32 rfl ?_
      refine x_istore (lo' := [.ref 29, .int (nI c), .long (lN A), .float 0, .int (nI r), .int 1]) (pc' := 38) d_M_reached_36 rfl (Nat.le_of_ble_eq_true rfl) rfl ?_
      refine x_iload (pc' := 40) d_M_reached_38 rfl rfl ?_
      refine x_ifeq (t := 67) (pc' := 43) d_M_reached_40 rfl rfl (fun q => absurd q (by decide)) (fun _ => ?_)
      cases e1 : sp_p1 S.1 r with
      | none =>
        rw [e1] at hI
        refine x_aload_n (pc' := 44) d_M_reached_43 rfl rfl ?_
        refine x_getfield (ci := 4) (i := 2) (v := .ref 31) (pc' := 47) d_M_reached_44 rfl g_M_13 hO rfl ?_
        refine x_iload (pc' := 49) d_M_reached_47 rfl rfl ?_
        refine x_iaload (v := -2) (pc' := 50) d_M_reached_49 rfl p1 (vp_in_nI (by omega) (by decide)) (by rw [nI_clamp (by omega), g1 r hr, e1]; rfl) ?_
        refine x_iflt (t := 67) (pc' := 53) d_M_reached_50 rfl rfl (fun _ => ?_) (fun q => absurd (by decide) q)
        refine x_lload_n (pc' := 68) d_M_reached_67 rfl rfl rfl ?_
        refine x_lstore_n (lo' := [.ref 29, .int (nI c), .long (lN A), .float 0, .int (nI r), .int 1]) (pc' := 69) d_M_reached_68 rfl (Nat.le_of_ble_eq_true rfl) rfl ?_
        refine x_iload (pc' := 71) d_M_reached_69 rfl rfl ?_
        refine x_ifeq (t := 98) (pc' := 74) d_M_reached_71 rfl rfl (fun q => absurd q (by decide)) (fun _ => ?_)
        cases e2 : sp_p2 S.1 r with
        | none =>
          rw [e2] at hI
          refine x_aload_n (pc' := 75) d_M_reached_74 rfl rfl ?_
          refine x_getfield (ci := 4) (i := 3) (v := .ref 32) (pc' := 78) d_M_reached_75 rfl g_M_17 hO rfl ?_
          refine x_iload (pc' := 80) d_M_reached_78 rfl rfl ?_
          refine x_iaload (v := -2) (pc' := 81) d_M_reached_80 rfl p2 (vp_in_nI (by omega) (by decide)) (by rw [nI_clamp (by omega), g2 r hr, e2]; rfl) ?_
          refine x_iflt (t := 98) (pc' := 84) d_M_reached_81 rfl rfl (fun _ => ?_) (fun q => absurd (by decide) q)
          refine x_lload_n (pc' := 99) d_M_reached_98 rfl rfl rfl ?_
          refine x_lstore_n (lo' := [.ref 29, .int (nI c), .long (lN A), .float 0, .int (nI r), .int 1]) (pc' := 100) d_M_reached_99 rfl (Nat.le_of_ble_eq_true rfl) rfl ?_
          refine x_iinc (y := nI r - nI 1) (lo' := [.ref 29, .int (nI c), .long (lN A), .float 0, .int (nI r - nI 1), .int 1]) (pc' := 103) d_M_reached_100 rfl rfl (sp_m1 r) rfl ?_
          refine x_goto (t := 15) d_M_reached_103 rfl ?_
          exact ih (by omega) _ _ hI
        | some q =>
          rw [e2] at hI
          have hq := (hW.2.1 r hr).2.1 q e2
          refine x_aload_n (pc' := 75) d_M_reached_74 rfl rfl ?_
          refine x_getfield (ci := 4) (i := 3) (v := .ref 32) (pc' := 78) d_M_reached_75 rfl g_M_17 hO rfl ?_
          refine x_iload (pc' := 80) d_M_reached_78 rfl rfl ?_
          refine x_iaload (v := nI q) (pc' := 81) d_M_reached_80 rfl p2 (vp_in_nI (by omega) (by decide)) (by rw [nI_clamp (by omega), g2 r hr, e2]; rfl) ?_
          refine x_iflt (t := 98) (pc' := 84) d_M_reached_81 rfl rfl (fun q => absurd q (nI_pos (by omega))) (fun _ => ?_)
          refine x_lload_n (pc' := 85) d_M_reached_84 rfl rfl rfl ?_
          refine x_lconst (v := lN 1) (pc' := 86) d_M_reached_85 rfl (by decide) ?_
          refine x_aload_n (pc' := 87) d_M_reached_86 rfl rfl ?_
          refine x_getfield (ci := 4) (i := 3) (v := .ref 32) (pc' := 90) d_M_reached_87 rfl g_M_17 hO rfl ?_
          refine x_iload (pc' := 92) d_M_reached_90 rfl rfl ?_
          refine x_iaload (v := nI q) (pc' := 93) d_M_reached_92 rfl p2 (vp_in_nI (by omega) (by decide)) (by rw [nI_clamp (by omega), g2 r hr, e2]; rfl) ?_
          refine x_lshl (z := lN (2 ^ q)) (pc' := 94) d_M_reached_93 rfl (sp_lsh (by omega)) ?_
          refine x_lor (z := lN (A ||| 2 ^ q)) (pc' := 95) d_M_reached_94 rfl (sp_or1 e64 (by omega)) ?_
          refine x_goto (t := 99) d_M_reached_95 rfl ?_
          refine x_lstore_n (lo' := [.ref 29, .int (nI c), .long (lN (A ||| 2 ^ q)), .float 0, .int (nI r), .int 1]) (pc' := 100) d_M_reached_99 rfl (Nat.le_of_ble_eq_true rfl) rfl ?_
          refine x_iinc (y := nI r - nI 1) (lo' := [.ref 29, .int (nI c), .long (lN (A ||| 2 ^ q)), .float 0, .int (nI r - nI 1), .int 1]) (pc' := 103) d_M_reached_100 rfl rfl (sp_m1 r) rfl ?_
          refine x_goto (t := 15) d_M_reached_103 rfl ?_
          exact ih (by omega) _ _ hI
      | some p =>
        rw [e1] at hI
        have hp := (hW.2.1 r hr).1 p e1
        refine x_aload_n (pc' := 44) d_M_reached_43 rfl rfl ?_
        refine x_getfield (ci := 4) (i := 2) (v := .ref 31) (pc' := 47) d_M_reached_44 rfl g_M_13 hO rfl ?_
        refine x_iload (pc' := 49) d_M_reached_47 rfl rfl ?_
        refine x_iaload (v := nI p) (pc' := 50) d_M_reached_49 rfl p1 (vp_in_nI (by omega) (by decide)) (by rw [nI_clamp (by omega), g1 r hr, e1]; rfl) ?_
        refine x_iflt (t := 67) (pc' := 53) d_M_reached_50 rfl rfl (fun q => absurd q (nI_pos (by omega))) (fun _ => ?_)
        refine x_lload_n (pc' := 54) d_M_reached_53 rfl rfl rfl ?_
        refine x_lconst (v := lN 1) (pc' := 55) d_M_reached_54 rfl (by decide) ?_
        refine x_aload_n (pc' := 56) d_M_reached_55 rfl rfl ?_
        refine x_getfield (ci := 4) (i := 2) (v := .ref 31) (pc' := 59) d_M_reached_56 rfl g_M_13 hO rfl ?_
        refine x_iload (pc' := 61) d_M_reached_59 rfl rfl ?_
        refine x_iaload (v := nI p) (pc' := 62) d_M_reached_61 rfl p1 (vp_in_nI (by omega) (by decide)) (by rw [nI_clamp (by omega), g1 r hr, e1]; rfl) ?_
        refine x_lshl (z := lN (2 ^ p)) (pc' := 63) d_M_reached_62 rfl (sp_lsh (by omega)) ?_
        refine x_lor (z := lN (A ||| 2 ^ p)) (pc' := 64) d_M_reached_63 rfl (sp_or1 e64 (by omega)) ?_
        refine x_goto (t := 68) d_M_reached_64 rfl ?_
        refine x_lstore_n (lo' := [.ref 29, .int (nI c), .long (lN (A ||| 2 ^ p)), .float 0, .int (nI r), .int 1]) (pc' := 69) d_M_reached_68 rfl (Nat.le_of_ble_eq_true rfl) rfl ?_
        refine x_iload (pc' := 71) d_M_reached_69 rfl rfl ?_
        refine x_ifeq (t := 98) (pc' := 74) d_M_reached_71 rfl rfl (fun q => absurd q (by decide)) (fun _ => ?_)
        cases e2 : sp_p2 S.1 r with
        | none =>
          rw [e2] at hI
          refine x_aload_n (pc' := 75) d_M_reached_74 rfl rfl ?_
          refine x_getfield (ci := 4) (i := 3) (v := .ref 32) (pc' := 78) d_M_reached_75 rfl g_M_17 hO rfl ?_
          refine x_iload (pc' := 80) d_M_reached_78 rfl rfl ?_
          refine x_iaload (v := -2) (pc' := 81) d_M_reached_80 rfl p2 (vp_in_nI (by omega) (by decide)) (by rw [nI_clamp (by omega), g2 r hr, e2]; rfl) ?_
          refine x_iflt (t := 98) (pc' := 84) d_M_reached_81 rfl rfl (fun _ => ?_) (fun q => absurd (by decide) q)
          refine x_lload_n (pc' := 99) d_M_reached_98 rfl rfl rfl ?_
          refine x_lstore_n (lo' := [.ref 29, .int (nI c), .long (lN (A ||| 2 ^ p)), .float 0, .int (nI r), .int 1]) (pc' := 100) d_M_reached_99 rfl (Nat.le_of_ble_eq_true rfl) rfl ?_
          refine x_iinc (y := nI r - nI 1) (lo' := [.ref 29, .int (nI c), .long (lN (A ||| 2 ^ p)), .float 0, .int (nI r - nI 1), .int 1]) (pc' := 103) d_M_reached_100 rfl rfl (sp_m1 r) rfl ?_
          refine x_goto (t := 15) d_M_reached_103 rfl ?_
          exact ih (by omega) _ _ hI
        | some q =>
          rw [e2] at hI
          have hq := (hW.2.1 r hr).2.1 q e2
          refine x_aload_n (pc' := 75) d_M_reached_74 rfl rfl ?_
          refine x_getfield (ci := 4) (i := 3) (v := .ref 32) (pc' := 78) d_M_reached_75 rfl g_M_17 hO rfl ?_
          refine x_iload (pc' := 80) d_M_reached_78 rfl rfl ?_
          refine x_iaload (v := nI q) (pc' := 81) d_M_reached_80 rfl p2 (vp_in_nI (by omega) (by decide)) (by rw [nI_clamp (by omega), g2 r hr, e2]; rfl) ?_
          refine x_iflt (t := 98) (pc' := 84) d_M_reached_81 rfl rfl (fun q => absurd q (nI_pos (by omega))) (fun _ => ?_)
          refine x_lload_n (pc' := 85) d_M_reached_84 rfl rfl rfl ?_
          refine x_lconst (v := lN 1) (pc' := 86) d_M_reached_85 rfl (by decide) ?_
          refine x_aload_n (pc' := 87) d_M_reached_86 rfl rfl ?_
          refine x_getfield (ci := 4) (i := 3) (v := .ref 32) (pc' := 90) d_M_reached_87 rfl g_M_17 hO rfl ?_
          refine x_iload (pc' := 92) d_M_reached_90 rfl rfl ?_
          refine x_iaload (v := nI q) (pc' := 93) d_M_reached_92 rfl p2 (vp_in_nI (by omega) (by decide)) (by rw [nI_clamp (by omega), g2 r hr, e2]; rfl) ?_
          refine x_lshl (z := lN (2 ^ q)) (pc' := 94) d_M_reached_93 rfl (sp_lsh (by omega)) ?_
          refine x_lor (z := lN ((A ||| 2 ^ p) ||| 2 ^ q)) (pc' := 95) d_M_reached_94 rfl (sp_or1 (Nat.or_lt_two_pow e64 (Nat.pow_lt_pow_right (by decide) (by omega))) (by omega)) ?_
          refine x_goto (t := 99) d_M_reached_95 rfl ?_
          refine x_lstore_n (lo' := [.ref 29, .int (nI c), .long (lN ((A ||| 2 ^ p) ||| 2 ^ q)), .float 0, .int (nI r), .int 1]) (pc' := 100) d_M_reached_99 rfl (Nat.le_of_ble_eq_true rfl) rfl ?_
          refine x_iinc (y := nI r - nI 1) (lo' := [.ref 29, .int (nI c), .long (lN ((A ||| 2 ^ p) ||| 2 ^ q)), .float 0, .int (nI r - nI 1), .int 1]) (pc' := 103) d_M_reached_100 rfl rfl (sp_m1 r) rfl ?_
          refine x_goto (t := 15) d_M_reached_103 rfl ?_
          exact ih (by omega) _ _ hI
theorem c_M_reached1 {L : Nat} {xs : Nat → Int32} {d : Nat} {h : xm_H} {Q : xm_Q} {S : sp_S} {tk : Int32} (hO : mo h (sp_n S.1) tk) (hM : mk h S) (hW : sp_WH S.1) {c : Nat} (hc : c < sp_n S.1) (hQ : Q (some (.long (lN (sp_rr S.1 c)))) h) : xm_call L xs (d + 1) m_M_reached [.ref 29, .int (nI c)] h Q := by
  have h40 := hM.1
  refine x_call (lo := [.ref 29, .int (nI c), .float 0, .float 0, .float 0, .float 0]) (Nat.le_of_ble_eq_true rfl) rfl ?_
  refine x_iload_n (pc' := 1) d_M_reached_0 rfl rfl ?_
  refine x_ifge (t := 8) (pc' := 4) d_M_reached_1 rfl rfl (fun _ => ?_) (fun q => absurd (nI_pos' (by omega)) q)
  refine x_lconst (v := lN 1) (pc' := 9) d_M_reached_8 rfl (by decide) ?_
  refine x_iload_n (pc' := 10) d_M_reached_9 rfl rfl ?_
  refine x_lshl (z := lN (2 ^ c)) (pc' := 11) d_M_reached_10 rfl (sp_lsh (by omega)) ?_
  refine x_lstore_n (lo' := [.ref 29, .int (nI c), .long (lN (2 ^ c)), .float 0, .float 0, .float 0]) (pc' := 12) d_M_reached_11 rfl (Nat.le_of_ble_eq_true rfl) rfl ?_
  refine x_iload_n (pc' := 13) d_M_reached_12 rfl rfl ?_
  refine x_istore (lo' := [.ref 29, .int (nI c), .long (lN (2 ^ c)), .float 0, .int (nI c), .float 0]) (pc' := 15) d_M_reached_13 rfl (Nat.le_of_ble_eq_true rfl) rfl ?_
  have hh := l_M_reached (L := L) (xs := xs) (d := d) hO hM hW hc hQ (c + 1) (Nat.le_refl _) (2 ^ c) (.float 0) (sp_iv_0 hW hc)
  rw [show nI (c + 1) - nI 1 = nI c from pk_sub (Nat.le_add_left 1 c)] at hh
  exact hh
theorem c_M_reached0 {L : Nat} {xs : Nat → Int32} {d : Nat} {h : xm_H} {Q : xm_Q} (hQ : Q (some (.long 0)) h) : xm_call L xs (d + 1) m_M_reached [.ref 29, .int (-2)] h Q := by
  refine x_call (lo := [.ref 29, .int (-2), .float 0, .float 0, .float 0, .float 0]) (Nat.le_of_ble_eq_true rfl) rfl ?_
  refine x_iload_n (pc' := 1) d_M_reached_0 rfl rfl ?_
  refine x_ifge (t := 8) (pc' := 4) d_M_reached_1 rfl rfl (fun q => absurd q (by decide)) (fun _ => ?_)
  refine x_lconst (v := 0) (pc' := 5) d_M_reached_4 rfl (by decide) ?_
  refine x_goto (t := 11) d_M_reached_5 rfl ?_
  refine x_lstore_n (lo' := [.ref 29, .int (-2), .long 0, .float 0, .float 0, .float 0]) (pc' := 12) d_M_reached_11 rfl (Nat.le_of_ble_eq_true rfl) rfl ?_
  refine x_iload_n (pc' := 13) d_M_reached_12 rfl rfl ?_
  refine x_istore (lo' := [.ref 29, .int (-2), .long 0, .float 0, .int (-2), .float 0]) (pc' := 15) d_M_reached_13 rfl (Nat.le_of_ble_eq_true rfl) rfl ?_
  refine x_iload (pc' := 17) d_M_reached_15 rfl rfl ?_
  refine x_iflt (t := 106) (pc' := 20) d_M_reached_17 rfl rfl (fun _ => ?_) (fun q => absurd (by decide) q)
  refine x_lload_n (pc' := 107) d_M_reached_106 rfl rfl rfl ?_
  exact x_lreturn d_M_reached_107 rfl hQ
theorem c_M_reached {L : Nat} {xs : Nat → Int32} {d : Nat} {h : xm_H} {Q : xm_Q} {S : sp_S} {tk : Int32} (hO : mo h (sp_n S.1) tk) (hM : mk h S) (hW : sp_WH S.1) {c : Option Nat} (hc : sp_ok (sp_n S.1) c) (hQ : Q (some (.long (lN (sp_ro S.1 c)))) h) : xm_call L xs (d + 1) m_M_reached [.ref 29, .int (sp_vi c)] h Q := by
  cases c with
  | none => exact c_M_reached0 hQ
  | some k => exact c_M_reached1 hO hM hW (hc k rfl) hQ
theorem c_M_reaches {L : Nat} {xs : Nat → Int32} {d : Nat} {h : xm_H} {Q : xm_Q} {S : sp_S} {tk : Int32} (hO : mo h (sp_n S.1) tk) (hM : mk h S) (hW : sp_WH S.1) {c k : Nat} (hc : c < sp_n S.1) (hk : k < 64) (hQ : Q (some (.int (sp_bi ((sp_rr S.1 c).testBit k)))) h) : xm_call L xs (d + 2) m_M_reaches [.ref 29, .int (nI c), .int (nI k)] h Q := by
  have h40 := hM.1
  refine x_call (lo := [.ref 29, .int (nI c), .int (nI k)]) (Nat.le_of_ble_eq_true rfl) rfl ?_
  refine x_aload_n (pc' := 1) d_M_reaches_0 rfl rfl ?_
  refine x_iload_n (pc' := 2) d_M_reaches_1 rfl rfl ?_
  refine x_virtual (a := 29) (as := [.int (nI c)]) (r := []) (v := (some (.long (lN (sp_rr S.1 c))))) (h' := h) (st' := [.long (lN (sp_rr S.1 c))]) (c' := 0) (s' := 0) (pc' := 5) d_M_reaches_2 rfl c_M_100 hO rfl rfl (Nat.le_of_ble_eq_true rfl) (Nat.le_of_ble_eq_true rfl) (Nat.le_of_ble_eq_true rfl) (fun Q' hq => c_M_reached1 hO hM hW hc hq) rfl rfl rfl ?_
  refine x_iload_n (pc' := 6) d_M_reaches_5 rfl rfl ?_
  refine x_lshr (z := (lN (sp_rr S.1 c)) >>> ((nI k).toInt64 &&& 63)) (pc' := 7) d_M_reaches_6 rfl rfl ?_
  refine x_lconst (v := 1) (pc' := 8) d_M_reaches_7 rfl (by decide) ?_
  cases hb : (sp_rr S.1 c).testBit k with
  | false =>
    refine x_land (z := lN 0) (pc' := 9) d_M_reaches_8 rfl (wb_sb (by omega) hb) ?_
    refine x_lconst (v := 1) (pc' := 10) d_M_reaches_9 rfl (by decide) ?_
    refine x_lcmp (z := lg_cmp (lN 0) 1) (pc' := 11) d_M_reaches_10 rfl rfl ?_
    refine x_ifne (t := 18) (pc' := 14) d_M_reaches_11 rfl rfl (fun _ => ?_) (fun q => absurd q (by decide))
    refine x_iconst (v := 0) (pc' := 19) d_M_reaches_18 rfl (by decide) ?_
    exact x_ireturn d_M_reaches_19 rfl rfl (by rw [hb] at hQ; exact hQ)
  | true =>
    refine x_land (z := lN 1) (pc' := 9) d_M_reaches_8 rfl (wb_sb (by omega) hb) ?_
    refine x_lconst (v := 1) (pc' := 10) d_M_reaches_9 rfl (by decide) ?_
    refine x_lcmp (z := lg_cmp (lN 1) 1) (pc' := 11) d_M_reaches_10 rfl rfl ?_
    refine x_ifne (t := 18) (pc' := 14) d_M_reaches_11 rfl rfl (fun q => absurd rfl q) (fun _ => ?_)
    refine x_iconst (v := 1) (pc' := 15) d_M_reaches_14 rfl (by decide) ?_
    refine x_goto (t := 19) d_M_reaches_15 rfl ?_
    exact x_ireturn d_M_reaches_19 rfl rfl (by rw [hb] at hQ; exact hQ)
def sp_cd (H : sp_H) (m c k : Nat) : Bool := k == c || !m.testBit k || !(sp_rr H k).testBit c
theorem sp_best_all {H : sp_H} {m c : Nat} (hb : m.testBit c = true) (h : ∀ k, k < sp_n H → sp_cd H m c k = true) : sp_best H m c = true := by
  unfold sp_best
  rw [hb, Bool.true_and, List.all_eq_true]
  intro k hk
  exact h k (List.mem_range.mp hk)
theorem sp_best_not {H : sp_H} {m c k : Nat} (hk : k < sp_n H) (h : sp_cd H m c k = false) : sp_best H m c = false := by
  unfold sp_best
  rw [Bool.and_eq_false_iff]
  refine Or.inr ?_
  rw [Bool.eq_false_iff]
  intro z
  have := (List.all_eq_true.mp z) k (List.mem_range.mpr hk)
  rw [show (k == c || !m.testBit k || !(sp_rr H k).testBit c) = sp_cd H m c k from rfl, h] at this
  cases this
set_option maxHeartbeats 4000000 in
theorem l_M_base1 {L : Nat} {xs : Nat → Int32} {d : Nat} {h : xm_H} {Q : xm_Q} {S : sp_S} {tk : Int32} (hO : mo h (sp_n S.1) tk) (hM : mk h S) (hW : sp_WH S.1) {m c : Nat} {x y : Int32} (hc : c < sp_n S.1) (hb : m.testBit c = true)
    (K : ∀ (b : Bool) (x7 : Int32), b = sp_best S.1 m c → xm_X L xs (xm_call L xs (d + 2)) m_M_baseOf (101, [.ref 29, .int x, .int y, .long (lN m), .float 0, .int (nI c), .int (sp_bi b), .int x7], [], h, 0, 0) Q) :
    ∀ r k, k + r = sp_n S.1 → (∀ j, j < k → sp_cd S.1 m c j = true) → xm_X L xs (xm_call L xs (d + 2)) m_M_baseOf (45, [.ref 29, .int x, .int y, .long (lN m), .float 0, .int (nI c), .int 1, .int (nI k)], [], h, 0, 0) Q := by
  have h40 := hM.1
  intro r
  induction r with
  | zero =>
    intro k hk hd
    have hk : k = sp_n S.1 := hk
    subst hk
    refine x_iload (pc' := 47) d_M_baseOf_45 rfl rfl ?_
    refine x_aload_n (pc' := 48) d_M_baseOf_47 rfl rfl ?_
    refine x_getfield (ci := 4) (i := 0) (v := .int (nI (sp_n S.1))) (pc' := 51) d_M_baseOf_48 rfl g_M_104 hO rfl ?_
    refine x_icmpge (t := 101) (pc' := 54) d_M_baseOf_51 rfl rfl (fun _ => ?_) (fun q => absurd (nI_le (Nat.le_refl _) (by omega)) q)
    exact K true _ (sp_best_all hb hd).symm
  | succ r ih =>
    intro k hk hd
    have hkn : k < sp_n S.1 := by omega
    refine x_iload (pc' := 47) d_M_baseOf_45 rfl rfl ?_
    refine x_aload_n (pc' := 48) d_M_baseOf_47 rfl rfl ?_
    refine x_getfield (ci := 4) (i := 0) (v := .int (nI (sp_n S.1))) (pc' := 51) d_M_baseOf_48 rfl g_M_104 hO rfl ?_
    refine x_icmpge (t := 101) (pc' := 54) d_M_baseOf_51 rfl rfl (fun q => absurd q (nI_ge hkn (by omega))) (fun _ => ?_)
    refine x_iload (pc' := 56) d_M_baseOf_54 rfl rfl ?_
    refine x_ifeq (t := 101) (pc' := 59) d_M_baseOf_56 rfl rfl (fun q => absurd q (by decide)) (fun _ => ?_)
    refine x_iload (pc' := 61) d_M_baseOf_59 rfl rfl ?_
    refine x_iload (pc' := 63) d_M_baseOf_61 rfl rfl ?_
    by_cases ec : k = c
    · refine x_icmpeq (t := 88) (pc' := 66) d_M_baseOf_63 rfl rfl (fun _ => ?_) (fun q => absurd (by rw [ec]) q)
      refine x_iconst (v := 1) (pc' := 89) d_M_baseOf_88 rfl (by decide) ?_
      refine x_goto (t := 93) d_M_baseOf_89 rfl ?_
      refine x_istore (lo' := [.ref 29, .int x, .int y, .long (lN m), .float 0, .int (nI c), .int 1, .int (nI k)]) (pc' := 95) d_M_baseOf_93 rfl (Nat.le_of_ble_eq_true rfl) rfl ?_
      refine x_iinc (y := nI (k + 1)) (lo' := [.ref 29, .int x, .int y, .long (lN m), .float 0, .int (nI c), .int 1, .int (nI (k + 1))]) (pc' := 98) d_M_baseOf_95 rfl rfl (sp_nI_inc k) rfl ?_
      refine x_goto (t := 45) d_M_baseOf_98 rfl ?_
      exact ih (k + 1) (by omega) (fun j hj => by rcases Nat.lt_or_eq_of_le (Nat.le_of_lt_succ hj) with z | z; exact hd j z; subst z; unfold sp_cd; rw [beq_iff_eq.mpr ec]; rfl)
    · refine x_icmpeq (t := 88) (pc' := 66) d_M_baseOf_63 rfl rfl (fun q => absurd q (fun z => ec (sp_nI_inj (by omega) (by omega) z))) (fun _ => ?_)
      refine x_lload_n (pc' := 67) d_M_baseOf_66 rfl rfl rfl ?_
      refine x_iload (pc' := 69) d_M_baseOf_67 rfl rfl ?_
      refine x_lshr (z := (lN m) >>> ((nI k).toInt64 &&& 63)) (pc' := 70) d_M_baseOf_69 rfl rfl ?_
      refine x_lconst (v := 1) (pc' := 71) d_M_baseOf_70 rfl (by decide) ?_
      cases hm : m.testBit k with
      | false =>
        refine x_land (z := lN 0) (pc' := 72) d_M_baseOf_71 rfl (wb_sb (by omega) hm) ?_
        refine x_lconst (v := 0) (pc' := 73) d_M_baseOf_72 rfl (by decide) ?_
        refine x_lcmp (z := lg_cmp (lN 0) 0) (pc' := 74) d_M_baseOf_73 rfl rfl ?_
        refine x_ifeq (t := 88) (pc' := 77) d_M_baseOf_74 rfl rfl (fun _ => ?_) (fun q => absurd (by decide) q)
        refine x_iconst (v := 1) (pc' := 89) d_M_baseOf_88 rfl (by decide) ?_
        refine x_goto (t := 93) d_M_baseOf_89 rfl ?_
        refine x_istore (lo' := [.ref 29, .int x, .int y, .long (lN m), .float 0, .int (nI c), .int 1, .int (nI k)]) (pc' := 95) d_M_baseOf_93 rfl (Nat.le_of_ble_eq_true rfl) rfl ?_
        refine x_iinc (y := nI (k + 1)) (lo' := [.ref 29, .int x, .int y, .long (lN m), .float 0, .int (nI c), .int 1, .int (nI (k + 1))]) (pc' := 98) d_M_baseOf_95 rfl rfl (sp_nI_inc k) rfl ?_
        refine x_goto (t := 45) d_M_baseOf_98 rfl ?_
        exact ih (k + 1) (by omega) (fun j hj => by rcases Nat.lt_or_eq_of_le (Nat.le_of_lt_succ hj) with z | z; exact hd j z; subst z; unfold sp_cd; rw [hm]; simp)
      | true =>
        refine x_land (z := lN 1) (pc' := 72) d_M_baseOf_71 rfl (wb_sb (by omega) hm) ?_
        refine x_lconst (v := 0) (pc' := 73) d_M_baseOf_72 rfl (by decide) ?_
        refine x_lcmp (z := lg_cmp (lN 1) 0) (pc' := 74) d_M_baseOf_73 rfl rfl ?_
        refine x_ifeq (t := 88) (pc' := 77) d_M_baseOf_74 rfl rfl (fun q => absurd q (by decide)) (fun _ => ?_)
        refine x_aload_n (pc' := 78) d_M_baseOf_77 rfl rfl ?_
        refine x_iload (pc' := 80) d_M_baseOf_78 rfl rfl ?_
        refine x_iload (pc' := 82) d_M_baseOf_80 rfl rfl ?_
        refine x_virtual (a := 29) (as := [.int (nI k), .int (nI c)]) (r := []) (v := (some (.int (sp_bi ((sp_rr S.1 k).testBit c))))) (h' := h) (st' := [.int (sp_bi ((sp_rr S.1 k).testBit c))]) (c' := 0) (s' := 0) (pc' := 85) d_M_baseOf_82 rfl c_M_107 hO rfl rfl (Nat.le_of_ble_eq_true rfl) (Nat.le_of_ble_eq_true rfl) (Nat.le_of_ble_eq_true rfl) (fun Q' hq => c_M_reaches hO hM hW hkn (by omega) hq) rfl rfl rfl ?_
        cases hr : (sp_rr S.1 k).testBit c with
        | false =>
          refine x_ifne (t := 92) (pc' := 88) d_M_baseOf_85 rfl rfl (fun q => absurd rfl q) (fun _ => ?_)
          refine x_iconst (v := 1) (pc' := 89) d_M_baseOf_88 rfl (by decide) ?_
          refine x_goto (t := 93) d_M_baseOf_89 rfl ?_
          refine x_istore (lo' := [.ref 29, .int x, .int y, .long (lN m), .float 0, .int (nI c), .int 1, .int (nI k)]) (pc' := 95) d_M_baseOf_93 rfl (Nat.le_of_ble_eq_true rfl) rfl ?_
          refine x_iinc (y := nI (k + 1)) (lo' := [.ref 29, .int x, .int y, .long (lN m), .float 0, .int (nI c), .int 1, .int (nI (k + 1))]) (pc' := 98) d_M_baseOf_95 rfl rfl (sp_nI_inc k) rfl ?_
          refine x_goto (t := 45) d_M_baseOf_98 rfl ?_
          exact ih (k + 1) (by omega) (fun j hj => by rcases Nat.lt_or_eq_of_le (Nat.le_of_lt_succ hj) with z | z; exact hd j z; subst z; unfold sp_cd; rw [hr]; simp)
        | true =>
          refine x_ifne (t := 92) (pc' := 88) d_M_baseOf_85 rfl rfl (fun _ => ?_) (fun q => absurd q (by decide))
          refine x_iconst (v := 0) (pc' := 93) d_M_baseOf_92 rfl (by decide) ?_
          refine x_istore (lo' := [.ref 29, .int x, .int y, .long (lN m), .float 0, .int (nI c), .int 0, .int (nI k)]) (pc' := 95) d_M_baseOf_93 rfl (Nat.le_of_ble_eq_true rfl) rfl ?_
          refine x_iinc (y := nI (k + 1)) (lo' := [.ref 29, .int x, .int y, .long (lN m), .float 0, .int (nI c), .int 0, .int (nI (k + 1))]) (pc' := 98) d_M_baseOf_95 rfl rfl (sp_nI_inc k) rfl ?_
          refine x_goto (t := 45) d_M_baseOf_98 rfl ?_
          have hf : sp_best S.1 m c = false := sp_best_not hkn (by unfold sp_cd; rw [hm, hr]; simp [ec])
          refine x_iload (pc' := 47) d_M_baseOf_45 rfl rfl ?_
          refine x_aload_n (pc' := 48) d_M_baseOf_47 rfl rfl ?_
          refine x_getfield (ci := 4) (i := 0) (v := .int (nI (sp_n S.1))) (pc' := 51) d_M_baseOf_48 rfl g_M_104 hO rfl ?_
          refine x_icmpge (t := 101) (pc' := 54) d_M_baseOf_51 rfl rfl (fun q9 => ?_) (fun q9 => ?_)
          · exact K false _ hf.symm
          · refine x_iload (pc' := 56) d_M_baseOf_54 rfl rfl ?_
            refine x_ifeq (t := 101) (pc' := 59) d_M_baseOf_56 rfl rfl (fun _ => ?_) (fun q => absurd rfl q)
            exact K false _ hf.symm
theorem l_M_base2 {L : Nat} {xs : Nat → Int32} {d : Nat} {h : xm_H} {Q : xm_Q} {S : sp_S} {tk : Int32} (hO : mo h (sp_n S.1) tk) (hM : mk h S) (hW : sp_WH S.1) {m : Nat} {x y : Int32} (hQ : Q (some (.int (sp_vi ((List.range (sp_n S.1)).find? (sp_best S.1 m))))) h) :
    ∀ r c, c + r = sp_n S.1 → (∀ j, j < c → sp_best S.1 m j = false) → ∀ x6 x7 : Value, xm_X L xs (xm_call L xs (d + 2)) m_M_baseOf (15, [.ref 29, .int x, .int y, .long (lN m), .float 0, .int (nI c), x6, x7], [], h, 0, 0) Q := by
  have h40 := hM.1
  intro r
  induction r with
  | zero =>
    intro c hc hj x6 x7
    have hc : c = sp_n S.1 := hc
    subst hc
    refine x_iload (pc' := 17) d_M_baseOf_15 rfl rfl ?_
    refine x_aload_n (pc' := 18) d_M_baseOf_17 rfl rfl ?_
    refine x_getfield (ci := 4) (i := 0) (v := .int (nI (sp_n S.1))) (pc' := 21) d_M_baseOf_18 rfl g_M_104 hO rfl ?_
    refine x_icmpge (t := 115) (pc' := 24) d_M_baseOf_21 rfl rfl (fun _ => ?_) (fun q => absurd (nI_le (Nat.le_refl _) (by omega)) q)
    refine x_bipush (v := (-2)) (pc' := 117) d_M_baseOf_115 rfl (by decide) ?_
    exact x_ireturn d_M_baseOf_117 rfl rfl (x_q (by rw [sp_find_none hj]; rfl) hQ)
  | succ r ih =>
    intro c hc hj x6 x7
    have hcn : c < sp_n S.1 := by omega
    refine x_iload (pc' := 17) d_M_baseOf_15 rfl rfl ?_
    refine x_aload_n (pc' := 18) d_M_baseOf_17 rfl rfl ?_
    refine x_getfield (ci := 4) (i := 0) (v := .int (nI (sp_n S.1))) (pc' := 21) d_M_baseOf_18 rfl g_M_104 hO rfl ?_
    refine x_icmpge (t := 115) (pc' := 24) d_M_baseOf_21 rfl rfl (fun q => absurd q (nI_ge hcn (by omega))) (fun _ => ?_)
    refine x_lload_n (pc' := 25) d_M_baseOf_24 rfl rfl rfl ?_
    refine x_iload (pc' := 27) d_M_baseOf_25 rfl rfl ?_
    refine x_lshr (z := (lN m) >>> ((nI c).toInt64 &&& 63)) (pc' := 28) d_M_baseOf_27 rfl rfl ?_
    refine x_lconst (v := 1) (pc' := 29) d_M_baseOf_28 rfl (by decide) ?_
    cases hb : m.testBit c with
    | false =>
      have hf : sp_best S.1 m c = false := by unfold sp_best; rw [hb]; rfl
      refine x_land (z := lN 0) (pc' := 30) d_M_baseOf_29 rfl (wb_sb (by omega) hb) ?_
      refine x_lconst (v := 1) (pc' := 31) d_M_baseOf_30 rfl (by decide) ?_
      refine x_lcmp (z := lg_cmp (lN 0) 1) (pc' := 32) d_M_baseOf_31 rfl rfl ?_
      refine x_ifne (t := 39) (pc' := 35) d_M_baseOf_32 rfl rfl (fun _ => ?_) (fun q => absurd q (by decide))
      refine x_iconst (v := 0) (pc' := 40) d_M_baseOf_39 rfl (by decide) ?_
      refine x_istore (lo' := [.ref 29, .int x, .int y, .long (lN m), .float 0, .int (nI c), .int 0, x7]) (pc' := 42) d_M_baseOf_40 rfl (Nat.le_of_ble_eq_true rfl) rfl ?_
      refine x_iconst (v := nI 0) (pc' := 43) d_M_baseOf_42 rfl (by decide) ?_
      refine x_istore (lo' := [.ref 29, .int x, .int y, .long (lN m), .float 0, .int (nI c), .int 0, .int (nI 0)]) (pc' := 45) d_M_baseOf_43 rfl (Nat.le_of_ble_eq_true rfl) rfl ?_
      refine x_iload (pc' := 47) d_M_baseOf_45 rfl rfl ?_
      refine x_aload_n (pc' := 48) d_M_baseOf_47 rfl rfl ?_
      refine x_getfield (ci := 4) (i := 0) (v := .int (nI (sp_n S.1))) (pc' := 51) d_M_baseOf_48 rfl g_M_104 hO rfl ?_
      refine x_icmpge (t := 101) (pc' := 54) d_M_baseOf_51 rfl rfl (fun q => absurd q (nI_ge (by omega) (by omega))) (fun _ => ?_)
      refine x_iload (pc' := 56) d_M_baseOf_54 rfl rfl ?_
      refine x_ifeq (t := 101) (pc' := 59) d_M_baseOf_56 rfl rfl (fun _ => ?_) (fun q => absurd rfl q)
      refine x_iload (pc' := 103) d_M_baseOf_101 rfl rfl ?_
      refine x_ifeq (t := 109) (pc' := 106) d_M_baseOf_103 rfl rfl (fun _ => ?_) (fun q => absurd rfl q)
      refine x_iinc (y := nI (c + 1)) (lo' := [.ref 29, .int x, .int y, .long (lN m), .float 0, .int (nI (c + 1)), .int 0, .int (nI 0)]) (pc' := 112) d_M_baseOf_109 rfl rfl (sp_nI_inc c) rfl ?_
      refine x_goto (t := 15) d_M_baseOf_112 rfl ?_
      exact ih (c + 1) (by omega) (fun j hj2 => by rcases Nat.lt_or_eq_of_le (Nat.le_of_lt_succ hj2) with z | z; exact hj j z; subst z; exact hf) _ _
    | true =>
      refine x_land (z := lN 1) (pc' := 30) d_M_baseOf_29 rfl (wb_sb (by omega) hb) ?_
      refine x_lconst (v := 1) (pc' := 31) d_M_baseOf_30 rfl (by decide) ?_
      refine x_lcmp (z := lg_cmp (lN 1) 1) (pc' := 32) d_M_baseOf_31 rfl rfl ?_
      refine x_ifne (t := 39) (pc' := 35) d_M_baseOf_32 rfl rfl (fun q => absurd rfl q) (fun _ => ?_)
      refine x_iconst (v := 1) (pc' := 36) d_M_baseOf_35 rfl (by decide) ?_
      refine x_goto (t := 40) d_M_baseOf_36 rfl ?_
      refine x_istore (lo' := [.ref 29, .int x, .int y, .long (lN m), .float 0, .int (nI c), .int 1, x7]) (pc' := 42) d_M_baseOf_40 rfl (Nat.le_of_ble_eq_true rfl) rfl ?_
      refine x_iconst (v := nI 0) (pc' := 43) d_M_baseOf_42 rfl (by decide) ?_
      refine x_istore (lo' := [.ref 29, .int x, .int y, .long (lN m), .float 0, .int (nI c), .int 1, .int (nI 0)]) (pc' := 45) d_M_baseOf_43 rfl (Nat.le_of_ble_eq_true rfl) rfl ?_
      refine l_M_base1 hO hM hW hcn hb (fun b x7 eb => ?_) (sp_n S.1) 0 (by omega) (fun j hj => absurd hj (Nat.not_lt_zero j))
      cases b with
      | false =>
        have hf : sp_best S.1 m c = false := eb.symm
        refine x_iload (pc' := 103) d_M_baseOf_101 rfl rfl ?_
        refine x_ifeq (t := 109) (pc' := 106) d_M_baseOf_103 rfl rfl (fun _ => ?_) (fun q => absurd rfl q)
        refine x_iinc (y := nI (c + 1)) (lo' := [.ref 29, .int x, .int y, .long (lN m), .float 0, .int (nI (c + 1)), .int (sp_bi false), .int x7]) (pc' := 112) d_M_baseOf_109 rfl rfl (sp_nI_inc c) rfl ?_
        refine x_goto (t := 15) d_M_baseOf_112 rfl ?_
        exact ih (c + 1) (by omega) (fun j hj2 => by rcases Nat.lt_or_eq_of_le (Nat.le_of_lt_succ hj2) with z | z; exact hj j z; subst z; exact hf) _ _
      | true =>
        refine x_iload (pc' := 103) d_M_baseOf_101 rfl rfl ?_
        refine x_ifeq (t := 109) (pc' := 106) d_M_baseOf_103 rfl rfl (fun q => absurd q (by decide)) (fun _ => ?_)
        refine x_iload (pc' := 108) d_M_baseOf_106 rfl rfl ?_
        exact x_ireturn d_M_baseOf_108 rfl rfl (x_q (by rw [sp_find_some hcn eb.symm hj]; rfl) hQ)
theorem c_M_baseOf {L : Nat} {xs : Nat → Int32} {d : Nat} {h : xm_H} {Q : xm_Q} {S : sp_S} {tk : Int32} (hO : mo h (sp_n S.1) tk) (hM : mk h S) (hW : sp_WH S.1) {a b : Nat} (ha : a < sp_n S.1) (hb : b < sp_n S.1) (hQ : Q (some (.int (sp_vi (sp_base S.1 (some a) (some b))))) h) : xm_call L xs (d + 3) m_M_baseOf [.ref 29, .int (nI a), .int (nI b)] h Q := by
  refine x_call (lo := [.ref 29, .int (nI a), .int (nI b), .float 0, .float 0, .float 0, .float 0, .float 0]) (Nat.le_of_ble_eq_true rfl) rfl ?_
  refine x_aload_n (pc' := 1) d_M_baseOf_0 rfl rfl ?_
  refine x_iload_n (pc' := 2) d_M_baseOf_1 rfl rfl ?_
  refine x_virtual (a := 29) (as := [.int (nI a)]) (r := []) (v := (some (.long (lN (sp_rr S.1 a))))) (h' := h) (st' := [.long (lN (sp_rr S.1 a))]) (c' := 0) (s' := 0) (pc' := 5) d_M_baseOf_2 rfl c_M_100 hO rfl rfl (Nat.le_of_ble_eq_true rfl) (Nat.le_of_ble_eq_true rfl) (Nat.le_of_ble_eq_true rfl) (fun Q' hq => c_M_reached1 hO hM hW ha hq) rfl rfl rfl ?_
  refine x_aload_n (pc' := 6) d_M_baseOf_5 rfl rfl ?_
  refine x_iload_n (pc' := 7) d_M_baseOf_6 rfl rfl ?_
  refine x_virtual (a := 29) (as := [.int (nI b)]) (r := [.long (lN (sp_rr S.1 a))]) (v := (some (.long (lN (sp_rr S.1 b))))) (h' := h) (st' := [.long (lN (sp_rr S.1 b)), .long (lN (sp_rr S.1 a))]) (c' := 0) (s' := 0) (pc' := 10) d_M_baseOf_7 rfl c_M_100 hO rfl rfl (Nat.le_of_ble_eq_true rfl) (Nat.le_of_ble_eq_true rfl) (Nat.le_of_ble_eq_true rfl) (fun Q' hq => c_M_reached1 hO hM hW hb hq) rfl rfl rfl ?_
  refine x_land (z := lN (sp_rr S.1 a &&& sp_rr S.1 b)) (pc' := 11) d_M_baseOf_10 rfl (wb_and (sp_WH_64 hW (c := some a) (sp_ok_some ha)) (sp_WH_64 hW (c := some b) (sp_ok_some hb))) ?_
  refine x_lstore_n (lo' := [.ref 29, .int (nI a), .int (nI b), .long (lN (sp_rr S.1 a &&& sp_rr S.1 b)), .float 0, .float 0, .float 0, .float 0]) (pc' := 12) d_M_baseOf_11 rfl (Nat.le_of_ble_eq_true rfl) rfl ?_
  refine x_iconst (v := nI 0) (pc' := 13) d_M_baseOf_12 rfl (by decide) ?_
  refine x_istore (lo' := [.ref 29, .int (nI a), .int (nI b), .long (lN (sp_rr S.1 a &&& sp_rr S.1 b)), .float 0, .int (nI 0), .float 0, .float 0]) (pc' := 15) d_M_baseOf_13 rfl (Nat.le_of_ble_eq_true rfl) rfl ?_
  exact l_M_base2 hO hM hW hQ (sp_n S.1) 0 (by omega) (fun j hj => absurd hj (Nat.not_lt_zero j)) _ _
