/-! doAllAgain, rebase. (Printed by c_v6.py.) -/
def sp_ext (H H' : sp_H) : Prop := sp_n H ≤ sp_n H' ∧ (∀ c, c < sp_n H → sp_p1 H' c = sp_p1 H c ∧ sp_p2 H' c = sp_p2 H c ∧ sp_rr H' c = sp_rr H c) ∧ ∀ j, j < 4 * sp_n H → sp_tx H' j = sp_tx H j
theorem sp_ext_rf {H : sp_H} : sp_ext H H := ⟨Nat.le_refl _, fun _ _ => ⟨rfl, rfl, rfl⟩, fun _ _ => rfl⟩
theorem sp_ext_add {H H' : sp_H} (e : sp_ext H H') {t : sp_T} {p q : Option Nat} : sp_ext H (sp_add H' t p q) := by
  refine ⟨Nat.le_succ_of_le e.1, fun c hc => ?_, fun j hj => ?_⟩
  · have h1 : c ≠ sp_n H' := by have := e.1; omega
    obtain ⟨a, b, g⟩ := e.2.1 c hc
    exact ⟨(sp_up_ne h1).trans a, (sp_up_ne h1).trans b, (sp_up_ne h1).trans g⟩
  · have h1 := e.1
    exact (if_neg (by omega)).trans (e.2.2 j hj)
theorem sp_of_ext {H H' : sp_H} (e : sp_ext H H') {c : Option Nat} (hc : sp_ok (sp_n H) c) {f : Nat} (hf : f < 4) : sp_of H' c f = sp_of H c f := by
  cases c with
  | none => rfl
  | some k => exact e.2.2 _ (by have := hc k rfl; omega)
theorem sp_ro_ext {H H' : sp_H} (e : sp_ext H H') {c : Option Nat} (hc : sp_ok (sp_n H) c) : sp_ro H' c = sp_ro H c := by
  cases c with
  | none => rfl
  | some k => exact (e.2.1 k (hc k rfl)).2.2
theorem sp_WR_ext {H H' : sp_H} (e : sp_ext H H') {R : sp_R} (hR : sp_WR H R) : sp_WR H' R :=
  ⟨hR.1, fun b hb => sp_ok_mono e.1 (hR.2.1 b hb), Nat.lt_of_lt_of_le hR.2.2.1 (Nat.pow_le_pow_right (by decide) e.1), fun b hb => by rw [sp_ro_ext e (hR.2.1 b hb)]; exact hR.2.2.2.1 b hb, hR.2.2.2.2⟩
theorem sp_snap_c {o o' a a' b b' : sp_T} (h1 : ∀ f, f < 4 → o f = o' f) (h2 : ∀ f, f < 4 → a f = a' f) (h3 : ∀ f, f < 4 → b f = b' f) : sp_snap o a b = sp_snap o' a' b' := by
  unfold sp_snap
  rw [h1 0 (by decide), h1 1 (by decide), h1 2 (by decide), h1 3 (by decide), h2 0 (by decide), h2 1 (by decide), h2 2 (by decide), h2 3 (by decide), h3 0 (by decide), h3 1 (by decide), h3 2 (by decide), h3 3 (by decide)]
theorem sp_eq4_c {a b b' : sp_T} (h : ∀ f, f < 4 → b f = b' f) : sp_eq4 a b = sp_eq4 a b' := by
  unfold sp_eq4
  rw [h 0 (by decide), h 1 (by decide), h 2 (by decide), h 3 (by decide)]
theorem sp_again_ext {H H' : sp_H} (hW : sp_WH H) (e : sp_ext H H') {c : Nat} (hc : c < sp_n H) {t t' : sp_T} (ht : ∀ f, f < 4 → t' f = t f) : sp_again H' c t' = sp_again H c t := by
  unfold sp_again
  rw [(e.2.1 c hc).1, sp_snap_c (fun f hf => sp_of_ext e (sp_ok_mono (Nat.le_of_lt hc) (hW.2.1 c hc).1) hf) ht (fun f hf => sp_of_ext e (sp_ok_some hc) hf)]
  cases sp_snap (sp_of H (sp_p1 H c)) t (sp_of H (some c)) with
  | none => rfl
  | some u =>
    dsimp only
    rw [sp_eq4_c ht]
theorem sp_adds_app {u : sp_T} : ∀ (acc : List sp_T) (H : sp_H) (o : Option Nat), sp_adds H o (acc ++ [u]) = (sp_add (sp_adds H o acc).1 u (sp_adds H o acc).2 none, some (sp_n (sp_adds H o acc).1))
  | [], _, _ => rfl
  | _ :: acc, _, _ => sp_adds_app acc _ _
theorem sp_adds_last : ∀ (ts : List sp_T) (H : sp_H) (o : Nat), (sp_adds H (some o) ts).2 = some (if ts.length = 0 then o else sp_n H + ts.length - 1)
  | [], _, _ => rfl
  | t :: ts, H, o => by
    show (sp_adds (sp_add H t (some o) none) (some (sp_n H)) ts).2 = _
    rw [sp_adds_last ts]
    have e1 : sp_n (sp_add H t (some o) none) = sp_n H + 1 := rfl
    rw [e1, List.length_cons, if_neg (Nat.succ_ne_zero _)]
    by_cases h : ts.length = 0
    · rw [if_pos h, h]; rfl
    · rw [if_neg h]; congr 1; omega
theorem sp_rep_s {H : sp_H} {m n k : Nat} {t : sp_T} {acc : List sp_T} (hb : ¬ (m.testBit k = true ∧ sp_p2 H k = none)) : sp_replay H m (n - k) k t acc = sp_replay H m (n - (k + 1)) (k + 1) t acc := by
  rcases Nat.lt_or_ge k n with h | h
  · rw [show n - k = (n - (k + 1)) + 1 by omega]
    exact if_neg hb
  · rw [show n - k = 0 by omega, show n - (k + 1) = 0 by omega]
    rfl
theorem sp_rep_t {H : sp_H} {m n k : Nat} {t : sp_T} {acc : List sp_T} (h : k < n) (hb : m.testBit k = true) (h2 : sp_p2 H k = none) : sp_replay H m (n - k) k t acc = match sp_again H k t with
      | none => .inl (-5)
      | some none => sp_replay H m (n - (k + 1)) (k + 1) t acc
      | some (some u) => if 40 ≤ sp_n H + acc.length then .inl (-6) else sp_replay H m (n - (k + 1)) (k + 1) u (acc ++ [u]) := by
  rw [show n - k = (n - (k + 1)) + 1 by omega]
  exact if_pos ⟨hb, h2⟩
theorem ch_H_cut {h : xm_H} {H H' : sp_H} (hH : ch_H h H') (e : sp_ext H H') : ch_H (h.set 1 (.inr (0, [.ref 2, .ref 3, .ref 4, .ref 5, .int (nI (sp_n H))]))) H := by
  obtain ⟨⟨h0, h1⟩, ⟨T, t1, t2⟩, ⟨P, p1, p2⟩, ⟨P', r1, r2⟩, ⟨W, w1, w2⟩⟩ := hH
  have hl := e.1
  refine ⟨⟨Nat.le_trans hl h0, xl_at h1⟩, ⟨T, (xl_ne (by decide)).trans t1, fun j hj => (t2 j (by omega)).trans (by rw [e.2.2 j hj])⟩, ⟨P, (xl_ne (by decide)).trans p1, fun c hc => (p2 c (by omega)).trans (by rw [(e.2.1 c hc).1])⟩, ⟨P', (xl_ne (by decide)).trans r1, fun c hc => (r2 c (by omega)).trans (by rw [(e.2.1 c hc).2.1])⟩, ⟨W, (xl_ne (by decide)).trans w1, fun c hc => (w2 c (by omega)).trans (by rw [(e.2.1 c hc).2.2])⟩⟩
theorem wb_andn {a b : Nat} : lN a &&& (lN b ^^^ -1) = lN (a &&& (a ^^^ b)) := by
  apply wb_inj
  show BitVec.ofNat 64 a &&& (BitVec.ofNat 64 b ^^^ BitVec.allOnes 64) = BitVec.ofNat 64 (a &&& (a ^^^ b))
  apply BitVec.eq_of_getLsbD_eq
  intro i hi
  simp only [BitVec.getLsbD_and, BitVec.getLsbD_xor, BitVec.getLsbD_ofNat, BitVec.getLsbD_allOnes, Nat.testBit_and, Nat.testBit_xor, hi, decide_true, Bool.true_and]
  cases a.testBit i <;> cases b.testBit i <;> rfl
theorem sp_nI_sub {a b : Nat} : nI (a + b) - nI a = nI b := Int32.toBitVec_inj.mp (by
  show BitVec.ofNat 32 (a + b) - BitVec.ofNat 32 a = BitVec.ofNat 32 b
  rw [Nat.add_comm, BitVec.ofNat_add, BitVec.add_sub_cancel])
set_option maxHeartbeats 4000000 in
theorem l_V_all {L : Nat} {xs : Nat → Int32} {d : Nat} {h0 : xm_H} {Q : xm_Q} {S : sp_S} {m o : Nat} {R : Int32 ⊕ List sp_T} (hm : m < 2 ^ sp_n S.1) (hW : sp_WH S.1)
    (hE : ∀ e : Int32, (e = -5 ∨ e = -6) → R = .inl e → ∀ h' S', ch_V h' S' → S'.2 = S.2 → sp_ext S.1 S'.1 → xl_fr sp_JS h0 h' → Q (some (.int e)) h')
    (hI : ∀ ts, R = .inr ts → ∀ h' S' l, ch_V h' S' → S'.2 = S.2 → sp_WH S'.1 → sp_ext S.1 S'.1 → sp_n S'.1 = sp_n S.1 + ts.length → l < sp_n S'.1 → sp_adds S.1 (some o) ts = (S'.1, some l) → xl_fr sp_JS h0 h' → Q (some (.int (nI l))) h') :
    ∀ j k, k + j = 40 → ∀ (h : xm_H) (S' : sp_S) (l : Nat) (t : sp_T) (acc : List sp_T) (x6 : Value), sp_replay S.1 m (sp_n S.1 - k) k t acc = R → ch_V h S' → S'.2 = S.2 → sp_WH S'.1 → sp_ext S.1 S'.1 → sp_n S'.1 = sp_n S.1 + acc.length → l < sp_n S'.1 → (∀ f, f < 4 → t f = sp_of S'.1 (some l) f) → sp_adds S.1 (some o) acc = (S'.1, some l) → xl_fr sp_JS h0 h →
      xm_X L xs (xm_call L xs (d + 5)) m_V_doAllAgain (6, [.ref 0, .long (lN m), .float 0, .int (nI o), .int (nI l), .int (nI k), x6], [], h, 0, 0) Q := by
  have h40 := hW.1
  have h64 : m < 2 ^ 64 := Nat.lt_of_lt_of_le hm (Nat.pow_le_pow_right (by decide) (by omega))
  intro j
  induction j with
  | zero =>
    intro k hkj h S' l t acc x6 hr hV h2 hW' hx hn hl ht ha hf
    have hk : k = 40 := hkj
    subst hk
    rw [show sp_n S.1 - 40 = 0 by omega] at hr
    change Sum.inr acc = R at hr
    refine x_iload (pc' := 8) d_V_doAllAgain_6 rfl rfl ?_
    refine x_bipush (v := nI 40) (pc' := 10) d_V_doAllAgain_8 rfl (by decide) ?_
    refine x_icmpge (t := 71) (pc' := 13) d_V_doAllAgain_10 rfl rfl (fun _ => ?_) (fun q => absurd (nI_le (Nat.le_refl _) (by decide)) q)
    refine x_iload (pc' := 73) d_V_doAllAgain_71 rfl rfl ?_
    exact x_ireturn d_V_doAllAgain_73 rfl rfl (hI acc hr.symm h S' l hV h2 hW' hx hn hl ha hf)
  | succ j ih =>
    intro k hkj h S' l t acc x6 hr hV h2 hW' hx hn hl ht ha hf
    refine x_iload (pc' := 8) d_V_doAllAgain_6 rfl rfl ?_
    refine x_bipush (v := nI 40) (pc' := 10) d_V_doAllAgain_8 rfl (by decide) ?_
    refine x_icmpge (t := 71) (pc' := 13) d_V_doAllAgain_10 rfl rfl (fun q => absurd q (nI_ge (by omega) (by decide))) (fun _ => ?_)
    refine x_lload_n (pc' := 14) d_V_doAllAgain_13 rfl rfl rfl ?_
    refine x_iload (pc' := 16) d_V_doAllAgain_14 rfl rfl ?_
    refine x_static (as := [.long (lN m), .int (nI k)]) (r := []) (v := (some (.int (sp_bi (m.testBit k))))) (h' := h) (st' := [.int (sp_bi (m.testBit k))]) (c' := 0) (s' := 0) (pc' := 19) d_V_doAllAgain_16 rfl c_V_145 rfl rfl (Nat.le_of_ble_eq_true rfl) (Nat.le_of_ble_eq_true rfl) (Nat.le_of_ble_eq_true rfl) (fun Q' hq => c_H_isIn h64 (by omega) hq) rfl rfl rfl ?_
    cases hb : m.testBit k with
    | false =>
      refine x_ifeq (t := 65) (pc' := 22) d_V_doAllAgain_19 rfl rfl (fun _ => ?_) (fun q => absurd rfl q)
      refine x_iinc (y := nI (k + 1)) (lo' := [.ref 0, .long (lN m), .float 0, .int (nI o), .int (nI l), .int (nI (k + 1)), x6]) (pc' := 68) d_V_doAllAgain_65 rfl rfl (sp_nI_inc k) rfl ?_
      refine x_goto (t := 6) d_V_doAllAgain_68 rfl ?_
      exact ih (k + 1) (by omega) h S' l t acc x6 ((sp_rep_s (fun z => by rw [hb] at z; exact absurd z.1 (by decide))).symm.trans hr) hV h2 hW' hx hn hl ht ha hf
    | true =>
      have hk : k < sp_n S.1 := Nat.lt_of_not_le (fun z => by rw [sp_lt_bit hm z] at hb; exact absurd hb (by decide))
      have hk' : k < sp_n S'.1 := Nat.lt_of_lt_of_le hk hx.1
      refine x_ifeq (t := 65) (pc' := 22) d_V_doAllAgain_19 rfl rfl (fun q => absurd q (by decide)) (fun _ => ?_)
      refine x_aload_n (pc' := 23) d_V_doAllAgain_22 rfl rfl ?_
      refine x_iload (pc' := 25) d_V_doAllAgain_23 rfl rfl ?_
      refine x_iload (pc' := 27) d_V_doAllAgain_25 rfl rfl ?_
      by_cases hp2 : sp_p2 S.1 k = none
      · have eag : sp_again S'.1 k (sp_of S'.1 (some l)) = sp_again S.1 k t := sp_again_ext hW hx hk (fun f hf => (ht f hf).symm)
        rw [sp_rep_t hk hb hp2] at hr
        refine x_virtualR (a := 0) (as := [.int (nI k), .int (nI l)]) (r := []) (Post := fun v h9 => (v = some (.int (-5)) ∧ sp_again S.1 k t = none ∧ ch_V h9 S' ∧ xl_fr sp_US h h9) ∨ (v = some (.int (-4)) ∧ sp_again S.1 k t = some none ∧ ch_V h9 S' ∧ xl_fr sp_US h h9) ∨ (v = some (.int (-6)) ∧ (∃ u, sp_again S.1 k t = some (some u)) ∧ 40 ≤ sp_n S'.1 ∧ ch_V h9 S' ∧ xl_fr sp_US h h9) ∨ (v = some (.int (nI (sp_n S'.1))) ∧ ∃ u, sp_again S.1 k t = some (some u) ∧ sp_n S'.1 < 40 ∧ (∀ j, j < 4 → sp_wt (u j)) ∧ ch_V h9 (sp_add S'.1 u (some l) none, S'.2) ∧ xl_fr sp_JS h h9)) (c' := 0) (s' := 0) (pc' := 30) d_V_doAllAgain_27 rfl c_V_106 hV.1 rfl rfl (Nat.le_of_ble_eq_true rfl) (Nat.le_of_ble_eq_true rfl) (Nat.le_of_ble_eq_true rfl) (fun Q' hq => c_V_doAgain hV hW' hk' hl (by rw [(hx.2.1 k hk).2.1]; exact hp2) (fun e h' z1 z2 => hq _ h' (Or.inl ⟨rfl, eag ▸ e, z1, z2⟩)) (fun e h' z1 z2 => hq _ h' (Or.inr (Or.inl ⟨rfl, eag ▸ e, z1, z2⟩))) (fun u e hn h' z1 z2 => hq _ h' (Or.inr (Or.inr (Or.inl ⟨rfl, ⟨u, eag ▸ e⟩, hn, z1, z2⟩)))) (fun u e hn wt h' z1 z2 => hq _ h' (Or.inr (Or.inr (Or.inr ⟨rfl, u, eag ▸ e, hn, wt, z1, z2⟩))))) rfl rfl (fun v9 h1 hp => ?_)
        rcases hp with ⟨rfl, e1, V1, f1⟩ | ⟨rfl, e1, V1, f1⟩ | ⟨rfl, ⟨u, e1⟩, hn3, V1, f1⟩ | ⟨rfl, u, e1, hn3, wt, V1, f1⟩
        · rw [e1] at hr
          dsimp only at hr
          show xm_X L xs (xm_call L xs (d + 5)) m_V_doAllAgain (30, [.ref 0, .long (lN m), .float 0, .int (nI o), .int (nI l), .int (nI k), x6], [.int (-5)], h1, 0, 0) Q
          refine x_istore (lo' := [.ref 0, .long (lN m), .float 0, .int (nI o), .int (nI l), .int (nI k), .int (-5)]) (pc' := 32) d_V_doAllAgain_30 rfl (Nat.le_of_ble_eq_true rfl) rfl ?_
          refine x_iload (pc' := 34) d_V_doAllAgain_32 rfl rfl ?_
          refine x_bipush (v := (-5)) (pc' := 36) d_V_doAllAgain_34 rfl (by decide) ?_
          refine x_icmpeq (t := 46) (pc' := 39) d_V_doAllAgain_36 rfl rfl (fun _ => ?_) (fun q => absurd rfl q)
          refine x_iload (pc' := 48) d_V_doAllAgain_46 rfl rfl ?_
          exact x_ireturn d_V_doAllAgain_48 rfl rfl (hE (-5) (Or.inl rfl) hr.symm h1 S' V1 h2 hx (xl_tr hf (xl_mono f1 (fun k z => Or.inr z))))
        · rw [e1] at hr
          dsimp only at hr
          show xm_X L xs (xm_call L xs (d + 5)) m_V_doAllAgain (30, [.ref 0, .long (lN m), .float 0, .int (nI o), .int (nI l), .int (nI k), x6], [.int (-4)], h1, 0, 0) Q
          refine x_istore (lo' := [.ref 0, .long (lN m), .float 0, .int (nI o), .int (nI l), .int (nI k), .int (-4)]) (pc' := 32) d_V_doAllAgain_30 rfl (Nat.le_of_ble_eq_true rfl) rfl ?_
          refine x_iload (pc' := 34) d_V_doAllAgain_32 rfl rfl ?_
          refine x_bipush (v := (-5)) (pc' := 36) d_V_doAllAgain_34 rfl (by decide) ?_
          refine x_icmpeq (t := 46) (pc' := 39) d_V_doAllAgain_36 rfl rfl (fun q => absurd q (by decide)) (fun _ => ?_)
          refine x_iload (pc' := 41) d_V_doAllAgain_39 rfl rfl ?_
          refine x_bipush (v := (-6)) (pc' := 43) d_V_doAllAgain_41 rfl (by decide) ?_
          refine x_icmpne (t := 49) (pc' := 46) d_V_doAllAgain_43 rfl rfl (fun _ => ?_) (fun q => absurd q (by decide))
          refine x_iload (pc' := 51) d_V_doAllAgain_49 rfl rfl ?_
          refine x_bipush (v := (-4)) (pc' := 53) d_V_doAllAgain_51 rfl (by decide) ?_
          refine x_icmpne (t := 61) (pc' := 56) d_V_doAllAgain_53 rfl rfl (fun q => absurd rfl q) (fun _ => ?_)
          refine x_iload (pc' := 58) d_V_doAllAgain_56 rfl rfl ?_
          refine x_goto (t := 63) d_V_doAllAgain_58 rfl ?_
          refine x_istore (lo' := [.ref 0, .long (lN m), .float 0, .int (nI o), .int (nI l), .int (nI k), .int (-4)]) (pc' := 65) d_V_doAllAgain_63 rfl (Nat.le_of_ble_eq_true rfl) rfl ?_
          refine x_iinc (y := nI (k + 1)) (lo' := [.ref 0, .long (lN m), .float 0, .int (nI o), .int (nI l), .int (nI (k + 1)), .int (-4)]) (pc' := 68) d_V_doAllAgain_65 rfl rfl (sp_nI_inc k) rfl ?_
          refine x_goto (t := 6) d_V_doAllAgain_68 rfl ?_
          exact ih (k + 1) (by omega) h1 S' l t acc _ hr V1 h2 hW' hx hn hl ht ha (xl_tr hf (xl_mono f1 (fun k z => Or.inr z)))
        · rw [e1] at hr
          dsimp only at hr
          rw [if_pos (by omega)] at hr
          show xm_X L xs (xm_call L xs (d + 5)) m_V_doAllAgain (30, [.ref 0, .long (lN m), .float 0, .int (nI o), .int (nI l), .int (nI k), x6], [.int (-6)], h1, 0, 0) Q
          refine x_istore (lo' := [.ref 0, .long (lN m), .float 0, .int (nI o), .int (nI l), .int (nI k), .int (-6)]) (pc' := 32) d_V_doAllAgain_30 rfl (Nat.le_of_ble_eq_true rfl) rfl ?_
          refine x_iload (pc' := 34) d_V_doAllAgain_32 rfl rfl ?_
          refine x_bipush (v := (-5)) (pc' := 36) d_V_doAllAgain_34 rfl (by decide) ?_
          refine x_icmpeq (t := 46) (pc' := 39) d_V_doAllAgain_36 rfl rfl (fun q => absurd q (by decide)) (fun _ => ?_)
          refine x_iload (pc' := 41) d_V_doAllAgain_39 rfl rfl ?_
          refine x_bipush (v := (-6)) (pc' := 43) d_V_doAllAgain_41 rfl (by decide) ?_
          refine x_icmpne (t := 49) (pc' := 46) d_V_doAllAgain_43 rfl rfl (fun q => absurd rfl q) (fun _ => ?_)
          refine x_iload (pc' := 48) d_V_doAllAgain_46 rfl rfl ?_
          exact x_ireturn d_V_doAllAgain_48 rfl rfl (hE (-6) (Or.inr rfl) hr.symm h1 S' V1 h2 hx (xl_tr hf (xl_mono f1 (fun k z => Or.inr z))))
        · rw [e1] at hr
          dsimp only at hr
          rw [if_neg (by omega)] at hr
          show xm_X L xs (xm_call L xs (d + 5)) m_V_doAllAgain (30, [.ref 0, .long (lN m), .float 0, .int (nI o), .int (nI l), .int (nI k), x6], [(.int (nI (sp_n S'.1)))], h1, 0, 0) Q
          refine x_istore (lo' := [.ref 0, .long (lN m), .float 0, .int (nI o), .int (nI l), .int (nI k), .int (nI (sp_n S'.1))]) (pc' := 32) d_V_doAllAgain_30 rfl (Nat.le_of_ble_eq_true rfl) rfl ?_
          refine x_iload (pc' := 34) d_V_doAllAgain_32 rfl rfl ?_
          refine x_bipush (v := (-5)) (pc' := 36) d_V_doAllAgain_34 rfl (by decide) ?_
          refine x_icmpeq (t := 46) (pc' := 39) d_V_doAllAgain_36 rfl rfl (fun q => absurd q (sp_nI_nn (by omega) (by decide))) (fun _ => ?_)
          refine x_iload (pc' := 41) d_V_doAllAgain_39 rfl rfl ?_
          refine x_bipush (v := (-6)) (pc' := 43) d_V_doAllAgain_41 rfl (by decide) ?_
          refine x_icmpne (t := 49) (pc' := 46) d_V_doAllAgain_43 rfl rfl (fun _ => ?_) (fun q => absurd q (sp_nI_nn (by omega) (by decide)))
          refine x_iload (pc' := 51) d_V_doAllAgain_49 rfl rfl ?_
          refine x_bipush (v := (-4)) (pc' := 53) d_V_doAllAgain_51 rfl (by decide) ?_
          refine x_icmpne (t := 61) (pc' := 56) d_V_doAllAgain_53 rfl rfl (fun _ => ?_) (fun q => absurd q (sp_nI_nn (by omega) (by decide)))
          refine x_iload (pc' := 63) d_V_doAllAgain_61 rfl rfl ?_
          refine x_istore (lo' := [.ref 0, .long (lN m), .float 0, .int (nI o), .int (nI (sp_n S'.1)), .int (nI k), .int (nI (sp_n S'.1))]) (pc' := 65) d_V_doAllAgain_63 rfl (Nat.le_of_ble_eq_true rfl) rfl ?_
          refine x_iinc (y := nI (k + 1)) (lo' := [.ref 0, .long (lN m), .float 0, .int (nI o), .int (nI (sp_n S'.1)), .int (nI (k + 1)), .int (nI (sp_n S'.1))]) (pc' := 68) d_V_doAllAgain_65 rfl rfl (sp_nI_inc k) rfl ?_
          refine x_goto (t := 6) d_V_doAllAgain_68 rfl ?_
          refine ih (k + 1) (by omega) h1 (sp_add S'.1 u (some l) none, S'.2) (sp_n S'.1) u (acc ++ [u]) _ hr V1 h2 (sp_WH_add hW' hn3 (sp_ok_some hl) sp_ok_none wt) (sp_ext_add hx) ?_ (Nat.lt_succ_self _) (fun f hf => (sp_of_new hf).symm) ?_ (xl_tr hf f1)
          · show sp_n S'.1 + 1 = _
            rw [List.length_append, List.length_singleton, hn]; omega
          · rw [sp_adds_app, ha]
      · refine x_virtual (a := 0) (as := [.int (nI k), .int (nI l)]) (r := []) (v := (some (.int (-4)))) (h' := h) (st' := [.int (-4)]) (c' := 0) (s' := 0) (pc' := 30) d_V_doAllAgain_27 rfl c_V_106 hV.1 rfl rfl (Nat.le_of_ble_eq_true rfl) (Nat.le_of_ble_eq_true rfl) (Nat.le_of_ble_eq_true rfl) (fun Q' hq => c_V_doAgain0 hV hW' hk' (by rw [(hx.2.1 k hk).2.1]; exact hp2) hq) rfl rfl rfl ?_
        refine x_istore (lo' := [.ref 0, .long (lN m), .float 0, .int (nI o), .int (nI l), .int (nI k), .int (-4)]) (pc' := 32) d_V_doAllAgain_30 rfl (Nat.le_of_ble_eq_true rfl) rfl ?_
        refine x_iload (pc' := 34) d_V_doAllAgain_32 rfl rfl ?_
        refine x_bipush (v := (-5)) (pc' := 36) d_V_doAllAgain_34 rfl (by decide) ?_
        refine x_icmpeq (t := 46) (pc' := 39) d_V_doAllAgain_36 rfl rfl (fun q => absurd q (by decide)) (fun _ => ?_)
        refine x_iload (pc' := 41) d_V_doAllAgain_39 rfl rfl ?_
        refine x_bipush (v := (-6)) (pc' := 43) d_V_doAllAgain_41 rfl (by decide) ?_
        refine x_icmpne (t := 49) (pc' := 46) d_V_doAllAgain_43 rfl rfl (fun _ => ?_) (fun q => absurd q (by decide))
        refine x_iload (pc' := 51) d_V_doAllAgain_49 rfl rfl ?_
        refine x_bipush (v := (-4)) (pc' := 53) d_V_doAllAgain_51 rfl (by decide) ?_
        refine x_icmpne (t := 61) (pc' := 56) d_V_doAllAgain_53 rfl rfl (fun q => absurd rfl q) (fun _ => ?_)
        refine x_iload (pc' := 58) d_V_doAllAgain_56 rfl rfl ?_
        refine x_goto (t := 63) d_V_doAllAgain_58 rfl ?_
        refine x_istore (lo' := [.ref 0, .long (lN m), .float 0, .int (nI o), .int (nI l), .int (nI k), .int (-4)]) (pc' := 65) d_V_doAllAgain_63 rfl (Nat.le_of_ble_eq_true rfl) rfl ?_
        refine x_iinc (y := nI (k + 1)) (lo' := [.ref 0, .long (lN m), .float 0, .int (nI o), .int (nI l), .int (nI (k + 1)), .int (-4)]) (pc' := 68) d_V_doAllAgain_65 rfl rfl (sp_nI_inc k) rfl ?_
        refine x_goto (t := 6) d_V_doAllAgain_68 rfl ?_
        exact ih (k + 1) (by omega) h S' l t acc _ ((sp_rep_s (fun z => hp2 z.2)).symm.trans hr) hV h2 hW' hx hn hl ht ha hf
theorem c_V_doAllAgain {L : Nat} {xs : Nat → Int32} {d : Nat} {h : xm_H} {Q : xm_Q} {S : sp_S} (hV : ch_V h S) (hW : sp_WH S.1) {m o : Nat} {R : Int32 ⊕ List sp_T} (hm : m < 2 ^ sp_n S.1) (ho : o < sp_n S.1) (hr : sp_replay S.1 m (sp_n S.1) 0 (sp_of S.1 (some o)) [] = R)
    (hE : ∀ e : Int32, (e = -5 ∨ e = -6) → R = .inl e → ∀ h' S', ch_V h' S' → S'.2 = S.2 → sp_ext S.1 S'.1 → xl_fr sp_JS h h' → Q (some (.int e)) h')
    (hI : ∀ ts, R = .inr ts → ∀ h' S' l, ch_V h' S' → S'.2 = S.2 → sp_WH S'.1 → sp_ext S.1 S'.1 → sp_n S'.1 = sp_n S.1 + ts.length → l < sp_n S'.1 → sp_adds S.1 (some o) ts = (S'.1, some l) → xl_fr sp_JS h h' → Q (some (.int (nI l))) h') : xm_call L xs (d + 6) m_V_doAllAgain [.ref 0, .long (lN m), .int (nI o)] h Q := by
  refine x_call (lo := [.ref 0, .long (lN m), .float 0, .int (nI o), .float 0, .float 0, .float 0]) (Nat.le_of_ble_eq_true rfl) rfl ?_
  refine x_iload_n (pc' := 1) d_V_doAllAgain_0 rfl rfl ?_
  refine x_istore (lo' := [.ref 0, .long (lN m), .float 0, .int (nI o), .int (nI o), .float 0, .float 0]) (pc' := 3) d_V_doAllAgain_1 rfl (Nat.le_of_ble_eq_true rfl) rfl ?_
  refine x_iconst (v := nI 0) (pc' := 4) d_V_doAllAgain_3 rfl (by decide) ?_
  refine x_istore (lo' := [.ref 0, .long (lN m), .float 0, .int (nI o), .int (nI o), .int (nI 0), .float 0]) (pc' := 6) d_V_doAllAgain_4 rfl (Nat.le_of_ble_eq_true rfl) rfl ?_
  exact l_V_all hm hW hE hI 40 0 rfl h S o (sp_of S.1 (some o)) [] _ hr hV rfl hW sp_ext_rf rfl ho (fun _ _ => rfl) rfl xl_rf
set_option maxHeartbeats 4000000 in
theorem c_V_rebase_j {L : Nat} {xs : Nat → Int32} {d : Nat} {h : xm_H} {Q : xm_Q} {S : sp_S} (hV : ch_V h S) (hS : sp_WS S) {r b p q : Nat} (hr : r < 2) (hb : b < 4) (hn : sp_tip (S.2 r) b = some q) (hn2 : sp_head (S.2 r) = some p) (hcl : sp_clean S.1 (S.2 r) = true)
    (h0 : ∀ e, sp_replay S.1 (sp_rr S.1 p &&& (sp_rr S.1 p ^^^ sp_rr S.1 q)) (sp_n S.1) 0 (sp_of S.1 (some q)) [] = .inl e → ∀ h', ch_V h' S → xl_fr sp_V29 h h' → Q (some (.int e)) h')
    (h7 : ∀ ts, sp_replay S.1 (sp_rr S.1 p &&& (sp_rr S.1 p ^^^ sp_rr S.1 q)) (sp_n S.1) 0 (sp_of S.1 (some q)) [] = .inr ts → ∀ h', ch_V h' ((sp_adds S.1 (some q) ts).1, sp_up S.2 r (sp_mv (sp_adds S.1 (some q) ts).1 (S.2 r) (if ts.length = 0 then q else sp_n S.1 + ts.length - 1))) → xl_fr sp_V29 h h' → Q (some (.int (nI ts.length))) h') : xm_call L xs (d + 8) m_V_rebase [.ref 0, .int (nI r), .int (nI b)] h Q := by
  obtain ⟨g, hg, hg2⟩ := hV.2.1
  obtain ⟨a, ha7⟩ : ∃ a, a = 7 + 4 * r := ⟨_, rfl⟩
  have hR : ch_R h a (S.2 r) := by rw [ha7]; exact hV.2.2.2.1 r hr
  have hH := hV.2.2.1
  have hWR := hS.2 r hr
  obtain ⟨t, ht, ht2⟩ := hR.2.2.1
  have h40 := hS.1.1
  have hq1 : q < sp_n S.1 := hWR.2.1 b hb q hn
  have hp1 : p < sp_n S.1 := hWR.2.1 _ hWR.1 p hn2
  refine x_call (lo := [.ref 0, .int (nI r), .int (nI b), .float 0, .float 0, .float 0, .float 0, .float 0, .float 0, .float 0]) (Nat.le_of_ble_eq_true rfl) rfl ?_
  refine x_aload_n (pc' := 1) d_V_rebase_0 rfl rfl ?_
  refine x_iload_n (pc' := 2) d_V_rebase_1 rfl rfl ?_
  refine x_iload_n (pc' := 3) d_V_rebase_2 rfl rfl ?_
  refine x_virtual (a := 0) (as := [.int (nI r), .int (nI b)]) (r := []) (v := (some (.int (0)))) (h' := h) (st' := [.int (0)]) (c' := 0) (s' := 0) (pc' := 6) d_V_rebase_3 rfl c_V_91 hV.1 rfl rfl (Nat.le_of_ble_eq_true rfl) (Nat.le_of_ble_eq_true rfl) (Nat.le_of_ble_eq_true rfl) (fun Q' hq => c_V_refuse_0 hV hS hr hb (by rw [hn]; exact Option.some_ne_none _) (by rw [hn2]; exact Option.some_ne_none _) hcl hq) rfl rfl rfl ?_
  refine x_istore_n (lo' := [.ref 0, .int (nI r), .int (nI b), .int (0), .float 0, .float 0, .float 0, .float 0, .float 0, .float 0]) (pc' := 7) d_V_rebase_6 rfl (Nat.le_of_ble_eq_true rfl) rfl ?_
  refine x_iload_n (pc' := 8) d_V_rebase_7 rfl rfl ?_
  refine x_ifeq (t := 13) (pc' := 11) d_V_rebase_8 rfl rfl (fun _ => ?_) (fun q => absurd rfl q)
  refine x_aload_n (pc' := 14) d_V_rebase_13 rfl rfl ?_
  refine x_getfield (ci := 3) (i := 1) (v := .ref 6) (pc' := 17) d_V_rebase_14 rfl g_V_18 hV.1 rfl ?_
  refine x_iload_n (pc' := 18) d_V_rebase_17 rfl rfl ?_
  refine x_aaload (q := a) (pc' := 19) d_V_rebase_18 rfl hg (Or.inr rfl) (vp_in_nI hr (by decide)) (by rw [nI_clamp (by omega), hg2 r hr, ha7]) ?_
  refine x_astore (lo' := [.ref 0, .int (nI r), .int (nI b), .int (0), .ref a, .float 0, .float 0, .float 0, .float 0, .float 0]) (pc' := 21) d_V_rebase_19 rfl (Nat.le_of_ble_eq_true rfl) rfl ?_
  refine x_aload (pc' := 23) d_V_rebase_21 rfl rfl ?_
  refine x_getfield (ci := 1) (i := 0) (v := .ref (a + 1)) (pc' := 26) d_V_rebase_23 rfl g_V_72 hR.2.1 rfl ?_
  refine x_iload_n (pc' := 27) d_V_rebase_26 rfl rfl ?_
  refine x_iaload (v := nI q) (pc' := 28) d_V_rebase_27 rfl ht (vp_in_nI hb (by decide)) (by rw [nI_clamp (by omega), ht2 b hb, hn]; rfl) ?_
  refine x_istore (lo' := [.ref 0, .int (nI r), .int (nI b), .int (0), .ref a, .int (nI q), .float 0, .float 0, .float 0, .float 0]) (pc' := 30) d_V_rebase_28 rfl (Nat.le_of_ble_eq_true rfl) rfl ?_
  refine x_aload_n (pc' := 31) d_V_rebase_30 rfl rfl ?_
  refine x_getfield (ci := 3) (i := 0) (v := .ref 1) (pc' := 34) d_V_rebase_31 rfl g_V_10 hV.1 rfl ?_
  refine x_aload (pc' := 36) d_V_rebase_34 rfl rfl ?_
  refine x_virtual (a := a) (as := []) (r := [.ref 1]) (v := (some (.int (nI p)))) (h' := h) (st' := [.int (nI p), .ref 1]) (c' := 0) (s' := 0) (pc' := 39) d_V_rebase_36 rfl c_V_52 hR.2.1 rfl rfl (Nat.le_of_ble_eq_true rfl) (Nat.le_of_ble_eq_true rfl) (Nat.le_of_ble_eq_true rfl) (fun Q' hq => c_R_head hR (by rw [hn2]; exact hq)) rfl rfl rfl ?_
  refine x_virtual (a := 1) (as := [.int (nI p)]) (r := []) (v := (some (.long (lN (sp_rr S.1 p))))) (h' := h) (st' := [.long (lN (sp_rr S.1 p))]) (c' := 0) (s' := 0) (pc' := 42) d_V_rebase_39 rfl c_V_68 hH.1.2 rfl rfl (Nat.le_of_ble_eq_true rfl) (Nat.le_of_ble_eq_true rfl) (Nat.le_of_ble_eq_true rfl) (fun Q' hq => c_H_reachOf1 hH hp1 hq) rfl rfl rfl ?_
  refine x_aload_n (pc' := 43) d_V_rebase_42 rfl rfl ?_
  refine x_getfield (ci := 3) (i := 0) (v := .ref 1) (pc' := 46) d_V_rebase_43 rfl g_V_10 hV.1 rfl ?_
  refine x_iload (pc' := 48) d_V_rebase_46 rfl rfl ?_
  refine x_virtual (a := 1) (as := [.int (nI q)]) (r := [.long (lN (sp_rr S.1 p))]) (v := (some (.long (lN (sp_rr S.1 q))))) (h' := h) (st' := [.long (lN (sp_rr S.1 q)), .long (lN (sp_rr S.1 p))]) (c' := 0) (s' := 0) (pc' := 51) d_V_rebase_48 rfl c_V_68 hH.1.2 rfl rfl (Nat.le_of_ble_eq_true rfl) (Nat.le_of_ble_eq_true rfl) (Nat.le_of_ble_eq_true rfl) (fun Q' hq => c_H_reachOf1 hH hq1 hq) rfl rfl rfl ?_
  refine x_ldc2_w (x := (-1)) (pc' := 54) d_V_rebase_51 rfl k_V_109 ?_
  refine x_lxor (z := (lN (sp_rr S.1 q)) ^^^ (-1)) (pc' := 55) d_V_rebase_54 rfl rfl ?_
  refine x_land (z := lN (sp_rr S.1 p &&& (sp_rr S.1 p ^^^ sp_rr S.1 q))) (pc' := 56) d_V_rebase_55 rfl wb_andn ?_
  refine x_lstore (lo' := [.ref 0, .int (nI r), .int (nI b), .int (0), .ref a, .int (nI q), .long (lN (sp_rr S.1 p &&& (sp_rr S.1 p ^^^ sp_rr S.1 q))), .float 0, .float 0, .float 0]) (pc' := 58) d_V_rebase_56 rfl (Nat.le_of_ble_eq_true rfl) rfl ?_
  refine x_aload_n (pc' := 59) d_V_rebase_58 rfl rfl ?_
  refine x_getfield (ci := 3) (i := 0) (v := .ref 1) (pc' := 62) d_V_rebase_59 rfl g_V_10 hV.1 rfl ?_
  refine x_getfield (ci := 0) (i := 4) (v := .int (nI (sp_n S.1))) (pc' := 65) d_V_rebase_62 rfl g_V_111 hH.1.2 rfl ?_
  refine x_istore (lo' := [.ref 0, .int (nI r), .int (nI b), .int (0), .ref a, .int (nI q), .long (lN (sp_rr S.1 p &&& (sp_rr S.1 p ^^^ sp_rr S.1 q))), .float 0, .int (nI (sp_n S.1)), .float 0]) (pc' := 67) d_V_rebase_65 rfl (Nat.le_of_ble_eq_true rfl) rfl ?_
  refine x_aload_n (pc' := 68) d_V_rebase_67 rfl rfl ?_
  refine x_lload (pc' := 70) d_V_rebase_68 rfl rfl rfl ?_
  refine x_iload (pc' := 72) d_V_rebase_70 rfl rfl ?_
  refine x_virtualR (a := 0) (as := [.long (lN (sp_rr S.1 p &&& (sp_rr S.1 p ^^^ sp_rr S.1 q))), .int (nI q)]) (r := []) (Post := fun v h9 => (∃ e, v = some (.int e) ∧ (e = -5 ∨ e = -6) ∧ sp_replay S.1 (sp_rr S.1 p &&& (sp_rr S.1 p ^^^ sp_rr S.1 q)) (sp_n S.1) 0 (sp_of S.1 (some q)) [] = .inl e ∧ ∃ S', ch_V h9 S' ∧ S'.2 = S.2 ∧ sp_ext S.1 S'.1 ∧ xl_fr sp_JS h h9) ∨ (∃ l ts, v = some (.int (nI l)) ∧ sp_replay S.1 (sp_rr S.1 p &&& (sp_rr S.1 p ^^^ sp_rr S.1 q)) (sp_n S.1) 0 (sp_of S.1 (some q)) [] = .inr ts ∧ ∃ S', ch_V h9 S' ∧ S'.2 = S.2 ∧ sp_WH S'.1 ∧ sp_ext S.1 S'.1 ∧ sp_n S'.1 = sp_n S.1 + ts.length ∧ l < sp_n S'.1 ∧ sp_adds S.1 (some q) ts = (S'.1, some l) ∧ xl_fr sp_JS h h9)) (c' := 0) (s' := 0) (pc' := 75) d_V_rebase_72 rfl c_V_114 hV.1 rfl rfl (Nat.le_of_ble_eq_true rfl) (Nat.le_of_ble_eq_true rfl) (Nat.le_of_ble_eq_true rfl) (fun Q' hq => c_V_doAllAgain hV hS.1 (Nat.lt_of_le_of_lt Nat.and_le_left (sp_WH_ro hS.1 (c := some p) (sp_ok_some hp1))) hq1 rfl (fun e e0 e1 h' S' z1 z2 z3 z4 => hq _ h' (Or.inl ⟨e, rfl, e0, e1, S', z1, z2, z3, z4⟩)) (fun ts e1 h' S' l z1 z2 z3 z4 z5 z6 z7 z8 => hq _ h' (Or.inr ⟨l, ts, rfl, e1, S', z1, z2, z3, z4, z5, z6, z7, z8⟩))) rfl rfl (fun v9 h1 hp => ?_)
  rcases hp with ⟨e, rfl, e0, e1, S', V1, s2, x1, f1⟩ | ⟨l, ts, rfl, e1, S', V1, s2, W1, x1, n1, l1, a1, f1⟩
  · show xm_X L xs (xm_call L xs (d + 7)) m_V_rebase (75, [.ref 0, .int (nI r), .int (nI b), .int (0), .ref a, .int (nI q), .long (lN (sp_rr S.1 p &&& (sp_rr S.1 p ^^^ sp_rr S.1 q))), .float 0, .int (nI (sp_n S.1)), .float 0], [.int e], h1, 0, 0) Q
    obtain ⟨u, U1⟩ := V1.2.2.2.2
    have V2 : ch_V (h1.set 1 (.inr (0, [.ref 2, .ref 3, .ref 4, .ref 5, .int (nI (sp_n S.1))]))) S := by
      have := ch_V_his V1 (H := S.1) (u := u) (xl_set (Or.inl ⟨by decide, by decide⟩)) (ch_H_cut V1.2.2.1 x1) (ch_U_go U1 (fun k z1 z2 => xl_ne (by omega)))
      rw [s2] at this
      exact this
    refine x_istore (lo' := [.ref 0, .int (nI r), .int (nI b), .int (0), .ref a, .int (nI q), .long (lN (sp_rr S.1 p &&& (sp_rr S.1 p ^^^ sp_rr S.1 q))), .float 0, .int (nI (sp_n S.1)), .int e]) (pc' := 77) d_V_rebase_75 rfl (Nat.le_of_ble_eq_true rfl) rfl ?_
    refine x_iload (pc' := 79) d_V_rebase_77 rfl rfl ?_
    refine x_ifge (t := 94) (pc' := 82) d_V_rebase_79 rfl rfl (fun q => absurd q (by rcases e0 with rfl | rfl <;> decide)) (fun _ => ?_)
    refine x_aload_n (pc' := 83) d_V_rebase_82 rfl rfl ?_
    refine x_getfield (ci := 3) (i := 0) (v := .ref 1) (pc' := 86) d_V_rebase_83 rfl g_V_10 V1.1 rfl ?_
    refine x_iload (pc' := 88) d_V_rebase_86 rfl rfl ?_
    refine x_virtual (a := 1) (as := [.int (nI (sp_n S.1))]) (r := []) (v := none) (h' := (h1.set 1 (.inr (0, [.ref 2, .ref 3, .ref 4, .ref 5, .int (nI (sp_n S.1))])))) (st' := []) (c' := 0) (s' := 0) (pc' := 91) d_V_rebase_88 rfl c_V_118 V1.2.2.1.1.2 rfl rfl (Nat.le_of_ble_eq_true rfl) (Nat.le_of_ble_eq_true rfl) (Nat.le_of_ble_eq_true rfl) (fun Q' hq => c_H_cutBackTo V1.2.2.1.1.2 hq) rfl rfl rfl ?_
    refine x_iload (pc' := 93) d_V_rebase_91 rfl rfl ?_
    exact x_ireturn d_V_rebase_93 rfl rfl (h0 e e1 _ V2 (xl_tr (xl_mono f1 (fun k z => by show k < 29; rcases z with z | z <;> omega)) (xl_set (by decide))))
  · show xm_X L xs (xm_call L xs (d + 7)) m_V_rebase (75, [.ref 0, .int (nI r), .int (nI b), .int (0), .ref a, .int (nI q), .long (lN (sp_rr S.1 p &&& (sp_rr S.1 p ^^^ sp_rr S.1 q))), .float 0, .int (nI (sp_n S.1)), .float 0], [.int (nI l)], h1, 0, 0) Q
    have WR1 : sp_WR S'.1 (S'.2 r) := by rw [s2]; exact sp_WR_ext x1 hWR
    have R1 : ch_R h1 a (S'.2 r) := by rw [ha7]; exact V1.2.2.2.1 r hr
    refine x_istore (lo' := [.ref 0, .int (nI r), .int (nI b), .int (0), .ref a, .int (nI q), .long (lN (sp_rr S.1 p &&& (sp_rr S.1 p ^^^ sp_rr S.1 q))), .float 0, .int (nI (sp_n S.1)), .int (nI l)]) (pc' := 77) d_V_rebase_75 rfl (Nat.le_of_ble_eq_true rfl) rfl ?_
    refine x_iload (pc' := 79) d_V_rebase_77 rfl rfl ?_
    refine x_ifge (t := 94) (pc' := 82) d_V_rebase_79 rfl rfl (fun _ => ?_) (fun q => absurd (Int32.not_lt.mp (nI_pos (by have := W1.1; omega))) q)
    refine x_aload_n (pc' := 95) d_V_rebase_94 rfl rfl ?_
    refine x_aload (pc' := 97) d_V_rebase_95 rfl rfl ?_
    refine x_iload (pc' := 99) d_V_rebase_97 rfl rfl ?_
    refine x_virtualR (a := 0) (as := [.ref a, .int (nI l)]) (r := []) (Post := fun v h9 => v = none ∧ ch_R h9 a (sp_mv S'.1 (S'.2 r) l) ∧ xl_fr (fun k => a ≤ k ∧ k ≤ a + 3) h1 h9) (c' := 0) (s' := 0) (pc' := 102) d_V_rebase_99 rfl c_V_87 V1.1 rfl rfl (Nat.le_of_ble_eq_true rfl) (Nat.le_of_ble_eq_true rfl) (Nat.le_of_ble_eq_true rfl) (fun Q' hq => c_V_moveTo (by omega) V1.1 V1.2.2.1 R1 l1 (Nat.lt_of_lt_of_le WR1.2.2.1 (Nat.pow_le_pow_right (by decide) (by have := W1.1; omega))) (sp_WH_64 W1 (c := some l) (sp_ok_some l1)) (fun h' z1 z2 => hq none h' ⟨rfl, z1, z2⟩)) rfl rfl (fun v9 h2 hp => ?_)
    obtain ⟨rfl, R2, f2⟩ := hp
    show xm_X L xs (xm_call L xs (d + 7)) m_V_rebase (102, [.ref 0, .int (nI r), .int (nI b), .int (0), .ref a, .int (nI q), .long (lN (sp_rr S.1 p &&& (sp_rr S.1 p ^^^ sp_rr S.1 q))), .float 0, .int (nI (sp_n S.1)), .int (nI l)], [], h2, 0, 0) Q
    have V2 := ch_V_rep V1 hr (xl_mono f2 (fun k z => ⟨by omega, by omega⟩)) (by rw [← ha7]; exact R2)
    have e5 := sp_adds_last ts S.1 q
    rw [a1] at e5
    have V3 : ch_V h2 ((sp_adds S.1 (some q) ts).1, sp_up S.2 r (sp_mv (sp_adds S.1 (some q) ts).1 (S.2 r) (if ts.length = 0 then q else sp_n S.1 + ts.length - 1))) := by
      rw [a1, ← Option.some.inj e5, ← s2]
      exact V2
    refine x_aload_n (pc' := 103) d_V_rebase_102 rfl rfl ?_
    refine x_getfield (ci := 3) (i := 0) (v := .ref 1) (pc' := 106) d_V_rebase_103 rfl g_V_10 V2.1 rfl ?_
    refine x_getfield (ci := 0) (i := 4) (v := .int (nI (sp_n S'.1))) (pc' := 109) d_V_rebase_106 rfl g_V_111 V2.2.2.1.1.2 rfl ?_
    refine x_iload (pc' := 111) d_V_rebase_109 rfl rfl ?_
    refine x_isub (z := nI ts.length) (pc' := 112) d_V_rebase_111 rfl (by rw [n1]; exact sp_nI_sub) ?_
    exact x_ireturn d_V_rebase_112 rfl rfl (h7 ts e1 h2 V3 (xl_tr (xl_mono f1 (fun k z => by show k < 29; rcases z with z | z <;> omega)) (xl_mono f2 (fun k z => by show k < 29; omega))))
theorem c_V_rebase {L : Nat} {xs : Nat → Int32} {d : Nat} {h : xm_H} {Q : xm_Q} {S : sp_S} (hV : ch_V h S) (hS : sp_WS S) {x y : Int32} (hQ : ∀ h', ch_V h' (sp_rebase S x y).2 → xl_fr sp_V29 h h' → Q (some (.int (sp_rebase S x y).1)) h') : xm_call L xs (d + 8) m_V_rebase [.ref 0, .int x, .int y] h Q := by
  have key : ∀ z, sp_rebase S x y = (z, S) → Q (some (.int z)) h := fun z e9 => by
    rw [e9] at hQ
    exact hQ h hV xl_rf
  rcases sp_in_cases 2 (by decide) x with ⟨_, e⟩ | ⟨_, _, e⟩ | ⟨r, hr, rfl, e⟩
  · exact c_V_rebase_x hV hS e (key _ (by unfold sp_rebase; rw [e]))
  · exact c_V_rebase_x hV hS e (key _ (by unfold sp_rebase; rw [e]))
  · rcases sp_in_cases 4 (by decide) y with ⟨_, e2⟩ | ⟨_, _, e2⟩ | ⟨b, hb, rfl, e2⟩
    · exact c_V_rebase_y hV hS hr e2 (key _ (by unfold sp_rebase; rw [e, e2]))
    · exact c_V_rebase_y hV hS hr e2 (key _ (by unfold sp_rebase; rw [e, e2]))
    · cases h1 : sp_tip (S.2 r) b with
      | none => exact c_V_rebase_t hV hS hr hb h1 (key _ (by unfold sp_rebase; rw [e, e2]; dsimp only; rw [h1]))
      | some q =>
        have h1' : sp_tip (S.2 r) b ≠ none := by rw [h1]; exact Option.some_ne_none _
        cases h2 : sp_head (S.2 r) with
        | none => exact c_V_rebase_h hV hS hr hb h1' h2 (key _ (by unfold sp_rebase; rw [e, e2]; dsimp only; rw [h1, h2]))
        | some p =>
          have h2' : sp_head (S.2 r) ≠ none := by rw [h2]; exact Option.some_ne_none _
          cases h3 : sp_clean S.1 (S.2 r) with
          | false => exact c_V_rebase_d hV hS hr hb h1' h2' h3 (key _ (by unfold sp_rebase; rw [e, e2]; dsimp only; rw [h1, h2]; dsimp only; rw [h3]; rfl))
          | true =>
            have e9 : sp_rebase S (nI r) (nI b) = match sp_replay S.1 (sp_rr S.1 p &&& (sp_rr S.1 p ^^^ sp_rr S.1 q)) (sp_n S.1) 0 (sp_of S.1 (some q)) [] with
      | .inl e => (e, S)
      | .inr ts => (nI ts.length, ((sp_adds S.1 (some q) ts).1, sp_up S.2 r (sp_mv (sp_adds S.1 (some q) ts).1 (S.2 r) (if ts.length = 0 then q else sp_n S.1 + ts.length - 1)))) := by unfold sp_rebase; rw [e, e2]; dsimp only; rw [h1, h2]; dsimp only; rw [h3]; rfl
            rw [e9] at hQ
            refine c_V_rebase_j hV hS hr hb h1 h2 h3 (fun e5 e6 h' z1 z2 => ?_) (fun ts e6 h' z1 z2 => ?_)
            · rw [e6] at hQ
              exact hQ h' z1 z2
            · rw [e6] at hQ
              exact hQ h' z1 z2
