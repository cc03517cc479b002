/-! Texts by their numbers; contracts of hasSnapshot, copySnapshot, add, cutBackTo. (Printed by c_hist2.py.) -/
def sp_wt (x : Option (List Nat)) : Prop := ∀ l, x = some l → l.length ≤ 8 ∧ ∀ d ∈ l, d < 16
theorem sp_dig_lt : ∀ {l : List Nat}, (∀ d ∈ l, d < 16) → sp_dig l < 16 ^ l.length
  | [], _ => by decide
  | d :: l, h => by
    have h1 := sp_dig_lt (l := l) (fun x hx => h x (List.mem_cons_of_mem _ hx))
    have h2 := h d List.mem_cons_self
    unfold sp_dig
    rw [List.length_cons, Nat.pow_succ]
    omega
theorem sp_dig_inj : ∀ {l k : List Nat}, l.length = k.length → (∀ d ∈ l, d < 16) → (∀ d ∈ k, d < 16) → sp_dig l = sp_dig k → l = k
  | [], [], _, _, _, _ => rfl
  | [], _ :: _, h, _, _, _ => by cases h
  | _ :: _, [], h, _, _, _ => by cases h
  | a :: l, b :: k, h, h1, h2, e => by
    have ha := h1 a List.mem_cons_self
    have hb := h2 b List.mem_cons_self
    unfold sp_dig at e
    have e1 : a = b := by omega
    have e2 : sp_dig l = sp_dig k := by omega
    rw [e1, sp_dig_inj (by simpa using h) (fun x hx => h1 x (List.mem_cons_of_mem _ hx)) (fun x hx => h2 x (List.mem_cons_of_mem _ hx)) e2]
theorem sp_dig32 {l : List Nat} (hl : l.length ≤ 8) (h : ∀ d ∈ l, d < 16) : sp_dig l < 4294967296 := by
  have h1 := sp_dig_lt h
  have h2 : 16 ^ l.length ≤ 16 ^ 8 := Nat.pow_le_pow_right (by decide) hl
  have h3 : 16 ^ 8 = 4294967296 := by decide
  omega
theorem sp_enc_lt {l : List Nat} (hl : l.length ≤ 8) (h : ∀ d ∈ l, d < 16) : sp_enc l < 2 ^ 36 := by
  have := sp_dig32 hl h
  unfold sp_enc
  omega
theorem sp_enc_inj {l k : List Nat} (hl : l.length ≤ 8) (h : ∀ d ∈ l, d < 16) (kl : k.length ≤ 8) (h2 : ∀ d ∈ k, d < 16) (e : sp_enc l = sp_enc k) : l = k := by
  have h3 := sp_dig32 hl h
  have h4 := sp_dig32 kl h2
  unfold sp_enc at e
  exact sp_dig_inj (by omega) h h2 (by omega)
theorem sp_lN_m2 {n : Nat} (h : n < 2 ^ 62) : lN n ≠ -2 := by
  intro e
  have h1 := pk_lT (n := n) (by omega)
  rw [e] at h1
  have h2 : (-2 : Int64).toInt = -2 := by decide
  omega
theorem sp_tv_inj {x y : Option (List Nat)} (hx : sp_wt x) (hy : sp_wt y) : sp_tv x = sp_tv y ↔ x = y := by
  refine ⟨fun e => ?_, fun e => by rw [e]⟩
  cases x with
  | none =>
    cases y with
    | none => rfl
    | some l =>
      have h := hy l rfl
      exact absurd e.symm (sp_lN_m2 (Nat.lt_of_lt_of_le (sp_enc_lt h.1 h.2) (by decide)))
  | some l =>
    have h := hx l rfl
    cases y with
    | none => exact absurd e (sp_lN_m2 (Nat.lt_of_lt_of_le (sp_enc_lt h.1 h.2) (by decide)))
    | some k =>
      have h2 := hy k rfl
      have a1 := sp_enc_lt h.1 h.2
      have a2 := sp_enc_lt h2.1 h2.2
      have e2 := (pk_lEQ (Nat.lt_of_lt_of_le a1 (by decide)) (Nat.lt_of_lt_of_le a2 (by decide))).mp e
      rw [sp_enc_inj h.1 h.2 h2.1 h2.2 e2]
theorem sp_tv_cmp {x y : Option (List Nat)} (hx : sp_wt x) (hy : sp_wt y) (q : lg_cmp (sp_tv x) (sp_tv y) = 0) : x = y := (sp_tv_inj hx hy).mp ((lg_cmp_eq _ _).mp q)
theorem sp_tv_cmpn {x y : Option (List Nat)} (q : ¬ lg_cmp (sp_tv x) (sp_tv y) = 0) : x ≠ y := fun e => q ((lg_cmp_eq _ _).mpr (by rw [e]))
theorem sp_eq4_t {a b : sp_T} (h0 : a 0 = b 0) (h1 : a 1 = b 1) (h2 : a 2 = b 2) (h3 : a 3 = b 3) : sp_eq4 a b = true := by
  unfold sp_eq4
  simp [h0, h1, h2, h3]
theorem sp_eq4_f {a b : sp_T} (k : Nat) (hk : k < 4) (h : a k ≠ b k) : sp_eq4 a b = false := by
  unfold sp_eq4
  rw [decide_eq_false_iff_not]
  rintro ⟨h0, h1, h2, h3⟩
  match k, hk with
  | 0, _ => exact h h0
  | 1, _ => exact h h1
  | 2, _ => exact h h2
  | 3, _ => exact h h3
theorem xl_at {h : xm_H} {q : Nat} {e c : xm_C} (hq : h[q]? = some e) : (h.set q c)[q]? = some c := List.getElem?_set_self (List.getElem?_eq_some_iff.mp hq).1
theorem xl_ne {h : xm_H} {q k : Nat} {c : xm_C} (hk : q ≠ k) : (h.set q c)[k]? = h[k]? := List.getElem?_set_ne hk
/-- nothing has changed but the cells of S -/
def xl_fr (S : Nat → Prop) (h h' : xm_H) : Prop := h'.length = h.length ∧ ∀ k, ¬ S k → h'[k]? = h[k]?
theorem xl_rf {S : Nat → Prop} {h : xm_H} : xl_fr S h h := ⟨rfl, fun _ _ => rfl⟩
theorem xl_tr {S : Nat → Prop} {h h1 h2 : xm_H} (a : xl_fr S h h1) (b : xl_fr S h1 h2) : xl_fr S h h2 := ⟨b.1.trans a.1, fun k hk => (b.2 k hk).trans (a.2 k hk)⟩
theorem xl_set {S : Nat → Prop} {h : xm_H} {q : Nat} {c : xm_C} (hq : S q) : xl_fr S h (h.set q c) := ⟨List.length_set, fun k hk => xl_ne (fun e => hk (e ▸ hq))⟩
theorem xl_mono {S S' : Nat → Prop} {h h' : xm_H} (a : xl_fr S h h') (hs : ∀ k, S k → S' k) : xl_fr S' h h' := ⟨a.1, fun k hk => a.2 k (fun z => hk (hs k z))⟩
theorem ch_H_go {h h' : xm_H} {H : sp_H} (hH : ch_H h H) (hk : ∀ k, 1 ≤ k → k ≤ 5 → h'[k]? = h[k]?) : ch_H h' H := by
  obtain ⟨⟨h0, h1⟩, ⟨T, h2, g2⟩, ⟨P, h3, g3⟩, ⟨P', h4, g4⟩, ⟨R, h5, g5⟩⟩ := hH
  exact ⟨⟨h0, (hk 1 (by decide) (by decide)).trans h1⟩, ⟨T, (hk 2 (by decide) (by decide)).trans h2, g2⟩, ⟨P, (hk 3 (by decide) (by decide)).trans h3, g3⟩, ⟨P', (hk 4 (by decide) (by decide)).trans h4, g4⟩, ⟨R, (hk 5 (by decide) (by decide)).trans h5, g5⟩⟩
theorem ch_H_set {h : xm_H} {H : sp_H} {q : Nat} {c : xm_C} (hq : 5 < q) (hH : ch_H h H) : ch_H (h.set q c) H := ch_H_go hH (fun k _ h5 => xl_ne (by omega))
theorem ch_R_go {h h' : xm_H} {a : Nat} {R : sp_R} (hR : ch_R h a R) (hk : ∀ k, a ≤ k → k ≤ a + 3 → h'[k]? = h[k]?) : ch_R h' a R := by
  obtain ⟨h0, h1, ⟨t, h2, g2⟩, ⟨w, h3, g3⟩, ⟨x, h4, g4⟩⟩ := hR
  exact ⟨h0, (hk a (by omega) (by omega)).trans h1, ⟨t, (hk _ (by omega) (by omega)).trans h2, g2⟩, ⟨w, (hk _ (by omega) (by omega)).trans h3, g3⟩, ⟨x, (hk _ (by omega) (by omega)).trans h4, g4⟩⟩
theorem sp_u4 (F w : Nat → Int64) : ∀ j, j < 4 → vp_updL (vp_updL (vp_updL (vp_updL w (nI 0).toNatClampNeg (F 0)) (nI 1).toNatClampNeg (F 1)) (nI 2).toNatClampNeg (F 2)) (nI 3).toNatClampNeg (F 3) j = F j := by
  intro j hj
  rw [nI_clamp (n := 0) (by decide), nI_clamp (n := 1) (by decide), nI_clamp (n := 2) (by decide), nI_clamp (n := 3) (by decide)]
  match j, hj with
  | 0, _ => rfl
  | 1, _ => rfl
  | 2, _ => rfl
  | 3, _ => rfl
theorem c_H_hasSnapshot {L : Nat} {xs : Nat → Int32} {d : Nat} {h : xm_H} {H : sp_H} {Q : xm_Q} {c : Option Nat} {q : Nat} {w : Nat → Int64} {t : sp_T} (hH : ch_H h H) (hc : sp_ok (sp_n H) c) (hw : h[q]? = some (.inl (.long, 4, .inr (.inl w)))) (hw2 : ∀ j, j < 4 → w j = sp_tv (t j)) (hx : ∀ f, f < 4 → sp_wt (sp_of H c f)) (ht : ∀ f, f < 4 → sp_wt (t f)) (hQ : Q (some (.int (sp_bi (sp_eq4 (sp_of H c) t)))) h) : xm_call L xs (d + 3) m_H_hasSnapshot [.ref 1, .int (sp_vi c), .ref q] h Q := by
  refine x_call (lo := [.ref 1, .int (sp_vi c), .ref q, .float 0]) (Nat.le_of_ble_eq_true rfl) rfl ?_
  refine x_iconst (v := nI 0) (pc' := 1) d_H_hasSnapshot_0 rfl (by decide) ?_
  refine x_istore_n (lo' := [.ref 1, .int (sp_vi c), .ref q, .int (nI 0)]) (pc' := 2) d_H_hasSnapshot_1 rfl (Nat.le_of_ble_eq_true rfl) rfl ?_
  refine x_iload_n (pc' := 3) d_H_hasSnapshot_2 rfl rfl ?_
  refine x_iconst (v := nI 4) (pc' := 4) d_H_hasSnapshot_3 rfl (by decide) ?_
  refine x_icmpge (t := 28) (pc' := 7) d_H_hasSnapshot_4 rfl rfl (fun q => absurd q (nI_ge (by decide) (by decide))) (fun _ => ?_)
  refine x_aload_n (pc' := 8) d_H_hasSnapshot_7 rfl rfl ?_
  refine x_iload_n (pc' := 9) d_H_hasSnapshot_8 rfl rfl ?_
  refine x_iload_n (pc' := 10) d_H_hasSnapshot_9 rfl rfl ?_
  refine x_virtual (a := 1) (as := [.int (sp_vi c), .int (nI 0)]) (r := []) (v := (some (.long (sp_tv (sp_of H c 0))))) (h' := h) (st' := [.long (sp_tv (sp_of H c 0))]) (c' := 0) (s' := 0) (pc' := 13) d_H_hasSnapshot_10 rfl c_H_35 hH.1.2 rfl rfl (Nat.le_of_ble_eq_true rfl) (Nat.le_of_ble_eq_true rfl) (Nat.le_of_ble_eq_true rfl) (fun Q' hq => c_H_textOf hH hc (by decide) hq) rfl rfl rfl ?_
  refine x_aload_n (pc' := 14) d_H_hasSnapshot_13 rfl rfl ?_
  refine x_iload_n (pc' := 15) d_H_hasSnapshot_14 rfl rfl ?_
  refine x_laload (v := sp_tv (t 0)) (pc' := 16) d_H_hasSnapshot_15 rfl hw (vp_in_nI (by decide) (by decide)) ((congrArg w (nI_clamp (by decide))).trans (hw2 0 (by decide))) ?_
  refine x_lcmp (z := lg_cmp (sp_tv (sp_of H c 0)) (sp_tv (t 0))) (pc' := 17) d_H_hasSnapshot_16 rfl rfl ?_
  refine x_ifeq (t := 22) (pc' := 20) d_H_hasSnapshot_17 rfl rfl (fun q0 => ?_) (fun q0 => ?_)
  · refine x_iinc (y := nI 1) (lo' := [.ref 1, .int (sp_vi c), .ref q, .int (nI 1)]) (pc' := 25) d_H_hasSnapshot_22 rfl rfl (sp_nI_inc 0) rfl ?_
    refine x_goto (t := 2) d_H_hasSnapshot_25 rfl ?_
    refine x_iload_n (pc' := 3) d_H_hasSnapshot_2 rfl rfl ?_
    refine x_iconst (v := nI 4) (pc' := 4) d_H_hasSnapshot_3 rfl (by decide) ?_
    refine x_icmpge (t := 28) (pc' := 7) d_H_hasSnapshot_4 rfl rfl (fun q => absurd q (nI_ge (by decide) (by decide))) (fun _ => ?_)
    refine x_aload_n (pc' := 8) d_H_hasSnapshot_7 rfl rfl ?_
    refine x_iload_n (pc' := 9) d_H_hasSnapshot_8 rfl rfl ?_
    refine x_iload_n (pc' := 10) d_H_hasSnapshot_9 rfl rfl ?_
    refine x_virtual (a := 1) (as := [.int (sp_vi c), .int (nI 1)]) (r := []) (v := (some (.long (sp_tv (sp_of H c 1))))) (h' := h) (st' := [.long (sp_tv (sp_of H c 1))]) (c' := 0) (s' := 0) (pc' := 13) d_H_hasSnapshot_10 rfl c_H_35 hH.1.2 rfl rfl (Nat.le_of_ble_eq_true rfl) (Nat.le_of_ble_eq_true rfl) (Nat.le_of_ble_eq_true rfl) (fun Q' hq => c_H_textOf hH hc (by decide) hq) rfl rfl rfl ?_
    refine x_aload_n (pc' := 14) d_H_hasSnapshot_13 rfl rfl ?_
    refine x_iload_n (pc' := 15) d_H_hasSnapshot_14 rfl rfl ?_
    refine x_laload (v := sp_tv (t 1)) (pc' := 16) d_H_hasSnapshot_15 rfl hw (vp_in_nI (by decide) (by decide)) ((congrArg w (nI_clamp (by decide))).trans (hw2 1 (by decide))) ?_
    refine x_lcmp (z := lg_cmp (sp_tv (sp_of H c 1)) (sp_tv (t 1))) (pc' := 17) d_H_hasSnapshot_16 rfl rfl ?_
    refine x_ifeq (t := 22) (pc' := 20) d_H_hasSnapshot_17 rfl rfl (fun q1 => ?_) (fun q1 => ?_)
    · refine x_iinc (y := nI 2) (lo' := [.ref 1, .int (sp_vi c), .ref q, .int (nI 2)]) (pc' := 25) d_H_hasSnapshot_22 rfl rfl (sp_nI_inc 1) rfl ?_
      refine x_goto (t := 2) d_H_hasSnapshot_25 rfl ?_
      refine x_iload_n (pc' := 3) d_H_hasSnapshot_2 rfl rfl ?_
      refine x_iconst (v := nI 4) (pc' := 4) d_H_hasSnapshot_3 rfl (by decide) ?_
      refine x_icmpge (t := 28) (pc' := 7) d_H_hasSnapshot_4 rfl rfl (fun q => absurd q (nI_ge (by decide) (by decide))) (fun _ => ?_)
      refine x_aload_n (pc' := 8) d_H_hasSnapshot_7 rfl rfl ?_
      refine x_iload_n (pc' := 9) d_H_hasSnapshot_8 rfl rfl ?_
      refine x_iload_n (pc' := 10) d_H_hasSnapshot_9 rfl rfl ?_
      refine x_virtual (a := 1) (as := [.int (sp_vi c), .int (nI 2)]) (r := []) (v := (some (.long (sp_tv (sp_of H c 2))))) (h' := h) (st' := [.long (sp_tv (sp_of H c 2))]) (c' := 0) (s' := 0) (pc' := 13) d_H_hasSnapshot_10 rfl c_H_35 hH.1.2 rfl rfl (Nat.le_of_ble_eq_true rfl) (Nat.le_of_ble_eq_true rfl) (Nat.le_of_ble_eq_true rfl) (fun Q' hq => c_H_textOf hH hc (by decide) hq) rfl rfl rfl ?_
      refine x_aload_n (pc' := 14) d_H_hasSnapshot_13 rfl rfl ?_
      refine x_iload_n (pc' := 15) d_H_hasSnapshot_14 rfl rfl ?_
      refine x_laload (v := sp_tv (t 2)) (pc' := 16) d_H_hasSnapshot_15 rfl hw (vp_in_nI (by decide) (by decide)) ((congrArg w (nI_clamp (by decide))).trans (hw2 2 (by decide))) ?_
      refine x_lcmp (z := lg_cmp (sp_tv (sp_of H c 2)) (sp_tv (t 2))) (pc' := 17) d_H_hasSnapshot_16 rfl rfl ?_
      refine x_ifeq (t := 22) (pc' := 20) d_H_hasSnapshot_17 rfl rfl (fun q2 => ?_) (fun q2 => ?_)
      · refine x_iinc (y := nI 3) (lo' := [.ref 1, .int (sp_vi c), .ref q, .int (nI 3)]) (pc' := 25) d_H_hasSnapshot_22 rfl rfl (sp_nI_inc 2) rfl ?_
        refine x_goto (t := 2) d_H_hasSnapshot_25 rfl ?_
        refine x_iload_n (pc' := 3) d_H_hasSnapshot_2 rfl rfl ?_
        refine x_iconst (v := nI 4) (pc' := 4) d_H_hasSnapshot_3 rfl (by decide) ?_
        refine x_icmpge (t := 28) (pc' := 7) d_H_hasSnapshot_4 rfl rfl (fun q => absurd q (nI_ge (by decide) (by decide))) (fun _ => ?_)
        refine x_aload_n (pc' := 8) d_H_hasSnapshot_7 rfl rfl ?_
        refine x_iload_n (pc' := 9) d_H_hasSnapshot_8 rfl rfl ?_
        refine x_iload_n (pc' := 10) d_H_hasSnapshot_9 rfl rfl ?_
        refine x_virtual (a := 1) (as := [.int (sp_vi c), .int (nI 3)]) (r := []) (v := (some (.long (sp_tv (sp_of H c 3))))) (h' := h) (st' := [.long (sp_tv (sp_of H c 3))]) (c' := 0) (s' := 0) (pc' := 13) d_H_hasSnapshot_10 rfl c_H_35 hH.1.2 rfl rfl (Nat.le_of_ble_eq_true rfl) (Nat.le_of_ble_eq_true rfl) (Nat.le_of_ble_eq_true rfl) (fun Q' hq => c_H_textOf hH hc (by decide) hq) rfl rfl rfl ?_
        refine x_aload_n (pc' := 14) d_H_hasSnapshot_13 rfl rfl ?_
        refine x_iload_n (pc' := 15) d_H_hasSnapshot_14 rfl rfl ?_
        refine x_laload (v := sp_tv (t 3)) (pc' := 16) d_H_hasSnapshot_15 rfl hw (vp_in_nI (by decide) (by decide)) ((congrArg w (nI_clamp (by decide))).trans (hw2 3 (by decide))) ?_
        refine x_lcmp (z := lg_cmp (sp_tv (sp_of H c 3)) (sp_tv (t 3))) (pc' := 17) d_H_hasSnapshot_16 rfl rfl ?_
        refine x_ifeq (t := 22) (pc' := 20) d_H_hasSnapshot_17 rfl rfl (fun q3 => ?_) (fun q3 => ?_)
        · refine x_iinc (y := nI 4) (lo' := [.ref 1, .int (sp_vi c), .ref q, .int (nI 4)]) (pc' := 25) d_H_hasSnapshot_22 rfl rfl (sp_nI_inc 3) rfl ?_
          refine x_goto (t := 2) d_H_hasSnapshot_25 rfl ?_
          refine x_iload_n (pc' := 3) d_H_hasSnapshot_2 rfl rfl ?_
          refine x_iconst (v := nI 4) (pc' := 4) d_H_hasSnapshot_3 rfl (by decide) ?_
          refine x_icmpge (t := 28) (pc' := 7) d_H_hasSnapshot_4 rfl rfl (fun _ => ?_) (fun q => absurd (nI_le (by decide) (by decide)) q)
          refine x_iconst (v := 1) (pc' := 29) d_H_hasSnapshot_28 rfl (by decide) ?_
          exact x_ireturn d_H_hasSnapshot_29 rfl rfl (x_q (by rw [sp_eq4_t (sp_tv_cmp (hx _ (by decide)) (ht _ (by decide)) q0) (sp_tv_cmp (hx _ (by decide)) (ht _ (by decide)) q1) (sp_tv_cmp (hx _ (by decide)) (ht _ (by decide)) q2) (sp_tv_cmp (hx _ (by decide)) (ht _ (by decide)) q3)]; rfl) hQ)
        · refine x_iconst (v := 0) (pc' := 21) d_H_hasSnapshot_20 rfl (by decide) ?_
          exact x_ireturn d_H_hasSnapshot_21 rfl rfl (x_q (by rw [sp_eq4_f 3 (by decide) (sp_tv_cmpn q3)]; rfl) hQ)
      · refine x_iconst (v := 0) (pc' := 21) d_H_hasSnapshot_20 rfl (by decide) ?_
        exact x_ireturn d_H_hasSnapshot_21 rfl rfl (x_q (by rw [sp_eq4_f 2 (by decide) (sp_tv_cmpn q2)]; rfl) hQ)
    · refine x_iconst (v := 0) (pc' := 21) d_H_hasSnapshot_20 rfl (by decide) ?_
      exact x_ireturn d_H_hasSnapshot_21 rfl rfl (x_q (by rw [sp_eq4_f 1 (by decide) (sp_tv_cmpn q1)]; rfl) hQ)
  · refine x_iconst (v := 0) (pc' := 21) d_H_hasSnapshot_20 rfl (by decide) ?_
    exact x_ireturn d_H_hasSnapshot_21 rfl rfl (x_q (by rw [sp_eq4_f 0 (by decide) (sp_tv_cmpn q0)]; rfl) hQ)
theorem c_H_copySnapshot {L : Nat} {xs : Nat → Int32} {d : Nat} {h : xm_H} {H : sp_H} {Q : xm_Q} {c : Option Nat} {q : Nat} {w : Nat → Int64} (hH : ch_H h H) (hc : sp_ok (sp_n H) c) (hq5 : 5 < q) (hw : h[q]? = some (.inl (.long, 4, .inr (.inl w)))) (hQ : ∀ w' : Nat → Int64, (∀ j, j < 4 → w' j = sp_tv (sp_of H c j)) → Q none (h.set q (.inl (.long, 4, .inr (.inl w'))))) : xm_call L xs (d + 3) m_H_copySnapshot [.ref 1, .int (sp_vi c), .ref q] h Q := by
  refine x_call (lo := [.ref 1, .int (sp_vi c), .ref q, .float 0]) (Nat.le_of_ble_eq_true rfl) rfl ?_
  refine x_iconst (v := nI 0) (pc' := 1) d_H_copySnapshot_0 rfl (by decide) ?_
  refine x_istore_n (lo' := [.ref 1, .int (sp_vi c), .ref q, .int (nI 0)]) (pc' := 2) d_H_copySnapshot_1 rfl (Nat.le_of_ble_eq_true rfl) rfl ?_
  refine x_iload_n (pc' := 3) d_H_copySnapshot_2 rfl rfl ?_
  refine x_iconst (v := nI 4) (pc' := 4) d_H_copySnapshot_3 rfl (by decide) ?_
  refine x_icmpge (t := 22) (pc' := 7) d_H_copySnapshot_4 rfl rfl (fun q => absurd q (nI_ge (by decide) (by decide))) (fun _ => ?_)
  refine x_aload_n (pc' := 8) d_H_copySnapshot_7 rfl rfl ?_
  refine x_iload_n (pc' := 9) d_H_copySnapshot_8 rfl rfl ?_
  refine x_aload_n (pc' := 10) d_H_copySnapshot_9 rfl rfl ?_
  refine x_iload_n (pc' := 11) d_H_copySnapshot_10 rfl rfl ?_
  refine x_iload_n (pc' := 12) d_H_copySnapshot_11 rfl rfl ?_
  refine x_virtual (a := 1) (as := [.int (sp_vi c), .int (nI 0)]) (r := [.int (nI 0), .ref q]) (v := (some (.long (sp_tv (sp_of H c 0))))) (h' := h) (st' := [.long (sp_tv (sp_of H c 0)), .int (nI 0), .ref q]) (c' := 0) (s' := 0) (pc' := 15) d_H_copySnapshot_12 rfl c_H_35 hH.1.2 rfl rfl (Nat.le_of_ble_eq_true rfl) (Nat.le_of_ble_eq_true rfl) (Nat.le_of_ble_eq_true rfl) (fun Q' hq => c_H_textOf hH hc (by decide) hq) rfl rfl rfl ?_
  refine x_lastore (h' := (h.set q (.inl (.long, 4, .inr (.inl (vp_updL w (nI 0).toNatClampNeg (sp_tv (sp_of H c 0)))))))) (pc' := 16) d_H_copySnapshot_15 rfl hw (vp_in_nI (by decide) (by decide)) rfl ?_
  refine x_iinc (y := nI 1) (lo' := [.ref 1, .int (sp_vi c), .ref q, .int (nI 1)]) (pc' := 19) d_H_copySnapshot_16 rfl rfl (sp_nI_inc 0) rfl ?_
  refine x_goto (t := 2) d_H_copySnapshot_19 rfl ?_
  refine x_iload_n (pc' := 3) d_H_copySnapshot_2 rfl rfl ?_
  refine x_iconst (v := nI 4) (pc' := 4) d_H_copySnapshot_3 rfl (by decide) ?_
  refine x_icmpge (t := 22) (pc' := 7) d_H_copySnapshot_4 rfl rfl (fun q => absurd q (nI_ge (by decide) (by decide))) (fun _ => ?_)
  refine x_aload_n (pc' := 8) d_H_copySnapshot_7 rfl rfl ?_
  refine x_iload_n (pc' := 9) d_H_copySnapshot_8 rfl rfl ?_
  refine x_aload_n (pc' := 10) d_H_copySnapshot_9 rfl rfl ?_
  refine x_iload_n (pc' := 11) d_H_copySnapshot_10 rfl rfl ?_
  refine x_iload_n (pc' := 12) d_H_copySnapshot_11 rfl rfl ?_
  refine x_virtual (a := 1) (as := [.int (sp_vi c), .int (nI 1)]) (r := [.int (nI 1), .ref q]) (v := (some (.long (sp_tv (sp_of H c 1))))) (h' := (h.set q (.inl (.long, 4, .inr (.inl (vp_updL w (nI 0).toNatClampNeg (sp_tv (sp_of H c 0)))))))) (st' := [.long (sp_tv (sp_of H c 1)), .int (nI 1), .ref q]) (c' := 0) (s' := 0) (pc' := 15) d_H_copySnapshot_12 rfl c_H_35 (ch_H_set hq5 hH).1.2 rfl rfl (Nat.le_of_ble_eq_true rfl) (Nat.le_of_ble_eq_true rfl) (Nat.le_of_ble_eq_true rfl) (fun Q' hq => c_H_textOf (ch_H_set hq5 hH) hc (by decide) hq) rfl rfl rfl ?_
  refine x_lastore (h' := (h.set q (.inl (.long, 4, .inr (.inl (vp_updL (vp_updL w (nI 0).toNatClampNeg (sp_tv (sp_of H c 0))) (nI 1).toNatClampNeg (sp_tv (sp_of H c 1)))))))) (pc' := 16) d_H_copySnapshot_15 rfl (xl_at hw) (vp_in_nI (by decide) (by decide)) (List.set_set ..) ?_
  refine x_iinc (y := nI 2) (lo' := [.ref 1, .int (sp_vi c), .ref q, .int (nI 2)]) (pc' := 19) d_H_copySnapshot_16 rfl rfl (sp_nI_inc 1) rfl ?_
  refine x_goto (t := 2) d_H_copySnapshot_19 rfl ?_
  refine x_iload_n (pc' := 3) d_H_copySnapshot_2 rfl rfl ?_
  refine x_iconst (v := nI 4) (pc' := 4) d_H_copySnapshot_3 rfl (by decide) ?_
  refine x_icmpge (t := 22) (pc' := 7) d_H_copySnapshot_4 rfl rfl (fun q => absurd q (nI_ge (by decide) (by decide))) (fun _ => ?_)
  refine x_aload_n (pc' := 8) d_H_copySnapshot_7 rfl rfl ?_
  refine x_iload_n (pc' := 9) d_H_copySnapshot_8 rfl rfl ?_
  refine x_aload_n (pc' := 10) d_H_copySnapshot_9 rfl rfl ?_
  refine x_iload_n (pc' := 11) d_H_copySnapshot_10 rfl rfl ?_
  refine x_iload_n (pc' := 12) d_H_copySnapshot_11 rfl rfl ?_
  refine x_virtual (a := 1) (as := [.int (sp_vi c), .int (nI 2)]) (r := [.int (nI 2), .ref q]) (v := (some (.long (sp_tv (sp_of H c 2))))) (h' := (h.set q (.inl (.long, 4, .inr (.inl (vp_updL (vp_updL w (nI 0).toNatClampNeg (sp_tv (sp_of H c 0))) (nI 1).toNatClampNeg (sp_tv (sp_of H c 1)))))))) (st' := [.long (sp_tv (sp_of H c 2)), .int (nI 2), .ref q]) (c' := 0) (s' := 0) (pc' := 15) d_H_copySnapshot_12 rfl c_H_35 (ch_H_set hq5 hH).1.2 rfl rfl (Nat.le_of_ble_eq_true rfl) (Nat.le_of_ble_eq_true rfl) (Nat.le_of_ble_eq_true rfl) (fun Q' hq => c_H_textOf (ch_H_set hq5 hH) hc (by decide) hq) rfl rfl rfl ?_
  refine x_lastore (h' := (h.set q (.inl (.long, 4, .inr (.inl (vp_updL (vp_updL (vp_updL w (nI 0).toNatClampNeg (sp_tv (sp_of H c 0))) (nI 1).toNatClampNeg (sp_tv (sp_of H c 1))) (nI 2).toNatClampNeg (sp_tv (sp_of H c 2)))))))) (pc' := 16) d_H_copySnapshot_15 rfl (xl_at hw) (vp_in_nI (by decide) (by decide)) (List.set_set ..) ?_
  refine x_iinc (y := nI 3) (lo' := [.ref 1, .int (sp_vi c), .ref q, .int (nI 3)]) (pc' := 19) d_H_copySnapshot_16 rfl rfl (sp_nI_inc 2) rfl ?_
  refine x_goto (t := 2) d_H_copySnapshot_19 rfl ?_
  refine x_iload_n (pc' := 3) d_H_copySnapshot_2 rfl rfl ?_
  refine x_iconst (v := nI 4) (pc' := 4) d_H_copySnapshot_3 rfl (by decide) ?_
  refine x_icmpge (t := 22) (pc' := 7) d_H_copySnapshot_4 rfl rfl (fun q => absurd q (nI_ge (by decide) (by decide))) (fun _ => ?_)
  refine x_aload_n (pc' := 8) d_H_copySnapshot_7 rfl rfl ?_
  refine x_iload_n (pc' := 9) d_H_copySnapshot_8 rfl rfl ?_
  refine x_aload_n (pc' := 10) d_H_copySnapshot_9 rfl rfl ?_
  refine x_iload_n (pc' := 11) d_H_copySnapshot_10 rfl rfl ?_
  refine x_iload_n (pc' := 12) d_H_copySnapshot_11 rfl rfl ?_
  refine x_virtual (a := 1) (as := [.int (sp_vi c), .int (nI 3)]) (r := [.int (nI 3), .ref q]) (v := (some (.long (sp_tv (sp_of H c 3))))) (h' := (h.set q (.inl (.long, 4, .inr (.inl (vp_updL (vp_updL (vp_updL w (nI 0).toNatClampNeg (sp_tv (sp_of H c 0))) (nI 1).toNatClampNeg (sp_tv (sp_of H c 1))) (nI 2).toNatClampNeg (sp_tv (sp_of H c 2)))))))) (st' := [.long (sp_tv (sp_of H c 3)), .int (nI 3), .ref q]) (c' := 0) (s' := 0) (pc' := 15) d_H_copySnapshot_12 rfl c_H_35 (ch_H_set hq5 hH).1.2 rfl rfl (Nat.le_of_ble_eq_true rfl) (Nat.le_of_ble_eq_true rfl) (Nat.le_of_ble_eq_true rfl) (fun Q' hq => c_H_textOf (ch_H_set hq5 hH) hc (by decide) hq) rfl rfl rfl ?_
  refine x_lastore (h' := (h.set q (.inl (.long, 4, .inr (.inl (vp_updL (vp_updL (vp_updL (vp_updL w (nI 0).toNatClampNeg (sp_tv (sp_of H c 0))) (nI 1).toNatClampNeg (sp_tv (sp_of H c 1))) (nI 2).toNatClampNeg (sp_tv (sp_of H c 2))) (nI 3).toNatClampNeg (sp_tv (sp_of H c 3)))))))) (pc' := 16) d_H_copySnapshot_15 rfl (xl_at hw) (vp_in_nI (by decide) (by decide)) (List.set_set ..) ?_
  refine x_iinc (y := nI 4) (lo' := [.ref 1, .int (sp_vi c), .ref q, .int (nI 4)]) (pc' := 19) d_H_copySnapshot_16 rfl rfl (sp_nI_inc 3) rfl ?_
  refine x_goto (t := 2) d_H_copySnapshot_19 rfl ?_
  refine x_iload_n (pc' := 3) d_H_copySnapshot_2 rfl rfl ?_
  refine x_iconst (v := nI 4) (pc' := 4) d_H_copySnapshot_3 rfl (by decide) ?_
  refine x_icmpge (t := 22) (pc' := 7) d_H_copySnapshot_4 rfl rfl (fun _ => ?_) (fun q => absurd (nI_le (by decide) (by decide)) q)
  exact x_return d_H_copySnapshot_22 rfl (hQ _ (sp_u4 (fun j => sp_tv (sp_of H c j)) w))
theorem c_H_cutBackTo {L : Nat} {xs : Nat → Int32} {d : Nat} {h : xm_H} {n k : Nat} {Q : xm_Q} (hH : h[1]? = some (.inr (0, [.ref 2, .ref 3, .ref 4, .ref 5, .int (nI n)]))) (hQ : Q none (h.set 1 (.inr (0, [.ref 2, .ref 3, .ref 4, .ref 5, .int (nI k)])))) : xm_call L xs (d + 1) m_H_cutBackTo [.ref 1, .int (nI k)] h Q := by
  refine x_call (lo := [.ref 1, .int (nI k)]) (Nat.le_of_ble_eq_true rfl) rfl ?_
  refine x_aload_n (pc' := 1) d_H_cutBackTo_0 rfl rfl ?_
  refine x_iload_n (pc' := 2) d_H_cutBackTo_1 rfl rfl ?_
  refine x_putfield (ci := 0) (i := 4) (h' := (h.set 1 (.inr (0, [.ref 2, .ref 3, .ref 4, .ref 5, .int (nI k)])))) (pc' := 5) d_H_cutBackTo_2 rfl (p_H_25 _ rfl) hH (Nat.le_of_ble_eq_true rfl) rfl rfl rfl ?_
  exact x_return d_H_cutBackTo_5 rfl hQ
