/-! equal, take, subsequences, matched of the reference. (Printed by c_m3.py.) -/
theorem sp_sl_len {t : List Nat} {i k : Nat} (hk : k ≤ t.length) : (sp_sl t i k).length = k - i := by
  unfold sp_sl
  rw [List.length_take, List.length_drop]
  omega
theorem sp_sl_at {t : List Nat} {i k j : Nat} (hj : j < k - i) : (sp_sl t i k).getD j 0 = t.getD (i + j) 0 := by
  unfold sp_sl
  rw [List.getD_eq_getElem?_getD, List.getD_eq_getElem?_getD, List.getElem?_take, if_pos hj, List.getElem?_drop]
theorem sp_sl_eq {a b : List Nat} {i m j n : Nat} (hm : m ≤ a.length) (hn : n ≤ b.length) : sp_sl a i m = sp_sl b j n ↔ m - i = n - j ∧ ∀ k, k < m - i → a.getD (i + k) 0 = b.getD (j + k) 0 := by
  constructor
  · intro e
    have h1 : m - i = n - j := by rw [← sp_sl_len (i := i) hm, ← sp_sl_len (i := j) hn, e]
    exact ⟨h1, fun k hk => by rw [← sp_sl_at hk, e, sp_sl_at (by omega)]⟩
  · rintro ⟨h1, h2⟩
    apply List.ext_getElem
    · rw [sp_sl_len hm, sp_sl_len hn, h1]
    · intro k k1 k2
      rw [sp_sl_len hm] at k1
      have h3 := h2 k k1
      rw [← sp_sl_at k1, ← sp_sl_at (t := b) (i := j) (k := n) (by omega)] at h3
      rwa [List.getD_eq_getElem?_getD, List.getD_eq_getElem?_getD, List.getElem?_eq_getElem, List.getElem?_eq_getElem] at h3
theorem sp_sl_snoc {t : List Nat} {i k : Nat} (hi : i ≤ k) (hk : k < t.length) : sp_sl t i (k + 1) = sp_sl t i k ++ [t.getD k 0] := by
  unfold sp_sl
  rw [show k + 1 - i = (k - i) + 1 by omega, List.take_add_one, List.getElem?_drop, show i + (k - i) = k by omega, List.getElem?_eq_getElem hk, List.getD_eq_getElem?_getD, List.getElem?_eq_getElem hk]
  rfl
theorem sp_sl_nil (t : List Nat) (i : Nat) : sp_sl t i i = [] := by
  unfold sp_sl
  rw [Nat.sub_self, List.take_zero]
theorem sp_ln_eq {a b : List Nat} (ha : sp_wl a) (hb : sp_wl b) {i j : Nat} (hi : i < a.length) (hj : j < b.length) : nI (a.getD i 0) = nI (b.getD j 0) ↔ a.getD i 0 = b.getD j 0 := nI_eq (by have := sp_line16 ha hi; omega) (by have := sp_line16 hb hj; omega)
theorem l_M_equal {L : Nat} {xs : Nat → Int32} {d : Nat} {h : xm_H} {Q : xm_Q} {a b : List Nat} (ha : sp_wl a) (hb : sp_wl b) {i m j n : Nat} (hi : i ≤ m) (hm : m ≤ a.length) (hj : j ≤ n) (hn : n ≤ b.length) (hl : m - i = n - j) (hQ : Q (some (.int (sp_bi (decide (sp_sl a i m = sp_sl b j n))))) h) :
    ∀ r k, k + r = m - i → (∀ q, q < k → a.getD (i + q) 0 = b.getD (j + q) 0) → xm_X L xs (xm_call L xs (d + 1)) m_M_equal (21, [.long (lN (sp_enc a)), .float 0, .int (nI i), .int (nI m), .long (lN (sp_enc b)), .float 0, .int (nI j), .int (nI n), .int 1, .int (nI k)], [], h, 0, 0) Q := by
  have a8 := ha.1
  have b8 := hb.1
  intro r
  induction r with
  | zero =>
    intro k hkr hk
    have hkr : k = m - i := hkr
    subst hkr
    refine x_iload (pc' := 23) d_M_equal_21 rfl rfl ?_
    refine x_iload_n (pc' := 24) d_M_equal_23 rfl rfl ?_
    refine x_iload_n (pc' := 25) d_M_equal_24 rfl rfl ?_
    refine x_isub (z := nI (m - i)) (pc' := 26) d_M_equal_25 rfl (pk_sub hi) ?_
    refine x_icmpge (t := 68) (pc' := 29) d_M_equal_26 rfl rfl (fun _ => ?_) (fun q => absurd (nI_le (Nat.le_refl _) (by omega)) q)
    refine x_iload (pc' := 70) d_M_equal_68 rfl rfl ?_
    exact x_ireturn d_M_equal_70 rfl rfl (x_q (by rw [decide_eq_true ((sp_sl_eq hm hn).mpr ⟨hl, hk⟩)]; rfl) hQ)
  | succ r ih =>
    intro k hkr hk
    have hkn : k < m - i := by omega
    refine x_iload (pc' := 23) d_M_equal_21 rfl rfl ?_
    refine x_iload_n (pc' := 24) d_M_equal_23 rfl rfl ?_
    refine x_iload_n (pc' := 25) d_M_equal_24 rfl rfl ?_
    refine x_isub (z := nI (m - i)) (pc' := 26) d_M_equal_25 rfl (pk_sub hi) ?_
    refine x_icmpge (t := 68) (pc' := 29) d_M_equal_26 rfl rfl (fun q => absurd q (nI_ge hkn (by omega))) (fun _ => ?_)
    refine x_iload (pc' := 31) d_M_equal_29 rfl rfl ?_
    refine x_ifeq (t := 68) (pc' := 34) d_M_equal_31 rfl rfl (fun q => absurd q (by decide)) (fun _ => ?_)
    refine x_lload_n (pc' := 35) d_M_equal_34 rfl rfl rfl ?_
    refine x_iload_n (pc' := 36) d_M_equal_35 rfl rfl ?_
    refine x_iload (pc' := 38) d_M_equal_36 rfl rfl ?_
    refine x_iadd (z := nI (i + k)) (pc' := 39) d_M_equal_38 rfl (nI_add _ _) ?_
    refine x_static (as := [.long (lN (sp_enc a)), .int (nI (i + k))]) (r := []) (v := (some (.int (nI (a.getD (i + k) 0))))) (h' := h) (st' := [.int (nI (a.getD (i + k) 0))]) (c' := 0) (s' := 0) (pc' := 42) d_M_equal_39 rfl c_M_70 rfl rfl (Nat.le_of_ble_eq_true rfl) (Nat.le_of_ble_eq_true rfl) (Nat.le_of_ble_eq_true rfl) (fun Q' hq => c_M_line ha (by omega) hq) rfl rfl rfl ?_
    refine x_lload (pc' := 44) d_M_equal_42 rfl rfl rfl ?_
    refine x_iload (pc' := 46) d_M_equal_44 rfl rfl ?_
    refine x_iload (pc' := 48) d_M_equal_46 rfl rfl ?_
    refine x_iadd (z := nI (j + k)) (pc' := 49) d_M_equal_48 rfl (nI_add _ _) ?_
    refine x_static (as := [.long (lN (sp_enc b)), .int (nI (j + k))]) (r := [.int (nI (a.getD (i + k) 0))]) (v := (some (.int (nI (b.getD (j + k) 0))))) (h' := h) (st' := [.int (nI (b.getD (j + k) 0)), .int (nI (a.getD (i + k) 0))]) (c' := 0) (s' := 0) (pc' := 52) d_M_equal_49 rfl c_M_70 rfl rfl (Nat.le_of_ble_eq_true rfl) (Nat.le_of_ble_eq_true rfl) (Nat.le_of_ble_eq_true rfl) (fun Q' hq => c_M_line hb (by omega) hq) rfl rfl rfl ?_
    by_cases he : a.getD (i + k) 0 = b.getD (j + k) 0
    · refine x_icmpne (t := 59) (pc' := 55) d_M_equal_52 rfl rfl (fun q => absurd (by rw [he]) q) (fun _ => ?_)
      refine x_iconst (v := 1) (pc' := 56) d_M_equal_55 rfl (by decide) ?_
      refine x_goto (t := 60) d_M_equal_56 rfl ?_
      refine x_istore (lo' := [.long (lN (sp_enc a)), .float 0, .int (nI i), .int (nI m), .long (lN (sp_enc b)), .float 0, .int (nI j), .int (nI n), .int 1, .int (nI k)]) (pc' := 62) d_M_equal_60 rfl (Nat.le_of_ble_eq_true rfl) rfl ?_
      refine x_iinc (y := nI (k + 1)) (lo' := [.long (lN (sp_enc a)), .float 0, .int (nI i), .int (nI m), .long (lN (sp_enc b)), .float 0, .int (nI j), .int (nI n), .int 1, .int (nI (k + 1))]) (pc' := 65) d_M_equal_62 rfl rfl (sp_nI_inc k) rfl ?_
      refine x_goto (t := 21) d_M_equal_65 rfl ?_
      exact ih (k + 1) (by omega) (fun q hq => by rcases Nat.lt_or_eq_of_le (Nat.le_of_lt_succ hq) with z | z; exact hk q z; subst z; exact he)
    · have hf : decide (sp_sl a i m = sp_sl b j n) = false := decide_eq_false (fun z => he (((sp_sl_eq hm hn).mp z).2 k hkn))
      rw [hf] at hQ
      refine x_icmpne (t := 59) (pc' := 55) d_M_equal_52 rfl rfl (fun _ => ?_) (fun q => absurd q (fun z => he ((sp_ln_eq ha hb (by omega) (by omega)).mp z)))
      refine x_iconst (v := 0) (pc' := 60) d_M_equal_59 rfl (by decide) ?_
      refine x_istore (lo' := [.long (lN (sp_enc a)), .float 0, .int (nI i), .int (nI m), .long (lN (sp_enc b)), .float 0, .int (nI j), .int (nI n), .int 0, .int (nI k)]) (pc' := 62) d_M_equal_60 rfl (Nat.le_of_ble_eq_true rfl) rfl ?_
      refine x_iinc (y := nI (k + 1)) (lo' := [.long (lN (sp_enc a)), .float 0, .int (nI i), .int (nI m), .long (lN (sp_enc b)), .float 0, .int (nI j), .int (nI n), .int 0, .int (nI (k + 1))]) (pc' := 65) d_M_equal_62 rfl rfl (sp_nI_inc k) rfl ?_
      refine x_goto (t := 21) d_M_equal_65 rfl ?_
      refine x_iload (pc' := 23) d_M_equal_21 rfl rfl ?_
      refine x_iload_n (pc' := 24) d_M_equal_23 rfl rfl ?_
      refine x_iload_n (pc' := 25) d_M_equal_24 rfl rfl ?_
      refine x_isub (z := nI (m - i)) (pc' := 26) d_M_equal_25 rfl (pk_sub hi) ?_
      refine x_icmpge (t := 68) (pc' := 29) d_M_equal_26 rfl rfl (fun q9 => ?_) (fun q9 => ?_)
      · refine x_iload (pc' := 70) d_M_equal_68 rfl rfl ?_
        exact x_ireturn d_M_equal_70 rfl rfl hQ
      · refine x_iload (pc' := 31) d_M_equal_29 rfl rfl ?_
        refine x_ifeq (t := 68) (pc' := 34) d_M_equal_31 rfl rfl (fun _ => ?_) (fun q => absurd rfl q)
        refine x_iload (pc' := 70) d_M_equal_68 rfl rfl ?_
        exact x_ireturn d_M_equal_70 rfl rfl hQ
theorem c_M_equal {L : Nat} {xs : Nat → Int32} {d : Nat} {h : xm_H} {Q : xm_Q} {a b : List Nat} (ha : sp_wl a) (hb : sp_wl b) {i m j n : Nat} (hi : i ≤ m) (hm : m ≤ a.length) (hj : j ≤ n) (hn : n ≤ b.length) (hQ : Q (some (.int (sp_bi (decide (sp_sl a i m = sp_sl b j n))))) h) : xm_call L xs (d + 2) m_M_equal [.long (lN (sp_enc a)), .int (nI i), .int (nI m), .long (lN (sp_enc b)), .int (nI j), .int (nI n)] h Q := by
  have a8 := ha.1
  have b8 := hb.1
  refine x_call (lo := [.long (lN (sp_enc a)), .float 0, .int (nI i), .int (nI m), .long (lN (sp_enc b)), .float 0, .int (nI j), .int (nI n), .float 0, .float 0]) (Nat.le_of_ble_eq_true rfl) rfl ?_
  refine x_iload_n (pc' := 1) d_M_equal_0 rfl rfl ?_
  refine x_iload_n (pc' := 2) d_M_equal_1 rfl rfl ?_
  refine x_isub (z := nI (m - i)) (pc' := 3) d_M_equal_2 rfl (pk_sub hi) ?_
  refine x_iload (pc' := 5) d_M_equal_3 rfl rfl ?_
  refine x_iload (pc' := 7) d_M_equal_5 rfl rfl ?_
  refine x_isub (z := nI (n - j)) (pc' := 8) d_M_equal_7 rfl (pk_sub hj) ?_
  by_cases hl : m - i = n - j
  · refine x_icmpne (t := 15) (pc' := 11) d_M_equal_8 rfl rfl (fun q => absurd (by rw [hl]) q) (fun _ => ?_)
    refine x_iconst (v := 1) (pc' := 12) d_M_equal_11 rfl (by decide) ?_
    refine x_goto (t := 16) d_M_equal_12 rfl ?_
    refine x_istore (lo' := [.long (lN (sp_enc a)), .float 0, .int (nI i), .int (nI m), .long (lN (sp_enc b)), .float 0, .int (nI j), .int (nI n), .int 1, .float 0]) (pc' := 18) d_M_equal_16 rfl (Nat.le_of_ble_eq_true rfl) rfl ?_
    refine x_iconst (v := nI 0) (pc' := 19) d_M_equal_18 rfl (by decide) ?_
    refine x_istore (lo' := [.long (lN (sp_enc a)), .float 0, .int (nI i), .int (nI m), .long (lN (sp_enc b)), .float 0, .int (nI j), .int (nI n), .int 1, .int (nI 0)]) (pc' := 21) d_M_equal_19 rfl (Nat.le_of_ble_eq_true rfl) rfl ?_
    exact l_M_equal ha hb hi hm hj hn hl hQ (m - i) 0 (by omega) (fun q hq => absurd hq (Nat.not_lt_zero q))
  · have hf : decide (sp_sl a i m = sp_sl b j n) = false := decide_eq_false (fun z => hl ((sp_sl_eq hm hn).mp z).1)
    rw [hf] at hQ
    refine x_icmpne (t := 15) (pc' := 11) d_M_equal_8 rfl rfl (fun _ => ?_) (fun q => absurd q (fun z => hl (sp_nI_inj (by omega) (by omega) z)))
    refine x_iconst (v := 0) (pc' := 16) d_M_equal_15 rfl (by decide) ?_
    refine x_istore (lo' := [.long (lN (sp_enc a)), .float 0, .int (nI i), .int (nI m), .long (lN (sp_enc b)), .float 0, .int (nI j), .int (nI n), .int 0, .float 0]) (pc' := 18) d_M_equal_16 rfl (Nat.le_of_ble_eq_true rfl) rfl ?_
    refine x_iconst (v := nI 0) (pc' := 19) d_M_equal_18 rfl (by decide) ?_
    refine x_istore (lo' := [.long (lN (sp_enc a)), .float 0, .int (nI i), .int (nI m), .long (lN (sp_enc b)), .float 0, .int (nI j), .int (nI n), .int 0, .int (nI 0)]) (pc' := 21) d_M_equal_19 rfl (Nat.le_of_ble_eq_true rfl) rfl ?_
    refine x_iload (pc' := 23) d_M_equal_21 rfl rfl ?_
    refine x_iload_n (pc' := 24) d_M_equal_23 rfl rfl ?_
    refine x_iload_n (pc' := 25) d_M_equal_24 rfl rfl ?_
    refine x_isub (z := nI (m - i)) (pc' := 26) d_M_equal_25 rfl (pk_sub hi) ?_
    refine x_icmpge (t := 68) (pc' := 29) d_M_equal_26 rfl rfl (fun q9 => ?_) (fun q9 => ?_)
    · refine x_iload (pc' := 70) d_M_equal_68 rfl rfl ?_
      exact x_ireturn d_M_equal_70 rfl rfl hQ
    · refine x_iload (pc' := 31) d_M_equal_29 rfl rfl ?_
      refine x_ifeq (t := 68) (pc' := 34) d_M_equal_31 rfl rfl (fun _ => ?_) (fun q => absurd rfl q)
      refine x_iload (pc' := 70) d_M_equal_68 rfl rfl ?_
      exact x_ireturn d_M_equal_70 rfl rfl hQ
/-- the lines taken so far -/
def mL (h : xm_H) (n : Nat) (l : List Nat) : Prop := mo h n (nI l.length) ∧ ∃ f : Nat → Int32, h[45]? = some (.inl (.int, 24, .inl f)) ∧ ∀ j, j < l.length → f j = nI (l.getD j 0)
abbrev sp_LS : Nat → Prop := fun k => k = 29 ∨ k = 45
theorem sp_ln1 {α : Type} (M : List α) (x : α) : (M ++ [x]).length = M.length + 1 := by rw [List.length_append, List.length_singleton]
theorem sp_gdl {M : List Nat} {x j : Nat} (h : j < M.length) : (M ++ [x]).getD j 0 = M.getD j 0 := by rw [List.getD_eq_getElem?_getD, List.getD_eq_getElem?_getD, List.getElem?_append_left h]
theorem sp_gdr (M : List Nat) (x : Nat) : (M ++ [x]).getD M.length 0 = x := by rw [List.getD_eq_getElem?_getD, List.getElem?_append_right (Nat.le_refl _), Nat.sub_self]; rfl
theorem sp_upd_at {f : Nat → Int32} {k : Nat} {v : Int32} : upd f k v k = v := if_pos rfl
theorem sp_upd_ne {f : Nat → Int32} {k j : Nat} {v : Int32} (h : j ≠ k) : upd f k v j = f j := if_neg h
theorem l_M_take {L : Nat} {xs : Nat → Int32} {d : Nat} {h : xm_H} {Q : xm_Q} {t l : List Nat} (ht : sp_wl t) {i e n : Nat} (he : e ≤ t.length) (hl : l.length + (e - i) ≤ 24)
    (hQ : ∀ h', mL h' n (l ++ sp_sl t i e) → xl_fr sp_LS h h' → Q none h') :
    ∀ r k, k + r = e → i ≤ k → ∀ h1, mL h1 n (l ++ sp_sl t i k) → xl_fr sp_LS h h1 → xm_X L xs (xm_call L xs (d + 1)) m_M_take (3, [.ref 29, .long (lN (sp_enc t)), .float 0, .int (nI i), .int (nI e), .int (nI k)], [], h1, 0, 0) Q := by
  have t8 := ht.1
  intro r
  induction r with
  | zero =>
    intro k hk hik h1 h2 hf
    have hk : k = e := hk
    subst hk
    refine x_iload (pc' := 5) d_M_take_3 rfl rfl ?_
    refine x_iload (pc' := 7) d_M_take_5 rfl rfl ?_
    refine x_icmpge (t := 41) (pc' := 10) d_M_take_7 rfl rfl (fun _ => ?_) (fun q => absurd (nI_le (Nat.le_refl _) (by omega)) q)
    exact x_return d_M_take_41 rfl (hQ h1 h2 hf)
  | succ r ih =>
    intro k hk hik h1 h2 hf
    have hke : k < e := by omega
    obtain ⟨f, f1, f2⟩ := h2.2
    have hlen : (l ++ sp_sl t i k).length = l.length + (k - i) := by rw [List.length_append, sp_sl_len (by omega)]
    have eS : l ++ sp_sl t i (k + 1) = (l ++ sp_sl t i k) ++ [t.getD k 0] := by rw [sp_sl_snoc hik (by omega), List.append_assoc]
    refine x_iload (pc' := 5) d_M_take_3 rfl rfl ?_
    refine x_iload (pc' := 7) d_M_take_5 rfl rfl ?_
    refine x_icmpge (t := 41) (pc' := 10) d_M_take_7 rfl rfl (fun q => absurd q (nI_ge hke (by omega))) (fun _ => ?_)
    refine x_aload_n (pc' := 11) d_M_take_10 rfl rfl ?_
    refine x_getfield (ci := 4) (i := 17) (v := .ref 45) (pc' := 14) d_M_take_11 rfl g_M_56 h2.1 rfl ?_
    refine x_aload_n (pc' := 15) d_M_take_14 rfl rfl ?_
    refine x_getfield (ci := 4) (i := 16) (v := .int (nI (l ++ sp_sl t i k).length)) (pc' := 18) d_M_take_15 rfl g_M_78 h2.1 rfl ?_
    refine x_lload_n (pc' := 19) d_M_take_18 rfl rfl rfl ?_
    refine x_iload (pc' := 21) d_M_take_19 rfl rfl ?_
    refine x_static (as := [.long (lN (sp_enc t)), .int (nI k)]) (r := [.int (nI (l ++ sp_sl t i k).length), .ref 45]) (v := (some (.int (nI (t.getD k 0))))) (h' := h1) (st' := [.int (nI (t.getD k 0)), .int (nI (l ++ sp_sl t i k).length), .ref 45]) (c' := 0) (s' := 0) (pc' := 24) d_M_take_21 rfl c_M_70 rfl rfl (Nat.le_of_ble_eq_true rfl) (Nat.le_of_ble_eq_true rfl) (Nat.le_of_ble_eq_true rfl) (fun Q' hq => c_M_line ht (by omega) hq) rfl rfl rfl ?_
    refine x_iastore (h' := (h1.set 45 (.inl (.int, 24, .inl (upd f (nI (l ++ sp_sl t i k).length).toNatClampNeg (nI (t.getD k 0))))))) (pc' := 25) d_M_take_24 rfl f1 (vp_in_nI (by omega) (by decide)) rfl ?_
    refine x_aload_n (pc' := 26) d_M_take_25 rfl rfl ?_
    refine x_dup (pc' := 27) d_M_take_26 rfl rfl ?_
    refine x_getfield (ci := 4) (i := 16) (v := .int (nI (l ++ sp_sl t i k).length)) (pc' := 30) d_M_take_27 rfl g_M_78 ((xl_ne (by decide)).trans h2.1) rfl ?_
    refine x_iconst (v := nI 1) (pc' := 31) d_M_take_30 rfl (by decide) ?_
    refine x_iadd (z := nI ((l ++ sp_sl t i k).length + 1)) (pc' := 32) d_M_take_31 rfl (nI_add _ _) ?_
    refine x_putfield (ci := 4) (i := 16) (h' := ((h1.set 45 (.inl (.int, 24, .inl (upd f (nI (l ++ sp_sl t i k).length).toNatClampNeg (nI (t.getD k 0)))))).set 29 (.inr (4, [.int (nI n), .ref 30, .ref 31, .ref 32, .ref 33, .ref 34, .ref 35, .ref 36, .ref 37, .ref 38, .ref 39, .ref 40, .ref 41, .ref 42, .ref 43, .ref 44, .int (nI ((l ++ sp_sl t i k).length + 1)), .ref 45, .ref 46])))) (pc' := 35) d_M_take_32 rfl (p_M_78 _ rfl) ((xl_ne (by decide)).trans h2.1) (Nat.le_of_ble_eq_true rfl) rfl rfl rfl ?_
    refine x_iinc (y := nI (k + 1)) (lo' := [.ref 29, .long (lN (sp_enc t)), .float 0, .int (nI i), .int (nI e), .int (nI (k + 1))]) (pc' := 38) d_M_take_35 rfl rfl (sp_nI_inc k) rfl ?_
    refine x_goto (t := 3) d_M_take_38 rfl ?_
    refine ih (k + 1) (by omega) (by omega) ((h1.set 45 (.inl (.int, 24, .inl (upd f (nI (l ++ sp_sl t i k).length).toNatClampNeg (nI (t.getD k 0)))))).set 29 (.inr (4, [.int (nI n), .ref 30, .ref 31, .ref 32, .ref 33, .ref 34, .ref 35, .ref 36, .ref 37, .ref 38, .ref 39, .ref 40, .ref 41, .ref 42, .ref 43, .ref 44, .int (nI ((l ++ sp_sl t i k).length + 1)), .ref 45, .ref 46]))) ⟨?_, ?_⟩ (xl_tr hf (xl_tr (xl_set (Or.inr rfl)) (xl_set (Or.inl rfl))))
    · rw [eS, sp_ln1]
      exact xl_at ((xl_ne (by decide)).trans h2.1)
    · refine ⟨_, (xl_ne (by decide)).trans (xl_at f1), fun j hj => ?_⟩
      rw [eS, sp_ln1] at hj
      rw [eS, nI_clamp (by omega)]
      by_cases ej : j = (l ++ sp_sl t i k).length
      · rw [ej, sp_upd_at, sp_gdr]
      · rw [sp_upd_ne ej, f2 j (by omega), sp_gdl (by omega)]
theorem c_M_take {L : Nat} {xs : Nat → Int32} {d : Nat} {h : xm_H} {Q : xm_Q} {t l : List Nat} (ht : sp_wl t) {i e n : Nat} (hi : i ≤ e) (he : e ≤ t.length) (hl : l.length + (e - i) ≤ 24) (hL : mL h n l) (hQ : ∀ h', mL h' n (l ++ sp_sl t i e) → xl_fr sp_LS h h' → Q none h') : xm_call L xs (d + 2) m_M_take [.ref 29, .long (lN (sp_enc t)), .int (nI i), .int (nI e)] h Q := by
  refine x_call (lo := [.ref 29, .long (lN (sp_enc t)), .float 0, .int (nI i), .int (nI e), .float 0]) (Nat.le_of_ble_eq_true rfl) rfl ?_
  refine x_iload_n (pc' := 1) d_M_take_0 rfl rfl ?_
  refine x_istore (lo' := [.ref 29, .long (lN (sp_enc t)), .float 0, .int (nI i), .int (nI e), .int (nI i)]) (pc' := 3) d_M_take_1 rfl (Nat.le_of_ble_eq_true rfl) rfl ?_
  exact l_M_take ht he hl hQ (e - i) i (by omega) (Nat.le_refl _) h (by rw [sp_sl_nil, List.append_nil]; exact hL) xl_rf
theorem l_M_ss0 {L : Nat} {xs : Nat → Int32} {d : Nat} {h : xm_H} {Q : xm_Q} {a b : List Nat} (ha : sp_wl a) (hb : sp_wl b) {n : Nat} {tk : Int32} (hO : mo h n tk) {g0 : Nat → Int32} (h44 : h[44]? = some (.inl (.int, 81, .inl g0)))
    (K : ∀ g : Nat → Int32, (∀ j, j < 81 → g j = 0) → xm_X L xs (xm_call L xs (d + 1)) m_M_subsequences (24, [.ref 29, .long (lN (sp_enc a)), .float 0, .long (lN (sp_enc b)), .float 0, .int (nI 81), .float 0, .float 0, .float 0, .float 0], [], (h.set 44 (.inl (.int, 81, .inl g))), 0, 0) Q) :
    ∀ r k, k + r = 81 → ∀ g : Nat → Int32, (∀ j, j < k → g j = 0) → xm_X L xs (xm_call L xs (d + 1)) m_M_subsequences (3, [.ref 29, .long (lN (sp_enc a)), .float 0, .long (lN (sp_enc b)), .float 0, .int (nI k), .float 0, .float 0, .float 0, .float 0], [], (h.set 44 (.inl (.int, 81, .inl g))), 0, 0) Q := by
  intro r
  induction r with
  | zero =>
    intro k hk g hg
    have hk : k = 81 := hk
    subst hk
    refine x_iload (pc' := 5) d_M_subsequences_3 rfl rfl ?_
    refine x_bipush (v := nI 81) (pc' := 7) d_M_subsequences_5 rfl (by decide) ?_
    refine x_icmpge (t := 24) (pc' := 10) d_M_subsequences_7 rfl rfl (fun _ => ?_) (fun q => absurd (nI_le (Nat.le_refl _) (by decide)) q)
    exact K g hg
  | succ r ih =>
    intro k hk g hg
    refine x_iload (pc' := 5) d_M_subsequences_3 rfl rfl ?_
    refine x_bipush (v := nI 81) (pc' := 7) d_M_subsequences_5 rfl (by decide) ?_
    refine x_icmpge (t := 24) (pc' := 10) d_M_subsequences_7 rfl rfl (fun q => absurd q (nI_ge (by omega) (by decide))) (fun _ => ?_)
    refine x_aload_n (pc' := 11) d_M_subsequences_10 rfl rfl ?_
    refine x_getfield (ci := 4) (i := 15) (v := .ref 44) (pc' := 14) d_M_subsequences_11 rfl g_M_53 ((xl_ne (by decide)).trans hO) rfl ?_
    refine x_iload (pc' := 16) d_M_subsequences_14 rfl rfl ?_
    refine x_iconst (v := 0) (pc' := 17) d_M_subsequences_16 rfl (by decide) ?_
    refine x_iastore (h' := (h.set 44 (.inl (.int, 81, .inl (upd g (nI k).toNatClampNeg 0))))) (pc' := 18) d_M_subsequences_17 rfl (xl_at h44) (vp_in_nI (by omega) (by decide)) (List.set_set ..) ?_
    refine x_iinc (y := nI (k + 1)) (lo' := [.ref 29, .long (lN (sp_enc a)), .float 0, .long (lN (sp_enc b)), .float 0, .int (nI (k + 1)), .float 0, .float 0, .float 0, .float 0]) (pc' := 21) d_M_subsequences_18 rfl rfl (sp_nI_inc k) rfl ?_
    refine x_goto (t := 3) d_M_subsequences_21 rfl ?_
    exact ih (k + 1) (by omega) _ (fun j hj => by rw [nI_clamp (by omega)]; by_cases ej : j = k; rw [ej, sp_upd_at]; rw [sp_upd_ne ej]; exact hg j (by omega))
set_option maxHeartbeats 4000000 in
theorem l_M_ss1 {L : Nat} {xs : Nat → Int32} {d : Nat} {h : xm_H} {Q : xm_Q} {a b : List Nat} (ha : sp_wl a) (hb : sp_wl b) {n : Nat} {tk : Int32} (hO : mo h n tk) {g0 : Nat → Int32} (h44 : h[44]? = some (.inl (.int, 81, .inl g0))) {i : Nat} (hia : i < a.length)
    (K : ∀ (g : Nat → Int32) (x6 x7 x8 x9 : Value), (∀ x y, i < x → x ≤ a.length → y ≤ b.length → g (9 * x + y) = nI (sp_lcs (a.drop x) (b.drop y))) → (∀ y, y ≤ b.length → g (9 * i + y) = nI (sp_lcs (a.drop i) (b.drop y))) → (∀ x, x < i → g (9 * x + b.length) = 0) → xm_X L xs (xm_call L xs (d + 1)) m_M_subsequences (158, [.ref 29, .long (lN (sp_enc a)), .float 0, .long (lN (sp_enc b)), .float 0, .int (nI i), x6, x7, x8, x9], [], (h.set 44 (.inl (.int, 81, .inl g))), 0, 0) Q) :
    ∀ s, s ≤ b.length → ∀ (g : Nat → Int32) (x7 x8 x9 : Value), (∀ x y, i < x → x ≤ a.length → y ≤ b.length → g (9 * x + y) = nI (sp_lcs (a.drop x) (b.drop y))) → (∀ y, s ≤ y → y ≤ b.length → g (9 * i + y) = nI (sp_lcs (a.drop i) (b.drop y))) → (∀ x, x < i → g (9 * x + b.length) = 0) → xm_X L xs (xm_call L xs (d + 1)) m_M_subsequences (45, [.ref 29, .long (lN (sp_enc a)), .float 0, .long (lN (sp_enc b)), .float 0, .int (nI i), .int (nI s - nI 1), x7, x8, x9], [], (h.set 44 (.inl (.int, 81, .inl g))), 0, 0) Q := by
  have a8 := ha.1
  have b8 := hb.1
  intro s
  induction s with
  | zero =>
    intro hs g x7 x8 x9 h1 h2 h3
    refine x_iload (pc' := 47) d_M_subsequences_45 rfl rfl ?_
    refine x_iflt (t := 158) (pc' := 50) d_M_subsequences_47 rfl rfl (fun _ => ?_) (fun q => absurd (by decide) q)
    exact K g _ _ _ _ h1 (fun y hy => h2 y (Nat.zero_le _) hy) h3
  | succ j ih =>
    intro hs g x7 x8 x9 h1 h2 h3
    have hjb : j < b.length := hs
    have c1 := sp_lcs8 (a := b) ha.1 (i + 1) j
    have c2 := sp_lcs8 (a := b) ha.1 i (j + 1)
    rw [show nI (j + 1) - nI 1 = nI j from pk_sub (Nat.le_add_left 1 j)]
    have S : ∀ v, v = nI (sp_lcs (a.drop i) (b.drop j)) → ∀ x7 x8 x9 : Value, xm_X L xs (xm_call L xs (d + 1)) m_M_subsequences (45, [.ref 29, .long (lN (sp_enc a)), .float 0, .long (lN (sp_enc b)), .float 0, .int (nI i), .int (nI j - nI 1), x7, x8, x9], [], (h.set 44 (.inl (.int, 81, .inl (upd g (nI (9 * i + j)).toNatClampNeg v)))), 0, 0) Q := by
      intro v hv x7 x8 x9
      refine ih (by omega) _ x7 x8 x9 (fun x y z1 z2 z3 => ?_) (fun y z1 z2 => ?_) (fun x z1 => ?_)
      · rw [nI_clamp (by omega), sp_upd_ne (by omega)]
        exact h1 x y z1 z2 z3
      · rw [nI_clamp (by omega)]
        by_cases ey : y = j
        · rw [ey, sp_upd_at, hv]
        · rw [sp_upd_ne (by omega)]
          exact h2 y (by omega) z2
      · rw [nI_clamp (by omega), sp_upd_ne (by omega)]
        exact h3 x z1
    refine x_iload (pc' := 47) d_M_subsequences_45 rfl rfl ?_
    refine x_iflt (t := 158) (pc' := 50) d_M_subsequences_47 rfl rfl (fun q => absurd q (nI_pos (by omega))) (fun _ => ?_)
    refine x_aload_n (pc' := 51) d_M_subsequences_50 rfl rfl ?_
    refine x_getfield (ci := 4) (i := 15) (v := .ref 44) (pc' := 54) d_M_subsequences_51 rfl g_M_53 ((xl_ne (by decide)).trans hO) rfl ?_
    refine x_bipush (v := nI 9) (pc' := 56) d_M_subsequences_54 rfl (by decide) ?_
    refine x_iload (pc' := 58) d_M_subsequences_56 rfl rfl ?_
    refine x_iconst (v := nI 1) (pc' := 59) d_M_subsequences_58 rfl (by decide) ?_
    refine x_iadd (z := nI (i + 1)) (pc' := 60) d_M_subsequences_59 rfl (nI_add _ _) ?_
    refine x_imul (z := nI (9 * (i + 1))) (pc' := 61) d_M_subsequences_60 rfl (pk_mul 9 (i + 1)) ?_
    refine x_iload (pc' := 63) d_M_subsequences_61 rfl rfl ?_
    refine x_iadd (z := nI (9 * (i + 1) + j)) (pc' := 64) d_M_subsequences_63 rfl (nI_add _ _) ?_
    refine x_iaload (v := nI (sp_lcs (a.drop (i + 1)) (b.drop j))) (pc' := 65) d_M_subsequences_64 rfl (xl_at h44) (vp_in_nI (by omega) (by decide)) (by rw [nI_clamp (by omega)]; exact h1 (i + 1) j (by omega) (by omega) (by omega)) ?_
    refine x_istore (lo' := [.ref 29, .long (lN (sp_enc a)), .float 0, .long (lN (sp_enc b)), .float 0, .int (nI i), .int (nI j), .int (nI (sp_lcs (a.drop (i + 1)) (b.drop j))), x8, x9]) (pc' := 67) d_M_subsequences_65 rfl (Nat.le_of_ble_eq_true rfl) rfl ?_
    refine x_aload_n (pc' := 68) d_M_subsequences_67 rfl rfl ?_
    refine x_getfield (ci := 4) (i := 15) (v := .ref 44) (pc' := 71) d_M_subsequences_68 rfl g_M_53 ((xl_ne (by decide)).trans hO) rfl ?_
    refine x_bipush (v := nI 9) (pc' := 73) d_M_subsequences_71 rfl (by decide) ?_
    refine x_iload (pc' := 75) d_M_subsequences_73 rfl rfl ?_
    refine x_imul (z := nI (9 * i)) (pc' := 76) d_M_subsequences_75 rfl (pk_mul 9 i) ?_
    refine x_iload (pc' := 78) d_M_subsequences_76 rfl rfl ?_
    refine x_iadd (z := nI (9 * i + j)) (pc' := 79) d_M_subsequences_78 rfl (nI_add _ _) ?_
    refine x_iconst (v := nI 1) (pc' := 80) d_M_subsequences_79 rfl (by decide) ?_
    refine x_iadd (z := nI (9 * i + j + 1)) (pc' := 81) d_M_subsequences_80 rfl (nI_add _ _) ?_
    refine x_iaload (v := nI (sp_lcs (a.drop i) (b.drop (j + 1)))) (pc' := 82) d_M_subsequences_81 rfl (xl_at h44) (vp_in_nI (by omega) (by decide)) (by rw [nI_clamp (by omega)]; exact h2 (j + 1) (by omega) (by omega)) ?_
    refine x_istore (lo' := [.ref 29, .long (lN (sp_enc a)), .float 0, .long (lN (sp_enc b)), .float 0, .int (nI i), .int (nI j), .int (nI (sp_lcs (a.drop (i + 1)) (b.drop j))), .int (nI (sp_lcs (a.drop i) (b.drop (j + 1)))), x9]) (pc' := 84) d_M_subsequences_82 rfl (Nat.le_of_ble_eq_true rfl) rfl ?_
    refine x_iload (pc' := 86) d_M_subsequences_84 rfl rfl ?_
    refine x_iload (pc' := 88) d_M_subsequences_86 rfl rfl ?_
    refine x_icmple (t := 96) (pc' := 91) d_M_subsequences_88 rfl rfl (fun q1 => ?_) (fun q1 => ?_)
    · refine x_iload (pc' := 98) d_M_subsequences_96 rfl rfl ?_
      refine x_istore (lo' := [.ref 29, .long (lN (sp_enc a)), .float 0, .long (lN (sp_enc b)), .float 0, .int (nI i), .int (nI j), .int (nI (sp_lcs (a.drop (i + 1)) (b.drop j))), .int (nI (sp_lcs (a.drop i) (b.drop (j + 1)))), .int (nI (sp_lcs (a.drop i) (b.drop (j + 1))))]) (pc' := 100) d_M_subsequences_98 rfl (Nat.le_of_ble_eq_true rfl) rfl ?_
      refine x_aload_n (pc' := 101) d_M_subsequences_100 rfl rfl ?_
      refine x_getfield (ci := 4) (i := 15) (v := .ref 44) (pc' := 104) d_M_subsequences_101 rfl g_M_53 ((xl_ne (by decide)).trans hO) rfl ?_
      refine x_bipush (v := nI 9) (pc' := 106) d_M_subsequences_104 rfl (by decide) ?_
      refine x_iload (pc' := 108) d_M_subsequences_106 rfl rfl ?_
      refine x_imul (z := nI (9 * i)) (pc' := 109) d_M_subsequences_108 rfl (pk_mul 9 i) ?_
      refine x_iload (pc' := 111) d_M_subsequences_109 rfl rfl ?_
      refine x_iadd (z := nI (9 * i + j)) (pc' := 112) d_M_subsequences_111 rfl (nI_add _ _) ?_
      refine x_lload_n (pc' := 113) d_M_subsequences_112 rfl rfl rfl ?_
      refine x_iload (pc' := 115) d_M_subsequences_113 rfl rfl ?_
      refine x_static (as := [.long (lN (sp_enc a)), .int (nI i)]) (r := [.int (nI (9 * i + j)), .ref 44]) (v := (some (.int (nI (a.getD i 0))))) (h' := (h.set 44 (.inl (.int, 81, .inl g)))) (st' := [.int (nI (a.getD i 0)), .int (nI (9 * i + j)), .ref 44]) (c' := 0) (s' := 0) (pc' := 118) d_M_subsequences_115 rfl c_M_70 rfl rfl (Nat.le_of_ble_eq_true rfl) (Nat.le_of_ble_eq_true rfl) (Nat.le_of_ble_eq_true rfl) (fun Q' hq => c_M_line ha hia hq) rfl rfl rfl ?_
      refine x_lload_n (pc' := 119) d_M_subsequences_118 rfl rfl rfl ?_
      refine x_iload (pc' := 121) d_M_subsequences_119 rfl rfl ?_
      refine x_static (as := [.long (lN (sp_enc b)), .int (nI j)]) (r := [.int (nI (a.getD i 0)), .int (nI (9 * i + j)), .ref 44]) (v := (some (.int (nI (b.getD j 0))))) (h' := (h.set 44 (.inl (.int, 81, .inl g)))) (st' := [.int (nI (b.getD j 0)), .int (nI (a.getD i 0)), .int (nI (9 * i + j)), .ref 44]) (c' := 0) (s' := 0) (pc' := 124) d_M_subsequences_121 rfl c_M_70 rfl rfl (Nat.le_of_ble_eq_true rfl) (Nat.le_of_ble_eq_true rfl) (Nat.le_of_ble_eq_true rfl) (fun Q' hq => c_M_line hb hjb hq) rfl rfl rfl ?_
      by_cases he : a.getD i 0 = b.getD j 0
      · refine x_icmpne (t := 149) (pc' := 127) d_M_subsequences_124 rfl rfl (fun q => absurd (by rw [he]) q) (fun _ => ?_)
        refine x_iconst (v := nI 1) (pc' := 128) d_M_subsequences_127 rfl (by decide) ?_
        refine x_aload_n (pc' := 129) d_M_subsequences_128 rfl rfl ?_
        refine x_getfield (ci := 4) (i := 15) (v := .ref 44) (pc' := 132) d_M_subsequences_129 rfl g_M_53 ((xl_ne (by decide)).trans hO) rfl ?_
        refine x_bipush (v := nI 9) (pc' := 134) d_M_subsequences_132 rfl (by decide) ?_
        refine x_iload (pc' := 136) d_M_subsequences_134 rfl rfl ?_
        refine x_iconst (v := nI 1) (pc' := 137) d_M_subsequences_136 rfl (by decide) ?_
        refine x_iadd (z := nI (i + 1)) (pc' := 138) d_M_subsequences_137 rfl (nI_add _ _) ?_
        refine x_imul (z := nI (9 * (i + 1))) (pc' := 139) d_M_subsequences_138 rfl (pk_mul 9 (i + 1)) ?_
        refine x_iload (pc' := 141) d_M_subsequences_139 rfl rfl ?_
        refine x_iadd (z := nI (9 * (i + 1) + j)) (pc' := 142) d_M_subsequences_141 rfl (nI_add _ _) ?_
        refine x_iconst (v := nI 1) (pc' := 143) d_M_subsequences_142 rfl (by decide) ?_
        refine x_iadd (z := nI (9 * (i + 1) + j + 1)) (pc' := 144) d_M_subsequences_143 rfl (nI_add _ _) ?_
        refine x_iaload (v := nI (sp_lcs (a.drop (i + 1)) (b.drop (j + 1)))) (pc' := 145) d_M_subsequences_144 rfl (xl_at h44) (vp_in_nI (by omega) (by decide)) (by rw [nI_clamp (by omega)]; exact h1 (i + 1) (j + 1) (by omega) (by omega) (by omega)) ?_
        refine x_iadd (z := nI (1 + sp_lcs (a.drop (i + 1)) (b.drop (j + 1)))) (pc' := 146) d_M_subsequences_145 rfl (nI_add _ _) ?_
        refine x_goto (t := 151) d_M_subsequences_146 rfl ?_
        refine x_iastore (h' := (h.set 44 (.inl (.int, 81, .inl (upd g (nI (9 * i + j)).toNatClampNeg (nI (1 + sp_lcs (a.drop (i + 1)) (b.drop (j + 1))))))))) (pc' := 152) d_M_subsequences_151 rfl (xl_at h44) (vp_in_nI (by omega) (by decide)) (List.set_set ..) ?_
        refine x_iinc (y := nI j - nI 1) (lo' := [.ref 29, .long (lN (sp_enc a)), .float 0, .long (lN (sp_enc b)), .float 0, .int (nI i), .int (nI j - nI 1), .int (nI (sp_lcs (a.drop (i + 1)) (b.drop j))), .int (nI (sp_lcs (a.drop i) (b.drop (j + 1)))), .int (nI (sp_lcs (a.drop i) (b.drop (j + 1))))]) (pc' := 155) d_M_subsequences_152 rfl rfl (sp_m1 j) rfl ?_
        refine x_goto (t := 45) d_M_subsequences_155 rfl ?_
        exact S _ (by rw [sp_lcs_eq hia hjb he, Nat.add_comm]) _ _ _
      · refine x_icmpne (t := 149) (pc' := 127) d_M_subsequences_124 rfl rfl (fun _ => ?_) (fun q => absurd q (fun z => he ((sp_ln_eq ha hb hia hjb).mp z)))
        refine x_iload (pc' := 151) d_M_subsequences_149 rfl rfl ?_
        refine x_iastore (h' := (h.set 44 (.inl (.int, 81, .inl (upd g (nI (9 * i + j)).toNatClampNeg (nI (sp_lcs (a.drop i) (b.drop (j + 1))))))))) (pc' := 152) d_M_subsequences_151 rfl (xl_at h44) (vp_in_nI (by omega) (by decide)) (List.set_set ..) ?_
        refine x_iinc (y := nI j - nI 1) (lo' := [.ref 29, .long (lN (sp_enc a)), .float 0, .long (lN (sp_enc b)), .float 0, .int (nI i), .int (nI j - nI 1), .int (nI (sp_lcs (a.drop (i + 1)) (b.drop j))), .int (nI (sp_lcs (a.drop i) (b.drop (j + 1)))), .int (nI (sp_lcs (a.drop i) (b.drop (j + 1))))]) (pc' := 155) d_M_subsequences_152 rfl rfl (sp_m1 j) rfl ?_
        refine x_goto (t := 45) d_M_subsequences_155 rfl ?_
        exact S _ (by rw [sp_lcs_ne hia hjb he]; by_cases z : sp_lcs (a.drop (i + 1)) (b.drop j) ≥ sp_lcs (a.drop i) (b.drop (j + 1)); rw [if_pos z]; exact congrArg nI (Nat.le_antisymm ((nI_leI (by omega) (by omega)).mp q1 |> fun w => by omega) (by have := (nI_leI (by omega) (by omega)).mp q1; omega)); rw [if_neg z]) _ _ _
    · refine x_iload (pc' := 93) d_M_subsequences_91 rfl rfl ?_
      refine x_goto (t := 98) d_M_subsequences_93 rfl ?_
      refine x_istore (lo' := [.ref 29, .long (lN (sp_enc a)), .float 0, .long (lN (sp_enc b)), .float 0, .int (nI i), .int (nI j), .int (nI (sp_lcs (a.drop (i + 1)) (b.drop j))), .int (nI (sp_lcs (a.drop i) (b.drop (j + 1)))), .int (nI (sp_lcs (a.drop (i + 1)) (b.drop j)))]) (pc' := 100) d_M_subsequences_98 rfl (Nat.le_of_ble_eq_true rfl) rfl ?_
      refine x_aload_n (pc' := 101) d_M_subsequences_100 rfl rfl ?_
      refine x_getfield (ci := 4) (i := 15) (v := .ref 44) (pc' := 104) d_M_subsequences_101 rfl g_M_53 ((xl_ne (by decide)).trans hO) rfl ?_
      refine x_bipush (v := nI 9) (pc' := 106) d_M_subsequences_104 rfl (by decide) ?_
      refine x_iload (pc' := 108) d_M_subsequences_106 rfl rfl ?_
      refine x_imul (z := nI (9 * i)) (pc' := 109) d_M_subsequences_108 rfl (pk_mul 9 i) ?_
      refine x_iload (pc' := 111) d_M_subsequences_109 rfl rfl ?_
      refine x_iadd (z := nI (9 * i + j)) (pc' := 112) d_M_subsequences_111 rfl (nI_add _ _) ?_
      refine x_lload_n (pc' := 113) d_M_subsequences_112 rfl rfl rfl ?_
      refine x_iload (pc' := 115) d_M_subsequences_113 rfl rfl ?_
      refine x_static (as := [.long (lN (sp_enc a)), .int (nI i)]) (r := [.int (nI (9 * i + j)), .ref 44]) (v := (some (.int (nI (a.getD i 0))))) (h' := (h.set 44 (.inl (.int, 81, .inl g)))) (st' := [.int (nI (a.getD i 0)), .int (nI (9 * i + j)), .ref 44]) (c' := 0) (s' := 0) (pc' := 118) d_M_subsequences_115 rfl c_M_70 rfl rfl (Nat.le_of_ble_eq_true rfl) (Nat.le_of_ble_eq_true rfl) (Nat.le_of_ble_eq_true rfl) (fun Q' hq => c_M_line ha hia hq) rfl rfl rfl ?_
      refine x_lload_n (pc' := 119) d_M_subsequences_118 rfl rfl rfl ?_
      refine x_iload (pc' := 121) d_M_subsequences_119 rfl rfl ?_
      refine x_static (as := [.long (lN (sp_enc b)), .int (nI j)]) (r := [.int (nI (a.getD i 0)), .int (nI (9 * i + j)), .ref 44]) (v := (some (.int (nI (b.getD j 0))))) (h' := (h.set 44 (.inl (.int, 81, .inl g)))) (st' := [.int (nI (b.getD j 0)), .int (nI (a.getD i 0)), .int (nI (9 * i + j)), .ref 44]) (c' := 0) (s' := 0) (pc' := 124) d_M_subsequences_121 rfl c_M_70 rfl rfl (Nat.le_of_ble_eq_true rfl) (Nat.le_of_ble_eq_true rfl) (Nat.le_of_ble_eq_true rfl) (fun Q' hq => c_M_line hb hjb hq) rfl rfl rfl ?_
      by_cases he : a.getD i 0 = b.getD j 0
      · refine x_icmpne (t := 149) (pc' := 127) d_M_subsequences_124 rfl rfl (fun q => absurd (by rw [he]) q) (fun _ => ?_)
        refine x_iconst (v := nI 1) (pc' := 128) d_M_subsequences_127 rfl (by decide) ?_
        refine x_aload_n (pc' := 129) d_M_subsequences_128 rfl rfl ?_
        refine x_getfield (ci := 4) (i := 15) (v := .ref 44) (pc' := 132) d_M_subsequences_129 rfl g_M_53 ((xl_ne (by decide)).trans hO) rfl ?_
        refine x_bipush (v := nI 9) (pc' := 134) d_M_subsequences_132 rfl (by decide) ?_
        refine x_iload (pc' := 136) d_M_subsequences_134 rfl rfl ?_
        refine x_iconst (v := nI 1) (pc' := 137) d_M_subsequences_136 rfl (by decide) ?_
        refine x_iadd (z := nI (i + 1)) (pc' := 138) d_M_subsequences_137 rfl (nI_add _ _) ?_
        refine x_imul (z := nI (9 * (i + 1))) (pc' := 139) d_M_subsequences_138 rfl (pk_mul 9 (i + 1)) ?_
        refine x_iload (pc' := 141) d_M_subsequences_139 rfl rfl ?_
        refine x_iadd (z := nI (9 * (i + 1) + j)) (pc' := 142) d_M_subsequences_141 rfl (nI_add _ _) ?_
        refine x_iconst (v := nI 1) (pc' := 143) d_M_subsequences_142 rfl (by decide) ?_
        refine x_iadd (z := nI (9 * (i + 1) + j + 1)) (pc' := 144) d_M_subsequences_143 rfl (nI_add _ _) ?_
        refine x_iaload (v := nI (sp_lcs (a.drop (i + 1)) (b.drop (j + 1)))) (pc' := 145) d_M_subsequences_144 rfl (xl_at h44) (vp_in_nI (by omega) (by decide)) (by rw [nI_clamp (by omega)]; exact h1 (i + 1) (j + 1) (by omega) (by omega) (by omega)) ?_
        refine x_iadd (z := nI (1 + sp_lcs (a.drop (i + 1)) (b.drop (j + 1)))) (pc' := 146) d_M_subsequences_145 rfl (nI_add _ _) ?_
        refine x_goto (t := 151) d_M_subsequences_146 rfl ?_
        refine x_iastore (h' := (h.set 44 (.inl (.int, 81, .inl (upd g (nI (9 * i + j)).toNatClampNeg (nI (1 + sp_lcs (a.drop (i + 1)) (b.drop (j + 1))))))))) (pc' := 152) d_M_subsequences_151 rfl (xl_at h44) (vp_in_nI (by omega) (by decide)) (List.set_set ..) ?_
        refine x_iinc (y := nI j - nI 1) (lo' := [.ref 29, .long (lN (sp_enc a)), .float 0, .long (lN (sp_enc b)), .float 0, .int (nI i), .int (nI j - nI 1), .int (nI (sp_lcs (a.drop (i + 1)) (b.drop j))), .int (nI (sp_lcs (a.drop i) (b.drop (j + 1)))), .int (nI (sp_lcs (a.drop (i + 1)) (b.drop j)))]) (pc' := 155) d_M_subsequences_152 rfl rfl (sp_m1 j) rfl ?_
        refine x_goto (t := 45) d_M_subsequences_155 rfl ?_
        exact S _ (by rw [sp_lcs_eq hia hjb he, Nat.add_comm]) _ _ _
      · refine x_icmpne (t := 149) (pc' := 127) d_M_subsequences_124 rfl rfl (fun _ => ?_) (fun q => absurd q (fun z => he ((sp_ln_eq ha hb hia hjb).mp z)))
        refine x_iload (pc' := 151) d_M_subsequences_149 rfl rfl ?_
        refine x_iastore (h' := (h.set 44 (.inl (.int, 81, .inl (upd g (nI (9 * i + j)).toNatClampNeg (nI (sp_lcs (a.drop (i + 1)) (b.drop j)))))))) (pc' := 152) d_M_subsequences_151 rfl (xl_at h44) (vp_in_nI (by omega) (by decide)) (List.set_set ..) ?_
        refine x_iinc (y := nI j - nI 1) (lo' := [.ref 29, .long (lN (sp_enc a)), .float 0, .long (lN (sp_enc b)), .float 0, .int (nI i), .int (nI j - nI 1), .int (nI (sp_lcs (a.drop (i + 1)) (b.drop j))), .int (nI (sp_lcs (a.drop i) (b.drop (j + 1)))), .int (nI (sp_lcs (a.drop (i + 1)) (b.drop j)))]) (pc' := 155) d_M_subsequences_152 rfl rfl (sp_m1 j) rfl ?_
        refine x_goto (t := 45) d_M_subsequences_155 rfl ?_
        exact S _ (by rw [sp_lcs_ne hia hjb he, if_pos (by have := mt (nI_leI (by omega) (by omega)).mpr q1; omega)]) _ _ _
theorem l_M_ss2 {L : Nat} {xs : Nat → Int32} {d : Nat} {h : xm_H} {Q : xm_Q} {a b : List Nat} (ha : sp_wl a) (hb : sp_wl b) {n : Nat} {tk : Int32} (hO : mo h n tk) {g0 : Nat → Int32} (h44 : h[44]? = some (.inl (.int, 81, .inl g0)))
    (hQ : ∀ g : Nat → Int32, (∀ x y, x ≤ a.length → y ≤ b.length → g (9 * x + y) = nI (sp_lcs (a.drop x) (b.drop y))) → Q none (h.set 44 (.inl (.int, 81, .inl g)))) :
    ∀ r, r ≤ a.length → ∀ (g : Nat → Int32) (x6 x7 x8 x9 : Value), (∀ x y, r ≤ x → x ≤ a.length → y ≤ b.length → g (9 * x + y) = nI (sp_lcs (a.drop x) (b.drop y))) → (∀ x, x < r → g (9 * x + b.length) = 0) → xm_X L xs (xm_call L xs (d + 1)) m_M_subsequences (32, [.ref 29, .long (lN (sp_enc a)), .float 0, .long (lN (sp_enc b)), .float 0, .int (nI r - nI 1), x6, x7, x8, x9], [], (h.set 44 (.inl (.int, 81, .inl g))), 0, 0) Q := by
  have a8 := ha.1
  have b8 := hb.1
  intro r
  induction r with
  | zero =>
    intro hr g x6 x7 x8 x9 h1 h2
    refine x_iload (pc' := 34) d_M_subsequences_32 rfl rfl ?_
    refine x_iflt (t := 164) (pc' := 37) d_M_subsequences_34 rfl rfl (fun _ => ?_) (fun q => absurd (by decide) q)
    exact x_return d_M_subsequences_164 rfl (hQ g (fun x y => h1 x y (Nat.zero_le _)))
  | succ i ih =>
    intro hr g x6 x7 x8 x9 h1 h2
    rw [show nI (i + 1) - nI 1 = nI i from pk_sub (Nat.le_add_left 1 i)]
    refine x_iload (pc' := 34) d_M_subsequences_32 rfl rfl ?_
    refine x_iflt (t := 164) (pc' := 37) d_M_subsequences_34 rfl rfl (fun q => absurd q (nI_pos (by omega))) (fun _ => ?_)
    refine x_lload_n (pc' := 38) d_M_subsequences_37 rfl rfl rfl ?_
    refine x_static (as := [.long (lN (sp_enc b))]) (r := []) (v := (some (.int (nI b.length)))) (h' := (h.set 44 (.inl (.int, 81, .inl g)))) (st' := [.int (nI b.length)]) (c' := 0) (s' := 0) (pc' := 41) d_M_subsequences_38 rfl c_M_66 rfl rfl (Nat.le_of_ble_eq_true rfl) (Nat.le_of_ble_eq_true rfl) (Nat.le_of_ble_eq_true rfl) (fun Q' hq => c_M_size hb hq) rfl rfl rfl ?_
    refine x_iconst (v := nI 1) (pc' := 42) d_M_subsequences_41 rfl (by decide) ?_
    refine x_isub (z := nI b.length - nI 1) (pc' := 43) d_M_subsequences_42 rfl rfl ?_
    refine x_istore (lo' := [.ref 29, .long (lN (sp_enc a)), .float 0, .long (lN (sp_enc b)), .float 0, .int (nI i), .int (nI b.length - nI 1), x7, x8, x9]) (pc' := 45) d_M_subsequences_43 rfl (Nat.le_of_ble_eq_true rfl) rfl ?_
    refine l_M_ss1 ha hb hO h44 hr (fun g' y6 y7 y8 y9 k1 k2 k3 => ?_) b.length (Nat.le_refl _) g _ _ _ (fun x y z1 z2 z3 => h1 x y z1 z2 z3) (fun y z1 z2 => ?_) (fun x z1 => h2 x (by omega))
    · refine x_iinc (y := nI i - nI 1) (lo' := [.ref 29, .long (lN (sp_enc a)), .float 0, .long (lN (sp_enc b)), .float 0, .int (nI i - nI 1), y6, y7, y8, y9]) (pc' := 161) d_M_subsequences_158 rfl rfl (sp_m1 i) rfl ?_
      refine x_goto (t := 32) d_M_subsequences_161 rfl ?_
      exact ih (by omega) g' _ _ _ _ (fun x y z1 z2 z3 => by rcases Nat.lt_or_eq_of_le z1 with z | z; exact k1 x y z z2 z3; subst z; exact k2 y z3) k3
    · have ey : y = b.length := by omega
      rw [ey, h2 i (Nat.lt_succ_self _), List.drop_length, sp_lcs_nil]
      rfl
theorem c_M_subsequences {L : Nat} {xs : Nat → Int32} {d : Nat} {h : xm_H} {Q : xm_Q} {a b : List Nat} (ha : sp_wl a) (hb : sp_wl b) {n : Nat} {tk : Int32} (hO : mo h n tk) {g0 : Nat → Int32} (h44 : h[44]? = some (.inl (.int, 81, .inl g0))) (hQ : ∀ g : Nat → Int32, (∀ x y, x ≤ a.length → y ≤ b.length → g (9 * x + y) = nI (sp_lcs (a.drop x) (b.drop y))) → Q none (h.set 44 (.inl (.int, 81, .inl g)))) : xm_call L xs (d + 2) m_M_subsequences [.ref 29, .long (lN (sp_enc a)), .long (lN (sp_enc b))] h Q := by
  have a8 := ha.1
  have b8 := hb.1
  refine x_call (lo := [.ref 29, .long (lN (sp_enc a)), .float 0, .long (lN (sp_enc b)), .float 0, .float 0, .float 0, .float 0, .float 0, .float 0]) (Nat.le_of_ble_eq_true rfl) rfl ?_
  refine x_iconst (v := nI 0) (pc' := 1) d_M_subsequences_0 rfl (by decide) ?_
  refine x_istore (lo' := [.ref 29, .long (lN (sp_enc a)), .float 0, .long (lN (sp_enc b)), .float 0, .int (nI 0), .float 0, .float 0, .float 0, .float 0]) (pc' := 3) d_M_subsequences_1 rfl (Nat.le_of_ble_eq_true rfl) rfl ?_
  have hs : h = (h.set 44 (.inl (.int, 81, .inl g0))) := (xl_self h44).symm
  rw [hs]
  refine l_M_ss0 ha hb hO h44 (fun g hg => ?_) 81 0 rfl g0 (fun j hj => absurd hj (Nat.not_lt_zero j))
  refine x_lload_n (pc' := 25) d_M_subsequences_24 rfl rfl rfl ?_
  refine x_static (as := [.long (lN (sp_enc a))]) (r := []) (v := (some (.int (nI a.length)))) (h' := (h.set 44 (.inl (.int, 81, .inl g)))) (st' := [.int (nI a.length)]) (c' := 0) (s' := 0) (pc' := 28) d_M_subsequences_25 rfl c_M_66 rfl rfl (Nat.le_of_ble_eq_true rfl) (Nat.le_of_ble_eq_true rfl) (Nat.le_of_ble_eq_true rfl) (fun Q' hq => c_M_size ha hq) rfl rfl rfl ?_
  refine x_iconst (v := nI 1) (pc' := 29) d_M_subsequences_28 rfl (by decide) ?_
  refine x_isub (z := nI a.length - nI 1) (pc' := 30) d_M_subsequences_29 rfl rfl ?_
  refine x_istore (lo' := [.ref 29, .long (lN (sp_enc a)), .float 0, .long (lN (sp_enc b)), .float 0, .int (nI a.length - nI 1), .float 0, .float 0, .float 0, .float 0]) (pc' := 32) d_M_subsequences_30 rfl (Nat.le_of_ble_eq_true rfl) rfl ?_
  refine l_M_ss2 ha hb hO h44 hQ a.length (Nat.le_refl _) g _ _ _ _ (fun x y z1 z2 z3 => ?_) (fun x hx => hg _ (by omega))
  have ex : x = a.length := by omega
  rw [ex, List.drop_length, hg _ (by omega)]
  rfl
set_option maxHeartbeats 4000000 in
theorem l_M_matched {L : Nat} {xs : Nat → Int32} {d : Nat} {h : xm_H} {Q : xm_Q} {a b : List Nat} (ha : sp_wl a) (hb : sp_wl b) {n : Nat} {tk : Int32} (hO : mo h n tk) {g : Nat → Int32} (h44 : h[44]? = some (.inl (.int, 81, .inl g))) {k : Nat} {v : Int32} (hka : k < a.length) (hg : ∀ x y, x ≤ a.length → y ≤ b.length → g (9 * x + y) = nI (sp_lcs (a.drop x) (b.drop y))) (hQ : Q (some (.int v)) h) :
    ∀ r i j, (a.length - i) + (b.length - j) ≤ r → i ≤ a.length → j ≤ b.length → ((i ≤ k → v = sp_mv1 ((sp_mt (a.drop i) (b.drop j) j).getD (k - i) none)) ∧ (k < i → v = -1)) → xm_X L xs (xm_call L xs (d + 2)) m_M_matched (12, [.ref 29, .long (lN (sp_enc a)), .float 0, .long (lN (sp_enc b)), .float 0, .int (nI k), .int (nI i), .int (nI j)], [], h, 0, 0) Q := by
  have a8 := ha.1
  have b8 := hb.1
  intro r
  induction r with
  | zero =>
    intro i j hr hi hj hv
    have e1 : i = a.length := by omega
    subst e1
    refine x_iload (pc' := 14) d_M_matched_12 rfl rfl ?_
    refine x_lload_n (pc' := 15) d_M_matched_14 rfl rfl rfl ?_
    refine x_static (as := [.long (lN (sp_enc a))]) (r := [.int (nI a.length)]) (v := (some (.int (nI a.length)))) (h' := h) (st' := [.int (nI a.length), .int (nI a.length)]) (c' := 0) (s' := 0) (pc' := 18) d_M_matched_15 rfl c_M_66 rfl rfl (Nat.le_of_ble_eq_true rfl) (Nat.le_of_ble_eq_true rfl) (Nat.le_of_ble_eq_true rfl) (fun Q' hq => c_M_size ha hq) rfl rfl rfl ?_
    refine x_icmpge (t := 109) (pc' := 21) d_M_matched_18 rfl rfl (fun _ => ?_) (fun q => absurd (nI_le (Nat.le_refl _) (by omega)) q)
    refine x_iconst (v := (-1)) (pc' := 110) d_M_matched_109 rfl (by decide) ?_
    exact x_ireturn d_M_matched_110 rfl rfl (x_q (hv.2 (by omega)) hQ)
  | succ r ih =>
    intro i j hr hi hj hv
    have c1 := sp_lcs8 (a := b) ha.1 (i + 1) j
    have c2 := sp_lcs8 (a := b) ha.1 i (j + 1)
    refine x_iload (pc' := 14) d_M_matched_12 rfl rfl ?_
    refine x_lload_n (pc' := 15) d_M_matched_14 rfl rfl rfl ?_
    refine x_static (as := [.long (lN (sp_enc a))]) (r := [.int (nI i)]) (v := (some (.int (nI a.length)))) (h' := h) (st' := [.int (nI a.length), .int (nI i)]) (c' := 0) (s' := 0) (pc' := 18) d_M_matched_15 rfl c_M_66 rfl rfl (Nat.le_of_ble_eq_true rfl) (Nat.le_of_ble_eq_true rfl) (Nat.le_of_ble_eq_true rfl) (fun Q' hq => c_M_size ha hq) rfl rfl rfl ?_
    by_cases hia : i < a.length
    · refine x_icmpge (t := 109) (pc' := 21) d_M_matched_18 rfl rfl (fun q => absurd q (nI_ge hia (by omega))) (fun _ => ?_)
      refine x_iload (pc' := 23) d_M_matched_21 rfl rfl ?_
      refine x_lload_n (pc' := 24) d_M_matched_23 rfl rfl rfl ?_
      refine x_static (as := [.long (lN (sp_enc b))]) (r := [.int (nI j)]) (v := (some (.int (nI b.length)))) (h' := h) (st' := [.int (nI b.length), .int (nI j)]) (c' := 0) (s' := 0) (pc' := 27) d_M_matched_24 rfl c_M_66 rfl rfl (Nat.le_of_ble_eq_true rfl) (Nat.le_of_ble_eq_true rfl) (Nat.le_of_ble_eq_true rfl) (fun Q' hq => c_M_size hb hq) rfl rfl rfl ?_
      by_cases hjb : j < b.length
      · refine x_icmpge (t := 109) (pc' := 30) d_M_matched_27 rfl rfl (fun q => absurd q (nI_ge hjb (by omega))) (fun _ => ?_)
        refine x_lload_n (pc' := 31) d_M_matched_30 rfl rfl rfl ?_
        refine x_iload (pc' := 33) d_M_matched_31 rfl rfl ?_
        refine x_static (as := [.long (lN (sp_enc a)), .int (nI i)]) (r := []) (v := (some (.int (nI (a.getD i 0))))) (h' := h) (st' := [.int (nI (a.getD i 0))]) (c' := 0) (s' := 0) (pc' := 36) d_M_matched_33 rfl c_M_70 rfl rfl (Nat.le_of_ble_eq_true rfl) (Nat.le_of_ble_eq_true rfl) (Nat.le_of_ble_eq_true rfl) (fun Q' hq => c_M_line ha hia hq) rfl rfl rfl ?_
        refine x_lload_n (pc' := 37) d_M_matched_36 rfl rfl rfl ?_
        refine x_iload (pc' := 39) d_M_matched_37 rfl rfl ?_
        refine x_static (as := [.long (lN (sp_enc b)), .int (nI j)]) (r := [.int (nI (a.getD i 0))]) (v := (some (.int (nI (b.getD j 0))))) (h' := h) (st' := [.int (nI (b.getD j 0)), .int (nI (a.getD i 0))]) (c' := 0) (s' := 0) (pc' := 42) d_M_matched_39 rfl c_M_70 rfl rfl (Nat.le_of_ble_eq_true rfl) (Nat.le_of_ble_eq_true rfl) (Nat.le_of_ble_eq_true rfl) (fun Q' hq => c_M_line hb hjb hq) rfl rfl rfl ?_
        by_cases he : a.getD i 0 = b.getD j 0
        · have em := sp_mt_eq hia hjb he
          refine x_icmpne (t := 64) (pc' := 45) d_M_matched_42 rfl rfl (fun q => absurd (by rw [he]) q) (fun _ => ?_)
          refine x_iload (pc' := 47) d_M_matched_45 rfl rfl ?_
          refine x_iload (pc' := 49) d_M_matched_47 rfl rfl ?_
          by_cases eik : i = k
          · refine x_icmpne (t := 55) (pc' := 52) d_M_matched_49 rfl rfl (fun q => absurd (by rw [eik]) q) (fun _ => ?_)
            refine x_iload (pc' := 54) d_M_matched_52 rfl rfl ?_
            exact x_ireturn d_M_matched_54 rfl rfl (x_q (by rw [hv.1 (by omega), em, eik, Nat.sub_self]; rfl) hQ)
          · refine x_icmpne (t := 55) (pc' := 52) d_M_matched_49 rfl rfl (fun _ => ?_) (fun q => absurd q (fun z => eik (sp_nI_inj (by omega) (by omega) z)))
            refine x_iinc (y := nI (i + 1)) (lo' := [.ref 29, .long (lN (sp_enc a)), .float 0, .long (lN (sp_enc b)), .float 0, .int (nI k), .int (nI (i + 1)), .int (nI j)]) (pc' := 58) d_M_matched_55 rfl rfl (sp_nI_inc i) rfl ?_
            refine x_iinc (y := nI (j + 1)) (lo' := [.ref 29, .long (lN (sp_enc a)), .float 0, .long (lN (sp_enc b)), .float 0, .int (nI k), .int (nI (i + 1)), .int (nI (j + 1))]) (pc' := 61) d_M_matched_58 rfl rfl (sp_nI_inc j) rfl ?_
            refine x_goto (t := 12) d_M_matched_61 rfl ?_
            exact ih (i + 1) (j + 1) (by omega) (by omega) (by omega) ⟨fun z => by rw [hv.1 (by omega), em, show k - i = (k - (i + 1)) + 1 by omega]; rfl, fun z => hv.2 (by omega)⟩
        · refine x_icmpne (t := 64) (pc' := 45) d_M_matched_42 rfl rfl (fun _ => ?_) (fun q => absurd q (fun z => he ((sp_ln_eq ha hb hia hjb).mp z)))
          refine x_aload_n (pc' := 65) d_M_matched_64 rfl rfl ?_
          refine x_getfield (ci := 4) (i := 15) (v := .ref 44) (pc' := 68) d_M_matched_65 rfl g_M_53 hO rfl ?_
          refine x_bipush (v := nI 9) (pc' := 70) d_M_matched_68 rfl (by decide) ?_
          refine x_iload (pc' := 72) d_M_matched_70 rfl rfl ?_
          refine x_iconst (v := nI 1) (pc' := 73) d_M_matched_72 rfl (by decide) ?_
          refine x_iadd (z := nI (i + 1)) (pc' := 74) d_M_matched_73 rfl (nI_add _ _) ?_
          refine x_imul (z := nI (9 * (i + 1))) (pc' := 75) d_M_matched_74 rfl (pk_mul 9 (i + 1)) ?_
          refine x_iload (pc' := 77) d_M_matched_75 rfl rfl ?_
          refine x_iadd (z := nI (9 * (i + 1) + j)) (pc' := 78) d_M_matched_77 rfl (nI_add _ _) ?_
          refine x_iaload (v := nI (sp_lcs (a.drop (i + 1)) (b.drop j))) (pc' := 79) d_M_matched_78 rfl h44 (vp_in_nI (by omega) (by decide)) (by rw [nI_clamp (by omega)]; exact hg (i + 1) j (by omega) (by omega)) ?_
          refine x_aload_n (pc' := 80) d_M_matched_79 rfl rfl ?_
          refine x_getfield (ci := 4) (i := 15) (v := .ref 44) (pc' := 83) d_M_matched_80 rfl g_M_53 hO rfl ?_
          refine x_bipush (v := nI 9) (pc' := 85) d_M_matched_83 rfl (by decide) ?_
          refine x_iload (pc' := 87) d_M_matched_85 rfl rfl ?_
          refine x_imul (z := nI (9 * i)) (pc' := 88) d_M_matched_87 rfl (pk_mul 9 i) ?_
          refine x_iload (pc' := 90) d_M_matched_88 rfl rfl ?_
          refine x_iadd (z := nI (9 * i + j)) (pc' := 91) d_M_matched_90 rfl (nI_add _ _) ?_
          refine x_iconst (v := nI 1) (pc' := 92) d_M_matched_91 rfl (by decide) ?_
          refine x_iadd (z := nI (9 * i + j + 1)) (pc' := 93) d_M_matched_92 rfl (nI_add _ _) ?_
          refine x_iaload (v := nI (sp_lcs (a.drop i) (b.drop (j + 1)))) (pc' := 94) d_M_matched_93 rfl h44 (vp_in_nI (by omega) (by decide)) (by rw [nI_clamp (by omega)]; exact hg i (j + 1) (by omega) (by omega)) ?_
          by_cases hge : sp_lcs (a.drop (i + 1)) (b.drop j) ≥ sp_lcs (a.drop i) (b.drop (j + 1))
          · have em := sp_mt_up hia hjb he hge
            refine x_icmplt (t := 103) (pc' := 97) d_M_matched_94 rfl rfl (fun q => absurd q (nI_nlt hge (by omega))) (fun _ => ?_)
            refine x_iinc (y := nI (i + 1)) (lo' := [.ref 29, .long (lN (sp_enc a)), .float 0, .long (lN (sp_enc b)), .float 0, .int (nI k), .int (nI (i + 1)), .int (nI j)]) (pc' := 100) d_M_matched_97 rfl rfl (sp_nI_inc i) rfl ?_
            refine x_goto (t := 12) d_M_matched_100 rfl ?_
            refine ih (i + 1) j (by omega) (by omega) (by omega) ⟨fun z => ?_, fun z => ?_⟩
            · rw [hv.1 (by omega), em, show k - i = (k - (i + 1)) + 1 by omega]; rfl
            · by_cases eik : i = k
              · rw [hv.1 (by omega), em, eik, Nat.sub_self]; rfl
              · exact hv.2 (by omega)
          · have em := sp_mt_right hia hjb he hge
            refine x_icmplt (t := 103) (pc' := 97) d_M_matched_94 rfl rfl (fun _ => ?_) (fun q => absurd (nI_lt (by omega) (by omega)) q)
            refine x_iinc (y := nI (j + 1)) (lo' := [.ref 29, .long (lN (sp_enc a)), .float 0, .long (lN (sp_enc b)), .float 0, .int (nI k), .int (nI i), .int (nI (j + 1))]) (pc' := 106) d_M_matched_103 rfl rfl (sp_nI_inc j) rfl ?_
            refine x_goto (t := 12) d_M_matched_106 rfl ?_
            exact ih i (j + 1) (by omega) (by omega) (by omega) ⟨fun z => by rw [hv.1 z, em], hv.2⟩
      · have hend : j = b.length → v = -1 := fun ej => by
          by_cases z : i ≤ k
          · rw [hv.1 z, ej, List.drop_length, sp_mt_nil]; rfl
          · exact hv.2 (by omega)
        refine x_icmpge (t := 109) (pc' := 30) d_M_matched_27 rfl rfl (fun _ => ?_) (fun q => absurd (nI_le (by omega) (by omega)) q)
        refine x_iconst (v := (-1)) (pc' := 110) d_M_matched_109 rfl (by decide) ?_
        exact x_ireturn d_M_matched_110 rfl rfl (x_q (hend (by omega)) hQ)
    · refine x_icmpge (t := 109) (pc' := 21) d_M_matched_18 rfl rfl (fun _ => ?_) (fun q => absurd (nI_le (by omega) (by omega)) q)
      refine x_iconst (v := (-1)) (pc' := 110) d_M_matched_109 rfl (by decide) ?_
      exact x_ireturn d_M_matched_110 rfl rfl (x_q (hv.2 (by omega)) hQ)
theorem c_M_matched {L : Nat} {xs : Nat → Int32} {d : Nat} {h : xm_H} {Q : xm_Q} {a b : List Nat} (ha : sp_wl a) (hb : sp_wl b) {n : Nat} {tk : Int32} (hO : mo h n tk) {g0 : Nat → Int32} (h44 : h[44]? = some (.inl (.int, 81, .inl g0))) {k : Nat} (hka : k < a.length) (hQ : ∀ g : Nat → Int32, Q (some (.int (sp_mv1 ((sp_mt a b 0).getD k none)))) (h.set 44 (.inl (.int, 81, .inl g)))) : xm_call L xs (d + 3) m_M_matched [.ref 29, .long (lN (sp_enc a)), .long (lN (sp_enc b)), .int (nI k)] h Q := by
  refine x_call (lo := [.ref 29, .long (lN (sp_enc a)), .float 0, .long (lN (sp_enc b)), .float 0, .int (nI k), .float 0, .float 0]) (Nat.le_of_ble_eq_true rfl) rfl ?_
  refine x_iconst (v := nI 0) (pc' := 1) d_M_matched_0 rfl (by decide) ?_
  refine x_istore (lo' := [.ref 29, .long (lN (sp_enc a)), .float 0, .long (lN (sp_enc b)), .float 0, .int (nI k), .int (nI 0), .float 0]) (pc' := 3) d_M_matched_1 rfl (Nat.le_of_ble_eq_true rfl) rfl ?_
  refine x_iconst (v := nI 0) (pc' := 4) d_M_matched_3 rfl (by decide) ?_
  refine x_istore (lo' := [.ref 29, .long (lN (sp_enc a)), .float 0, .long (lN (sp_enc b)), .float 0, .int (nI k), .int (nI 0), .int (nI 0)]) (pc' := 6) d_M_matched_4 rfl (Nat.le_of_ble_eq_true rfl) rfl ?_
  refine x_aload_n (pc' := 7) d_M_matched_6 rfl rfl ?_
  refine x_lload_n (pc' := 8) d_M_matched_7 rfl rfl rfl ?_
  refine x_lload_n (pc' := 9) d_M_matched_8 rfl rfl rfl ?_
  refine x_virtualR (a := 29) (as := [.long (lN (sp_enc a)), .long (lN (sp_enc b))]) (r := []) (Post := fun v h9 => v = none ∧ ∃ g : Nat → Int32, (∀ x y, x ≤ a.length → y ≤ b.length → g (9 * x + y) = nI (sp_lcs (a.drop x) (b.drop y))) ∧ h9 = (h.set 44 (.inl (.int, 81, .inl g)))) (c' := 0) (s' := 0) (pc' := 12) d_M_matched_9 rfl c_M_74 hO rfl rfl (Nat.le_of_ble_eq_true rfl) (Nat.le_of_ble_eq_true rfl) (Nat.le_of_ble_eq_true rfl) (fun Q' hq => c_M_subsequences ha hb hO h44 (fun g hg => hq none _ ⟨rfl, g, hg, rfl⟩)) rfl rfl (fun v9 h1 hp => ?_)
  obtain ⟨rfl, g, hg, rfl⟩ := hp
  exact l_M_matched ha hb ((xl_ne (by decide)).trans hO) (xl_at h44) hka hg (hQ g) (a.length + b.length) 0 0 (by omega) (by omega) (by omega) ⟨fun _ => rfl, fun z => absurd z (Nat.not_lt_zero k)⟩
