/-! Texts united piece by piece; contracts of uniteTexts and uniteSnapshots. (Printed by c_unite.py.) -/
def sp_mtB (M : List (Option Nat)) (j n : Nat) : Prop := ∀ k x, M.getD k none = some x → j ≤ x ∧ x < j + n ∧ ∀ k' x', k < k' → M.getD k' none = some x' → x < x'
theorem sp_mtB_cons {M : List (Option Nat)} {j n : Nat} (h : sp_mtB M (j + 1) n) : sp_mtB (some j :: M) j (n + 1) := by
  intro k x hk
  cases k with
  | zero =>
    rw [List.getD_cons_zero] at hk
    cases hk
    refine ⟨Nat.le_refl _, by omega, fun k' x' h1 h2 => ?_⟩
    cases k' with
    | zero => omega
    | succ k' =>
      rw [List.getD_cons_succ] at h2
      exact (h k' x' h2).1
  | succ k =>
    rw [List.getD_cons_succ] at hk
    obtain ⟨h1, h2, h3⟩ := h k x hk
    refine ⟨by omega, by omega, fun k' x' h4 h5 => ?_⟩
    cases k' with
    | zero => omega
    | succ k' =>
      rw [List.getD_cons_succ] at h5
      exact h3 k' x' (by omega) h5
theorem sp_mtB_none {M : List (Option Nat)} {j n : Nat} (h : sp_mtB M j n) : sp_mtB (none :: M) j n := by
  intro k x hk
  cases k with
  | zero => cases hk
  | succ k =>
    rw [List.getD_cons_succ] at hk
    obtain ⟨h1, h2, h3⟩ := h k x hk
    refine ⟨h1, h2, fun k' x' h4 h5 => ?_⟩
    cases k' with
    | zero => omega
    | succ k' =>
      rw [List.getD_cons_succ] at h5
      exact h3 k' x' (by omega) h5
theorem sp_mtB_r {M : List (Option Nat)} {j n : Nat} (h : sp_mtB M (j + 1) n) : sp_mtB M j (n + 1) := fun k x hk => ⟨by have := (h k x hk).1; omega, by have := (h k x hk).2.1; omega, (h k x hk).2.2⟩
theorem sp_mt_B : ∀ (xs ys : List Nat) (j : Nat), sp_mtB (sp_mt xs ys j) j ys.length
  | [], _, _ => fun k x hk => by simp [sp_mt] at hk
  | x :: xs, [], j => sp_mtB_none (sp_mt_B xs [] j)
  | x :: xs, y :: ys, j => by
    show sp_mtB (if x = y then some j :: sp_mt xs ys (j + 1) else if sp_lcs xs (y :: ys) ≥ sp_lcs (x :: xs) ys then none :: sp_mt xs (y :: ys) j else sp_mt (x :: xs) ys (j + 1)) j (ys.length + 1)
    split
    · exact sp_mtB_cons (sp_mt_B xs ys (j + 1))
    · split
      · exact sp_mtB_none (sp_mt_B xs (y :: ys) j)
      · exact sp_mtB_r (sp_mt_B (x :: xs) ys (j + 1))
termination_by xs ys => xs.length + ys.length
def sp_cgo (o a b : List Nat) (ma mb : List (Option Nat)) : Nat → Nat → Nat → Nat → Nat → Option (List Nat) → Option (List Nat)
  | 0, k, i, p, q, R => sp_join R (sp_take (sp_sl o i k) (sp_sl a p a.length) (sp_sl b q b.length))
  | r + 1, k, i, p, q, R => match ma.getD k none, mb.getD k none with
    | some x, some y => sp_cgo o a b ma mb r (k + 1) (k + 1) (x + 1) (y + 1) (sp_join (sp_join R (sp_take (sp_sl o i k) (sp_sl a p x) (sp_sl b q y))) (some [o.getD k 0]))
    | _, _ => sp_cgo o a b ma mb r (k + 1) i p q R
theorem sp_cgo_1 {o a b : List Nat} {ma mb : List (Option Nat)} {r k i p q : Nat} {R : Option (List Nat)} (h1 : ma.getD k none = none) : sp_cgo o a b ma mb (r + 1) k i p q R = sp_cgo o a b ma mb r (k + 1) i p q R := by
  conv => lhs; unfold sp_cgo
  rw [h1]
theorem sp_cgo_2 {o a b : List Nat} {ma mb : List (Option Nat)} {r k i p q : Nat} {R : Option (List Nat)} {x : Nat} (h1 : ma.getD k none = some x) (h2 : mb.getD k none = none) : sp_cgo o a b ma mb (r + 1) k i p q R = sp_cgo o a b ma mb r (k + 1) i p q R := by
  conv => lhs; unfold sp_cgo
  rw [h1, h2]
theorem sp_cgo_3 {o a b : List Nat} {ma mb : List (Option Nat)} {r k i p q : Nat} {R : Option (List Nat)} {x y : Nat} (h1 : ma.getD k none = some x) (h2 : mb.getD k none = some y) : sp_cgo o a b ma mb (r + 1) k i p q R = sp_cgo o a b ma mb r (k + 1) (k + 1) (x + 1) (y + 1) (sp_join (sp_join R (sp_take (sp_sl o i k) (sp_sl a p x) (sp_sl b q y))) (some [o.getD k 0])) := by
  conv => lhs; unfold sp_cgo
  rw [h1, h2]
theorem sp_go_1 {o a b : List Nat} {ma mb : List (Option Nat)} {r k i p q : Nat} {R : List Nat} (h1 : ma.getD k none = none) : sp_go o a b ma mb (r + 1) k i p q R = sp_go o a b ma mb r (k + 1) i p q R := by
  conv => lhs; unfold sp_go
  rw [h1]
theorem sp_go_2 {o a b : List Nat} {ma mb : List (Option Nat)} {r k i p q : Nat} {R : List Nat} {x : Nat} (h1 : ma.getD k none = some x) (h2 : mb.getD k none = none) : sp_go o a b ma mb (r + 1) k i p q R = sp_go o a b ma mb r (k + 1) i p q R := by
  conv => lhs; unfold sp_go
  rw [h1, h2]
theorem sp_go_3 {o a b : List Nat} {ma mb : List (Option Nat)} {r k i p q : Nat} {R : List Nat} {x y : Nat} (h1 : ma.getD k none = some x) (h2 : mb.getD k none = some y) : sp_go o a b ma mb (r + 1) k i p q R = (sp_take (sp_sl o i k) (sp_sl a p x) (sp_sl b q y)).bind fun t => sp_go o a b ma mb r (k + 1) (k + 1) (x + 1) (y + 1) (R ++ t ++ [o.getD k 0]) := by
  conv => lhs; unfold sp_go
  rw [h1, h2]
def sp_lim (t : List Nat) : Option (List Nat) := if t.length ≤ 8 then some t else none
theorem sp_join_none (R : Option (List Nat)) : sp_join R none = none := by cases R <;> rfl
theorem sp_join_lim (acc t : List Nat) : sp_join (sp_lim acc) (some t) = sp_lim (acc ++ t) := by
  unfold sp_lim
  rw [List.length_append]
  by_cases h : acc.length ≤ 8
  · rw [if_pos h]
    rfl
  · rw [if_neg h, if_neg (by omega)]
    rfl
theorem sp_cgo_none (o a b : List Nat) (ma mb : List (Option Nat)) : ∀ r k i p q, sp_cgo o a b ma mb r k i p q none = none
  | 0, _, _, _, _ => rfl
  | r + 1, k, i, p, q => by
    unfold sp_cgo
    split
    · exact sp_cgo_none o a b ma mb r _ _ _ _
    · exact sp_cgo_none o a b ma mb r _ _ _ _
theorem sp_cgo_go (o a b : List Nat) (ma mb : List (Option Nat)) : ∀ r k i p q acc, sp_cgo o a b ma mb r k i p q (sp_lim acc) = (sp_go o a b ma mb r k i p q acc).bind sp_lim
  | 0, k, i, p, q, acc => by
    unfold sp_cgo sp_go
    cases sp_take (sp_sl o i k) (sp_sl a p a.length) (sp_sl b q b.length) with
    | none => exact sp_join_none _
    | some t => exact sp_join_lim acc t
  | r + 1, k, i, p, q, acc => by
    cases h1 : ma.getD k none with
    | none =>
      rw [sp_cgo_1 h1, sp_go_1 h1]
      exact sp_cgo_go o a b ma mb r _ _ _ _ _
    | some x =>
      cases h2 : mb.getD k none with
      | none =>
        rw [sp_cgo_2 h1 h2, sp_go_2 h1 h2]
        exact sp_cgo_go o a b ma mb r _ _ _ _ _
      | some y =>
        rw [sp_cgo_3 h1 h2, sp_go_3 h1 h2]
        cases sp_take (sp_sl o i k) (sp_sl a p x) (sp_sl b q y) with
        | none =>
          rw [sp_join_none]
          exact sp_cgo_none o a b ma mb r _ _ _ _
        | some t =>
          rw [sp_join_lim, sp_join_lim]
          exact sp_cgo_go o a b ma mb r _ _ _ _ _
theorem sp_unite_cgo (o a b : List Nat) : sp_unite o a b = sp_cgo o a b (sp_mt o a 0) (sp_mt o b 0) o.length 0 0 0 0 (some []) := (sp_cgo_go o a b (sp_mt o a 0) (sp_mt o b 0) o.length 0 0 0 0 []).symm
theorem sp_take_wt {x y z : List Nat} (hy : sp_wl y) (hz : sp_wl z) : sp_wt (sp_take x y z) := by
  intro l e
  unfold sp_take at e
  split at e
  · cases e
    exact hz
  · split at e
    · cases e
      exact hy
    · cases e
theorem sp_join_wt {a b : Option (List Nat)} (ha : sp_wt a) (hb : sp_wt b) : sp_wt (sp_join a b) := by
  intro l e
  cases a with
  | none => cases e
  | some a =>
    cases b with
    | none => cases e
    | some b =>
      unfold sp_join at e
      dsimp only at e
      split at e
      · rename_i h
        cases e
        exact sp_wl_app (ha a rfl) (hb b rfl) h
      · cases e
theorem sp_encN {x y : List Nat} (hx : sp_wl x) (hy : sp_wl y) : lN (sp_enc x) = lN (sp_enc y) ↔ x = y := by
  have h := sp_tv_inj (x := some x) (y := some y) (fun l e => by cases e; exact hx) (fun l e => by cases e; exact hy)
  exact h.trans (by simp)
theorem sp_tk_jv {x y z : List Nat} (hx : sp_wl x) (hy : sp_wl y) (hz : sp_wl z) : sp_tk (lN (sp_enc x)) (lN (sp_enc y)) (lN (sp_enc z)) = sp_jv (sp_take x y z) := by
  unfold sp_tk sp_take
  by_cases h1 : y = x
  · rw [if_pos ((sp_encN hy hx).mpr h1), if_pos h1]
    rfl
  · rw [if_neg (fun e => h1 ((sp_encN hy hx).mp e)), if_neg h1]
    by_cases h2 : z = x ∨ z = y
    · rw [if_pos (h2.elim (fun e => Or.inl ((sp_encN hz hx).mpr e)) (fun e => Or.inr ((sp_encN hz hy).mpr e))), if_pos h2]
      rfl
    · rw [if_neg (fun e => h2 (e.elim (fun e => Or.inl ((sp_encN hz hx).mp e)) (fun e => Or.inr ((sp_encN hz hy).mp e)))), if_neg h2]
      rfl
theorem sp_sl1 {t : List Nat} {k : Nat} (hk : k < t.length) : sp_sl t k (k + 1) = [t.getD k 0] := by
  unfold sp_sl
  rw [sp_getD hk, show k + 1 - k = 1 by omega]
  rfl
theorem sp_nI_m1 {x : Nat} (h : x < 2 ^ 31) : nI x ≠ -1 := by
  intro e
  have := nI_toInt h
  rw [e] at this
  have h2 : (-1 : Int32).toInt = -1 := by decide
  omega
set_option maxHeartbeats 4000000 in
theorem l_U_ut {L : Nat} {xs : Nat → Int32} {d : Nat} {Q : xm_Q} {o a b : List Nat} (ho : sp_wl o) (ha : sp_wl a) (hb : sp_wl b) {h : xm_H} (hU : ch_U0 h) {f1 f2 : Nat → Int32} (g17 : h[17]? = some (.inl (.int, 9, .inl f1))) (g18 : h[18]? = some (.inl (.int, 9, .inl f2))) (hl1 : f1 o.length = nI a.length) (hl2 : f2 o.length = nI b.length)
    (hf1 : ∀ k, k < o.length → f1 k = sp_mv1 ((sp_mt o a 0).getD k none)) (hf2 : ∀ k, k < o.length → f2 k = sp_mv1 ((sp_mt o b 0).getD k none)) :
    ∀ (r k i p q : Nat) (R : Option (List Nat)) (t1 t2 : Value), k + r = o.length → i ≤ k → p ≤ a.length → q ≤ b.length → (∀ k' x, k ≤ k' → (sp_mt o a 0).getD k' none = some x → p ≤ x) → (∀ k' x, k ≤ k' → (sp_mt o b 0).getD k' none = some x → q ≤ x) → sp_wt R → Q (some (.long (sp_jv (sp_cgo o a b (sp_mt o a 0) (sp_mt o b 0) r k i p q R)))) h →
      xm_X L xs (xm_call L xs (d + 2)) m_U_uniteTexts (55, [.ref 15, .long (lN (sp_enc o)), .float 0, .long (lN (sp_enc a)), .float 0, .long (lN (sp_enc b)), .float 0, .int (nI o.length), .int (nI i), .int (nI p), .int (nI q), .long (sp_jv R), .float 0, .int (nI k), t1, t2], [], h, 0, 0) Q := by
  have l8 := ho.1
  have a8 := ha.1
  have b8 := hb.1
  intro r
  induction r with
  | zero =>
    intro k i p q R t1 t2 hk hik hp hq hpa hqb hR hQ
    have hk : k = o.length := hk
    have e1 : f1 k = nI a.length := by rw [hk]; exact hl1
    have e2 : f2 k = nI b.length := by rw [hk]; exact hl2
    refine x_iload (pc' := 57) d_U_uniteTexts_55 rfl rfl ?_
    refine x_iload (pc' := 59) d_U_uniteTexts_57 rfl rfl ?_
    refine x_icmpgt (t := 191) (pc' := 62) d_U_uniteTexts_59 rfl rfl (fun q => absurd q (nI_nlt (by omega) (by omega))) (fun _ => ?_)
    refine x_aload_n (pc' := 63) d_U_uniteTexts_62 rfl rfl ?_
    refine x_getfield (ci := 2) (i := 1) (v := .ref 17) (pc' := 66) d_U_uniteTexts_63 rfl g_U_15 hU.1 rfl ?_
    refine x_iload (pc' := 68) d_U_uniteTexts_66 rfl rfl ?_
    refine x_iaload (v := nI a.length) (pc' := 69) d_U_uniteTexts_68 rfl g17 (vp_in_nI (by omega) (by decide)) (by rw [nI_clamp (by omega)]; exact e1) ?_
    refine x_iconst (v := (-1)) (pc' := 70) d_U_uniteTexts_69 rfl (by decide) ?_
    refine x_icmpeq (t := 185) (pc' := 73) d_U_uniteTexts_70 rfl rfl (fun q => absurd q (sp_nI_m1 (by omega))) (fun _ => ?_)
    refine x_aload_n (pc' := 74) d_U_uniteTexts_73 rfl rfl ?_
    refine x_getfield (ci := 2) (i := 2) (v := .ref 18) (pc' := 77) d_U_uniteTexts_74 rfl g_U_19 hU.1 rfl ?_
    refine x_iload (pc' := 79) d_U_uniteTexts_77 rfl rfl ?_
    refine x_iaload (v := nI b.length) (pc' := 80) d_U_uniteTexts_79 rfl g18 (vp_in_nI (by omega) (by decide)) (by rw [nI_clamp (by omega)]; exact e2) ?_
    refine x_iconst (v := (-1)) (pc' := 81) d_U_uniteTexts_80 rfl (by decide) ?_
    refine x_icmpeq (t := 185) (pc' := 84) d_U_uniteTexts_81 rfl rfl (fun q => absurd q (sp_nI_m1 (by omega))) (fun _ => ?_)
    refine x_lload_n (pc' := 85) d_U_uniteTexts_84 rfl rfl rfl ?_
    refine x_iload (pc' := 87) d_U_uniteTexts_85 rfl rfl ?_
    refine x_iload (pc' := 89) d_U_uniteTexts_87 rfl rfl ?_
    refine x_static (as := [.long (lN (sp_enc o)), .int (nI i), .int (nI k)]) (r := []) (v := (some (.long (lN (sp_enc (sp_sl o i k)))))) (h' := h) (st' := [.long (lN (sp_enc (sp_sl o i k)))]) (c' := 0) (s' := 0) (pc' := 92) d_U_uniteTexts_89 rfl c_U_58 rfl rfl (Nat.le_of_ble_eq_true rfl) (Nat.le_of_ble_eq_true rfl) (Nat.le_of_ble_eq_true rfl) (fun Q' hq => c_T_piece ho hik (by omega) hq) rfl rfl rfl ?_
    refine x_lload_n (pc' := 93) d_U_uniteTexts_92 rfl rfl rfl ?_
    refine x_iload (pc' := 95) d_U_uniteTexts_93 rfl rfl ?_
    refine x_aload_n (pc' := 96) d_U_uniteTexts_95 rfl rfl ?_
    refine x_getfield (ci := 2) (i := 1) (v := .ref 17) (pc' := 99) d_U_uniteTexts_96 rfl g_U_15 hU.1 rfl ?_
    refine x_iload (pc' := 101) d_U_uniteTexts_99 rfl rfl ?_
    refine x_iaload (v := nI a.length) (pc' := 102) d_U_uniteTexts_101 rfl g17 (vp_in_nI (by omega) (by decide)) (by rw [nI_clamp (by omega)]; exact e1) ?_
    refine x_static (as := [.long (lN (sp_enc a)), .int (nI p), .int (nI a.length)]) (r := [.long (lN (sp_enc (sp_sl o i k)))]) (v := (some (.long (lN (sp_enc (sp_sl a p a.length)))))) (h' := h) (st' := [.long (lN (sp_enc (sp_sl a p a.length))), .long (lN (sp_enc (sp_sl o i k)))]) (c' := 0) (s' := 0) (pc' := 105) d_U_uniteTexts_102 rfl c_U_58 rfl rfl (Nat.le_of_ble_eq_true rfl) (Nat.le_of_ble_eq_true rfl) (Nat.le_of_ble_eq_true rfl) (fun Q' hq => c_T_piece ha (by omega) (by omega) hq) rfl rfl rfl ?_
    refine x_lload (pc' := 107) d_U_uniteTexts_105 rfl rfl rfl ?_
    refine x_iload (pc' := 109) d_U_uniteTexts_107 rfl rfl ?_
    refine x_aload_n (pc' := 110) d_U_uniteTexts_109 rfl rfl ?_
    refine x_getfield (ci := 2) (i := 2) (v := .ref 18) (pc' := 113) d_U_uniteTexts_110 rfl g_U_19 hU.1 rfl ?_
    refine x_iload (pc' := 115) d_U_uniteTexts_113 rfl rfl ?_
    refine x_iaload (v := nI b.length) (pc' := 116) d_U_uniteTexts_115 rfl g18 (vp_in_nI (by omega) (by decide)) (by rw [nI_clamp (by omega)]; exact e2) ?_
    refine x_static (as := [.long (lN (sp_enc b)), .int (nI q), .int (nI b.length)]) (r := [.long (lN (sp_enc (sp_sl a p a.length))), .long (lN (sp_enc (sp_sl o i k)))]) (v := (some (.long (lN (sp_enc (sp_sl b q b.length)))))) (h' := h) (st' := [.long (lN (sp_enc (sp_sl b q b.length))), .long (lN (sp_enc (sp_sl a p a.length))), .long (lN (sp_enc (sp_sl o i k)))]) (c' := 0) (s' := 0) (pc' := 119) d_U_uniteTexts_116 rfl c_U_58 rfl rfl (Nat.le_of_ble_eq_true rfl) (Nat.le_of_ble_eq_true rfl) (Nat.le_of_ble_eq_true rfl) (fun Q' hq => c_T_piece hb (by omega) (by omega) hq) rfl rfl rfl ?_
    refine x_static (as := [.long (lN (sp_enc (sp_sl o i k))), .long (lN (sp_enc (sp_sl a p a.length))), .long (lN (sp_enc (sp_sl b q b.length)))]) (r := []) (v := (some (.long (sp_jv (sp_take (sp_sl o i k) (sp_sl a p a.length) (sp_sl b q b.length)))))) (h' := h) (st' := [.long (sp_jv (sp_take (sp_sl o i k) (sp_sl a p a.length) (sp_sl b q b.length)))]) (c' := 0) (s' := 0) (pc' := 122) d_U_uniteTexts_119 rfl c_U_33 rfl rfl (Nat.le_of_ble_eq_true rfl) (Nat.le_of_ble_eq_true rfl) (Nat.le_of_ble_eq_true rfl) (fun Q' hq => c_U_take (x_ql (sp_tk_jv (sp_wl_sl ho _ _) (sp_wl_sl ha _ _) (sp_wl_sl hb _ _)).symm hq)) rfl rfl rfl ?_
    refine x_lstore (lo' := [.ref 15, .long (lN (sp_enc o)), .float 0, .long (lN (sp_enc a)), .float 0, .long (lN (sp_enc b)), .float 0, .int (nI o.length), .int (nI i), .int (nI p), .int (nI q), .long (sp_jv R), .float 0, .int (nI k), .long (sp_jv (sp_take (sp_sl o i k) (sp_sl a p a.length) (sp_sl b q b.length))), .float 0]) (pc' := 124) d_U_uniteTexts_122 rfl (Nat.le_of_ble_eq_true rfl) rfl ?_
    refine x_lload (pc' := 126) d_U_uniteTexts_124 rfl rfl rfl ?_
    refine x_lload (pc' := 128) d_U_uniteTexts_126 rfl rfl rfl ?_
    refine x_static (as := [.long (sp_jv R), .long (sp_jv (sp_take (sp_sl o i k) (sp_sl a p a.length) (sp_sl b q b.length)))]) (r := []) (v := (some (.long (sp_jv (sp_join R (sp_take (sp_sl o i k) (sp_sl a p a.length) (sp_sl b q b.length))))))) (h' := h) (st' := [.long (sp_jv (sp_join R (sp_take (sp_sl o i k) (sp_sl a p a.length) (sp_sl b q b.length))))]) (c' := 0) (s' := 0) (pc' := 131) d_U_uniteTexts_128 rfl c_U_62 rfl rfl (Nat.le_of_ble_eq_true rfl) (Nat.le_of_ble_eq_true rfl) (Nat.le_of_ble_eq_true rfl) (fun Q' hq => c_T_join hR (sp_take_wt (sp_wl_sl ha _ _) (sp_wl_sl hb _ _)) hq) rfl rfl rfl ?_
    refine x_lstore (lo' := [.ref 15, .long (lN (sp_enc o)), .float 0, .long (lN (sp_enc a)), .float 0, .long (lN (sp_enc b)), .float 0, .int (nI o.length), .int (nI i), .int (nI p), .int (nI q), .long (sp_jv (sp_join R (sp_take (sp_sl o i k) (sp_sl a p a.length) (sp_sl b q b.length)))), .float 0, .int (nI k), .long (sp_jv (sp_take (sp_sl o i k) (sp_sl a p a.length) (sp_sl b q b.length))), .float 0]) (pc' := 133) d_U_uniteTexts_131 rfl (Nat.le_of_ble_eq_true rfl) rfl ?_
    refine x_iload (pc' := 135) d_U_uniteTexts_133 rfl rfl ?_
    refine x_iconst (v := nI 1) (pc' := 136) d_U_uniteTexts_135 rfl (by decide) ?_
    refine x_iadd (z := nI (k + 1)) (pc' := 137) d_U_uniteTexts_136 rfl (nI_add _ _) ?_
    refine x_istore (lo' := [.ref 15, .long (lN (sp_enc o)), .float 0, .long (lN (sp_enc a)), .float 0, .long (lN (sp_enc b)), .float 0, .int (nI o.length), .int (nI (k + 1)), .int (nI p), .int (nI q), .long (sp_jv (sp_join R (sp_take (sp_sl o i k) (sp_sl a p a.length) (sp_sl b q b.length)))), .float 0, .int (nI k), .long (sp_jv (sp_take (sp_sl o i k) (sp_sl a p a.length) (sp_sl b q b.length))), .float 0]) (pc' := 139) d_U_uniteTexts_137 rfl (Nat.le_of_ble_eq_true rfl) rfl ?_
    refine x_aload_n (pc' := 140) d_U_uniteTexts_139 rfl rfl ?_
    refine x_getfield (ci := 2) (i := 1) (v := .ref 17) (pc' := 143) d_U_uniteTexts_140 rfl g_U_15 hU.1 rfl ?_
    refine x_iload (pc' := 145) d_U_uniteTexts_143 rfl rfl ?_
    refine x_iaload (v := nI a.length) (pc' := 146) d_U_uniteTexts_145 rfl g17 (vp_in_nI (by omega) (by decide)) (by rw [nI_clamp (by omega)]; exact e1) ?_
    refine x_iconst (v := nI 1) (pc' := 147) d_U_uniteTexts_146 rfl (by decide) ?_
    refine x_iadd (z := nI (a.length + 1)) (pc' := 148) d_U_uniteTexts_147 rfl (nI_add _ _) ?_
    refine x_istore (lo' := [.ref 15, .long (lN (sp_enc o)), .float 0, .long (lN (sp_enc a)), .float 0, .long (lN (sp_enc b)), .float 0, .int (nI o.length), .int (nI (k + 1)), .int (nI (a.length + 1)), .int (nI q), .long (sp_jv (sp_join R (sp_take (sp_sl o i k) (sp_sl a p a.length) (sp_sl b q b.length)))), .float 0, .int (nI k), .long (sp_jv (sp_take (sp_sl o i k) (sp_sl a p a.length) (sp_sl b q b.length))), .float 0]) (pc' := 150) d_U_uniteTexts_148 rfl (Nat.le_of_ble_eq_true rfl) rfl ?_
    refine x_aload_n (pc' := 151) d_U_uniteTexts_150 rfl rfl ?_
    refine x_getfield (ci := 2) (i := 2) (v := .ref 18) (pc' := 154) d_U_uniteTexts_151 rfl g_U_19 hU.1 rfl ?_
    refine x_iload (pc' := 156) d_U_uniteTexts_154 rfl rfl ?_
    refine x_iaload (v := nI b.length) (pc' := 157) d_U_uniteTexts_156 rfl g18 (vp_in_nI (by omega) (by decide)) (by rw [nI_clamp (by omega)]; exact e2) ?_
    refine x_iconst (v := nI 1) (pc' := 158) d_U_uniteTexts_157 rfl (by decide) ?_
    refine x_iadd (z := nI (b.length + 1)) (pc' := 159) d_U_uniteTexts_158 rfl (nI_add _ _) ?_
    refine x_istore (lo' := [.ref 15, .long (lN (sp_enc o)), .float 0, .long (lN (sp_enc a)), .float 0, .long (lN (sp_enc b)), .float 0, .int (nI o.length), .int (nI (k + 1)), .int (nI (a.length + 1)), .int (nI (b.length + 1)), .long (sp_jv (sp_join R (sp_take (sp_sl o i k) (sp_sl a p a.length) (sp_sl b q b.length)))), .float 0, .int (nI k), .long (sp_jv (sp_take (sp_sl o i k) (sp_sl a p a.length) (sp_sl b q b.length))), .float 0]) (pc' := 161) d_U_uniteTexts_159 rfl (Nat.le_of_ble_eq_true rfl) rfl ?_
    refine x_iload (pc' := 163) d_U_uniteTexts_161 rfl rfl ?_
    refine x_iload (pc' := 165) d_U_uniteTexts_163 rfl rfl ?_
    refine x_icmpge (t := 185) (pc' := 168) d_U_uniteTexts_165 rfl rfl (fun _ => ?_) (fun q => absurd (nI_le (by omega) (by omega)) q)
    refine x_iinc (y := nI (k + 1)) (lo' := [.ref 15, .long (lN (sp_enc o)), .float 0, .long (lN (sp_enc a)), .float 0, .long (lN (sp_enc b)), .float 0, .int (nI o.length), .int (nI (k + 1)), .int (nI (a.length + 1)), .int (nI (b.length + 1)), .long (sp_jv (sp_join R (sp_take (sp_sl o i k) (sp_sl a p a.length) (sp_sl b q b.length)))), .float 0, .int (nI (k + 1)), .long (sp_jv (sp_take (sp_sl o i k) (sp_sl a p a.length) (sp_sl b q b.length))), .float 0]) (pc' := 188) d_U_uniteTexts_185 rfl rfl (sp_nI_inc k) rfl ?_
    refine x_goto (t := 55) d_U_uniteTexts_188 rfl ?_
    refine x_iload (pc' := 57) d_U_uniteTexts_55 rfl rfl ?_
    refine x_iload (pc' := 59) d_U_uniteTexts_57 rfl rfl ?_
    refine x_icmpgt (t := 191) (pc' := 62) d_U_uniteTexts_59 rfl rfl (fun _ => ?_) (fun q => absurd (nI_lt (by omega) (by omega)) q)
    refine x_lload (pc' := 193) d_U_uniteTexts_191 rfl rfl rfl ?_
    exact x_lreturn d_U_uniteTexts_193 rfl hQ
  | succ r ih =>
    intro k i p q R t1 t2 hk hik hp hq hpa hqb hR hQ
    have hkn : k < o.length := by omega
    cases h1 : (sp_mt o a 0).getD k none with
    | none =>
      refine x_iload (pc' := 57) d_U_uniteTexts_55 rfl rfl ?_
      refine x_iload (pc' := 59) d_U_uniteTexts_57 rfl rfl ?_
      refine x_icmpgt (t := 191) (pc' := 62) d_U_uniteTexts_59 rfl rfl (fun q => absurd q (nI_nlt (by omega) (by omega))) (fun _ => ?_)
      refine x_aload_n (pc' := 63) d_U_uniteTexts_62 rfl rfl ?_
      refine x_getfield (ci := 2) (i := 1) (v := .ref 17) (pc' := 66) d_U_uniteTexts_63 rfl g_U_15 hU.1 rfl ?_
      refine x_iload (pc' := 68) d_U_uniteTexts_66 rfl rfl ?_
      refine x_iaload (v := (-1)) (pc' := 69) d_U_uniteTexts_68 rfl g17 (vp_in_nI (by omega) (by decide)) (by rw [nI_clamp (by omega), hf1 k (by omega), h1]; rfl) ?_
      refine x_iconst (v := (-1)) (pc' := 70) d_U_uniteTexts_69 rfl (by decide) ?_
      refine x_icmpeq (t := 185) (pc' := 73) d_U_uniteTexts_70 rfl rfl (fun _ => ?_) (fun q => absurd rfl q)
      refine x_iinc (y := nI (k + 1)) (lo' := [.ref 15, .long (lN (sp_enc o)), .float 0, .long (lN (sp_enc a)), .float 0, .long (lN (sp_enc b)), .float 0, .int (nI o.length), .int (nI i), .int (nI p), .int (nI q), .long (sp_jv R), .float 0, .int (nI (k + 1)), t1, t2]) (pc' := 188) d_U_uniteTexts_185 rfl rfl (sp_nI_inc k) rfl ?_
      refine x_goto (t := 55) d_U_uniteTexts_188 rfl ?_
      exact ih (k + 1) i p q R _ _ (by omega) (by omega) hp hq (fun k' x h5 => hpa k' x (by omega)) (fun k' x h5 => hqb k' x (by omega)) hR (x_ql (by rw [sp_cgo_1 h1]) hQ)
    | some x =>
      obtain ⟨-, hx, hxi⟩ := sp_mt_B o a 0 k x h1
      cases h2 : (sp_mt o b 0).getD k none with
      | none =>
        refine x_iload (pc' := 57) d_U_uniteTexts_55 rfl rfl ?_
        refine x_iload (pc' := 59) d_U_uniteTexts_57 rfl rfl ?_
        refine x_icmpgt (t := 191) (pc' := 62) d_U_uniteTexts_59 rfl rfl (fun q => absurd q (nI_nlt (by omega) (by omega))) (fun _ => ?_)
        refine x_aload_n (pc' := 63) d_U_uniteTexts_62 rfl rfl ?_
        refine x_getfield (ci := 2) (i := 1) (v := .ref 17) (pc' := 66) d_U_uniteTexts_63 rfl g_U_15 hU.1 rfl ?_
        refine x_iload (pc' := 68) d_U_uniteTexts_66 rfl rfl ?_
        refine x_iaload (v := nI x) (pc' := 69) d_U_uniteTexts_68 rfl g17 (vp_in_nI (by omega) (by decide)) (by rw [nI_clamp (by omega), hf1 k (by omega), h1]; rfl) ?_
        refine x_iconst (v := (-1)) (pc' := 70) d_U_uniteTexts_69 rfl (by decide) ?_
        refine x_icmpeq (t := 185) (pc' := 73) d_U_uniteTexts_70 rfl rfl (fun q => absurd q (sp_nI_m1 (by omega))) (fun _ => ?_)
        refine x_aload_n (pc' := 74) d_U_uniteTexts_73 rfl rfl ?_
        refine x_getfield (ci := 2) (i := 2) (v := .ref 18) (pc' := 77) d_U_uniteTexts_74 rfl g_U_19 hU.1 rfl ?_
        refine x_iload (pc' := 79) d_U_uniteTexts_77 rfl rfl ?_
        refine x_iaload (v := (-1)) (pc' := 80) d_U_uniteTexts_79 rfl g18 (vp_in_nI (by omega) (by decide)) (by rw [nI_clamp (by omega), hf2 k (by omega), h2]; rfl) ?_
        refine x_iconst (v := (-1)) (pc' := 81) d_U_uniteTexts_80 rfl (by decide) ?_
        refine x_icmpeq (t := 185) (pc' := 84) d_U_uniteTexts_81 rfl rfl (fun _ => ?_) (fun q => absurd rfl q)
        refine x_iinc (y := nI (k + 1)) (lo' := [.ref 15, .long (lN (sp_enc o)), .float 0, .long (lN (sp_enc a)), .float 0, .long (lN (sp_enc b)), .float 0, .int (nI o.length), .int (nI i), .int (nI p), .int (nI q), .long (sp_jv R), .float 0, .int (nI (k + 1)), t1, t2]) (pc' := 188) d_U_uniteTexts_185 rfl rfl (sp_nI_inc k) rfl ?_
        refine x_goto (t := 55) d_U_uniteTexts_188 rfl ?_
        exact ih (k + 1) i p q R _ _ (by omega) (by omega) hp hq (fun k' x h5 => hpa k' x (by omega)) (fun k' x h5 => hqb k' x (by omega)) hR (x_ql (by rw [sp_cgo_2 h1 h2]) hQ)
      | some y =>
        obtain ⟨-, hy, hyi⟩ := sp_mt_B o b 0 k y h2
        have px := hpa k x (Nat.le_refl _) h1
        have qy := hqb k y (Nat.le_refl _) h2
        have e1 : f1 k = nI x := by rw [hf1 k hkn, h1]; rfl
        have e2 : f2 k = nI y := by rw [hf2 k hkn, h2]; rfl
        refine x_iload (pc' := 57) d_U_uniteTexts_55 rfl rfl ?_
        refine x_iload (pc' := 59) d_U_uniteTexts_57 rfl rfl ?_
        refine x_icmpgt (t := 191) (pc' := 62) d_U_uniteTexts_59 rfl rfl (fun q => absurd q (nI_nlt (by omega) (by omega))) (fun _ => ?_)
        refine x_aload_n (pc' := 63) d_U_uniteTexts_62 rfl rfl ?_
        refine x_getfield (ci := 2) (i := 1) (v := .ref 17) (pc' := 66) d_U_uniteTexts_63 rfl g_U_15 hU.1 rfl ?_
        refine x_iload (pc' := 68) d_U_uniteTexts_66 rfl rfl ?_
        refine x_iaload (v := nI x) (pc' := 69) d_U_uniteTexts_68 rfl g17 (vp_in_nI (by omega) (by decide)) (by rw [nI_clamp (by omega)]; exact e1) ?_
        refine x_iconst (v := (-1)) (pc' := 70) d_U_uniteTexts_69 rfl (by decide) ?_
        refine x_icmpeq (t := 185) (pc' := 73) d_U_uniteTexts_70 rfl rfl (fun q => absurd q (sp_nI_m1 (by omega))) (fun _ => ?_)
        refine x_aload_n (pc' := 74) d_U_uniteTexts_73 rfl rfl ?_
        refine x_getfield (ci := 2) (i := 2) (v := .ref 18) (pc' := 77) d_U_uniteTexts_74 rfl g_U_19 hU.1 rfl ?_
        refine x_iload (pc' := 79) d_U_uniteTexts_77 rfl rfl ?_
        refine x_iaload (v := nI y) (pc' := 80) d_U_uniteTexts_79 rfl g18 (vp_in_nI (by omega) (by decide)) (by rw [nI_clamp (by omega)]; exact e2) ?_
        refine x_iconst (v := (-1)) (pc' := 81) d_U_uniteTexts_80 rfl (by decide) ?_
        refine x_icmpeq (t := 185) (pc' := 84) d_U_uniteTexts_81 rfl rfl (fun q => absurd q (sp_nI_m1 (by omega))) (fun _ => ?_)
        refine x_lload_n (pc' := 85) d_U_uniteTexts_84 rfl rfl rfl ?_
        refine x_iload (pc' := 87) d_U_uniteTexts_85 rfl rfl ?_
        refine x_iload (pc' := 89) d_U_uniteTexts_87 rfl rfl ?_
        refine x_static (as := [.long (lN (sp_enc o)), .int (nI i), .int (nI k)]) (r := []) (v := (some (.long (lN (sp_enc (sp_sl o i k)))))) (h' := h) (st' := [.long (lN (sp_enc (sp_sl o i k)))]) (c' := 0) (s' := 0) (pc' := 92) d_U_uniteTexts_89 rfl c_U_58 rfl rfl (Nat.le_of_ble_eq_true rfl) (Nat.le_of_ble_eq_true rfl) (Nat.le_of_ble_eq_true rfl) (fun Q' hq => c_T_piece ho hik (by omega) hq) rfl rfl rfl ?_
        refine x_lload_n (pc' := 93) d_U_uniteTexts_92 rfl rfl rfl ?_
        refine x_iload (pc' := 95) d_U_uniteTexts_93 rfl rfl ?_
        refine x_aload_n (pc' := 96) d_U_uniteTexts_95 rfl rfl ?_
        refine x_getfield (ci := 2) (i := 1) (v := .ref 17) (pc' := 99) d_U_uniteTexts_96 rfl g_U_15 hU.1 rfl ?_
        refine x_iload (pc' := 101) d_U_uniteTexts_99 rfl rfl ?_
        refine x_iaload (v := nI x) (pc' := 102) d_U_uniteTexts_101 rfl g17 (vp_in_nI (by omega) (by decide)) (by rw [nI_clamp (by omega)]; exact e1) ?_
        refine x_static (as := [.long (lN (sp_enc a)), .int (nI p), .int (nI x)]) (r := [.long (lN (sp_enc (sp_sl o i k)))]) (v := (some (.long (lN (sp_enc (sp_sl a p x)))))) (h' := h) (st' := [.long (lN (sp_enc (sp_sl a p x))), .long (lN (sp_enc (sp_sl o i k)))]) (c' := 0) (s' := 0) (pc' := 105) d_U_uniteTexts_102 rfl c_U_58 rfl rfl (Nat.le_of_ble_eq_true rfl) (Nat.le_of_ble_eq_true rfl) (Nat.le_of_ble_eq_true rfl) (fun Q' hq => c_T_piece ha (by omega) (by omega) hq) rfl rfl rfl ?_
        refine x_lload (pc' := 107) d_U_uniteTexts_105 rfl rfl rfl ?_
        refine x_iload (pc' := 109) d_U_uniteTexts_107 rfl rfl ?_
        refine x_aload_n (pc' := 110) d_U_uniteTexts_109 rfl rfl ?_
        refine x_getfield (ci := 2) (i := 2) (v := .ref 18) (pc' := 113) d_U_uniteTexts_110 rfl g_U_19 hU.1 rfl ?_
        refine x_iload (pc' := 115) d_U_uniteTexts_113 rfl rfl ?_
        refine x_iaload (v := nI y) (pc' := 116) d_U_uniteTexts_115 rfl g18 (vp_in_nI (by omega) (by decide)) (by rw [nI_clamp (by omega)]; exact e2) ?_
        refine x_static (as := [.long (lN (sp_enc b)), .int (nI q), .int (nI y)]) (r := [.long (lN (sp_enc (sp_sl a p x))), .long (lN (sp_enc (sp_sl o i k)))]) (v := (some (.long (lN (sp_enc (sp_sl b q y)))))) (h' := h) (st' := [.long (lN (sp_enc (sp_sl b q y))), .long (lN (sp_enc (sp_sl a p x))), .long (lN (sp_enc (sp_sl o i k)))]) (c' := 0) (s' := 0) (pc' := 119) d_U_uniteTexts_116 rfl c_U_58 rfl rfl (Nat.le_of_ble_eq_true rfl) (Nat.le_of_ble_eq_true rfl) (Nat.le_of_ble_eq_true rfl) (fun Q' hq => c_T_piece hb (by omega) (by omega) hq) rfl rfl rfl ?_
        refine x_static (as := [.long (lN (sp_enc (sp_sl o i k))), .long (lN (sp_enc (sp_sl a p x))), .long (lN (sp_enc (sp_sl b q y)))]) (r := []) (v := (some (.long (sp_jv (sp_take (sp_sl o i k) (sp_sl a p x) (sp_sl b q y)))))) (h' := h) (st' := [.long (sp_jv (sp_take (sp_sl o i k) (sp_sl a p x) (sp_sl b q y)))]) (c' := 0) (s' := 0) (pc' := 122) d_U_uniteTexts_119 rfl c_U_33 rfl rfl (Nat.le_of_ble_eq_true rfl) (Nat.le_of_ble_eq_true rfl) (Nat.le_of_ble_eq_true rfl) (fun Q' hq => c_U_take (x_ql (sp_tk_jv (sp_wl_sl ho _ _) (sp_wl_sl ha _ _) (sp_wl_sl hb _ _)).symm hq)) rfl rfl rfl ?_
        refine x_lstore (lo' := [.ref 15, .long (lN (sp_enc o)), .float 0, .long (lN (sp_enc a)), .float 0, .long (lN (sp_enc b)), .float 0, .int (nI o.length), .int (nI i), .int (nI p), .int (nI q), .long (sp_jv R), .float 0, .int (nI k), .long (sp_jv (sp_take (sp_sl o i k) (sp_sl a p x) (sp_sl b q y))), .float 0]) (pc' := 124) d_U_uniteTexts_122 rfl (Nat.le_of_ble_eq_true rfl) rfl ?_
        refine x_lload (pc' := 126) d_U_uniteTexts_124 rfl rfl rfl ?_
        refine x_lload (pc' := 128) d_U_uniteTexts_126 rfl rfl rfl ?_
        refine x_static (as := [.long (sp_jv R), .long (sp_jv (sp_take (sp_sl o i k) (sp_sl a p x) (sp_sl b q y)))]) (r := []) (v := (some (.long (sp_jv (sp_join R (sp_take (sp_sl o i k) (sp_sl a p x) (sp_sl b q y))))))) (h' := h) (st' := [.long (sp_jv (sp_join R (sp_take (sp_sl o i k) (sp_sl a p x) (sp_sl b q y))))]) (c' := 0) (s' := 0) (pc' := 131) d_U_uniteTexts_128 rfl c_U_62 rfl rfl (Nat.le_of_ble_eq_true rfl) (Nat.le_of_ble_eq_true rfl) (Nat.le_of_ble_eq_true rfl) (fun Q' hq => c_T_join hR (sp_take_wt (sp_wl_sl ha _ _) (sp_wl_sl hb _ _)) hq) rfl rfl rfl ?_
        refine x_lstore (lo' := [.ref 15, .long (lN (sp_enc o)), .float 0, .long (lN (sp_enc a)), .float 0, .long (lN (sp_enc b)), .float 0, .int (nI o.length), .int (nI i), .int (nI p), .int (nI q), .long (sp_jv (sp_join R (sp_take (sp_sl o i k) (sp_sl a p x) (sp_sl b q y)))), .float 0, .int (nI k), .long (sp_jv (sp_take (sp_sl o i k) (sp_sl a p x) (sp_sl b q y))), .float 0]) (pc' := 133) d_U_uniteTexts_131 rfl (Nat.le_of_ble_eq_true rfl) rfl ?_
        refine x_iload (pc' := 135) d_U_uniteTexts_133 rfl rfl ?_
        refine x_iconst (v := nI 1) (pc' := 136) d_U_uniteTexts_135 rfl (by decide) ?_
        refine x_iadd (z := nI (k + 1)) (pc' := 137) d_U_uniteTexts_136 rfl (nI_add _ _) ?_
        refine x_istore (lo' := [.ref 15, .long (lN (sp_enc o)), .float 0, .long (lN (sp_enc a)), .float 0, .long (lN (sp_enc b)), .float 0, .int (nI o.length), .int (nI (k + 1)), .int (nI p), .int (nI q), .long (sp_jv (sp_join R (sp_take (sp_sl o i k) (sp_sl a p x) (sp_sl b q y)))), .float 0, .int (nI k), .long (sp_jv (sp_take (sp_sl o i k) (sp_sl a p x) (sp_sl b q y))), .float 0]) (pc' := 139) d_U_uniteTexts_137 rfl (Nat.le_of_ble_eq_true rfl) rfl ?_
        refine x_aload_n (pc' := 140) d_U_uniteTexts_139 rfl rfl ?_
        refine x_getfield (ci := 2) (i := 1) (v := .ref 17) (pc' := 143) d_U_uniteTexts_140 rfl g_U_15 hU.1 rfl ?_
        refine x_iload (pc' := 145) d_U_uniteTexts_143 rfl rfl ?_
        refine x_iaload (v := nI x) (pc' := 146) d_U_uniteTexts_145 rfl g17 (vp_in_nI (by omega) (by decide)) (by rw [nI_clamp (by omega)]; exact e1) ?_
        refine x_iconst (v := nI 1) (pc' := 147) d_U_uniteTexts_146 rfl (by decide) ?_
        refine x_iadd (z := nI (x + 1)) (pc' := 148) d_U_uniteTexts_147 rfl (nI_add _ _) ?_
        refine x_istore (lo' := [.ref 15, .long (lN (sp_enc o)), .float 0, .long (lN (sp_enc a)), .float 0, .long (lN (sp_enc b)), .float 0, .int (nI o.length), .int (nI (k + 1)), .int (nI (x + 1)), .int (nI q), .long (sp_jv (sp_join R (sp_take (sp_sl o i k) (sp_sl a p x) (sp_sl b q y)))), .float 0, .int (nI k), .long (sp_jv (sp_take (sp_sl o i k) (sp_sl a p x) (sp_sl b q y))), .float 0]) (pc' := 150) d_U_uniteTexts_148 rfl (Nat.le_of_ble_eq_true rfl) rfl ?_
        refine x_aload_n (pc' := 151) d_U_uniteTexts_150 rfl rfl ?_
        refine x_getfield (ci := 2) (i := 2) (v := .ref 18) (pc' := 154) d_U_uniteTexts_151 rfl g_U_19 hU.1 rfl ?_
        refine x_iload (pc' := 156) d_U_uniteTexts_154 rfl rfl ?_
        refine x_iaload (v := nI y) (pc' := 157) d_U_uniteTexts_156 rfl g18 (vp_in_nI (by omega) (by decide)) (by rw [nI_clamp (by omega)]; exact e2) ?_
        refine x_iconst (v := nI 1) (pc' := 158) d_U_uniteTexts_157 rfl (by decide) ?_
        refine x_iadd (z := nI (y + 1)) (pc' := 159) d_U_uniteTexts_158 rfl (nI_add _ _) ?_
        refine x_istore (lo' := [.ref 15, .long (lN (sp_enc o)), .float 0, .long (lN (sp_enc a)), .float 0, .long (lN (sp_enc b)), .float 0, .int (nI o.length), .int (nI (k + 1)), .int (nI (x + 1)), .int (nI (y + 1)), .long (sp_jv (sp_join R (sp_take (sp_sl o i k) (sp_sl a p x) (sp_sl b q y)))), .float 0, .int (nI k), .long (sp_jv (sp_take (sp_sl o i k) (sp_sl a p x) (sp_sl b q y))), .float 0]) (pc' := 161) d_U_uniteTexts_159 rfl (Nat.le_of_ble_eq_true rfl) rfl ?_
        refine x_iload (pc' := 163) d_U_uniteTexts_161 rfl rfl ?_
        refine x_iload (pc' := 165) d_U_uniteTexts_163 rfl rfl ?_
        refine x_icmpge (t := 185) (pc' := 168) d_U_uniteTexts_165 rfl rfl (fun q => absurd q (nI_ge hkn (by omega))) (fun _ => ?_)
        refine x_lload (pc' := 170) d_U_uniteTexts_168 rfl rfl rfl ?_
        refine x_lload_n (pc' := 171) d_U_uniteTexts_170 rfl rfl rfl ?_
        refine x_iload (pc' := 173) d_U_uniteTexts_171 rfl rfl ?_
        refine x_iload (pc' := 175) d_U_uniteTexts_173 rfl rfl ?_
        refine x_iconst (v := nI 1) (pc' := 176) d_U_uniteTexts_175 rfl (by decide) ?_
        refine x_iadd (z := nI (k + 1)) (pc' := 177) d_U_uniteTexts_176 rfl (nI_add _ _) ?_
        refine x_static (as := [.long (lN (sp_enc o)), .int (nI k), .int (nI (k + 1))]) (r := [.long (sp_jv (sp_join R (sp_take (sp_sl o i k) (sp_sl a p x) (sp_sl b q y))))]) (v := (some (.long (lN (sp_enc (sp_sl o k (k + 1))))))) (h' := h) (st' := [.long (lN (sp_enc (sp_sl o k (k + 1)))), .long (sp_jv (sp_join R (sp_take (sp_sl o i k) (sp_sl a p x) (sp_sl b q y))))]) (c' := 0) (s' := 0) (pc' := 180) d_U_uniteTexts_177 rfl c_U_58 rfl rfl (Nat.le_of_ble_eq_true rfl) (Nat.le_of_ble_eq_true rfl) (Nat.le_of_ble_eq_true rfl) (fun Q' hq => c_T_piece ho (by omega) (by omega) hq) rfl rfl rfl ?_
        refine x_static (as := [.long (sp_jv (sp_join R (sp_take (sp_sl o i k) (sp_sl a p x) (sp_sl b q y)))), .long (lN (sp_enc (sp_sl o k (k + 1))))]) (r := []) (v := (some (.long (sp_jv (sp_join (sp_join R (sp_take (sp_sl o i k) (sp_sl a p x) (sp_sl b q y))) (some [o.getD k 0])))))) (h' := h) (st' := [.long (sp_jv (sp_join (sp_join R (sp_take (sp_sl o i k) (sp_sl a p x) (sp_sl b q y))) (some [o.getD k 0])))]) (c' := 0) (s' := 0) (pc' := 183) d_U_uniteTexts_180 rfl c_U_62 rfl rfl (Nat.le_of_ble_eq_true rfl) (Nat.le_of_ble_eq_true rfl) (Nat.le_of_ble_eq_true rfl) (fun Q' hq => by rw [sp_sl1 hkn]; exact c_T_join (b := some [o.getD k 0]) (sp_join_wt hR (sp_take_wt (sp_wl_sl ha _ _) (sp_wl_sl hb _ _))) (fun l e => by rw [← sp_sl1 hkn] at e; cases e; exact sp_wl_sl ho _ _) hq) rfl rfl rfl ?_
        refine x_lstore (lo' := [.ref 15, .long (lN (sp_enc o)), .float 0, .long (lN (sp_enc a)), .float 0, .long (lN (sp_enc b)), .float 0, .int (nI o.length), .int (nI (k + 1)), .int (nI (x + 1)), .int (nI (y + 1)), .long (sp_jv (sp_join (sp_join R (sp_take (sp_sl o i k) (sp_sl a p x) (sp_sl b q y))) (some [o.getD k 0]))), .float 0, .int (nI k), .long (sp_jv (sp_take (sp_sl o i k) (sp_sl a p x) (sp_sl b q y))), .float 0]) (pc' := 185) d_U_uniteTexts_183 rfl (Nat.le_of_ble_eq_true rfl) rfl ?_
        refine x_iinc (y := nI (k + 1)) (lo' := [.ref 15, .long (lN (sp_enc o)), .float 0, .long (lN (sp_enc a)), .float 0, .long (lN (sp_enc b)), .float 0, .int (nI o.length), .int (nI (k + 1)), .int (nI (x + 1)), .int (nI (y + 1)), .long (sp_jv (sp_join (sp_join R (sp_take (sp_sl o i k) (sp_sl a p x) (sp_sl b q y))) (some [o.getD k 0]))), .float 0, .int (nI (k + 1)), .long (sp_jv (sp_take (sp_sl o i k) (sp_sl a p x) (sp_sl b q y))), .float 0]) (pc' := 188) d_U_uniteTexts_185 rfl rfl (sp_nI_inc k) rfl ?_
        refine x_goto (t := 55) d_U_uniteTexts_188 rfl ?_
        exact ih (k + 1) (k + 1) (x + 1) (y + 1) _ _ _ (by omega) (by omega) (by omega) (by omega) (fun k' x' h5 h6 => hxi k' x' (by omega) h6) (fun k' x' h5 h6 => hyi k' x' (by omega) h6) (sp_join_wt (sp_join_wt hR (sp_take_wt (sp_wl_sl ha _ _) (sp_wl_sl hb _ _))) (fun l e => by rw [← sp_sl1 hkn] at e; cases e; exact sp_wl_sl ho _ _)) (x_ql (by rw [sp_cgo_3 h1 h2]) hQ)
set_option maxHeartbeats 4000000 in
theorem c_U_uniteTexts {L : Nat} {xs : Nat → Int32} {d : Nat} {Q : xm_Q} {o a b : List Nat} (ho : sp_wl o) (ha : sp_wl a) (hb : sp_wl b) {h : xm_H} (hU : ch_U0 h) {pa pb : Nat → Int32} (hp1 : h[17]? = some (.inl (.int, 9, .inl pa))) (hp2 : h[18]? = some (.inl (.int, 9, .inl pb))) {cm : Nat → Nat → Int32} (hC : ch_C h cm)
    (hQ : ∀ h' : xm_H, xl_fr (fun k => 17 ≤ k ∧ k ≤ 28) h h' → ch_U0 h' → (∃ f : Nat → Int32, h'[17]? = some (.inl (.int, 9, .inl f))) → (∃ f : Nat → Int32, h'[18]? = some (.inl (.int, 9, .inl f))) → (∃ cm', ch_C h' cm') → Q (some (.long (sp_jv (sp_unite o a b)))) h') : xm_call L xs (d + 3) m_U_uniteTexts [.ref 15, .long (lN (sp_enc o)), .long (lN (sp_enc a)), .long (lN (sp_enc b))] h Q := by
  have l8 := ho.1
  refine x_call (lo := [.ref 15, .long (lN (sp_enc o)), .float 0, .long (lN (sp_enc a)), .float 0, .long (lN (sp_enc b)), .float 0, .float 0, .float 0, .float 0, .float 0, .float 0, .float 0, .float 0, .float 0, .float 0]) (Nat.le_of_ble_eq_true rfl) rfl ?_
  refine x_aload_n (pc' := 1) d_U_uniteTexts_0 rfl rfl ?_
  refine x_lload_n (pc' := 2) d_U_uniteTexts_1 rfl rfl rfl ?_
  refine x_lload_n (pc' := 3) d_U_uniteTexts_2 rfl rfl rfl ?_
  refine x_virtualR (a := 15) (as := [.long (lN (sp_enc o)), .long (lN (sp_enc a))]) (r := []) (Post := fun v h9 => v = none ∧ ∃ cm', xl_fr sp_CS h h9 ∧ ch_C h9 cm' ∧ ∀ x y, x ≤ o.length → y ≤ a.length → cm' x y = nI (sp_lcs (o.drop x) (a.drop y))) (c' := 0) (s' := 0) (pc' := 6) d_U_uniteTexts_3 rfl c_U_44 hU.1 rfl rfl (Nat.le_of_ble_eq_true rfl) (Nat.le_of_ble_eq_true rfl) (Nat.le_of_ble_eq_true rfl) (fun Q' hq => c_U_countCommon ho ha hU hC (fun h' cm' z1 z2 z3 => hq none h' ⟨rfl, cm', z1, z2, z3⟩)) rfl rfl (fun v9 h1 hp => ?_)
  obtain ⟨rfl, ch1, fh1, Ch1, Th1⟩ := hp
  have Uh1 := ch_U0_go hU fh1
  show xm_X L xs (xm_call L xs (d + 2)) m_U_uniteTexts (6, [.ref 15, .long (lN (sp_enc o)), .float 0, .long (lN (sp_enc a)), .float 0, .long (lN (sp_enc b)), .float 0, .float 0, .float 0, .float 0, .float 0, .float 0, .float 0, .float 0, .float 0, .float 0], [], h1, 0, 0) Q
  refine x_aload_n (pc' := 7) d_U_uniteTexts_6 rfl rfl ?_
  refine x_lload_n (pc' := 8) d_U_uniteTexts_7 rfl rfl rfl ?_
  refine x_lload_n (pc' := 9) d_U_uniteTexts_8 rfl rfl rfl ?_
  refine x_aload_n (pc' := 10) d_U_uniteTexts_9 rfl rfl ?_
  refine x_getfield (ci := 2) (i := 1) (v := .ref 17) (pc' := 13) d_U_uniteTexts_10 rfl g_U_15 Uh1.1 rfl ?_
  refine x_virtualR (a := 15) (as := [.long (lN (sp_enc o)), .long (lN (sp_enc a)), .ref 17]) (r := []) (Post := fun v h9 => v = none ∧ ∃ f : Nat → Int32, f o.length = nI a.length ∧ (∀ k, k < o.length → f k = sp_mv1 ((sp_mt o a 0).getD k none)) ∧ h9 = h1.set 17 (.inl (.int, 9, .inl f))) (c' := 0) (s' := 0) (pc' := 16) d_U_uniteTexts_13 rfl c_U_48 Uh1.1 rfl rfl (Nat.le_of_ble_eq_true rfl) (Nat.le_of_ble_eq_true rfl) (Nat.le_of_ble_eq_true rfl) (fun Q' hq => c_U_matchLines ho ha ⟨by decide, by decide⟩ ((fh1.2 17 (fun z => absurd z.1 (by decide))).trans hp1) Uh1 Ch1 Th1 (fun f z1 z2 => hq none _ ⟨rfl, f, z1, z2, rfl⟩)) rfl rfl (fun v9 h2 hp => ?_)
  obtain ⟨rfl, ph2, lh2, mh2, eh2⟩ := hp
  show xm_X L xs (xm_call L xs (d + 2)) m_U_uniteTexts (16, [.ref 15, .long (lN (sp_enc o)), .float 0, .long (lN (sp_enc a)), .float 0, .long (lN (sp_enc b)), .float 0, .float 0, .float 0, .float 0, .float 0, .float 0, .float 0, .float 0, .float 0, .float 0], [], h2, 0, 0) Q
  have U2 : ch_U0 h2 := by subst eh2; exact ⟨(xl_ne (by decide)).trans Uh1.1, (xl_ne (by decide)).trans Uh1.2⟩
  have C2 : ch_C h2 ch1 := by subst eh2; exact ch_C_go Ch1 (fun k h1 h2 => xl_ne (by omega))
  have g17 : h2[17]? = some (.inl (.int, 9, .inl ph2)) := by subst eh2; exact xl_at ((fh1.2 17 (fun z => absurd z.1 (by decide))).trans hp1)
  have g18 : h2[18]? = some (.inl (.int, 9, .inl pb)) := by subst eh2; exact (xl_ne (by decide)).trans ((fh1.2 18 (fun z => absurd z.1 (by decide))).trans hp2)
  refine x_aload_n (pc' := 17) d_U_uniteTexts_16 rfl rfl ?_
  refine x_lload_n (pc' := 18) d_U_uniteTexts_17 rfl rfl rfl ?_
  refine x_lload (pc' := 20) d_U_uniteTexts_18 rfl rfl rfl ?_
  refine x_virtualR (a := 15) (as := [.long (lN (sp_enc o)), .long (lN (sp_enc b))]) (r := []) (Post := fun v h9 => v = none ∧ ∃ cm', xl_fr sp_CS h2 h9 ∧ ch_C h9 cm' ∧ ∀ x y, x ≤ o.length → y ≤ b.length → cm' x y = nI (sp_lcs (o.drop x) (b.drop y))) (c' := 0) (s' := 0) (pc' := 23) d_U_uniteTexts_20 rfl c_U_44 U2.1 rfl rfl (Nat.le_of_ble_eq_true rfl) (Nat.le_of_ble_eq_true rfl) (Nat.le_of_ble_eq_true rfl) (fun Q' hq => c_U_countCommon ho hb U2 C2 (fun h' cm' z1 z2 z3 => hq none h' ⟨rfl, cm', z1, z2, z3⟩)) rfl rfl (fun v9 h3 hp => ?_)
  obtain ⟨rfl, ch3, fh3, Ch3, Th3⟩ := hp
  have Uh3 := ch_U0_go U2 fh3
  show xm_X L xs (xm_call L xs (d + 2)) m_U_uniteTexts (23, [.ref 15, .long (lN (sp_enc o)), .float 0, .long (lN (sp_enc a)), .float 0, .long (lN (sp_enc b)), .float 0, .float 0, .float 0, .float 0, .float 0, .float 0, .float 0, .float 0, .float 0, .float 0], [], h3, 0, 0) Q
  refine x_aload_n (pc' := 24) d_U_uniteTexts_23 rfl rfl ?_
  refine x_lload_n (pc' := 25) d_U_uniteTexts_24 rfl rfl rfl ?_
  refine x_lload (pc' := 27) d_U_uniteTexts_25 rfl rfl rfl ?_
  refine x_aload_n (pc' := 28) d_U_uniteTexts_27 rfl rfl ?_
  refine x_getfield (ci := 2) (i := 2) (v := .ref 18) (pc' := 31) d_U_uniteTexts_28 rfl g_U_19 Uh3.1 rfl ?_
  refine x_virtualR (a := 15) (as := [.long (lN (sp_enc o)), .long (lN (sp_enc b)), .ref 18]) (r := []) (Post := fun v h9 => v = none ∧ ∃ f : Nat → Int32, f o.length = nI b.length ∧ (∀ k, k < o.length → f k = sp_mv1 ((sp_mt o b 0).getD k none)) ∧ h9 = h3.set 18 (.inl (.int, 9, .inl f))) (c' := 0) (s' := 0) (pc' := 34) d_U_uniteTexts_31 rfl c_U_48 Uh3.1 rfl rfl (Nat.le_of_ble_eq_true rfl) (Nat.le_of_ble_eq_true rfl) (Nat.le_of_ble_eq_true rfl) (fun Q' hq => c_U_matchLines ho hb ⟨by decide, by decide⟩ ((fh3.2 18 (fun z => absurd z.1 (by decide))).trans g18) Uh3 Ch3 Th3 (fun f z1 z2 => hq none _ ⟨rfl, f, z1, z2, rfl⟩)) rfl rfl (fun v9 h4 hp => ?_)
  obtain ⟨rfl, ph4, lh4, mh4, eh4⟩ := hp
  show xm_X L xs (xm_call L xs (d + 2)) m_U_uniteTexts (34, [.ref 15, .long (lN (sp_enc o)), .float 0, .long (lN (sp_enc a)), .float 0, .long (lN (sp_enc b)), .float 0, .float 0, .float 0, .float 0, .float 0, .float 0, .float 0, .float 0, .float 0, .float 0], [], h4, 0, 0) Q
  have U4 : ch_U0 h4 := by subst eh4; exact ⟨(xl_ne (by decide)).trans Uh3.1, (xl_ne (by decide)).trans Uh3.2⟩
  have k17 : h4[17]? = some (.inl (.int, 9, .inl ph2)) := by subst eh4; exact (xl_ne (by decide)).trans ((fh3.2 17 (fun z => absurd z.1 (by decide))).trans g17)
  have k18 : h4[18]? = some (.inl (.int, 9, .inl ph4)) := by subst eh4; exact xl_at ((fh3.2 18 (fun z => absurd z.1 (by decide))).trans g18)
  have C4 : ch_C h4 ch3 := by subst eh4; exact ch_C_go Ch3 (fun k h1 h2 => xl_ne (by omega))
  have f4 : xl_fr (fun k => 17 ≤ k ∧ k ≤ 28) h h4 := by
    subst eh4
    refine xl_tr (xl_mono fh1 (fun k z => ⟨by omega, z.2⟩)) (xl_tr ?_ (xl_tr (xl_mono fh3 (fun k z => ⟨by omega, z.2⟩)) (xl_set ⟨by decide, by decide⟩)))
    subst eh2
    exact xl_set ⟨by decide, by decide⟩
  refine x_lload_n (pc' := 35) d_U_uniteTexts_34 rfl rfl rfl ?_
  refine x_static (as := [.long (lN (sp_enc o))]) (r := []) (v := (some (.int (nI o.length)))) (h' := h4) (st' := [.int (nI o.length)]) (c' := 0) (s' := 0) (pc' := 38) d_U_uniteTexts_35 rfl c_U_52 rfl rfl (Nat.le_of_ble_eq_true rfl) (Nat.le_of_ble_eq_true rfl) (Nat.le_of_ble_eq_true rfl) (fun Q' hq => c_T_countOf ho hq) rfl rfl rfl ?_
  refine x_istore (lo' := [.ref 15, .long (lN (sp_enc o)), .float 0, .long (lN (sp_enc a)), .float 0, .long (lN (sp_enc b)), .float 0, .int (nI o.length), .float 0, .float 0, .float 0, .float 0, .float 0, .float 0, .float 0, .float 0]) (pc' := 40) d_U_uniteTexts_38 rfl (Nat.le_of_ble_eq_true rfl) rfl ?_
  refine x_iconst (v := nI 0) (pc' := 41) d_U_uniteTexts_40 rfl (by decide) ?_
  refine x_istore (lo' := [.ref 15, .long (lN (sp_enc o)), .float 0, .long (lN (sp_enc a)), .float 0, .long (lN (sp_enc b)), .float 0, .int (nI o.length), .int (nI 0), .float 0, .float 0, .float 0, .float 0, .float 0, .float 0, .float 0]) (pc' := 43) d_U_uniteTexts_41 rfl (Nat.le_of_ble_eq_true rfl) rfl ?_
  refine x_iconst (v := nI 0) (pc' := 44) d_U_uniteTexts_43 rfl (by decide) ?_
  refine x_istore (lo' := [.ref 15, .long (lN (sp_enc o)), .float 0, .long (lN (sp_enc a)), .float 0, .long (lN (sp_enc b)), .float 0, .int (nI o.length), .int (nI 0), .int (nI 0), .float 0, .float 0, .float 0, .float 0, .float 0, .float 0]) (pc' := 46) d_U_uniteTexts_44 rfl (Nat.le_of_ble_eq_true rfl) rfl ?_
  refine x_iconst (v := nI 0) (pc' := 47) d_U_uniteTexts_46 rfl (by decide) ?_
  refine x_istore (lo' := [.ref 15, .long (lN (sp_enc o)), .float 0, .long (lN (sp_enc a)), .float 0, .long (lN (sp_enc b)), .float 0, .int (nI o.length), .int (nI 0), .int (nI 0), .int (nI 0), .float 0, .float 0, .float 0, .float 0, .float 0]) (pc' := 49) d_U_uniteTexts_47 rfl (Nat.le_of_ble_eq_true rfl) rfl ?_
  refine x_lconst (v := sp_jv (some [])) (pc' := 50) d_U_uniteTexts_49 rfl (by decide) ?_
  refine x_lstore (lo' := [.ref 15, .long (lN (sp_enc o)), .float 0, .long (lN (sp_enc a)), .float 0, .long (lN (sp_enc b)), .float 0, .int (nI o.length), .int (nI 0), .int (nI 0), .int (nI 0), .long (sp_jv (some [])), .float 0, .float 0, .float 0, .float 0]) (pc' := 52) d_U_uniteTexts_50 rfl (Nat.le_of_ble_eq_true rfl) rfl ?_
  refine x_iconst (v := nI 0) (pc' := 53) d_U_uniteTexts_52 rfl (by decide) ?_
  refine x_istore (lo' := [.ref 15, .long (lN (sp_enc o)), .float 0, .long (lN (sp_enc a)), .float 0, .long (lN (sp_enc b)), .float 0, .int (nI o.length), .int (nI 0), .int (nI 0), .int (nI 0), .long (sp_jv (some [])), .float 0, .int (nI 0), .float 0, .float 0]) (pc' := 55) d_U_uniteTexts_53 rfl (Nat.le_of_ble_eq_true rfl) rfl ?_
  refine l_U_ut ho ha hb U4 k17 k18 lh2 lh4 mh2 mh4 o.length 0 0 0 0 (some []) _ _ (by omega) (Nat.le_refl _) (Nat.zero_le _) (Nat.zero_le _) (fun _ _ _ _ => Nat.zero_le _) (fun _ _ _ _ => Nat.zero_le _) (fun l e => by cases e; exact ⟨by decide, fun d hd => by cases hd⟩) ?_
  rw [← sp_unite_cgo]
  exact hQ h4 f4 U4 ⟨_, k17⟩ ⟨_, k18⟩ ⟨_, C4⟩
