/-! What the calls keep. -/
theorem sp_up_at {α : Type} {f : Nat → α} {k : Nat} {v : α} : sp_up f k v k = v := if_pos rfl
theorem sp_up_ne {α : Type} {f : Nat → α} {k j : Nat} {v : α} (h : j ≠ k) : sp_up f k v j = f j := if_neg h
theorem sp_ok_mono {n m : Nat} (h : n ≤ m) {c : Option Nat} (hc : sp_ok n c) : sp_ok m c := fun k e => Nat.lt_of_lt_of_le (hc k e) h
theorem sp_ok_none {n : Nat} : sp_ok n none := fun k e => by cases e
theorem sp_wt_none : sp_wt none := fun l e => by cases e
theorem sp_ro_add {H : sp_H} {t : sp_T} {p1 p2 c : Option Nat} (hc : sp_ok (sp_n H) c) : sp_ro (sp_add H t p1 p2) c = sp_ro H c := by
  cases c with
  | none => rfl
  | some k => exact sp_up_ne (Nat.ne_of_lt (hc k rfl))
theorem sp_of_add {H : sp_H} {t : sp_T} {p1 p2 c : Option Nat} (hc : sp_ok (sp_n H) c) {f : Nat} (hf : f < 4) : sp_of (sp_add H t p1 p2) c f = sp_of H c f := by
  cases c with
  | none => rfl
  | some k =>
    have := hc k rfl
    show (if 4 * sp_n H ≤ 4 * k + f ∧ 4 * k + f < 4 * sp_n H + 4 then _ else _) = _
    rw [if_neg (by omega)]
    rfl
theorem sp_of_new {H : sp_H} {t : sp_T} {p1 p2 : Option Nat} {f : Nat} (hf : f < 4) : sp_of (sp_add H t p1 p2) (some (sp_n H)) f = t f := by
  show (if 4 * sp_n H ≤ 4 * sp_n H + f ∧ 4 * sp_n H + f < 4 * sp_n H + 4 then _ else _) = _
  rw [if_pos (by omega), Nat.add_sub_cancel_left]
theorem sp_rr_new {H : sp_H} {t : sp_T} {p1 p2 : Option Nat} : sp_rr (sp_add H t p1 p2) (sp_n H) = 2 ^ sp_n H ||| sp_ro H p1 ||| sp_ro H p2 := sp_up_at
theorem sp_WH_add {H : sp_H} (hW : sp_WH H) (hn : sp_n H < 40) {t : sp_T} {p1 p2 : Option Nat} (h1 : sp_ok (sp_n H) p1) (h2 : sp_ok (sp_n H) p2) (ht : ∀ j, j < 4 → sp_wt (t j)) : sp_WH (sp_add H t p1 p2) := by
  refine ⟨hn, fun c hc => ?_, fun j hj => ?_⟩
  · by_cases e : c = sp_n H
    · subst e
      have e1 : sp_p1 (sp_add H t p1 p2) (sp_n H) = p1 := sp_up_at
      have e2 : sp_p2 (sp_add H t p1 p2) (sp_n H) = p2 := sp_up_at
      rw [e1, e2, sp_ro_add h1, sp_ro_add h2, sp_rr_new]
      exact ⟨h1, h2, rfl, Nat.or_lt_two_pow (Nat.or_lt_two_pow (Nat.pow_lt_pow_right (by decide) (Nat.lt_succ_self _)) (Nat.lt_of_lt_of_le (sp_WH_ro hW h1) (Nat.pow_le_pow_right (by decide) (Nat.le_succ _)))) (Nat.lt_of_lt_of_le (sp_WH_ro hW h2) (Nat.pow_le_pow_right (by decide) (Nat.le_succ _)))⟩
    · have hc2 : c < sp_n H := by
        have : c < sp_n H + 1 := hc
        omega
      have e1 : sp_p1 (sp_add H t p1 p2) c = sp_p1 H c := sp_up_ne e
      have e2 : sp_p2 (sp_add H t p1 p2) c = sp_p2 H c := sp_up_ne e
      have e3 : sp_rr (sp_add H t p1 p2) c = sp_rr H c := sp_up_ne e
      obtain ⟨k1, k2, k3, k4⟩ := hW.2.1 c hc2
      rw [e1, e2, e3, sp_ro_add (sp_ok_mono (Nat.le_of_lt hc2) k1), sp_ro_add (sp_ok_mono (Nat.le_of_lt hc2) k2)]
      exact ⟨k1, k2, k3, k4⟩
  · have hj2 : j < 4 * (sp_n H + 1) := hj
    show sp_wt (if 4 * sp_n H ≤ j ∧ j < 4 * sp_n H + 4 then _ else _)
    by_cases e : 4 * sp_n H ≤ j
    · rw [if_pos ⟨e, by omega⟩]
      exact ht _ (by omega)
    · rw [if_neg (by omega)]
      exact hW.2.2 j (by omega)
theorem sp_WR_add {H : sp_H} {R : sp_R} (hR : sp_WR H R) {t : sp_T} {p1 p2 : Option Nat} : sp_WR (sp_add H t p1 p2) R :=
  ⟨hR.1, fun b hb => sp_ok_mono (Nat.le_succ _) (hR.2.1 b hb), Nat.lt_of_lt_of_le hR.2.2.1 (Nat.pow_le_pow_right (by decide) (Nat.le_succ _)), fun b hb => by rw [sp_ro_add (hR.2.1 b hb)]; exact hR.2.2.2.1 b hb, hR.2.2.2.2⟩
theorem sp_or_or {a b c : Nat} (h : a ||| b = b) : a ||| (b ||| c) = b ||| c := by rw [← Nat.or_assoc, h]
theorem sp_or_rr {a b : Nat} : a ||| (b ||| a) = b ||| a := by rw [Nat.or_comm b a, ← Nat.or_assoc, Nat.or_self]
theorem sp_WR_mv {H : sp_H} (hW : sp_WH H) {R : sp_R} (hR : sp_WR H R) {c : Nat} (hc : c < sp_n H) : sp_WR H (sp_mv H R c) := by
  refine ⟨hR.1, fun b hb => ?_, Nat.or_lt_two_pow hR.2.2.1 (sp_WH_ro hW (c := some c) (sp_ok_some hc)), fun b hb => ?_, fun f hf => ⟨sp_WH_of hW (sp_ok_some hc) f hf, sp_WH_of hW (sp_ok_some hc) f hf⟩⟩
  · show sp_ok _ (sp_up _ _ _ b)
    by_cases e : b = sp_cur R
    · rw [e, sp_up_at]; exact sp_ok_some hc
    · rw [sp_up_ne e]; exact hR.2.1 b hb
  · show sp_ro H (sp_up _ _ _ b) ||| (sp_held R ||| sp_rr H c) = sp_held R ||| sp_rr H c
    by_cases e : b = sp_cur R
    · rw [e, sp_up_at]; exact sp_or_rr
    · rw [sp_up_ne e]; exact sp_or_or (hR.2.2.2.1 b hb)
theorem sp_WR_cur {H : sp_H} {R : sp_R} (hR : sp_WR H R) {b : Nat} (hb : b < 4) : sp_WR H (sp_tip R, b, sp_held R, sp_wk R, sp_ix R) := ⟨hb, hR.2⟩
theorem sp_WR_tip {H : sp_H} {R : sp_R} (hR : sp_WR H R) {b : Nat} {c : Option Nat} (hc : sp_ok (sp_n H) c) (hh : sp_ro H c ||| sp_held R = sp_held R) : sp_WR H (sp_up (sp_tip R) b c, sp_cur R, sp_held R, sp_wk R, sp_ix R) := by
  refine ⟨hR.1, fun k hk => ?_, hR.2.2.1, fun k hk => ?_, hR.2.2.2.2⟩
  · show sp_ok _ (sp_up _ _ _ k)
    by_cases e : k = b
    · rw [e, sp_up_at]; exact hc
    · rw [sp_up_ne e]; exact hR.2.1 k hk
  · show sp_ro H (sp_up _ _ _ k) ||| sp_held R = sp_held R
    by_cases e : k = b
    · rw [e, sp_up_at]; exact hh
    · rw [sp_up_ne e]; exact hR.2.2.2.1 k hk
theorem sp_WS_set {S : sp_S} (hS : sp_WS S) {r : Nat} {R : sp_R} (hR : sp_WR S.1 R) : sp_WS (sp_set S r R) := by
  refine ⟨hS.1, fun k hk => ?_⟩
  show sp_WR S.1 (sp_up S.2 r R k)
  by_cases e : k = r
  · rw [e, sp_up_at]; exact hR
  · rw [sp_up_ne e]; exact hS.2 k hk
theorem sp_WS_up {S : sp_S} {H : sp_H} (hW : sp_WH H) (hS : ∀ r, r < 2 → sp_WR H (S.2 r)) {r : Nat} {R : sp_R} (hR : sp_WR H R) : sp_WS (H, sp_up S.2 r R) := by
  refine ⟨hW, fun k hk => ?_⟩
  show sp_WR H (sp_up S.2 r R k)
  by_cases e : k = r
  · rw [e, sp_up_at]; exact hR
  · rw [sp_up_ne e]; exact hS k hk
