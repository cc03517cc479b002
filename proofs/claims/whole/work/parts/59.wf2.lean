/-! Every call keeps what the states are. -/
theorem sp_in_bd {N k : Nat} {x : Int32} (h : sp_in N x = some k) : k < N := by
  unfold sp_in at h
  split at h
  · cases h; omega
  · cases h
def sp_w4 (t : sp_T) : Prop := ∀ f, f < 4 → sp_wt (t f)
theorem sp_snap_wt {o a b t : sp_T} (ho : sp_w4 o) (ha : sp_w4 a) (hb : sp_w4 b) (e : sp_snap o a b = some t) : sp_w4 t := by
  unfold sp_snap at e
  split at e
  · rename_i x0 x1 x2 x3 e0 e1 e2 e3
    cases e
    intro f hf
    match f, hf with
    | 0, _ => exact sp_file_wt (ho 0 (by decide)) (ha 0 (by decide)) (hb 0 (by decide)) e0
    | 1, _ => exact sp_file_wt (ho 1 (by decide)) (ha 1 (by decide)) (hb 1 (by decide)) e1
    | 2, _ => exact sp_file_wt (ho 2 (by decide)) (ha 2 (by decide)) (hb 2 (by decide)) e2
    | 3, _ => exact sp_file_wt (ho 3 (by decide)) (ha 3 (by decide)) (hb 3 (by decide)) e3
    | k + 4, h => omega
  · cases e
theorem sp_dcl (m : Nat) : ∀ k, (sp_dec m k).length = k := by
  intro k
  induction k generalizing m with
  | zero => rfl
  | succ k ih => exact congrArg (· + 1) (ih (m / 16))
theorem sp_dcd : ∀ k m, ∀ d ∈ sp_dec m k, d < 16
  | 0, _, _, h => by cases h
  | k + 1, m, d, h => by
    rcases List.mem_cons.mp h with rfl | h
    · exact Nat.mod_lt _ (by decide)
    · exact sp_dcd k _ d h
theorem sp_again_wt {H : sp_H} (hW : sp_WH H) {c : Nat} (hc : c < sp_n H) {t u : sp_T} (ht : sp_w4 t) (e : sp_again H c t = some (some u)) : sp_w4 u := by
  unfold sp_again at e
  split at e
  · cases e
  · rename_i v ev
    split at e
    · cases e
    · cases e
      exact sp_snap_wt (sp_WH_of hW (sp_ok_mono (Nat.le_of_lt hc) (hW.2.1 c hc).1)) ht (sp_WH_of hW (sp_ok_some hc)) ev
theorem sp_replay_wt {H : sp_H} (hW : sp_WH H) {m : Nat} : ∀ (k c : Nat) (t : sp_T) (acc ts : List sp_T), c + k ≤ sp_n H → sp_w4 t → (∀ u ∈ acc, sp_w4 u) → sp_n H + acc.length ≤ 40 → sp_replay H m k c t acc = .inr ts → (∀ u ∈ ts, sp_w4 u) ∧ sp_n H + ts.length ≤ 40
  | 0, c, t, acc, ts, _, _, ha, hl, e => by
    cases e
    exact ⟨ha, hl⟩
  | k + 1, c, t, acc, ts, hc, ht, ha, hl, e => by
    unfold sp_replay at e
    split at e
    · split at e
      · cases e
      · exact sp_replay_wt hW k (c + 1) t acc ts (by omega) ht ha hl e
      · rename_i u eu
        split at e
        · cases e
        · have hu := sp_again_wt hW (by omega) ht eu
          exact sp_replay_wt hW k (c + 1) u (acc ++ [u]) ts (by omega) hu (fun v hv => (List.mem_append.mp hv).elim (ha v) (fun z => by rw [List.mem_singleton.mp z]; exact hu)) (by rw [List.length_append, List.length_singleton]; omega) e
    · exact sp_replay_wt hW k (c + 1) t acc ts (by omega) ht ha hl e
theorem sp_ext_tr {A B C : sp_H} (x : sp_ext A B) (y : sp_ext B C) : sp_ext A C :=
  ⟨Nat.le_trans x.1 y.1, fun c hc => by
    obtain ⟨a1, a2, a3⟩ := x.2.1 c hc
    obtain ⟨b1, b2, b3⟩ := y.2.1 c (Nat.lt_of_lt_of_le hc x.1)
    exact ⟨b1.trans a1, b2.trans a2, b3.trans a3⟩, fun j hj => (y.2.2 j (by have := x.1; omega)).trans (x.2.2 j hj)⟩
theorem sp_adds_WH : ∀ (ts : List sp_T) (H : sp_H) (o : Nat), sp_WH H → o < sp_n H → (∀ u ∈ ts, sp_w4 u) → sp_n H + ts.length ≤ 40 → sp_WH (sp_adds H (some o) ts).1 ∧ sp_ext H (sp_adds H (some o) ts).1 ∧ sp_n (sp_adds H (some o) ts).1 = sp_n H + ts.length
  | [], H, o, hW, _, _, _ => ⟨hW, sp_ext_rf, rfl⟩
  | t :: ts, H, o, hW, ho, ht, hl => by
    have hl2 : sp_n H + (ts.length + 1) ≤ 40 := hl
    have W1 := sp_WH_add hW (by omega) (sp_ok_some ho) sp_ok_none (ht t (List.mem_cons_self ..)) (t := t)
    have e1 : sp_n (sp_add H t (some o) none) = sp_n H + 1 := rfl
    obtain ⟨a, b, c⟩ := sp_adds_WH ts (sp_add H t (some o) none) (sp_n H) W1 (Nat.lt_succ_self _) (fun u hu => ht u (List.mem_cons_of_mem _ hu)) (by rw [e1]; omega)
    refine ⟨a, sp_ext_tr (sp_ext_add sp_ext_rf) b, c.trans ?_⟩
    rw [e1, List.length_cons]; omega
theorem sp_WS_write {S : sp_S} (hS : sp_WS S) {x y z : Int32} {m : Nat} : sp_WS (sp_write S x y m z).2 := by
  unfold sp_write
  split
  · rename_i r f k e1 e2 e3
    have hr := sp_in_bd e1
    have hk := sp_in_bd e3
    have hR := hS.2 r hr
    refine sp_WS_set hS ⟨hR.1, hR.2.1, hR.2.2.1, hR.2.2.2.1, fun j hj => ⟨?_, (hR.2.2.2.2 j hj).2⟩⟩
    show sp_wt (sp_up _ _ _ j)
    by_cases h : j = f
    · rw [h, sp_up_at]
      intro l e
      cases e
      exact ⟨by rw [sp_dcl]; omega, sp_dcd _ _⟩
    · rw [sp_up_ne h]; exact (hR.2.2.2.2 j hj).1
  · exact hS
theorem sp_WS_remove {S : sp_S} (hS : sp_WS S) {x y : Int32} : sp_WS (sp_remove S x y).2 := by
  unfold sp_remove
  split
  · rename_i r f e1 e2
    have hr := sp_in_bd e1
    have hR := hS.2 r hr
    refine sp_WS_set hS ⟨hR.1, hR.2.1, hR.2.2.1, hR.2.2.2.1, fun j hj => ⟨?_, (hR.2.2.2.2 j hj).2⟩⟩
    show sp_wt (sp_up _ _ _ j)
    by_cases h : j = f
    · rw [h, sp_up_at]; exact sp_wt_none
    · rw [sp_up_ne h]; exact (hR.2.2.2.2 j hj).1
  · exact hS
theorem sp_WS_stage {S : sp_S} (hS : sp_WS S) {x y : Int32} : sp_WS (sp_stage S x y).2 := by
  unfold sp_stage
  split
  · rename_i r f e1 e2
    have hr := sp_in_bd e1
    have hR := hS.2 r hr
    refine sp_WS_set hS ⟨hR.1, hR.2.1, hR.2.2.1, hR.2.2.2.1, fun j hj => ⟨(hR.2.2.2.2 j hj).1, ?_⟩⟩
    show sp_wt (sp_up _ _ _ j)
    by_cases h : j = f
    · rw [h, sp_up_at]; exact (hR.2.2.2.2 f (sp_in_bd e2)).1
    · rw [sp_up_ne h]; exact (hR.2.2.2.2 j hj).2
  · exact hS
theorem sp_WS_branch {S : sp_S} (hS : sp_WS S) {x y : Int32} : sp_WS (sp_branch S x y).2 := by
  unfold sp_branch
  split
  · rename_i r b e1 e2
    have hr := sp_in_bd e1
    have hR := hS.2 r hr
    split
    · exact hS
    · exact sp_WS_set hS (sp_WR_tip hR (hR.2.1 _ hR.1) (hR.2.2.2.1 _ hR.1))
  · exact hS
theorem sp_WS_drop {S : sp_S} (hS : sp_WS S) {x y : Int32} : sp_WS (sp_drop S x y).2 := by
  unfold sp_drop
  split
  · rename_i r b e1 e2
    have hr := sp_in_bd e1
    have hR := hS.2 r hr
    split
    · exact hS
    · exact sp_WS_set hS (sp_WR_tip hR sp_ok_none (Nat.zero_or _))
  · exact hS
theorem sp_WS_checkout {S : sp_S} (hS : sp_WS S) {x y : Int32} : sp_WS (sp_checkout S x y).2 := by
  unfold sp_checkout
  split
  · rename_i r b e1 e2
    have hr := sp_in_bd e1
    have hb := sp_in_bd e2
    have hR := hS.2 r hr
    split
    · exact hS
    · rename_i c ec
      split
      · exact sp_WS_set hS (sp_WR_mv hS.1 (sp_WR_cur hR hb) (hR.2.1 b hb c ec))
      · exact hS
  · exact hS
theorem sp_WS_commit {S : sp_S} (hS : sp_WS S) {x : Int32} : sp_WS (sp_commit S x).2 := by
  unfold sp_commit
  split
  · rename_i r e1
    have hr := sp_in_bd e1
    have hR := hS.2 r hr
    split
    · exact hS
    · split
      · exact hS
      · have hc := hR.2.1 _ hR.1
        have W1 := sp_WH_add hS.1 (by omega) hc sp_ok_none (fun j hj => (hR.2.2.2.2 j hj).2) (t := sp_ix (S.2 r)) (p2 := none)
        refine sp_WS_up W1 (fun k hk => sp_WR_add (hS.2 k hk)) ?_
        have R1 := sp_WR_add hR (t := sp_ix (S.2 r)) (p1 := sp_head (S.2 r)) (p2 := none)
        have R2 : sp_WR (sp_add S.1 (sp_ix (S.2 r)) (sp_head (S.2 r)) none) (sp_tip (S.2 r), sp_cur (S.2 r), sp_held (S.2 r) ||| 2 ^ sp_n S.1, sp_wk (S.2 r), sp_ix (S.2 r)) :=
          ⟨R1.1, R1.2.1, Nat.or_lt_two_pow R1.2.2.1 (Nat.pow_lt_pow_right (by decide) (Nat.lt_succ_self _)), fun b hb => sp_or_or (R1.2.2.2.1 b hb), R1.2.2.2.2⟩
        refine sp_WR_tip R2 (sp_ok_some (Nat.lt_succ_self _)) ?_
        show sp_rr (sp_add S.1 (sp_ix (S.2 r)) (sp_head (S.2 r)) none) (sp_n S.1) ||| (sp_held (S.2 r) ||| 2 ^ sp_n S.1) = sp_held (S.2 r) ||| 2 ^ sp_n S.1
        rw [sp_rr_new, show sp_ro S.1 none = 0 from rfl, Nat.or_zero, Nat.or_assoc, sp_or_or (show sp_ro S.1 (sp_head (S.2 r)) ||| sp_held (S.2 r) = sp_held (S.2 r) from hR.2.2.2.1 _ hR.1)]
        exact sp_or_rr
  · exact hS
theorem sp_WS_merge {S : sp_S} (hS : sp_WS S) {x y : Int32} : sp_WS (sp_merge S x y).2 := by
  unfold sp_merge
  split
  · rename_i r b e1 e2
    have hr := sp_in_bd e1
    have hb := sp_in_bd e2
    have hR := hS.2 r hr
    split
    · rename_i o h eo eh
      have ho := hR.2.1 b hb o eo
      have hh := hR.2.1 _ hR.1 h eh
      split
      · exact hS
      · split
        · exact hS
        · split
          · exact sp_WS_set hS (sp_WR_mv hS.1 hR ho)
          · split
            · exact hS
            · rename_i t et
              split
              · exact hS
              · have W1 := sp_WH_add hS.1 (by omega) (sp_ok_some hh) (sp_ok_some ho) (sp_snap_wt (sp_WH_of hS.1 sp_base_ok) (sp_WH_of hS.1 (sp_ok_some hh)) (sp_WH_of hS.1 (sp_ok_some ho)) et)
                exact sp_WS_up W1 (fun k hk => sp_WR_add (hS.2 k hk)) (sp_WR_mv W1 (sp_WR_add hR) (Nat.lt_succ_self _))
    · exact hS
  · exact hS
theorem sp_WS_pick {S : sp_S} (hS : sp_WS S) {x y : Int32} : sp_WS (sp_pick S x y).2 := by
  unfold sp_pick
  split
  · exact hS
  · rename_i r e1
    have hr := sp_in_bd e1
    have hR := hS.2 r hr
    split
    · rename_i c h ec eh
      have hh := hR.2.1 _ hR.1 h eh
      have hc := sp_in_bd ec
      split
      · exact hS
      · split
        · exact hS
        · split
          · exact hS
          · split
            · exact hS
            · exact hS
            · rename_i t et
              split
              · exact hS
              · have W1 := sp_WH_add hS.1 (by omega) (sp_ok_some hh) sp_ok_none (sp_again_wt hS.1 hc (sp_WH_of hS.1 (sp_ok_some hh)) et) (p2 := none)
                exact sp_WS_up W1 (fun k hk => sp_WR_add (hS.2 k hk)) (sp_WR_mv W1 (sp_WR_add hR) (Nat.lt_succ_self _))
    · exact hS
theorem sp_WS_rebase {S : sp_S} (hS : sp_WS S) {x y : Int32} : sp_WS (sp_rebase S x y).2 := by
  unfold sp_rebase
  split
  · rename_i r b e1 e2
    have hr := sp_in_bd e1
    have hb := sp_in_bd e2
    have hR := hS.2 r hr
    split
    · rename_i o h eo eh
      have ho := hR.2.1 b hb o eo
      split
      · exact hS
      · split
        · exact hS
        · rename_i ts ets
          have h40 := hS.1.1
          obtain ⟨w1, w2⟩ := sp_replay_wt hS.1 (sp_n S.1) 0 (sp_of S.1 (some o)) [] ts (by omega) (sp_WH_of hS.1 (sp_ok_some ho)) (fun u hu => by cases hu) h40 ets
          obtain ⟨W1, x1, n1⟩ := sp_adds_WH ts S.1 o hS.1 ho w1 w2
          refine sp_WS_up W1 (fun k hk => sp_WR_ext x1 (hS.2 k hk)) (sp_WR_mv W1 (sp_WR_ext x1 hR) ?_)
          rw [n1]
          split <;> omega
    · exact hS
  · exact hS
theorem sp_WS_collect {S : sp_S} (hS : sp_WS S) {x : Int32} : sp_WS (sp_collect S x).2 := by
  unfold sp_collect
  split
  · rename_i r e1
    have hr := sp_in_bd e1
    have hR := hS.2 r hr
    refine sp_WS_set hS ⟨hR.1, hR.2.1, Nat.lt_of_le_of_lt Nat.and_le_left hR.2.2.1, fun b hb => ?_, hR.2.2.2.2⟩
    show sp_ro S.1 (sp_tip (S.2 r) b) ||| (sp_held (S.2 r) &&& sp_all S.1 (S.2 r)) = sp_held (S.2 r) &&& sp_all S.1 (S.2 r)
    have h1 := hR.2.2.2.1 b hb
    apply Nat.eq_of_testBit_eq
    intro i
    have h2 := congrArg (fun n => n.testBit i) h1
    unfold sp_all
    simp only [Nat.testBit_or, Nat.testBit_and] at h2 ⊢
    have h3 : (sp_ro S.1 (sp_tip (S.2 r) b)).testBit i = true → ((sp_ro S.1 (sp_tip (S.2 r) 0)).testBit i || (sp_ro S.1 (sp_tip (S.2 r) 1)).testBit i || (sp_ro S.1 (sp_tip (S.2 r) 2)).testBit i || (sp_ro S.1 (sp_tip (S.2 r) 3)).testBit i) = true := by
      intro z
      match b, hb with
      | 0, _ => rw [z]; simp
      | 1, _ => rw [z]; simp
      | 2, _ => rw [z]; simp
      | 3, _ => rw [z]; simp
      | k + 4, h => omega
    cases h4 : (sp_ro S.1 (sp_tip (S.2 r) b)).testBit i with
    | false => rw [Bool.false_or]
    | true =>
      rw [h4, Bool.true_or] at h2
      rw [← h2, h3 h4]; rfl
  · exact hS
theorem sp_WS_send {S : sp_S} (hS : sp_WS S) {x y : Int32} : sp_WS (sp_send S x y).2 := by
  unfold sp_send
  split
  · rename_i r b e1 e2
    have hr := sp_in_bd e1
    have hb := sp_in_bd e2
    have hR := hS.2 r hr
    have hE := hS.2 (1 - r) (by omega)
    split
    · exact hS
    · rename_i c ec
      have hc := hR.2.1 b hb c ec
      split
      · exact hS
      · split
        · exact hS
        · have R2 : sp_WR S.1 (sp_tip (S.2 (1 - r)), sp_cur (S.2 (1 - r)), sp_held (S.2 (1 - r)) ||| sp_rr S.1 c, sp_wk (S.2 (1 - r)), sp_ix (S.2 (1 - r))) :=
            ⟨hE.1, hE.2.1, Nat.or_lt_two_pow hE.2.2.1 (sp_WH_ro hS.1 (c := some c) (sp_ok_some hc)), fun k hk => sp_or_or (hE.2.2.2.1 k hk), hE.2.2.2.2⟩
          exact sp_WS_set hS (sp_WR_tip R2 (sp_ok_some hc) sp_or_rr)
  · exact hS
