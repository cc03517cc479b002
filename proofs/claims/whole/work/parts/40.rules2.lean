/-! Calls whose end is a relation; small facts on numbers. (Printed by gen_rules2.py.) -/
section XV
variable {L : Nat} {xs : Nat → Int32} {call : xm_K} {M : xm_M} {Q : xm_Q} {pc pc' : Nat} {lo lo' st st' : List Value} {h h' : xm_H} {c s c' s' : Nat}
theorem x_staticR {j n : Nat} {Mj : xm_M} {as r : List Value} {Post : Option Value → xm_H → Prop} (d : decode (xm_by M) pc = .ok (.invokestatic j, 3)) (e : pc + 3 = pc') (hf : xm_cs (xm_y M).cls j Mj n) (hst : st = as.reverse ++ r) (hn : as.length = n) (hr : xm_sum r ≤ 8) (hc : c + xm_mc Mj ≤ xm_mc M) (hs : s + xm_ms Mj ≤ xm_ms M) (hcall : ∀ Q', (∀ v h', Post v h' → Q' v h') → call Mj as h Q') (hc' : c + xm_mc Mj = c') (hs' : s + xm_ms Mj = s') (k : ∀ v h', Post v h' → xm_X L xs call M (pc', lo, v.toList ++ r, h', c', s') Q) : xm_X L xs call M (pc, lo, st, h, c, s) Q := by
  subst e; subst hst; subst hn; subst hc'; subst hs'
  exact fun P hP => hP _ _ _ _ _ _ _ _ d ⟨rfl, Or.inr ⟨Mj, as, hf.1, hf.2.1, hf.2.2.1, hf.2.2.2, r, rfl, hr, hc, hs, hcall _ (fun v h' hp => k v h' hp P hP)⟩⟩
theorem x_virtualR {j n ci a : Nat} {Mj : xm_M} {as r fs : List Value} {Post : Option Value → xm_H → Prop} (d : decode (xm_by M) pc = .ok (.invokevirtual j, 3)) (e : pc + 3 = pc') (hf : xm_cv (xm_y M).cls j Mj n ci) (ha : h[a]? = some (.inr (ci, fs))) (hst : st = (Value.ref a :: as).reverse ++ r) (hn : as.length = n) (hr : xm_sum r ≤ 8) (hc : c + xm_mc Mj ≤ xm_mc M) (hs : s + xm_ms Mj ≤ xm_ms M) (hcall : ∀ Q', (∀ v h', Post v h' → Q' v h') → call Mj (.ref a :: as) h Q') (hc' : c + xm_mc Mj = c') (hs' : s + xm_ms Mj = s') (k : ∀ v h', Post v h' → xm_X L xs call M (pc', lo, v.toList ++ r, h', c', s') Q) : xm_X L xs call M (pc, lo, st, h, c, s) Q := by
  subst e; subst hst; subst hn; subst hc'; subst hs'
  obtain ⟨h1, h2, h3, h4, h5, C, T, N, ty, h6, h7⟩ := hf
  exact fun P hP => hP _ _ _ _ _ _ _ _ d ⟨rfl, Mj, as, a, ci, fs, C, T, N, ty, h1, h2, h3, h4, h5, h6, h7, ha, r, rfl, hr, hc, hs, hcall _ (fun v h' hp => k v h' hp P hP)⟩
theorem x_specialR {j n a : Nat} {Mj : xm_M} {as r : List Value} {Post : Option Value → xm_H → Prop} (d : decode (xm_by M) pc = .ok (.invokespecial j, 3)) (e : pc + 3 = pc') (hf : xm_cn (xm_y M).cls j Mj n) (hst : st = (Value.ref a :: as).reverse ++ r) (hn : as.length = n) (hr : xm_sum r ≤ 8) (hc : c + xm_mc Mj ≤ xm_mc M) (hs : s + xm_ms Mj ≤ xm_ms M) (hcall : ∀ Q', (∀ v h', Post v h' → Q' v h') → call Mj (.ref a :: as) h Q') (hc' : c + xm_mc Mj = c') (hs' : s + xm_ms Mj = s') (k : ∀ v h', Post v h' → xm_X L xs call M (pc', lo, v.toList ++ r, h', c', s') Q) : xm_X L xs call M (pc, lo, st, h, c, s) Q := by
  subst e; subst hst; subst hn; subst hc'; subst hs'
  exact fun P hP => hP _ _ _ _ _ _ _ _ d ⟨rfl, Or.inr ⟨Mj, as, a, hf.1, hf.2.1, hf.2.2.1, hf.2.2.2.1, hf.2.2.2.2.1, hf.2.2.2.2.2, r, rfl, hr, hc, hs, hcall _ (fun v h' hp => k v h' hp P hP)⟩⟩
end XV
theorem sp_nI_inc (k : Nat) : nI k + Int32.ofInt 1 = nI (k + 1) := by
  rw [show Int32.ofInt 1 = 1 by decide]
  exact nI_1 k
theorem sp_nI_inj {a b : Nat} (ha : a < 2 ^ 31) (hb : b < 2 ^ 31) (h : nI a = nI b) : a = b := (nI_eq ha hb).mp h
theorem sp_nI_ne2 {k : Nat} (h : k < 2 ^ 31) : nI k ≠ -2 := by
  intro e
  have := nI_toInt h
  rw [e] at this
  have h2 : (-2 : Int32).toInt = -2 := by decide
  omega
theorem sp_vi_ge {c : Option Nat} {n : Nat} (hn : n ≤ 2 ^ 30) (hc : ∀ k, c = some k → k < n) : (sp_vi c < 0 ↔ c = none) ∧ (sp_vi c = -2 ↔ c = none) := by
  cases c with
  | none => exact ⟨⟨fun _ => rfl, fun _ => by decide⟩, ⟨fun _ => rfl, fun _ => rfl⟩⟩
  | some k =>
    have hk := hc k rfl
    refine ⟨⟨fun h => absurd h (nI_pos (by omega)), fun h => by cases h⟩, ⟨fun h => absurd h (sp_nI_ne2 (by omega)), fun h => by cases h⟩⟩
theorem sp_bi_t : sp_bi true = 1 := rfl
theorem sp_bi_f : sp_bi false = 0 := rfl
theorem sp_bi_eq0 {b : Bool} : sp_bi b = 0 ↔ b = false := by cases b <;> decide
theorem sp_bi_nar (b : Bool) : narrow .boolean (.int (sp_bi b)) = .int (sp_bi b) := by cases b <;> decide
theorem sp_in_some {N k : Nat} (hk : k < N) (hN : N ≤ 2 ^ 30) : sp_in N (nI k) = some k := by
  unfold sp_in
  rw [nI_toInt (by omega), if_pos ⟨by omega, by omega⟩]
  simp
theorem sp_in_lt {N : Nat} {x : Int32} (h : x < 0) : sp_in N x = none := by
  unfold sp_in
  rw [Int32.lt_iff_toInt_lt, Int32.toInt_zero] at h
  rw [if_neg (by omega)]
theorem sp_in_ge {N : Nat} {x : Int32} (hN : N ≤ 2 ^ 30) (h : nI N ≤ x) : sp_in N x = none := by
  unfold sp_in
  rw [Int32.le_iff_toInt_le, nI_toInt (by omega)] at h
  rw [if_neg (by omega)]
theorem sp_in_cases (N : Nat) (hN : N ≤ 2 ^ 30) (x : Int32) : (x < 0 ∧ sp_in N x = none) ∨ (¬ x < 0 ∧ nI N ≤ x ∧ sp_in N x = none) ∨ ∃ k, k < N ∧ x = nI k ∧ sp_in N x = some k := by
  rcases pk_ix x (n := N) (by omega) with h | h | ⟨j, hj, rfl⟩
  · exact Or.inl ⟨h, sp_in_lt h⟩
  · by_cases h0 : x < 0
    · exact Or.inl ⟨h0, sp_in_lt h0⟩
    · exact Or.inr (Or.inl ⟨h0, h, sp_in_ge hN h⟩)
  · exact Or.inr (Or.inr ⟨j, hj, rfl, sp_in_some hj hN⟩)
theorem sp_tb (m k : Nat) : m.testBit k = decide (m / 2 ^ k % 2 = 1) := by rw [Nat.testBit_eq_decide_div_mod_eq]
theorem sp_tb_0 {m k : Nat} (h : lg_cmp (lN (m / 2 ^ k % 2)) 0 = 0) : m.testBit k = false := by
  rw [lg_cmp_eq] at h
  rw [sp_tb]
  have h2 : m / 2 ^ k % 2 < 2 := Nat.mod_lt _ (by decide)
  have h3 : m / 2 ^ k % 2 = 0 := (pk_lEQ (a := m / 2 ^ k % 2) (b := 0) (by omega) (by decide)).mp h
  simp [h3]
theorem sp_tb_1 {m k : Nat} (h : ¬ lg_cmp (lN (m / 2 ^ k % 2)) 0 = 0) : m.testBit k = true := by
  rw [lg_cmp_eq] at h
  rw [sp_tb]
  have h2 : m / 2 ^ k % 2 < 2 := Nat.mod_lt _ (by decide)
  have h3 : ¬ m / 2 ^ k % 2 = 0 := fun e => h (by rw [e]; rfl)
  simp
  omega
theorem sp_lt64 {m k : Nat} (hm : m < 2 ^ 64) : m / 2 ^ k < 2 ^ 64 := Nat.lt_of_le_of_lt (Nat.div_le_self _ _) hm
