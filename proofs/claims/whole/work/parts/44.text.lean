/-! Texts as lists and as numbers; contracts of Texts and of take. (Printed by c_text.py.) -/
theorem sp_16 (k : Nat) : 2 ^ (4 * k) = 16 ^ k := by rw [Nat.pow_mul]
theorem sp_dec_len : ∀ (k m : Nat), (sp_dec m k).length = k
  | 0, _ => rfl
  | k + 1, m => by
    unfold sp_dec
    rw [List.length_cons, sp_dec_len k]
theorem sp_dec_lt : ∀ (k m : Nat), ∀ d ∈ sp_dec m k, d < 16
  | 0, _, d, h => by cases h
  | k + 1, m, d, h => by
    unfold sp_dec at h
    rcases List.mem_cons.mp h with h | h
    · rw [h]
      exact Nat.mod_lt _ (by decide)
    · exact sp_dec_lt k _ d h
theorem sp_dec_dig : ∀ (k m : Nat), sp_dig (sp_dec m k) = m % 16 ^ k
  | 0, m => by
    rw [Nat.pow_zero, Nat.mod_one]
    rfl
  | k + 1, m => by
    unfold sp_dec sp_dig
    rw [sp_dec_dig k, Nat.pow_succ, Nat.mul_comm (16 ^ k) 16, Nat.mod_mul]
theorem sp_enc_dec (k m : Nat) : sp_enc (sp_dec m k) = k * 4294967296 + m % 16 ^ k := by
  unfold sp_enc
  rw [sp_dec_len, sp_dec_dig]
abbrev sp_wl (t : List Nat) : Prop := t.length ≤ 8 ∧ ∀ d ∈ t, d < 16
theorem sp_wl_drop {t : List Nat} (h : sp_wl t) (i : Nat) : sp_wl (t.drop i) := ⟨by rw [List.length_drop]; have := h.1; omega, fun d hd => h.2 d (List.mem_of_mem_drop hd)⟩
theorem sp_wl_take {t : List Nat} (h : sp_wl t) (i : Nat) : sp_wl (t.take i) := ⟨by rw [List.length_take]; have := h.1; omega, fun d hd => h.2 d (List.mem_of_mem_take hd)⟩
theorem sp_wl_sl {t : List Nat} (h : sp_wl t) (i k : Nat) : sp_wl (sp_sl t i k) := sp_wl_take (sp_wl_drop h i) _
theorem sp_enc_len {t : List Nat} (h : sp_wl t) : sp_enc t / 4294967296 = t.length := by
  have := sp_dig32 h.1 h.2
  unfold sp_enc
  omega
theorem sp_enc_64 {t : List Nat} (h : sp_wl t) : sp_enc t < 2 ^ 64 := Nat.lt_of_lt_of_le (sp_enc_lt h.1 h.2) (by decide)
theorem sp_dig_div : ∀ {t : List Nat} (i : Nat), (∀ d ∈ t, d < 16) → sp_dig t / 16 ^ i = sp_dig (t.drop i)
  | t, 0, _ => by rw [Nat.pow_zero, Nat.div_one, List.drop_zero]
  | [], i + 1, _ => by
    show 0 / _ = sp_dig []
    rw [Nat.zero_div]
    rfl
  | d :: t, i + 1, h => by
    have hd := h d List.mem_cons_self
    rw [List.drop_succ_cons, ← sp_dig_div i (fun x hx => h x (List.mem_cons_of_mem _ hx)), Nat.pow_succ, Nat.mul_comm, ← Nat.div_div_eq_div_mul]
    congr 1
    rw [show sp_dig (d :: t) = d + 16 * sp_dig t from rfl]
    omega
theorem sp_dec_take : ∀ {t : List Nat} (n : Nat), n ≤ t.length → (∀ d ∈ t, d < 16) → sp_dec (sp_dig t) n = t.take n
  | t, 0, _, _ => by rw [List.take_zero]; rfl
  | [], n + 1, h, _ => by simp at h
  | d :: t, n + 1, h, h2 => by
    have hd := h2 d List.mem_cons_self
    rw [List.take_succ_cons, ← sp_dec_take n (by simpa using h) (fun x hx => h2 x (List.mem_cons_of_mem _ hx))]
    unfold sp_dec
    have e1 : sp_dig (d :: t) % 16 = d := by unfold sp_dig; omega
    have e2 : sp_dig (d :: t) / 16 = sp_dig t := by
      rw [show sp_dig (d :: t) = d + 16 * sp_dig t from rfl]
      omega
    rw [e1, e2]
    cases n <;> rfl
theorem sp_dec_mod : ∀ (n a m : Nat), sp_dec (a * 16 ^ n + m) n = sp_dec m n
  | 0, _, _ => rfl
  | n + 1, a, m => by
    unfold sp_dec
    have e1 : (a * 16 ^ (n + 1) + m) % 16 = m % 16 := by rw [Nat.pow_succ, ← Nat.mul_assoc, Nat.add_comm, Nat.add_mul_mod_self_right]
    have e2 : (a * 16 ^ (n + 1) + m) / 16 = a * 16 ^ n + m / 16 := by
      rw [Nat.pow_succ, ← Nat.mul_assoc]
      omega
    rw [e1, e2, sp_dec_mod n]
theorem sp_enc_div {t : List Nat} (h : sp_wl t) {i : Nat} (hi : i ≤ 8) : sp_enc t / 16 ^ i = t.length * 16 ^ (8 - i) + sp_dig (t.drop i) := by
  have e : 4294967296 = 16 ^ (8 - i) * 16 ^ i := by
    rw [← Nat.pow_add, Nat.sub_add_cancel hi]
  unfold sp_enc
  rw [e, ← Nat.mul_assoc, Nat.add_comm, Nat.add_mul_div_right _ _ (Nat.pow_pos (by decide)), sp_dig_div i h.2, Nat.add_comm]
theorem sp_enc_sl {t : List Nat} (h : sp_wl t) {i k : Nat} (hi : i ≤ k) (hk : k ≤ t.length) : sp_dec (sp_enc t / 16 ^ i) (k - i) = sp_sl t i k := by
  have hl := h.1
  rw [sp_enc_div h (by omega)]
  have e : 16 ^ (8 - i) = 16 ^ (8 - k) * 16 ^ (k - i) := by rw [← Nat.pow_add]; congr 1; omega
  rw [e, ← Nat.mul_assoc, sp_dec_mod]
  exact sp_dec_take (k - i) (by rw [List.length_drop]; omega) (sp_wl_drop h i).2
theorem sp_enc_at {t : List Nat} (h : sp_wl t) {i : Nat} (hi : i < t.length) : sp_enc t / 16 ^ i % 16 = t.getD i 0 := by
  have hl := h.1
  rw [sp_enc_div h (by omega), show 8 - i = (8 - i - 1) + 1 by omega, Nat.pow_succ, ← Nat.mul_assoc, Nat.add_comm, Nat.add_mul_mod_self_right, List.drop_eq_getElem_cons hi]
  have := h.2 _ (List.getElem_mem hi)
  unfold sp_dig
  rw [List.getD_eq_getElem?_getD, List.getElem?_eq_getElem hi]
  simp only [Option.getD_some]
  omega
/-- a text or CLASH -/
def sp_jv (t : Option (List Nat)) : Int64 := match t with
  | none => -5
  | some t => lN (sp_enc t)
def sp_join (a b : Option (List Nat)) : Option (List Nat) := match a, b with
  | some a, some b => if a.length + b.length ≤ 8 then some (a ++ b) else none
  | _, _ => none
theorem sp_lN_m5 {n : Nat} (h : n < 2 ^ 62) : lN n ≠ -5 := by
  intro e
  have h1 := pk_lT (n := n) (by omega)
  rw [e] at h1
  have h2 : (-5 : Int64).toInt = -5 := by decide
  omega
theorem sp_jv5 {t : List Nat} (h : sp_wl t) : lN (sp_enc t) ≠ -5 := sp_lN_m5 (Nat.lt_of_lt_of_le (sp_enc_lt h.1 h.2) (by decide))
theorem sp_dig_app : ∀ (a b : List Nat), sp_dig (a ++ b) = sp_dig a + sp_dig b * 16 ^ a.length
  | [], b => by
    rw [List.nil_append, List.length_nil, Nat.pow_zero, Nat.mul_one]
    show _ = 0 + _
    rw [Nat.zero_add]
  | d :: a, b => by
    rw [List.cons_append, List.length_cons, Nat.pow_succ, show sp_dig (d :: (a ++ b)) = d + 16 * sp_dig (a ++ b) from rfl, show sp_dig (d :: a) = d + 16 * sp_dig a from rfl, sp_dig_app a b, ← Nat.mul_assoc]
    omega
theorem sp_wl_app {a b : List Nat} (ha : sp_wl a) (hb : sp_wl b) (h : a.length + b.length ≤ 8) : sp_wl (a ++ b) := ⟨by rw [List.length_append]; exact h, fun d hd => (List.mem_append.mp hd).elim (ha.2 d) (hb.2 d)⟩
theorem sp_enc_dig {t : List Nat} (h : sp_wl t) : sp_enc t % 4294967296 = sp_dig t := by
  have := sp_dig32 h.1 h.2
  unfold sp_enc
  omega
theorem sp_dec_all {t : List Nat} (h : sp_wl t) : sp_dec (sp_dig t) t.length = t := by
  rw [sp_dec_take t.length (Nat.le_refl _) h.2, List.take_length]
theorem c_T_pack {L : Nat} {xs : Nat → Int32} {d : Nat} {h : xm_H} {Q : xm_Q} {m k : Nat} (hm : m < 2 ^ 64) (hk : k ≤ 8) (hQ : Q (some (.long (lN (sp_enc (sp_dec m k))))) h) : xm_call L xs (d + 1) m_T_pack [.long (lN m), .int (nI k)] h Q := by
  have hb : m % 2 ^ (4 * k) < 2 ^ 32 := Nat.lt_of_lt_of_le (Nat.mod_lt _ (Nat.two_pow_pos _)) (Nat.pow_le_pow_right (by decide) (by omega))
  have hor : lN (k * 2 ^ 32) ||| lN (m % 2 ^ (4 * k)) = lN (sp_enc (sp_dec m k)) := by
    rw [g_or (k := 32) rfl hb (by omega), sp_enc_dec, ← sp_16]
  refine x_call (lo := [.long (lN m), .float 0, .int (nI k), .float 0, .float 0]) (Nat.le_of_ble_eq_true rfl) rfl ?_
  refine x_lconst (v := lN 1) (pc' := 1) d_T_pack_0 rfl (by decide) ?_
  refine x_iconst (v := nI 4) (pc' := 2) d_T_pack_1 rfl (by decide) ?_
  refine x_iload_n (pc' := 3) d_T_pack_2 rfl rfl ?_
  refine x_imul (z := nI (4 * k)) (pc' := 4) d_T_pack_3 rfl (pk_mul 4 k) ?_
  refine x_lshl (z := lN (2 ^ (4 * k))) (pc' := 5) d_T_pack_4 rfl (by rw [wb_shl 1 (by omega), Nat.one_mul]) ?_
  refine x_lconst (v := lN 1) (pc' := 6) d_T_pack_5 rfl (by decide) ?_
  refine x_lsub (z := lN (2 ^ (4 * k) - 1)) (pc' := 7) d_T_pack_6 rfl (lN_sub Nat.one_le_two_pow) ?_
  refine x_lstore_n (lo' := [.long (lN m), .float 0, .int (nI k), .long (lN (2 ^ (4 * k) - 1)), .float 0]) (pc' := 8) d_T_pack_7 rfl (Nat.le_of_ble_eq_true rfl) rfl ?_
  refine x_iload_n (pc' := 9) d_T_pack_8 rfl rfl ?_
  refine x_i2l (z := lN k) (pc' := 10) d_T_pack_9 rfl (nI_l (by omega)) ?_
  refine x_bipush (v := nI 32) (pc' := 12) d_T_pack_10 rfl (by decide) ?_
  refine x_lshl (z := lN (k * 2 ^ 32)) (pc' := 13) d_T_pack_12 rfl (wb_shl k (by decide)) ?_
  refine x_lload_n (pc' := 14) d_T_pack_13 rfl rfl rfl ?_
  refine x_lload_n (pc' := 15) d_T_pack_14 rfl rfl rfl ?_
  refine x_land (z := lN (m % 2 ^ (4 * k))) (pc' := 16) d_T_pack_15 rfl (wb_mask hm (by omega)) ?_
  refine x_lor (z := lN (sp_enc (sp_dec m k))) (pc' := 17) d_T_pack_16 rfl hor ?_
  exact x_lreturn d_T_pack_17 rfl hQ
theorem c_T_countOf {L : Nat} {xs : Nat → Int32} {d : Nat} {h : xm_H} {Q : xm_Q} {t : List Nat} (ht : sp_wl t) (hQ : Q (some (.int (nI t.length))) h) : xm_call L xs (d + 1) m_T_countOf [.long (lN (sp_enc t))] h Q := by
  refine x_call (lo := [.long (lN (sp_enc t)), .float 0]) (Nat.le_of_ble_eq_true rfl) rfl ?_
  refine x_lload_n (pc' := 1) d_T_countOf_0 rfl rfl rfl ?_
  refine x_bipush (v := nI 32) (pc' := 3) d_T_countOf_1 rfl (by decide) ?_
  refine x_lushr (z := lN t.length) (pc' := 4) d_T_countOf_3 rfl (by rw [wb_shr (sp_enc_64 ht) (by decide), show 2 ^ 32 = 4294967296 from rfl, sp_enc_len ht]) ?_
  refine x_l2i (z := nI t.length) (pc' := 5) d_T_countOf_4 rfl (lN_i _) ?_
  exact x_ireturn d_T_countOf_5 rfl rfl hQ
theorem c_T_lineAt {L : Nat} {xs : Nat → Int32} {d : Nat} {h : xm_H} {Q : xm_Q} {t : List Nat} {j : Nat} (ht : sp_wl t) (hj : j < t.length) (hQ : Q (some (.long (lN (t.getD j 0)))) h) : xm_call L xs (d + 1) m_T_lineAt [.long (lN (sp_enc t)), .int (nI j)] h Q := by
  refine x_call (lo := [.long (lN (sp_enc t)), .float 0, .int (nI j)]) (Nat.le_of_ble_eq_true rfl) rfl ?_
  refine x_lload_n (pc' := 1) d_T_lineAt_0 rfl rfl rfl ?_
  refine x_iconst (v := nI 4) (pc' := 2) d_T_lineAt_1 rfl (by decide) ?_
  refine x_iload_n (pc' := 3) d_T_lineAt_2 rfl rfl ?_
  refine x_imul (z := nI (4 * j)) (pc' := 4) d_T_lineAt_3 rfl (pk_mul 4 j) ?_
  refine x_lushr (z := lN (sp_enc t / 2 ^ (4 * j))) (pc' := 5) d_T_lineAt_4 rfl (wb_shr (sp_enc_64 ht) (by have := ht.1; omega)) ?_
  refine x_ldc2_w (x := 15) (pc' := 8) d_T_lineAt_5 rfl k_T_11 ?_
  refine x_land (z := lN (t.getD j 0)) (pc' := 9) d_T_lineAt_8 rfl (by rw [show (15 : Int64) = lN (2 ^ 4 - 1) from rfl, wb_mask (sp_lt64 (sp_enc_64 ht)) (by decide), sp_16, show 2 ^ 4 = 16 from rfl, sp_enc_at ht hj]) ?_
  exact x_lreturn d_T_lineAt_9 rfl hQ
theorem c_T_piece {L : Nat} {xs : Nat → Int32} {d : Nat} {h : xm_H} {Q : xm_Q} {t : List Nat} {i k : Nat} (ht : sp_wl t) (hi : i ≤ k) (hk : k ≤ t.length) (hQ : Q (some (.long (lN (sp_enc (sp_sl t i k))))) h) : xm_call L xs (d + 2) m_T_piece [.long (lN (sp_enc t)), .int (nI i), .int (nI k)] h Q := by
  refine x_call (lo := [.long (lN (sp_enc t)), .float 0, .int (nI i), .int (nI k)]) (Nat.le_of_ble_eq_true rfl) rfl ?_
  refine x_lload_n (pc' := 1) d_T_piece_0 rfl rfl rfl ?_
  refine x_iconst (v := nI 4) (pc' := 2) d_T_piece_1 rfl (by decide) ?_
  refine x_iload_n (pc' := 3) d_T_piece_2 rfl rfl ?_
  refine x_imul (z := nI (4 * i)) (pc' := 4) d_T_piece_3 rfl (pk_mul 4 i) ?_
  refine x_lushr (z := lN (sp_enc t / 2 ^ (4 * i))) (pc' := 5) d_T_piece_4 rfl (wb_shr (sp_enc_64 ht) (by have := ht.1; omega)) ?_
  refine x_iload_n (pc' := 6) d_T_piece_5 rfl rfl ?_
  refine x_iload_n (pc' := 7) d_T_piece_6 rfl rfl ?_
  refine x_isub (z := nI (k - i)) (pc' := 8) d_T_piece_7 rfl (pk_sub hi) ?_
  refine x_static (as := [.long (lN (sp_enc t / 2 ^ (4 * i))), .int (nI (k - i))]) (r := []) (v := (some (.long (lN (sp_enc (sp_sl t i k)))))) (h' := h) (st' := [.long (lN (sp_enc (sp_sl t i k)))]) (c' := 0) (s' := 0) (pc' := 11) d_T_piece_8 rfl c_T_13 rfl rfl (Nat.le_of_ble_eq_true rfl) (Nat.le_of_ble_eq_true rfl) (Nat.le_of_ble_eq_true rfl) (fun Q' hq => c_T_pack (sp_lt64 (sp_enc_64 ht)) (by have := ht.1; omega) (x_ql (by rw [sp_16, sp_enc_sl ht hi hk]) hq)) rfl rfl rfl ?_
  exact x_lreturn d_T_piece_11 rfl hQ
theorem c_T_join0 {L : Nat} {xs : Nat → Int32} {d : Nat} {h : xm_H} {Q : xm_Q} {y : Int64} (hQ : Q (some (.long (-5))) h) : xm_call L xs (d + 2) m_T_join [.long (-5), .long y] h Q := by
  refine x_call (lo := [.long (-5), .float 0, .long y, .float 0, .float 0, .float 0, .float 0, .float 0]) (Nat.le_of_ble_eq_true rfl) rfl ?_
  refine x_lload_n (pc' := 1) d_T_join_0 rfl rfl rfl ?_
  refine x_ldc2_w (x := (-5)) (pc' := 4) d_T_join_1 rfl k_T_17 ?_
  refine x_lcmp (z := lg_cmp (-5) (-5)) (pc' := 5) d_T_join_4 rfl rfl ?_
  refine x_ifeq (t := 16) (pc' := 8) d_T_join_5 rfl rfl (fun _ => ?_) (fun q => absurd ((lg_cmp_eq _ _).mpr rfl) q)
  refine x_ldc2_w (x := (-5)) (pc' := 19) d_T_join_16 rfl k_T_17 ?_
  exact x_lreturn d_T_join_19 rfl hQ
theorem c_T_join1 {L : Nat} {xs : Nat → Int32} {d : Nat} {h : xm_H} {Q : xm_Q} {x : Int64} (hx : x ≠ -5) (hQ : Q (some (.long (-5))) h) : xm_call L xs (d + 2) m_T_join [.long x, .long (-5)] h Q := by
  refine x_call (lo := [.long x, .float 0, .long (-5), .float 0, .float 0, .float 0, .float 0, .float 0]) (Nat.le_of_ble_eq_true rfl) rfl ?_
  refine x_lload_n (pc' := 1) d_T_join_0 rfl rfl rfl ?_
  refine x_ldc2_w (x := (-5)) (pc' := 4) d_T_join_1 rfl k_T_17 ?_
  refine x_lcmp (z := lg_cmp x (-5)) (pc' := 5) d_T_join_4 rfl rfl ?_
  refine x_ifeq (t := 16) (pc' := 8) d_T_join_5 rfl rfl (fun q => absurd q (fun z => hx ((lg_cmp_eq _ _).mp z))) (fun _ => ?_)
  refine x_lload_n (pc' := 9) d_T_join_8 rfl rfl rfl ?_
  refine x_ldc2_w (x := (-5)) (pc' := 12) d_T_join_9 rfl k_T_17 ?_
  refine x_lcmp (z := lg_cmp (-5) (-5)) (pc' := 13) d_T_join_12 rfl rfl ?_
  refine x_ifne (t := 20) (pc' := 16) d_T_join_13 rfl rfl (fun q => absurd ((lg_cmp_eq _ _).mpr rfl) q) (fun _ => ?_)
  refine x_ldc2_w (x := (-5)) (pc' := 19) d_T_join_16 rfl k_T_17 ?_
  exact x_lreturn d_T_join_19 rfl hQ
theorem c_T_join2 {L : Nat} {xs : Nat → Int32} {d : Nat} {h : xm_H} {Q : xm_Q} {a b : List Nat} (ha : sp_wl a) (hb : sp_wl b) (hn : ¬ a.length + b.length ≤ 8) (hQ : Q (some (.long (-5))) h) : xm_call L xs (d + 2) m_T_join [.long (lN (sp_enc a)), .long (lN (sp_enc b))] h Q := by
  refine x_call (lo := [.long (lN (sp_enc a)), .float 0, .long (lN (sp_enc b)), .float 0, .float 0, .float 0, .float 0, .float 0]) (Nat.le_of_ble_eq_true rfl) rfl ?_
  refine x_lload_n (pc' := 1) d_T_join_0 rfl rfl rfl ?_
  refine x_ldc2_w (x := (-5)) (pc' := 4) d_T_join_1 rfl k_T_17 ?_
  refine x_lcmp (z := lg_cmp (lN (sp_enc a)) (-5)) (pc' := 5) d_T_join_4 rfl rfl ?_
  refine x_ifeq (t := 16) (pc' := 8) d_T_join_5 rfl rfl (fun q => absurd q (fun z => sp_jv5 ha ((lg_cmp_eq _ _).mp z))) (fun _ => ?_)
  refine x_lload_n (pc' := 9) d_T_join_8 rfl rfl rfl ?_
  refine x_ldc2_w (x := (-5)) (pc' := 12) d_T_join_9 rfl k_T_17 ?_
  refine x_lcmp (z := lg_cmp (lN (sp_enc b)) (-5)) (pc' := 13) d_T_join_12 rfl rfl ?_
  refine x_ifne (t := 20) (pc' := 16) d_T_join_13 rfl rfl (fun _ => ?_) (fun q => absurd q (fun z => sp_jv5 hb ((lg_cmp_eq _ _).mp z)))
  refine x_lload_n (pc' := 21) d_T_join_20 rfl rfl rfl ?_
  refine x_static (as := [.long (lN (sp_enc a))]) (r := []) (v := (some (.int (nI a.length)))) (h' := h) (st' := [.int (nI a.length)]) (c' := 0) (s' := 0) (pc' := 24) d_T_join_21 rfl c_T_19 rfl rfl (Nat.le_of_ble_eq_true rfl) (Nat.le_of_ble_eq_true rfl) (Nat.le_of_ble_eq_true rfl) (fun Q' hq => c_T_countOf ha hq) rfl rfl rfl ?_
  refine x_istore (lo' := [.long (lN (sp_enc a)), .float 0, .long (lN (sp_enc b)), .float 0, .int (nI a.length), .float 0, .float 0, .float 0]) (pc' := 26) d_T_join_24 rfl (Nat.le_of_ble_eq_true rfl) rfl ?_
  refine x_iload (pc' := 28) d_T_join_26 rfl rfl ?_
  refine x_lload_n (pc' := 29) d_T_join_28 rfl rfl rfl ?_
  refine x_static (as := [.long (lN (sp_enc b))]) (r := [.int (nI a.length)]) (v := (some (.int (nI b.length)))) (h' := h) (st' := [.int (nI b.length), .int (nI a.length)]) (c' := 0) (s' := 0) (pc' := 32) d_T_join_29 rfl c_T_19 rfl rfl (Nat.le_of_ble_eq_true rfl) (Nat.le_of_ble_eq_true rfl) (Nat.le_of_ble_eq_true rfl) (fun Q' hq => c_T_countOf hb hq) rfl rfl rfl ?_
  refine x_iadd (z := nI (a.length + b.length)) (pc' := 33) d_T_join_32 rfl (nI_add _ _) ?_
  refine x_istore (lo' := [.long (lN (sp_enc a)), .float 0, .long (lN (sp_enc b)), .float 0, .int (nI a.length), .int (nI (a.length + b.length)), .float 0, .float 0]) (pc' := 35) d_T_join_33 rfl (Nat.le_of_ble_eq_true rfl) rfl ?_
  refine x_iload (pc' := 37) d_T_join_35 rfl rfl ?_
  refine x_bipush (v := nI 8) (pc' := 39) d_T_join_37 rfl (by decide) ?_
  refine x_icmple (t := 46) (pc' := 42) d_T_join_39 rfl rfl (fun q => absurd q (nI_ge (by omega) (by have := ha.1; have := hb.1; omega))) (fun _ => ?_)
  refine x_ldc2_w (x := (-5)) (pc' := 45) d_T_join_42 rfl k_T_17 ?_
  exact x_lreturn d_T_join_45 rfl hQ
theorem c_T_join3 {L : Nat} {xs : Nat → Int32} {d : Nat} {h : xm_H} {Q : xm_Q} {a b : List Nat} (ha : sp_wl a) (hb : sp_wl b) (hn : a.length + b.length ≤ 8) (hQ : Q (some (.long (lN (sp_enc (a ++ b))))) h) : xm_call L xs (d + 2) m_T_join [.long (lN (sp_enc a)), .long (lN (sp_enc b))] h Q := by
  have hab := sp_wl_app ha hb hn
  have h1 := sp_dig_lt ha.2
  have h2 := sp_dig32 hab.1 hab.2
  have hor : lN (sp_dig a) ||| lN (sp_dig b * 2 ^ (4 * a.length)) = lN (sp_dig (a ++ b)) := by
    rw [sp_dig_app] at h2
    rw [g_or' (k := 4 * a.length) rfl (by rw [sp_16]; exact h1) (by rw [sp_16]; omega), sp_dig_app, sp_16]
  refine x_call (lo := [.long (lN (sp_enc a)), .float 0, .long (lN (sp_enc b)), .float 0, .float 0, .float 0, .float 0, .float 0]) (Nat.le_of_ble_eq_true rfl) rfl ?_
  refine x_lload_n (pc' := 1) d_T_join_0 rfl rfl rfl ?_
  refine x_ldc2_w (x := (-5)) (pc' := 4) d_T_join_1 rfl k_T_17 ?_
  refine x_lcmp (z := lg_cmp (lN (sp_enc a)) (-5)) (pc' := 5) d_T_join_4 rfl rfl ?_
  refine x_ifeq (t := 16) (pc' := 8) d_T_join_5 rfl rfl (fun q => absurd q (fun z => sp_jv5 ha ((lg_cmp_eq _ _).mp z))) (fun _ => ?_)
  refine x_lload_n (pc' := 9) d_T_join_8 rfl rfl rfl ?_
  refine x_ldc2_w (x := (-5)) (pc' := 12) d_T_join_9 rfl k_T_17 ?_
  refine x_lcmp (z := lg_cmp (lN (sp_enc b)) (-5)) (pc' := 13) d_T_join_12 rfl rfl ?_
  refine x_ifne (t := 20) (pc' := 16) d_T_join_13 rfl rfl (fun _ => ?_) (fun q => absurd q (fun z => sp_jv5 hb ((lg_cmp_eq _ _).mp z)))
  refine x_lload_n (pc' := 21) d_T_join_20 rfl rfl rfl ?_
  refine x_static (as := [.long (lN (sp_enc a))]) (r := []) (v := (some (.int (nI a.length)))) (h' := h) (st' := [.int (nI a.length)]) (c' := 0) (s' := 0) (pc' := 24) d_T_join_21 rfl c_T_19 rfl rfl (Nat.le_of_ble_eq_true rfl) (Nat.le_of_ble_eq_true rfl) (Nat.le_of_ble_eq_true rfl) (fun Q' hq => c_T_countOf ha hq) rfl rfl rfl ?_
  refine x_istore (lo' := [.long (lN (sp_enc a)), .float 0, .long (lN (sp_enc b)), .float 0, .int (nI a.length), .float 0, .float 0, .float 0]) (pc' := 26) d_T_join_24 rfl (Nat.le_of_ble_eq_true rfl) rfl ?_
  refine x_iload (pc' := 28) d_T_join_26 rfl rfl ?_
  refine x_lload_n (pc' := 29) d_T_join_28 rfl rfl rfl ?_
  refine x_static (as := [.long (lN (sp_enc b))]) (r := [.int (nI a.length)]) (v := (some (.int (nI b.length)))) (h' := h) (st' := [.int (nI b.length), .int (nI a.length)]) (c' := 0) (s' := 0) (pc' := 32) d_T_join_29 rfl c_T_19 rfl rfl (Nat.le_of_ble_eq_true rfl) (Nat.le_of_ble_eq_true rfl) (Nat.le_of_ble_eq_true rfl) (fun Q' hq => c_T_countOf hb hq) rfl rfl rfl ?_
  refine x_iadd (z := nI (a.length + b.length)) (pc' := 33) d_T_join_32 rfl (nI_add _ _) ?_
  refine x_istore (lo' := [.long (lN (sp_enc a)), .float 0, .long (lN (sp_enc b)), .float 0, .int (nI a.length), .int (nI (a.length + b.length)), .float 0, .float 0]) (pc' := 35) d_T_join_33 rfl (Nat.le_of_ble_eq_true rfl) rfl ?_
  refine x_iload (pc' := 37) d_T_join_35 rfl rfl ?_
  refine x_bipush (v := nI 8) (pc' := 39) d_T_join_37 rfl (by decide) ?_
  refine x_icmple (t := 46) (pc' := 42) d_T_join_39 rfl rfl (fun _ => ?_) (fun q => absurd (nI_le hn (by decide)) q)
  refine x_lload_n (pc' := 47) d_T_join_46 rfl rfl rfl ?_
  refine x_ldc2_w (x := 4294967295) (pc' := 50) d_T_join_47 rfl k_T_23 ?_
  refine x_land (z := lN (sp_dig b)) (pc' := 51) d_T_join_50 rfl (by rw [show (4294967295 : Int64) = lN (2 ^ 32 - 1) from rfl, wb_mask (sp_enc_64 hb) (by decide), show 2 ^ 32 = 4294967296 from rfl, sp_enc_dig hb]) ?_
  refine x_iconst (v := nI 4) (pc' := 52) d_T_join_51 rfl (by decide) ?_
  refine x_iload (pc' := 54) d_T_join_52 rfl rfl ?_
  refine x_imul (z := nI (4 * a.length)) (pc' := 55) d_T_join_54 rfl (pk_mul 4 _) ?_
  refine x_lshl (z := lN (sp_dig b * 2 ^ (4 * a.length))) (pc' := 56) d_T_join_55 rfl (wb_shl _ (by have := ha.1; omega)) ?_
  refine x_lstore (lo' := [.long (lN (sp_enc a)), .float 0, .long (lN (sp_enc b)), .float 0, .int (nI a.length), .int (nI (a.length + b.length)), .long (lN (sp_dig b * 2 ^ (4 * a.length))), .float 0]) (pc' := 58) d_T_join_56 rfl (Nat.le_of_ble_eq_true rfl) rfl ?_
  refine x_lload_n (pc' := 59) d_T_join_58 rfl rfl rfl ?_
  refine x_ldc2_w (x := 4294967295) (pc' := 62) d_T_join_59 rfl k_T_23 ?_
  refine x_land (z := lN (sp_dig a)) (pc' := 63) d_T_join_62 rfl (by rw [show (4294967295 : Int64) = lN (2 ^ 32 - 1) from rfl, wb_mask (sp_enc_64 ha) (by decide), show 2 ^ 32 = 4294967296 from rfl, sp_enc_dig ha]) ?_
  refine x_lload (pc' := 65) d_T_join_63 rfl rfl rfl ?_
  refine x_lor (z := lN (sp_dig (a ++ b))) (pc' := 66) d_T_join_65 rfl hor ?_
  refine x_iload (pc' := 68) d_T_join_66 rfl rfl ?_
  refine x_static (as := [.long (lN (sp_dig (a ++ b))), .int (nI (a.length + b.length))]) (r := []) (v := (some (.long (lN (sp_enc (a ++ b)))))) (h' := h) (st' := [.long (lN (sp_enc (a ++ b)))]) (c' := 0) (s' := 0) (pc' := 71) d_T_join_68 rfl c_T_13 rfl rfl (Nat.le_of_ble_eq_true rfl) (Nat.le_of_ble_eq_true rfl) (Nat.le_of_ble_eq_true rfl) (fun Q' hq => c_T_pack (m := sp_dig (a ++ b)) (Nat.lt_of_lt_of_le (sp_dig32 hab.1 hab.2) (by decide)) hn (x_ql (by rw [← List.length_append, sp_dec_all hab]) hq)) rfl rfl rfl ?_
  exact x_lreturn d_T_join_71 rfl hQ
theorem c_T_join {L : Nat} {xs : Nat → Int32} {d : Nat} {h : xm_H} {Q : xm_Q} {a b : Option (List Nat)} (ha : sp_wt a) (hb : sp_wt b) (hQ : Q (some (.long (sp_jv (sp_join a b)))) h) : xm_call L xs (d + 2) m_T_join [.long (sp_jv a), .long (sp_jv b)] h Q := by
  cases a with
  | none => exact c_T_join0 hQ
  | some a =>
    have ha := ha a rfl
    cases b with
    | none => exact c_T_join1 (sp_jv5 ha) hQ
    | some b =>
      have hb := hb b rfl
      by_cases hn : a.length + b.length ≤ 8
      · exact c_T_join3 ha hb hn (x_ql (by rw [show sp_join (some a) (some b) = some (a ++ b) from if_pos hn]; rfl) hQ)
      · exact c_T_join2 ha hb hn (x_ql (by rw [show sp_join (some a) (some b) = none from if_neg hn]; rfl) hQ)
def sp_tk (o a b : Int64) : Int64 := if a = o then b else if b = o ∨ b = a then a else -5
theorem c_U_take {L : Nat} {xs : Nat → Int32} {d : Nat} {h : xm_H} {Q : xm_Q} {o a b : Int64} (hQ : Q (some (.long (sp_tk o a b))) h) : xm_call L xs (d + 1) m_U_take [.long o, .long a, .long b] h Q := by
  refine x_call (lo := [.long o, .float 0, .long a, .float 0, .long b, .float 0]) (Nat.le_of_ble_eq_true rfl) rfl ?_
  refine x_lload_n (pc' := 1) d_U_take_0 rfl rfl rfl ?_
  refine x_lload_n (pc' := 2) d_U_take_1 rfl rfl rfl ?_
  refine x_lcmp (z := lg_cmp a o) (pc' := 3) d_U_take_2 rfl rfl ?_
  refine x_ifne (t := 9) (pc' := 6) d_U_take_3 rfl rfl (fun q1 => ?_) (fun q1 => ?_)
  · refine x_lload (pc' := 11) d_U_take_9 rfl rfl rfl ?_
    refine x_lload_n (pc' := 12) d_U_take_11 rfl rfl rfl ?_
    refine x_lcmp (z := lg_cmp b o) (pc' := 13) d_U_take_12 rfl rfl ?_
    refine x_ifeq (t := 23) (pc' := 16) d_U_take_13 rfl rfl (fun q2 => ?_) (fun q2 => ?_)
    · refine x_lload_n (pc' := 24) d_U_take_23 rfl rfl rfl ?_
      refine x_goto (t := 30) d_U_take_24 rfl ?_
      exact x_lreturn d_U_take_30 rfl (x_ql (by unfold sp_tk; rw [if_neg (fun z => q1 ((lg_cmp_eq _ _).mpr z)), if_pos (by first | exact Or.inl ((lg_cmp_eq _ _).mp q2) | exact Or.inr ((lg_cmp_eq _ _).mp q3))]) hQ)
    · refine x_lload (pc' := 18) d_U_take_16 rfl rfl rfl ?_
      refine x_lload_n (pc' := 19) d_U_take_18 rfl rfl rfl ?_
      refine x_lcmp (z := lg_cmp b a) (pc' := 20) d_U_take_19 rfl rfl ?_
      refine x_ifne (t := 27) (pc' := 23) d_U_take_20 rfl rfl (fun q3 => ?_) (fun q3 => ?_)
      · refine x_ldc2_w (x := (-5)) (pc' := 30) d_U_take_27 rfl k_U_37 ?_
        exact x_lreturn d_U_take_30 rfl (x_ql (by unfold sp_tk; rw [if_neg (fun z => q1 ((lg_cmp_eq _ _).mpr z)), if_neg (fun z => z.elim (fun z => q2 ((lg_cmp_eq _ _).mpr z)) (fun z => q3 ((lg_cmp_eq _ _).mpr z)))]) hQ)
      · refine x_lload_n (pc' := 24) d_U_take_23 rfl rfl rfl ?_
        refine x_goto (t := 30) d_U_take_24 rfl ?_
        exact x_lreturn d_U_take_30 rfl (x_ql (by unfold sp_tk; rw [if_neg (fun z => q1 ((lg_cmp_eq _ _).mpr z)), if_pos (by first | exact Or.inl ((lg_cmp_eq _ _).mp q2) | exact Or.inr ((lg_cmp_eq _ _).mp q3))]) hQ)
  · refine x_lload (pc' := 8) d_U_take_6 rfl rfl rfl ?_
    exact x_lreturn d_U_take_8 rfl (x_ql (if_pos ((lg_cmp_eq _ _).mp q1)) hQ)
