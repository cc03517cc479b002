/-! uniteTexts of the reference. (Printed by c_m4.py.) -/
theorem sp_orl {n D d k : Nat} (hD : D < 16 ^ k) (hd : d < 16) (hk : k < 8) (hn : n ≤ 8) : lN (n * 4294967296 + D) ||| lN (d * 16 ^ k) = lN (n * 4294967296 + (D + d * 16 ^ k)) := by
  have p1 : 16 ^ k * 16 ≤ 4294967296 := by
    rw [← Nat.pow_succ]
    exact Nat.le_trans (Nat.pow_le_pow_right (by decide) hk) (by decide)
  have p2 : d * 16 ^ k + 16 ^ k ≤ 16 ^ k * 16 := by
    rw [Nat.mul_comm (16 ^ k) 16, ← Nat.succ_mul]
    exact Nat.mul_le_mul_right _ hd
  have e1 : D + d * 16 ^ k = 2 ^ (4 * k) * d ||| D := by rw [← Nat.two_pow_add_eq_or_of_lt (by rw [sp_16]; exact hD), sp_16, Nat.mul_comm, Nat.add_comm]
  have e2 : ∀ x, x < 4294967296 → n * 4294967296 + x = 2 ^ 32 * n ||| x := fun x hx => by rw [← Nat.two_pow_add_eq_or_of_lt (by omega), Nat.mul_comm]
  rw [wb_or (by omega) (by omega), e2 _ (by omega), e2 _ (by omega), e1, Nat.or_assoc, Nat.or_comm D, sp_16, Nat.mul_comm d]
theorem sp_dig_snoc {l : List Nat} {k : Nat} (hk : k < l.length) : sp_dig (l.take (k + 1)) = sp_dig (l.take k) + l.getD k 0 * 16 ^ k := by
  rw [List.take_add_one, List.getElem?_eq_getElem hk, sp_dig_app, List.length_take, Nat.min_eq_left (Nat.le_of_lt hk), List.getD_eq_getElem?_getD, List.getElem?_eq_getElem hk]
  rfl
theorem sp_dig_tk {l : List Nat} (h : ∀ d ∈ l, d < 16) (k : Nat) : sp_dig (l.take k) < 16 ^ k := by
  refine Nat.lt_of_lt_of_le (sp_dig_lt (fun d hd => h d (List.mem_of_mem_take hd))) (Nat.pow_le_pow_right (by decide) ?_)
  rw [List.length_take]
  exact Nat.min_le_left _ _
abbrev sp_MS : Nat → Prop := fun k => k = 29 ∨ (42 ≤ k ∧ k ≤ 45)
abbrev sp_MT : Nat → Prop := fun k => 42 ≤ k ∧ k ≤ 44
def mu (h : xm_H) (n : Nat) : Prop := (∃ tk, mo h n tk) ∧ (∃ f : Nat → Int32, h[42]? = some (.inl (.int, 8, .inl f))) ∧ (∃ f : Nat → Int32, h[43]? = some (.inl (.int, 8, .inl f))) ∧ (∃ f : Nat → Int32, h[44]? = some (.inl (.int, 81, .inl f))) ∧ ∃ f : Nat → Int32, h[45]? = some (.inl (.int, 24, .inl f))
theorem mu_of {h : xm_H} {n : Nat} {l : List Nat} (hL : mL h n l) {f g : Nat → Int32} (g1 : h[42]? = some (.inl (.int, 8, .inl f))) (g2 : h[43]? = some (.inl (.int, 8, .inl g))) (g3 : ∃ f : Nat → Int32, h[44]? = some (.inl (.int, 81, .inl f))) : mu h n := ⟨⟨_, hL.1⟩, ⟨_, g1⟩, ⟨_, g2⟩, g3, ⟨_, hL.2.choose_spec.1⟩⟩
theorem mu_LS {h h' : xm_H} {n : Nat} {l : List Nat} (hL : mL h' n l) (f : xl_fr sp_LS h h') {fA fB : Nat → Int32} (g1 : h[42]? = some (.inl (.int, 8, .inl fA))) (g2 : h[43]? = some (.inl (.int, 8, .inl fB))) (g3 : ∃ f : Nat → Int32, h[44]? = some (.inl (.int, 81, .inl f))) : mu h' n := mu_of hL ((f.2 42 (by omega)).trans g1) ((f.2 43 (by omega)).trans g2) ⟨g3.choose, (f.2 44 (by omega)).trans g3.choose_spec⟩
theorem l_M_ute {L : Nat} {xs : Nat → Int32} {d : Nat} {h : xm_H} {Q : xm_Q} {o a b l : List Nat} (hw : sp_wl l) {n : Nat} (hL : mL h n l) {x8 x9 x10 x14 : Value} (hQ : Q (some (.long (lN (sp_enc l)))) h) :
    ∀ r k, k + r = l.length → xm_X L xs (xm_call L xs (d + 3)) m_M_uniteTexts (304, [.ref 29, .long (lN (sp_enc o)), .float 0, .long (lN (sp_enc a)), .float 0, .long (lN (sp_enc b)), .float 0, .int (nI o.length), x8, x9, x10, .long (lN (l.length * 4294967296 + sp_dig (l.take k))), .float 0, .int (nI k), x14], [], h, 0, 0) Q := by
  have l8 := hw.1
  obtain ⟨f, f1, f2⟩ := hL.2
  intro r
  induction r with
  | zero =>
    intro k hk
    have hk : k = l.length := hk
    subst hk
    refine x_iload (pc' := 306) d_M_uniteTexts_304 rfl rfl ?_
    refine x_aload_n (pc' := 307) d_M_uniteTexts_306 rfl rfl ?_
    refine x_getfield (ci := 4) (i := 16) (v := .int (nI l.length)) (pc' := 310) d_M_uniteTexts_307 rfl g_M_78 hL.1 rfl ?_
    refine x_icmpge (t := 337) (pc' := 313) d_M_uniteTexts_310 rfl rfl (fun _ => ?_) (fun q => absurd (nI_le (Nat.le_refl _) (by omega)) q)
    refine x_lload (pc' := 339) d_M_uniteTexts_337 rfl rfl rfl ?_
    exact x_lreturn d_M_uniteTexts_339 rfl (x_ql (by rw [List.take_length]; rfl) hQ)
  | succ r ih =>
    intro k hk
    have hkl : k < l.length := by omega
    have d16 := sp_line16 hw hkl
    refine x_iload (pc' := 306) d_M_uniteTexts_304 rfl rfl ?_
    refine x_aload_n (pc' := 307) d_M_uniteTexts_306 rfl rfl ?_
    refine x_getfield (ci := 4) (i := 16) (v := .int (nI l.length)) (pc' := 310) d_M_uniteTexts_307 rfl g_M_78 hL.1 rfl ?_
    refine x_icmpge (t := 337) (pc' := 313) d_M_uniteTexts_310 rfl rfl (fun q => absurd q (nI_ge hkl (by omega))) (fun _ => ?_)
    refine x_lload (pc' := 315) d_M_uniteTexts_313 rfl rfl rfl ?_
    refine x_aload_n (pc' := 316) d_M_uniteTexts_315 rfl rfl ?_
    refine x_getfield (ci := 4) (i := 17) (v := .ref 45) (pc' := 319) d_M_uniteTexts_316 rfl g_M_56 hL.1 rfl ?_
    refine x_iload (pc' := 321) d_M_uniteTexts_319 rfl rfl ?_
    refine x_iaload (v := nI (l.getD k 0)) (pc' := 322) d_M_uniteTexts_321 rfl f1 (vp_in_nI (by omega) (by decide)) (by rw [nI_clamp (by omega)]; exact f2 k hkl) ?_
    refine x_i2l (z := lN (l.getD k 0)) (pc' := 323) d_M_uniteTexts_322 rfl (nI_l (by omega)) ?_
    refine x_iconst (v := nI 4) (pc' := 324) d_M_uniteTexts_323 rfl (by decide) ?_
    refine x_iload (pc' := 326) d_M_uniteTexts_324 rfl rfl ?_
    refine x_imul (z := nI (4 * k)) (pc' := 327) d_M_uniteTexts_326 rfl (pk_mul 4 k) ?_
    refine x_lshl (z := lN (l.getD k 0 * 16 ^ k)) (pc' := 328) d_M_uniteTexts_327 rfl (by rw [wb_shl _ (by omega), sp_16]) ?_
    refine x_lor (z := lN (l.length * 4294967296 + sp_dig (l.take (k + 1)))) (pc' := 329) d_M_uniteTexts_328 rfl (by rw [sp_orl (sp_dig_tk hw.2 k) d16 (by omega) hw.1, sp_dig_snoc hkl]) ?_
    refine x_lstore (lo' := [.ref 29, .long (lN (sp_enc o)), .float 0, .long (lN (sp_enc a)), .float 0, .long (lN (sp_enc b)), .float 0, .int (nI o.length), x8, x9, x10, .long (lN (l.length * 4294967296 + sp_dig (l.take (k + 1)))), .float 0, .int (nI k), x14]) (pc' := 331) d_M_uniteTexts_329 rfl (Nat.le_of_ble_eq_true rfl) rfl ?_
    refine x_iinc (y := nI (k + 1)) (lo' := [.ref 29, .long (lN (sp_enc o)), .float 0, .long (lN (sp_enc a)), .float 0, .long (lN (sp_enc b)), .float 0, .int (nI o.length), x8, x9, x10, .long (lN (l.length * 4294967296 + sp_dig (l.take (k + 1)))), .float 0, .int (nI (k + 1)), x14]) (pc' := 334) d_M_uniteTexts_331 rfl rfl (sp_nI_inc k) rfl ?_
    refine x_goto (t := 304) d_M_uniteTexts_334 rfl ?_
    exact ih (k + 1) (by omega)
theorem l_M_utf {L : Nat} {xs : Nat → Int32} {d : Nat} {h : xm_H} {Q : xm_Q} {o a b l : List Nat} (h16 : ∀ d ∈ l, d < 16) (h24 : l.length ≤ 24) {n : Nat} (hL : mL h n l) {x8 x9 x10 x11 x12 x13 x14 : Value} (hQ : Q (some (.long (sp_jv (if l.length ≤ 8 then some l else none)))) h) :
    xm_X L xs (xm_call L xs (d + 3)) m_M_uniteTexts (278, [.ref 29, .long (lN (sp_enc o)), .float 0, .long (lN (sp_enc a)), .float 0, .long (lN (sp_enc b)), .float 0, .int (nI o.length), x8, x9, x10, x11, x12, x13, x14], [], h, 0, 0) Q := by
  refine x_aload_n (pc' := 279) d_M_uniteTexts_278 rfl rfl ?_
  refine x_getfield (ci := 4) (i := 16) (v := .int (nI l.length)) (pc' := 282) d_M_uniteTexts_279 rfl g_M_78 hL.1 rfl ?_
  refine x_bipush (v := nI 8) (pc' := 284) d_M_uniteTexts_282 rfl (by decide) ?_
  by_cases h8 : l.length ≤ 8
  · refine x_icmple (t := 291) (pc' := 287) d_M_uniteTexts_284 rfl rfl (fun _ => ?_) (fun q => absurd (nI_le h8 (by decide)) q)
    refine x_aload_n (pc' := 292) d_M_uniteTexts_291 rfl rfl ?_
    refine x_getfield (ci := 4) (i := 16) (v := .int (nI l.length)) (pc' := 295) d_M_uniteTexts_292 rfl g_M_78 hL.1 rfl ?_
    refine x_i2l (z := lN l.length) (pc' := 296) d_M_uniteTexts_295 rfl (nI_l (by omega)) ?_
    refine x_bipush (v := nI 32) (pc' := 298) d_M_uniteTexts_296 rfl (by decide) ?_
    refine x_lshl (z := lN (l.length * 4294967296 + sp_dig (l.take 0))) (pc' := 299) d_M_uniteTexts_298 rfl (by rw [wb_shl _ (by decide), List.take_zero, show sp_dig [] = 0 from rfl, Nat.add_zero, show (2 : Nat) ^ 32 = 4294967296 from rfl]) ?_
    refine x_lstore (lo' := [.ref 29, .long (lN (sp_enc o)), .float 0, .long (lN (sp_enc a)), .float 0, .long (lN (sp_enc b)), .float 0, .int (nI o.length), x8, x9, x10, .long (lN (l.length * 4294967296 + sp_dig (l.take 0))), .float 0, x13, x14]) (pc' := 301) d_M_uniteTexts_299 rfl (Nat.le_of_ble_eq_true rfl) rfl ?_
    refine x_iconst (v := nI 0) (pc' := 302) d_M_uniteTexts_301 rfl (by decide) ?_
    refine x_istore (lo' := [.ref 29, .long (lN (sp_enc o)), .float 0, .long (lN (sp_enc a)), .float 0, .long (lN (sp_enc b)), .float 0, .int (nI o.length), x8, x9, x10, .long (lN (l.length * 4294967296 + sp_dig (l.take 0))), .float 0, .int (nI 0), x14]) (pc' := 304) d_M_uniteTexts_302 rfl (Nat.le_of_ble_eq_true rfl) rfl ?_
    rw [if_pos h8] at hQ
    exact l_M_ute ⟨h8, h16⟩ hL hQ l.length 0 (by omega)
  · refine x_icmple (t := 291) (pc' := 287) d_M_uniteTexts_284 rfl rfl (fun q => absurd q (nI_ge (by omega) (by omega))) (fun _ => ?_)
    refine x_ldc2_w (x := (-5)) (pc' := 290) d_M_uniteTexts_287 rfl k_M_94 ?_
    exact x_lreturn d_M_uniteTexts_290 rfl (by rw [if_neg h8] at hQ; exact hQ)
theorem l_M_utp {L : Nat} {xs : Nat → Int32} {d : Nat} {h : xm_H} {Q : xm_Q} {o a b l : List Nat} (ho : sp_wl o) (ha : sp_wl a) (hb : sp_wl b) {n i k p x q y : Nat} (hi : i ≤ k) (hk : k ≤ o.length) (hp : p ≤ x) (hx : x ≤ a.length) (hq1 : q ≤ y) (hy : y ≤ b.length) (hL : mL h n l) (hl1 : l.length + (x - p) ≤ 24) (hl2 : l.length + (y - q) ≤ 24) {x12 : Value}
    (K : ∀ t h2, sp_take (sp_sl o i k) (sp_sl a p x) (sp_sl b q y) = some t → mL h2 n (l ++ t) → xl_fr sp_LS h h2 → xm_X L xs (xm_call L xs (d + 3)) m_M_uniteTexts (238, [.ref 29, .long (lN (sp_enc o)), .float 0, .long (lN (sp_enc a)), .float 0, .long (lN (sp_enc b)), .float 0, .int (nI o.length), .int (nI i), .int (nI p), .int (nI q), .int (nI k), x12, .int (nI x), .int (nI y)], [], h2, 0, 0) Q) (hN : sp_take (sp_sl o i k) (sp_sl a p x) (sp_sl b q y) = none → Q (some (.long (-5))) h) :
    xm_X L xs (xm_call L xs (d + 3)) m_M_uniteTexts (159, [.ref 29, .long (lN (sp_enc o)), .float 0, .long (lN (sp_enc a)), .float 0, .long (lN (sp_enc b)), .float 0, .int (nI o.length), .int (nI i), .int (nI p), .int (nI q), .int (nI k), x12, .int (nI x), .int (nI y)], [], h, 0, 0) Q := by
  refine x_lload_n (pc' := 160) d_M_uniteTexts_159 rfl rfl rfl ?_
  refine x_iload (pc' := 162) d_M_uniteTexts_160 rfl rfl ?_
  refine x_iload (pc' := 164) d_M_uniteTexts_162 rfl rfl ?_
  refine x_lload_n (pc' := 165) d_M_uniteTexts_164 rfl rfl rfl ?_
  refine x_iload (pc' := 167) d_M_uniteTexts_165 rfl rfl ?_
  refine x_iload (pc' := 169) d_M_uniteTexts_167 rfl rfl ?_
  refine x_static (as := [.long (lN (sp_enc o)), .int (nI i), .int (nI k), .long (lN (sp_enc a)), .int (nI p), .int (nI x)]) (r := []) (v := (some (.int (sp_bi (decide (sp_sl o i k = sp_sl a p x)))))) (h' := h) (st' := [.int (sp_bi (decide (sp_sl o i k = sp_sl a p x)))]) (c' := 0) (s' := 0) (pc' := 172) d_M_uniteTexts_169 rfl c_M_86 rfl rfl (Nat.le_of_ble_eq_true rfl) (Nat.le_of_ble_eq_true rfl) (Nat.le_of_ble_eq_true rfl) (fun Q' hq => c_M_equal ho ha hi hk hp hx hq) rfl rfl rfl ?_
  by_cases e1 : sp_sl o i k = sp_sl a p x
  · refine x_ifeq (t := 188) (pc' := 175) d_M_uniteTexts_172 rfl rfl (fun q => absurd q (by rw [decide_eq_true e1]; decide)) (fun _ => ?_)
    refine x_aload_n (pc' := 176) d_M_uniteTexts_175 rfl rfl ?_
    refine x_lload (pc' := 178) d_M_uniteTexts_176 rfl rfl rfl ?_
    refine x_iload (pc' := 180) d_M_uniteTexts_178 rfl rfl ?_
    refine x_iload (pc' := 182) d_M_uniteTexts_180 rfl rfl ?_
    refine x_virtualR (a := 29) (as := [.long (lN (sp_enc b)), .int (nI q), .int (nI y)]) (r := []) (Post := fun v h9 => v = none ∧ mL h9 n (l ++ sp_sl b q y) ∧ xl_fr sp_LS h h9) (c' := 0) (s' := 0) (pc' := 185) d_M_uniteTexts_182 rfl c_M_90 hL.1 rfl rfl (Nat.le_of_ble_eq_true rfl) (Nat.le_of_ble_eq_true rfl) (Nat.le_of_ble_eq_true rfl) (fun Q' hq => c_M_take hb hq1 hy hl2 hL (fun h' z1 z2 => hq none h' ⟨rfl, z1, z2⟩)) rfl rfl (fun v9 h2 hp => ?_)
    obtain ⟨rfl, L2, f2⟩ := hp
    refine x_goto (t := 238) d_M_uniteTexts_185 rfl ?_
    exact K (sp_sl b q y) h2 (by unfold sp_take; rw [if_pos e1.symm]) L2 f2
  · refine x_ifeq (t := 188) (pc' := 175) d_M_uniteTexts_172 rfl rfl (fun _ => ?_) (fun q => absurd (by rw [decide_eq_false e1]; rfl) q)
    refine x_lload_n (pc' := 189) d_M_uniteTexts_188 rfl rfl rfl ?_
    refine x_iload (pc' := 191) d_M_uniteTexts_189 rfl rfl ?_
    refine x_iload (pc' := 193) d_M_uniteTexts_191 rfl rfl ?_
    refine x_lload (pc' := 195) d_M_uniteTexts_193 rfl rfl rfl ?_
    refine x_iload (pc' := 197) d_M_uniteTexts_195 rfl rfl ?_
    refine x_iload (pc' := 199) d_M_uniteTexts_197 rfl rfl ?_
    refine x_static (as := [.long (lN (sp_enc o)), .int (nI i), .int (nI k), .long (lN (sp_enc b)), .int (nI q), .int (nI y)]) (r := []) (v := (some (.int (sp_bi (decide (sp_sl o i k = sp_sl b q y)))))) (h' := h) (st' := [.int (sp_bi (decide (sp_sl o i k = sp_sl b q y)))]) (c' := 0) (s' := 0) (pc' := 202) d_M_uniteTexts_199 rfl c_M_86 rfl rfl (Nat.le_of_ble_eq_true rfl) (Nat.le_of_ble_eq_true rfl) (Nat.le_of_ble_eq_true rfl) (fun Q' hq => c_M_equal ho hb hi hk hq1 hy hq) rfl rfl rfl ?_
    by_cases e2 : sp_sl o i k = sp_sl b q y
    · refine x_ifne (t := 222) (pc' := 205) d_M_uniteTexts_202 rfl rfl (fun _ => ?_) (fun q => absurd q (by rw [decide_eq_true e2]; decide))
      refine x_aload_n (pc' := 223) d_M_uniteTexts_222 rfl rfl ?_
      refine x_lload_n (pc' := 224) d_M_uniteTexts_223 rfl rfl rfl ?_
      refine x_iload (pc' := 226) d_M_uniteTexts_224 rfl rfl ?_
      refine x_iload (pc' := 228) d_M_uniteTexts_226 rfl rfl ?_
      refine x_virtualR (a := 29) (as := [.long (lN (sp_enc a)), .int (nI p), .int (nI x)]) (r := []) (Post := fun v h9 => v = none ∧ mL h9 n (l ++ sp_sl a p x) ∧ xl_fr sp_LS h h9) (c' := 0) (s' := 0) (pc' := 231) d_M_uniteTexts_228 rfl c_M_90 hL.1 rfl rfl (Nat.le_of_ble_eq_true rfl) (Nat.le_of_ble_eq_true rfl) (Nat.le_of_ble_eq_true rfl) (fun Q' hq => c_M_take ha hp hx hl1 hL (fun h' z1 z2 => hq none h' ⟨rfl, z1, z2⟩)) rfl rfl (fun v9 h2 hp => ?_)
      obtain ⟨rfl, L2, f2⟩ := hp
      refine x_goto (t := 238) d_M_uniteTexts_231 rfl ?_
      exact K (sp_sl a p x) h2 (by unfold sp_take; rw [if_neg (fun z => e1 z.symm), if_pos (Or.inl e2.symm)]) L2 f2
    · refine x_ifne (t := 222) (pc' := 205) d_M_uniteTexts_202 rfl rfl (fun q => absurd (by rw [decide_eq_false e2]; rfl) q) (fun _ => ?_)
      refine x_lload_n (pc' := 206) d_M_uniteTexts_205 rfl rfl rfl ?_
      refine x_iload (pc' := 208) d_M_uniteTexts_206 rfl rfl ?_
      refine x_iload (pc' := 210) d_M_uniteTexts_208 rfl rfl ?_
      refine x_lload (pc' := 212) d_M_uniteTexts_210 rfl rfl rfl ?_
      refine x_iload (pc' := 214) d_M_uniteTexts_212 rfl rfl ?_
      refine x_iload (pc' := 216) d_M_uniteTexts_214 rfl rfl ?_
      refine x_static (as := [.long (lN (sp_enc a)), .int (nI p), .int (nI x), .long (lN (sp_enc b)), .int (nI q), .int (nI y)]) (r := []) (v := (some (.int (sp_bi (decide (sp_sl a p x = sp_sl b q y)))))) (h' := h) (st' := [.int (sp_bi (decide (sp_sl a p x = sp_sl b q y)))]) (c' := 0) (s' := 0) (pc' := 219) d_M_uniteTexts_216 rfl c_M_86 rfl rfl (Nat.le_of_ble_eq_true rfl) (Nat.le_of_ble_eq_true rfl) (Nat.le_of_ble_eq_true rfl) (fun Q' hq => c_M_equal ha hb hp hx hq1 hy hq) rfl rfl rfl ?_
      by_cases e3 : sp_sl a p x = sp_sl b q y
      · refine x_ifeq (t := 234) (pc' := 222) d_M_uniteTexts_219 rfl rfl (fun q => absurd q (by rw [decide_eq_true e3]; decide)) (fun _ => ?_)
        refine x_aload_n (pc' := 223) d_M_uniteTexts_222 rfl rfl ?_
        refine x_lload_n (pc' := 224) d_M_uniteTexts_223 rfl rfl rfl ?_
        refine x_iload (pc' := 226) d_M_uniteTexts_224 rfl rfl ?_
        refine x_iload (pc' := 228) d_M_uniteTexts_226 rfl rfl ?_
        refine x_virtualR (a := 29) (as := [.long (lN (sp_enc a)), .int (nI p), .int (nI x)]) (r := []) (Post := fun v h9 => v = none ∧ mL h9 n (l ++ sp_sl a p x) ∧ xl_fr sp_LS h h9) (c' := 0) (s' := 0) (pc' := 231) d_M_uniteTexts_228 rfl c_M_90 hL.1 rfl rfl (Nat.le_of_ble_eq_true rfl) (Nat.le_of_ble_eq_true rfl) (Nat.le_of_ble_eq_true rfl) (fun Q' hq => c_M_take ha hp hx hl1 hL (fun h' z1 z2 => hq none h' ⟨rfl, z1, z2⟩)) rfl rfl (fun v9 h2 hp => ?_)
        obtain ⟨rfl, L2, f2⟩ := hp
        refine x_goto (t := 238) d_M_uniteTexts_231 rfl ?_
        exact K (sp_sl a p x) h2 (by unfold sp_take; rw [if_neg (fun z => e1 z.symm), if_pos (Or.inr e3.symm)]) L2 f2
      · refine x_ifeq (t := 234) (pc' := 222) d_M_uniteTexts_219 rfl rfl (fun _ => ?_) (fun q => absurd (by rw [decide_eq_false e3]; rfl) q)
        refine x_ldc2_w (x := (-5)) (pc' := 237) d_M_uniteTexts_234 rfl k_M_94 ?_
        exact x_lreturn d_M_uniteTexts_237 rfl (hN (by unfold sp_take; rw [if_neg (fun z => e1 z.symm), if_neg (fun z => z.elim (fun z => e2 z.symm) (fun z => e3 z.symm))]))
theorem sp_take_mem {x y z t : List Nat} (e : sp_take x y z = some t) : t = z ∨ t = y := by
  unfold sp_take at e
  split at e
  · cases e; exact Or.inl rfl
  · split at e
    · cases e; exact Or.inr rfl
    · cases e
theorem sp_sl_16 {t : List Nat} (h : sp_wl t) (i k : Nat) : ∀ d ∈ sp_sl t i k, d < 16 := (sp_wl_sl h i k).2
set_option maxHeartbeats 4000000 in
theorem l_M_utl {L : Nat} {xs : Nat → Int32} {d : Nat} {h : xm_H} {Q : xm_Q} {o a b : List Nat} (ho : sp_wl o) (ha : sp_wl a) (hb : sp_wl b) {n : Nat} {fA fB : Nat → Int32} (hA : ∀ k, k < o.length → fA k = sp_mv1 ((sp_mt o a 0).getD k none)) (hB : ∀ k, k < o.length → fB k = sp_mv1 ((sp_mt o b 0).getD k none)) {R : Option (List Nat)}
    (hN : R = none → ∀ h', mu h' n → xl_fr sp_MS h h' → Q (some (.long (-5))) h')
    (K : ∀ l, R = some l → ∀ h' (x8 x9 x10 x11 x12 x13 x14 : Value), mL h' n l → mu h' n → (∀ d ∈ l, d < 16) → l.length ≤ 24 → xl_fr sp_MS h h' → xm_X L xs (xm_call L xs (d + 3)) m_M_uniteTexts (278, [.ref 29, .long (lN (sp_enc o)), .float 0, .long (lN (sp_enc a)), .float 0, .long (lN (sp_enc b)), .float 0, .int (nI o.length), x8, x9, x10, x11, x12, x13, x14], [], h', 0, 0) Q) :
    ∀ (r k i p q : Nat) (l : List Nat) (x12 x13 x14 : Value) (h1 : xm_H), k + r = o.length → i ≤ k → p ≤ a.length → q ≤ b.length → (∀ k' x, k ≤ k' → (sp_mt o a 0).getD k' none = some x → p ≤ x) → (∀ k' x, k ≤ k' → (sp_mt o b 0).getD k' none = some x → q ≤ x) → (∀ d ∈ l, d < 16) → l.length + (a.length - p) + (b.length - q) + (o.length - i) ≤ 24 →
      sp_go o a b (sp_mt o a 0) (sp_mt o b 0) r k i p q l = R → mL h1 n l → h1[42]? = some (.inl (.int, 8, .inl fA)) → h1[43]? = some (.inl (.int, 8, .inl fB)) → (∃ g : Nat → Int32, h1[44]? = some (.inl (.int, 81, .inl g))) → xl_fr sp_MS h h1 →
      xm_X L xs (xm_call L xs (d + 3)) m_M_uniteTexts (70, [.ref 29, .long (lN (sp_enc o)), .float 0, .long (lN (sp_enc a)), .float 0, .long (lN (sp_enc b)), .float 0, .int (nI o.length), .int (nI i), .int (nI p), .int (nI q), .int (nI k), x12, x13, x14], [], h1, 0, 0) Q := by
  have o8 := ho.1
  have a8 := ha.1
  have b8 := hb.1
  intro r
  induction r with
  | zero =>
    intro k i p q l x12 x13 x14 h1 hkr hik hp hq1 ha1 hb1 h16 h24 hR hL gA gB g4 hf
    have hkr : k = o.length := hkr
    subst hkr
    refine x_iload (pc' := 72) d_M_uniteTexts_70 rfl rfl ?_
    refine x_iload (pc' := 74) d_M_uniteTexts_72 rfl rfl ?_
    refine x_icmpgt (t := 278) (pc' := 77) d_M_uniteTexts_74 rfl rfl (fun q => absurd q (nI_nlt (Nat.le_refl _) (by omega))) (fun _ => ?_)
    refine x_iload (pc' := 79) d_M_uniteTexts_77 rfl rfl ?_
    refine x_iload (pc' := 81) d_M_uniteTexts_79 rfl rfl ?_
    refine x_icmpne (t := 88) (pc' := 84) d_M_uniteTexts_81 rfl rfl (fun q => absurd rfl q) (fun _ => ?_)
    refine x_iconst (v := 1) (pc' := 85) d_M_uniteTexts_84 rfl (by decide) ?_
    refine x_goto (t := 89) d_M_uniteTexts_85 rfl ?_
    refine x_istore (lo' := [.ref 29, .long (lN (sp_enc o)), .float 0, .long (lN (sp_enc a)), .float 0, .long (lN (sp_enc b)), .float 0, .int (nI o.length), .int (nI i), .int (nI p), .int (nI q), .int (nI o.length), .int 1, x13, x14]) (pc' := 91) d_M_uniteTexts_89 rfl (Nat.le_of_ble_eq_true rfl) rfl ?_
    refine x_iload (pc' := 93) d_M_uniteTexts_91 rfl rfl ?_
    refine x_ifne (t := 116) (pc' := 96) d_M_uniteTexts_93 rfl rfl (fun _ => ?_) (fun q => absurd q (by decide))
    refine x_iload (pc' := 118) d_M_uniteTexts_116 rfl rfl ?_
    refine x_ifeq (t := 128) (pc' := 121) d_M_uniteTexts_118 rfl rfl (fun q => absurd q (by decide)) (fun _ => ?_)
    refine x_lload_n (pc' := 122) d_M_uniteTexts_121 rfl rfl rfl ?_
    refine x_static (as := [.long (lN (sp_enc a))]) (r := []) (v := (some (.int (nI a.length)))) (h' := h1) (st' := [.int (nI a.length)]) (c' := 0) (s' := 0) (pc' := 125) d_M_uniteTexts_122 rfl c_M_66 rfl rfl (Nat.le_of_ble_eq_true rfl) (Nat.le_of_ble_eq_true rfl) (Nat.le_of_ble_eq_true rfl) (fun Q' hq => c_M_size ha hq) rfl rfl rfl ?_
    refine x_goto (t := 135) d_M_uniteTexts_125 rfl ?_
    refine x_istore (lo' := [.ref 29, .long (lN (sp_enc o)), .float 0, .long (lN (sp_enc a)), .float 0, .long (lN (sp_enc b)), .float 0, .int (nI o.length), .int (nI i), .int (nI p), .int (nI q), .int (nI o.length), .int 1, .int (nI a.length), x14]) (pc' := 137) d_M_uniteTexts_135 rfl (Nat.le_of_ble_eq_true rfl) rfl ?_
    refine x_iload (pc' := 139) d_M_uniteTexts_137 rfl rfl ?_
    refine x_ifeq (t := 150) (pc' := 142) d_M_uniteTexts_139 rfl rfl (fun q => absurd q (by decide)) (fun _ => ?_)
    refine x_lload (pc' := 144) d_M_uniteTexts_142 rfl rfl rfl ?_
    refine x_static (as := [.long (lN (sp_enc b))]) (r := []) (v := (some (.int (nI b.length)))) (h' := h1) (st' := [.int (nI b.length)]) (c' := 0) (s' := 0) (pc' := 147) d_M_uniteTexts_144 rfl c_M_66 rfl rfl (Nat.le_of_ble_eq_true rfl) (Nat.le_of_ble_eq_true rfl) (Nat.le_of_ble_eq_true rfl) (fun Q' hq => c_M_size hb hq) rfl rfl rfl ?_
    refine x_goto (t := 157) d_M_uniteTexts_147 rfl ?_
    refine x_istore (lo' := [.ref 29, .long (lN (sp_enc o)), .float 0, .long (lN (sp_enc a)), .float 0, .long (lN (sp_enc b)), .float 0, .int (nI o.length), .int (nI i), .int (nI p), .int (nI q), .int (nI o.length), .int 1, .int (nI a.length), .int (nI b.length)]) (pc' := 159) d_M_uniteTexts_157 rfl (Nat.le_of_ble_eq_true rfl) rfl ?_
    refine l_M_utp ho ha hb hik (Nat.le_refl _) hp (Nat.le_refl _) hq1 (Nat.le_refl _) hL (by omega) (by omega) (fun t h2 et L2 f2 => ?_) (fun et => hN (by rw [← hR]; unfold sp_go; rw [et]; rfl) h1 (mu_of hL gA gB g4) hf)
    refine x_iload (pc' := 240) d_M_uniteTexts_238 rfl rfl ?_
    refine x_ifne (t := 254) (pc' := 243) d_M_uniteTexts_240 rfl rfl (fun _ => ?_) (fun q => absurd q (by decide))
    refine x_iload (pc' := 256) d_M_uniteTexts_254 rfl rfl ?_
    refine x_iconst (v := nI 1) (pc' := 257) d_M_uniteTexts_256 rfl (by decide) ?_
    refine x_iadd (z := nI (o.length + 1)) (pc' := 258) d_M_uniteTexts_257 rfl (nI_add _ _) ?_
    refine x_istore (lo' := [.ref 29, .long (lN (sp_enc o)), .float 0, .long (lN (sp_enc a)), .float 0, .long (lN (sp_enc b)), .float 0, .int (nI o.length), .int (nI (o.length + 1)), .int (nI p), .int (nI q), .int (nI o.length), .int 1, .int (nI a.length), .int (nI b.length)]) (pc' := 260) d_M_uniteTexts_258 rfl (Nat.le_of_ble_eq_true rfl) rfl ?_
    refine x_iload (pc' := 262) d_M_uniteTexts_260 rfl rfl ?_
    refine x_iconst (v := nI 1) (pc' := 263) d_M_uniteTexts_262 rfl (by decide) ?_
    refine x_iadd (z := nI (a.length + 1)) (pc' := 264) d_M_uniteTexts_263 rfl (nI_add _ _) ?_
    refine x_istore (lo' := [.ref 29, .long (lN (sp_enc o)), .float 0, .long (lN (sp_enc a)), .float 0, .long (lN (sp_enc b)), .float 0, .int (nI o.length), .int (nI (o.length + 1)), .int (nI (a.length + 1)), .int (nI q), .int (nI o.length), .int 1, .int (nI a.length), .int (nI b.length)]) (pc' := 266) d_M_uniteTexts_264 rfl (Nat.le_of_ble_eq_true rfl) rfl ?_
    refine x_iload (pc' := 268) d_M_uniteTexts_266 rfl rfl ?_
    refine x_iconst (v := nI 1) (pc' := 269) d_M_uniteTexts_268 rfl (by decide) ?_
    refine x_iadd (z := nI (b.length + 1)) (pc' := 270) d_M_uniteTexts_269 rfl (nI_add _ _) ?_
    refine x_istore (lo' := [.ref 29, .long (lN (sp_enc o)), .float 0, .long (lN (sp_enc a)), .float 0, .long (lN (sp_enc b)), .float 0, .int (nI o.length), .int (nI (o.length + 1)), .int (nI (a.length + 1)), .int (nI (b.length + 1)), .int (nI o.length), .int 1, .int (nI a.length), .int (nI b.length)]) (pc' := 272) d_M_uniteTexts_270 rfl (Nat.le_of_ble_eq_true rfl) rfl ?_
    refine x_iinc (y := nI (o.length + 1)) (lo' := [.ref 29, .long (lN (sp_enc o)), .float 0, .long (lN (sp_enc a)), .float 0, .long (lN (sp_enc b)), .float 0, .int (nI o.length), .int (nI (o.length + 1)), .int (nI (a.length + 1)), .int (nI (b.length + 1)), .int (nI (o.length + 1)), .int 1, .int (nI a.length), .int (nI b.length)]) (pc' := 275) d_M_uniteTexts_272 rfl rfl (sp_nI_inc _) rfl ?_
    refine x_goto (t := 70) d_M_uniteTexts_275 rfl ?_
    refine x_iload (pc' := 72) d_M_uniteTexts_70 rfl rfl ?_
    refine x_iload (pc' := 74) d_M_uniteTexts_72 rfl rfl ?_
    refine x_icmpgt (t := 278) (pc' := 77) d_M_uniteTexts_74 rfl rfl (fun _ => ?_) (fun q => absurd (nI_lt (Nat.lt_succ_self _) (by omega)) q)
    have ht := sp_take_mem et
    refine K (l ++ t) (by rw [← hR]; unfold sp_go; rw [et]; rfl) h2 _ _ _ _ _ _ _ L2 (mu_LS L2 f2 gA gB g4) ?_ ?_ (xl_tr hf (xl_mono f2 (fun k z => by rcases z with z | z; exact Or.inl z; exact Or.inr ⟨by omega, by omega⟩)))
    · intro d hd
      rcases List.mem_append.mp hd with z | z
      · exact h16 d z
      · rcases ht with rfl | rfl
        · exact sp_sl_16 hb _ _ d z
        · exact sp_sl_16 ha _ _ d z
    · rw [List.length_append]
      rcases ht with rfl | rfl
      · rw [sp_sl_len (Nat.le_refl _)]; omega
      · rw [sp_sl_len (Nat.le_refl _)]; omega
  | succ r ih =>
    intro k i p q l x12 x13 x14 h1 hkr hik hp hq1 ha1 hb1 h16 h24 hR hL gA gB g4 hf
    have hkl : k < o.length := by omega
    refine x_iload (pc' := 72) d_M_uniteTexts_70 rfl rfl ?_
    refine x_iload (pc' := 74) d_M_uniteTexts_72 rfl rfl ?_
    refine x_icmpgt (t := 278) (pc' := 77) d_M_uniteTexts_74 rfl rfl (fun q => absurd q (nI_nlt (by omega) (by omega))) (fun _ => ?_)
    refine x_iload (pc' := 79) d_M_uniteTexts_77 rfl rfl ?_
    refine x_iload (pc' := 81) d_M_uniteTexts_79 rfl rfl ?_
    refine x_icmpne (t := 88) (pc' := 84) d_M_uniteTexts_81 rfl rfl (fun _ => ?_) (fun q => absurd q (fun z => absurd (sp_nI_inj (by omega) (by omega) z) (by omega)))
    refine x_iconst (v := 0) (pc' := 89) d_M_uniteTexts_88 rfl (by decide) ?_
    refine x_istore (lo' := [.ref 29, .long (lN (sp_enc o)), .float 0, .long (lN (sp_enc a)), .float 0, .long (lN (sp_enc b)), .float 0, .int (nI o.length), .int (nI i), .int (nI p), .int (nI q), .int (nI k), .int 0, x13, x14]) (pc' := 91) d_M_uniteTexts_89 rfl (Nat.le_of_ble_eq_true rfl) rfl ?_
    refine x_iload (pc' := 93) d_M_uniteTexts_91 rfl rfl ?_
    refine x_ifne (t := 116) (pc' := 96) d_M_uniteTexts_93 rfl rfl (fun q => absurd rfl q) (fun _ => ?_)
    cases e1 : (sp_mt o a 0).getD k none with
    | none =>
      refine x_aload_n (pc' := 97) d_M_uniteTexts_96 rfl rfl ?_
      refine x_getfield (ci := 4) (i := 13) (v := .ref 42) (pc' := 100) d_M_uniteTexts_97 rfl g_M_47 hL.1 rfl ?_
      refine x_iload (pc' := 102) d_M_uniteTexts_100 rfl rfl ?_
      refine x_iaload (v := -1) (pc' := 103) d_M_uniteTexts_102 rfl gA (vp_in_nI (by omega) (by decide)) (by rw [nI_clamp (by omega), hA k hkl, e1]; rfl) ?_
      refine x_iflt (t := 272) (pc' := 106) d_M_uniteTexts_103 rfl rfl (fun _ => ?_) (fun q => absurd (by decide) q)
      refine x_iinc (y := nI (k + 1)) (lo' := [.ref 29, .long (lN (sp_enc o)), .float 0, .long (lN (sp_enc a)), .float 0, .long (lN (sp_enc b)), .float 0, .int (nI o.length), .int (nI i), .int (nI p), .int (nI q), .int (nI (k + 1)), .int 0, x13, x14]) (pc' := 275) d_M_uniteTexts_272 rfl rfl (sp_nI_inc k) rfl ?_
      refine x_goto (t := 70) d_M_uniteTexts_275 rfl ?_
      exact ih (k + 1) i p q l _ _ _ h1 (by omega) (by omega) hp hq1 (fun k' x z => ha1 k' x (by omega)) (fun k' x z => hb1 k' x (by omega)) h16 h24 ((sp_go_1 e1).symm.trans hR) hL gA gB g4 hf
    | some x =>
      have hx := (sp_mt_B o a 0 k x e1)
      have hpx := ha1 k x (Nat.le_refl _) e1
      refine x_aload_n (pc' := 97) d_M_uniteTexts_96 rfl rfl ?_
      refine x_getfield (ci := 4) (i := 13) (v := .ref 42) (pc' := 100) d_M_uniteTexts_97 rfl g_M_47 hL.1 rfl ?_
      refine x_iload (pc' := 102) d_M_uniteTexts_100 rfl rfl ?_
      refine x_iaload (v := nI x) (pc' := 103) d_M_uniteTexts_102 rfl gA (vp_in_nI (by omega) (by decide)) (by rw [nI_clamp (by omega), hA k hkl, e1]; rfl) ?_
      refine x_iflt (t := 272) (pc' := 106) d_M_uniteTexts_103 rfl rfl (fun q => absurd q (nI_pos (by omega))) (fun _ => ?_)
      cases e2 : (sp_mt o b 0).getD k none with
      | none =>
        refine x_aload_n (pc' := 107) d_M_uniteTexts_106 rfl rfl ?_
        refine x_getfield (ci := 4) (i := 14) (v := .ref 43) (pc' := 110) d_M_uniteTexts_107 rfl g_M_50 hL.1 rfl ?_
        refine x_iload (pc' := 112) d_M_uniteTexts_110 rfl rfl ?_
        refine x_iaload (v := -1) (pc' := 113) d_M_uniteTexts_112 rfl gB (vp_in_nI (by omega) (by decide)) (by rw [nI_clamp (by omega), hB k hkl, e2]; rfl) ?_
        refine x_iflt (t := 272) (pc' := 116) d_M_uniteTexts_113 rfl rfl (fun _ => ?_) (fun q => absurd (by decide) q)
        refine x_iinc (y := nI (k + 1)) (lo' := [.ref 29, .long (lN (sp_enc o)), .float 0, .long (lN (sp_enc a)), .float 0, .long (lN (sp_enc b)), .float 0, .int (nI o.length), .int (nI i), .int (nI p), .int (nI q), .int (nI (k + 1)), .int 0, x13, x14]) (pc' := 275) d_M_uniteTexts_272 rfl rfl (sp_nI_inc k) rfl ?_
        refine x_goto (t := 70) d_M_uniteTexts_275 rfl ?_
        exact ih (k + 1) i p q l _ _ _ h1 (by omega) (by omega) hp hq1 (fun k' x z => ha1 k' x (by omega)) (fun k' x z => hb1 k' x (by omega)) h16 h24 ((sp_go_2 e1 e2).symm.trans hR) hL gA gB g4 hf
      | some y =>
        have hy := (sp_mt_B o b 0 k y e2)
        have hqy := hb1 k y (Nat.le_refl _) e2
        have eR := sp_go_3 (r := r) (i := i) (p := p) (q := q) (R := l) (o := o) (a := a) (b := b) e1 e2
        refine x_aload_n (pc' := 107) d_M_uniteTexts_106 rfl rfl ?_
        refine x_getfield (ci := 4) (i := 14) (v := .ref 43) (pc' := 110) d_M_uniteTexts_107 rfl g_M_50 hL.1 rfl ?_
        refine x_iload (pc' := 112) d_M_uniteTexts_110 rfl rfl ?_
        refine x_iaload (v := nI y) (pc' := 113) d_M_uniteTexts_112 rfl gB (vp_in_nI (by omega) (by decide)) (by rw [nI_clamp (by omega), hB k hkl, e2]; rfl) ?_
        refine x_iflt (t := 272) (pc' := 116) d_M_uniteTexts_113 rfl rfl (fun q => absurd q (nI_pos (by omega))) (fun _ => ?_)
        refine x_iload (pc' := 118) d_M_uniteTexts_116 rfl rfl ?_
        refine x_ifeq (t := 128) (pc' := 121) d_M_uniteTexts_118 rfl rfl (fun _ => ?_) (fun q => absurd rfl q)
        refine x_aload_n (pc' := 129) d_M_uniteTexts_128 rfl rfl ?_
        refine x_getfield (ci := 4) (i := 13) (v := .ref 42) (pc' := 132) d_M_uniteTexts_129 rfl g_M_47 hL.1 rfl ?_
        refine x_iload (pc' := 134) d_M_uniteTexts_132 rfl rfl ?_
        refine x_iaload (v := nI x) (pc' := 135) d_M_uniteTexts_134 rfl gA (vp_in_nI (by omega) (by decide)) (by rw [nI_clamp (by omega), hA k hkl, e1]; rfl) ?_
        refine x_istore (lo' := [.ref 29, .long (lN (sp_enc o)), .float 0, .long (lN (sp_enc a)), .float 0, .long (lN (sp_enc b)), .float 0, .int (nI o.length), .int (nI i), .int (nI p), .int (nI q), .int (nI k), .int 0, .int (nI x), x14]) (pc' := 137) d_M_uniteTexts_135 rfl (Nat.le_of_ble_eq_true rfl) rfl ?_
        refine x_iload (pc' := 139) d_M_uniteTexts_137 rfl rfl ?_
        refine x_ifeq (t := 150) (pc' := 142) d_M_uniteTexts_139 rfl rfl (fun _ => ?_) (fun q => absurd rfl q)
        refine x_aload_n (pc' := 151) d_M_uniteTexts_150 rfl rfl ?_
        refine x_getfield (ci := 4) (i := 14) (v := .ref 43) (pc' := 154) d_M_uniteTexts_151 rfl g_M_50 hL.1 rfl ?_
        refine x_iload (pc' := 156) d_M_uniteTexts_154 rfl rfl ?_
        refine x_iaload (v := nI y) (pc' := 157) d_M_uniteTexts_156 rfl gB (vp_in_nI (by omega) (by decide)) (by rw [nI_clamp (by omega), hB k hkl, e2]; rfl) ?_
        refine x_istore (lo' := [.ref 29, .long (lN (sp_enc o)), .float 0, .long (lN (sp_enc a)), .float 0, .long (lN (sp_enc b)), .float 0, .int (nI o.length), .int (nI i), .int (nI p), .int (nI q), .int (nI k), .int 0, .int (nI x), .int (nI y)]) (pc' := 159) d_M_uniteTexts_157 rfl (Nat.le_of_ble_eq_true rfl) rfl ?_
        refine l_M_utp ho ha hb hik (by omega) hpx (by omega) hqy (by omega) hL (by omega) (by omega) (fun t h2 et L2 f2 => ?_) (fun et => hN (by rw [← hR, eR, et]; rfl) h1 (mu_of hL gA gB g4) hf)
        have ht := sp_take_mem et
        have hlt : (l ++ t).length + (a.length - (x + 1)) + (b.length - (y + 1)) + (o.length - (k + 1)) + 1 ≤ 24 := by
          rw [List.length_append]
          rcases ht with rfl | rfl
          · rw [sp_sl_len (by omega)]; omega
          · rw [sp_sl_len (by omega)]; omega
        refine x_iload (pc' := 240) d_M_uniteTexts_238 rfl rfl ?_
        refine x_ifne (t := 254) (pc' := 243) d_M_uniteTexts_240 rfl rfl (fun q => absurd rfl q) (fun _ => ?_)
        refine x_aload_n (pc' := 244) d_M_uniteTexts_243 rfl rfl ?_
        refine x_lload_n (pc' := 245) d_M_uniteTexts_244 rfl rfl rfl ?_
        refine x_iload (pc' := 247) d_M_uniteTexts_245 rfl rfl ?_
        refine x_iload (pc' := 249) d_M_uniteTexts_247 rfl rfl ?_
        refine x_iconst (v := nI 1) (pc' := 250) d_M_uniteTexts_249 rfl (by decide) ?_
        refine x_iadd (z := nI (k + 1)) (pc' := 251) d_M_uniteTexts_250 rfl (nI_add _ _) ?_
        refine x_virtualR (a := 29) (as := [.long (lN (sp_enc o)), .int (nI k), .int (nI (k + 1))]) (r := []) (Post := fun v h9 => v = none ∧ mL h9 n ((l ++ t) ++ sp_sl o k (k + 1)) ∧ xl_fr sp_LS h2 h9) (c' := 0) (s' := 0) (pc' := 254) d_M_uniteTexts_251 rfl c_M_90 L2.1 rfl rfl (Nat.le_of_ble_eq_true rfl) (Nat.le_of_ble_eq_true rfl) (Nat.le_of_ble_eq_true rfl) (fun Q' hq => c_M_take ho (Nat.le_succ _) (by omega) (by omega) L2 (fun h' z1 z2 => hq none h' ⟨rfl, z1, z2⟩)) rfl rfl (fun v9 h3 hp => ?_)
        obtain ⟨rfl, L3, f3⟩ := hp
        refine x_iload (pc' := 256) d_M_uniteTexts_254 rfl rfl ?_
        refine x_iconst (v := nI 1) (pc' := 257) d_M_uniteTexts_256 rfl (by decide) ?_
        refine x_iadd (z := nI (k + 1)) (pc' := 258) d_M_uniteTexts_257 rfl (nI_add _ _) ?_
        refine x_istore (lo' := [.ref 29, .long (lN (sp_enc o)), .float 0, .long (lN (sp_enc a)), .float 0, .long (lN (sp_enc b)), .float 0, .int (nI o.length), .int (nI (k + 1)), .int (nI p), .int (nI q), .int (nI k), .int 0, .int (nI x), .int (nI y)]) (pc' := 260) d_M_uniteTexts_258 rfl (Nat.le_of_ble_eq_true rfl) rfl ?_
        refine x_iload (pc' := 262) d_M_uniteTexts_260 rfl rfl ?_
        refine x_iconst (v := nI 1) (pc' := 263) d_M_uniteTexts_262 rfl (by decide) ?_
        refine x_iadd (z := nI (x + 1)) (pc' := 264) d_M_uniteTexts_263 rfl (nI_add _ _) ?_
        refine x_istore (lo' := [.ref 29, .long (lN (sp_enc o)), .float 0, .long (lN (sp_enc a)), .float 0, .long (lN (sp_enc b)), .float 0, .int (nI o.length), .int (nI (k + 1)), .int (nI (x + 1)), .int (nI q), .int (nI k), .int 0, .int (nI x), .int (nI y)]) (pc' := 266) d_M_uniteTexts_264 rfl (Nat.le_of_ble_eq_true rfl) rfl ?_
        refine x_iload (pc' := 268) d_M_uniteTexts_266 rfl rfl ?_
        refine x_iconst (v := nI 1) (pc' := 269) d_M_uniteTexts_268 rfl (by decide) ?_
        refine x_iadd (z := nI (y + 1)) (pc' := 270) d_M_uniteTexts_269 rfl (nI_add _ _) ?_
        refine x_istore (lo' := [.ref 29, .long (lN (sp_enc o)), .float 0, .long (lN (sp_enc a)), .float 0, .long (lN (sp_enc b)), .float 0, .int (nI o.length), .int (nI (k + 1)), .int (nI (x + 1)), .int (nI (y + 1)), .int (nI k), .int 0, .int (nI x), .int (nI y)]) (pc' := 272) d_M_uniteTexts_270 rfl (Nat.le_of_ble_eq_true rfl) rfl ?_
        refine x_iinc (y := nI (k + 1)) (lo' := [.ref 29, .long (lN (sp_enc o)), .float 0, .long (lN (sp_enc a)), .float 0, .long (lN (sp_enc b)), .float 0, .int (nI o.length), .int (nI (k + 1)), .int (nI (x + 1)), .int (nI (y + 1)), .int (nI (k + 1)), .int 0, .int (nI x), .int (nI y)]) (pc' := 275) d_M_uniteTexts_272 rfl rfl (sp_nI_inc k) rfl ?_
        refine x_goto (t := 70) d_M_uniteTexts_275 rfl ?_
        rw [sp_sl1 (by omega)] at L3
        have F3 : xl_fr sp_LS h1 h3 := xl_tr f2 f3
        refine ih (k + 1) (k + 1) (x + 1) (y + 1) ((l ++ t) ++ [o.getD k 0]) _ _ _ h3 (by omega) (Nat.le_refl _) (by omega) (by omega) (fun k' x' z1 z2 => hx.2.2 k' x' (by omega) z2) (fun k' x' z1 z2 => hy.2.2 k' x' (by omega) z2) ?_ (by rw [sp_ln1]; omega) (by rw [eR, et] at hR; exact hR) L3 ((F3.2 42 (by omega)).trans gA) ((F3.2 43 (by omega)).trans gB) ⟨g4.choose, (F3.2 44 (by omega)).trans g4.choose_spec⟩ (xl_tr hf (xl_mono F3 (fun k z => by rcases z with z | z; exact Or.inl z; exact Or.inr ⟨by omega, by omega⟩)))
        intro d hd
        rcases List.mem_append.mp hd with z | z
        · rcases List.mem_append.mp z with z | z
          · exact h16 d z
          · rcases ht with rfl | rfl
            · exact sp_sl_16 hb _ _ d z
            · exact sp_sl_16 ha _ _ d z
        · rw [List.mem_singleton.mp z]; exact sp_line16 ho (by omega)
set_option maxHeartbeats 4000000 in
theorem l_M_utm {L : Nat} {xs : Nat → Int32} {d : Nat} {h : xm_H} {Q : xm_Q} {o a b : List Nat} (ho : sp_wl o) (ha : sp_wl a) (hb : sp_wl b) {n : Nat} {tk : Int32}
    (K : ∀ (h1 : xm_H) (fA fB : Nat → Int32), mo h1 n tk → h1[42]? = some (.inl (.int, 8, .inl fA)) → h1[43]? = some (.inl (.int, 8, .inl fB)) → (∃ g : Nat → Int32, h1[44]? = some (.inl (.int, 81, .inl g))) → (∀ k, k < o.length → fA k = sp_mv1 ((sp_mt o a 0).getD k none)) → (∀ k, k < o.length → fB k = sp_mv1 ((sp_mt o b 0).getD k none)) → xl_fr sp_MT h h1 → xm_X L xs (xm_call L xs (d + 3)) m_M_uniteTexts (53, [.ref 29, .long (lN (sp_enc o)), .float 0, .long (lN (sp_enc a)), .float 0, .long (lN (sp_enc b)), .float 0, .int (nI o.length), .int (nI o.length), .float 0, .float 0, .float 0, .float 0, .float 0, .float 0], [], h1, 0, 0) Q) :
    ∀ r k, k + r = o.length → ∀ (h1 : xm_H) (fA fB : Nat → Int32), mo h1 n tk → h1[42]? = some (.inl (.int, 8, .inl fA)) → h1[43]? = some (.inl (.int, 8, .inl fB)) → (∃ g : Nat → Int32, h1[44]? = some (.inl (.int, 81, .inl g))) → (∀ j, j < k → fA j = sp_mv1 ((sp_mt o a 0).getD j none)) → (∀ j, j < k → fB j = sp_mv1 ((sp_mt o b 0).getD j none)) → xl_fr sp_MT h h1 → xm_X L xs (xm_call L xs (d + 3)) m_M_uniteTexts (9, [.ref 29, .long (lN (sp_enc o)), .float 0, .long (lN (sp_enc a)), .float 0, .long (lN (sp_enc b)), .float 0, .int (nI o.length), .int (nI k), .float 0, .float 0, .float 0, .float 0, .float 0, .float 0], [], h1, 0, 0) Q := by
  have o8 := ho.1
  intro r
  induction r with
  | zero =>
    intro k hk h1 fA fB k1 k2 k3 k4 hA hB hf
    have hk : k = o.length := hk
    subst hk
    refine x_iload (pc' := 11) d_M_uniteTexts_9 rfl rfl ?_
    refine x_iload (pc' := 13) d_M_uniteTexts_11 rfl rfl ?_
    refine x_icmpge (t := 53) (pc' := 16) d_M_uniteTexts_13 rfl rfl (fun _ => ?_) (fun q => absurd (nI_le (Nat.le_refl _) (by omega)) q)
    exact K h1 fA fB k1 k2 k3 k4 hA hB hf
  | succ r ih =>
    intro k hk h1 fA fB k1 k2 k3 k4 hA hB hf
    have hkl : k < o.length := by omega
    refine x_iload (pc' := 11) d_M_uniteTexts_9 rfl rfl ?_
    refine x_iload (pc' := 13) d_M_uniteTexts_11 rfl rfl ?_
    refine x_icmpge (t := 53) (pc' := 16) d_M_uniteTexts_13 rfl rfl (fun q => absurd q (nI_ge hkl (by omega))) (fun _ => ?_)
    refine x_aload_n (pc' := 17) d_M_uniteTexts_16 rfl rfl ?_
    refine x_getfield (ci := 4) (i := 13) (v := .ref 42) (pc' := 20) d_M_uniteTexts_17 rfl g_M_47 k1 rfl ?_
    refine x_iload (pc' := 22) d_M_uniteTexts_20 rfl rfl ?_
    refine x_aload_n (pc' := 23) d_M_uniteTexts_22 rfl rfl ?_
    refine x_lload_n (pc' := 24) d_M_uniteTexts_23 rfl rfl rfl ?_
    refine x_lload_n (pc' := 25) d_M_uniteTexts_24 rfl rfl rfl ?_
    refine x_iload (pc' := 27) d_M_uniteTexts_25 rfl rfl ?_
    refine x_virtualR (a := 29) (as := [.long (lN (sp_enc o)), .long (lN (sp_enc a)), .int (nI k)]) (r := [.int (nI k), .ref 42]) (Post := fun v h9 => v = some (.int (sp_mv1 ((sp_mt o a 0).getD k none))) ∧ ∃ g : Nat → Int32, h9 = h1.set 44 (.inl (.int, 81, .inl g))) (c' := 0) (s' := 0) (pc' := 30) d_M_uniteTexts_27 rfl c_M_82 k1 rfl rfl (Nat.le_of_ble_eq_true rfl) (Nat.le_of_ble_eq_true rfl) (Nat.le_of_ble_eq_true rfl) (fun Q' hq => c_M_matched ho ha k1 k4.choose_spec hkl (fun g => hq _ _ ⟨rfl, g, rfl⟩)) rfl rfl (fun v9 h2 hp => ?_)
    obtain ⟨rfl, ga, rfl⟩ := hp
    show xm_X L xs (xm_call L xs (d + 3)) m_M_uniteTexts (30, [.ref 29, .long (lN (sp_enc o)), .float 0, .long (lN (sp_enc a)), .float 0, .long (lN (sp_enc b)), .float 0, .int (nI o.length), .int (nI k), .float 0, .float 0, .float 0, .float 0, .float 0, .float 0], [.int (sp_mv1 ((sp_mt o a 0).getD k none)), .int (nI k), .ref 42], (h1.set 44 (.inl (.int, 81, .inl ga))), 0, 0) Q
    refine x_iastore (h' := ((h1.set 44 (.inl (.int, 81, .inl ga))).set 42 (.inl (.int, 8, .inl (upd fA (nI k).toNatClampNeg (sp_mv1 ((sp_mt o a 0).getD k none))))))) (pc' := 31) d_M_uniteTexts_30 rfl ((xl_ne (by decide)).trans k2) (vp_in_nI (by omega) (by decide)) rfl ?_
    have j1 : mo ((h1.set 44 (.inl (.int, 81, .inl ga))).set 42 (.inl (.int, 8, .inl (upd fA (nI k).toNatClampNeg (sp_mv1 ((sp_mt o a 0).getD k none)))))) n tk := (xl_ne (by decide)).trans ((xl_ne (by decide)).trans k1)
    have j4 : ((h1.set 44 (.inl (.int, 81, .inl ga))).set 42 (.inl (.int, 8, .inl (upd fA (nI k).toNatClampNeg (sp_mv1 ((sp_mt o a 0).getD k none))))))[44]? = some (.inl (.int, 81, .inl ga)) := (xl_ne (by decide)).trans (xl_at k4.choose_spec)
    refine x_aload_n (pc' := 32) d_M_uniteTexts_31 rfl rfl ?_
    refine x_getfield (ci := 4) (i := 14) (v := .ref 43) (pc' := 35) d_M_uniteTexts_32 rfl g_M_50 j1 rfl ?_
    refine x_iload (pc' := 37) d_M_uniteTexts_35 rfl rfl ?_
    refine x_aload_n (pc' := 38) d_M_uniteTexts_37 rfl rfl ?_
    refine x_lload_n (pc' := 39) d_M_uniteTexts_38 rfl rfl rfl ?_
    refine x_lload (pc' := 41) d_M_uniteTexts_39 rfl rfl rfl ?_
    refine x_iload (pc' := 43) d_M_uniteTexts_41 rfl rfl ?_
    refine x_virtualR (a := 29) (as := [.long (lN (sp_enc o)), .long (lN (sp_enc b)), .int (nI k)]) (r := [.int (nI k), .ref 43]) (Post := fun v h9 => v = some (.int (sp_mv1 ((sp_mt o b 0).getD k none))) ∧ ∃ g : Nat → Int32, h9 = ((h1.set 44 (.inl (.int, 81, .inl ga))).set 42 (.inl (.int, 8, .inl (upd fA (nI k).toNatClampNeg (sp_mv1 ((sp_mt o a 0).getD k none)))))).set 44 (.inl (.int, 81, .inl g))) (c' := 0) (s' := 0) (pc' := 46) d_M_uniteTexts_43 rfl c_M_82 j1 rfl rfl (Nat.le_of_ble_eq_true rfl) (Nat.le_of_ble_eq_true rfl) (Nat.le_of_ble_eq_true rfl) (fun Q' hq => c_M_matched ho hb j1 j4 hkl (fun g => hq _ _ ⟨rfl, g, rfl⟩)) rfl rfl (fun v9 h3 hp => ?_)
    obtain ⟨rfl, gb, rfl⟩ := hp
    show xm_X L xs (xm_call L xs (d + 3)) m_M_uniteTexts (46, [.ref 29, .long (lN (sp_enc o)), .float 0, .long (lN (sp_enc a)), .float 0, .long (lN (sp_enc b)), .float 0, .int (nI o.length), .int (nI k), .float 0, .float 0, .float 0, .float 0, .float 0, .float 0], [.int (sp_mv1 ((sp_mt o b 0).getD k none)), .int (nI k), .ref 43], (((h1.set 44 (.inl (.int, 81, .inl ga))).set 42 (.inl (.int, 8, .inl (upd fA (nI k).toNatClampNeg (sp_mv1 ((sp_mt o a 0).getD k none)))))).set 44 (.inl (.int, 81, .inl gb))), 0, 0) Q
    refine x_iastore (h' := ((((h1.set 44 (.inl (.int, 81, .inl ga))).set 42 (.inl (.int, 8, .inl (upd fA (nI k).toNatClampNeg (sp_mv1 ((sp_mt o a 0).getD k none)))))).set 44 (.inl (.int, 81, .inl gb))).set 43 (.inl (.int, 8, .inl (upd fB (nI k).toNatClampNeg (sp_mv1 ((sp_mt o b 0).getD k none))))))) (pc' := 47) d_M_uniteTexts_46 rfl ((xl_ne (by decide)).trans ((xl_ne (by decide)).trans ((xl_ne (by decide)).trans k3))) (vp_in_nI (by omega) (by decide)) rfl ?_
    refine x_iinc (y := nI (k + 1)) (lo' := [.ref 29, .long (lN (sp_enc o)), .float 0, .long (lN (sp_enc a)), .float 0, .long (lN (sp_enc b)), .float 0, .int (nI o.length), .int (nI (k + 1)), .float 0, .float 0, .float 0, .float 0, .float 0, .float 0]) (pc' := 50) d_M_uniteTexts_47 rfl rfl (sp_nI_inc k) rfl ?_
    refine x_goto (t := 9) d_M_uniteTexts_50 rfl ?_
    refine ih (k + 1) (by omega) ((((h1.set 44 (.inl (.int, 81, .inl ga))).set 42 (.inl (.int, 8, .inl (upd fA (nI k).toNatClampNeg (sp_mv1 ((sp_mt o a 0).getD k none)))))).set 44 (.inl (.int, 81, .inl gb))).set 43 (.inl (.int, 8, .inl (upd fB (nI k).toNatClampNeg (sp_mv1 ((sp_mt o b 0).getD k none)))))) _ _ ((xl_ne (by decide)).trans ((xl_ne (by decide)).trans j1)) ((xl_ne (by decide)).trans ((xl_ne (by decide)).trans (xl_at ((xl_ne (by decide)).trans k2)))) (xl_at ((xl_ne (by decide)).trans ((xl_ne (by decide)).trans ((xl_ne (by decide)).trans k3)))) ⟨_, (xl_ne (by decide)).trans (xl_at j4)⟩ (fun j hj => by rw [nI_clamp (by omega)]; by_cases ej : j = k; rw [ej, sp_upd_at]; rw [sp_upd_ne ej]; exact hA j (by omega)) (fun j hj => by rw [nI_clamp (by omega)]; by_cases ej : j = k; rw [ej, sp_upd_at]; rw [sp_upd_ne ej]; exact hB j (by omega)) (xl_tr hf (xl_tr (xl_set (by decide)) (xl_tr (xl_set (by decide)) (xl_tr (xl_set (by decide)) (xl_set (by decide))))))
theorem c_M_uniteTexts {L : Nat} {xs : Nat → Int32} {d : Nat} {h : xm_H} {Q : xm_Q} {o a b : List Nat} (ho : sp_wl o) (ha : sp_wl a) (hb : sp_wl b) {n : Nat} {tk : Int32} (hO : mo h n tk) {fA fB : Nat → Int32} (g42 : h[42]? = some (.inl (.int, 8, .inl fA))) (g43 : h[43]? = some (.inl (.int, 8, .inl fB))) (g44 : ∃ g : Nat → Int32, h[44]? = some (.inl (.int, 81, .inl g))) (g45 : ∃ g : Nat → Int32, h[45]? = some (.inl (.int, 24, .inl g)))
    (hQ : ∀ h', mu h' n → xl_fr sp_MS h h' → Q (some (.long (sp_jv (sp_unite o a b)))) h') : xm_call L xs (d + 4) m_M_uniteTexts [.ref 29, .long (lN (sp_enc o)), .long (lN (sp_enc a)), .long (lN (sp_enc b))] h Q := by
  have o8 := ho.1
  have a8 := ha.1
  have b8 := hb.1
  refine x_call (lo := [.ref 29, .long (lN (sp_enc o)), .float 0, .long (lN (sp_enc a)), .float 0, .long (lN (sp_enc b)), .float 0, .float 0, .float 0, .float 0, .float 0, .float 0, .float 0, .float 0, .float 0]) (Nat.le_of_ble_eq_true rfl) rfl ?_
  refine x_lload_n (pc' := 1) d_M_uniteTexts_0 rfl rfl rfl ?_
  refine x_static (as := [.long (lN (sp_enc o))]) (r := []) (v := (some (.int (nI o.length)))) (h' := h) (st' := [.int (nI o.length)]) (c' := 0) (s' := 0) (pc' := 4) d_M_uniteTexts_1 rfl c_M_66 rfl rfl (Nat.le_of_ble_eq_true rfl) (Nat.le_of_ble_eq_true rfl) (Nat.le_of_ble_eq_true rfl) (fun Q' hq => c_M_size ho hq) rfl rfl rfl ?_
  refine x_istore (lo' := [.ref 29, .long (lN (sp_enc o)), .float 0, .long (lN (sp_enc a)), .float 0, .long (lN (sp_enc b)), .float 0, .int (nI o.length), .float 0, .float 0, .float 0, .float 0, .float 0, .float 0, .float 0]) (pc' := 6) d_M_uniteTexts_4 rfl (Nat.le_of_ble_eq_true rfl) rfl ?_
  refine x_iconst (v := nI 0) (pc' := 7) d_M_uniteTexts_6 rfl (by decide) ?_
  refine x_istore (lo' := [.ref 29, .long (lN (sp_enc o)), .float 0, .long (lN (sp_enc a)), .float 0, .long (lN (sp_enc b)), .float 0, .int (nI o.length), .int (nI 0), .float 0, .float 0, .float 0, .float 0, .float 0, .float 0]) (pc' := 9) d_M_uniteTexts_7 rfl (Nat.le_of_ble_eq_true rfl) rfl ?_
  refine l_M_utm ho ha hb (fun h1 fA fB k1 k2 k3 k4 hA hB hf => ?_) o.length 0 (by omega) h _ _ hO g42 g43 g44 (fun j hj => absurd hj (Nat.not_lt_zero j)) (fun j hj => absurd hj (Nat.not_lt_zero j)) xl_rf
  refine x_iconst (v := nI 0) (pc' := 54) d_M_uniteTexts_53 rfl (by decide) ?_
  refine x_istore (lo' := [.ref 29, .long (lN (sp_enc o)), .float 0, .long (lN (sp_enc a)), .float 0, .long (lN (sp_enc b)), .float 0, .int (nI o.length), .int (nI 0), .float 0, .float 0, .float 0, .float 0, .float 0, .float 0]) (pc' := 56) d_M_uniteTexts_54 rfl (Nat.le_of_ble_eq_true rfl) rfl ?_
  refine x_iconst (v := nI 0) (pc' := 57) d_M_uniteTexts_56 rfl (by decide) ?_
  refine x_istore (lo' := [.ref 29, .long (lN (sp_enc o)), .float 0, .long (lN (sp_enc a)), .float 0, .long (lN (sp_enc b)), .float 0, .int (nI o.length), .int (nI 0), .int (nI 0), .float 0, .float 0, .float 0, .float 0, .float 0]) (pc' := 59) d_M_uniteTexts_57 rfl (Nat.le_of_ble_eq_true rfl) rfl ?_
  refine x_iconst (v := nI 0) (pc' := 60) d_M_uniteTexts_59 rfl (by decide) ?_
  refine x_istore (lo' := [.ref 29, .long (lN (sp_enc o)), .float 0, .long (lN (sp_enc a)), .float 0, .long (lN (sp_enc b)), .float 0, .int (nI o.length), .int (nI 0), .int (nI 0), .int (nI 0), .float 0, .float 0, .float 0, .float 0]) (pc' := 62) d_M_uniteTexts_60 rfl (Nat.le_of_ble_eq_true rfl) rfl ?_
  refine x_aload_n (pc' := 63) d_M_uniteTexts_62 rfl rfl ?_
  refine x_iconst (v := nI 0) (pc' := 64) d_M_uniteTexts_63 rfl (by decide) ?_
  refine x_putfield (ci := 4) (i := 16) (h' := (h1.set 29 (.inr (4, [.int (nI n), .ref 30, .ref 31, .ref 32, .ref 33, .ref 34, .ref 35, .ref 36, .ref 37, .ref 38, .ref 39, .ref 40, .ref 41, .ref 42, .ref 43, .ref 44, .int (nI 0), .ref 45, .ref 46])))) (pc' := 67) d_M_uniteTexts_64 rfl (p_M_78 _ rfl) k1 (Nat.le_of_ble_eq_true rfl) rfl rfl rfl ?_
  refine x_iconst (v := nI 0) (pc' := 68) d_M_uniteTexts_67 rfl (by decide) ?_
  refine x_istore (lo' := [.ref 29, .long (lN (sp_enc o)), .float 0, .long (lN (sp_enc a)), .float 0, .long (lN (sp_enc b)), .float 0, .int (nI o.length), .int (nI 0), .int (nI 0), .int (nI 0), .int (nI 0), .float 0, .float 0, .float 0]) (pc' := 70) d_M_uniteTexts_68 rfl (Nat.le_of_ble_eq_true rfl) rfl ?_
  refine l_M_utl (h := h) ho ha hb hA hB (R := sp_go o a b (sp_mt o a 0) (sp_mt o b 0) o.length 0 0 0 0 []) (fun e h' m f => ?_) (fun l e h' x8 x9 x10 x11 x12 x13 x14 hL m h16 h24 f => ?_) o.length 0 0 0 0 [] _ _ _ _ (by omega) (Nat.le_refl _) (Nat.zero_le _) (Nat.zero_le _) (fun _ _ _ _ => Nat.zero_le _) (fun _ _ _ _ => Nat.zero_le _) (fun d hd => by cases hd) (by rw [List.length_nil]; omega) rfl ⟨xl_at k1, ⟨g45.choose, (xl_ne (by decide)).trans ((hf.2 45 (by omega)).trans g45.choose_spec), fun j hj => absurd hj (Nat.not_lt_zero j)⟩⟩ ((xl_ne (by decide)).trans k2) ((xl_ne (by decide)).trans k3) ⟨k4.choose, (xl_ne (by decide)).trans k4.choose_spec⟩ (xl_tr (xl_mono hf (fun k z => Or.inr ⟨z.1, by omega⟩)) (xl_set (Or.inl rfl)))
  · have := hQ h' m f
    unfold sp_unite at this
    rw [e] at this
    exact this
  · have := hQ h' m f
    unfold sp_unite at this
    rw [e] at this
    exact l_M_utf h16 h24 hL this
