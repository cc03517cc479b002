/-! The arms of the law. (Printed by c_law.py.) -/
theorem a_L_write {nm : String} {L : Nat} {xs : Nat → Int32} {d : Nat} {h : xm_H} {Q : xm_Q} {S : sp_S} {i : Nat} (hi : i + 6 ≤ L) (hL : L < 2 ^ 30) (a : lv h S) (K : ∀ h' S', lv h' S' → xm_X L xs (xm_call L xs (d + 8)) (m_L_lw nm) (828, [.retAddr 0, .ref 0, .ref 29, .int (nI i)], [], h', 47, 1024) Q) :
    xm_X L xs (xm_call L xs (d + 8)) (m_L_lw nm) (132, [.retAddr 0, .ref 0, .ref 29, .int (nI i)], [], h, 47, 1024) Q := by
  obtain ⟨m, hm, em⟩ := wb_of ((xs (i + 3)).toInt64 <<< ((nI 32).toInt64 &&& 63) ||| (xs (i + 4)).toInt64 &&& 4294967295)
  refine x_aload_n (pc' := 133) d_L_law_132 rfl rfl ?_
  refine x_sload_n (pc' := 134) d_L_law_133 rfl rfl ?_
  refine x_iload_n (pc' := 135) d_L_law_134 rfl rfl ?_
  refine x_iconst (v := nI 1) (pc' := 136) d_L_law_135 rfl (by decide) ?_
  refine x_iadd (z := nI (i + 1)) (pc' := 137) d_L_law_136 rfl (nI_add _ _) ?_
  refine x_sld (v := xs (i + 1)) (pc' := 138) d_L_law_137 rfl (vp_in_nI (by omega) (by omega)) (by rw [nI_clamp (by omega)]) ?_
  refine x_sload_n (pc' := 139) d_L_law_138 rfl rfl ?_
  refine x_iload_n (pc' := 140) d_L_law_139 rfl rfl ?_
  refine x_iconst (v := nI 2) (pc' := 141) d_L_law_140 rfl (by decide) ?_
  refine x_iadd (z := nI (i + 2)) (pc' := 142) d_L_law_141 rfl (nI_add _ _) ?_
  refine x_sld (v := xs (i + 2)) (pc' := 143) d_L_law_142 rfl (vp_in_nI (by omega) (by omega)) (by rw [nI_clamp (by omega)]) ?_
  refine x_sload_n (pc' := 144) d_L_law_143 rfl rfl ?_
  refine x_iload_n (pc' := 145) d_L_law_144 rfl rfl ?_
  refine x_iconst (v := nI 3) (pc' := 146) d_L_law_145 rfl (by decide) ?_
  refine x_iadd (z := nI (i + 3)) (pc' := 147) d_L_law_146 rfl (nI_add _ _) ?_
  refine x_sld (v := xs (i + 3)) (pc' := 148) d_L_law_147 rfl (vp_in_nI (by omega) (by omega)) (by rw [nI_clamp (by omega)]) ?_
  refine x_i2l (z := (xs (i + 3)).toInt64) (pc' := 149) d_L_law_148 rfl rfl ?_
  refine x_bipush (v := nI 32) (pc' := 151) d_L_law_149 rfl (by decide) ?_
  refine x_lshl (z := ((xs (i + 3)).toInt64) <<< ((nI 32).toInt64 &&& 63)) (pc' := 152) d_L_law_151 rfl rfl ?_
  refine x_sload_n (pc' := 153) d_L_law_152 rfl rfl ?_
  refine x_iload_n (pc' := 154) d_L_law_153 rfl rfl ?_
  refine x_iconst (v := nI 4) (pc' := 155) d_L_law_154 rfl (by decide) ?_
  refine x_iadd (z := nI (i + 4)) (pc' := 156) d_L_law_155 rfl (nI_add _ _) ?_
  refine x_sld (v := xs (i + 4)) (pc' := 157) d_L_law_156 rfl (vp_in_nI (by omega) (by omega)) (by rw [nI_clamp (by omega)]) ?_
  refine x_i2l (z := (xs (i + 4)).toInt64) (pc' := 158) d_L_law_157 rfl rfl ?_
  refine x_ldc2_w (x := 4294967295) (pc' := 161) d_L_law_158 rfl k_L_13 ?_
  refine x_land (z := ((xs (i + 4)).toInt64) &&& 4294967295) (pc' := 162) d_L_law_161 rfl rfl ?_
  refine x_lor (z := lN m) (pc' := 163) d_L_law_162 rfl em ?_
  refine x_sload_n (pc' := 164) d_L_law_163 rfl rfl ?_
  refine x_iload_n (pc' := 165) d_L_law_164 rfl rfl ?_
  refine x_iconst (v := nI 5) (pc' := 166) d_L_law_165 rfl (by decide) ?_
  refine x_iadd (z := nI (i + 5)) (pc' := 167) d_L_law_166 rfl (nI_add _ _) ?_
  refine x_sld (v := xs (i + 5)) (pc' := 168) d_L_law_167 rfl (vp_in_nI (by omega) (by omega)) (by rw [nI_clamp (by omega)]) ?_
  refine x_virtualR (a := 0) (as := [.int (xs (i + 1)), .int (xs (i + 2)), .long (lN m), .int (xs (i + 5))]) (r := []) (Post := fun v9 h9 => v9 = some (.int (sp_write S (xs (i + 1)) (xs (i + 2)) m (xs (i + 5))).1) ∧ ch_V h9 (sp_write S (xs (i + 1)) (xs (i + 2)) m (xs (i + 5))).2 ∧ xl_fr sp_V29 h h9) (c' := 47) (s' := 1024) (pc' := 171) d_L_law_168 rfl c_L_15 a.1.1 rfl rfl (Nat.le_of_ble_eq_true rfl) (Nat.le_of_ble_eq_true rfl) (Nat.le_of_ble_eq_true rfl) (fun Q' hq => c_V_write a.1 a.2.2 hm (fun h' z1 z2 => hq _ h' ⟨rfl, z1, z2⟩)) rfl rfl (fun v9 h1 hp => ?_)
  obtain ⟨rfl, V1, f1⟩ := hp
  show xm_X L xs (xm_call L xs (d + 8)) (m_L_lw nm) (171, [.retAddr 0, .ref 0, .ref 29, .int (nI i)], [.int (sp_write S (xs (i + 1)) (xs (i + 2)) m (xs (i + 5))).1], h1, 47, 1024) Q
  have M1 := lv_V a.2.1 f1
  obtain ⟨tk, oM⟩ := M1.2.1
  refine x_aload_n (pc' := 172) d_L_law_171 rfl rfl ?_
  refine x_sload_n (pc' := 173) d_L_law_172 rfl rfl ?_
  refine x_iload_n (pc' := 174) d_L_law_173 rfl rfl ?_
  refine x_iconst (v := nI 1) (pc' := 175) d_L_law_174 rfl (by decide) ?_
  refine x_iadd (z := nI (i + 1)) (pc' := 176) d_L_law_175 rfl (nI_add _ _) ?_
  refine x_sld (v := xs (i + 1)) (pc' := 177) d_L_law_176 rfl (vp_in_nI (by omega) (by omega)) (by rw [nI_clamp (by omega)]) ?_
  refine x_sload_n (pc' := 178) d_L_law_177 rfl rfl ?_
  refine x_iload_n (pc' := 179) d_L_law_178 rfl rfl ?_
  refine x_iconst (v := nI 2) (pc' := 180) d_L_law_179 rfl (by decide) ?_
  refine x_iadd (z := nI (i + 2)) (pc' := 181) d_L_law_180 rfl (nI_add _ _) ?_
  refine x_sld (v := xs (i + 2)) (pc' := 182) d_L_law_181 rfl (vp_in_nI (by omega) (by omega)) (by rw [nI_clamp (by omega)]) ?_
  refine x_sload_n (pc' := 183) d_L_law_182 rfl rfl ?_
  refine x_iload_n (pc' := 184) d_L_law_183 rfl rfl ?_
  refine x_iconst (v := nI 3) (pc' := 185) d_L_law_184 rfl (by decide) ?_
  refine x_iadd (z := nI (i + 3)) (pc' := 186) d_L_law_185 rfl (nI_add _ _) ?_
  refine x_sld (v := xs (i + 3)) (pc' := 187) d_L_law_186 rfl (vp_in_nI (by omega) (by omega)) (by rw [nI_clamp (by omega)]) ?_
  refine x_i2l (z := (xs (i + 3)).toInt64) (pc' := 188) d_L_law_187 rfl rfl ?_
  refine x_bipush (v := nI 32) (pc' := 190) d_L_law_188 rfl (by decide) ?_
  refine x_lshl (z := ((xs (i + 3)).toInt64) <<< ((nI 32).toInt64 &&& 63)) (pc' := 191) d_L_law_190 rfl rfl ?_
  refine x_sload_n (pc' := 192) d_L_law_191 rfl rfl ?_
  refine x_iload_n (pc' := 193) d_L_law_192 rfl rfl ?_
  refine x_iconst (v := nI 4) (pc' := 194) d_L_law_193 rfl (by decide) ?_
  refine x_iadd (z := nI (i + 4)) (pc' := 195) d_L_law_194 rfl (nI_add _ _) ?_
  refine x_sld (v := xs (i + 4)) (pc' := 196) d_L_law_195 rfl (vp_in_nI (by omega) (by omega)) (by rw [nI_clamp (by omega)]) ?_
  refine x_i2l (z := (xs (i + 4)).toInt64) (pc' := 197) d_L_law_196 rfl rfl ?_
  refine x_ldc2_w (x := 4294967295) (pc' := 200) d_L_law_197 rfl k_L_13 ?_
  refine x_land (z := ((xs (i + 4)).toInt64) &&& 4294967295) (pc' := 201) d_L_law_200 rfl rfl ?_
  refine x_lor (z := lN m) (pc' := 202) d_L_law_201 rfl em ?_
  refine x_sload_n (pc' := 203) d_L_law_202 rfl rfl ?_
  refine x_iload_n (pc' := 204) d_L_law_203 rfl rfl ?_
  refine x_iconst (v := nI 5) (pc' := 205) d_L_law_204 rfl (by decide) ?_
  refine x_iadd (z := nI (i + 5)) (pc' := 206) d_L_law_205 rfl (nI_add _ _) ?_
  refine x_sld (v := xs (i + 5)) (pc' := 207) d_L_law_206 rfl (vp_in_nI (by omega) (by omega)) (by rw [nI_clamp (by omega)]) ?_
  refine x_virtualR (a := 29) (as := [.int (xs (i + 1)), .int (xs (i + 2)), .long (lN m), .int (xs (i + 5))]) (r := [.int (sp_write S (xs (i + 1)) (xs (i + 2)) m (xs (i + 5))).1]) (Post := fun v9 h9 => v9 = some (.int (sp_write S (xs (i + 1)) (xs (i + 2)) m (xs (i + 5))).1) ∧ mh h9 (sp_write S (xs (i + 1)) (xs (i + 2)) m (xs (i + 5))).2 ∧ xl_fr sp_M29 h1 h9) (c' := 47) (s' := 1024) (pc' := 210) d_L_law_207 rfl c_L_19 oM rfl rfl (Nat.le_of_ble_eq_true rfl) (Nat.le_of_ble_eq_true rfl) (Nat.le_of_ble_eq_true rfl) (fun Q' hq => c_M_write M1 a.2.2 (fun h' z1 z2 => hq _ h' ⟨rfl, z1, z2⟩)) rfl rfl (fun v9 h2 hp => ?_)
  obtain ⟨rfl, M2, f2⟩ := hp
  show xm_X L xs (xm_call L xs (d + 8)) (m_L_lw nm) (210, [.retAddr 0, .ref 0, .ref 29, .int (nI i)], [.int (sp_write S (xs (i + 1)) (xs (i + 2)) m (xs (i + 5))).1, .int (sp_write S (xs (i + 1)) (xs (i + 2)) m (xs (i + 5))).1], h2, 47, 1024) Q
  refine x_icmpeq (t := 828) (pc' := 213) d_L_law_210 rfl rfl (fun _ => ?_) (fun q => absurd rfl q)
  exact K h2 _ ⟨lv_M V1 f2, M2, sp_WS_write a.2.2⟩
theorem a_L_remove {nm : String} {L : Nat} {xs : Nat → Int32} {d : Nat} {h : xm_H} {Q : xm_Q} {S : sp_S} {i : Nat} (hi : i + 6 ≤ L) (hL : L < 2 ^ 30) (a : lv h S) (K : ∀ h' S', lv h' S' → xm_X L xs (xm_call L xs (d + 8)) (m_L_lw nm) (828, [.retAddr 0, .ref 0, .ref 29, .int (nI i)], [], h', 47, 1024) Q) :
    xm_X L xs (xm_call L xs (d + 8)) (m_L_lw nm) (215, [.retAddr 0, .ref 0, .ref 29, .int (nI i)], [], h, 47, 1024) Q := by
  refine x_aload_n (pc' := 216) d_L_law_215 rfl rfl ?_
  refine x_sload_n (pc' := 217) d_L_law_216 rfl rfl ?_
  refine x_iload_n (pc' := 218) d_L_law_217 rfl rfl ?_
  refine x_iconst (v := nI 1) (pc' := 219) d_L_law_218 rfl (by decide) ?_
  refine x_iadd (z := nI (i + 1)) (pc' := 220) d_L_law_219 rfl (nI_add _ _) ?_
  refine x_sld (v := xs (i + 1)) (pc' := 221) d_L_law_220 rfl (vp_in_nI (by omega) (by omega)) (by rw [nI_clamp (by omega)]) ?_
  refine x_sload_n (pc' := 222) d_L_law_221 rfl rfl ?_
  refine x_iload_n (pc' := 223) d_L_law_222 rfl rfl ?_
  refine x_iconst (v := nI 2) (pc' := 224) d_L_law_223 rfl (by decide) ?_
  refine x_iadd (z := nI (i + 2)) (pc' := 225) d_L_law_224 rfl (nI_add _ _) ?_
  refine x_sld (v := xs (i + 2)) (pc' := 226) d_L_law_225 rfl (vp_in_nI (by omega) (by omega)) (by rw [nI_clamp (by omega)]) ?_
  refine x_virtualR (a := 0) (as := [.int (xs (i + 1)), .int (xs (i + 2))]) (r := []) (Post := fun v9 h9 => v9 = some (.int (sp_remove S (xs (i + 1)) (xs (i + 2))).1) ∧ ch_V h9 (sp_remove S (xs (i + 1)) (xs (i + 2))).2 ∧ xl_fr sp_V29 h h9) (c' := 47) (s' := 1024) (pc' := 229) d_L_law_226 rfl c_L_20 a.1.1 rfl rfl (Nat.le_of_ble_eq_true rfl) (Nat.le_of_ble_eq_true rfl) (Nat.le_of_ble_eq_true rfl) (fun Q' hq => c_V_remove a.1 a.2.2 (fun h' z1 z2 => hq _ h' ⟨rfl, z1, z2⟩)) rfl rfl (fun v9 h1 hp => ?_)
  obtain ⟨rfl, V1, f1⟩ := hp
  show xm_X L xs (xm_call L xs (d + 8)) (m_L_lw nm) (229, [.retAddr 0, .ref 0, .ref 29, .int (nI i)], [.int (sp_remove S (xs (i + 1)) (xs (i + 2))).1], h1, 47, 1024) Q
  have M1 := lv_V a.2.1 f1
  obtain ⟨tk, oM⟩ := M1.2.1
  refine x_aload_n (pc' := 230) d_L_law_229 rfl rfl ?_
  refine x_sload_n (pc' := 231) d_L_law_230 rfl rfl ?_
  refine x_iload_n (pc' := 232) d_L_law_231 rfl rfl ?_
  refine x_iconst (v := nI 1) (pc' := 233) d_L_law_232 rfl (by decide) ?_
  refine x_iadd (z := nI (i + 1)) (pc' := 234) d_L_law_233 rfl (nI_add _ _) ?_
  refine x_sld (v := xs (i + 1)) (pc' := 235) d_L_law_234 rfl (vp_in_nI (by omega) (by omega)) (by rw [nI_clamp (by omega)]) ?_
  refine x_sload_n (pc' := 236) d_L_law_235 rfl rfl ?_
  refine x_iload_n (pc' := 237) d_L_law_236 rfl rfl ?_
  refine x_iconst (v := nI 2) (pc' := 238) d_L_law_237 rfl (by decide) ?_
  refine x_iadd (z := nI (i + 2)) (pc' := 239) d_L_law_238 rfl (nI_add _ _) ?_
  refine x_sld (v := xs (i + 2)) (pc' := 240) d_L_law_239 rfl (vp_in_nI (by omega) (by omega)) (by rw [nI_clamp (by omega)]) ?_
  refine x_virtualR (a := 29) (as := [.int (xs (i + 1)), .int (xs (i + 2))]) (r := [.int (sp_remove S (xs (i + 1)) (xs (i + 2))).1]) (Post := fun v9 h9 => v9 = some (.int (sp_remove S (xs (i + 1)) (xs (i + 2))).1) ∧ mh h9 (sp_remove S (xs (i + 1)) (xs (i + 2))).2 ∧ xl_fr sp_M29 h1 h9) (c' := 47) (s' := 1024) (pc' := 243) d_L_law_240 rfl c_L_24 oM rfl rfl (Nat.le_of_ble_eq_true rfl) (Nat.le_of_ble_eq_true rfl) (Nat.le_of_ble_eq_true rfl) (fun Q' hq => c_M_remove M1 a.2.2 (fun h' z1 z2 => hq _ h' ⟨rfl, z1, z2⟩)) rfl rfl (fun v9 h2 hp => ?_)
  obtain ⟨rfl, M2, f2⟩ := hp
  show xm_X L xs (xm_call L xs (d + 8)) (m_L_lw nm) (243, [.retAddr 0, .ref 0, .ref 29, .int (nI i)], [.int (sp_remove S (xs (i + 1)) (xs (i + 2))).1, .int (sp_remove S (xs (i + 1)) (xs (i + 2))).1], h2, 47, 1024) Q
  refine x_icmpeq (t := 828) (pc' := 246) d_L_law_243 rfl rfl (fun _ => ?_) (fun q => absurd rfl q)
  exact K h2 _ ⟨lv_M V1 f2, M2, sp_WS_remove a.2.2⟩
theorem a_L_stage {nm : String} {L : Nat} {xs : Nat → Int32} {d : Nat} {h : xm_H} {Q : xm_Q} {S : sp_S} {i : Nat} (hi : i + 6 ≤ L) (hL : L < 2 ^ 30) (a : lv h S) (K : ∀ h' S', lv h' S' → xm_X L xs (xm_call L xs (d + 8)) (m_L_lw nm) (828, [.retAddr 0, .ref 0, .ref 29, .int (nI i)], [], h', 47, 1024) Q) :
    xm_X L xs (xm_call L xs (d + 8)) (m_L_lw nm) (248, [.retAddr 0, .ref 0, .ref 29, .int (nI i)], [], h, 47, 1024) Q := by
  refine x_aload_n (pc' := 249) d_L_law_248 rfl rfl ?_
  refine x_sload_n (pc' := 250) d_L_law_249 rfl rfl ?_
  refine x_iload_n (pc' := 251) d_L_law_250 rfl rfl ?_
  refine x_iconst (v := nI 1) (pc' := 252) d_L_law_251 rfl (by decide) ?_
  refine x_iadd (z := nI (i + 1)) (pc' := 253) d_L_law_252 rfl (nI_add _ _) ?_
  refine x_sld (v := xs (i + 1)) (pc' := 254) d_L_law_253 rfl (vp_in_nI (by omega) (by omega)) (by rw [nI_clamp (by omega)]) ?_
  refine x_sload_n (pc' := 255) d_L_law_254 rfl rfl ?_
  refine x_iload_n (pc' := 256) d_L_law_255 rfl rfl ?_
  refine x_iconst (v := nI 2) (pc' := 257) d_L_law_256 rfl (by decide) ?_
  refine x_iadd (z := nI (i + 2)) (pc' := 258) d_L_law_257 rfl (nI_add _ _) ?_
  refine x_sld (v := xs (i + 2)) (pc' := 259) d_L_law_258 rfl (vp_in_nI (by omega) (by omega)) (by rw [nI_clamp (by omega)]) ?_
  refine x_virtualR (a := 0) (as := [.int (xs (i + 1)), .int (xs (i + 2))]) (r := []) (Post := fun v9 h9 => v9 = some (.int (sp_stage S (xs (i + 1)) (xs (i + 2))).1) ∧ ch_V h9 (sp_stage S (xs (i + 1)) (xs (i + 2))).2 ∧ xl_fr sp_V29 h h9) (c' := 47) (s' := 1024) (pc' := 262) d_L_law_259 rfl c_L_25 a.1.1 rfl rfl (Nat.le_of_ble_eq_true rfl) (Nat.le_of_ble_eq_true rfl) (Nat.le_of_ble_eq_true rfl) (fun Q' hq => c_V_stage a.1 a.2.2 (fun h' z1 z2 => hq _ h' ⟨rfl, z1, z2⟩)) rfl rfl (fun v9 h1 hp => ?_)
  obtain ⟨rfl, V1, f1⟩ := hp
  show xm_X L xs (xm_call L xs (d + 8)) (m_L_lw nm) (262, [.retAddr 0, .ref 0, .ref 29, .int (nI i)], [.int (sp_stage S (xs (i + 1)) (xs (i + 2))).1], h1, 47, 1024) Q
  have M1 := lv_V a.2.1 f1
  obtain ⟨tk, oM⟩ := M1.2.1
  refine x_aload_n (pc' := 263) d_L_law_262 rfl rfl ?_
  refine x_sload_n (pc' := 264) d_L_law_263 rfl rfl ?_
  refine x_iload_n (pc' := 265) d_L_law_264 rfl rfl ?_
  refine x_iconst (v := nI 1) (pc' := 266) d_L_law_265 rfl (by decide) ?_
  refine x_iadd (z := nI (i + 1)) (pc' := 267) d_L_law_266 rfl (nI_add _ _) ?_
  refine x_sld (v := xs (i + 1)) (pc' := 268) d_L_law_267 rfl (vp_in_nI (by omega) (by omega)) (by rw [nI_clamp (by omega)]) ?_
  refine x_sload_n (pc' := 269) d_L_law_268 rfl rfl ?_
  refine x_iload_n (pc' := 270) d_L_law_269 rfl rfl ?_
  refine x_iconst (v := nI 2) (pc' := 271) d_L_law_270 rfl (by decide) ?_
  refine x_iadd (z := nI (i + 2)) (pc' := 272) d_L_law_271 rfl (nI_add _ _) ?_
  refine x_sld (v := xs (i + 2)) (pc' := 273) d_L_law_272 rfl (vp_in_nI (by omega) (by omega)) (by rw [nI_clamp (by omega)]) ?_
  refine x_virtualR (a := 29) (as := [.int (xs (i + 1)), .int (xs (i + 2))]) (r := [.int (sp_stage S (xs (i + 1)) (xs (i + 2))).1]) (Post := fun v9 h9 => v9 = some (.int (sp_stage S (xs (i + 1)) (xs (i + 2))).1) ∧ mh h9 (sp_stage S (xs (i + 1)) (xs (i + 2))).2 ∧ xl_fr sp_M29 h1 h9) (c' := 47) (s' := 1024) (pc' := 276) d_L_law_273 rfl c_L_28 oM rfl rfl (Nat.le_of_ble_eq_true rfl) (Nat.le_of_ble_eq_true rfl) (Nat.le_of_ble_eq_true rfl) (fun Q' hq => c_M_stage M1 a.2.2 (fun h' z1 z2 => hq _ h' ⟨rfl, z1, z2⟩)) rfl rfl (fun v9 h2 hp => ?_)
  obtain ⟨rfl, M2, f2⟩ := hp
  show xm_X L xs (xm_call L xs (d + 8)) (m_L_lw nm) (276, [.retAddr 0, .ref 0, .ref 29, .int (nI i)], [.int (sp_stage S (xs (i + 1)) (xs (i + 2))).1, .int (sp_stage S (xs (i + 1)) (xs (i + 2))).1], h2, 47, 1024) Q
  refine x_icmpeq (t := 828) (pc' := 279) d_L_law_276 rfl rfl (fun _ => ?_) (fun q => absurd rfl q)
  exact K h2 _ ⟨lv_M V1 f2, M2, sp_WS_stage a.2.2⟩
theorem a_L_commit {nm : String} {L : Nat} {xs : Nat → Int32} {d : Nat} {h : xm_H} {Q : xm_Q} {S : sp_S} {i : Nat} (hi : i + 6 ≤ L) (hL : L < 2 ^ 30) (a : lv h S) (K : ∀ h' S', lv h' S' → xm_X L xs (xm_call L xs (d + 8)) (m_L_lw nm) (828, [.retAddr 0, .ref 0, .ref 29, .int (nI i)], [], h', 47, 1024) Q) :
    xm_X L xs (xm_call L xs (d + 8)) (m_L_lw nm) (281, [.retAddr 0, .ref 0, .ref 29, .int (nI i)], [], h, 47, 1024) Q := by
  refine x_aload_n (pc' := 282) d_L_law_281 rfl rfl ?_
  refine x_sload_n (pc' := 283) d_L_law_282 rfl rfl ?_
  refine x_iload_n (pc' := 284) d_L_law_283 rfl rfl ?_
  refine x_iconst (v := nI 1) (pc' := 285) d_L_law_284 rfl (by decide) ?_
  refine x_iadd (z := nI (i + 1)) (pc' := 286) d_L_law_285 rfl (nI_add _ _) ?_
  refine x_sld (v := xs (i + 1)) (pc' := 287) d_L_law_286 rfl (vp_in_nI (by omega) (by omega)) (by rw [nI_clamp (by omega)]) ?_
  refine x_virtualR (a := 0) (as := [.int (xs (i + 1))]) (r := []) (Post := fun v9 h9 => v9 = some (.int (sp_commit S (xs (i + 1))).1) ∧ ch_V h9 (sp_commit S (xs (i + 1))).2 ∧ xl_fr sp_V29 h h9) (c' := 47) (s' := 1024) (pc' := 290) d_L_law_287 rfl c_L_29 a.1.1 rfl rfl (Nat.le_of_ble_eq_true rfl) (Nat.le_of_ble_eq_true rfl) (Nat.le_of_ble_eq_true rfl) (fun Q' hq => c_V_commit a.1 a.2.2 (fun h' z1 z2 => hq _ h' ⟨rfl, z1, z2⟩)) rfl rfl (fun v9 h1 hp => ?_)
  obtain ⟨rfl, V1, f1⟩ := hp
  show xm_X L xs (xm_call L xs (d + 8)) (m_L_lw nm) (290, [.retAddr 0, .ref 0, .ref 29, .int (nI i)], [.int (sp_commit S (xs (i + 1))).1], h1, 47, 1024) Q
  have M1 := lv_V a.2.1 f1
  obtain ⟨tk, oM⟩ := M1.2.1
  refine x_aload_n (pc' := 291) d_L_law_290 rfl rfl ?_
  refine x_sload_n (pc' := 292) d_L_law_291 rfl rfl ?_
  refine x_iload_n (pc' := 293) d_L_law_292 rfl rfl ?_
  refine x_iconst (v := nI 1) (pc' := 294) d_L_law_293 rfl (by decide) ?_
  refine x_iadd (z := nI (i + 1)) (pc' := 295) d_L_law_294 rfl (nI_add _ _) ?_
  refine x_sld (v := xs (i + 1)) (pc' := 296) d_L_law_295 rfl (vp_in_nI (by omega) (by omega)) (by rw [nI_clamp (by omega)]) ?_
  refine x_virtualR (a := 29) (as := [.int (xs (i + 1))]) (r := [.int (sp_commit S (xs (i + 1))).1]) (Post := fun v9 h9 => v9 = some (.int (sp_commit S (xs (i + 1))).1) ∧ mh h9 (sp_commit S (xs (i + 1))).2 ∧ xl_fr sp_M29 h1 h9) (c' := 47) (s' := 1024) (pc' := 299) d_L_law_296 rfl c_L_33 oM rfl rfl (Nat.le_of_ble_eq_true rfl) (Nat.le_of_ble_eq_true rfl) (Nat.le_of_ble_eq_true rfl) (fun Q' hq => c_M_commit M1 a.2.2 (fun h' z1 z2 => hq _ h' ⟨rfl, z1, z2⟩)) rfl rfl (fun v9 h2 hp => ?_)
  obtain ⟨rfl, M2, f2⟩ := hp
  show xm_X L xs (xm_call L xs (d + 8)) (m_L_lw nm) (299, [.retAddr 0, .ref 0, .ref 29, .int (nI i)], [.int (sp_commit S (xs (i + 1))).1, .int (sp_commit S (xs (i + 1))).1], h2, 47, 1024) Q
  refine x_icmpeq (t := 828) (pc' := 302) d_L_law_299 rfl rfl (fun _ => ?_) (fun q => absurd rfl q)
  exact K h2 _ ⟨lv_M V1 f2, M2, sp_WS_commit a.2.2⟩
theorem a_L_branch {nm : String} {L : Nat} {xs : Nat → Int32} {d : Nat} {h : xm_H} {Q : xm_Q} {S : sp_S} {i : Nat} (hi : i + 6 ≤ L) (hL : L < 2 ^ 30) (a : lv h S) (K : ∀ h' S', lv h' S' → xm_X L xs (xm_call L xs (d + 8)) (m_L_lw nm) (828, [.retAddr 0, .ref 0, .ref 29, .int (nI i)], [], h', 47, 1024) Q) :
    xm_X L xs (xm_call L xs (d + 8)) (m_L_lw nm) (304, [.retAddr 0, .ref 0, .ref 29, .int (nI i)], [], h, 47, 1024) Q := by
  refine x_aload_n (pc' := 305) d_L_law_304 rfl rfl ?_
  refine x_sload_n (pc' := 306) d_L_law_305 rfl rfl ?_
  refine x_iload_n (pc' := 307) d_L_law_306 rfl rfl ?_
  refine x_iconst (v := nI 1) (pc' := 308) d_L_law_307 rfl (by decide) ?_
  refine x_iadd (z := nI (i + 1)) (pc' := 309) d_L_law_308 rfl (nI_add _ _) ?_
  refine x_sld (v := xs (i + 1)) (pc' := 310) d_L_law_309 rfl (vp_in_nI (by omega) (by omega)) (by rw [nI_clamp (by omega)]) ?_
  refine x_sload_n (pc' := 311) d_L_law_310 rfl rfl ?_
  refine x_iload_n (pc' := 312) d_L_law_311 rfl rfl ?_
  refine x_iconst (v := nI 2) (pc' := 313) d_L_law_312 rfl (by decide) ?_
  refine x_iadd (z := nI (i + 2)) (pc' := 314) d_L_law_313 rfl (nI_add _ _) ?_
  refine x_sld (v := xs (i + 2)) (pc' := 315) d_L_law_314 rfl (vp_in_nI (by omega) (by omega)) (by rw [nI_clamp (by omega)]) ?_
  refine x_virtualR (a := 0) (as := [.int (xs (i + 1)), .int (xs (i + 2))]) (r := []) (Post := fun v9 h9 => v9 = some (.int (sp_branch S (xs (i + 1)) (xs (i + 2))).1) ∧ ch_V h9 (sp_branch S (xs (i + 1)) (xs (i + 2))).2 ∧ xl_fr sp_V29 h h9) (c' := 47) (s' := 1024) (pc' := 318) d_L_law_315 rfl c_L_34 a.1.1 rfl rfl (Nat.le_of_ble_eq_true rfl) (Nat.le_of_ble_eq_true rfl) (Nat.le_of_ble_eq_true rfl) (fun Q' hq => c_V_branch a.1 a.2.2 (fun h' z1 z2 => hq _ h' ⟨rfl, z1, z2⟩)) rfl rfl (fun v9 h1 hp => ?_)
  obtain ⟨rfl, V1, f1⟩ := hp
  show xm_X L xs (xm_call L xs (d + 8)) (m_L_lw nm) (318, [.retAddr 0, .ref 0, .ref 29, .int (nI i)], [.int (sp_branch S (xs (i + 1)) (xs (i + 2))).1], h1, 47, 1024) Q
  have M1 := lv_V a.2.1 f1
  obtain ⟨tk, oM⟩ := M1.2.1
  refine x_aload_n (pc' := 319) d_L_law_318 rfl rfl ?_
  refine x_sload_n (pc' := 320) d_L_law_319 rfl rfl ?_
  refine x_iload_n (pc' := 321) d_L_law_320 rfl rfl ?_
  refine x_iconst (v := nI 1) (pc' := 322) d_L_law_321 rfl (by decide) ?_
  refine x_iadd (z := nI (i + 1)) (pc' := 323) d_L_law_322 rfl (nI_add _ _) ?_
  refine x_sld (v := xs (i + 1)) (pc' := 324) d_L_law_323 rfl (vp_in_nI (by omega) (by omega)) (by rw [nI_clamp (by omega)]) ?_
  refine x_sload_n (pc' := 325) d_L_law_324 rfl rfl ?_
  refine x_iload_n (pc' := 326) d_L_law_325 rfl rfl ?_
  refine x_iconst (v := nI 2) (pc' := 327) d_L_law_326 rfl (by decide) ?_
  refine x_iadd (z := nI (i + 2)) (pc' := 328) d_L_law_327 rfl (nI_add _ _) ?_
  refine x_sld (v := xs (i + 2)) (pc' := 329) d_L_law_328 rfl (vp_in_nI (by omega) (by omega)) (by rw [nI_clamp (by omega)]) ?_
  refine x_virtualR (a := 29) (as := [.int (xs (i + 1)), .int (xs (i + 2))]) (r := [.int (sp_branch S (xs (i + 1)) (xs (i + 2))).1]) (Post := fun v9 h9 => v9 = some (.int (sp_branch S (xs (i + 1)) (xs (i + 2))).1) ∧ mh h9 (sp_branch S (xs (i + 1)) (xs (i + 2))).2 ∧ xl_fr sp_M29 h1 h9) (c' := 47) (s' := 1024) (pc' := 332) d_L_law_329 rfl c_L_37 oM rfl rfl (Nat.le_of_ble_eq_true rfl) (Nat.le_of_ble_eq_true rfl) (Nat.le_of_ble_eq_true rfl) (fun Q' hq => c_M_branch M1 a.2.2 (fun h' z1 z2 => hq _ h' ⟨rfl, z1, z2⟩)) rfl rfl (fun v9 h2 hp => ?_)
  obtain ⟨rfl, M2, f2⟩ := hp
  show xm_X L xs (xm_call L xs (d + 8)) (m_L_lw nm) (332, [.retAddr 0, .ref 0, .ref 29, .int (nI i)], [.int (sp_branch S (xs (i + 1)) (xs (i + 2))).1, .int (sp_branch S (xs (i + 1)) (xs (i + 2))).1], h2, 47, 1024) Q
  refine x_icmpeq (t := 828) (pc' := 335) d_L_law_332 rfl rfl (fun _ => ?_) (fun q => absurd rfl q)
  exact K h2 _ ⟨lv_M V1 f2, M2, sp_WS_branch a.2.2⟩
theorem a_L_drop {nm : String} {L : Nat} {xs : Nat → Int32} {d : Nat} {h : xm_H} {Q : xm_Q} {S : sp_S} {i : Nat} (hi : i + 6 ≤ L) (hL : L < 2 ^ 30) (a : lv h S) (K : ∀ h' S', lv h' S' → xm_X L xs (xm_call L xs (d + 8)) (m_L_lw nm) (828, [.retAddr 0, .ref 0, .ref 29, .int (nI i)], [], h', 47, 1024) Q) :
    xm_X L xs (xm_call L xs (d + 8)) (m_L_lw nm) (337, [.retAddr 0, .ref 0, .ref 29, .int (nI i)], [], h, 47, 1024) Q := by
  refine x_aload_n (pc' := 338) d_L_law_337 rfl rfl ?_
  refine x_sload_n (pc' := 339) d_L_law_338 rfl rfl ?_
  refine x_iload_n (pc' := 340) d_L_law_339 rfl rfl ?_
  refine x_iconst (v := nI 1) (pc' := 341) d_L_law_340 rfl (by decide) ?_
  refine x_iadd (z := nI (i + 1)) (pc' := 342) d_L_law_341 rfl (nI_add _ _) ?_
  refine x_sld (v := xs (i + 1)) (pc' := 343) d_L_law_342 rfl (vp_in_nI (by omega) (by omega)) (by rw [nI_clamp (by omega)]) ?_
  refine x_sload_n (pc' := 344) d_L_law_343 rfl rfl ?_
  refine x_iload_n (pc' := 345) d_L_law_344 rfl rfl ?_
  refine x_iconst (v := nI 2) (pc' := 346) d_L_law_345 rfl (by decide) ?_
  refine x_iadd (z := nI (i + 2)) (pc' := 347) d_L_law_346 rfl (nI_add _ _) ?_
  refine x_sld (v := xs (i + 2)) (pc' := 348) d_L_law_347 rfl (vp_in_nI (by omega) (by omega)) (by rw [nI_clamp (by omega)]) ?_
  refine x_virtualR (a := 0) (as := [.int (xs (i + 1)), .int (xs (i + 2))]) (r := []) (Post := fun v9 h9 => v9 = some (.int (sp_drop S (xs (i + 1)) (xs (i + 2))).1) ∧ ch_V h9 (sp_drop S (xs (i + 1)) (xs (i + 2))).2 ∧ xl_fr sp_V29 h h9) (c' := 47) (s' := 1024) (pc' := 351) d_L_law_348 rfl c_L_38 a.1.1 rfl rfl (Nat.le_of_ble_eq_true rfl) (Nat.le_of_ble_eq_true rfl) (Nat.le_of_ble_eq_true rfl) (fun Q' hq => c_V_drop a.1 a.2.2 (fun h' z1 z2 => hq _ h' ⟨rfl, z1, z2⟩)) rfl rfl (fun v9 h1 hp => ?_)
  obtain ⟨rfl, V1, f1⟩ := hp
  show xm_X L xs (xm_call L xs (d + 8)) (m_L_lw nm) (351, [.retAddr 0, .ref 0, .ref 29, .int (nI i)], [.int (sp_drop S (xs (i + 1)) (xs (i + 2))).1], h1, 47, 1024) Q
  have M1 := lv_V a.2.1 f1
  obtain ⟨tk, oM⟩ := M1.2.1
  refine x_aload_n (pc' := 352) d_L_law_351 rfl rfl ?_
  refine x_sload_n (pc' := 353) d_L_law_352 rfl rfl ?_
  refine x_iload_n (pc' := 354) d_L_law_353 rfl rfl ?_
  refine x_iconst (v := nI 1) (pc' := 355) d_L_law_354 rfl (by decide) ?_
  refine x_iadd (z := nI (i + 1)) (pc' := 356) d_L_law_355 rfl (nI_add _ _) ?_
  refine x_sld (v := xs (i + 1)) (pc' := 357) d_L_law_356 rfl (vp_in_nI (by omega) (by omega)) (by rw [nI_clamp (by omega)]) ?_
  refine x_sload_n (pc' := 358) d_L_law_357 rfl rfl ?_
  refine x_iload_n (pc' := 359) d_L_law_358 rfl rfl ?_
  refine x_iconst (v := nI 2) (pc' := 360) d_L_law_359 rfl (by decide) ?_
  refine x_iadd (z := nI (i + 2)) (pc' := 361) d_L_law_360 rfl (nI_add _ _) ?_
  refine x_sld (v := xs (i + 2)) (pc' := 362) d_L_law_361 rfl (vp_in_nI (by omega) (by omega)) (by rw [nI_clamp (by omega)]) ?_
  refine x_virtualR (a := 29) (as := [.int (xs (i + 1)), .int (xs (i + 2))]) (r := [.int (sp_drop S (xs (i + 1)) (xs (i + 2))).1]) (Post := fun v9 h9 => v9 = some (.int (sp_drop S (xs (i + 1)) (xs (i + 2))).1) ∧ mh h9 (sp_drop S (xs (i + 1)) (xs (i + 2))).2 ∧ xl_fr sp_M29 h1 h9) (c' := 47) (s' := 1024) (pc' := 365) d_L_law_362 rfl c_L_41 oM rfl rfl (Nat.le_of_ble_eq_true rfl) (Nat.le_of_ble_eq_true rfl) (Nat.le_of_ble_eq_true rfl) (fun Q' hq => c_M_drop M1 a.2.2 (fun h' z1 z2 => hq _ h' ⟨rfl, z1, z2⟩)) rfl rfl (fun v9 h2 hp => ?_)
  obtain ⟨rfl, M2, f2⟩ := hp
  show xm_X L xs (xm_call L xs (d + 8)) (m_L_lw nm) (365, [.retAddr 0, .ref 0, .ref 29, .int (nI i)], [.int (sp_drop S (xs (i + 1)) (xs (i + 2))).1, .int (sp_drop S (xs (i + 1)) (xs (i + 2))).1], h2, 47, 1024) Q
  refine x_icmpeq (t := 828) (pc' := 368) d_L_law_365 rfl rfl (fun _ => ?_) (fun q => absurd rfl q)
  exact K h2 _ ⟨lv_M V1 f2, M2, sp_WS_drop a.2.2⟩
theorem a_L_checkout {nm : String} {L : Nat} {xs : Nat → Int32} {d : Nat} {h : xm_H} {Q : xm_Q} {S : sp_S} {i : Nat} (hi : i + 6 ≤ L) (hL : L < 2 ^ 30) (a : lv h S) (K : ∀ h' S', lv h' S' → xm_X L xs (xm_call L xs (d + 8)) (m_L_lw nm) (828, [.retAddr 0, .ref 0, .ref 29, .int (nI i)], [], h', 47, 1024) Q) :
    xm_X L xs (xm_call L xs (d + 8)) (m_L_lw nm) (370, [.retAddr 0, .ref 0, .ref 29, .int (nI i)], [], h, 47, 1024) Q := by
  refine x_aload_n (pc' := 371) d_L_law_370 rfl rfl ?_
  refine x_sload_n (pc' := 372) d_L_law_371 rfl rfl ?_
  refine x_iload_n (pc' := 373) d_L_law_372 rfl rfl ?_
  refine x_iconst (v := nI 1) (pc' := 374) d_L_law_373 rfl (by decide) ?_
  refine x_iadd (z := nI (i + 1)) (pc' := 375) d_L_law_374 rfl (nI_add _ _) ?_
  refine x_sld (v := xs (i + 1)) (pc' := 376) d_L_law_375 rfl (vp_in_nI (by omega) (by omega)) (by rw [nI_clamp (by omega)]) ?_
  refine x_sload_n (pc' := 377) d_L_law_376 rfl rfl ?_
  refine x_iload_n (pc' := 378) d_L_law_377 rfl rfl ?_
  refine x_iconst (v := nI 2) (pc' := 379) d_L_law_378 rfl (by decide) ?_
  refine x_iadd (z := nI (i + 2)) (pc' := 380) d_L_law_379 rfl (nI_add _ _) ?_
  refine x_sld (v := xs (i + 2)) (pc' := 381) d_L_law_380 rfl (vp_in_nI (by omega) (by omega)) (by rw [nI_clamp (by omega)]) ?_
  refine x_virtualR (a := 0) (as := [.int (xs (i + 1)), .int (xs (i + 2))]) (r := []) (Post := fun v9 h9 => v9 = some (.int (sp_checkout S (xs (i + 1)) (xs (i + 2))).1) ∧ ch_V h9 (sp_checkout S (xs (i + 1)) (xs (i + 2))).2 ∧ xl_fr sp_V29 h h9) (c' := 47) (s' := 1024) (pc' := 384) d_L_law_381 rfl c_L_42 a.1.1 rfl rfl (Nat.le_of_ble_eq_true rfl) (Nat.le_of_ble_eq_true rfl) (Nat.le_of_ble_eq_true rfl) (fun Q' hq => c_V_checkout a.1 a.2.2 (fun h' z1 z2 => hq _ h' ⟨rfl, z1, z2⟩)) rfl rfl (fun v9 h1 hp => ?_)
  obtain ⟨rfl, V1, f1⟩ := hp
  show xm_X L xs (xm_call L xs (d + 8)) (m_L_lw nm) (384, [.retAddr 0, .ref 0, .ref 29, .int (nI i)], [.int (sp_checkout S (xs (i + 1)) (xs (i + 2))).1], h1, 47, 1024) Q
  have M1 := lv_V a.2.1 f1
  obtain ⟨tk, oM⟩ := M1.2.1
  refine x_aload_n (pc' := 385) d_L_law_384 rfl rfl ?_
  refine x_sload_n (pc' := 386) d_L_law_385 rfl rfl ?_
  refine x_iload_n (pc' := 387) d_L_law_386 rfl rfl ?_
  refine x_iconst (v := nI 1) (pc' := 388) d_L_law_387 rfl (by decide) ?_
  refine x_iadd (z := nI (i + 1)) (pc' := 389) d_L_law_388 rfl (nI_add _ _) ?_
  refine x_sld (v := xs (i + 1)) (pc' := 390) d_L_law_389 rfl (vp_in_nI (by omega) (by omega)) (by rw [nI_clamp (by omega)]) ?_
  refine x_sload_n (pc' := 391) d_L_law_390 rfl rfl ?_
  refine x_iload_n (pc' := 392) d_L_law_391 rfl rfl ?_
  refine x_iconst (v := nI 2) (pc' := 393) d_L_law_392 rfl (by decide) ?_
  refine x_iadd (z := nI (i + 2)) (pc' := 394) d_L_law_393 rfl (nI_add _ _) ?_
  refine x_sld (v := xs (i + 2)) (pc' := 395) d_L_law_394 rfl (vp_in_nI (by omega) (by omega)) (by rw [nI_clamp (by omega)]) ?_
  refine x_virtualR (a := 29) (as := [.int (xs (i + 1)), .int (xs (i + 2))]) (r := [.int (sp_checkout S (xs (i + 1)) (xs (i + 2))).1]) (Post := fun v9 h9 => v9 = some (.int (sp_checkout S (xs (i + 1)) (xs (i + 2))).1) ∧ mh h9 (sp_checkout S (xs (i + 1)) (xs (i + 2))).2 ∧ xl_fr sp_M29 h1 h9) (c' := 47) (s' := 1024) (pc' := 398) d_L_law_395 rfl c_L_46 oM rfl rfl (Nat.le_of_ble_eq_true rfl) (Nat.le_of_ble_eq_true rfl) (Nat.le_of_ble_eq_true rfl) (fun Q' hq => c_M_checkout M1 a.2.2 (fun h' z1 z2 => hq _ h' ⟨rfl, z1, z2⟩)) rfl rfl (fun v9 h2 hp => ?_)
  obtain ⟨rfl, M2, f2⟩ := hp
  show xm_X L xs (xm_call L xs (d + 8)) (m_L_lw nm) (398, [.retAddr 0, .ref 0, .ref 29, .int (nI i)], [.int (sp_checkout S (xs (i + 1)) (xs (i + 2))).1, .int (sp_checkout S (xs (i + 1)) (xs (i + 2))).1], h2, 47, 1024) Q
  refine x_icmpeq (t := 828) (pc' := 401) d_L_law_398 rfl rfl (fun _ => ?_) (fun q => absurd rfl q)
  exact K h2 _ ⟨lv_M V1 f2, M2, sp_WS_checkout a.2.2⟩
theorem a_L_merge {nm : String} {L : Nat} {xs : Nat → Int32} {d : Nat} {h : xm_H} {Q : xm_Q} {S : sp_S} {i : Nat} (hi : i + 6 ≤ L) (hL : L < 2 ^ 30) (a : lv h S) (K : ∀ h' S', lv h' S' → xm_X L xs (xm_call L xs (d + 8)) (m_L_lw nm) (828, [.retAddr 0, .ref 0, .ref 29, .int (nI i)], [], h', 47, 1024) Q) :
    xm_X L xs (xm_call L xs (d + 8)) (m_L_lw nm) (403, [.retAddr 0, .ref 0, .ref 29, .int (nI i)], [], h, 47, 1024) Q := by
  refine x_aload_n (pc' := 404) d_L_law_403 rfl rfl ?_
  refine x_sload_n (pc' := 405) d_L_law_404 rfl rfl ?_
  refine x_iload_n (pc' := 406) d_L_law_405 rfl rfl ?_
  refine x_iconst (v := nI 1) (pc' := 407) d_L_law_406 rfl (by decide) ?_
  refine x_iadd (z := nI (i + 1)) (pc' := 408) d_L_law_407 rfl (nI_add _ _) ?_
  refine x_sld (v := xs (i + 1)) (pc' := 409) d_L_law_408 rfl (vp_in_nI (by omega) (by omega)) (by rw [nI_clamp (by omega)]) ?_
  refine x_sload_n (pc' := 410) d_L_law_409 rfl rfl ?_
  refine x_iload_n (pc' := 411) d_L_law_410 rfl rfl ?_
  refine x_iconst (v := nI 2) (pc' := 412) d_L_law_411 rfl (by decide) ?_
  refine x_iadd (z := nI (i + 2)) (pc' := 413) d_L_law_412 rfl (nI_add _ _) ?_
  refine x_sld (v := xs (i + 2)) (pc' := 414) d_L_law_413 rfl (vp_in_nI (by omega) (by omega)) (by rw [nI_clamp (by omega)]) ?_
  refine x_virtualR (a := 0) (as := [.int (xs (i + 1)), .int (xs (i + 2))]) (r := []) (Post := fun v9 h9 => v9 = some (.int (sp_merge S (xs (i + 1)) (xs (i + 2))).1) ∧ ch_V h9 (sp_merge S (xs (i + 1)) (xs (i + 2))).2 ∧ xl_fr sp_V29 h h9) (c' := 47) (s' := 1024) (pc' := 417) d_L_law_414 rfl c_L_47 a.1.1 rfl rfl (Nat.le_of_ble_eq_true rfl) (Nat.le_of_ble_eq_true rfl) (Nat.le_of_ble_eq_true rfl) (fun Q' hq => c_V_merge a.1 a.2.2 (fun h' z1 z2 => hq _ h' ⟨rfl, z1, z2⟩)) rfl rfl (fun v9 h1 hp => ?_)
  obtain ⟨rfl, V1, f1⟩ := hp
  show xm_X L xs (xm_call L xs (d + 8)) (m_L_lw nm) (417, [.retAddr 0, .ref 0, .ref 29, .int (nI i)], [.int (sp_merge S (xs (i + 1)) (xs (i + 2))).1], h1, 47, 1024) Q
  have M1 := lv_V a.2.1 f1
  obtain ⟨tk, oM⟩ := M1.2.1
  refine x_aload_n (pc' := 418) d_L_law_417 rfl rfl ?_
  refine x_sload_n (pc' := 419) d_L_law_418 rfl rfl ?_
  refine x_iload_n (pc' := 420) d_L_law_419 rfl rfl ?_
  refine x_iconst (v := nI 1) (pc' := 421) d_L_law_420 rfl (by decide) ?_
  refine x_iadd (z := nI (i + 1)) (pc' := 422) d_L_law_421 rfl (nI_add _ _) ?_
  refine x_sld (v := xs (i + 1)) (pc' := 423) d_L_law_422 rfl (vp_in_nI (by omega) (by omega)) (by rw [nI_clamp (by omega)]) ?_
  refine x_sload_n (pc' := 424) d_L_law_423 rfl rfl ?_
  refine x_iload_n (pc' := 425) d_L_law_424 rfl rfl ?_
  refine x_iconst (v := nI 2) (pc' := 426) d_L_law_425 rfl (by decide) ?_
  refine x_iadd (z := nI (i + 2)) (pc' := 427) d_L_law_426 rfl (nI_add _ _) ?_
  refine x_sld (v := xs (i + 2)) (pc' := 428) d_L_law_427 rfl (vp_in_nI (by omega) (by omega)) (by rw [nI_clamp (by omega)]) ?_
  refine x_virtualR (a := 29) (as := [.int (xs (i + 1)), .int (xs (i + 2))]) (r := [.int (sp_merge S (xs (i + 1)) (xs (i + 2))).1]) (Post := fun v9 h9 => v9 = some (.int (sp_merge S (xs (i + 1)) (xs (i + 2))).1) ∧ mh h9 (sp_merge S (xs (i + 1)) (xs (i + 2))).2 ∧ xl_fr sp_M29 h1 h9) (c' := 47) (s' := 1024) (pc' := 431) d_L_law_428 rfl c_L_50 oM rfl rfl (Nat.le_of_ble_eq_true rfl) (Nat.le_of_ble_eq_true rfl) (Nat.le_of_ble_eq_true rfl) (fun Q' hq => c_M_merge M1 a.2.2 (fun h' z1 z2 => hq _ h' ⟨rfl, z1, z2⟩)) rfl rfl (fun v9 h2 hp => ?_)
  obtain ⟨rfl, M2, f2⟩ := hp
  show xm_X L xs (xm_call L xs (d + 8)) (m_L_lw nm) (431, [.retAddr 0, .ref 0, .ref 29, .int (nI i)], [.int (sp_merge S (xs (i + 1)) (xs (i + 2))).1, .int (sp_merge S (xs (i + 1)) (xs (i + 2))).1], h2, 47, 1024) Q
  refine x_icmpeq (t := 828) (pc' := 434) d_L_law_431 rfl rfl (fun _ => ?_) (fun q => absurd rfl q)
  exact K h2 _ ⟨lv_M V1 f2, M2, sp_WS_merge a.2.2⟩
theorem a_L_pick {nm : String} {L : Nat} {xs : Nat → Int32} {d : Nat} {h : xm_H} {Q : xm_Q} {S : sp_S} {i : Nat} (hi : i + 6 ≤ L) (hL : L < 2 ^ 30) (a : lv h S) (K : ∀ h' S', lv h' S' → xm_X L xs (xm_call L xs (d + 8)) (m_L_lw nm) (828, [.retAddr 0, .ref 0, .ref 29, .int (nI i)], [], h', 47, 1024) Q) :
    xm_X L xs (xm_call L xs (d + 8)) (m_L_lw nm) (436, [.retAddr 0, .ref 0, .ref 29, .int (nI i)], [], h, 47, 1024) Q := by
  refine x_aload_n (pc' := 437) d_L_law_436 rfl rfl ?_
  refine x_sload_n (pc' := 438) d_L_law_437 rfl rfl ?_
  refine x_iload_n (pc' := 439) d_L_law_438 rfl rfl ?_
  refine x_iconst (v := nI 1) (pc' := 440) d_L_law_439 rfl (by decide) ?_
  refine x_iadd (z := nI (i + 1)) (pc' := 441) d_L_law_440 rfl (nI_add _ _) ?_
  refine x_sld (v := xs (i + 1)) (pc' := 442) d_L_law_441 rfl (vp_in_nI (by omega) (by omega)) (by rw [nI_clamp (by omega)]) ?_
  refine x_sload_n (pc' := 443) d_L_law_442 rfl rfl ?_
  refine x_iload_n (pc' := 444) d_L_law_443 rfl rfl ?_
  refine x_iconst (v := nI 2) (pc' := 445) d_L_law_444 rfl (by decide) ?_
  refine x_iadd (z := nI (i + 2)) (pc' := 446) d_L_law_445 rfl (nI_add _ _) ?_
  refine x_sld (v := xs (i + 2)) (pc' := 447) d_L_law_446 rfl (vp_in_nI (by omega) (by omega)) (by rw [nI_clamp (by omega)]) ?_
  refine x_virtualR (a := 0) (as := [.int (xs (i + 1)), .int (xs (i + 2))]) (r := []) (Post := fun v9 h9 => v9 = some (.int (sp_pick S (xs (i + 1)) (xs (i + 2))).1) ∧ ch_V h9 (sp_pick S (xs (i + 1)) (xs (i + 2))).2 ∧ xl_fr sp_V29 h h9) (c' := 47) (s' := 1024) (pc' := 450) d_L_law_447 rfl c_L_51 a.1.1 rfl rfl (Nat.le_of_ble_eq_true rfl) (Nat.le_of_ble_eq_true rfl) (Nat.le_of_ble_eq_true rfl) (fun Q' hq => c_V_pick a.1 a.2.2 (fun h' z1 z2 => hq _ h' ⟨rfl, z1, z2⟩)) rfl rfl (fun v9 h1 hp => ?_)
  obtain ⟨rfl, V1, f1⟩ := hp
  show xm_X L xs (xm_call L xs (d + 8)) (m_L_lw nm) (450, [.retAddr 0, .ref 0, .ref 29, .int (nI i)], [.int (sp_pick S (xs (i + 1)) (xs (i + 2))).1], h1, 47, 1024) Q
  have M1 := lv_V a.2.1 f1
  obtain ⟨tk, oM⟩ := M1.2.1
  refine x_aload_n (pc' := 451) d_L_law_450 rfl rfl ?_
  refine x_sload_n (pc' := 452) d_L_law_451 rfl rfl ?_
  refine x_iload_n (pc' := 453) d_L_law_452 rfl rfl ?_
  refine x_iconst (v := nI 1) (pc' := 454) d_L_law_453 rfl (by decide) ?_
  refine x_iadd (z := nI (i + 1)) (pc' := 455) d_L_law_454 rfl (nI_add _ _) ?_
  refine x_sld (v := xs (i + 1)) (pc' := 456) d_L_law_455 rfl (vp_in_nI (by omega) (by omega)) (by rw [nI_clamp (by omega)]) ?_
  refine x_sload_n (pc' := 457) d_L_law_456 rfl rfl ?_
  refine x_iload_n (pc' := 458) d_L_law_457 rfl rfl ?_
  refine x_iconst (v := nI 2) (pc' := 459) d_L_law_458 rfl (by decide) ?_
  refine x_iadd (z := nI (i + 2)) (pc' := 460) d_L_law_459 rfl (nI_add _ _) ?_
  refine x_sld (v := xs (i + 2)) (pc' := 461) d_L_law_460 rfl (vp_in_nI (by omega) (by omega)) (by rw [nI_clamp (by omega)]) ?_
  refine x_virtualR (a := 29) (as := [.int (xs (i + 1)), .int (xs (i + 2))]) (r := [.int (sp_pick S (xs (i + 1)) (xs (i + 2))).1]) (Post := fun v9 h9 => v9 = some (.int (sp_pick S (xs (i + 1)) (xs (i + 2))).1) ∧ mh h9 (sp_pick S (xs (i + 1)) (xs (i + 2))).2 ∧ xl_fr sp_M29 h1 h9) (c' := 47) (s' := 1024) (pc' := 464) d_L_law_461 rfl c_L_54 oM rfl rfl (Nat.le_of_ble_eq_true rfl) (Nat.le_of_ble_eq_true rfl) (Nat.le_of_ble_eq_true rfl) (fun Q' hq => c_M_pick M1 a.2.2 (fun h' z1 z2 => hq _ h' ⟨rfl, z1, z2⟩)) rfl rfl (fun v9 h2 hp => ?_)
  obtain ⟨rfl, M2, f2⟩ := hp
  show xm_X L xs (xm_call L xs (d + 8)) (m_L_lw nm) (464, [.retAddr 0, .ref 0, .ref 29, .int (nI i)], [.int (sp_pick S (xs (i + 1)) (xs (i + 2))).1, .int (sp_pick S (xs (i + 1)) (xs (i + 2))).1], h2, 47, 1024) Q
  refine x_icmpeq (t := 828) (pc' := 467) d_L_law_464 rfl rfl (fun _ => ?_) (fun q => absurd rfl q)
  exact K h2 _ ⟨lv_M V1 f2, M2, sp_WS_pick a.2.2⟩
theorem a_L_rebase {nm : String} {L : Nat} {xs : Nat → Int32} {d : Nat} {h : xm_H} {Q : xm_Q} {S : sp_S} {i : Nat} (hi : i + 6 ≤ L) (hL : L < 2 ^ 30) (a : lv h S) (K : ∀ h' S', lv h' S' → xm_X L xs (xm_call L xs (d + 8)) (m_L_lw nm) (828, [.retAddr 0, .ref 0, .ref 29, .int (nI i)], [], h', 47, 1024) Q) :
    xm_X L xs (xm_call L xs (d + 8)) (m_L_lw nm) (469, [.retAddr 0, .ref 0, .ref 29, .int (nI i)], [], h, 47, 1024) Q := by
  refine x_aload_n (pc' := 470) d_L_law_469 rfl rfl ?_
  refine x_sload_n (pc' := 471) d_L_law_470 rfl rfl ?_
  refine x_iload_n (pc' := 472) d_L_law_471 rfl rfl ?_
  refine x_iconst (v := nI 1) (pc' := 473) d_L_law_472 rfl (by decide) ?_
  refine x_iadd (z := nI (i + 1)) (pc' := 474) d_L_law_473 rfl (nI_add _ _) ?_
  refine x_sld (v := xs (i + 1)) (pc' := 475) d_L_law_474 rfl (vp_in_nI (by omega) (by omega)) (by rw [nI_clamp (by omega)]) ?_
  refine x_sload_n (pc' := 476) d_L_law_475 rfl rfl ?_
  refine x_iload_n (pc' := 477) d_L_law_476 rfl rfl ?_
  refine x_iconst (v := nI 2) (pc' := 478) d_L_law_477 rfl (by decide) ?_
  refine x_iadd (z := nI (i + 2)) (pc' := 479) d_L_law_478 rfl (nI_add _ _) ?_
  refine x_sld (v := xs (i + 2)) (pc' := 480) d_L_law_479 rfl (vp_in_nI (by omega) (by omega)) (by rw [nI_clamp (by omega)]) ?_
  refine x_virtualR (a := 0) (as := [.int (xs (i + 1)), .int (xs (i + 2))]) (r := []) (Post := fun v9 h9 => v9 = some (.int (sp_rebase S (xs (i + 1)) (xs (i + 2))).1) ∧ ch_V h9 (sp_rebase S (xs (i + 1)) (xs (i + 2))).2 ∧ xl_fr sp_V29 h h9) (c' := 47) (s' := 1024) (pc' := 483) d_L_law_480 rfl c_L_55 a.1.1 rfl rfl (Nat.le_of_ble_eq_true rfl) (Nat.le_of_ble_eq_true rfl) (Nat.le_of_ble_eq_true rfl) (fun Q' hq => c_V_rebase a.1 a.2.2 (fun h' z1 z2 => hq _ h' ⟨rfl, z1, z2⟩)) rfl rfl (fun v9 h1 hp => ?_)
  obtain ⟨rfl, V1, f1⟩ := hp
  show xm_X L xs (xm_call L xs (d + 8)) (m_L_lw nm) (483, [.retAddr 0, .ref 0, .ref 29, .int (nI i)], [.int (sp_rebase S (xs (i + 1)) (xs (i + 2))).1], h1, 47, 1024) Q
  have M1 := lv_V a.2.1 f1
  obtain ⟨tk, oM⟩ := M1.2.1
  refine x_aload_n (pc' := 484) d_L_law_483 rfl rfl ?_
  refine x_sload_n (pc' := 485) d_L_law_484 rfl rfl ?_
  refine x_iload_n (pc' := 486) d_L_law_485 rfl rfl ?_
  refine x_iconst (v := nI 1) (pc' := 487) d_L_law_486 rfl (by decide) ?_
  refine x_iadd (z := nI (i + 1)) (pc' := 488) d_L_law_487 rfl (nI_add _ _) ?_
  refine x_sld (v := xs (i + 1)) (pc' := 489) d_L_law_488 rfl (vp_in_nI (by omega) (by omega)) (by rw [nI_clamp (by omega)]) ?_
  refine x_sload_n (pc' := 490) d_L_law_489 rfl rfl ?_
  refine x_iload_n (pc' := 491) d_L_law_490 rfl rfl ?_
  refine x_iconst (v := nI 2) (pc' := 492) d_L_law_491 rfl (by decide) ?_
  refine x_iadd (z := nI (i + 2)) (pc' := 493) d_L_law_492 rfl (nI_add _ _) ?_
  refine x_sld (v := xs (i + 2)) (pc' := 494) d_L_law_493 rfl (vp_in_nI (by omega) (by omega)) (by rw [nI_clamp (by omega)]) ?_
  refine x_virtualR (a := 29) (as := [.int (xs (i + 1)), .int (xs (i + 2))]) (r := [.int (sp_rebase S (xs (i + 1)) (xs (i + 2))).1]) (Post := fun v9 h9 => v9 = some (.int (sp_rebase S (xs (i + 1)) (xs (i + 2))).1) ∧ mh h9 (sp_rebase S (xs (i + 1)) (xs (i + 2))).2 ∧ xl_fr sp_M29 h1 h9) (c' := 47) (s' := 1024) (pc' := 497) d_L_law_494 rfl c_L_58 oM rfl rfl (Nat.le_of_ble_eq_true rfl) (Nat.le_of_ble_eq_true rfl) (Nat.le_of_ble_eq_true rfl) (fun Q' hq => c_M_rebase M1 a.2.2 (fun h' z1 z2 => hq _ h' ⟨rfl, z1, z2⟩)) rfl rfl (fun v9 h2 hp => ?_)
  obtain ⟨rfl, M2, f2⟩ := hp
  show xm_X L xs (xm_call L xs (d + 8)) (m_L_lw nm) (497, [.retAddr 0, .ref 0, .ref 29, .int (nI i)], [.int (sp_rebase S (xs (i + 1)) (xs (i + 2))).1, .int (sp_rebase S (xs (i + 1)) (xs (i + 2))).1], h2, 47, 1024) Q
  refine x_icmpeq (t := 828) (pc' := 500) d_L_law_497 rfl rfl (fun _ => ?_) (fun q => absurd rfl q)
  exact K h2 _ ⟨lv_M V1 f2, M2, sp_WS_rebase a.2.2⟩
theorem a_L_collect {nm : String} {L : Nat} {xs : Nat → Int32} {d : Nat} {h : xm_H} {Q : xm_Q} {S : sp_S} {i : Nat} (hi : i + 6 ≤ L) (hL : L < 2 ^ 30) (a : lv h S) (K : ∀ h' S', lv h' S' → xm_X L xs (xm_call L xs (d + 8)) (m_L_lw nm) (828, [.retAddr 0, .ref 0, .ref 29, .int (nI i)], [], h', 47, 1024) Q) :
    xm_X L xs (xm_call L xs (d + 8)) (m_L_lw nm) (502, [.retAddr 0, .ref 0, .ref 29, .int (nI i)], [], h, 47, 1024) Q := by
  refine x_aload_n (pc' := 503) d_L_law_502 rfl rfl ?_
  refine x_sload_n (pc' := 504) d_L_law_503 rfl rfl ?_
  refine x_iload_n (pc' := 505) d_L_law_504 rfl rfl ?_
  refine x_iconst (v := nI 1) (pc' := 506) d_L_law_505 rfl (by decide) ?_
  refine x_iadd (z := nI (i + 1)) (pc' := 507) d_L_law_506 rfl (nI_add _ _) ?_
  refine x_sld (v := xs (i + 1)) (pc' := 508) d_L_law_507 rfl (vp_in_nI (by omega) (by omega)) (by rw [nI_clamp (by omega)]) ?_
  refine x_virtualR (a := 0) (as := [.int (xs (i + 1))]) (r := []) (Post := fun v9 h9 => v9 = some (.int (sp_collect S (xs (i + 1))).1) ∧ ch_V h9 (sp_collect S (xs (i + 1))).2 ∧ xl_fr sp_V29 h h9) (c' := 47) (s' := 1024) (pc' := 511) d_L_law_508 rfl c_L_59 a.1.1 rfl rfl (Nat.le_of_ble_eq_true rfl) (Nat.le_of_ble_eq_true rfl) (Nat.le_of_ble_eq_true rfl) (fun Q' hq => c_V_collect a.1 a.2.2 (fun h' z1 z2 => hq _ h' ⟨rfl, z1, z2⟩)) rfl rfl (fun v9 h1 hp => ?_)
  obtain ⟨rfl, V1, f1⟩ := hp
  show xm_X L xs (xm_call L xs (d + 8)) (m_L_lw nm) (511, [.retAddr 0, .ref 0, .ref 29, .int (nI i)], [.int (sp_collect S (xs (i + 1))).1], h1, 47, 1024) Q
  have M1 := lv_V a.2.1 f1
  obtain ⟨tk, oM⟩ := M1.2.1
  refine x_aload_n (pc' := 512) d_L_law_511 rfl rfl ?_
  refine x_sload_n (pc' := 513) d_L_law_512 rfl rfl ?_
  refine x_iload_n (pc' := 514) d_L_law_513 rfl rfl ?_
  refine x_iconst (v := nI 1) (pc' := 515) d_L_law_514 rfl (by decide) ?_
  refine x_iadd (z := nI (i + 1)) (pc' := 516) d_L_law_515 rfl (nI_add _ _) ?_
  refine x_sld (v := xs (i + 1)) (pc' := 517) d_L_law_516 rfl (vp_in_nI (by omega) (by omega)) (by rw [nI_clamp (by omega)]) ?_
  refine x_virtualR (a := 29) (as := [.int (xs (i + 1))]) (r := [.int (sp_collect S (xs (i + 1))).1]) (Post := fun v9 h9 => v9 = some (.int (sp_collect S (xs (i + 1))).1) ∧ mh h9 (sp_collect S (xs (i + 1))).2 ∧ xl_fr sp_M29 h1 h9) (c' := 47) (s' := 1024) (pc' := 520) d_L_law_517 rfl c_L_62 oM rfl rfl (Nat.le_of_ble_eq_true rfl) (Nat.le_of_ble_eq_true rfl) (Nat.le_of_ble_eq_true rfl) (fun Q' hq => c_M_collect M1 a.2.2 (fun h' z1 z2 => hq _ h' ⟨rfl, z1, z2⟩)) rfl rfl (fun v9 h2 hp => ?_)
  obtain ⟨rfl, M2, f2⟩ := hp
  show xm_X L xs (xm_call L xs (d + 8)) (m_L_lw nm) (520, [.retAddr 0, .ref 0, .ref 29, .int (nI i)], [.int (sp_collect S (xs (i + 1))).1, .int (sp_collect S (xs (i + 1))).1], h2, 47, 1024) Q
  refine x_icmpeq (t := 828) (pc' := 523) d_L_law_520 rfl rfl (fun _ => ?_) (fun q => absurd rfl q)
  exact K h2 _ ⟨lv_M V1 f2, M2, sp_WS_collect a.2.2⟩
theorem a_L_send {nm : String} {L : Nat} {xs : Nat → Int32} {d : Nat} {h : xm_H} {Q : xm_Q} {S : sp_S} {i : Nat} (hi : i + 6 ≤ L) (hL : L < 2 ^ 30) (a : lv h S) (K : ∀ h' S', lv h' S' → xm_X L xs (xm_call L xs (d + 8)) (m_L_lw nm) (828, [.retAddr 0, .ref 0, .ref 29, .int (nI i)], [], h', 47, 1024) Q) :
    xm_X L xs (xm_call L xs (d + 8)) (m_L_lw nm) (525, [.retAddr 0, .ref 0, .ref 29, .int (nI i)], [], h, 47, 1024) Q := by
  refine x_aload_n (pc' := 526) d_L_law_525 rfl rfl ?_
  refine x_sload_n (pc' := 527) d_L_law_526 rfl rfl ?_
  refine x_iload_n (pc' := 528) d_L_law_527 rfl rfl ?_
  refine x_iconst (v := nI 1) (pc' := 529) d_L_law_528 rfl (by decide) ?_
  refine x_iadd (z := nI (i + 1)) (pc' := 530) d_L_law_529 rfl (nI_add _ _) ?_
  refine x_sld (v := xs (i + 1)) (pc' := 531) d_L_law_530 rfl (vp_in_nI (by omega) (by omega)) (by rw [nI_clamp (by omega)]) ?_
  refine x_sload_n (pc' := 532) d_L_law_531 rfl rfl ?_
  refine x_iload_n (pc' := 533) d_L_law_532 rfl rfl ?_
  refine x_iconst (v := nI 2) (pc' := 534) d_L_law_533 rfl (by decide) ?_
  refine x_iadd (z := nI (i + 2)) (pc' := 535) d_L_law_534 rfl (nI_add _ _) ?_
  refine x_sld (v := xs (i + 2)) (pc' := 536) d_L_law_535 rfl (vp_in_nI (by omega) (by omega)) (by rw [nI_clamp (by omega)]) ?_
  refine x_virtualR (a := 0) (as := [.int (xs (i + 1)), .int (xs (i + 2))]) (r := []) (Post := fun v9 h9 => v9 = some (.int (sp_send S (xs (i + 1)) (xs (i + 2))).1) ∧ ch_V h9 (sp_send S (xs (i + 1)) (xs (i + 2))).2 ∧ xl_fr sp_V29 h h9) (c' := 47) (s' := 1024) (pc' := 539) d_L_law_536 rfl c_L_63 a.1.1 rfl rfl (Nat.le_of_ble_eq_true rfl) (Nat.le_of_ble_eq_true rfl) (Nat.le_of_ble_eq_true rfl) (fun Q' hq => c_V_send a.1 a.2.2 (fun h' z1 z2 => hq _ h' ⟨rfl, z1, z2⟩)) rfl rfl (fun v9 h1 hp => ?_)
  obtain ⟨rfl, V1, f1⟩ := hp
  show xm_X L xs (xm_call L xs (d + 8)) (m_L_lw nm) (539, [.retAddr 0, .ref 0, .ref 29, .int (nI i)], [.int (sp_send S (xs (i + 1)) (xs (i + 2))).1], h1, 47, 1024) Q
  have M1 := lv_V a.2.1 f1
  obtain ⟨tk, oM⟩ := M1.2.1
  refine x_aload_n (pc' := 540) d_L_law_539 rfl rfl ?_
  refine x_sload_n (pc' := 541) d_L_law_540 rfl rfl ?_
  refine x_iload_n (pc' := 542) d_L_law_541 rfl rfl ?_
  refine x_iconst (v := nI 1) (pc' := 543) d_L_law_542 rfl (by decide) ?_
  refine x_iadd (z := nI (i + 1)) (pc' := 544) d_L_law_543 rfl (nI_add _ _) ?_
  refine x_sld (v := xs (i + 1)) (pc' := 545) d_L_law_544 rfl (vp_in_nI (by omega) (by omega)) (by rw [nI_clamp (by omega)]) ?_
  refine x_sload_n (pc' := 546) d_L_law_545 rfl rfl ?_
  refine x_iload_n (pc' := 547) d_L_law_546 rfl rfl ?_
  refine x_iconst (v := nI 2) (pc' := 548) d_L_law_547 rfl (by decide) ?_
  refine x_iadd (z := nI (i + 2)) (pc' := 549) d_L_law_548 rfl (nI_add _ _) ?_
  refine x_sld (v := xs (i + 2)) (pc' := 550) d_L_law_549 rfl (vp_in_nI (by omega) (by omega)) (by rw [nI_clamp (by omega)]) ?_
  refine x_virtualR (a := 29) (as := [.int (xs (i + 1)), .int (xs (i + 2))]) (r := [.int (sp_send S (xs (i + 1)) (xs (i + 2))).1]) (Post := fun v9 h9 => v9 = some (.int (sp_send S (xs (i + 1)) (xs (i + 2))).1) ∧ mh h9 (sp_send S (xs (i + 1)) (xs (i + 2))).2 ∧ xl_fr sp_M29 h1 h9) (c' := 47) (s' := 1024) (pc' := 553) d_L_law_550 rfl c_L_66 oM rfl rfl (Nat.le_of_ble_eq_true rfl) (Nat.le_of_ble_eq_true rfl) (Nat.le_of_ble_eq_true rfl) (fun Q' hq => c_M_send M1 a.2.2 (fun h' z1 z2 => hq _ h' ⟨rfl, z1, z2⟩)) rfl rfl (fun v9 h2 hp => ?_)
  obtain ⟨rfl, M2, f2⟩ := hp
  show xm_X L xs (xm_call L xs (d + 8)) (m_L_lw nm) (553, [.retAddr 0, .ref 0, .ref 29, .int (nI i)], [.int (sp_send S (xs (i + 1)) (xs (i + 2))).1, .int (sp_send S (xs (i + 1)) (xs (i + 2))).1], h2, 47, 1024) Q
  refine x_icmpeq (t := 828) (pc' := 556) d_L_law_553 rfl rfl (fun _ => ?_) (fun q => absurd rfl q)
  exact K h2 _ ⟨lv_M V1 f2, M2, sp_WS_send a.2.2⟩
theorem a_L_current {nm : String} {L : Nat} {xs : Nat → Int32} {d : Nat} {h : xm_H} {Q : xm_Q} {S : sp_S} {i : Nat} (hi : i + 6 ≤ L) (hL : L < 2 ^ 30) (a : lv h S) (K : ∀ h' S', lv h' S' → xm_X L xs (xm_call L xs (d + 8)) (m_L_lw nm) (828, [.retAddr 0, .ref 0, .ref 29, .int (nI i)], [], h', 47, 1024) Q) :
    xm_X L xs (xm_call L xs (d + 8)) (m_L_lw nm) (558, [.retAddr 0, .ref 0, .ref 29, .int (nI i)], [], h, 47, 1024) Q := by
  obtain ⟨tk, oM⟩ := a.2.1.2.1
  refine x_aload_n (pc' := 559) d_L_law_558 rfl rfl ?_
  refine x_sload_n (pc' := 560) d_L_law_559 rfl rfl ?_
  refine x_iload_n (pc' := 561) d_L_law_560 rfl rfl ?_
  refine x_iconst (v := nI 1) (pc' := 562) d_L_law_561 rfl (by decide) ?_
  refine x_iadd (z := nI (i + 1)) (pc' := 563) d_L_law_562 rfl (nI_add _ _) ?_
  refine x_sld (v := xs (i + 1)) (pc' := 564) d_L_law_563 rfl (vp_in_nI (by omega) (by omega)) (by rw [nI_clamp (by omega)]) ?_
  refine x_virtual (a := 0) (as := [.int (xs (i + 1))]) (r := []) (v := (some (.int (sp_current S (xs (i + 1)))))) (h' := h) (st' := [.int (sp_current S (xs (i + 1)))]) (c' := 47) (s' := 1024) (pc' := 567) d_L_law_564 rfl c_L_67 a.1.1 rfl rfl (Nat.le_of_ble_eq_true rfl) (Nat.le_of_ble_eq_true rfl) (Nat.le_of_ble_eq_true rfl) (fun Q' hq => c_V_current a.1 a.2.2 hq) rfl rfl rfl ?_
  refine x_aload_n (pc' := 568) d_L_law_567 rfl rfl ?_
  refine x_sload_n (pc' := 569) d_L_law_568 rfl rfl ?_
  refine x_iload_n (pc' := 570) d_L_law_569 rfl rfl ?_
  refine x_iconst (v := nI 1) (pc' := 571) d_L_law_570 rfl (by decide) ?_
  refine x_iadd (z := nI (i + 1)) (pc' := 572) d_L_law_571 rfl (nI_add _ _) ?_
  refine x_sld (v := xs (i + 1)) (pc' := 573) d_L_law_572 rfl (vp_in_nI (by omega) (by omega)) (by rw [nI_clamp (by omega)]) ?_
  refine x_virtual (a := 29) (as := [.int (xs (i + 1))]) (r := [.int (sp_current S (xs (i + 1)))]) (v := (some (.int (sp_current S (xs (i + 1)))))) (h' := h) (st' := [.int (sp_current S (xs (i + 1))), .int (sp_current S (xs (i + 1)))]) (c' := 47) (s' := 1024) (pc' := 576) d_L_law_573 rfl c_L_70 oM rfl rfl (Nat.le_of_ble_eq_true rfl) (Nat.le_of_ble_eq_true rfl) (Nat.le_of_ble_eq_true rfl) (fun Q' hq => c_M_current a.2.1 a.2.2 hq) rfl rfl rfl ?_
  refine x_icmpeq (t := 828) (pc' := 579) d_L_law_576 rfl rfl (fun _ => ?_) (fun q => absurd rfl q)
  exact K h S a
theorem a_L_tip {nm : String} {L : Nat} {xs : Nat → Int32} {d : Nat} {h : xm_H} {Q : xm_Q} {S : sp_S} {i : Nat} (hi : i + 6 ≤ L) (hL : L < 2 ^ 30) (a : lv h S) (K : ∀ h' S', lv h' S' → xm_X L xs (xm_call L xs (d + 8)) (m_L_lw nm) (828, [.retAddr 0, .ref 0, .ref 29, .int (nI i)], [], h', 47, 1024) Q) :
    xm_X L xs (xm_call L xs (d + 8)) (m_L_lw nm) (581, [.retAddr 0, .ref 0, .ref 29, .int (nI i)], [], h, 47, 1024) Q := by
  obtain ⟨tk, oM⟩ := a.2.1.2.1
  refine x_aload_n (pc' := 582) d_L_law_581 rfl rfl ?_
  refine x_sload_n (pc' := 583) d_L_law_582 rfl rfl ?_
  refine x_iload_n (pc' := 584) d_L_law_583 rfl rfl ?_
  refine x_iconst (v := nI 1) (pc' := 585) d_L_law_584 rfl (by decide) ?_
  refine x_iadd (z := nI (i + 1)) (pc' := 586) d_L_law_585 rfl (nI_add _ _) ?_
  refine x_sld (v := xs (i + 1)) (pc' := 587) d_L_law_586 rfl (vp_in_nI (by omega) (by omega)) (by rw [nI_clamp (by omega)]) ?_
  refine x_sload_n (pc' := 588) d_L_law_587 rfl rfl ?_
  refine x_iload_n (pc' := 589) d_L_law_588 rfl rfl ?_
  refine x_iconst (v := nI 2) (pc' := 590) d_L_law_589 rfl (by decide) ?_
  refine x_iadd (z := nI (i + 2)) (pc' := 591) d_L_law_590 rfl (nI_add _ _) ?_
  refine x_sld (v := xs (i + 2)) (pc' := 592) d_L_law_591 rfl (vp_in_nI (by omega) (by omega)) (by rw [nI_clamp (by omega)]) ?_
  refine x_virtual (a := 0) (as := [.int (xs (i + 1)), .int (xs (i + 2))]) (r := []) (v := (some (.int (sp_tipq S (xs (i + 1)) (xs (i + 2)))))) (h' := h) (st' := [.int (sp_tipq S (xs (i + 1)) (xs (i + 2)))]) (c' := 47) (s' := 1024) (pc' := 595) d_L_law_592 rfl c_L_71 a.1.1 rfl rfl (Nat.le_of_ble_eq_true rfl) (Nat.le_of_ble_eq_true rfl) (Nat.le_of_ble_eq_true rfl) (fun Q' hq => c_V_tip a.1 a.2.2 hq) rfl rfl rfl ?_
  refine x_aload_n (pc' := 596) d_L_law_595 rfl rfl ?_
  refine x_sload_n (pc' := 597) d_L_law_596 rfl rfl ?_
  refine x_iload_n (pc' := 598) d_L_law_597 rfl rfl ?_
  refine x_iconst (v := nI 1) (pc' := 599) d_L_law_598 rfl (by decide) ?_
  refine x_iadd (z := nI (i + 1)) (pc' := 600) d_L_law_599 rfl (nI_add _ _) ?_
  refine x_sld (v := xs (i + 1)) (pc' := 601) d_L_law_600 rfl (vp_in_nI (by omega) (by omega)) (by rw [nI_clamp (by omega)]) ?_
  refine x_sload_n (pc' := 602) d_L_law_601 rfl rfl ?_
  refine x_iload_n (pc' := 603) d_L_law_602 rfl rfl ?_
  refine x_iconst (v := nI 2) (pc' := 604) d_L_law_603 rfl (by decide) ?_
  refine x_iadd (z := nI (i + 2)) (pc' := 605) d_L_law_604 rfl (nI_add _ _) ?_
  refine x_sld (v := xs (i + 2)) (pc' := 606) d_L_law_605 rfl (vp_in_nI (by omega) (by omega)) (by rw [nI_clamp (by omega)]) ?_
  refine x_virtual (a := 29) (as := [.int (xs (i + 1)), .int (xs (i + 2))]) (r := [.int (sp_tipq S (xs (i + 1)) (xs (i + 2)))]) (v := (some (.int (sp_tipq S (xs (i + 1)) (xs (i + 2)))))) (h' := h) (st' := [.int (sp_tipq S (xs (i + 1)) (xs (i + 2))), .int (sp_tipq S (xs (i + 1)) (xs (i + 2)))]) (c' := 47) (s' := 1024) (pc' := 609) d_L_law_606 rfl c_L_74 oM rfl rfl (Nat.le_of_ble_eq_true rfl) (Nat.le_of_ble_eq_true rfl) (Nat.le_of_ble_eq_true rfl) (fun Q' hq => c_M_tip a.2.1 a.2.2 hq) rfl rfl rfl ?_
  refine x_icmpeq (t := 828) (pc' := 612) d_L_law_609 rfl rfl (fun _ => ?_) (fun q => absurd rfl q)
  exact K h S a
theorem a_L_holds {nm : String} {L : Nat} {xs : Nat → Int32} {d : Nat} {h : xm_H} {Q : xm_Q} {S : sp_S} {i : Nat} (hi : i + 6 ≤ L) (hL : L < 2 ^ 30) (a : lv h S) (K : ∀ h' S', lv h' S' → xm_X L xs (xm_call L xs (d + 8)) (m_L_lw nm) (828, [.retAddr 0, .ref 0, .ref 29, .int (nI i)], [], h', 47, 1024) Q) :
    xm_X L xs (xm_call L xs (d + 8)) (m_L_lw nm) (614, [.retAddr 0, .ref 0, .ref 29, .int (nI i)], [], h, 47, 1024) Q := by
  obtain ⟨tk, oM⟩ := a.2.1.2.1
  refine x_aload_n (pc' := 615) d_L_law_614 rfl rfl ?_
  refine x_sload_n (pc' := 616) d_L_law_615 rfl rfl ?_
  refine x_iload_n (pc' := 617) d_L_law_616 rfl rfl ?_
  refine x_iconst (v := nI 1) (pc' := 618) d_L_law_617 rfl (by decide) ?_
  refine x_iadd (z := nI (i + 1)) (pc' := 619) d_L_law_618 rfl (nI_add _ _) ?_
  refine x_sld (v := xs (i + 1)) (pc' := 620) d_L_law_619 rfl (vp_in_nI (by omega) (by omega)) (by rw [nI_clamp (by omega)]) ?_
  refine x_sload_n (pc' := 621) d_L_law_620 rfl rfl ?_
  refine x_iload_n (pc' := 622) d_L_law_621 rfl rfl ?_
  refine x_iconst (v := nI 2) (pc' := 623) d_L_law_622 rfl (by decide) ?_
  refine x_iadd (z := nI (i + 2)) (pc' := 624) d_L_law_623 rfl (nI_add _ _) ?_
  refine x_sld (v := xs (i + 2)) (pc' := 625) d_L_law_624 rfl (vp_in_nI (by omega) (by omega)) (by rw [nI_clamp (by omega)]) ?_
  refine x_virtual (a := 0) (as := [.int (xs (i + 1)), .int (xs (i + 2))]) (r := []) (v := (some (.int (sp_holds S (xs (i + 1)) (xs (i + 2)))))) (h' := h) (st' := [.int (sp_holds S (xs (i + 1)) (xs (i + 2)))]) (c' := 47) (s' := 1024) (pc' := 628) d_L_law_625 rfl c_L_75 a.1.1 rfl rfl (Nat.le_of_ble_eq_true rfl) (Nat.le_of_ble_eq_true rfl) (Nat.le_of_ble_eq_true rfl) (fun Q' hq => c_V_holds a.1 a.2.2 hq) rfl rfl rfl ?_
  refine x_aload_n (pc' := 629) d_L_law_628 rfl rfl ?_
  refine x_sload_n (pc' := 630) d_L_law_629 rfl rfl ?_
  refine x_iload_n (pc' := 631) d_L_law_630 rfl rfl ?_
  refine x_iconst (v := nI 1) (pc' := 632) d_L_law_631 rfl (by decide) ?_
  refine x_iadd (z := nI (i + 1)) (pc' := 633) d_L_law_632 rfl (nI_add _ _) ?_
  refine x_sld (v := xs (i + 1)) (pc' := 634) d_L_law_633 rfl (vp_in_nI (by omega) (by omega)) (by rw [nI_clamp (by omega)]) ?_
  refine x_sload_n (pc' := 635) d_L_law_634 rfl rfl ?_
  refine x_iload_n (pc' := 636) d_L_law_635 rfl rfl ?_
  refine x_iconst (v := nI 2) (pc' := 637) d_L_law_636 rfl (by decide) ?_
  refine x_iadd (z := nI (i + 2)) (pc' := 638) d_L_law_637 rfl (nI_add _ _) ?_
  refine x_sld (v := xs (i + 2)) (pc' := 639) d_L_law_638 rfl (vp_in_nI (by omega) (by omega)) (by rw [nI_clamp (by omega)]) ?_
  refine x_virtual (a := 29) (as := [.int (xs (i + 1)), .int (xs (i + 2))]) (r := [.int (sp_holds S (xs (i + 1)) (xs (i + 2)))]) (v := (some (.int (sp_holds S (xs (i + 1)) (xs (i + 2)))))) (h' := h) (st' := [.int (sp_holds S (xs (i + 1)) (xs (i + 2))), .int (sp_holds S (xs (i + 1)) (xs (i + 2)))]) (c' := 47) (s' := 1024) (pc' := 642) d_L_law_639 rfl c_L_78 oM rfl rfl (Nat.le_of_ble_eq_true rfl) (Nat.le_of_ble_eq_true rfl) (Nat.le_of_ble_eq_true rfl) (fun Q' hq => c_M_holds a.2.1 a.2.2 hq) rfl rfl rfl ?_
  refine x_icmpeq (t := 828) (pc' := 645) d_L_law_642 rfl rfl (fun _ => ?_) (fun q => absurd rfl q)
  exact K h S a
theorem a_L_commits {nm : String} {L : Nat} {xs : Nat → Int32} {d : Nat} {h : xm_H} {Q : xm_Q} {S : sp_S} {i : Nat} (hi : i + 6 ≤ L) (hL : L < 2 ^ 30) (a : lv h S) (K : ∀ h' S', lv h' S' → xm_X L xs (xm_call L xs (d + 8)) (m_L_lw nm) (828, [.retAddr 0, .ref 0, .ref 29, .int (nI i)], [], h', 47, 1024) Q) :
    xm_X L xs (xm_call L xs (d + 8)) (m_L_lw nm) (647, [.retAddr 0, .ref 0, .ref 29, .int (nI i)], [], h, 47, 1024) Q := by
  obtain ⟨tk, oM⟩ := a.2.1.2.1
  refine x_aload_n (pc' := 648) d_L_law_647 rfl rfl ?_
  refine x_virtual (a := 0) (as := []) (r := []) (v := (some (.int (nI (sp_n S.1))))) (h' := h) (st' := [.int (nI (sp_n S.1))]) (c' := 47) (s' := 1024) (pc' := 651) d_L_law_648 rfl c_L_79 a.1.1 rfl rfl (Nat.le_of_ble_eq_true rfl) (Nat.le_of_ble_eq_true rfl) (Nat.le_of_ble_eq_true rfl) (fun Q' hq => c_V_commits a.1 a.2.2 hq) rfl rfl rfl ?_
  refine x_aload_n (pc' := 652) d_L_law_651 rfl rfl ?_
  refine x_virtual (a := 29) (as := []) (r := [.int (nI (sp_n S.1))]) (v := (some (.int (nI (sp_n S.1))))) (h' := h) (st' := [.int (nI (sp_n S.1)), .int (nI (sp_n S.1))]) (c' := 47) (s' := 1024) (pc' := 655) d_L_law_652 rfl c_L_83 oM rfl rfl (Nat.le_of_ble_eq_true rfl) (Nat.le_of_ble_eq_true rfl) (Nat.le_of_ble_eq_true rfl) (fun Q' hq => c_M_commits a.2.1 a.2.2 hq) rfl rfl rfl ?_
  refine x_icmpeq (t := 828) (pc' := 658) d_L_law_655 rfl rfl (fun _ => ?_) (fun q => absurd rfl q)
  exact K h S a
theorem a_L_parent {nm : String} {L : Nat} {xs : Nat → Int32} {d : Nat} {h : xm_H} {Q : xm_Q} {S : sp_S} {i : Nat} (hi : i + 6 ≤ L) (hL : L < 2 ^ 30) (a : lv h S) (K : ∀ h' S', lv h' S' → xm_X L xs (xm_call L xs (d + 8)) (m_L_lw nm) (828, [.retAddr 0, .ref 0, .ref 29, .int (nI i)], [], h', 47, 1024) Q) :
    xm_X L xs (xm_call L xs (d + 8)) (m_L_lw nm) (660, [.retAddr 0, .ref 0, .ref 29, .int (nI i)], [], h, 47, 1024) Q := by
  obtain ⟨tk, oM⟩ := a.2.1.2.1
  refine x_aload_n (pc' := 661) d_L_law_660 rfl rfl ?_
  refine x_sload_n (pc' := 662) d_L_law_661 rfl rfl ?_
  refine x_iload_n (pc' := 663) d_L_law_662 rfl rfl ?_
  refine x_iconst (v := nI 1) (pc' := 664) d_L_law_663 rfl (by decide) ?_
  refine x_iadd (z := nI (i + 1)) (pc' := 665) d_L_law_664 rfl (nI_add _ _) ?_
  refine x_sld (v := xs (i + 1)) (pc' := 666) d_L_law_665 rfl (vp_in_nI (by omega) (by omega)) (by rw [nI_clamp (by omega)]) ?_
  refine x_sload_n (pc' := 667) d_L_law_666 rfl rfl ?_
  refine x_iload_n (pc' := 668) d_L_law_667 rfl rfl ?_
  refine x_iconst (v := nI 2) (pc' := 669) d_L_law_668 rfl (by decide) ?_
  refine x_iadd (z := nI (i + 2)) (pc' := 670) d_L_law_669 rfl (nI_add _ _) ?_
  refine x_sld (v := xs (i + 2)) (pc' := 671) d_L_law_670 rfl (vp_in_nI (by omega) (by omega)) (by rw [nI_clamp (by omega)]) ?_
  refine x_virtual (a := 0) (as := [.int (xs (i + 1)), .int (xs (i + 2))]) (r := []) (v := (some (.int (sp_parent S (xs (i + 1)) (xs (i + 2)))))) (h' := h) (st' := [.int (sp_parent S (xs (i + 1)) (xs (i + 2)))]) (c' := 47) (s' := 1024) (pc' := 674) d_L_law_671 rfl c_L_84 a.1.1 rfl rfl (Nat.le_of_ble_eq_true rfl) (Nat.le_of_ble_eq_true rfl) (Nat.le_of_ble_eq_true rfl) (fun Q' hq => c_V_parent a.1 a.2.2 hq) rfl rfl rfl ?_
  refine x_aload_n (pc' := 675) d_L_law_674 rfl rfl ?_
  refine x_sload_n (pc' := 676) d_L_law_675 rfl rfl ?_
  refine x_iload_n (pc' := 677) d_L_law_676 rfl rfl ?_
  refine x_iconst (v := nI 1) (pc' := 678) d_L_law_677 rfl (by decide) ?_
  refine x_iadd (z := nI (i + 1)) (pc' := 679) d_L_law_678 rfl (nI_add _ _) ?_
  refine x_sld (v := xs (i + 1)) (pc' := 680) d_L_law_679 rfl (vp_in_nI (by omega) (by omega)) (by rw [nI_clamp (by omega)]) ?_
  refine x_sload_n (pc' := 681) d_L_law_680 rfl rfl ?_
  refine x_iload_n (pc' := 682) d_L_law_681 rfl rfl ?_
  refine x_iconst (v := nI 2) (pc' := 683) d_L_law_682 rfl (by decide) ?_
  refine x_iadd (z := nI (i + 2)) (pc' := 684) d_L_law_683 rfl (nI_add _ _) ?_
  refine x_sld (v := xs (i + 2)) (pc' := 685) d_L_law_684 rfl (vp_in_nI (by omega) (by omega)) (by rw [nI_clamp (by omega)]) ?_
  refine x_virtual (a := 29) (as := [.int (xs (i + 1)), .int (xs (i + 2))]) (r := [.int (sp_parent S (xs (i + 1)) (xs (i + 2)))]) (v := (some (.int (sp_parent S (xs (i + 1)) (xs (i + 2)))))) (h' := h) (st' := [.int (sp_parent S (xs (i + 1)) (xs (i + 2))), .int (sp_parent S (xs (i + 1)) (xs (i + 2)))]) (c' := 47) (s' := 1024) (pc' := 688) d_L_law_685 rfl c_L_87 oM rfl rfl (Nat.le_of_ble_eq_true rfl) (Nat.le_of_ble_eq_true rfl) (Nat.le_of_ble_eq_true rfl) (fun Q' hq => c_M_parent a.2.1 a.2.2 hq) rfl rfl rfl ?_
  refine x_icmpeq (t := 828) (pc' := 691) d_L_law_688 rfl rfl (fun _ => ?_) (fun q => absurd rfl q)
  exact K h S a
theorem a_L_text {nm : String} {L : Nat} {xs : Nat → Int32} {d : Nat} {h : xm_H} {Q : xm_Q} {S : sp_S} {i : Nat} (hi : i + 6 ≤ L) (hL : L < 2 ^ 30) (a : lv h S) (K : ∀ h' S', lv h' S' → xm_X L xs (xm_call L xs (d + 8)) (m_L_lw nm) (828, [.retAddr 0, .ref 0, .ref 29, .int (nI i)], [], h', 47, 1024) Q) :
    xm_X L xs (xm_call L xs (d + 8)) (m_L_lw nm) (693, [.retAddr 0, .ref 0, .ref 29, .int (nI i)], [], h, 47, 1024) Q := by
  obtain ⟨tk, oM⟩ := a.2.1.2.1
  refine x_aload_n (pc' := 694) d_L_law_693 rfl rfl ?_
  refine x_sload_n (pc' := 695) d_L_law_694 rfl rfl ?_
  refine x_iload_n (pc' := 696) d_L_law_695 rfl rfl ?_
  refine x_iconst (v := nI 1) (pc' := 697) d_L_law_696 rfl (by decide) ?_
  refine x_iadd (z := nI (i + 1)) (pc' := 698) d_L_law_697 rfl (nI_add _ _) ?_
  refine x_sld (v := xs (i + 1)) (pc' := 699) d_L_law_698 rfl (vp_in_nI (by omega) (by omega)) (by rw [nI_clamp (by omega)]) ?_
  refine x_sload_n (pc' := 700) d_L_law_699 rfl rfl ?_
  refine x_iload_n (pc' := 701) d_L_law_700 rfl rfl ?_
  refine x_iconst (v := nI 2) (pc' := 702) d_L_law_701 rfl (by decide) ?_
  refine x_iadd (z := nI (i + 2)) (pc' := 703) d_L_law_702 rfl (nI_add _ _) ?_
  refine x_sld (v := xs (i + 2)) (pc' := 704) d_L_law_703 rfl (vp_in_nI (by omega) (by omega)) (by rw [nI_clamp (by omega)]) ?_
  refine x_virtual (a := 0) (as := [.int (xs (i + 1)), .int (xs (i + 2))]) (r := []) (v := (some (.long (sp_text S (xs (i + 1)) (xs (i + 2)))))) (h' := h) (st' := [.long (sp_text S (xs (i + 1)) (xs (i + 2)))]) (c' := 47) (s' := 1024) (pc' := 707) d_L_law_704 rfl c_L_88 a.1.1 rfl rfl (Nat.le_of_ble_eq_true rfl) (Nat.le_of_ble_eq_true rfl) (Nat.le_of_ble_eq_true rfl) (fun Q' hq => c_V_text a.1 a.2.2 hq) rfl rfl rfl ?_
  refine x_aload_n (pc' := 708) d_L_law_707 rfl rfl ?_
  refine x_sload_n (pc' := 709) d_L_law_708 rfl rfl ?_
  refine x_iload_n (pc' := 710) d_L_law_709 rfl rfl ?_
  refine x_iconst (v := nI 1) (pc' := 711) d_L_law_710 rfl (by decide) ?_
  refine x_iadd (z := nI (i + 1)) (pc' := 712) d_L_law_711 rfl (nI_add _ _) ?_
  refine x_sld (v := xs (i + 1)) (pc' := 713) d_L_law_712 rfl (vp_in_nI (by omega) (by omega)) (by rw [nI_clamp (by omega)]) ?_
  refine x_sload_n (pc' := 714) d_L_law_713 rfl rfl ?_
  refine x_iload_n (pc' := 715) d_L_law_714 rfl rfl ?_
  refine x_iconst (v := nI 2) (pc' := 716) d_L_law_715 rfl (by decide) ?_
  refine x_iadd (z := nI (i + 2)) (pc' := 717) d_L_law_716 rfl (nI_add _ _) ?_
  refine x_sld (v := xs (i + 2)) (pc' := 718) d_L_law_717 rfl (vp_in_nI (by omega) (by omega)) (by rw [nI_clamp (by omega)]) ?_
  refine x_virtual (a := 29) (as := [.int (xs (i + 1)), .int (xs (i + 2))]) (r := [.long (sp_text S (xs (i + 1)) (xs (i + 2)))]) (v := (some (.long (sp_text S (xs (i + 1)) (xs (i + 2)))))) (h' := h) (st' := [.long (sp_text S (xs (i + 1)) (xs (i + 2))), .long (sp_text S (xs (i + 1)) (xs (i + 2)))]) (c' := 47) (s' := 1024) (pc' := 721) d_L_law_718 rfl c_L_92 oM rfl rfl (Nat.le_of_ble_eq_true rfl) (Nat.le_of_ble_eq_true rfl) (Nat.le_of_ble_eq_true rfl) (fun Q' hq => c_M_text a.2.1 a.2.2 hq) rfl rfl rfl ?_
  refine x_lcmp (z := lg_cmp (sp_text S (xs (i + 1)) (xs (i + 2))) (sp_text S (xs (i + 1)) (xs (i + 2)))) (pc' := 722) d_L_law_721 rfl rfl ?_
  refine x_ifeq (t := 828) (pc' := 725) d_L_law_722 rfl rfl (fun _ => ?_) (fun q => absurd ((lg_cmp_eq _ _).mpr rfl) q)
  exact K h S a
theorem a_L_working {nm : String} {L : Nat} {xs : Nat → Int32} {d : Nat} {h : xm_H} {Q : xm_Q} {S : sp_S} {i : Nat} (hi : i + 6 ≤ L) (hL : L < 2 ^ 30) (a : lv h S) (K : ∀ h' S', lv h' S' → xm_X L xs (xm_call L xs (d + 8)) (m_L_lw nm) (828, [.retAddr 0, .ref 0, .ref 29, .int (nI i)], [], h', 47, 1024) Q) :
    xm_X L xs (xm_call L xs (d + 8)) (m_L_lw nm) (727, [.retAddr 0, .ref 0, .ref 29, .int (nI i)], [], h, 47, 1024) Q := by
  obtain ⟨tk, oM⟩ := a.2.1.2.1
  refine x_aload_n (pc' := 728) d_L_law_727 rfl rfl ?_
  refine x_sload_n (pc' := 729) d_L_law_728 rfl rfl ?_
  refine x_iload_n (pc' := 730) d_L_law_729 rfl rfl ?_
  refine x_iconst (v := nI 1) (pc' := 731) d_L_law_730 rfl (by decide) ?_
  refine x_iadd (z := nI (i + 1)) (pc' := 732) d_L_law_731 rfl (nI_add _ _) ?_
  refine x_sld (v := xs (i + 1)) (pc' := 733) d_L_law_732 rfl (vp_in_nI (by omega) (by omega)) (by rw [nI_clamp (by omega)]) ?_
  refine x_sload_n (pc' := 734) d_L_law_733 rfl rfl ?_
  refine x_iload_n (pc' := 735) d_L_law_734 rfl rfl ?_
  refine x_iconst (v := nI 2) (pc' := 736) d_L_law_735 rfl (by decide) ?_
  refine x_iadd (z := nI (i + 2)) (pc' := 737) d_L_law_736 rfl (nI_add _ _) ?_
  refine x_sld (v := xs (i + 2)) (pc' := 738) d_L_law_737 rfl (vp_in_nI (by omega) (by omega)) (by rw [nI_clamp (by omega)]) ?_
  refine x_virtual (a := 0) (as := [.int (xs (i + 1)), .int (xs (i + 2))]) (r := []) (v := (some (.long (sp_working S (xs (i + 1)) (xs (i + 2)))))) (h' := h) (st' := [.long (sp_working S (xs (i + 1)) (xs (i + 2)))]) (c' := 47) (s' := 1024) (pc' := 741) d_L_law_738 rfl c_L_93 a.1.1 rfl rfl (Nat.le_of_ble_eq_true rfl) (Nat.le_of_ble_eq_true rfl) (Nat.le_of_ble_eq_true rfl) (fun Q' hq => c_V_working a.1 a.2.2 hq) rfl rfl rfl ?_
  refine x_aload_n (pc' := 742) d_L_law_741 rfl rfl ?_
  refine x_sload_n (pc' := 743) d_L_law_742 rfl rfl ?_
  refine x_iload_n (pc' := 744) d_L_law_743 rfl rfl ?_
  refine x_iconst (v := nI 1) (pc' := 745) d_L_law_744 rfl (by decide) ?_
  refine x_iadd (z := nI (i + 1)) (pc' := 746) d_L_law_745 rfl (nI_add _ _) ?_
  refine x_sld (v := xs (i + 1)) (pc' := 747) d_L_law_746 rfl (vp_in_nI (by omega) (by omega)) (by rw [nI_clamp (by omega)]) ?_
  refine x_sload_n (pc' := 748) d_L_law_747 rfl rfl ?_
  refine x_iload_n (pc' := 749) d_L_law_748 rfl rfl ?_
  refine x_iconst (v := nI 2) (pc' := 750) d_L_law_749 rfl (by decide) ?_
  refine x_iadd (z := nI (i + 2)) (pc' := 751) d_L_law_750 rfl (nI_add _ _) ?_
  refine x_sld (v := xs (i + 2)) (pc' := 752) d_L_law_751 rfl (vp_in_nI (by omega) (by omega)) (by rw [nI_clamp (by omega)]) ?_
  refine x_virtual (a := 29) (as := [.int (xs (i + 1)), .int (xs (i + 2))]) (r := [.long (sp_working S (xs (i + 1)) (xs (i + 2)))]) (v := (some (.long (sp_working S (xs (i + 1)) (xs (i + 2)))))) (h' := h) (st' := [.long (sp_working S (xs (i + 1)) (xs (i + 2))), .long (sp_working S (xs (i + 1)) (xs (i + 2)))]) (c' := 47) (s' := 1024) (pc' := 755) d_L_law_752 rfl c_L_96 oM rfl rfl (Nat.le_of_ble_eq_true rfl) (Nat.le_of_ble_eq_true rfl) (Nat.le_of_ble_eq_true rfl) (fun Q' hq => c_M_working a.2.1 a.2.2 hq) rfl rfl rfl ?_
  refine x_lcmp (z := lg_cmp (sp_working S (xs (i + 1)) (xs (i + 2))) (sp_working S (xs (i + 1)) (xs (i + 2)))) (pc' := 756) d_L_law_755 rfl rfl ?_
  refine x_ifeq (t := 828) (pc' := 759) d_L_law_756 rfl rfl (fun _ => ?_) (fun q => absurd ((lg_cmp_eq _ _).mpr rfl) q)
  exact K h S a
theorem a_L_staged {nm : String} {L : Nat} {xs : Nat → Int32} {d : Nat} {h : xm_H} {Q : xm_Q} {S : sp_S} {i : Nat} (hi : i + 6 ≤ L) (hL : L < 2 ^ 30) (a : lv h S) (K : ∀ h' S', lv h' S' → xm_X L xs (xm_call L xs (d + 8)) (m_L_lw nm) (828, [.retAddr 0, .ref 0, .ref 29, .int (nI i)], [], h', 47, 1024) Q) :
    xm_X L xs (xm_call L xs (d + 8)) (m_L_lw nm) (761, [.retAddr 0, .ref 0, .ref 29, .int (nI i)], [], h, 47, 1024) Q := by
  obtain ⟨tk, oM⟩ := a.2.1.2.1
  refine x_aload_n (pc' := 762) d_L_law_761 rfl rfl ?_
  refine x_sload_n (pc' := 763) d_L_law_762 rfl rfl ?_
  refine x_iload_n (pc' := 764) d_L_law_763 rfl rfl ?_
  refine x_iconst (v := nI 1) (pc' := 765) d_L_law_764 rfl (by decide) ?_
  refine x_iadd (z := nI (i + 1)) (pc' := 766) d_L_law_765 rfl (nI_add _ _) ?_
  refine x_sld (v := xs (i + 1)) (pc' := 767) d_L_law_766 rfl (vp_in_nI (by omega) (by omega)) (by rw [nI_clamp (by omega)]) ?_
  refine x_sload_n (pc' := 768) d_L_law_767 rfl rfl ?_
  refine x_iload_n (pc' := 769) d_L_law_768 rfl rfl ?_
  refine x_iconst (v := nI 2) (pc' := 770) d_L_law_769 rfl (by decide) ?_
  refine x_iadd (z := nI (i + 2)) (pc' := 771) d_L_law_770 rfl (nI_add _ _) ?_
  refine x_sld (v := xs (i + 2)) (pc' := 772) d_L_law_771 rfl (vp_in_nI (by omega) (by omega)) (by rw [nI_clamp (by omega)]) ?_
  refine x_virtual (a := 0) (as := [.int (xs (i + 1)), .int (xs (i + 2))]) (r := []) (v := (some (.long (sp_staged S (xs (i + 1)) (xs (i + 2)))))) (h' := h) (st' := [.long (sp_staged S (xs (i + 1)) (xs (i + 2)))]) (c' := 47) (s' := 1024) (pc' := 775) d_L_law_772 rfl c_L_97 a.1.1 rfl rfl (Nat.le_of_ble_eq_true rfl) (Nat.le_of_ble_eq_true rfl) (Nat.le_of_ble_eq_true rfl) (fun Q' hq => c_V_staged a.1 a.2.2 hq) rfl rfl rfl ?_
  refine x_aload_n (pc' := 776) d_L_law_775 rfl rfl ?_
  refine x_sload_n (pc' := 777) d_L_law_776 rfl rfl ?_
  refine x_iload_n (pc' := 778) d_L_law_777 rfl rfl ?_
  refine x_iconst (v := nI 1) (pc' := 779) d_L_law_778 rfl (by decide) ?_
  refine x_iadd (z := nI (i + 1)) (pc' := 780) d_L_law_779 rfl (nI_add _ _) ?_
  refine x_sld (v := xs (i + 1)) (pc' := 781) d_L_law_780 rfl (vp_in_nI (by omega) (by omega)) (by rw [nI_clamp (by omega)]) ?_
  refine x_sload_n (pc' := 782) d_L_law_781 rfl rfl ?_
  refine x_iload_n (pc' := 783) d_L_law_782 rfl rfl ?_
  refine x_iconst (v := nI 2) (pc' := 784) d_L_law_783 rfl (by decide) ?_
  refine x_iadd (z := nI (i + 2)) (pc' := 785) d_L_law_784 rfl (nI_add _ _) ?_
  refine x_sld (v := xs (i + 2)) (pc' := 786) d_L_law_785 rfl (vp_in_nI (by omega) (by omega)) (by rw [nI_clamp (by omega)]) ?_
  refine x_virtual (a := 29) (as := [.int (xs (i + 1)), .int (xs (i + 2))]) (r := [.long (sp_staged S (xs (i + 1)) (xs (i + 2)))]) (v := (some (.long (sp_staged S (xs (i + 1)) (xs (i + 2)))))) (h' := h) (st' := [.long (sp_staged S (xs (i + 1)) (xs (i + 2))), .long (sp_staged S (xs (i + 1)) (xs (i + 2)))]) (c' := 47) (s' := 1024) (pc' := 789) d_L_law_786 rfl c_L_100 oM rfl rfl (Nat.le_of_ble_eq_true rfl) (Nat.le_of_ble_eq_true rfl) (Nat.le_of_ble_eq_true rfl) (fun Q' hq => c_M_staged a.2.1 a.2.2 hq) rfl rfl rfl ?_
  refine x_lcmp (z := lg_cmp (sp_staged S (xs (i + 1)) (xs (i + 2))) (sp_staged S (xs (i + 1)) (xs (i + 2)))) (pc' := 790) d_L_law_789 rfl rfl ?_
  refine x_ifeq (t := 828) (pc' := 793) d_L_law_790 rfl rfl (fun _ => ?_) (fun q => absurd ((lg_cmp_eq _ _).mpr rfl) q)
  exact K h S a
theorem a_L_base {nm : String} {L : Nat} {xs : Nat → Int32} {d : Nat} {h : xm_H} {Q : xm_Q} {S : sp_S} {i : Nat} (hi : i + 6 ≤ L) (hL : L < 2 ^ 30) (a : lv h S) (K : ∀ h' S', lv h' S' → xm_X L xs (xm_call L xs (d + 8)) (m_L_lw nm) (828, [.retAddr 0, .ref 0, .ref 29, .int (nI i)], [], h', 47, 1024) Q) :
    xm_X L xs (xm_call L xs (d + 8)) (m_L_lw nm) (795, [.retAddr 0, .ref 0, .ref 29, .int (nI i)], [], h, 47, 1024) Q := by
  obtain ⟨tk, oM⟩ := a.2.1.2.1
  refine x_aload_n (pc' := 796) d_L_law_795 rfl rfl ?_
  refine x_sload_n (pc' := 797) d_L_law_796 rfl rfl ?_
  refine x_iload_n (pc' := 798) d_L_law_797 rfl rfl ?_
  refine x_iconst (v := nI 1) (pc' := 799) d_L_law_798 rfl (by decide) ?_
  refine x_iadd (z := nI (i + 1)) (pc' := 800) d_L_law_799 rfl (nI_add _ _) ?_
  refine x_sld (v := xs (i + 1)) (pc' := 801) d_L_law_800 rfl (vp_in_nI (by omega) (by omega)) (by rw [nI_clamp (by omega)]) ?_
  refine x_sload_n (pc' := 802) d_L_law_801 rfl rfl ?_
  refine x_iload_n (pc' := 803) d_L_law_802 rfl rfl ?_
  refine x_iconst (v := nI 2) (pc' := 804) d_L_law_803 rfl (by decide) ?_
  refine x_iadd (z := nI (i + 2)) (pc' := 805) d_L_law_804 rfl (nI_add _ _) ?_
  refine x_sld (v := xs (i + 2)) (pc' := 806) d_L_law_805 rfl (vp_in_nI (by omega) (by omega)) (by rw [nI_clamp (by omega)]) ?_
  refine x_virtual (a := 0) (as := [.int (xs (i + 1)), .int (xs (i + 2))]) (r := []) (v := (some (.int (sp_baseq S (xs (i + 1)) (xs (i + 2)))))) (h' := h) (st' := [.int (sp_baseq S (xs (i + 1)) (xs (i + 2)))]) (c' := 47) (s' := 1024) (pc' := 809) d_L_law_806 rfl c_L_101 a.1.1 rfl rfl (Nat.le_of_ble_eq_true rfl) (Nat.le_of_ble_eq_true rfl) (Nat.le_of_ble_eq_true rfl) (fun Q' hq => c_V_base a.1 a.2.2 hq) rfl rfl rfl ?_
  refine x_aload_n (pc' := 810) d_L_law_809 rfl rfl ?_
  refine x_sload_n (pc' := 811) d_L_law_810 rfl rfl ?_
  refine x_iload_n (pc' := 812) d_L_law_811 rfl rfl ?_
  refine x_iconst (v := nI 1) (pc' := 813) d_L_law_812 rfl (by decide) ?_
  refine x_iadd (z := nI (i + 1)) (pc' := 814) d_L_law_813 rfl (nI_add _ _) ?_
  refine x_sld (v := xs (i + 1)) (pc' := 815) d_L_law_814 rfl (vp_in_nI (by omega) (by omega)) (by rw [nI_clamp (by omega)]) ?_
  refine x_sload_n (pc' := 816) d_L_law_815 rfl rfl ?_
  refine x_iload_n (pc' := 817) d_L_law_816 rfl rfl ?_
  refine x_iconst (v := nI 2) (pc' := 818) d_L_law_817 rfl (by decide) ?_
  refine x_iadd (z := nI (i + 2)) (pc' := 819) d_L_law_818 rfl (nI_add _ _) ?_
  refine x_sld (v := xs (i + 2)) (pc' := 820) d_L_law_819 rfl (vp_in_nI (by omega) (by omega)) (by rw [nI_clamp (by omega)]) ?_
  refine x_virtual (a := 29) (as := [.int (xs (i + 1)), .int (xs (i + 2))]) (r := [.int (sp_baseq S (xs (i + 1)) (xs (i + 2)))]) (v := (some (.int (sp_baseq S (xs (i + 1)) (xs (i + 2)))))) (h' := h) (st' := [.int (sp_baseq S (xs (i + 1)) (xs (i + 2))), .int (sp_baseq S (xs (i + 1)) (xs (i + 2)))]) (c' := 47) (s' := 1024) (pc' := 823) d_L_law_820 rfl c_L_104 oM rfl rfl (Nat.le_of_ble_eq_true rfl) (Nat.le_of_ble_eq_true rfl) (Nat.le_of_ble_eq_true rfl) (fun Q' hq => c_M_base a.2.1 a.2.2 hq) rfl rfl rfl ?_
  refine x_icmpeq (t := 828) (pc' := 826) d_L_law_823 rfl rfl (fun _ => ?_) (fun q => absurd rfl q)
  exact K h S a
