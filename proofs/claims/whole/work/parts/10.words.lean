/-! The words that methods, fields and calls need. (Printed by gen_names.py.) -/
theorem wi_V : Cond.initialized "SnapshotVault" ∈ tb_all := tb_in (List.mem_append_right _ (List.mem_of_getElem? (i := 1) (by decide +kernel))) rfl
theorem wi_H : Cond.initialized "SnapshotVault$History" ∈ tb_all := tb_in (List.mem_append_right _ (List.mem_of_getElem? (i := 2) (by decide +kernel))) rfl
theorem wi_R : Cond.initialized "SnapshotVault$Repository" ∈ tb_all := tb_in (List.mem_append_right _ (List.mem_of_getElem? (i := 3) (by decide +kernel))) rfl
theorem wi_T : Cond.initialized "SnapshotVault$Texts" ∈ tb_all := tb_in (List.mem_append_right _ (List.mem_of_getElem? (i := 6) (by decide +kernel))) rfl
theorem wi_U : Cond.initialized "SnapshotVault$Uniter" ∈ tb_all := tb_in (List.mem_append_right _ (List.mem_of_getElem? (i := 4) (by decide +kernel))) rfl
theorem wi_M : Cond.initialized "SnapshotVaultModel" ∈ tb_all := tb_in (List.mem_append_right _ (List.mem_of_getElem? (i := 5) (by decide +kernel))) rfl
theorem wi_J : Cond.initialized "java/lang/Long" ∈ tb_all := tb_in (List.mem_append_right _ (List.mem_of_getElem? (i := 8) (by decide +kernel))) rfl
theorem wi_L : Cond.initialized "SnapshotVaultLaw" ∈ tb_all := tb_in (List.mem_append_right _ (List.mem_of_getElem? (i := 0) (by decide +kernel))) rfl
theorem wi_Y : Cond.initialized "java/lang/Math" ∈ tb_all := tb_in (List.mem_append_right _ (List.mem_of_getElem? (i := 7) (by decide +kernel))) rfl
theorem wu_H : ∀ w ∈ u_ws "SnapshotVault$History" tn_H 5, w ∈ tb_all := fun w h => by
  obtain ⟨k, hk, rfl⟩ := List.mem_map.mp h
  have hk : k < 5 := List.mem_range.mp hk
  match k, hk with
  | 0, _ => exact tb_in (List.mem_append_right _ (List.mem_of_getElem? (i := 29) (by decide +kernel))) rfl
  | 1, _ => exact tb_in (List.mem_append_right _ (List.mem_of_getElem? (i := 31) (by decide +kernel))) rfl
  | 2, _ => exact tb_in (List.mem_append_right _ (List.mem_of_getElem? (i := 33) (by decide +kernel))) rfl
  | 3, _ => exact tb_in (List.mem_append_right _ (List.mem_of_getElem? (i := 35) (by decide +kernel))) rfl
  | 4, _ => exact tb_in (List.mem_append_right _ (List.mem_of_getElem? (i := 37) (by decide +kernel))) rfl
  | n + 5, hk => exact absurd hk (by omega)
theorem cl_H : xm_cl 0 "SnapshotVault$History" tn_H 5 ty_H := ⟨rfl, wu_H, by decide +kernel, by decide +kernel⟩
theorem wu_R : ∀ w ∈ u_ws "SnapshotVault$Repository" tn_R 5, w ∈ tb_all := fun w h => by
  obtain ⟨k, hk, rfl⟩ := List.mem_map.mp h
  have hk : k < 5 := List.mem_range.mp hk
  match k, hk with
  | 0, _ => exact tb_in (List.mem_append_right _ (List.mem_of_getElem? (i := 60) (by decide +kernel))) rfl
  | 1, _ => exact tb_in (List.mem_append_right _ (List.mem_of_getElem? (i := 62) (by decide +kernel))) rfl
  | 2, _ => exact tb_in (List.mem_append_right _ (List.mem_of_getElem? (i := 64) (by decide +kernel))) rfl
  | 3, _ => exact tb_in (List.mem_append_right _ (List.mem_of_getElem? (i := 66) (by decide +kernel))) rfl
  | 4, _ => exact tb_in (List.mem_append_right _ (List.mem_of_getElem? (i := 68) (by decide +kernel))) rfl
  | n + 5, hk => exact absurd hk (by omega)
theorem cl_R : xm_cl 1 "SnapshotVault$Repository" tn_R 5 ty_R := ⟨rfl, wu_R, by decide +kernel, by decide +kernel⟩
theorem wu_U : ∀ w ∈ u_ws "SnapshotVault$Uniter" tn_U 4, w ∈ tb_all := fun w h => by
  obtain ⟨k, hk, rfl⟩ := List.mem_map.mp h
  have hk : k < 4 := List.mem_range.mp hk
  match k, hk with
  | 0, _ => exact tb_in (List.mem_append_right _ (List.mem_of_getElem? (i := 84) (by decide +kernel))) rfl
  | 1, _ => exact tb_in (List.mem_append_right _ (List.mem_of_getElem? (i := 86) (by decide +kernel))) rfl
  | 2, _ => exact tb_in (List.mem_append_right _ (List.mem_of_getElem? (i := 88) (by decide +kernel))) rfl
  | 3, _ => exact tb_in (List.mem_append_right _ (List.mem_of_getElem? (i := 90) (by decide +kernel))) rfl
  | n + 4, hk => exact absurd hk (by omega)
theorem cl_U : xm_cl 2 "SnapshotVault$Uniter" tn_U 4 ty_U := ⟨rfl, wu_U, by decide +kernel, by decide +kernel⟩
theorem wu_V : ∀ w ∈ u_ws "SnapshotVault" tn_V 3, w ∈ tb_all := fun w h => by
  obtain ⟨k, hk, rfl⟩ := List.mem_map.mp h
  have hk : k < 3 := List.mem_range.mp hk
  match k, hk with
  | 0, _ => exact tb_in (List.mem_append_right _ (List.mem_of_getElem? (i := 96) (by decide +kernel))) rfl
  | 1, _ => exact tb_in (List.mem_append_right _ (List.mem_of_getElem? (i := 98) (by decide +kernel))) rfl
  | 2, _ => exact tb_in (List.mem_append_right _ (List.mem_of_getElem? (i := 100) (by decide +kernel))) rfl
  | n + 3, hk => exact absurd hk (by omega)
theorem cl_V : xm_cl 3 "SnapshotVault" tn_V 3 ty_V := ⟨rfl, wu_V, by decide +kernel, by decide +kernel⟩
theorem wu_M : ∀ w ∈ u_ws "SnapshotVaultModel" tn_M 19, w ∈ tb_all := fun w h => by
  obtain ⟨k, hk, rfl⟩ := List.mem_map.mp h
  have hk : k < 19 := List.mem_range.mp hk
  match k, hk with
  | 0, _ => exact tb_in (List.mem_append_right _ (List.mem_of_getElem? (i := 364) (by decide +kernel))) rfl
  | 1, _ => exact tb_in (List.mem_append_right _ (List.mem_of_getElem? (i := 366) (by decide +kernel))) rfl
  | 2, _ => exact tb_in (List.mem_append_right _ (List.mem_of_getElem? (i := 368) (by decide +kernel))) rfl
  | 3, _ => exact tb_in (List.mem_append_right _ (List.mem_of_getElem? (i := 370) (by decide +kernel))) rfl
  | 4, _ => exact tb_in (List.mem_append_right _ (List.mem_of_getElem? (i := 372) (by decide +kernel))) rfl
  | 5, _ => exact tb_in (List.mem_append_right _ (List.mem_of_getElem? (i := 374) (by decide +kernel))) rfl
  | 6, _ => exact tb_in (List.mem_append_right _ (List.mem_of_getElem? (i := 376) (by decide +kernel))) rfl
  | 7, _ => exact tb_in (List.mem_append_right _ (List.mem_of_getElem? (i := 378) (by decide +kernel))) rfl
  | 8, _ => exact tb_in (List.mem_append_right _ (List.mem_of_getElem? (i := 380) (by decide +kernel))) rfl
  | 9, _ => exact tb_in (List.mem_append_right _ (List.mem_of_getElem? (i := 382) (by decide +kernel))) rfl
  | 10, _ => exact tb_in (List.mem_append_right _ (List.mem_of_getElem? (i := 384) (by decide +kernel))) rfl
  | 11, _ => exact tb_in (List.mem_append_right _ (List.mem_of_getElem? (i := 386) (by decide +kernel))) rfl
  | 12, _ => exact tb_in (List.mem_append_right _ (List.mem_of_getElem? (i := 388) (by decide +kernel))) rfl
  | 13, _ => exact tb_in (List.mem_append_right _ (List.mem_of_getElem? (i := 390) (by decide +kernel))) rfl
  | 14, _ => exact tb_in (List.mem_append_right _ (List.mem_of_getElem? (i := 392) (by decide +kernel))) rfl
  | 15, _ => exact tb_in (List.mem_append_right _ (List.mem_of_getElem? (i := 394) (by decide +kernel))) rfl
  | 16, _ => exact tb_in (List.mem_append_right _ (List.mem_of_getElem? (i := 396) (by decide +kernel))) rfl
  | 17, _ => exact tb_in (List.mem_append_right _ (List.mem_of_getElem? (i := 398) (by decide +kernel))) rfl
  | 18, _ => exact tb_in (List.mem_append_right _ (List.mem_of_getElem? (i := 400) (by decide +kernel))) rfl
  | n + 19, hk => exact absurd hk (by omega)
theorem cl_M : xm_cl 4 "SnapshotVaultModel" tn_M 19 ty_M := ⟨rfl, wu_M, by decide +kernel, by decide +kernel⟩
theorem ok_V_init : xm_ok m_V_init := ⟨tb_in (List.mem_append_right _ (List.mem_of_getElem? (i := 13) (by decide +kernel))) rfl, wi_V, by decide +kernel, ⟨by decide +kernel, by decide +kernel⟩, by decide⟩
theorem wm_V_init : Cond.instanceMethod (xm_y m_V_init) ∈ tb_all := tb_in (List.mem_append_right _ (List.mem_of_getElem? (i := 12) (by decide +kernel))) rfl
theorem ok_H_init : xm_ok m_H_init := ⟨tb_in (List.mem_append_right _ (List.mem_of_getElem? (i := 21) (by decide +kernel))) rfl, wi_H, by decide +kernel, ⟨by decide +kernel, by decide +kernel⟩, by decide⟩
theorem wm_H_init : Cond.instanceMethod (xm_y m_H_init) ∈ tb_all := tb_in (List.mem_append_right _ (List.mem_of_getElem? (i := 20) (by decide +kernel))) rfl
theorem ok_R_init : xm_ok m_R_init := ⟨tb_in (List.mem_append_right _ (List.mem_of_getElem? (i := 47) (by decide +kernel))) rfl, wi_R, by decide +kernel, ⟨by decide +kernel, by decide +kernel⟩, by decide⟩
theorem wm_R_init : Cond.instanceMethod (xm_y m_R_init) ∈ tb_all := tb_in (List.mem_append_right _ (List.mem_of_getElem? (i := 46) (by decide +kernel))) rfl
theorem ok_U_init : xm_ok m_U_init := ⟨tb_in (List.mem_append_right _ (List.mem_of_getElem? (i := 75) (by decide +kernel))) rfl, wi_U, by decide +kernel, ⟨by decide +kernel, by decide +kernel⟩, by decide⟩
theorem wm_U_init : Cond.instanceMethod (xm_y m_U_init) ∈ tb_all := tb_in (List.mem_append_right _ (List.mem_of_getElem? (i := 74) (by decide +kernel))) rfl
theorem ok_V_write : xm_ok m_V_write := ⟨tb_in (List.mem_append_right _ (List.mem_of_getElem? (i := 106) (by decide +kernel))) rfl, wi_V, by decide +kernel, ⟨by decide +kernel, by decide +kernel⟩, by decide⟩
theorem wm_V_write : Cond.instanceMethod (xm_y m_V_write) ∈ tb_all := tb_in (List.mem_append_right _ (List.mem_of_getElem? (i := 104) (by decide +kernel))) rfl
theorem we_V_write : Cond.selects (xm_y m_V_write).cls (xm_y m_V_write) (xm_y m_V_write) ∈ tb_all := tb_in (List.mem_append_right _ (List.mem_of_getElem? (i := 105) (by decide +kernel))) rfl
theorem ok_V_isRepository : xm_ok m_V_isRepository := ⟨tb_in (List.mem_append_right _ (List.mem_of_getElem? (i := 109) (by decide +kernel))) rfl, wi_V, by decide +kernel, ⟨by decide +kernel, by decide +kernel⟩, by decide⟩
theorem wt_V_isRepository : Cond.static (xm_y m_V_isRepository) ∈ tb_all := tb_in (List.mem_append_right _ (List.mem_of_getElem? (i := 108) (by decide +kernel))) rfl
theorem ok_V_isFile : xm_ok m_V_isFile := ⟨tb_in (List.mem_append_right _ (List.mem_of_getElem? (i := 112) (by decide +kernel))) rfl, wi_V, by decide +kernel, ⟨by decide +kernel, by decide +kernel⟩, by decide⟩
theorem wt_V_isFile : Cond.static (xm_y m_V_isFile) ∈ tb_all := tb_in (List.mem_append_right _ (List.mem_of_getElem? (i := 111) (by decide +kernel))) rfl
theorem ok_T_pack : xm_ok m_T_pack := ⟨tb_in (List.mem_append_right _ (List.mem_of_getElem? (i := 115) (by decide +kernel))) rfl, wi_T, by decide +kernel, ⟨by decide +kernel, by decide +kernel⟩, by decide⟩
theorem wt_T_pack : Cond.static (xm_y m_T_pack) ∈ tb_all := tb_in (List.mem_append_right _ (List.mem_of_getElem? (i := 114) (by decide +kernel))) rfl
theorem ok_V_remove : xm_ok m_V_remove := ⟨tb_in (List.mem_append_right _ (List.mem_of_getElem? (i := 119) (by decide +kernel))) rfl, wi_V, by decide +kernel, ⟨by decide +kernel, by decide +kernel⟩, by decide⟩
theorem wm_V_remove : Cond.instanceMethod (xm_y m_V_remove) ∈ tb_all := tb_in (List.mem_append_right _ (List.mem_of_getElem? (i := 117) (by decide +kernel))) rfl
theorem we_V_remove : Cond.selects (xm_y m_V_remove).cls (xm_y m_V_remove) (xm_y m_V_remove) ∈ tb_all := tb_in (List.mem_append_right _ (List.mem_of_getElem? (i := 118) (by decide +kernel))) rfl
theorem ok_V_stage : xm_ok m_V_stage := ⟨tb_in (List.mem_append_right _ (List.mem_of_getElem? (i := 124) (by decide +kernel))) rfl, wi_V, by decide +kernel, ⟨by decide +kernel, by decide +kernel⟩, by decide⟩
theorem wm_V_stage : Cond.instanceMethod (xm_y m_V_stage) ∈ tb_all := tb_in (List.mem_append_right _ (List.mem_of_getElem? (i := 122) (by decide +kernel))) rfl
theorem we_V_stage : Cond.selects (xm_y m_V_stage).cls (xm_y m_V_stage) (xm_y m_V_stage) ∈ tb_all := tb_in (List.mem_append_right _ (List.mem_of_getElem? (i := 123) (by decide +kernel))) rfl
theorem ok_V_commit : xm_ok m_V_commit := ⟨tb_in (List.mem_append_right _ (List.mem_of_getElem? (i := 128) (by decide +kernel))) rfl, wi_V, by decide +kernel, ⟨by decide +kernel, by decide +kernel⟩, by decide⟩
theorem wm_V_commit : Cond.instanceMethod (xm_y m_V_commit) ∈ tb_all := tb_in (List.mem_append_right _ (List.mem_of_getElem? (i := 126) (by decide +kernel))) rfl
theorem we_V_commit : Cond.selects (xm_y m_V_commit).cls (xm_y m_V_commit) (xm_y m_V_commit) ∈ tb_all := tb_in (List.mem_append_right _ (List.mem_of_getElem? (i := 127) (by decide +kernel))) rfl
theorem ok_R_head : xm_ok m_R_head := ⟨tb_in (List.mem_append_right _ (List.mem_of_getElem? (i := 132) (by decide +kernel))) rfl, wi_R, by decide +kernel, ⟨by decide +kernel, by decide +kernel⟩, by decide⟩
theorem wm_R_head : Cond.instanceMethod (xm_y m_R_head) ∈ tb_all := tb_in (List.mem_append_right _ (List.mem_of_getElem? (i := 130) (by decide +kernel))) rfl
theorem we_R_head : Cond.selects (xm_y m_R_head).cls (xm_y m_R_head) (xm_y m_R_head) ∈ tb_all := tb_in (List.mem_append_right _ (List.mem_of_getElem? (i := 131) (by decide +kernel))) rfl
theorem ok_H_hasSnapshot : xm_ok m_H_hasSnapshot := ⟨tb_in (List.mem_append_right _ (List.mem_of_getElem? (i := 136) (by decide +kernel))) rfl, wi_H, by decide +kernel, ⟨by decide +kernel, by decide +kernel⟩, by decide⟩
theorem wm_H_hasSnapshot : Cond.instanceMethod (xm_y m_H_hasSnapshot) ∈ tb_all := tb_in (List.mem_append_right _ (List.mem_of_getElem? (i := 134) (by decide +kernel))) rfl
theorem we_H_hasSnapshot : Cond.selects (xm_y m_H_hasSnapshot).cls (xm_y m_H_hasSnapshot) (xm_y m_H_hasSnapshot) ∈ tb_all := tb_in (List.mem_append_right _ (List.mem_of_getElem? (i := 135) (by decide +kernel))) rfl
theorem ok_H_textOf : xm_ok m_H_textOf := ⟨tb_in (List.mem_append_right _ (List.mem_of_getElem? (i := 140) (by decide +kernel))) rfl, wi_H, by decide +kernel, ⟨by decide +kernel, by decide +kernel⟩, by decide⟩
theorem wm_H_textOf : Cond.instanceMethod (xm_y m_H_textOf) ∈ tb_all := tb_in (List.mem_append_right _ (List.mem_of_getElem? (i := 138) (by decide +kernel))) rfl
theorem we_H_textOf : Cond.selects (xm_y m_H_textOf).cls (xm_y m_H_textOf) (xm_y m_H_textOf) ∈ tb_all := tb_in (List.mem_append_right _ (List.mem_of_getElem? (i := 139) (by decide +kernel))) rfl
theorem ok_H_isMade : xm_ok m_H_isMade := ⟨tb_in (List.mem_append_right _ (List.mem_of_getElem? (i := 144) (by decide +kernel))) rfl, wi_H, by decide +kernel, ⟨by decide +kernel, by decide +kernel⟩, by decide⟩
theorem wm_H_isMade : Cond.instanceMethod (xm_y m_H_isMade) ∈ tb_all := tb_in (List.mem_append_right _ (List.mem_of_getElem? (i := 142) (by decide +kernel))) rfl
theorem we_H_isMade : Cond.selects (xm_y m_H_isMade).cls (xm_y m_H_isMade) (xm_y m_H_isMade) ∈ tb_all := tb_in (List.mem_append_right _ (List.mem_of_getElem? (i := 143) (by decide +kernel))) rfl
theorem ok_H_add : xm_ok m_H_add := ⟨tb_in (List.mem_append_right _ (List.mem_of_getElem? (i := 149) (by decide +kernel))) rfl, wi_H, by decide +kernel, ⟨by decide +kernel, by decide +kernel⟩, by decide⟩
theorem wm_H_add : Cond.instanceMethod (xm_y m_H_add) ∈ tb_all := tb_in (List.mem_append_right _ (List.mem_of_getElem? (i := 147) (by decide +kernel))) rfl
theorem we_H_add : Cond.selects (xm_y m_H_add).cls (xm_y m_H_add) (xm_y m_H_add) ∈ tb_all := tb_in (List.mem_append_right _ (List.mem_of_getElem? (i := 148) (by decide +kernel))) rfl
theorem ok_H_reachOf : xm_ok m_H_reachOf := ⟨tb_in (List.mem_append_right _ (List.mem_of_getElem? (i := 153) (by decide +kernel))) rfl, wi_H, by decide +kernel, ⟨by decide +kernel, by decide +kernel⟩, by decide⟩
theorem wm_H_reachOf : Cond.instanceMethod (xm_y m_H_reachOf) ∈ tb_all := tb_in (List.mem_append_right _ (List.mem_of_getElem? (i := 151) (by decide +kernel))) rfl
theorem we_H_reachOf : Cond.selects (xm_y m_H_reachOf).cls (xm_y m_H_reachOf) (xm_y m_H_reachOf) ∈ tb_all := tb_in (List.mem_append_right _ (List.mem_of_getElem? (i := 152) (by decide +kernel))) rfl
theorem ok_V_branch : xm_ok m_V_branch := ⟨tb_in (List.mem_append_right _ (List.mem_of_getElem? (i := 158) (by decide +kernel))) rfl, wi_V, by decide +kernel, ⟨by decide +kernel, by decide +kernel⟩, by decide⟩
theorem wm_V_branch : Cond.instanceMethod (xm_y m_V_branch) ∈ tb_all := tb_in (List.mem_append_right _ (List.mem_of_getElem? (i := 156) (by decide +kernel))) rfl
theorem we_V_branch : Cond.selects (xm_y m_V_branch).cls (xm_y m_V_branch) (xm_y m_V_branch) ∈ tb_all := tb_in (List.mem_append_right _ (List.mem_of_getElem? (i := 157) (by decide +kernel))) rfl
theorem ok_V_isBranch : xm_ok m_V_isBranch := ⟨tb_in (List.mem_append_right _ (List.mem_of_getElem? (i := 161) (by decide +kernel))) rfl, wi_V, by decide +kernel, ⟨by decide +kernel, by decide +kernel⟩, by decide⟩
theorem wt_V_isBranch : Cond.static (xm_y m_V_isBranch) ∈ tb_all := tb_in (List.mem_append_right _ (List.mem_of_getElem? (i := 160) (by decide +kernel))) rfl
theorem ok_V_drop : xm_ok m_V_drop := ⟨tb_in (List.mem_append_right _ (List.mem_of_getElem? (i := 165) (by decide +kernel))) rfl, wi_V, by decide +kernel, ⟨by decide +kernel, by decide +kernel⟩, by decide⟩
theorem wm_V_drop : Cond.instanceMethod (xm_y m_V_drop) ∈ tb_all := tb_in (List.mem_append_right _ (List.mem_of_getElem? (i := 163) (by decide +kernel))) rfl
theorem we_V_drop : Cond.selects (xm_y m_V_drop).cls (xm_y m_V_drop) (xm_y m_V_drop) ∈ tb_all := tb_in (List.mem_append_right _ (List.mem_of_getElem? (i := 164) (by decide +kernel))) rfl
theorem ok_V_checkout : xm_ok m_V_checkout := ⟨tb_in (List.mem_append_right _ (List.mem_of_getElem? (i := 169) (by decide +kernel))) rfl, wi_V, by decide +kernel, ⟨by decide +kernel, by decide +kernel⟩, by decide⟩
theorem wm_V_checkout : Cond.instanceMethod (xm_y m_V_checkout) ∈ tb_all := tb_in (List.mem_append_right _ (List.mem_of_getElem? (i := 167) (by decide +kernel))) rfl
theorem we_V_checkout : Cond.selects (xm_y m_V_checkout).cls (xm_y m_V_checkout) (xm_y m_V_checkout) ∈ tb_all := tb_in (List.mem_append_right _ (List.mem_of_getElem? (i := 168) (by decide +kernel))) rfl
theorem ok_V_isClean : xm_ok m_V_isClean := ⟨tb_in (List.mem_append_right _ (List.mem_of_getElem? (i := 173) (by decide +kernel))) rfl, wi_V, by decide +kernel, ⟨by decide +kernel, by decide +kernel⟩, by decide⟩
theorem wm_V_isClean : Cond.instanceMethod (xm_y m_V_isClean) ∈ tb_all := tb_in (List.mem_append_right _ (List.mem_of_getElem? (i := 172) (by decide +kernel))) rfl
theorem we_V_isClean : Cond.selects (xm_y m_V_isClean).cls (xm_y m_V_isClean) (xm_y m_V_isClean) ∈ tb_all := tb_in (List.mem_append_left _ (List.mem_of_getElem? (i := 0) (by decide +kernel))) rfl
theorem ok_V_moveTo : xm_ok m_V_moveTo := ⟨tb_in (List.mem_append_right _ (List.mem_of_getElem? (i := 177) (by decide +kernel))) rfl, wi_V, by decide +kernel, ⟨by decide +kernel, by decide +kernel⟩, by decide⟩
theorem wm_V_moveTo : Cond.instanceMethod (xm_y m_V_moveTo) ∈ tb_all := tb_in (List.mem_append_right _ (List.mem_of_getElem? (i := 176) (by decide +kernel))) rfl
theorem we_V_moveTo : Cond.selects (xm_y m_V_moveTo).cls (xm_y m_V_moveTo) (xm_y m_V_moveTo) ∈ tb_all := tb_in (List.mem_append_left _ (List.mem_of_getElem? (i := 1) (by decide +kernel))) rfl
theorem ok_H_copySnapshot : xm_ok m_H_copySnapshot := ⟨tb_in (List.mem_append_right _ (List.mem_of_getElem? (i := 181) (by decide +kernel))) rfl, wi_H, by decide +kernel, ⟨by decide +kernel, by decide +kernel⟩, by decide⟩
theorem wm_H_copySnapshot : Cond.instanceMethod (xm_y m_H_copySnapshot) ∈ tb_all := tb_in (List.mem_append_right _ (List.mem_of_getElem? (i := 179) (by decide +kernel))) rfl
theorem we_H_copySnapshot : Cond.selects (xm_y m_H_copySnapshot).cls (xm_y m_H_copySnapshot) (xm_y m_H_copySnapshot) ∈ tb_all := tb_in (List.mem_append_right _ (List.mem_of_getElem? (i := 180) (by decide +kernel))) rfl
theorem ok_V_merge : xm_ok m_V_merge := ⟨tb_in (List.mem_append_right _ (List.mem_of_getElem? (i := 185) (by decide +kernel))) rfl, wi_V, by decide +kernel, ⟨by decide +kernel, by decide +kernel⟩, by decide⟩
theorem wm_V_merge : Cond.instanceMethod (xm_y m_V_merge) ∈ tb_all := tb_in (List.mem_append_right _ (List.mem_of_getElem? (i := 183) (by decide +kernel))) rfl
theorem we_V_merge : Cond.selects (xm_y m_V_merge).cls (xm_y m_V_merge) (xm_y m_V_merge) ∈ tb_all := tb_in (List.mem_append_right _ (List.mem_of_getElem? (i := 184) (by decide +kernel))) rfl
theorem ok_V_refusalToChangeHead : xm_ok m_V_refusalToChangeHead := ⟨tb_in (List.mem_append_right _ (List.mem_of_getElem? (i := 189) (by decide +kernel))) rfl, wi_V, by decide +kernel, ⟨by decide +kernel, by decide +kernel⟩, by decide⟩
theorem wm_V_refusalToChangeHead : Cond.instanceMethod (xm_y m_V_refusalToChangeHead) ∈ tb_all := tb_in (List.mem_append_right _ (List.mem_of_getElem? (i := 188) (by decide +kernel))) rfl
theorem we_V_refusalToChangeHead : Cond.selects (xm_y m_V_refusalToChangeHead).cls (xm_y m_V_refusalToChangeHead) (xm_y m_V_refusalToChangeHead) ∈ tb_all := tb_in (List.mem_append_left _ (List.mem_of_getElem? (i := 2) (by decide +kernel))) rfl
theorem ok_H_reaches : xm_ok m_H_reaches := ⟨tb_in (List.mem_append_right _ (List.mem_of_getElem? (i := 193) (by decide +kernel))) rfl, wi_H, by decide +kernel, ⟨by decide +kernel, by decide +kernel⟩, by decide⟩
theorem wm_H_reaches : Cond.instanceMethod (xm_y m_H_reaches) ∈ tb_all := tb_in (List.mem_append_right _ (List.mem_of_getElem? (i := 191) (by decide +kernel))) rfl
theorem we_H_reaches : Cond.selects (xm_y m_H_reaches).cls (xm_y m_H_reaches) (xm_y m_H_reaches) ∈ tb_all := tb_in (List.mem_append_right _ (List.mem_of_getElem? (i := 192) (by decide +kernel))) rfl
theorem ok_H_isIn : xm_ok m_H_isIn := ⟨tb_in (List.mem_append_right _ (List.mem_of_getElem? (i := 196) (by decide +kernel))) rfl, wi_H, by decide +kernel, ⟨by decide +kernel, by decide +kernel⟩, by decide⟩
theorem wt_H_isIn : Cond.static (xm_y m_H_isIn) ∈ tb_all := tb_in (List.mem_append_right _ (List.mem_of_getElem? (i := 195) (by decide +kernel))) rfl
theorem ok_V_joinCommits : xm_ok m_V_joinCommits := ⟨tb_in (List.mem_append_right _ (List.mem_of_getElem? (i := 200) (by decide +kernel))) rfl, wi_V, by decide +kernel, ⟨by decide +kernel, by decide +kernel⟩, by decide⟩
theorem wm_V_joinCommits : Cond.instanceMethod (xm_y m_V_joinCommits) ∈ tb_all := tb_in (List.mem_append_right _ (List.mem_of_getElem? (i := 199) (by decide +kernel))) rfl
theorem we_V_joinCommits : Cond.selects (xm_y m_V_joinCommits).cls (xm_y m_V_joinCommits) (xm_y m_V_joinCommits) ∈ tb_all := tb_in (List.mem_append_left _ (List.mem_of_getElem? (i := 3) (by decide +kernel))) rfl
theorem ok_H_baseOf : xm_ok m_H_baseOf := ⟨tb_in (List.mem_append_right _ (List.mem_of_getElem? (i := 204) (by decide +kernel))) rfl, wi_H, by decide +kernel, ⟨by decide +kernel, by decide +kernel⟩, by decide⟩
theorem wm_H_baseOf : Cond.instanceMethod (xm_y m_H_baseOf) ∈ tb_all := tb_in (List.mem_append_right _ (List.mem_of_getElem? (i := 202) (by decide +kernel))) rfl
theorem we_H_baseOf : Cond.selects (xm_y m_H_baseOf).cls (xm_y m_H_baseOf) (xm_y m_H_baseOf) ∈ tb_all := tb_in (List.mem_append_right _ (List.mem_of_getElem? (i := 203) (by decide +kernel))) rfl
theorem ok_H_isReachedByLater : xm_ok m_H_isReachedByLater := ⟨tb_in (List.mem_append_right _ (List.mem_of_getElem? (i := 208) (by decide +kernel))) rfl, wi_H, by decide +kernel, ⟨by decide +kernel, by decide +kernel⟩, by decide⟩
theorem wm_H_isReachedByLater : Cond.instanceMethod (xm_y m_H_isReachedByLater) ∈ tb_all := tb_in (List.mem_append_right _ (List.mem_of_getElem? (i := 207) (by decide +kernel))) rfl
theorem we_H_isReachedByLater : Cond.selects (xm_y m_H_isReachedByLater).cls (xm_y m_H_isReachedByLater) (xm_y m_H_isReachedByLater) ∈ tb_all := tb_in (List.mem_append_left _ (List.mem_of_getElem? (i := 4) (by decide +kernel))) rfl
theorem ok_U_uniteSnapshots : xm_ok m_U_uniteSnapshots := ⟨tb_in (List.mem_append_right _ (List.mem_of_getElem? (i := 213) (by decide +kernel))) rfl, wi_U, by decide +kernel, ⟨by decide +kernel, by decide +kernel⟩, by decide⟩
theorem wm_U_uniteSnapshots : Cond.instanceMethod (xm_y m_U_uniteSnapshots) ∈ tb_all := tb_in (List.mem_append_right _ (List.mem_of_getElem? (i := 211) (by decide +kernel))) rfl
theorem we_U_uniteSnapshots : Cond.selects (xm_y m_U_uniteSnapshots).cls (xm_y m_U_uniteSnapshots) (xm_y m_U_uniteSnapshots) ∈ tb_all := tb_in (List.mem_append_right _ (List.mem_of_getElem? (i := 212) (by decide +kernel))) rfl
theorem ok_U_take : xm_ok m_U_take := ⟨tb_in (List.mem_append_right _ (List.mem_of_getElem? (i := 217) (by decide +kernel))) rfl, wi_U, by decide +kernel, ⟨by decide +kernel, by decide +kernel⟩, by decide⟩
theorem wt_U_take : Cond.static (xm_y m_U_take) ∈ tb_all := tb_in (List.mem_append_right _ (List.mem_of_getElem? (i := 216) (by decide +kernel))) rfl
theorem ok_U_uniteTexts : xm_ok m_U_uniteTexts := ⟨tb_in (List.mem_append_right _ (List.mem_of_getElem? (i := 223) (by decide +kernel))) rfl, wi_U, by decide +kernel, ⟨by decide +kernel, by decide +kernel⟩, by decide⟩
theorem wm_U_uniteTexts : Cond.instanceMethod (xm_y m_U_uniteTexts) ∈ tb_all := tb_in (List.mem_append_right _ (List.mem_of_getElem? (i := 222) (by decide +kernel))) rfl
theorem we_U_uniteTexts : Cond.selects (xm_y m_U_uniteTexts).cls (xm_y m_U_uniteTexts) (xm_y m_U_uniteTexts) ∈ tb_all := tb_in (List.mem_append_left _ (List.mem_of_getElem? (i := 5) (by decide +kernel))) rfl
theorem ok_U_countCommon : xm_ok m_U_countCommon := ⟨tb_in (List.mem_append_right _ (List.mem_of_getElem? (i := 227) (by decide +kernel))) rfl, wi_U, by decide +kernel, ⟨by decide +kernel, by decide +kernel⟩, by decide⟩
theorem wm_U_countCommon : Cond.instanceMethod (xm_y m_U_countCommon) ∈ tb_all := tb_in (List.mem_append_right _ (List.mem_of_getElem? (i := 226) (by decide +kernel))) rfl
theorem we_U_countCommon : Cond.selects (xm_y m_U_countCommon).cls (xm_y m_U_countCommon) (xm_y m_U_countCommon) ∈ tb_all := tb_in (List.mem_append_left _ (List.mem_of_getElem? (i := 6) (by decide +kernel))) rfl
theorem ok_T_countOf : xm_ok m_T_countOf := ⟨tb_in (List.mem_append_right _ (List.mem_of_getElem? (i := 230) (by decide +kernel))) rfl, wi_T, by decide +kernel, ⟨by decide +kernel, by decide +kernel⟩, by decide⟩
theorem wt_T_countOf : Cond.static (xm_y m_T_countOf) ∈ tb_all := tb_in (List.mem_append_right _ (List.mem_of_getElem? (i := 229) (by decide +kernel))) rfl
theorem ok_T_lineAt : xm_ok m_T_lineAt := ⟨tb_in (List.mem_append_right _ (List.mem_of_getElem? (i := 233) (by decide +kernel))) rfl, wi_T, by decide +kernel, ⟨by decide +kernel, by decide +kernel⟩, by decide⟩
theorem wt_T_lineAt : Cond.static (xm_y m_T_lineAt) ∈ tb_all := tb_in (List.mem_append_right _ (List.mem_of_getElem? (i := 232) (by decide +kernel))) rfl
theorem ok_U_matchLines : xm_ok m_U_matchLines := ⟨tb_in (List.mem_append_right _ (List.mem_of_getElem? (i := 241) (by decide +kernel))) rfl, wi_U, by decide +kernel, ⟨by decide +kernel, by decide +kernel⟩, by decide⟩
theorem wm_U_matchLines : Cond.instanceMethod (xm_y m_U_matchLines) ∈ tb_all := tb_in (List.mem_append_right _ (List.mem_of_getElem? (i := 240) (by decide +kernel))) rfl
theorem we_U_matchLines : Cond.selects (xm_y m_U_matchLines).cls (xm_y m_U_matchLines) (xm_y m_U_matchLines) ∈ tb_all := tb_in (List.mem_append_left _ (List.mem_of_getElem? (i := 7) (by decide +kernel))) rfl
theorem ok_T_piece : xm_ok m_T_piece := ⟨tb_in (List.mem_append_right _ (List.mem_of_getElem? (i := 244) (by decide +kernel))) rfl, wi_T, by decide +kernel, ⟨by decide +kernel, by decide +kernel⟩, by decide⟩
theorem wt_T_piece : Cond.static (xm_y m_T_piece) ∈ tb_all := tb_in (List.mem_append_right _ (List.mem_of_getElem? (i := 243) (by decide +kernel))) rfl
theorem ok_T_join : xm_ok m_T_join := ⟨tb_in (List.mem_append_right _ (List.mem_of_getElem? (i := 248) (by decide +kernel))) rfl, wi_T, by decide +kernel, ⟨by decide +kernel, by decide +kernel⟩, by decide⟩
theorem wt_T_join : Cond.static (xm_y m_T_join) ∈ tb_all := tb_in (List.mem_append_right _ (List.mem_of_getElem? (i := 247) (by decide +kernel))) rfl
theorem ok_V_pick : xm_ok m_V_pick := ⟨tb_in (List.mem_append_right _ (List.mem_of_getElem? (i := 255) (by decide +kernel))) rfl, wi_V, by decide +kernel, ⟨by decide +kernel, by decide +kernel⟩, by decide⟩
theorem wm_V_pick : Cond.instanceMethod (xm_y m_V_pick) ∈ tb_all := tb_in (List.mem_append_right _ (List.mem_of_getElem? (i := 253) (by decide +kernel))) rfl
theorem we_V_pick : Cond.selects (xm_y m_V_pick).cls (xm_y m_V_pick) (xm_y m_V_pick) ∈ tb_all := tb_in (List.mem_append_right _ (List.mem_of_getElem? (i := 254) (by decide +kernel))) rfl
theorem ok_V_isHeld : xm_ok m_V_isHeld := ⟨tb_in (List.mem_append_right _ (List.mem_of_getElem? (i := 259) (by decide +kernel))) rfl, wi_V, by decide +kernel, ⟨by decide +kernel, by decide +kernel⟩, by decide⟩
theorem wm_V_isHeld : Cond.instanceMethod (xm_y m_V_isHeld) ∈ tb_all := tb_in (List.mem_append_right _ (List.mem_of_getElem? (i := 258) (by decide +kernel))) rfl
theorem we_V_isHeld : Cond.selects (xm_y m_V_isHeld).cls (xm_y m_V_isHeld) (xm_y m_V_isHeld) ∈ tb_all := tb_in (List.mem_append_left _ (List.mem_of_getElem? (i := 8) (by decide +kernel))) rfl
theorem ok_V_doAgain : xm_ok m_V_doAgain := ⟨tb_in (List.mem_append_right _ (List.mem_of_getElem? (i := 265) (by decide +kernel))) rfl, wi_V, by decide +kernel, ⟨by decide +kernel, by decide +kernel⟩, by decide⟩
theorem wm_V_doAgain : Cond.instanceMethod (xm_y m_V_doAgain) ∈ tb_all := tb_in (List.mem_append_right _ (List.mem_of_getElem? (i := 264) (by decide +kernel))) rfl
theorem we_V_doAgain : Cond.selects (xm_y m_V_doAgain).cls (xm_y m_V_doAgain) (xm_y m_V_doAgain) ∈ tb_all := tb_in (List.mem_append_left _ (List.mem_of_getElem? (i := 9) (by decide +kernel))) rfl
theorem ok_H_secondParentOf : xm_ok m_H_secondParentOf := ⟨tb_in (List.mem_append_right _ (List.mem_of_getElem? (i := 269) (by decide +kernel))) rfl, wi_H, by decide +kernel, ⟨by decide +kernel, by decide +kernel⟩, by decide⟩
theorem wm_H_secondParentOf : Cond.instanceMethod (xm_y m_H_secondParentOf) ∈ tb_all := tb_in (List.mem_append_right _ (List.mem_of_getElem? (i := 267) (by decide +kernel))) rfl
theorem we_H_secondParentOf : Cond.selects (xm_y m_H_secondParentOf).cls (xm_y m_H_secondParentOf) (xm_y m_H_secondParentOf) ∈ tb_all := tb_in (List.mem_append_right _ (List.mem_of_getElem? (i := 268) (by decide +kernel))) rfl
theorem ok_H_firstParentOf : xm_ok m_H_firstParentOf := ⟨tb_in (List.mem_append_right _ (List.mem_of_getElem? (i := 273) (by decide +kernel))) rfl, wi_H, by decide +kernel, ⟨by decide +kernel, by decide +kernel⟩, by decide⟩
theorem wm_H_firstParentOf : Cond.instanceMethod (xm_y m_H_firstParentOf) ∈ tb_all := tb_in (List.mem_append_right _ (List.mem_of_getElem? (i := 271) (by decide +kernel))) rfl
theorem we_H_firstParentOf : Cond.selects (xm_y m_H_firstParentOf).cls (xm_y m_H_firstParentOf) (xm_y m_H_firstParentOf) ∈ tb_all := tb_in (List.mem_append_right _ (List.mem_of_getElem? (i := 272) (by decide +kernel))) rfl
theorem ok_V_rebase : xm_ok m_V_rebase := ⟨tb_in (List.mem_append_right _ (List.mem_of_getElem? (i := 277) (by decide +kernel))) rfl, wi_V, by decide +kernel, ⟨by decide +kernel, by decide +kernel⟩, by decide⟩
theorem wm_V_rebase : Cond.instanceMethod (xm_y m_V_rebase) ∈ tb_all := tb_in (List.mem_append_right _ (List.mem_of_getElem? (i := 275) (by decide +kernel))) rfl
theorem we_V_rebase : Cond.selects (xm_y m_V_rebase).cls (xm_y m_V_rebase) (xm_y m_V_rebase) ∈ tb_all := tb_in (List.mem_append_right _ (List.mem_of_getElem? (i := 276) (by decide +kernel))) rfl
theorem ok_V_doAllAgain : xm_ok m_V_doAllAgain := ⟨tb_in (List.mem_append_right _ (List.mem_of_getElem? (i := 282) (by decide +kernel))) rfl, wi_V, by decide +kernel, ⟨by decide +kernel, by decide +kernel⟩, by decide⟩
theorem wm_V_doAllAgain : Cond.instanceMethod (xm_y m_V_doAllAgain) ∈ tb_all := tb_in (List.mem_append_right _ (List.mem_of_getElem? (i := 281) (by decide +kernel))) rfl
theorem we_V_doAllAgain : Cond.selects (xm_y m_V_doAllAgain).cls (xm_y m_V_doAllAgain) (xm_y m_V_doAllAgain) ∈ tb_all := tb_in (List.mem_append_left _ (List.mem_of_getElem? (i := 10) (by decide +kernel))) rfl
theorem ok_H_cutBackTo : xm_ok m_H_cutBackTo := ⟨tb_in (List.mem_append_right _ (List.mem_of_getElem? (i := 286) (by decide +kernel))) rfl, wi_H, by decide +kernel, ⟨by decide +kernel, by decide +kernel⟩, by decide⟩
theorem wm_H_cutBackTo : Cond.instanceMethod (xm_y m_H_cutBackTo) ∈ tb_all := tb_in (List.mem_append_right _ (List.mem_of_getElem? (i := 284) (by decide +kernel))) rfl
theorem we_H_cutBackTo : Cond.selects (xm_y m_H_cutBackTo).cls (xm_y m_H_cutBackTo) (xm_y m_H_cutBackTo) ∈ tb_all := tb_in (List.mem_append_right _ (List.mem_of_getElem? (i := 285) (by decide +kernel))) rfl
theorem ok_V_collect : xm_ok m_V_collect := ⟨tb_in (List.mem_append_right _ (List.mem_of_getElem? (i := 290) (by decide +kernel))) rfl, wi_V, by decide +kernel, ⟨by decide +kernel, by decide +kernel⟩, by decide⟩
theorem wm_V_collect : Cond.instanceMethod (xm_y m_V_collect) ∈ tb_all := tb_in (List.mem_append_right _ (List.mem_of_getElem? (i := 288) (by decide +kernel))) rfl
theorem we_V_collect : Cond.selects (xm_y m_V_collect).cls (xm_y m_V_collect) (xm_y m_V_collect) ∈ tb_all := tb_in (List.mem_append_right _ (List.mem_of_getElem? (i := 289) (by decide +kernel))) rfl
theorem ok_J_bitCount : xm_ok m_J_bitCount := ⟨tb_in (List.mem_append_right _ (List.mem_of_getElem? (i := 293) (by decide +kernel))) rfl, wi_J, by decide +kernel, ⟨by decide +kernel, by decide +kernel⟩, by decide⟩
theorem wt_J_bitCount : Cond.static (xm_y m_J_bitCount) ∈ tb_all := tb_in (List.mem_append_right _ (List.mem_of_getElem? (i := 292) (by decide +kernel))) rfl
theorem ok_V_send : xm_ok m_V_send := ⟨tb_in (List.mem_append_right _ (List.mem_of_getElem? (i := 300) (by decide +kernel))) rfl, wi_V, by decide +kernel, ⟨by decide +kernel, by decide +kernel⟩, by decide⟩
theorem wm_V_send : Cond.instanceMethod (xm_y m_V_send) ∈ tb_all := tb_in (List.mem_append_right _ (List.mem_of_getElem? (i := 298) (by decide +kernel))) rfl
theorem we_V_send : Cond.selects (xm_y m_V_send).cls (xm_y m_V_send) (xm_y m_V_send) ∈ tb_all := tb_in (List.mem_append_right _ (List.mem_of_getElem? (i := 299) (by decide +kernel))) rfl
theorem ok_V_current : xm_ok m_V_current := ⟨tb_in (List.mem_append_right _ (List.mem_of_getElem? (i := 304) (by decide +kernel))) rfl, wi_V, by decide +kernel, ⟨by decide +kernel, by decide +kernel⟩, by decide⟩
theorem wm_V_current : Cond.instanceMethod (xm_y m_V_current) ∈ tb_all := tb_in (List.mem_append_right _ (List.mem_of_getElem? (i := 302) (by decide +kernel))) rfl
theorem we_V_current : Cond.selects (xm_y m_V_current).cls (xm_y m_V_current) (xm_y m_V_current) ∈ tb_all := tb_in (List.mem_append_right _ (List.mem_of_getElem? (i := 303) (by decide +kernel))) rfl
theorem ok_V_tip : xm_ok m_V_tip := ⟨tb_in (List.mem_append_right _ (List.mem_of_getElem? (i := 308) (by decide +kernel))) rfl, wi_V, by decide +kernel, ⟨by decide +kernel, by decide +kernel⟩, by decide⟩
theorem wm_V_tip : Cond.instanceMethod (xm_y m_V_tip) ∈ tb_all := tb_in (List.mem_append_right _ (List.mem_of_getElem? (i := 306) (by decide +kernel))) rfl
theorem we_V_tip : Cond.selects (xm_y m_V_tip).cls (xm_y m_V_tip) (xm_y m_V_tip) ∈ tb_all := tb_in (List.mem_append_right _ (List.mem_of_getElem? (i := 307) (by decide +kernel))) rfl
theorem ok_V_holds : xm_ok m_V_holds := ⟨tb_in (List.mem_append_right _ (List.mem_of_getElem? (i := 312) (by decide +kernel))) rfl, wi_V, by decide +kernel, ⟨by decide +kernel, by decide +kernel⟩, by decide⟩
theorem wm_V_holds : Cond.instanceMethod (xm_y m_V_holds) ∈ tb_all := tb_in (List.mem_append_right _ (List.mem_of_getElem? (i := 310) (by decide +kernel))) rfl
theorem we_V_holds : Cond.selects (xm_y m_V_holds).cls (xm_y m_V_holds) (xm_y m_V_holds) ∈ tb_all := tb_in (List.mem_append_right _ (List.mem_of_getElem? (i := 311) (by decide +kernel))) rfl
theorem ok_V_commits : xm_ok m_V_commits := ⟨tb_in (List.mem_append_right _ (List.mem_of_getElem? (i := 316) (by decide +kernel))) rfl, wi_V, by decide +kernel, ⟨by decide +kernel, by decide +kernel⟩, by decide⟩
theorem wm_V_commits : Cond.instanceMethod (xm_y m_V_commits) ∈ tb_all := tb_in (List.mem_append_right _ (List.mem_of_getElem? (i := 314) (by decide +kernel))) rfl
theorem we_V_commits : Cond.selects (xm_y m_V_commits).cls (xm_y m_V_commits) (xm_y m_V_commits) ∈ tb_all := tb_in (List.mem_append_right _ (List.mem_of_getElem? (i := 315) (by decide +kernel))) rfl
theorem ok_V_parent : xm_ok m_V_parent := ⟨tb_in (List.mem_append_right _ (List.mem_of_getElem? (i := 320) (by decide +kernel))) rfl, wi_V, by decide +kernel, ⟨by decide +kernel, by decide +kernel⟩, by decide⟩
theorem wm_V_parent : Cond.instanceMethod (xm_y m_V_parent) ∈ tb_all := tb_in (List.mem_append_right _ (List.mem_of_getElem? (i := 318) (by decide +kernel))) rfl
theorem we_V_parent : Cond.selects (xm_y m_V_parent).cls (xm_y m_V_parent) (xm_y m_V_parent) ∈ tb_all := tb_in (List.mem_append_right _ (List.mem_of_getElem? (i := 319) (by decide +kernel))) rfl
theorem ok_V_text : xm_ok m_V_text := ⟨tb_in (List.mem_append_right _ (List.mem_of_getElem? (i := 324) (by decide +kernel))) rfl, wi_V, by decide +kernel, ⟨by decide +kernel, by decide +kernel⟩, by decide⟩
theorem wm_V_text : Cond.instanceMethod (xm_y m_V_text) ∈ tb_all := tb_in (List.mem_append_right _ (List.mem_of_getElem? (i := 322) (by decide +kernel))) rfl
theorem we_V_text : Cond.selects (xm_y m_V_text).cls (xm_y m_V_text) (xm_y m_V_text) ∈ tb_all := tb_in (List.mem_append_right _ (List.mem_of_getElem? (i := 323) (by decide +kernel))) rfl
theorem ok_V_working : xm_ok m_V_working := ⟨tb_in (List.mem_append_right _ (List.mem_of_getElem? (i := 329) (by decide +kernel))) rfl, wi_V, by decide +kernel, ⟨by decide +kernel, by decide +kernel⟩, by decide⟩
theorem wm_V_working : Cond.instanceMethod (xm_y m_V_working) ∈ tb_all := tb_in (List.mem_append_right _ (List.mem_of_getElem? (i := 327) (by decide +kernel))) rfl
theorem we_V_working : Cond.selects (xm_y m_V_working).cls (xm_y m_V_working) (xm_y m_V_working) ∈ tb_all := tb_in (List.mem_append_right _ (List.mem_of_getElem? (i := 328) (by decide +kernel))) rfl
theorem ok_V_staged : xm_ok m_V_staged := ⟨tb_in (List.mem_append_right _ (List.mem_of_getElem? (i := 333) (by decide +kernel))) rfl, wi_V, by decide +kernel, ⟨by decide +kernel, by decide +kernel⟩, by decide⟩
theorem wm_V_staged : Cond.instanceMethod (xm_y m_V_staged) ∈ tb_all := tb_in (List.mem_append_right _ (List.mem_of_getElem? (i := 331) (by decide +kernel))) rfl
theorem we_V_staged : Cond.selects (xm_y m_V_staged).cls (xm_y m_V_staged) (xm_y m_V_staged) ∈ tb_all := tb_in (List.mem_append_right _ (List.mem_of_getElem? (i := 332) (by decide +kernel))) rfl
theorem ok_V_base : xm_ok m_V_base := ⟨tb_in (List.mem_append_right _ (List.mem_of_getElem? (i := 337) (by decide +kernel))) rfl, wi_V, by decide +kernel, ⟨by decide +kernel, by decide +kernel⟩, by decide⟩
theorem wm_V_base : Cond.instanceMethod (xm_y m_V_base) ∈ tb_all := tb_in (List.mem_append_right _ (List.mem_of_getElem? (i := 335) (by decide +kernel))) rfl
theorem we_V_base : Cond.selects (xm_y m_V_base).cls (xm_y m_V_base) (xm_y m_V_base) ∈ tb_all := tb_in (List.mem_append_right _ (List.mem_of_getElem? (i := 336) (by decide +kernel))) rfl
theorem ok_M_init : xm_ok m_M_init := ⟨tb_in (List.mem_append_right _ (List.mem_of_getElem? (i := 342) (by decide +kernel))) rfl, wi_M, by decide +kernel, ⟨by decide +kernel, by decide +kernel⟩, by decide⟩
theorem wm_M_init : Cond.instanceMethod (xm_y m_M_init) ∈ tb_all := tb_in (List.mem_append_right _ (List.mem_of_getElem? (i := 341) (by decide +kernel))) rfl
theorem ok_M_write : xm_ok m_M_write := ⟨tb_in (List.mem_append_right _ (List.mem_of_getElem? (i := 406) (by decide +kernel))) rfl, wi_M, by decide +kernel, ⟨by decide +kernel, by decide +kernel⟩, by decide⟩
theorem wm_M_write : Cond.instanceMethod (xm_y m_M_write) ∈ tb_all := tb_in (List.mem_append_right _ (List.mem_of_getElem? (i := 404) (by decide +kernel))) rfl
theorem we_M_write : Cond.selects (xm_y m_M_write).cls (xm_y m_M_write) (xm_y m_M_write) ∈ tb_all := tb_in (List.mem_append_right _ (List.mem_of_getElem? (i := 405) (by decide +kernel))) rfl
theorem ok_M_out : xm_ok m_M_out := ⟨tb_in (List.mem_append_right _ (List.mem_of_getElem? (i := 409) (by decide +kernel))) rfl, wi_M, by decide +kernel, ⟨by decide +kernel, by decide +kernel⟩, by decide⟩
theorem wt_M_out : Cond.static (xm_y m_M_out) ∈ tb_all := tb_in (List.mem_append_right _ (List.mem_of_getElem? (i := 408) (by decide +kernel))) rfl
theorem ok_M_remove : xm_ok m_M_remove := ⟨tb_in (List.mem_append_right _ (List.mem_of_getElem? (i := 414) (by decide +kernel))) rfl, wi_M, by decide +kernel, ⟨by decide +kernel, by decide +kernel⟩, by decide⟩
theorem wm_M_remove : Cond.instanceMethod (xm_y m_M_remove) ∈ tb_all := tb_in (List.mem_append_right _ (List.mem_of_getElem? (i := 412) (by decide +kernel))) rfl
theorem we_M_remove : Cond.selects (xm_y m_M_remove).cls (xm_y m_M_remove) (xm_y m_M_remove) ∈ tb_all := tb_in (List.mem_append_right _ (List.mem_of_getElem? (i := 413) (by decide +kernel))) rfl
theorem ok_M_stage : xm_ok m_M_stage := ⟨tb_in (List.mem_append_right _ (List.mem_of_getElem? (i := 418) (by decide +kernel))) rfl, wi_M, by decide +kernel, ⟨by decide +kernel, by decide +kernel⟩, by decide⟩
theorem wm_M_stage : Cond.instanceMethod (xm_y m_M_stage) ∈ tb_all := tb_in (List.mem_append_right _ (List.mem_of_getElem? (i := 416) (by decide +kernel))) rfl
theorem we_M_stage : Cond.selects (xm_y m_M_stage).cls (xm_y m_M_stage) (xm_y m_M_stage) ∈ tb_all := tb_in (List.mem_append_right _ (List.mem_of_getElem? (i := 417) (by decide +kernel))) rfl
theorem ok_M_commit : xm_ok m_M_commit := ⟨tb_in (List.mem_append_right _ (List.mem_of_getElem? (i := 422) (by decide +kernel))) rfl, wi_M, by decide +kernel, ⟨by decide +kernel, by decide +kernel⟩, by decide⟩
theorem wm_M_commit : Cond.instanceMethod (xm_y m_M_commit) ∈ tb_all := tb_in (List.mem_append_right _ (List.mem_of_getElem? (i := 420) (by decide +kernel))) rfl
theorem we_M_commit : Cond.selects (xm_y m_M_commit).cls (xm_y m_M_commit) (xm_y m_M_commit) ∈ tb_all := tb_in (List.mem_append_right _ (List.mem_of_getElem? (i := 421) (by decide +kernel))) rfl
theorem ok_M_sameAsHead : xm_ok m_M_sameAsHead := ⟨tb_in (List.mem_append_right _ (List.mem_of_getElem? (i := 426) (by decide +kernel))) rfl, wi_M, by decide +kernel, ⟨by decide +kernel, by decide +kernel⟩, by decide⟩
theorem wm_M_sameAsHead : Cond.instanceMethod (xm_y m_M_sameAsHead) ∈ tb_all := tb_in (List.mem_append_right _ (List.mem_of_getElem? (i := 425) (by decide +kernel))) rfl
theorem we_M_sameAsHead : Cond.selects (xm_y m_M_sameAsHead).cls (xm_y m_M_sameAsHead) (xm_y m_M_sameAsHead) ∈ tb_all := tb_in (List.mem_append_left _ (List.mem_of_getElem? (i := 11) (by decide +kernel))) rfl
theorem ok_M_head : xm_ok m_M_head := ⟨tb_in (List.mem_append_right _ (List.mem_of_getElem? (i := 430) (by decide +kernel))) rfl, wi_M, by decide +kernel, ⟨by decide +kernel, by decide +kernel⟩, by decide⟩
theorem wm_M_head : Cond.instanceMethod (xm_y m_M_head) ∈ tb_all := tb_in (List.mem_append_right _ (List.mem_of_getElem? (i := 429) (by decide +kernel))) rfl
theorem we_M_head : Cond.selects (xm_y m_M_head).cls (xm_y m_M_head) (xm_y m_M_head) ∈ tb_all := tb_in (List.mem_append_left _ (List.mem_of_getElem? (i := 12) (by decide +kernel))) rfl
theorem ok_M_textOf : xm_ok m_M_textOf := ⟨tb_in (List.mem_append_right _ (List.mem_of_getElem? (i := 434) (by decide +kernel))) rfl, wi_M, by decide +kernel, ⟨by decide +kernel, by decide +kernel⟩, by decide⟩
theorem wm_M_textOf : Cond.instanceMethod (xm_y m_M_textOf) ∈ tb_all := tb_in (List.mem_append_right _ (List.mem_of_getElem? (i := 433) (by decide +kernel))) rfl
theorem we_M_textOf : Cond.selects (xm_y m_M_textOf).cls (xm_y m_M_textOf) (xm_y m_M_textOf) ∈ tb_all := tb_in (List.mem_append_left _ (List.mem_of_getElem? (i := 13) (by decide +kernel))) rfl
theorem ok_M_make : xm_ok m_M_make := ⟨tb_in (List.mem_append_right _ (List.mem_of_getElem? (i := 438) (by decide +kernel))) rfl, wi_M, by decide +kernel, ⟨by decide +kernel, by decide +kernel⟩, by decide⟩
theorem wm_M_make : Cond.instanceMethod (xm_y m_M_make) ∈ tb_all := tb_in (List.mem_append_right _ (List.mem_of_getElem? (i := 437) (by decide +kernel))) rfl
theorem we_M_make : Cond.selects (xm_y m_M_make).cls (xm_y m_M_make) (xm_y m_M_make) ∈ tb_all := tb_in (List.mem_append_left _ (List.mem_of_getElem? (i := 14) (by decide +kernel))) rfl
theorem ok_M_branch : xm_ok m_M_branch := ⟨tb_in (List.mem_append_right _ (List.mem_of_getElem? (i := 442) (by decide +kernel))) rfl, wi_M, by decide +kernel, ⟨by decide +kernel, by decide +kernel⟩, by decide⟩
theorem wm_M_branch : Cond.instanceMethod (xm_y m_M_branch) ∈ tb_all := tb_in (List.mem_append_right _ (List.mem_of_getElem? (i := 440) (by decide +kernel))) rfl
theorem we_M_branch : Cond.selects (xm_y m_M_branch).cls (xm_y m_M_branch) (xm_y m_M_branch) ∈ tb_all := tb_in (List.mem_append_right _ (List.mem_of_getElem? (i := 441) (by decide +kernel))) rfl
theorem ok_M_there : xm_ok m_M_there := ⟨tb_in (List.mem_append_right _ (List.mem_of_getElem? (i := 446) (by decide +kernel))) rfl, wi_M, by decide +kernel, ⟨by decide +kernel, by decide +kernel⟩, by decide⟩
theorem wm_M_there : Cond.instanceMethod (xm_y m_M_there) ∈ tb_all := tb_in (List.mem_append_right _ (List.mem_of_getElem? (i := 445) (by decide +kernel))) rfl
theorem we_M_there : Cond.selects (xm_y m_M_there).cls (xm_y m_M_there) (xm_y m_M_there) ∈ tb_all := tb_in (List.mem_append_left _ (List.mem_of_getElem? (i := 15) (by decide +kernel))) rfl
theorem ok_M_drop : xm_ok m_M_drop := ⟨tb_in (List.mem_append_right _ (List.mem_of_getElem? (i := 450) (by decide +kernel))) rfl, wi_M, by decide +kernel, ⟨by decide +kernel, by decide +kernel⟩, by decide⟩
theorem wm_M_drop : Cond.instanceMethod (xm_y m_M_drop) ∈ tb_all := tb_in (List.mem_append_right _ (List.mem_of_getElem? (i := 448) (by decide +kernel))) rfl
theorem we_M_drop : Cond.selects (xm_y m_M_drop).cls (xm_y m_M_drop) (xm_y m_M_drop) ∈ tb_all := tb_in (List.mem_append_right _ (List.mem_of_getElem? (i := 449) (by decide +kernel))) rfl
theorem ok_M_checkout : xm_ok m_M_checkout := ⟨tb_in (List.mem_append_right _ (List.mem_of_getElem? (i := 454) (by decide +kernel))) rfl, wi_M, by decide +kernel, ⟨by decide +kernel, by decide +kernel⟩, by decide⟩
theorem wm_M_checkout : Cond.instanceMethod (xm_y m_M_checkout) ∈ tb_all := tb_in (List.mem_append_right _ (List.mem_of_getElem? (i := 452) (by decide +kernel))) rfl
theorem we_M_checkout : Cond.selects (xm_y m_M_checkout).cls (xm_y m_M_checkout) (xm_y m_M_checkout) ∈ tb_all := tb_in (List.mem_append_right _ (List.mem_of_getElem? (i := 453) (by decide +kernel))) rfl
theorem ok_M_dirty : xm_ok m_M_dirty := ⟨tb_in (List.mem_append_right _ (List.mem_of_getElem? (i := 458) (by decide +kernel))) rfl, wi_M, by decide +kernel, ⟨by decide +kernel, by decide +kernel⟩, by decide⟩
theorem wm_M_dirty : Cond.instanceMethod (xm_y m_M_dirty) ∈ tb_all := tb_in (List.mem_append_right _ (List.mem_of_getElem? (i := 457) (by decide +kernel))) rfl
theorem we_M_dirty : Cond.selects (xm_y m_M_dirty).cls (xm_y m_M_dirty) (xm_y m_M_dirty) ∈ tb_all := tb_in (List.mem_append_left _ (List.mem_of_getElem? (i := 16) (by decide +kernel))) rfl
theorem ok_M_moveTo : xm_ok m_M_moveTo := ⟨tb_in (List.mem_append_right _ (List.mem_of_getElem? (i := 462) (by decide +kernel))) rfl, wi_M, by decide +kernel, ⟨by decide +kernel, by decide +kernel⟩, by decide⟩
theorem wm_M_moveTo : Cond.instanceMethod (xm_y m_M_moveTo) ∈ tb_all := tb_in (List.mem_append_right _ (List.mem_of_getElem? (i := 461) (by decide +kernel))) rfl
theorem we_M_moveTo : Cond.selects (xm_y m_M_moveTo).cls (xm_y m_M_moveTo) (xm_y m_M_moveTo) ∈ tb_all := tb_in (List.mem_append_left _ (List.mem_of_getElem? (i := 17) (by decide +kernel))) rfl
theorem ok_M_merge : xm_ok m_M_merge := ⟨tb_in (List.mem_append_right _ (List.mem_of_getElem? (i := 466) (by decide +kernel))) rfl, wi_M, by decide +kernel, ⟨by decide +kernel, by decide +kernel⟩, by decide⟩
theorem wm_M_merge : Cond.instanceMethod (xm_y m_M_merge) ∈ tb_all := tb_in (List.mem_append_right _ (List.mem_of_getElem? (i := 464) (by decide +kernel))) rfl
theorem we_M_merge : Cond.selects (xm_y m_M_merge).cls (xm_y m_M_merge) (xm_y m_M_merge) ∈ tb_all := tb_in (List.mem_append_right _ (List.mem_of_getElem? (i := 465) (by decide +kernel))) rfl
theorem ok_M_reaches : xm_ok m_M_reaches := ⟨tb_in (List.mem_append_right _ (List.mem_of_getElem? (i := 470) (by decide +kernel))) rfl, wi_M, by decide +kernel, ⟨by decide +kernel, by decide +kernel⟩, by decide⟩
theorem wm_M_reaches : Cond.instanceMethod (xm_y m_M_reaches) ∈ tb_all := tb_in (List.mem_append_right _ (List.mem_of_getElem? (i := 469) (by decide +kernel))) rfl
theorem we_M_reaches : Cond.selects (xm_y m_M_reaches).cls (xm_y m_M_reaches) (xm_y m_M_reaches) ∈ tb_all := tb_in (List.mem_append_left _ (List.mem_of_getElem? (i := 18) (by decide +kernel))) rfl
theorem ok_M_reached : xm_ok m_M_reached := ⟨tb_in (List.mem_append_right _ (List.mem_of_getElem? (i := 474) (by decide +kernel))) rfl, wi_M, by decide +kernel, ⟨by decide +kernel, by decide +kernel⟩, by decide⟩
theorem wm_M_reached : Cond.instanceMethod (xm_y m_M_reached) ∈ tb_all := tb_in (List.mem_append_right _ (List.mem_of_getElem? (i := 473) (by decide +kernel))) rfl
theorem we_M_reached : Cond.selects (xm_y m_M_reached).cls (xm_y m_M_reached) (xm_y m_M_reached) ∈ tb_all := tb_in (List.mem_append_left _ (List.mem_of_getElem? (i := 19) (by decide +kernel))) rfl
theorem ok_M_baseOf : xm_ok m_M_baseOf := ⟨tb_in (List.mem_append_right _ (List.mem_of_getElem? (i := 478) (by decide +kernel))) rfl, wi_M, by decide +kernel, ⟨by decide +kernel, by decide +kernel⟩, by decide⟩
theorem wm_M_baseOf : Cond.instanceMethod (xm_y m_M_baseOf) ∈ tb_all := tb_in (List.mem_append_right _ (List.mem_of_getElem? (i := 477) (by decide +kernel))) rfl
theorem we_M_baseOf : Cond.selects (xm_y m_M_baseOf).cls (xm_y m_M_baseOf) (xm_y m_M_baseOf) ∈ tb_all := tb_in (List.mem_append_left _ (List.mem_of_getElem? (i := 20) (by decide +kernel))) rfl
theorem ok_M_unite : xm_ok m_M_unite := ⟨tb_in (List.mem_append_right _ (List.mem_of_getElem? (i := 482) (by decide +kernel))) rfl, wi_M, by decide +kernel, ⟨by decide +kernel, by decide +kernel⟩, by decide⟩
theorem wm_M_unite : Cond.instanceMethod (xm_y m_M_unite) ∈ tb_all := tb_in (List.mem_append_right _ (List.mem_of_getElem? (i := 481) (by decide +kernel))) rfl
theorem we_M_unite : Cond.selects (xm_y m_M_unite).cls (xm_y m_M_unite) (xm_y m_M_unite) ∈ tb_all := tb_in (List.mem_append_left _ (List.mem_of_getElem? (i := 21) (by decide +kernel))) rfl
theorem ok_M_uniteTexts : xm_ok m_M_uniteTexts := ⟨tb_in (List.mem_append_right _ (List.mem_of_getElem? (i := 487) (by decide +kernel))) rfl, wi_M, by decide +kernel, ⟨by decide +kernel, by decide +kernel⟩, by decide⟩
theorem wm_M_uniteTexts : Cond.instanceMethod (xm_y m_M_uniteTexts) ∈ tb_all := tb_in (List.mem_append_right _ (List.mem_of_getElem? (i := 486) (by decide +kernel))) rfl
theorem we_M_uniteTexts : Cond.selects (xm_y m_M_uniteTexts).cls (xm_y m_M_uniteTexts) (xm_y m_M_uniteTexts) ∈ tb_all := tb_in (List.mem_append_left _ (List.mem_of_getElem? (i := 22) (by decide +kernel))) rfl
theorem ok_M_size : xm_ok m_M_size := ⟨tb_in (List.mem_append_right _ (List.mem_of_getElem? (i := 490) (by decide +kernel))) rfl, wi_M, by decide +kernel, ⟨by decide +kernel, by decide +kernel⟩, by decide⟩
theorem wt_M_size : Cond.static (xm_y m_M_size) ∈ tb_all := tb_in (List.mem_append_right _ (List.mem_of_getElem? (i := 489) (by decide +kernel))) rfl
theorem ok_M_matched : xm_ok m_M_matched := ⟨tb_in (List.mem_append_right _ (List.mem_of_getElem? (i := 494) (by decide +kernel))) rfl, wi_M, by decide +kernel, ⟨by decide +kernel, by decide +kernel⟩, by decide⟩
theorem wm_M_matched : Cond.instanceMethod (xm_y m_M_matched) ∈ tb_all := tb_in (List.mem_append_right _ (List.mem_of_getElem? (i := 493) (by decide +kernel))) rfl
theorem we_M_matched : Cond.selects (xm_y m_M_matched).cls (xm_y m_M_matched) (xm_y m_M_matched) ∈ tb_all := tb_in (List.mem_append_left _ (List.mem_of_getElem? (i := 23) (by decide +kernel))) rfl
theorem ok_M_subsequences : xm_ok m_M_subsequences := ⟨tb_in (List.mem_append_right _ (List.mem_of_getElem? (i := 498) (by decide +kernel))) rfl, wi_M, by decide +kernel, ⟨by decide +kernel, by decide +kernel⟩, by decide⟩
theorem wm_M_subsequences : Cond.instanceMethod (xm_y m_M_subsequences) ∈ tb_all := tb_in (List.mem_append_right _ (List.mem_of_getElem? (i := 497) (by decide +kernel))) rfl
theorem we_M_subsequences : Cond.selects (xm_y m_M_subsequences).cls (xm_y m_M_subsequences) (xm_y m_M_subsequences) ∈ tb_all := tb_in (List.mem_append_left _ (List.mem_of_getElem? (i := 24) (by decide +kernel))) rfl
theorem ok_M_line : xm_ok m_M_line := ⟨tb_in (List.mem_append_right _ (List.mem_of_getElem? (i := 501) (by decide +kernel))) rfl, wi_M, by decide +kernel, ⟨by decide +kernel, by decide +kernel⟩, by decide⟩
theorem wt_M_line : Cond.static (xm_y m_M_line) ∈ tb_all := tb_in (List.mem_append_right _ (List.mem_of_getElem? (i := 500) (by decide +kernel))) rfl
theorem ok_M_equal : xm_ok m_M_equal := ⟨tb_in (List.mem_append_right _ (List.mem_of_getElem? (i := 504) (by decide +kernel))) rfl, wi_M, by decide +kernel, ⟨by decide +kernel, by decide +kernel⟩, by decide⟩
theorem wt_M_equal : Cond.static (xm_y m_M_equal) ∈ tb_all := tb_in (List.mem_append_right _ (List.mem_of_getElem? (i := 503) (by decide +kernel))) rfl
theorem ok_M_take : xm_ok m_M_take := ⟨tb_in (List.mem_append_right _ (List.mem_of_getElem? (i := 508) (by decide +kernel))) rfl, wi_M, by decide +kernel, ⟨by decide +kernel, by decide +kernel⟩, by decide⟩
theorem wm_M_take : Cond.instanceMethod (xm_y m_M_take) ∈ tb_all := tb_in (List.mem_append_right _ (List.mem_of_getElem? (i := 507) (by decide +kernel))) rfl
theorem we_M_take : Cond.selects (xm_y m_M_take).cls (xm_y m_M_take) (xm_y m_M_take) ∈ tb_all := tb_in (List.mem_append_left _ (List.mem_of_getElem? (i := 25) (by decide +kernel))) rfl
theorem ok_M_putJoined : xm_ok m_M_putJoined := ⟨tb_in (List.mem_append_right _ (List.mem_of_getElem? (i := 512) (by decide +kernel))) rfl, wi_M, by decide +kernel, ⟨by decide +kernel, by decide +kernel⟩, by decide⟩
theorem wm_M_putJoined : Cond.instanceMethod (xm_y m_M_putJoined) ∈ tb_all := tb_in (List.mem_append_right _ (List.mem_of_getElem? (i := 511) (by decide +kernel))) rfl
theorem we_M_putJoined : Cond.selects (xm_y m_M_putJoined).cls (xm_y m_M_putJoined) (xm_y m_M_putJoined) ∈ tb_all := tb_in (List.mem_append_left _ (List.mem_of_getElem? (i := 26) (by decide +kernel))) rfl
theorem ok_M_pick : xm_ok m_M_pick := ⟨tb_in (List.mem_append_right _ (List.mem_of_getElem? (i := 516) (by decide +kernel))) rfl, wi_M, by decide +kernel, ⟨by decide +kernel, by decide +kernel⟩, by decide⟩
theorem wm_M_pick : Cond.instanceMethod (xm_y m_M_pick) ∈ tb_all := tb_in (List.mem_append_right _ (List.mem_of_getElem? (i := 514) (by decide +kernel))) rfl
theorem we_M_pick : Cond.selects (xm_y m_M_pick).cls (xm_y m_M_pick) (xm_y m_M_pick) ∈ tb_all := tb_in (List.mem_append_right _ (List.mem_of_getElem? (i := 515) (by decide +kernel))) rfl
theorem ok_M_again : xm_ok m_M_again := ⟨tb_in (List.mem_append_right _ (List.mem_of_getElem? (i := 520) (by decide +kernel))) rfl, wi_M, by decide +kernel, ⟨by decide +kernel, by decide +kernel⟩, by decide⟩
theorem wm_M_again : Cond.instanceMethod (xm_y m_M_again) ∈ tb_all := tb_in (List.mem_append_right _ (List.mem_of_getElem? (i := 519) (by decide +kernel))) rfl
theorem we_M_again : Cond.selects (xm_y m_M_again).cls (xm_y m_M_again) (xm_y m_M_again) ∈ tb_all := tb_in (List.mem_append_left _ (List.mem_of_getElem? (i := 27) (by decide +kernel))) rfl
theorem ok_M_changedNothing : xm_ok m_M_changedNothing := ⟨tb_in (List.mem_append_right _ (List.mem_of_getElem? (i := 524) (by decide +kernel))) rfl, wi_M, by decide +kernel, ⟨by decide +kernel, by decide +kernel⟩, by decide⟩
theorem wm_M_changedNothing : Cond.instanceMethod (xm_y m_M_changedNothing) ∈ tb_all := tb_in (List.mem_append_right _ (List.mem_of_getElem? (i := 523) (by decide +kernel))) rfl
theorem we_M_changedNothing : Cond.selects (xm_y m_M_changedNothing).cls (xm_y m_M_changedNothing) (xm_y m_M_changedNothing) ∈ tb_all := tb_in (List.mem_append_left _ (List.mem_of_getElem? (i := 28) (by decide +kernel))) rfl
theorem ok_M_rebase : xm_ok m_M_rebase := ⟨tb_in (List.mem_append_right _ (List.mem_of_getElem? (i := 528) (by decide +kernel))) rfl, wi_M, by decide +kernel, ⟨by decide +kernel, by decide +kernel⟩, by decide⟩
theorem wm_M_rebase : Cond.instanceMethod (xm_y m_M_rebase) ∈ tb_all := tb_in (List.mem_append_right _ (List.mem_of_getElem? (i := 526) (by decide +kernel))) rfl
theorem we_M_rebase : Cond.selects (xm_y m_M_rebase).cls (xm_y m_M_rebase) (xm_y m_M_rebase) ∈ tb_all := tb_in (List.mem_append_right _ (List.mem_of_getElem? (i := 527) (by decide +kernel))) rfl
theorem ok_M_replay : xm_ok m_M_replay := ⟨tb_in (List.mem_append_right _ (List.mem_of_getElem? (i := 533) (by decide +kernel))) rfl, wi_M, by decide +kernel, ⟨by decide +kernel, by decide +kernel⟩, by decide⟩
theorem wm_M_replay : Cond.instanceMethod (xm_y m_M_replay) ∈ tb_all := tb_in (List.mem_append_right _ (List.mem_of_getElem? (i := 532) (by decide +kernel))) rfl
theorem we_M_replay : Cond.selects (xm_y m_M_replay).cls (xm_y m_M_replay) (xm_y m_M_replay) ∈ tb_all := tb_in (List.mem_append_left _ (List.mem_of_getElem? (i := 29) (by decide +kernel))) rfl
theorem ok_M_collect : xm_ok m_M_collect := ⟨tb_in (List.mem_append_right _ (List.mem_of_getElem? (i := 537) (by decide +kernel))) rfl, wi_M, by decide +kernel, ⟨by decide +kernel, by decide +kernel⟩, by decide⟩
theorem wm_M_collect : Cond.instanceMethod (xm_y m_M_collect) ∈ tb_all := tb_in (List.mem_append_right _ (List.mem_of_getElem? (i := 535) (by decide +kernel))) rfl
theorem we_M_collect : Cond.selects (xm_y m_M_collect).cls (xm_y m_M_collect) (xm_y m_M_collect) ∈ tb_all := tb_in (List.mem_append_right _ (List.mem_of_getElem? (i := 536) (by decide +kernel))) rfl
theorem ok_M_many : xm_ok m_M_many := ⟨tb_in (List.mem_append_right _ (List.mem_of_getElem? (i := 540) (by decide +kernel))) rfl, wi_M, by decide +kernel, ⟨by decide +kernel, by decide +kernel⟩, by decide⟩
theorem wt_M_many : Cond.static (xm_y m_M_many) ∈ tb_all := tb_in (List.mem_append_right _ (List.mem_of_getElem? (i := 539) (by decide +kernel))) rfl
theorem ok_M_send : xm_ok m_M_send := ⟨tb_in (List.mem_append_right _ (List.mem_of_getElem? (i := 544) (by decide +kernel))) rfl, wi_M, by decide +kernel, ⟨by decide +kernel, by decide +kernel⟩, by decide⟩
theorem wm_M_send : Cond.instanceMethod (xm_y m_M_send) ∈ tb_all := tb_in (List.mem_append_right _ (List.mem_of_getElem? (i := 542) (by decide +kernel))) rfl
theorem we_M_send : Cond.selects (xm_y m_M_send).cls (xm_y m_M_send) (xm_y m_M_send) ∈ tb_all := tb_in (List.mem_append_right _ (List.mem_of_getElem? (i := 543) (by decide +kernel))) rfl
theorem ok_M_current : xm_ok m_M_current := ⟨tb_in (List.mem_append_right _ (List.mem_of_getElem? (i := 548) (by decide +kernel))) rfl, wi_M, by decide +kernel, ⟨by decide +kernel, by decide +kernel⟩, by decide⟩
theorem wm_M_current : Cond.instanceMethod (xm_y m_M_current) ∈ tb_all := tb_in (List.mem_append_right _ (List.mem_of_getElem? (i := 546) (by decide +kernel))) rfl
theorem we_M_current : Cond.selects (xm_y m_M_current).cls (xm_y m_M_current) (xm_y m_M_current) ∈ tb_all := tb_in (List.mem_append_right _ (List.mem_of_getElem? (i := 547) (by decide +kernel))) rfl
theorem ok_M_tip : xm_ok m_M_tip := ⟨tb_in (List.mem_append_right _ (List.mem_of_getElem? (i := 552) (by decide +kernel))) rfl, wi_M, by decide +kernel, ⟨by decide +kernel, by decide +kernel⟩, by decide⟩
theorem wm_M_tip : Cond.instanceMethod (xm_y m_M_tip) ∈ tb_all := tb_in (List.mem_append_right _ (List.mem_of_getElem? (i := 550) (by decide +kernel))) rfl
theorem we_M_tip : Cond.selects (xm_y m_M_tip).cls (xm_y m_M_tip) (xm_y m_M_tip) ∈ tb_all := tb_in (List.mem_append_right _ (List.mem_of_getElem? (i := 551) (by decide +kernel))) rfl
theorem ok_M_holds : xm_ok m_M_holds := ⟨tb_in (List.mem_append_right _ (List.mem_of_getElem? (i := 556) (by decide +kernel))) rfl, wi_M, by decide +kernel, ⟨by decide +kernel, by decide +kernel⟩, by decide⟩
theorem wm_M_holds : Cond.instanceMethod (xm_y m_M_holds) ∈ tb_all := tb_in (List.mem_append_right _ (List.mem_of_getElem? (i := 554) (by decide +kernel))) rfl
theorem we_M_holds : Cond.selects (xm_y m_M_holds).cls (xm_y m_M_holds) (xm_y m_M_holds) ∈ tb_all := tb_in (List.mem_append_right _ (List.mem_of_getElem? (i := 555) (by decide +kernel))) rfl
theorem ok_M_commits : xm_ok m_M_commits := ⟨tb_in (List.mem_append_right _ (List.mem_of_getElem? (i := 560) (by decide +kernel))) rfl, wi_M, by decide +kernel, ⟨by decide +kernel, by decide +kernel⟩, by decide⟩
theorem wm_M_commits : Cond.instanceMethod (xm_y m_M_commits) ∈ tb_all := tb_in (List.mem_append_right _ (List.mem_of_getElem? (i := 558) (by decide +kernel))) rfl
theorem we_M_commits : Cond.selects (xm_y m_M_commits).cls (xm_y m_M_commits) (xm_y m_M_commits) ∈ tb_all := tb_in (List.mem_append_right _ (List.mem_of_getElem? (i := 559) (by decide +kernel))) rfl
theorem ok_M_parent : xm_ok m_M_parent := ⟨tb_in (List.mem_append_right _ (List.mem_of_getElem? (i := 564) (by decide +kernel))) rfl, wi_M, by decide +kernel, ⟨by decide +kernel, by decide +kernel⟩, by decide⟩
theorem wm_M_parent : Cond.instanceMethod (xm_y m_M_parent) ∈ tb_all := tb_in (List.mem_append_right _ (List.mem_of_getElem? (i := 562) (by decide +kernel))) rfl
theorem we_M_parent : Cond.selects (xm_y m_M_parent).cls (xm_y m_M_parent) (xm_y m_M_parent) ∈ tb_all := tb_in (List.mem_append_right _ (List.mem_of_getElem? (i := 563) (by decide +kernel))) rfl
theorem ok_M_text : xm_ok m_M_text := ⟨tb_in (List.mem_append_right _ (List.mem_of_getElem? (i := 568) (by decide +kernel))) rfl, wi_M, by decide +kernel, ⟨by decide +kernel, by decide +kernel⟩, by decide⟩
theorem wm_M_text : Cond.instanceMethod (xm_y m_M_text) ∈ tb_all := tb_in (List.mem_append_right _ (List.mem_of_getElem? (i := 566) (by decide +kernel))) rfl
theorem we_M_text : Cond.selects (xm_y m_M_text).cls (xm_y m_M_text) (xm_y m_M_text) ∈ tb_all := tb_in (List.mem_append_right _ (List.mem_of_getElem? (i := 567) (by decide +kernel))) rfl
theorem ok_M_working : xm_ok m_M_working := ⟨tb_in (List.mem_append_right _ (List.mem_of_getElem? (i := 572) (by decide +kernel))) rfl, wi_M, by decide +kernel, ⟨by decide +kernel, by decide +kernel⟩, by decide⟩
theorem wm_M_working : Cond.instanceMethod (xm_y m_M_working) ∈ tb_all := tb_in (List.mem_append_right _ (List.mem_of_getElem? (i := 570) (by decide +kernel))) rfl
theorem we_M_working : Cond.selects (xm_y m_M_working).cls (xm_y m_M_working) (xm_y m_M_working) ∈ tb_all := tb_in (List.mem_append_right _ (List.mem_of_getElem? (i := 571) (by decide +kernel))) rfl
theorem ok_M_staged : xm_ok m_M_staged := ⟨tb_in (List.mem_append_right _ (List.mem_of_getElem? (i := 576) (by decide +kernel))) rfl, wi_M, by decide +kernel, ⟨by decide +kernel, by decide +kernel⟩, by decide⟩
theorem wm_M_staged : Cond.instanceMethod (xm_y m_M_staged) ∈ tb_all := tb_in (List.mem_append_right _ (List.mem_of_getElem? (i := 574) (by decide +kernel))) rfl
theorem we_M_staged : Cond.selects (xm_y m_M_staged).cls (xm_y m_M_staged) (xm_y m_M_staged) ∈ tb_all := tb_in (List.mem_append_right _ (List.mem_of_getElem? (i := 575) (by decide +kernel))) rfl
theorem ok_M_base : xm_ok m_M_base := ⟨tb_in (List.mem_append_right _ (List.mem_of_getElem? (i := 580) (by decide +kernel))) rfl, wi_M, by decide +kernel, ⟨by decide +kernel, by decide +kernel⟩, by decide⟩
theorem wm_M_base : Cond.instanceMethod (xm_y m_M_base) ∈ tb_all := tb_in (List.mem_append_right _ (List.mem_of_getElem? (i := 578) (by decide +kernel))) rfl
theorem we_M_base : Cond.selects (xm_y m_M_base).cls (xm_y m_M_base) (xm_y m_M_base) ∈ tb_all := tb_in (List.mem_append_right _ (List.mem_of_getElem? (i := 579) (by decide +kernel))) rfl
theorem k_R_22 : Cond.constantLong "SnapshotVault$Repository" 22 (-2) ∈ tb_all := tb_in (List.mem_append_right _ (List.mem_of_getElem? (i := 49) (by decide +kernel))) rfl
theorem k_V_47 : Cond.constantLong "SnapshotVault" 47 (-2) ∈ tb_all := tb_in (List.mem_append_right _ (List.mem_of_getElem? (i := 120) (by decide +kernel))) rfl
theorem k_H_33 : Cond.constantLong "SnapshotVault$History" 33 (-2) ∈ tb_all := tb_in (List.mem_append_right _ (List.mem_of_getElem? (i := 145) (by decide +kernel))) rfl
theorem k_U_37 : Cond.constantLong "SnapshotVault$Uniter" 37 (-5) ∈ tb_all := tb_in (List.mem_append_right _ (List.mem_of_getElem? (i := 218) (by decide +kernel))) rfl
theorem k_U_39 : Cond.constantLong "SnapshotVault$Uniter" 39 (-2) ∈ tb_all := tb_in (List.mem_append_right _ (List.mem_of_getElem? (i := 219) (by decide +kernel))) rfl
theorem k_T_11 : Cond.constantLong "SnapshotVault$Texts" 11 (15) ∈ tb_all := tb_in (List.mem_append_right _ (List.mem_of_getElem? (i := 234) (by decide +kernel))) rfl
theorem k_T_17 : Cond.constantLong "SnapshotVault$Texts" 17 (-5) ∈ tb_all := tb_in (List.mem_append_right _ (List.mem_of_getElem? (i := 249) (by decide +kernel))) rfl
theorem k_T_23 : Cond.constantLong "SnapshotVault$Texts" 23 (4294967295) ∈ tb_all := tb_in (List.mem_append_right _ (List.mem_of_getElem? (i := 251) (by decide +kernel))) rfl
theorem k_V_109 : Cond.constantLong "SnapshotVault" 109 (-1) ∈ tb_all := tb_in (List.mem_append_right _ (List.mem_of_getElem? (i := 278) (by decide +kernel))) rfl
theorem k_J_314 : Cond.constantLong "java/lang/Long" 314 (6148914691236517205) ∈ tb_all := tb_in (List.mem_append_right _ (List.mem_of_getElem? (i := 294) (by decide +kernel))) rfl
theorem k_J_316 : Cond.constantLong "java/lang/Long" 316 (3689348814741910323) ∈ tb_all := tb_in (List.mem_append_right _ (List.mem_of_getElem? (i := 295) (by decide +kernel))) rfl
theorem k_J_318 : Cond.constantLong "java/lang/Long" 318 (1085102592571150095) ∈ tb_all := tb_in (List.mem_append_right _ (List.mem_of_getElem? (i := 296) (by decide +kernel))) rfl
theorem k_M_62 : Cond.constantLong "SnapshotVaultModel" 62 (-2) ∈ tb_all := tb_in (List.mem_append_right _ (List.mem_of_getElem? (i := 344) (by decide +kernel))) rfl
theorem k_M_64 : Cond.constantLong "SnapshotVaultModel" 64 (15) ∈ tb_all := tb_in (List.mem_append_right _ (List.mem_of_getElem? (i := 410) (by decide +kernel))) rfl
theorem k_M_94 : Cond.constantLong "SnapshotVaultModel" 94 (-5) ∈ tb_all := tb_in (List.mem_append_right _ (List.mem_of_getElem? (i := 483) (by decide +kernel))) rfl
theorem k_M_158 : Cond.constantLong "SnapshotVaultModel" 158 (-1) ∈ tb_all := tb_in (List.mem_append_right _ (List.mem_of_getElem? (i := 529) (by decide +kernel))) rfl
theorem k_L_13 : Cond.constantLong "SnapshotVaultLaw" 13 (4294967295) ∈ tb_all := tb_in (List.mem_append_right _ (List.mem_of_getElem? (i := 581) (by decide +kernel))) rfl
theorem g_H_9 : xm_gf "SnapshotVault$History" 9 0 0 := ⟨_, _, _, _, cl_H, by decide, Or.inl (tb_in (List.mem_append_right _ (List.mem_of_getElem? (i := 23) (by decide +kernel))) rfl)⟩
theorem p_H_9 : xm_pf (xm_y m_H_init) 9 0 0 (.array .long) := ⟨_, _, _, _, cl_H, by decide, Or.inl (tb_in (List.mem_append_right _ (List.mem_of_getElem? (i := 23) (by decide +kernel))) rfl), Or.inr ⟨rfl, rfl, rfl, tb_in (List.mem_append_right _ (List.mem_of_getElem? (i := 23) (by decide +kernel))) rfl⟩, rfl⟩
theorem g_H_15 : xm_gf "SnapshotVault$History" 15 0 1 := ⟨_, _, _, _, cl_H, by decide, Or.inl (tb_in (List.mem_append_right _ (List.mem_of_getElem? (i := 24) (by decide +kernel))) rfl)⟩
theorem p_H_15 : xm_pf (xm_y m_H_init) 15 0 1 (.array .int) := ⟨_, _, _, _, cl_H, by decide, Or.inl (tb_in (List.mem_append_right _ (List.mem_of_getElem? (i := 24) (by decide +kernel))) rfl), Or.inr ⟨rfl, rfl, rfl, tb_in (List.mem_append_right _ (List.mem_of_getElem? (i := 24) (by decide +kernel))) rfl⟩, rfl⟩
theorem g_H_19 : xm_gf "SnapshotVault$History" 19 0 2 := ⟨_, _, _, _, cl_H, by decide, Or.inl (tb_in (List.mem_append_right _ (List.mem_of_getElem? (i := 25) (by decide +kernel))) rfl)⟩
theorem p_H_19 : xm_pf (xm_y m_H_init) 19 0 2 (.array .int) := ⟨_, _, _, _, cl_H, by decide, Or.inl (tb_in (List.mem_append_right _ (List.mem_of_getElem? (i := 25) (by decide +kernel))) rfl), Or.inr ⟨rfl, rfl, rfl, tb_in (List.mem_append_right _ (List.mem_of_getElem? (i := 25) (by decide +kernel))) rfl⟩, rfl⟩
theorem g_H_22 : xm_gf "SnapshotVault$History" 22 0 3 := ⟨_, _, _, _, cl_H, by decide, Or.inl (tb_in (List.mem_append_right _ (List.mem_of_getElem? (i := 26) (by decide +kernel))) rfl)⟩
theorem p_H_22 : xm_pf (xm_y m_H_init) 22 0 3 (.array .long) := ⟨_, _, _, _, cl_H, by decide, Or.inl (tb_in (List.mem_append_right _ (List.mem_of_getElem? (i := 26) (by decide +kernel))) rfl), Or.inr ⟨rfl, rfl, rfl, tb_in (List.mem_append_right _ (List.mem_of_getElem? (i := 26) (by decide +kernel))) rfl⟩, rfl⟩
theorem g_H_25 : xm_gf "SnapshotVault$History" 25 0 4 := ⟨_, _, _, _, cl_H, by decide, Or.inl (tb_in (List.mem_append_right _ (List.mem_of_getElem? (i := 27) (by decide +kernel))) rfl)⟩
theorem p_H_25 (y : MethodName) (hy : y.cls = "SnapshotVault$History") : xm_pf y 25 0 4 (.int) := ⟨_, _, _, _, cl_H, by decide, by rw [hy]; exact Or.inl (tb_in (List.mem_append_right _ (List.mem_of_getElem? (i := 27) (by decide +kernel))) rfl), Or.inl rfl, rfl⟩
theorem g_R_9 : xm_gf "SnapshotVault$Repository" 9 1 0 := ⟨_, _, _, _, cl_R, by decide, Or.inl (tb_in (List.mem_append_right _ (List.mem_of_getElem? (i := 50) (by decide +kernel))) rfl)⟩
theorem p_R_9 : xm_pf (xm_y m_R_init) 9 1 0 (.array .int) := ⟨_, _, _, _, cl_R, by decide, Or.inl (tb_in (List.mem_append_right _ (List.mem_of_getElem? (i := 50) (by decide +kernel))) rfl), Or.inr ⟨rfl, rfl, rfl, tb_in (List.mem_append_right _ (List.mem_of_getElem? (i := 50) (by decide +kernel))) rfl⟩, rfl⟩
theorem g_R_15 : xm_gf "SnapshotVault$Repository" 15 1 1 := ⟨_, _, _, _, cl_R, by decide, Or.inl (tb_in (List.mem_append_right _ (List.mem_of_getElem? (i := 52) (by decide +kernel))) rfl)⟩
theorem p_R_15 : xm_pf (xm_y m_R_init) 15 1 1 (.array .long) := ⟨_, _, _, _, cl_R, by decide, Or.inl (tb_in (List.mem_append_right _ (List.mem_of_getElem? (i := 52) (by decide +kernel))) rfl), Or.inr ⟨rfl, rfl, rfl, tb_in (List.mem_append_right _ (List.mem_of_getElem? (i := 52) (by decide +kernel))) rfl⟩, rfl⟩
theorem g_R_19 : xm_gf "SnapshotVault$Repository" 19 1 2 := ⟨_, _, _, _, cl_R, by decide, Or.inl (tb_in (List.mem_append_right _ (List.mem_of_getElem? (i := 54) (by decide +kernel))) rfl)⟩
theorem p_R_19 : xm_pf (xm_y m_R_init) 19 1 2 (.array .long) := ⟨_, _, _, _, cl_R, by decide, Or.inl (tb_in (List.mem_append_right _ (List.mem_of_getElem? (i := 54) (by decide +kernel))) rfl), Or.inr ⟨rfl, rfl, rfl, tb_in (List.mem_append_right _ (List.mem_of_getElem? (i := 54) (by decide +kernel))) rfl⟩, rfl⟩
theorem g_R_24 : xm_gf "SnapshotVault$Repository" 24 1 3 := ⟨_, _, _, _, cl_R, by decide, Or.inl (tb_in (List.mem_append_right _ (List.mem_of_getElem? (i := 56) (by decide +kernel))) rfl)⟩
theorem p_R_24 (y : MethodName) (hy : y.cls = "SnapshotVault$Repository") : xm_pf y 24 1 3 (.long) := ⟨_, _, _, _, cl_R, by decide, by rw [hy]; exact Or.inl (tb_in (List.mem_append_right _ (List.mem_of_getElem? (i := 56) (by decide +kernel))) rfl), Or.inl rfl, rfl⟩
theorem g_R_28 : xm_gf "SnapshotVault$Repository" 28 1 4 := ⟨_, _, _, _, cl_R, by decide, Or.inl (tb_in (List.mem_append_right _ (List.mem_of_getElem? (i := 58) (by decide +kernel))) rfl)⟩
theorem p_R_28 (y : MethodName) (hy : y.cls = "SnapshotVault$Repository") : xm_pf y 28 1 4 (.int) := ⟨_, _, _, _, cl_R, by decide, by rw [hy]; exact Or.inl (tb_in (List.mem_append_right _ (List.mem_of_getElem? (i := 58) (by decide +kernel))) rfl), Or.inl rfl, rfl⟩
theorem g_U_9 : xm_gf "SnapshotVault$Uniter" 9 2 0 := ⟨_, _, _, _, cl_U, by decide, Or.inl (tb_in (List.mem_append_right _ (List.mem_of_getElem? (i := 79) (by decide +kernel))) rfl)⟩
theorem p_U_9 : xm_pf (xm_y m_U_init) 9 2 0 (.array .long) := ⟨_, _, _, _, cl_U, by decide, Or.inl (tb_in (List.mem_append_right _ (List.mem_of_getElem? (i := 79) (by decide +kernel))) rfl), Or.inr ⟨rfl, rfl, rfl, tb_in (List.mem_append_right _ (List.mem_of_getElem? (i := 79) (by decide +kernel))) rfl⟩, rfl⟩
theorem g_U_15 : xm_gf "SnapshotVault$Uniter" 15 2 1 := ⟨_, _, _, _, cl_U, by decide, Or.inl (tb_in (List.mem_append_right _ (List.mem_of_getElem? (i := 81) (by decide +kernel))) rfl)⟩
theorem p_U_15 : xm_pf (xm_y m_U_init) 15 2 1 (.array .int) := ⟨_, _, _, _, cl_U, by decide, Or.inl (tb_in (List.mem_append_right _ (List.mem_of_getElem? (i := 81) (by decide +kernel))) rfl), Or.inr ⟨rfl, rfl, rfl, tb_in (List.mem_append_right _ (List.mem_of_getElem? (i := 81) (by decide +kernel))) rfl⟩, rfl⟩
theorem g_U_19 : xm_gf "SnapshotVault$Uniter" 19 2 2 := ⟨_, _, _, _, cl_U, by decide, Or.inl (tb_in (List.mem_append_right _ (List.mem_of_getElem? (i := 82) (by decide +kernel))) rfl)⟩
theorem p_U_19 : xm_pf (xm_y m_U_init) 19 2 2 (.array .int) := ⟨_, _, _, _, cl_U, by decide, Or.inl (tb_in (List.mem_append_right _ (List.mem_of_getElem? (i := 82) (by decide +kernel))) rfl), Or.inr ⟨rfl, rfl, rfl, tb_in (List.mem_append_right _ (List.mem_of_getElem? (i := 82) (by decide +kernel))) rfl⟩, rfl⟩
theorem g_U_24 : xm_gf "SnapshotVault$Uniter" 24 2 3 := ⟨_, _, _, _, cl_U, by decide, Or.inl (tb_in (List.mem_append_right _ (List.mem_of_getElem? (i := 83) (by decide +kernel))) rfl)⟩
theorem p_U_24 : xm_pf (xm_y m_U_init) 24 2 3 (.array (.array .int)) := ⟨_, _, _, _, cl_U, by decide, Or.inl (tb_in (List.mem_append_right _ (List.mem_of_getElem? (i := 83) (by decide +kernel))) rfl), Or.inr ⟨rfl, rfl, rfl, tb_in (List.mem_append_right _ (List.mem_of_getElem? (i := 83) (by decide +kernel))) rfl⟩, rfl⟩
theorem g_V_10 : xm_gf "SnapshotVault" 10 3 0 := ⟨_, _, _, _, cl_V, by decide, Or.inl (tb_in (List.mem_append_right _ (List.mem_of_getElem? (i := 93) (by decide +kernel))) rfl)⟩
theorem p_V_10 : xm_pf (xm_y m_V_init) 10 3 0 (.object "SnapshotVault$History") := ⟨_, _, _, _, cl_V, by decide, Or.inl (tb_in (List.mem_append_right _ (List.mem_of_getElem? (i := 93) (by decide +kernel))) rfl), Or.inr ⟨rfl, rfl, rfl, tb_in (List.mem_append_right _ (List.mem_of_getElem? (i := 93) (by decide +kernel))) rfl⟩, rfl⟩
theorem g_V_18 : xm_gf "SnapshotVault" 18 3 1 := ⟨_, _, _, _, cl_V, by decide, Or.inl (tb_in (List.mem_append_right _ (List.mem_of_getElem? (i := 94) (by decide +kernel))) rfl)⟩
theorem p_V_18 : xm_pf (xm_y m_V_init) 18 3 1 (.array (.object "SnapshotVault$Repository")) := ⟨_, _, _, _, cl_V, by decide, Or.inl (tb_in (List.mem_append_right _ (List.mem_of_getElem? (i := 94) (by decide +kernel))) rfl), Or.inr ⟨rfl, rfl, rfl, tb_in (List.mem_append_right _ (List.mem_of_getElem? (i := 94) (by decide +kernel))) rfl⟩, rfl⟩
theorem g_V_26 : xm_gf "SnapshotVault" 26 3 2 := ⟨_, _, _, _, cl_V, by decide, Or.inl (tb_in (List.mem_append_right _ (List.mem_of_getElem? (i := 95) (by decide +kernel))) rfl)⟩
theorem p_V_26 : xm_pf (xm_y m_V_init) 26 3 2 (.object "SnapshotVault$Uniter") := ⟨_, _, _, _, cl_V, by decide, Or.inl (tb_in (List.mem_append_right _ (List.mem_of_getElem? (i := 95) (by decide +kernel))) rfl), Or.inr ⟨rfl, rfl, rfl, tb_in (List.mem_append_right _ (List.mem_of_getElem? (i := 95) (by decide +kernel))) rfl⟩, rfl⟩
theorem g_M_104 : xm_gf "SnapshotVaultModel" 104 4 0 := ⟨_, _, _, _, cl_M, by decide, Or.inl (tb_in (List.mem_append_right _ (List.mem_of_getElem? (i := 345) (by decide +kernel))) rfl)⟩
theorem p_M_104 (y : MethodName) (hy : y.cls = "SnapshotVaultModel") : xm_pf y 104 4 0 (.int) := ⟨_, _, _, _, cl_M, by decide, by rw [hy]; exact Or.inl (tb_in (List.mem_append_right _ (List.mem_of_getElem? (i := 345) (by decide +kernel))) rfl), Or.inl rfl, rfl⟩
theorem g_M_7 : xm_gf "SnapshotVaultModel" 7 4 1 := ⟨_, _, _, _, cl_M, by decide, Or.inl (tb_in (List.mem_append_right _ (List.mem_of_getElem? (i := 346) (by decide +kernel))) rfl)⟩
theorem p_M_7 : xm_pf (xm_y m_M_init) 7 4 1 (.array .long) := ⟨_, _, _, _, cl_M, by decide, Or.inl (tb_in (List.mem_append_right _ (List.mem_of_getElem? (i := 346) (by decide +kernel))) rfl), Or.inr ⟨rfl, rfl, rfl, tb_in (List.mem_append_right _ (List.mem_of_getElem? (i := 346) (by decide +kernel))) rfl⟩, rfl⟩
theorem g_M_13 : xm_gf "SnapshotVaultModel" 13 4 2 := ⟨_, _, _, _, cl_M, by decide, Or.inl (tb_in (List.mem_append_right _ (List.mem_of_getElem? (i := 347) (by decide +kernel))) rfl)⟩
theorem p_M_13 : xm_pf (xm_y m_M_init) 13 4 2 (.array .int) := ⟨_, _, _, _, cl_M, by decide, Or.inl (tb_in (List.mem_append_right _ (List.mem_of_getElem? (i := 347) (by decide +kernel))) rfl), Or.inr ⟨rfl, rfl, rfl, tb_in (List.mem_append_right _ (List.mem_of_getElem? (i := 347) (by decide +kernel))) rfl⟩, rfl⟩
theorem g_M_17 : xm_gf "SnapshotVaultModel" 17 4 3 := ⟨_, _, _, _, cl_M, by decide, Or.inl (tb_in (List.mem_append_right _ (List.mem_of_getElem? (i := 348) (by decide +kernel))) rfl)⟩
theorem p_M_17 : xm_pf (xm_y m_M_init) 17 4 3 (.array .int) := ⟨_, _, _, _, cl_M, by decide, Or.inl (tb_in (List.mem_append_right _ (List.mem_of_getElem? (i := 348) (by decide +kernel))) rfl), Or.inr ⟨rfl, rfl, rfl, tb_in (List.mem_append_right _ (List.mem_of_getElem? (i := 348) (by decide +kernel))) rfl⟩, rfl⟩
theorem g_M_20 : xm_gf "SnapshotVaultModel" 20 4 4 := ⟨_, _, _, _, cl_M, by decide, Or.inl (tb_in (List.mem_append_right _ (List.mem_of_getElem? (i := 349) (by decide +kernel))) rfl)⟩
theorem p_M_20 : xm_pf (xm_y m_M_init) 20 4 4 (.array .long) := ⟨_, _, _, _, cl_M, by decide, Or.inl (tb_in (List.mem_append_right _ (List.mem_of_getElem? (i := 349) (by decide +kernel))) rfl), Or.inr ⟨rfl, rfl, rfl, tb_in (List.mem_append_right _ (List.mem_of_getElem? (i := 349) (by decide +kernel))) rfl⟩, rfl⟩
theorem g_M_23 : xm_gf "SnapshotVaultModel" 23 4 5 := ⟨_, _, _, _, cl_M, by decide, Or.inl (tb_in (List.mem_append_right _ (List.mem_of_getElem? (i := 350) (by decide +kernel))) rfl)⟩
theorem p_M_23 : xm_pf (xm_y m_M_init) 23 4 5 (.array .int) := ⟨_, _, _, _, cl_M, by decide, Or.inl (tb_in (List.mem_append_right _ (List.mem_of_getElem? (i := 350) (by decide +kernel))) rfl), Or.inr ⟨rfl, rfl, rfl, tb_in (List.mem_append_right _ (List.mem_of_getElem? (i := 350) (by decide +kernel))) rfl⟩, rfl⟩
theorem g_M_26 : xm_gf "SnapshotVaultModel" 26 4 6 := ⟨_, _, _, _, cl_M, by decide, Or.inl (tb_in (List.mem_append_right _ (List.mem_of_getElem? (i := 351) (by decide +kernel))) rfl)⟩
theorem p_M_26 : xm_pf (xm_y m_M_init) 26 4 6 (.array .int) := ⟨_, _, _, _, cl_M, by decide, Or.inl (tb_in (List.mem_append_right _ (List.mem_of_getElem? (i := 351) (by decide +kernel))) rfl), Or.inr ⟨rfl, rfl, rfl, tb_in (List.mem_append_right _ (List.mem_of_getElem? (i := 351) (by decide +kernel))) rfl⟩, rfl⟩
theorem g_M_29 : xm_gf "SnapshotVaultModel" 29 4 7 := ⟨_, _, _, _, cl_M, by decide, Or.inl (tb_in (List.mem_append_right _ (List.mem_of_getElem? (i := 352) (by decide +kernel))) rfl)⟩
theorem p_M_29 : xm_pf (xm_y m_M_init) 29 4 7 (.array .long) := ⟨_, _, _, _, cl_M, by decide, Or.inl (tb_in (List.mem_append_right _ (List.mem_of_getElem? (i := 352) (by decide +kernel))) rfl), Or.inr ⟨rfl, rfl, rfl, tb_in (List.mem_append_right _ (List.mem_of_getElem? (i := 352) (by decide +kernel))) rfl⟩, rfl⟩
theorem g_M_32 : xm_gf "SnapshotVaultModel" 32 4 8 := ⟨_, _, _, _, cl_M, by decide, Or.inl (tb_in (List.mem_append_right _ (List.mem_of_getElem? (i := 353) (by decide +kernel))) rfl)⟩
theorem p_M_32 : xm_pf (xm_y m_M_init) 32 4 8 (.array .long) := ⟨_, _, _, _, cl_M, by decide, Or.inl (tb_in (List.mem_append_right _ (List.mem_of_getElem? (i := 353) (by decide +kernel))) rfl), Or.inr ⟨rfl, rfl, rfl, tb_in (List.mem_append_right _ (List.mem_of_getElem? (i := 353) (by decide +kernel))) rfl⟩, rfl⟩
theorem g_M_35 : xm_gf "SnapshotVaultModel" 35 4 9 := ⟨_, _, _, _, cl_M, by decide, Or.inl (tb_in (List.mem_append_right _ (List.mem_of_getElem? (i := 354) (by decide +kernel))) rfl)⟩
theorem p_M_35 : xm_pf (xm_y m_M_init) 35 4 9 (.array .long) := ⟨_, _, _, _, cl_M, by decide, Or.inl (tb_in (List.mem_append_right _ (List.mem_of_getElem? (i := 354) (by decide +kernel))) rfl), Or.inr ⟨rfl, rfl, rfl, tb_in (List.mem_append_right _ (List.mem_of_getElem? (i := 354) (by decide +kernel))) rfl⟩, rfl⟩
theorem g_M_38 : xm_gf "SnapshotVaultModel" 38 4 10 := ⟨_, _, _, _, cl_M, by decide, Or.inl (tb_in (List.mem_append_right _ (List.mem_of_getElem? (i := 355) (by decide +kernel))) rfl)⟩
theorem p_M_38 : xm_pf (xm_y m_M_init) 38 4 10 (.array .long) := ⟨_, _, _, _, cl_M, by decide, Or.inl (tb_in (List.mem_append_right _ (List.mem_of_getElem? (i := 355) (by decide +kernel))) rfl), Or.inr ⟨rfl, rfl, rfl, tb_in (List.mem_append_right _ (List.mem_of_getElem? (i := 355) (by decide +kernel))) rfl⟩, rfl⟩
theorem g_M_41 : xm_gf "SnapshotVaultModel" 41 4 11 := ⟨_, _, _, _, cl_M, by decide, Or.inl (tb_in (List.mem_append_right _ (List.mem_of_getElem? (i := 356) (by decide +kernel))) rfl)⟩
theorem p_M_41 : xm_pf (xm_y m_M_init) 41 4 11 (.array .long) := ⟨_, _, _, _, cl_M, by decide, Or.inl (tb_in (List.mem_append_right _ (List.mem_of_getElem? (i := 356) (by decide +kernel))) rfl), Or.inr ⟨rfl, rfl, rfl, tb_in (List.mem_append_right _ (List.mem_of_getElem? (i := 356) (by decide +kernel))) rfl⟩, rfl⟩
theorem g_M_44 : xm_gf "SnapshotVaultModel" 44 4 12 := ⟨_, _, _, _, cl_M, by decide, Or.inl (tb_in (List.mem_append_right _ (List.mem_of_getElem? (i := 357) (by decide +kernel))) rfl)⟩
theorem p_M_44 : xm_pf (xm_y m_M_init) 44 4 12 (.array .long) := ⟨_, _, _, _, cl_M, by decide, Or.inl (tb_in (List.mem_append_right _ (List.mem_of_getElem? (i := 357) (by decide +kernel))) rfl), Or.inr ⟨rfl, rfl, rfl, tb_in (List.mem_append_right _ (List.mem_of_getElem? (i := 357) (by decide +kernel))) rfl⟩, rfl⟩
theorem g_M_47 : xm_gf "SnapshotVaultModel" 47 4 13 := ⟨_, _, _, _, cl_M, by decide, Or.inl (tb_in (List.mem_append_right _ (List.mem_of_getElem? (i := 358) (by decide +kernel))) rfl)⟩
theorem p_M_47 : xm_pf (xm_y m_M_init) 47 4 13 (.array .int) := ⟨_, _, _, _, cl_M, by decide, Or.inl (tb_in (List.mem_append_right _ (List.mem_of_getElem? (i := 358) (by decide +kernel))) rfl), Or.inr ⟨rfl, rfl, rfl, tb_in (List.mem_append_right _ (List.mem_of_getElem? (i := 358) (by decide +kernel))) rfl⟩, rfl⟩
theorem g_M_50 : xm_gf "SnapshotVaultModel" 50 4 14 := ⟨_, _, _, _, cl_M, by decide, Or.inl (tb_in (List.mem_append_right _ (List.mem_of_getElem? (i := 359) (by decide +kernel))) rfl)⟩
theorem p_M_50 : xm_pf (xm_y m_M_init) 50 4 14 (.array .int) := ⟨_, _, _, _, cl_M, by decide, Or.inl (tb_in (List.mem_append_right _ (List.mem_of_getElem? (i := 359) (by decide +kernel))) rfl), Or.inr ⟨rfl, rfl, rfl, tb_in (List.mem_append_right _ (List.mem_of_getElem? (i := 359) (by decide +kernel))) rfl⟩, rfl⟩
theorem g_M_53 : xm_gf "SnapshotVaultModel" 53 4 15 := ⟨_, _, _, _, cl_M, by decide, Or.inl (tb_in (List.mem_append_right _ (List.mem_of_getElem? (i := 360) (by decide +kernel))) rfl)⟩
theorem p_M_53 : xm_pf (xm_y m_M_init) 53 4 15 (.array .int) := ⟨_, _, _, _, cl_M, by decide, Or.inl (tb_in (List.mem_append_right _ (List.mem_of_getElem? (i := 360) (by decide +kernel))) rfl), Or.inr ⟨rfl, rfl, rfl, tb_in (List.mem_append_right _ (List.mem_of_getElem? (i := 360) (by decide +kernel))) rfl⟩, rfl⟩
theorem g_M_78 : xm_gf "SnapshotVaultModel" 78 4 16 := ⟨_, _, _, _, cl_M, by decide, Or.inl (tb_in (List.mem_append_right _ (List.mem_of_getElem? (i := 361) (by decide +kernel))) rfl)⟩
theorem p_M_78 (y : MethodName) (hy : y.cls = "SnapshotVaultModel") : xm_pf y 78 4 16 (.int) := ⟨_, _, _, _, cl_M, by decide, by rw [hy]; exact Or.inl (tb_in (List.mem_append_right _ (List.mem_of_getElem? (i := 361) (by decide +kernel))) rfl), Or.inl rfl, rfl⟩
theorem g_M_56 : xm_gf "SnapshotVaultModel" 56 4 17 := ⟨_, _, _, _, cl_M, by decide, Or.inl (tb_in (List.mem_append_right _ (List.mem_of_getElem? (i := 362) (by decide +kernel))) rfl)⟩
theorem p_M_56 : xm_pf (xm_y m_M_init) 56 4 17 (.array .int) := ⟨_, _, _, _, cl_M, by decide, Or.inl (tb_in (List.mem_append_right _ (List.mem_of_getElem? (i := 362) (by decide +kernel))) rfl), Or.inr ⟨rfl, rfl, rfl, tb_in (List.mem_append_right _ (List.mem_of_getElem? (i := 362) (by decide +kernel))) rfl⟩, rfl⟩
theorem g_M_59 : xm_gf "SnapshotVaultModel" 59 4 18 := ⟨_, _, _, _, cl_M, by decide, Or.inl (tb_in (List.mem_append_right _ (List.mem_of_getElem? (i := 363) (by decide +kernel))) rfl)⟩
theorem p_M_59 : xm_pf (xm_y m_M_init) 59 4 18 (.array .long) := ⟨_, _, _, _, cl_M, by decide, Or.inl (tb_in (List.mem_append_right _ (List.mem_of_getElem? (i := 363) (by decide +kernel))) rfl), Or.inr ⟨rfl, rfl, rfl, tb_in (List.mem_append_right _ (List.mem_of_getElem? (i := 363) (by decide +kernel))) rfl⟩, rfl⟩
theorem g_V_111 : xm_gf "SnapshotVault" 111 0 4 := ⟨_, _, _, _, cl_H, by decide, Or.inr ⟨"SnapshotVault", tb_nin (List.mem_append_right _ (List.mem_of_getElem? (i := 28) (by decide +kernel))) rfl⟩⟩
theorem g_V_72 : xm_gf "SnapshotVault" 72 1 0 := ⟨_, _, _, _, cl_R, by decide, Or.inr ⟨"SnapshotVault", tb_nin (List.mem_append_right _ (List.mem_of_getElem? (i := 51) (by decide +kernel))) rfl⟩⟩
theorem g_V_37 : xm_gf "SnapshotVault" 37 1 1 := ⟨_, _, _, _, cl_R, by decide, Or.inr ⟨"SnapshotVault", tb_nin (List.mem_append_right _ (List.mem_of_getElem? (i := 53) (by decide +kernel))) rfl⟩⟩
theorem g_V_49 : xm_gf "SnapshotVault" 49 1 2 := ⟨_, _, _, _, cl_R, by decide, Or.inr ⟨"SnapshotVault", tb_nin (List.mem_append_right _ (List.mem_of_getElem? (i := 55) (by decide +kernel))) rfl⟩⟩
theorem g_V_64 : xm_gf "SnapshotVault" 64 1 3 := ⟨_, _, _, _, cl_R, by decide, Or.inr ⟨"SnapshotVault", tb_nin (List.mem_append_right _ (List.mem_of_getElem? (i := 57) (by decide +kernel))) rfl⟩⟩
theorem p_V_64 (y : MethodName) (hy : y.cls = "SnapshotVault") : xm_pf y 64 1 3 (.long) := ⟨_, _, _, _, cl_R, by decide, by rw [hy]; exact Or.inr ⟨"SnapshotVault", tb_nin (List.mem_append_right _ (List.mem_of_getElem? (i := 57) (by decide +kernel))) rfl⟩, Or.inl rfl, rfl⟩
theorem g_V_76 : xm_gf "SnapshotVault" 76 1 4 := ⟨_, _, _, _, cl_R, by decide, Or.inr ⟨"SnapshotVault", tb_nin (List.mem_append_right _ (List.mem_of_getElem? (i := 59) (by decide +kernel))) rfl⟩⟩
theorem p_V_76 (y : MethodName) (hy : y.cls = "SnapshotVault") : xm_pf y 76 1 4 (.int) := ⟨_, _, _, _, cl_R, by decide, by rw [hy]; exact Or.inr ⟨"SnapshotVault", tb_nin (List.mem_append_right _ (List.mem_of_getElem? (i := 59) (by decide +kernel))) rfl⟩, Or.inl rfl, rfl⟩
theorem g_V_157 : xm_gf "SnapshotVault" 157 2 0 := ⟨_, _, _, _, cl_U, by decide, Or.inr ⟨"SnapshotVault", tb_nin (List.mem_append_right _ (List.mem_of_getElem? (i := 80) (by decide +kernel))) rfl⟩⟩
theorem c_L_9 : xm_cn "SnapshotVaultLaw" 9 m_V_init 0 := ⟨ok_V_init, rfl, Or.inl (tb_in (List.mem_append_right _ (List.mem_of_getElem? (i := 11) (by decide +kernel))) rfl), rfl, wm_V_init, by unfold xm_np; decide +kernel⟩
theorem c_V_1 : xm_oi "SnapshotVault" 1 := ⟨tb_in (List.mem_append_right _ (List.mem_of_getElem? (i := 14) (by decide +kernel))) rfl, tb_in (List.mem_append_right _ (List.mem_of_getElem? (i := 15) (by decide +kernel))) rfl, tb_in (List.mem_append_right _ (List.mem_of_getElem? (i := 16) (by decide +kernel))) rfl⟩
theorem c_V_9 : xm_cn "SnapshotVault" 9 m_H_init 0 := ⟨ok_H_init, rfl, Or.inl (tb_in (List.mem_append_right _ (List.mem_of_getElem? (i := 19) (by decide +kernel))) rfl), rfl, wm_H_init, by unfold xm_np; decide +kernel⟩
theorem c_H_3 : xm_oi "SnapshotVault$History" 3 := ⟨tb_in (List.mem_append_right _ (List.mem_of_getElem? (i := 22) (by decide +kernel))) rfl, tb_in (List.mem_append_right _ (List.mem_of_getElem? (i := 15) (by decide +kernel))) rfl, tb_in (List.mem_append_right _ (List.mem_of_getElem? (i := 16) (by decide +kernel))) rfl⟩
theorem c_V_22 : xm_cn "SnapshotVault" 22 m_R_init 0 := ⟨ok_R_init, rfl, Or.inl (tb_in (List.mem_append_right _ (List.mem_of_getElem? (i := 45) (by decide +kernel))) rfl), rfl, wm_R_init, by unfold xm_np; decide +kernel⟩
theorem c_R_3 : xm_oi "SnapshotVault$Repository" 3 := ⟨tb_in (List.mem_append_right _ (List.mem_of_getElem? (i := 48) (by decide +kernel))) rfl, tb_in (List.mem_append_right _ (List.mem_of_getElem? (i := 15) (by decide +kernel))) rfl, tb_in (List.mem_append_right _ (List.mem_of_getElem? (i := 16) (by decide +kernel))) rfl⟩
theorem c_V_25 : xm_cn "SnapshotVault" 25 m_U_init 0 := ⟨ok_U_init, rfl, Or.inl (tb_in (List.mem_append_right _ (List.mem_of_getElem? (i := 73) (by decide +kernel))) rfl), rfl, wm_U_init, by unfold xm_np; decide +kernel⟩
theorem c_U_3 : xm_oi "SnapshotVault$Uniter" 3 := ⟨tb_in (List.mem_append_right _ (List.mem_of_getElem? (i := 76) (by decide +kernel))) rfl, tb_in (List.mem_append_right _ (List.mem_of_getElem? (i := 15) (by decide +kernel))) rfl, tb_in (List.mem_append_right _ (List.mem_of_getElem? (i := 16) (by decide +kernel))) rfl⟩
theorem c_L_15 : xm_cv "SnapshotVaultLaw" 15 m_V_write 4 3 := ⟨ok_V_write, Or.inl (tb_in (List.mem_append_right _ (List.mem_of_getElem? (i := 103) (by decide +kernel))) rfl), wm_V_write, we_V_write, by unfold xm_np; decide +kernel, _, _, _, _, cl_V, rfl⟩
theorem c_V_30 : xm_cs "SnapshotVault" 30 m_V_isRepository 1 := ⟨ok_V_isRepository, Or.inl (tb_in (List.mem_append_right _ (List.mem_of_getElem? (i := 107) (by decide +kernel))) rfl), wt_V_isRepository, by unfold xm_np; decide +kernel⟩
theorem c_V_34 : xm_cs "SnapshotVault" 34 m_V_isFile 1 := ⟨ok_V_isFile, Or.inl (tb_in (List.mem_append_right _ (List.mem_of_getElem? (i := 110) (by decide +kernel))) rfl), wt_V_isFile, by unfold xm_np; decide +kernel⟩
theorem c_V_41 : xm_cs "SnapshotVault" 41 m_T_pack 2 := ⟨ok_T_pack, Or.inl (tb_in (List.mem_append_right _ (List.mem_of_getElem? (i := 113) (by decide +kernel))) rfl), wt_T_pack, by unfold xm_np; decide +kernel⟩
theorem c_L_20 : xm_cv "SnapshotVaultLaw" 20 m_V_remove 2 3 := ⟨ok_V_remove, Or.inl (tb_in (List.mem_append_right _ (List.mem_of_getElem? (i := 116) (by decide +kernel))) rfl), wm_V_remove, we_V_remove, by unfold xm_np; decide +kernel, _, _, _, _, cl_V, rfl⟩
theorem c_L_25 : xm_cv "SnapshotVaultLaw" 25 m_V_stage 2 3 := ⟨ok_V_stage, Or.inl (tb_in (List.mem_append_right _ (List.mem_of_getElem? (i := 121) (by decide +kernel))) rfl), wm_V_stage, we_V_stage, by unfold xm_np; decide +kernel, _, _, _, _, cl_V, rfl⟩
theorem c_L_29 : xm_cv "SnapshotVaultLaw" 29 m_V_commit 1 3 := ⟨ok_V_commit, Or.inl (tb_in (List.mem_append_right _ (List.mem_of_getElem? (i := 125) (by decide +kernel))) rfl), wm_V_commit, we_V_commit, by unfold xm_np; decide +kernel, _, _, _, _, cl_V, rfl⟩
theorem c_V_52 : xm_cv "SnapshotVault" 52 m_R_head 0 1 := ⟨ok_R_head, Or.inl (tb_in (List.mem_append_right _ (List.mem_of_getElem? (i := 129) (by decide +kernel))) rfl), wm_R_head, we_R_head, by unfold xm_np; decide +kernel, _, _, _, _, cl_R, rfl⟩
theorem c_V_56 : xm_cv "SnapshotVault" 56 m_H_hasSnapshot 2 0 := ⟨ok_H_hasSnapshot, Or.inl (tb_in (List.mem_append_right _ (List.mem_of_getElem? (i := 133) (by decide +kernel))) rfl), wm_H_hasSnapshot, we_H_hasSnapshot, by unfold xm_np; decide +kernel, _, _, _, _, cl_H, rfl⟩
theorem c_H_35 : xm_cv "SnapshotVault$History" 35 m_H_textOf 2 0 := ⟨ok_H_textOf, Or.inl (tb_in (List.mem_append_right _ (List.mem_of_getElem? (i := 137) (by decide +kernel))) rfl), wm_H_textOf, we_H_textOf, by unfold xm_np; decide +kernel, _, _, _, _, cl_H, rfl⟩
theorem c_H_29 : xm_cv "SnapshotVault$History" 29 m_H_isMade 1 0 := ⟨ok_H_isMade, Or.inl (tb_in (List.mem_append_right _ (List.mem_of_getElem? (i := 141) (by decide +kernel))) rfl), wm_H_isMade, we_H_isMade, by unfold xm_np; decide +kernel, _, _, _, _, cl_H, rfl⟩
theorem c_V_60 : xm_cv "SnapshotVault" 60 m_H_add 3 0 := ⟨ok_H_add, Or.inl (tb_in (List.mem_append_right _ (List.mem_of_getElem? (i := 146) (by decide +kernel))) rfl), wm_H_add, we_H_add, by unfold xm_np; decide +kernel, _, _, _, _, cl_H, rfl⟩
theorem c_H_39 : xm_cv "SnapshotVault$History" 39 m_H_reachOf 1 0 := ⟨ok_H_reachOf, Or.inl (tb_in (List.mem_append_right _ (List.mem_of_getElem? (i := 150) (by decide +kernel))) rfl), wm_H_reachOf, we_H_reachOf, by unfold xm_np; decide +kernel, _, _, _, _, cl_H, rfl⟩
theorem c_V_68 : xm_cv "SnapshotVault" 68 m_H_reachOf 1 0 := ⟨ok_H_reachOf, Or.inl (tb_in (List.mem_append_right _ (List.mem_of_getElem? (i := 154) (by decide +kernel))) rfl), wm_H_reachOf, we_H_reachOf, by unfold xm_np; decide +kernel, _, _, _, _, cl_H, rfl⟩
theorem c_L_34 : xm_cv "SnapshotVaultLaw" 34 m_V_branch 2 3 := ⟨ok_V_branch, Or.inl (tb_in (List.mem_append_right _ (List.mem_of_getElem? (i := 155) (by decide +kernel))) rfl), wm_V_branch, we_V_branch, by unfold xm_np; decide +kernel, _, _, _, _, cl_V, rfl⟩
theorem c_V_80 : xm_cs "SnapshotVault" 80 m_V_isBranch 1 := ⟨ok_V_isBranch, Or.inl (tb_in (List.mem_append_right _ (List.mem_of_getElem? (i := 159) (by decide +kernel))) rfl), wt_V_isBranch, by unfold xm_np; decide +kernel⟩
theorem c_L_38 : xm_cv "SnapshotVaultLaw" 38 m_V_drop 2 3 := ⟨ok_V_drop, Or.inl (tb_in (List.mem_append_right _ (List.mem_of_getElem? (i := 162) (by decide +kernel))) rfl), wm_V_drop, we_V_drop, by unfold xm_np; decide +kernel, _, _, _, _, cl_V, rfl⟩
theorem c_L_42 : xm_cv "SnapshotVaultLaw" 42 m_V_checkout 2 3 := ⟨ok_V_checkout, Or.inl (tb_in (List.mem_append_right _ (List.mem_of_getElem? (i := 166) (by decide +kernel))) rfl), wm_V_checkout, we_V_checkout, by unfold xm_np; decide +kernel, _, _, _, _, cl_V, rfl⟩
theorem c_V_83 : xm_cv "SnapshotVault" 83 m_V_isClean 1 3 := ⟨ok_V_isClean, Or.inl (tb_in (List.mem_append_right _ (List.mem_of_getElem? (i := 170) (by decide +kernel))) rfl), wm_V_isClean, we_V_isClean, by unfold xm_np; decide +kernel, _, _, _, _, cl_V, rfl⟩
theorem c_V_87 : xm_cv "SnapshotVault" 87 m_V_moveTo 2 3 := ⟨ok_V_moveTo, Or.inl (tb_in (List.mem_append_right _ (List.mem_of_getElem? (i := 174) (by decide +kernel))) rfl), wm_V_moveTo, we_V_moveTo, by unfold xm_np; decide +kernel, _, _, _, _, cl_V, rfl⟩
theorem c_V_149 : xm_cv "SnapshotVault" 149 m_H_copySnapshot 2 0 := ⟨ok_H_copySnapshot, Or.inl (tb_in (List.mem_append_right _ (List.mem_of_getElem? (i := 178) (by decide +kernel))) rfl), wm_H_copySnapshot, we_H_copySnapshot, by unfold xm_np; decide +kernel, _, _, _, _, cl_H, rfl⟩
theorem c_L_47 : xm_cv "SnapshotVaultLaw" 47 m_V_merge 2 3 := ⟨ok_V_merge, Or.inl (tb_in (List.mem_append_right _ (List.mem_of_getElem? (i := 182) (by decide +kernel))) rfl), wm_V_merge, we_V_merge, by unfold xm_np; decide +kernel, _, _, _, _, cl_V, rfl⟩
theorem c_V_91 : xm_cv "SnapshotVault" 91 m_V_refusalToChangeHead 2 3 := ⟨ok_V_refusalToChangeHead, Or.inl (tb_in (List.mem_append_right _ (List.mem_of_getElem? (i := 186) (by decide +kernel))) rfl), wm_V_refusalToChangeHead, we_V_refusalToChangeHead, by unfold xm_np; decide +kernel, _, _, _, _, cl_V, rfl⟩
theorem c_V_95 : xm_cv "SnapshotVault" 95 m_H_reaches 2 0 := ⟨ok_H_reaches, Or.inl (tb_in (List.mem_append_right _ (List.mem_of_getElem? (i := 190) (by decide +kernel))) rfl), wm_H_reaches, we_H_reaches, by unfold xm_np; decide +kernel, _, _, _, _, cl_H, rfl⟩
theorem c_H_43 : xm_cs "SnapshotVault$History" 43 m_H_isIn 2 := ⟨ok_H_isIn, Or.inl (tb_in (List.mem_append_right _ (List.mem_of_getElem? (i := 194) (by decide +kernel))) rfl), wt_H_isIn, by unfold xm_np; decide +kernel⟩
theorem c_V_99 : xm_cv "SnapshotVault" 99 m_V_joinCommits 2 3 := ⟨ok_V_joinCommits, Or.inl (tb_in (List.mem_append_right _ (List.mem_of_getElem? (i := 197) (by decide +kernel))) rfl), wm_V_joinCommits, we_V_joinCommits, by unfold xm_np; decide +kernel, _, _, _, _, cl_V, rfl⟩
theorem c_V_142 : xm_cv "SnapshotVault" 142 m_H_baseOf 2 0 := ⟨ok_H_baseOf, Or.inl (tb_in (List.mem_append_right _ (List.mem_of_getElem? (i := 201) (by decide +kernel))) rfl), wm_H_baseOf, we_H_baseOf, by unfold xm_np; decide +kernel, _, _, _, _, cl_H, rfl⟩
theorem c_H_47 : xm_cv "SnapshotVault$History" 47 m_H_isReachedByLater 2 0 := ⟨ok_H_isReachedByLater, Or.inl (tb_in (List.mem_append_right _ (List.mem_of_getElem? (i := 205) (by decide +kernel))) rfl), wm_H_isReachedByLater, we_H_isReachedByLater, by unfold xm_np; decide +kernel, _, _, _, _, cl_H, rfl⟩
theorem c_H_50 : xm_cv "SnapshotVault$History" 50 m_H_reaches 2 0 := ⟨ok_H_reaches, Or.inl (tb_in (List.mem_append_right _ (List.mem_of_getElem? (i := 209) (by decide +kernel))) rfl), wm_H_reaches, we_H_reaches, by unfold xm_np; decide +kernel, _, _, _, _, cl_H, rfl⟩
theorem c_V_153 : xm_cv "SnapshotVault" 153 m_U_uniteSnapshots 4 2 := ⟨ok_U_uniteSnapshots, Or.inl (tb_in (List.mem_append_right _ (List.mem_of_getElem? (i := 210) (by decide +kernel))) rfl), wm_U_uniteSnapshots, we_U_uniteSnapshots, by unfold xm_np; decide +kernel, _, _, _, _, cl_U, rfl⟩
theorem c_U_27 : xm_cv "SnapshotVault$Uniter" 27 m_H_textOf 2 0 := ⟨ok_H_textOf, Or.inl (tb_in (List.mem_append_right _ (List.mem_of_getElem? (i := 214) (by decide +kernel))) rfl), wm_H_textOf, we_H_textOf, by unfold xm_np; decide +kernel, _, _, _, _, cl_H, rfl⟩
theorem c_U_33 : xm_cs "SnapshotVault$Uniter" 33 m_U_take 3 := ⟨ok_U_take, Or.inl (tb_in (List.mem_append_right _ (List.mem_of_getElem? (i := 215) (by decide +kernel))) rfl), wt_U_take, by unfold xm_np; decide +kernel⟩
theorem c_U_41 : xm_cv "SnapshotVault$Uniter" 41 m_U_uniteTexts 3 2 := ⟨ok_U_uniteTexts, Or.inl (tb_in (List.mem_append_right _ (List.mem_of_getElem? (i := 220) (by decide +kernel))) rfl), wm_U_uniteTexts, we_U_uniteTexts, by unfold xm_np; decide +kernel, _, _, _, _, cl_U, rfl⟩
theorem c_U_44 : xm_cv "SnapshotVault$Uniter" 44 m_U_countCommon 2 2 := ⟨ok_U_countCommon, Or.inl (tb_in (List.mem_append_right _ (List.mem_of_getElem? (i := 224) (by decide +kernel))) rfl), wm_U_countCommon, we_U_countCommon, by unfold xm_np; decide +kernel, _, _, _, _, cl_U, rfl⟩
theorem c_U_52 : xm_cs "SnapshotVault$Uniter" 52 m_T_countOf 1 := ⟨ok_T_countOf, Or.inl (tb_in (List.mem_append_right _ (List.mem_of_getElem? (i := 228) (by decide +kernel))) rfl), wt_T_countOf, by unfold xm_np; decide +kernel⟩
theorem c_U_66 : xm_cs "SnapshotVault$Uniter" 66 m_T_lineAt 2 := ⟨ok_T_lineAt, Or.inl (tb_in (List.mem_append_right _ (List.mem_of_getElem? (i := 231) (by decide +kernel))) rfl), wt_T_lineAt, by unfold xm_np; decide +kernel⟩
theorem c_U_70 : xm_mx "SnapshotVault$Uniter" 70 := ⟨tb_in (List.mem_append_right _ (List.mem_of_getElem? (i := 235) (by decide +kernel))) rfl, tb_in (List.mem_append_right _ (List.mem_of_getElem? (i := 236) (by decide +kernel))) rfl, wi_Y, tb_in (List.mem_append_right _ (List.mem_of_getElem? (i := 237) (by decide +kernel))) rfl⟩
theorem c_U_48 : xm_cv "SnapshotVault$Uniter" 48 m_U_matchLines 3 2 := ⟨ok_U_matchLines, Or.inl (tb_in (List.mem_append_right _ (List.mem_of_getElem? (i := 238) (by decide +kernel))) rfl), wm_U_matchLines, we_U_matchLines, by unfold xm_np; decide +kernel, _, _, _, _, cl_U, rfl⟩
theorem c_U_58 : xm_cs "SnapshotVault$Uniter" 58 m_T_piece 3 := ⟨ok_T_piece, Or.inl (tb_in (List.mem_append_right _ (List.mem_of_getElem? (i := 242) (by decide +kernel))) rfl), wt_T_piece, by unfold xm_np; decide +kernel⟩
theorem c_T_13 : xm_cs "SnapshotVault$Texts" 13 m_T_pack 2 := ⟨ok_T_pack, Or.inl (tb_in (List.mem_append_right _ (List.mem_of_getElem? (i := 245) (by decide +kernel))) rfl), wt_T_pack, by unfold xm_np; decide +kernel⟩
theorem c_U_62 : xm_cs "SnapshotVault$Uniter" 62 m_T_join 2 := ⟨ok_T_join, Or.inl (tb_in (List.mem_append_right _ (List.mem_of_getElem? (i := 246) (by decide +kernel))) rfl), wt_T_join, by unfold xm_np; decide +kernel⟩
theorem c_T_19 : xm_cs "SnapshotVault$Texts" 19 m_T_countOf 1 := ⟨ok_T_countOf, Or.inl (tb_in (List.mem_append_right _ (List.mem_of_getElem? (i := 250) (by decide +kernel))) rfl), wt_T_countOf, by unfold xm_np; decide +kernel⟩
theorem c_L_51 : xm_cv "SnapshotVaultLaw" 51 m_V_pick 2 3 := ⟨ok_V_pick, Or.inl (tb_in (List.mem_append_right _ (List.mem_of_getElem? (i := 252) (by decide +kernel))) rfl), wm_V_pick, we_V_pick, by unfold xm_np; decide +kernel, _, _, _, _, cl_V, rfl⟩
theorem c_V_102 : xm_cv "SnapshotVault" 102 m_V_isHeld 2 3 := ⟨ok_V_isHeld, Or.inl (tb_in (List.mem_append_right _ (List.mem_of_getElem? (i := 256) (by decide +kernel))) rfl), wm_V_isHeld, we_V_isHeld, by unfold xm_np; decide +kernel, _, _, _, _, cl_V, rfl⟩
theorem c_V_128 : xm_cv "SnapshotVault" 128 m_H_isMade 1 0 := ⟨ok_H_isMade, Or.inl (tb_in (List.mem_append_right _ (List.mem_of_getElem? (i := 260) (by decide +kernel))) rfl), wm_H_isMade, we_H_isMade, by unfold xm_np; decide +kernel, _, _, _, _, cl_H, rfl⟩
theorem c_V_145 : xm_cs "SnapshotVault" 145 m_H_isIn 2 := ⟨ok_H_isIn, Or.inl (tb_in (List.mem_append_right _ (List.mem_of_getElem? (i := 261) (by decide +kernel))) rfl), wt_H_isIn, by unfold xm_np; decide +kernel⟩
theorem c_V_106 : xm_cv "SnapshotVault" 106 m_V_doAgain 2 3 := ⟨ok_V_doAgain, Or.inl (tb_in (List.mem_append_right _ (List.mem_of_getElem? (i := 262) (by decide +kernel))) rfl), wm_V_doAgain, we_V_doAgain, by unfold xm_np; decide +kernel, _, _, _, _, cl_V, rfl⟩
theorem c_V_135 : xm_cv "SnapshotVault" 135 m_H_secondParentOf 1 0 := ⟨ok_H_secondParentOf, Or.inl (tb_in (List.mem_append_right _ (List.mem_of_getElem? (i := 266) (by decide +kernel))) rfl), wm_H_secondParentOf, we_H_secondParentOf, by unfold xm_np; decide +kernel, _, _, _, _, cl_H, rfl⟩
theorem c_V_131 : xm_cv "SnapshotVault" 131 m_H_firstParentOf 1 0 := ⟨ok_H_firstParentOf, Or.inl (tb_in (List.mem_append_right _ (List.mem_of_getElem? (i := 270) (by decide +kernel))) rfl), wm_H_firstParentOf, we_H_firstParentOf, by unfold xm_np; decide +kernel, _, _, _, _, cl_H, rfl⟩
theorem c_L_55 : xm_cv "SnapshotVaultLaw" 55 m_V_rebase 2 3 := ⟨ok_V_rebase, Or.inl (tb_in (List.mem_append_right _ (List.mem_of_getElem? (i := 274) (by decide +kernel))) rfl), wm_V_rebase, we_V_rebase, by unfold xm_np; decide +kernel, _, _, _, _, cl_V, rfl⟩
theorem c_V_114 : xm_cv "SnapshotVault" 114 m_V_doAllAgain 2 3 := ⟨ok_V_doAllAgain, Or.inl (tb_in (List.mem_append_right _ (List.mem_of_getElem? (i := 279) (by decide +kernel))) rfl), wm_V_doAllAgain, we_V_doAllAgain, by unfold xm_np; decide +kernel, _, _, _, _, cl_V, rfl⟩
theorem c_V_118 : xm_cv "SnapshotVault" 118 m_H_cutBackTo 1 0 := ⟨ok_H_cutBackTo, Or.inl (tb_in (List.mem_append_right _ (List.mem_of_getElem? (i := 283) (by decide +kernel))) rfl), wm_H_cutBackTo, we_H_cutBackTo, by unfold xm_np; decide +kernel, _, _, _, _, cl_H, rfl⟩
theorem c_L_59 : xm_cv "SnapshotVaultLaw" 59 m_V_collect 1 3 := ⟨ok_V_collect, Or.inl (tb_in (List.mem_append_right _ (List.mem_of_getElem? (i := 287) (by decide +kernel))) rfl), wm_V_collect, we_V_collect, by unfold xm_np; decide +kernel, _, _, _, _, cl_V, rfl⟩
theorem c_V_122 : xm_cs "SnapshotVault" 122 m_J_bitCount 1 := ⟨ok_J_bitCount, Or.inl (tb_in (List.mem_append_right _ (List.mem_of_getElem? (i := 291) (by decide +kernel))) rfl), wt_J_bitCount, by unfold xm_np; decide +kernel⟩
theorem c_L_63 : xm_cv "SnapshotVaultLaw" 63 m_V_send 2 3 := ⟨ok_V_send, Or.inl (tb_in (List.mem_append_right _ (List.mem_of_getElem? (i := 297) (by decide +kernel))) rfl), wm_V_send, we_V_send, by unfold xm_np; decide +kernel, _, _, _, _, cl_V, rfl⟩
theorem c_L_67 : xm_cv "SnapshotVaultLaw" 67 m_V_current 1 3 := ⟨ok_V_current, Or.inl (tb_in (List.mem_append_right _ (List.mem_of_getElem? (i := 301) (by decide +kernel))) rfl), wm_V_current, we_V_current, by unfold xm_np; decide +kernel, _, _, _, _, cl_V, rfl⟩
theorem c_L_71 : xm_cv "SnapshotVaultLaw" 71 m_V_tip 2 3 := ⟨ok_V_tip, Or.inl (tb_in (List.mem_append_right _ (List.mem_of_getElem? (i := 305) (by decide +kernel))) rfl), wm_V_tip, we_V_tip, by unfold xm_np; decide +kernel, _, _, _, _, cl_V, rfl⟩
theorem c_L_75 : xm_cv "SnapshotVaultLaw" 75 m_V_holds 2 3 := ⟨ok_V_holds, Or.inl (tb_in (List.mem_append_right _ (List.mem_of_getElem? (i := 309) (by decide +kernel))) rfl), wm_V_holds, we_V_holds, by unfold xm_np; decide +kernel, _, _, _, _, cl_V, rfl⟩
theorem c_L_79 : xm_cv "SnapshotVaultLaw" 79 m_V_commits 0 3 := ⟨ok_V_commits, Or.inl (tb_in (List.mem_append_right _ (List.mem_of_getElem? (i := 313) (by decide +kernel))) rfl), wm_V_commits, we_V_commits, by unfold xm_np; decide +kernel, _, _, _, _, cl_V, rfl⟩
theorem c_L_84 : xm_cv "SnapshotVaultLaw" 84 m_V_parent 2 3 := ⟨ok_V_parent, Or.inl (tb_in (List.mem_append_right _ (List.mem_of_getElem? (i := 317) (by decide +kernel))) rfl), wm_V_parent, we_V_parent, by unfold xm_np; decide +kernel, _, _, _, _, cl_V, rfl⟩
theorem c_L_88 : xm_cv "SnapshotVaultLaw" 88 m_V_text 2 3 := ⟨ok_V_text, Or.inl (tb_in (List.mem_append_right _ (List.mem_of_getElem? (i := 321) (by decide +kernel))) rfl), wm_V_text, we_V_text, by unfold xm_np; decide +kernel, _, _, _, _, cl_V, rfl⟩
theorem c_V_138 : xm_cv "SnapshotVault" 138 m_H_textOf 2 0 := ⟨ok_H_textOf, Or.inl (tb_in (List.mem_append_right _ (List.mem_of_getElem? (i := 325) (by decide +kernel))) rfl), wm_H_textOf, we_H_textOf, by unfold xm_np; decide +kernel, _, _, _, _, cl_H, rfl⟩
theorem c_L_93 : xm_cv "SnapshotVaultLaw" 93 m_V_working 2 3 := ⟨ok_V_working, Or.inl (tb_in (List.mem_append_right _ (List.mem_of_getElem? (i := 326) (by decide +kernel))) rfl), wm_V_working, we_V_working, by unfold xm_np; decide +kernel, _, _, _, _, cl_V, rfl⟩
theorem c_L_97 : xm_cv "SnapshotVaultLaw" 97 m_V_staged 2 3 := ⟨ok_V_staged, Or.inl (tb_in (List.mem_append_right _ (List.mem_of_getElem? (i := 330) (by decide +kernel))) rfl), wm_V_staged, we_V_staged, by unfold xm_np; decide +kernel, _, _, _, _, cl_V, rfl⟩
theorem c_L_101 : xm_cv "SnapshotVaultLaw" 101 m_V_base 2 3 := ⟨ok_V_base, Or.inl (tb_in (List.mem_append_right _ (List.mem_of_getElem? (i := 334) (by decide +kernel))) rfl), wm_V_base, we_V_base, by unfold xm_np; decide +kernel, _, _, _, _, cl_V, rfl⟩
theorem c_L_12 : xm_cn "SnapshotVaultLaw" 12 m_M_init 0 := ⟨ok_M_init, rfl, Or.inl (tb_in (List.mem_append_right _ (List.mem_of_getElem? (i := 340) (by decide +kernel))) rfl), rfl, wm_M_init, by unfold xm_np; decide +kernel⟩
theorem c_M_1 : xm_oi "SnapshotVaultModel" 1 := ⟨tb_in (List.mem_append_right _ (List.mem_of_getElem? (i := 343) (by decide +kernel))) rfl, tb_in (List.mem_append_right _ (List.mem_of_getElem? (i := 15) (by decide +kernel))) rfl, tb_in (List.mem_append_right _ (List.mem_of_getElem? (i := 16) (by decide +kernel))) rfl⟩
theorem c_L_19 : xm_cv "SnapshotVaultLaw" 19 m_M_write 4 4 := ⟨ok_M_write, Or.inl (tb_in (List.mem_append_right _ (List.mem_of_getElem? (i := 403) (by decide +kernel))) rfl), wm_M_write, we_M_write, by unfold xm_np; decide +kernel, _, _, _, _, cl_M, rfl⟩
theorem c_M_123 : xm_cs "SnapshotVaultModel" 123 m_M_out 2 := ⟨ok_M_out, Or.inl (tb_in (List.mem_append_right _ (List.mem_of_getElem? (i := 407) (by decide +kernel))) rfl), wt_M_out, by unfold xm_np; decide +kernel⟩
theorem c_L_24 : xm_cv "SnapshotVaultLaw" 24 m_M_remove 2 4 := ⟨ok_M_remove, Or.inl (tb_in (List.mem_append_right _ (List.mem_of_getElem? (i := 411) (by decide +kernel))) rfl), wm_M_remove, we_M_remove, by unfold xm_np; decide +kernel, _, _, _, _, cl_M, rfl⟩
theorem c_L_28 : xm_cv "SnapshotVaultLaw" 28 m_M_stage 2 4 := ⟨ok_M_stage, Or.inl (tb_in (List.mem_append_right _ (List.mem_of_getElem? (i := 415) (by decide +kernel))) rfl), wm_M_stage, we_M_stage, by unfold xm_np; decide +kernel, _, _, _, _, cl_M, rfl⟩
theorem c_L_33 : xm_cv "SnapshotVaultLaw" 33 m_M_commit 1 4 := ⟨ok_M_commit, Or.inl (tb_in (List.mem_append_right _ (List.mem_of_getElem? (i := 419) (by decide +kernel))) rfl), wm_M_commit, we_M_commit, by unfold xm_np; decide +kernel, _, _, _, _, cl_M, rfl⟩
theorem c_M_119 : xm_cv "SnapshotVaultModel" 119 m_M_sameAsHead 2 4 := ⟨ok_M_sameAsHead, Or.inl (tb_in (List.mem_append_right _ (List.mem_of_getElem? (i := 423) (by decide +kernel))) rfl), wm_M_sameAsHead, we_M_sameAsHead, by unfold xm_np; decide +kernel, _, _, _, _, cl_M, rfl⟩
theorem c_M_111 : xm_cv "SnapshotVaultModel" 111 m_M_head 1 4 := ⟨ok_M_head, Or.inl (tb_in (List.mem_append_right _ (List.mem_of_getElem? (i := 427) (by decide +kernel))) rfl), wm_M_head, we_M_head, by unfold xm_np; decide +kernel, _, _, _, _, cl_M, rfl⟩
theorem c_M_115 : xm_cv "SnapshotVaultModel" 115 m_M_textOf 2 4 := ⟨ok_M_textOf, Or.inl (tb_in (List.mem_append_right _ (List.mem_of_getElem? (i := 431) (by decide +kernel))) rfl), wm_M_textOf, we_M_textOf, by unfold xm_np; decide +kernel, _, _, _, _, cl_M, rfl⟩
theorem c_M_126 : xm_cv "SnapshotVaultModel" 126 m_M_make 3 4 := ⟨ok_M_make, Or.inl (tb_in (List.mem_append_right _ (List.mem_of_getElem? (i := 435) (by decide +kernel))) rfl), wm_M_make, we_M_make, by unfold xm_np; decide +kernel, _, _, _, _, cl_M, rfl⟩
theorem c_L_37 : xm_cv "SnapshotVaultLaw" 37 m_M_branch 2 4 := ⟨ok_M_branch, Or.inl (tb_in (List.mem_append_right _ (List.mem_of_getElem? (i := 439) (by decide +kernel))) rfl), wm_M_branch, we_M_branch, by unfold xm_np; decide +kernel, _, _, _, _, cl_M, rfl⟩
theorem c_M_130 : xm_cv "SnapshotVaultModel" 130 m_M_there 2 4 := ⟨ok_M_there, Or.inl (tb_in (List.mem_append_right _ (List.mem_of_getElem? (i := 443) (by decide +kernel))) rfl), wm_M_there, we_M_there, by unfold xm_np; decide +kernel, _, _, _, _, cl_M, rfl⟩
theorem c_L_41 : xm_cv "SnapshotVaultLaw" 41 m_M_drop 2 4 := ⟨ok_M_drop, Or.inl (tb_in (List.mem_append_right _ (List.mem_of_getElem? (i := 447) (by decide +kernel))) rfl), wm_M_drop, we_M_drop, by unfold xm_np; decide +kernel, _, _, _, _, cl_M, rfl⟩
theorem c_L_46 : xm_cv "SnapshotVaultLaw" 46 m_M_checkout 2 4 := ⟨ok_M_checkout, Or.inl (tb_in (List.mem_append_right _ (List.mem_of_getElem? (i := 451) (by decide +kernel))) rfl), wm_M_checkout, we_M_checkout, by unfold xm_np; decide +kernel, _, _, _, _, cl_M, rfl⟩
theorem c_M_133 : xm_cv "SnapshotVaultModel" 133 m_M_dirty 1 4 := ⟨ok_M_dirty, Or.inl (tb_in (List.mem_append_right _ (List.mem_of_getElem? (i := 455) (by decide +kernel))) rfl), wm_M_dirty, we_M_dirty, by unfold xm_np; decide +kernel, _, _, _, _, cl_M, rfl⟩
theorem c_M_137 : xm_cv "SnapshotVaultModel" 137 m_M_moveTo 2 4 := ⟨ok_M_moveTo, Or.inl (tb_in (List.mem_append_right _ (List.mem_of_getElem? (i := 459) (by decide +kernel))) rfl), wm_M_moveTo, we_M_moveTo, by unfold xm_np; decide +kernel, _, _, _, _, cl_M, rfl⟩
theorem c_L_50 : xm_cv "SnapshotVaultLaw" 50 m_M_merge 2 4 := ⟨ok_M_merge, Or.inl (tb_in (List.mem_append_right _ (List.mem_of_getElem? (i := 463) (by decide +kernel))) rfl), wm_M_merge, we_M_merge, by unfold xm_np; decide +kernel, _, _, _, _, cl_M, rfl⟩
theorem c_M_107 : xm_cv "SnapshotVaultModel" 107 m_M_reaches 2 4 := ⟨ok_M_reaches, Or.inl (tb_in (List.mem_append_right _ (List.mem_of_getElem? (i := 467) (by decide +kernel))) rfl), wm_M_reaches, we_M_reaches, by unfold xm_np; decide +kernel, _, _, _, _, cl_M, rfl⟩
theorem c_M_100 : xm_cv "SnapshotVaultModel" 100 m_M_reached 1 4 := ⟨ok_M_reached, Or.inl (tb_in (List.mem_append_right _ (List.mem_of_getElem? (i := 471) (by decide +kernel))) rfl), wm_M_reached, we_M_reached, by unfold xm_np; decide +kernel, _, _, _, _, cl_M, rfl⟩
theorem c_M_141 : xm_cv "SnapshotVaultModel" 141 m_M_baseOf 2 4 := ⟨ok_M_baseOf, Or.inl (tb_in (List.mem_append_right _ (List.mem_of_getElem? (i := 475) (by decide +kernel))) rfl), wm_M_baseOf, we_M_baseOf, by unfold xm_np; decide +kernel, _, _, _, _, cl_M, rfl⟩
theorem c_M_144 : xm_cv "SnapshotVaultModel" 144 m_M_unite 0 4 := ⟨ok_M_unite, Or.inl (tb_in (List.mem_append_right _ (List.mem_of_getElem? (i := 479) (by decide +kernel))) rfl), wm_M_unite, we_M_unite, by unfold xm_np; decide +kernel, _, _, _, _, cl_M, rfl⟩
theorem c_M_96 : xm_cv "SnapshotVaultModel" 96 m_M_uniteTexts 3 4 := ⟨ok_M_uniteTexts, Or.inl (tb_in (List.mem_append_right _ (List.mem_of_getElem? (i := 484) (by decide +kernel))) rfl), wm_M_uniteTexts, we_M_uniteTexts, by unfold xm_np; decide +kernel, _, _, _, _, cl_M, rfl⟩
theorem c_M_66 : xm_cs "SnapshotVaultModel" 66 m_M_size 1 := ⟨ok_M_size, Or.inl (tb_in (List.mem_append_right _ (List.mem_of_getElem? (i := 488) (by decide +kernel))) rfl), wt_M_size, by unfold xm_np; decide +kernel⟩
theorem c_M_82 : xm_cv "SnapshotVaultModel" 82 m_M_matched 3 4 := ⟨ok_M_matched, Or.inl (tb_in (List.mem_append_right _ (List.mem_of_getElem? (i := 491) (by decide +kernel))) rfl), wm_M_matched, we_M_matched, by unfold xm_np; decide +kernel, _, _, _, _, cl_M, rfl⟩
theorem c_M_74 : xm_cv "SnapshotVaultModel" 74 m_M_subsequences 2 4 := ⟨ok_M_subsequences, Or.inl (tb_in (List.mem_append_right _ (List.mem_of_getElem? (i := 495) (by decide +kernel))) rfl), wm_M_subsequences, we_M_subsequences, by unfold xm_np; decide +kernel, _, _, _, _, cl_M, rfl⟩
theorem c_M_70 : xm_cs "SnapshotVaultModel" 70 m_M_line 2 := ⟨ok_M_line, Or.inl (tb_in (List.mem_append_right _ (List.mem_of_getElem? (i := 499) (by decide +kernel))) rfl), wt_M_line, by unfold xm_np; decide +kernel⟩
theorem c_M_86 : xm_cs "SnapshotVaultModel" 86 m_M_equal 6 := ⟨ok_M_equal, Or.inl (tb_in (List.mem_append_right _ (List.mem_of_getElem? (i := 502) (by decide +kernel))) rfl), wt_M_equal, by unfold xm_np; decide +kernel⟩
theorem c_M_90 : xm_cv "SnapshotVaultModel" 90 m_M_take 3 4 := ⟨ok_M_take, Or.inl (tb_in (List.mem_append_right _ (List.mem_of_getElem? (i := 505) (by decide +kernel))) rfl), wm_M_take, we_M_take, by unfold xm_np; decide +kernel, _, _, _, _, cl_M, rfl⟩
theorem c_M_148 : xm_cv "SnapshotVaultModel" 148 m_M_putJoined 1 4 := ⟨ok_M_putJoined, Or.inl (tb_in (List.mem_append_right _ (List.mem_of_getElem? (i := 509) (by decide +kernel))) rfl), wm_M_putJoined, we_M_putJoined, by unfold xm_np; decide +kernel, _, _, _, _, cl_M, rfl⟩
theorem c_L_54 : xm_cv "SnapshotVaultLaw" 54 m_M_pick 2 4 := ⟨ok_M_pick, Or.inl (tb_in (List.mem_append_right _ (List.mem_of_getElem? (i := 513) (by decide +kernel))) rfl), wm_M_pick, we_M_pick, by unfold xm_np; decide +kernel, _, _, _, _, cl_M, rfl⟩
theorem c_M_152 : xm_cv "SnapshotVaultModel" 152 m_M_again 1 4 := ⟨ok_M_again, Or.inl (tb_in (List.mem_append_right _ (List.mem_of_getElem? (i := 517) (by decide +kernel))) rfl), wm_M_again, we_M_again, by unfold xm_np; decide +kernel, _, _, _, _, cl_M, rfl⟩
theorem c_M_155 : xm_cv "SnapshotVaultModel" 155 m_M_changedNothing 0 4 := ⟨ok_M_changedNothing, Or.inl (tb_in (List.mem_append_right _ (List.mem_of_getElem? (i := 521) (by decide +kernel))) rfl), wm_M_changedNothing, we_M_changedNothing, by unfold xm_np; decide +kernel, _, _, _, _, cl_M, rfl⟩
theorem c_L_58 : xm_cv "SnapshotVaultLaw" 58 m_M_rebase 2 4 := ⟨ok_M_rebase, Or.inl (tb_in (List.mem_append_right _ (List.mem_of_getElem? (i := 525) (by decide +kernel))) rfl), wm_M_rebase, we_M_rebase, by unfold xm_np; decide +kernel, _, _, _, _, cl_M, rfl⟩
theorem c_M_160 : xm_cv "SnapshotVaultModel" 160 m_M_replay 1 4 := ⟨ok_M_replay, Or.inl (tb_in (List.mem_append_right _ (List.mem_of_getElem? (i := 530) (by decide +kernel))) rfl), wm_M_replay, we_M_replay, by unfold xm_np; decide +kernel, _, _, _, _, cl_M, rfl⟩
theorem c_L_62 : xm_cv "SnapshotVaultLaw" 62 m_M_collect 1 4 := ⟨ok_M_collect, Or.inl (tb_in (List.mem_append_right _ (List.mem_of_getElem? (i := 534) (by decide +kernel))) rfl), wm_M_collect, we_M_collect, by unfold xm_np; decide +kernel, _, _, _, _, cl_M, rfl⟩
theorem c_M_163 : xm_cs "SnapshotVaultModel" 163 m_M_many 1 := ⟨ok_M_many, Or.inl (tb_in (List.mem_append_right _ (List.mem_of_getElem? (i := 538) (by decide +kernel))) rfl), wt_M_many, by unfold xm_np; decide +kernel⟩
theorem c_L_66 : xm_cv "SnapshotVaultLaw" 66 m_M_send 2 4 := ⟨ok_M_send, Or.inl (tb_in (List.mem_append_right _ (List.mem_of_getElem? (i := 541) (by decide +kernel))) rfl), wm_M_send, we_M_send, by unfold xm_np; decide +kernel, _, _, _, _, cl_M, rfl⟩
theorem c_L_70 : xm_cv "SnapshotVaultLaw" 70 m_M_current 1 4 := ⟨ok_M_current, Or.inl (tb_in (List.mem_append_right _ (List.mem_of_getElem? (i := 545) (by decide +kernel))) rfl), wm_M_current, we_M_current, by unfold xm_np; decide +kernel, _, _, _, _, cl_M, rfl⟩
theorem c_L_74 : xm_cv "SnapshotVaultLaw" 74 m_M_tip 2 4 := ⟨ok_M_tip, Or.inl (tb_in (List.mem_append_right _ (List.mem_of_getElem? (i := 549) (by decide +kernel))) rfl), wm_M_tip, we_M_tip, by unfold xm_np; decide +kernel, _, _, _, _, cl_M, rfl⟩
theorem c_L_78 : xm_cv "SnapshotVaultLaw" 78 m_M_holds 2 4 := ⟨ok_M_holds, Or.inl (tb_in (List.mem_append_right _ (List.mem_of_getElem? (i := 553) (by decide +kernel))) rfl), wm_M_holds, we_M_holds, by unfold xm_np; decide +kernel, _, _, _, _, cl_M, rfl⟩
theorem c_L_83 : xm_cv "SnapshotVaultLaw" 83 m_M_commits 0 4 := ⟨ok_M_commits, Or.inl (tb_in (List.mem_append_right _ (List.mem_of_getElem? (i := 557) (by decide +kernel))) rfl), wm_M_commits, we_M_commits, by unfold xm_np; decide +kernel, _, _, _, _, cl_M, rfl⟩
theorem c_L_87 : xm_cv "SnapshotVaultLaw" 87 m_M_parent 2 4 := ⟨ok_M_parent, Or.inl (tb_in (List.mem_append_right _ (List.mem_of_getElem? (i := 561) (by decide +kernel))) rfl), wm_M_parent, we_M_parent, by unfold xm_np; decide +kernel, _, _, _, _, cl_M, rfl⟩
theorem c_L_92 : xm_cv "SnapshotVaultLaw" 92 m_M_text 2 4 := ⟨ok_M_text, Or.inl (tb_in (List.mem_append_right _ (List.mem_of_getElem? (i := 565) (by decide +kernel))) rfl), wm_M_text, we_M_text, by unfold xm_np; decide +kernel, _, _, _, _, cl_M, rfl⟩
theorem c_L_96 : xm_cv "SnapshotVaultLaw" 96 m_M_working 2 4 := ⟨ok_M_working, Or.inl (tb_in (List.mem_append_right _ (List.mem_of_getElem? (i := 569) (by decide +kernel))) rfl), wm_M_working, we_M_working, by unfold xm_np; decide +kernel, _, _, _, _, cl_M, rfl⟩
theorem c_L_100 : xm_cv "SnapshotVaultLaw" 100 m_M_staged 2 4 := ⟨ok_M_staged, Or.inl (tb_in (List.mem_append_right _ (List.mem_of_getElem? (i := 573) (by decide +kernel))) rfl), wm_M_staged, we_M_staged, by unfold xm_np; decide +kernel, _, _, _, _, cl_M, rfl⟩
theorem c_L_104 : xm_cv "SnapshotVaultLaw" 104 m_M_base 2 4 := ⟨ok_M_base, Or.inl (tb_in (List.mem_append_right _ (List.mem_of_getElem? (i := 577) (by decide +kernel))) rfl), wm_M_base, we_M_base, by unfold xm_np; decide +kernel, _, _, _, _, cl_M, rfl⟩
theorem wc_L_7 : Cond.classLink "SnapshotVaultLaw" 7 "SnapshotVault" ∈ tb_all := tb_in (List.mem_append_right _ (List.mem_of_getElem? (i := 9) (by decide +kernel))) rfl
theorem n_L_7 : xm_nf "SnapshotVaultLaw" 7 3 3 [.null, .null, .null] := ⟨_, _, _, cl_V, wc_L_7, tb_in (List.mem_append_right _ (List.mem_of_getElem? (i := 10) (by decide +kernel))) rfl, wi_V, by decide +kernel, rfl⟩
theorem wc_V_7 : Cond.classLink "SnapshotVault" 7 "SnapshotVault$History" ∈ tb_all := tb_in (List.mem_append_right _ (List.mem_of_getElem? (i := 17) (by decide +kernel))) rfl
theorem n_V_7 : xm_nf "SnapshotVault" 7 0 5 [.null, .null, .null, .null, .int 0] := ⟨_, _, _, cl_H, wc_V_7, tb_in (List.mem_append_right _ (List.mem_of_getElem? (i := 18) (by decide +kernel))) rfl, wi_H, by decide +kernel, rfl⟩
theorem wc_V_16 : Cond.classLink "SnapshotVault" 16 "SnapshotVault$Repository" ∈ tb_all := tb_in (List.mem_append_right _ (List.mem_of_getElem? (i := 42) (by decide +kernel))) rfl
theorem n_V_16 : xm_nf "SnapshotVault" 16 1 5 [.null, .null, .null, .long 0, .int 0] := ⟨_, _, _, cl_R, wc_V_16, tb_in (List.mem_append_right _ (List.mem_of_getElem? (i := 44) (by decide +kernel))) rfl, wi_R, by decide +kernel, rfl⟩
theorem wc_V_23 : Cond.classLink "SnapshotVault" 23 "SnapshotVault$Uniter" ∈ tb_all := tb_in (List.mem_append_right _ (List.mem_of_getElem? (i := 71) (by decide +kernel))) rfl
theorem n_V_23 : xm_nf "SnapshotVault" 23 2 4 [.null, .null, .null, .null] := ⟨_, _, _, cl_U, wc_V_23, tb_in (List.mem_append_right _ (List.mem_of_getElem? (i := 72) (by decide +kernel))) rfl, wi_U, by decide +kernel, rfl⟩
theorem wc_U_22 : Cond.classLink "SnapshotVault$Uniter" 22 "[[I" ∈ tb_all := tb_in (List.mem_append_right _ (List.mem_of_getElem? (i := 77) (by decide +kernel))) rfl
theorem wc_L_10 : Cond.classLink "SnapshotVaultLaw" 10 "SnapshotVaultModel" ∈ tb_all := tb_in (List.mem_append_right _ (List.mem_of_getElem? (i := 338) (by decide +kernel))) rfl
theorem n_L_10 : xm_nf "SnapshotVaultLaw" 10 4 19 [.int 0, .null, .null, .null, .null, .null, .null, .null, .null, .null, .null, .null, .null, .null, .null, .null, .int 0, .null, .null] := ⟨_, _, _, cl_M, wc_L_10, tb_in (List.mem_append_right _ (List.mem_of_getElem? (i := 339) (by decide +kernel))) rfl, wi_M, by decide +kernel, rfl⟩
theorem wa_int : Cond.arrayClass .int ∈ tb_all := tb_in (List.mem_append_right _ (List.mem_of_getElem? (i := 41) (by decide +kernel))) rfl
theorem wa_long : Cond.arrayClass .long ∈ tb_all := tb_in (List.mem_append_right _ (List.mem_of_getElem? (i := 40) (by decide +kernel))) rfl
