/-! Class and reference side by side. -/
theorem ch_V_go {h h' : xm_H} {S : sp_S} (a : ch_V h S) (f : ∀ k, k < 29 → h'[k]? = h[k]?) : ch_V h' S := by
  obtain ⟨h0, ⟨g, h1, h2⟩, h3, h4, ⟨u, h5⟩⟩ := a
  exact ⟨(f 0 (by decide)).trans h0, ⟨g, (f 6 (by decide)).trans h1, h2⟩, ch_H_go h3 (fun k _ z => f k (by omega)), fun r hr => ch_R_go (h4 r hr) (fun k z1 z2 => f k (by omega)), ⟨u, ch_U_go h5 (fun k z1 z2 => f k (by omega))⟩⟩
/-- both hold the state S -/
def lv (h : xm_H) (S : sp_S) : Prop := ch_V h S ∧ mh h S ∧ sp_WS S
theorem lv_V {h h' : xm_H} {S : sp_S} (a : mh h S) (f : xl_fr sp_V29 h h') : mh h' S := mh_go a (fun k z1 z2 => f.2 k (by show ¬ k < 29; omega))
theorem lv_M {h h' : xm_H} {S : sp_S} (a : ch_V h S) (f : xl_fr sp_M29 h h') : ch_V h' S := ch_V_go a (fun k z => f.2 k (by show ¬ 29 ≤ k; omega))
/-- the law, whatever its name is: the claim's entry does not say it -/
abbrev m_L_lw (nm : String) : xm_M := (⟨"SnapshotVaultLaw", nm, "([I)Z"⟩, code, 4, some .boolean, 600000, 7302250)
