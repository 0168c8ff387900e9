/-- a reading's growth: with its formula or without -/
abbrev GG9 (κ : KM) (w : Nat) (H0 H : Heap) : Prop := ((κ (κ w).2.2.2).2.2.1 ≠ 1 ∧ Gr H0 H 5 96) ∨ ((κ (κ w).2.2.2).2.2.1 = 1 ∧ Gr H0 H 8 714)
theorem GG9.all {κ : KM} {w : Nat} {H0 H : Heap} (h : GG9 κ w H0 H) : Gr H0 H 8 714 := h.elim (fun h9 => h9.2.mono (by omega) (by omega)) (fun h9 => h9.2)
theorem GG9.gr {κ : KM} {w : Nat} {H0 H H1 : Heap} (h : GG9 κ w H0 H) (g : Gr H H1 0 0) : GG9 κ w H0 H1 := h.imp (fun h9 => ⟨h9.1, (h9.2.tr g).mono (by omega) (by omega)⟩) (fun h9 => ⟨h9.1, (h9.2.tr g).mono (by omega) (by omega)⟩)
theorem GG9.step {κ κ1 : KM} {w : Nat} {H0 H H1 : Heap} (h : GG9 κ w H0 H) (ew : κ1 w = κ w) (g : ((κ1 (κ w).2.2.2).2.2.1 = (κ (κ w).2.2.2).2.2.1 ∧ Gr H H1 0 0) ∨ ((κ (κ w).2.2.2).2.2.1 ≠ 1 ∧ (κ1 (κ w).2.2.2).2.2.1 = 1 ∧ Gr H H1 3 618)) : GG9 κ1 w H0 H1 := by
  unfold GG9
  rw [ew]
  rcases g with ⟨e8, g8⟩ | ⟨e8, e9, g8⟩
  · rcases h with ⟨e7, g7⟩ | ⟨e7, g7⟩
    · exact Or.inl ⟨by rw [e8]; exact e7, (g7.tr g8).mono (by omega) (by omega)⟩
    · exact Or.inr ⟨e8.trans e7, (g7.tr g8).mono (by omega) (by omega)⟩
  · rcases h with ⟨e7, g7⟩ | ⟨e7, g7⟩
    · exact Or.inr ⟨e9, (g7.tr g8).mono (by omega) (by omega)⟩
    · exact absurd e7 e8
