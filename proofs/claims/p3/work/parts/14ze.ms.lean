/-! the model's whole state -/
theorem eq10 {D : va_G} {w : Nat} {H : Heap} {c0 c1 a1 a3 a4 a9 a10 a11 a12 a17 b1 b3 b4 b9 b10 b11 b12 b17 : Nat} {a0 a5 a6 a7 a13 a14 a15 a16 b0 b5 b6 b7 b13 b14 b15 b16 : Int32} (h : va_at D vwCl (w, .inr (9, [.int a0, .ref a1, .int (nI c0), .int (nI a3), .int (nI a4), .int a5, .int a6, .int a7, .ref c1, .ref a9, .ref a10, .ref a11, .int (nI a12), .int a13, .int a14, .int a15, .int a16, .ref a17])) H) (g : va_at D vwCl (w, .inr (9, [.int b0, .ref b1, .int (nI c0), .int (nI b3), .int (nI b4), .int b5, .int b6, .int b7, .ref c1, .ref b9, .ref b10, .ref b11, .int (nI b12), .int b13, .int b14, .int b15, .int b16, .ref b17])) H)
    (hb : a3 ≤ 600 ∧ a4 ≤ 600 ∧ a12 ≤ 600 ∧ b3 ≤ 600 ∧ b4 ≤ 600 ∧ b12 ≤ 600) : b0 = a0 ∧ b1 = a1 ∧ b3 = a3 ∧ b4 = a4 ∧ b5 = a5 ∧ b6 = a6 ∧ b7 = a7 ∧ b9 = a9 ∧ b10 = a10 ∧ b11 = a11 ∧ b12 = a12 ∧ b13 = a13 ∧ b14 = a14 ∧ b15 = a15 ∧ b16 = a16 ∧ b17 = a17 := by
  obtain ⟨h3, h4, h12, g3, g4, g12⟩ := hb
  have F : ∀ (k : Nat) (v v' : Value), k < 18 → ([.int b0, .ref b1, .int (nI c0), .int (nI b3), .int (nI b4), .int b5, .int b6, .int b7, .ref c1, .ref b9, .ref b10, .ref b11, .int (nI b12), .int b13, .int b14, .int b15, .int b16, .ref b17] : List Value)[k]? = some v → ([.int a0, .ref a1, .int (nI c0), .int (nI a3), .int (nI a4), .int a5, .int a6, .int a7, .ref c1, .ref a9, .ref a10, .ref a11, .int (nI a12), .int a13, .int a14, .int a15, .int a16, .ref a17] : List Value)[k]? = some v' → v = v' := fun k v v' hk e1 e2 => (FI.eq (show FI D w 9 k v H from ⟨_, g, e1⟩) h rfl hk e2).symm
  exact ⟨Value.int.inj (F 0 _ _ (by decide) rfl rfl), Value.ref.inj (F 1 _ _ (by decide) rfl rfl), (nI_eq (by omega) (by omega)).mp (Value.int.inj (F 3 _ _ (by decide) rfl rfl)), (nI_eq (by omega) (by omega)).mp (Value.int.inj (F 4 _ _ (by decide) rfl rfl)), Value.int.inj (F 5 _ _ (by decide) rfl rfl), Value.int.inj (F 6 _ _ (by decide) rfl rfl), Value.int.inj (F 7 _ _ (by decide) rfl rfl), Value.ref.inj (F 9 _ _ (by decide) rfl rfl), Value.ref.inj (F 10 _ _ (by decide) rfl rfl), Value.ref.inj (F 11 _ _ (by decide) rfl rfl), (nI_eq (by omega) (by omega)).mp (Value.int.inj (F 12 _ _ (by decide) rfl rfl)), Value.int.inj (F 13 _ _ (by decide) rfl rfl), Value.int.inj (F 14 _ _ (by decide) rfl rfl), Value.int.inj (F 15 _ _ (by decide) rfl rfl), Value.int.inj (F 16 _ _ (by decide) rfl rfl), Value.ref.inj (F 17 _ _ (by decide) rfl rfl)⟩
/-- the model w, its buffer's row g, its draft's row f -/
def MS (D : va_G) (cs : Nat → ClassId) (w : Nat) (H : Heap) (bl da : Nat) (th : Int32) (bu tl pos : Nat) (er ea eo : Int32) (sd dr hi ud : Nat) (ns ne se td : Int32) (sk : Nat) (g f : Nat → Int32) : Prop :=
  va_at D vwCl (w, .inr (9, [.int th, .ref bu, .int (nI bl), .int (nI tl), .int (nI pos), .int er, .int ea, .int eo, .ref da, .ref sd, .ref dr, .ref hi, .int (nI ud), .int ns, .int ne, .int se, .int td, .ref sk])) H ∧ va_at D vwCl (bu, .inl (cs 0, 600, .inl g)) H ∧ va_at D vwCl (dr, .inl (cs 0, 1383, .inl f)) H
theorem MS.t2 {B0 : Nat} {D : va_G} {cs : Nat → ClassId} {T : Nat} {κ : KM} {H : Heap} {w bu tl pos sd dr hi ud sk : Nat} {th er ea eo ns ne se td : Int32} (hT : WT B0 D cs T κ H) (hw : T2 κ w 10 12) (ht : tl ≤ 600 ∧ pos ≤ 600) (h : va_at D vwCl (w, .inr (9, [.int th, .ref bu, .int (nI (κ w).2.2.1), .int (nI tl), .int (nI pos), .int er, .int ea, .int eo, .ref (κ w).2.2.2, .ref sd, .ref dr, .ref hi, .int (nI ud), .int ns, .int ne, .int se, .int td, .ref sk])) H) : T2 κ bu 23 14 ∧ T2 κ dr 26 17 ∧ pos ≤ tl := by
  obtain ⟨-, e, hat, th', bu', tl', pos', er', ea', eo', sd', dr', hi', ud', ns', ne', se', td', sk', rfl, h1, h2, h3, h4, hbu, hda, hsd, hsd1, hdr, hhi, hsk⟩ := hT.o10 hw.1
  have e1 : Value.ref bu' = .ref bu := FI.eq (show FI D w 9 1 (.ref bu) H from ⟨_, h, rfl⟩) hat rfl (by decide) rfl
  have e2 : Value.ref dr' = .ref dr := FI.eq (show FI D w 9 10 (.ref dr) H from ⟨_, h, rfl⟩) hat rfl (by decide) rfl
  have e3 : Value.int (nI tl') = .int (nI tl) := FI.eq (show FI D w 9 3 (.int (nI tl)) H from ⟨_, h, rfl⟩) hat rfl (by decide) rfl
  have e4 : Value.int (nI pos') = .int (nI pos) := FI.eq (show FI D w 9 4 (.int (nI pos)) H from ⟨_, h, rfl⟩) hat rfl (by decide) rfl
  have e5 : tl' = tl := (nI_eq (by omega) (by omega)).mp (Value.int.inj e3)
  have e6 : pos' = pos := (nI_eq (by omega) (by omega)).mp (Value.int.inj e4)
  cases e1; cases e2
  exact ⟨hbu, hdr, by omega⟩
theorem f26 {B0 : Nat} {D : va_G} {cs : Nat → ClassId} {T : Nat} {κ : KM} {H : Heap} {q o : Nat} {f : Nat → Int32} (hT : WT B0 D cs T κ H) (hw : T2 κ q 26 o) (h : va_at D vwCl (q, .inl (cs 0, 1383, .inl f)) H) : DRK f := by
  obtain ⟨-, e, hat, g, rfl, hg⟩ := hT.o26 hw.1
  have h1 : H[q]? = some (vp_cell (cs 0) (1383, .inl f)) := h
  have h2 : H[q]? = some (vp_cell (cs 0) (1383, .inl g)) := hat
  rw [h1] at h2
  have e := cell_f (Option.some.inj h2)
  unfold DRK
  rw [e 0 (by decide), e 1 (by decide), e 2 (by decide), e 3 (by decide), e 14 (by decide), e 18 (by decide)]
  exact hg
