/-! ===== a world's mail, its setup's delays, how much may still come ===== -/
theorem WT.ml {B0 : Nat} {D : va_G} {cs : Nat → ClassId} {T : Nat} {κ : KM} {H : Heap} {w i : Nat} (hT : WT B0 D cs T κ H) (h : T2 κ w 8 i) : T2 κ (cs (400 + i)) 3 (i + 20) ∧ T2 κ (cs (420 + i)) 5 i ∧ T2 κ (cs (460 + i)) 2 (i + 40) ∧ T2 κ (κ w).2.2.1 7 15 ∧ i < 10 := by
  obtain ⟨-, e, hat, su, pa, ml, pr, li, lo, cu, tm, c8, c9, c10, c11, c12, c13, c14, c15, rfl, g1, g2, g3, g4, g5, g6, g7, g8, g9, g10, g11, g12⟩ := hT.o8 h.1
  rw [h.2] at g4 g5 g6 g9 g10 g11 g12
  subst g10 g11 g12
  exact ⟨g4, g5, g6, by rw [← g2]; exact g1, g9⟩
theorem Dly.fr {B0 : Nat} {D : va_G} {cs : Nat → ClassId} {T : Nat} {κ : KM} {H H1 : Heap} {su : Nat} {dl : Nat → Int32} {S : List Nat} (h : Dly D cs H su dl) (hT : WT B0 D cs T κ H) (hs : T2 κ su 7 15) (hF : Fr B0 S κ H H1) (ho : 15 ∉ S) : Dly D cs H1 su dl := by
  obtain ⟨a, b, c, d, x, y, z, da, h1, h2⟩ := h
  obtain ⟨-, e, hat, pl, ne, pa, mg, ct, of, dr, dl', rfl, -, -, -, -, -, -, k1⟩ := hT.o7 hs.1
  rw [hs.2] at k1
  obtain rfl : dl' = da := Value.ref.inj (FI.eq (k := 7) ⟨_, h1, rfl⟩ hat rfl (by decide) rfl)
  exact ⟨a, b, c, d, x, y, z, dl', h1.kept (hF.2 su h1.lt (Or.inr ⟨by rw [hs.1]; decide, by rw [hs.2]; exact ho⟩)), h2.kept (hF.2 dl' h2.lt (Or.inr ⟨by rw [k1.1]; decide, by rw [k1.2]; exact ho⟩))⟩
theorem Dly.eq {D : va_G} {cs : Nat → ClassId} {H : Heap} {su : Nat} {f g : Nat → Int32} (h : Dly D cs H su f) (h' : Dly D cs H su g) : ∀ j, j < 64 → f j = g j := by
  obtain ⟨a, b, c, d, x, y, z, da, h1, h2⟩ := h
  obtain ⟨a', b', c', d', x', y', z', da', h1', h2'⟩ := h'
  obtain rfl : da' = da := Value.ref.inj (FI.eq (k := 7) ⟨_, h1, rfl⟩ h1' rfl (by decide) rfl)
  have q1 : H[da']? = some (vp_cell (cs 0) (64, .inl f)) := h2
  have q2 : H[da']? = some (vp_cell (cs 0) (64, .inl g)) := h2'
  rw [q1] at q2
  exact cell_f (Option.some.inj q2)
/-- of world i: its mail, the delays of its setup, the time's row -/
def MW (D : va_G) (cs : Nat → ClassId) (H : Heap) (i su tm : Nat) (C cn ln : Nat → Nat) (rw9 : Nat → Nat → Int32) (dl : Nat → Int32) : Prop := MB D cs H (cs (400 + i)) cn ln rw9 ∧ Dly D cs H su dl ∧ LC C cn ln ∧ tm < 16
theorem MW.fr {B0 : Nat} {D : va_G} {cs : Nat → ClassId} {T : Nat} {κ : KM} {H H1 : Heap} {w i su tm : Nat} {C cn ln : Nat → Nat} {rw9 : Nat → Nat → Int32} {dl : Nat → Int32} {S : List Nat} (h : MW D cs H i su tm C cn ln rw9 dl) (hT : WT B0 D cs T κ H) (hw : T2 κ w 8 i) (hsu : (κ w).2.2.1 = su) (hF : Fr B0 S κ H H1) (h1 : i + 20 ∉ S) (h2 : 15 ∉ S) : MW D cs H1 i su tm C cn ln rw9 dl := by
  obtain ⟨k1, -, -, k2, -⟩ := hT.ml hw
  rw [hsu] at k2
  exact ⟨h.1.fr hT k1 hF h1, h.2.1.fr hT k2 hF h2, h.2.2⟩
/-- the mail is another, the setup as it was -/
theorem MW.mb {B0 : Nat} {D : va_G} {cs : Nat → ClassId} {T : Nat} {κ : KM} {H H1 : Heap} {w i su tm : Nat} {C cn ln cn1 ln1 : Nat → Nat} {rw9 rw1 : Nat → Nat → Int32} {dl : Nat → Int32} {S : List Nat} (h : MW D cs H i su tm C cn ln rw9 dl) (hT : WT B0 D cs T κ H) (hw : T2 κ w 8 i) (hsu : (κ w).2.2.1 = su) (hF : Fr B0 S κ H H1) (h2 : 15 ∉ S) (hM : MB D cs H1 (cs (400 + i)) cn1 ln1 rw1) (hL : LC C cn1 ln1) : MW D cs H1 i su tm C cn1 ln1 rw1 dl := by
  obtain ⟨-, -, -, k2, -⟩ := hT.ml hw
  rw [hsu] at k2
  exact ⟨hM, h.2.1.fr hT k2 hF h2, hL, h.2.2.2⟩
theorem LC.sum {C cn ln : Nat → Nat} (h : LC C cn ln) : sumN ln 16 ≤ 14 * sumN C 16 + 5600 := by
  have h1 : sumN ln 16 ≤ sumN (fun j => 14 * C j + 350) 16 := sumN_le fun j hj => (h j hj).2.2.1
  rw [sumN_14] at h1
  omega
abbrev GN (l0 l1 : Nat → Nat) (k n : Nat) : Prop := 35 * k ≤ n ∧ n + 2 * sumN l0 16 ≤ 2 * sumN l1 16
theorem GN.rf {l : Nat → Nat} : GN l l 0 0 := ⟨Nat.le_refl _, by omega⟩
/-- what comes of a send -/
def SD (cn cn1 : Nat → Nat) (rw9 rw1 : Nat → Nat → Int32) (r0 : Nat) (kd fm to : Int32) : Prop := (cn1 = cn ∧ rw1 = rw9) ∨ PT cn cn1 rw9 rw1 r0 kd fm to
theorem SD.mono {cn cn1 : Nat → Nat} {rw9 rw1 : Nat → Nat → Int32} {r0 : Nat} {kd fm to : Int32} (h : SD cn cn1 rw9 rw1 r0 kd fm to) : ∀ q, q < 16 → cn q ≤ cn1 q := fun q hq => by
  rcases h with ⟨rfl, -⟩ | ⟨h1, h2, -⟩
  · exact Nat.le_refl _
  · by_cases e : q = r0
    · subst e; rw [h2]; omega
    · rw [h1 q hq e]; exact Nat.le_refl _
theorem SD.e2 {C : Nat → Nat} {dl : Nat → Int32} {cn cn1 : Nat → Nat} {rw9 rw1 : Nat → Nat → Int32} {q0 pl r0 : Nat} {kd fm to : Int32} (h : SD cn cn1 rw9 rw1 r0 kd fm to) (hr : r0 < 16) : EE C dl cn1 rw1 q0 pl ≤ EE C dl cn rw9 q0 pl + 2 := by
  rcases h with ⟨rfl, rfl⟩ | ⟨h1, h2, h3, -⟩
  · omega
  · exact EE_put hr h1 h2 h3
theorem SD.e1 {C : Nat → Nat} {dl : Nat → Int32} {cn cn1 : Nat → Nat} {rw9 rw1 : Nat → Nat → Int32} {q0 pl r0 : Nat} {kd fm to : Int32} (h : SD cn cn1 rw9 rw1 r0 kd fm to) (hr : r0 < 16) (hk : ¬ (kd = 0 ∨ kd = 2)) : EE C dl cn1 rw1 q0 pl ≤ EE C dl cn rw9 q0 pl + 1 := by
  rcases h with ⟨rfl, rfl⟩ | ⟨h1, h2, h3, h4, -⟩
  · omega
  · exact EE_put1 hr h1 h2 h3 (by rw [h4]; exact hk)
/-- the answer to the message that was read -/
theorem SD.rp {C : Nat → Nat} {dl : Nat → Int32} {cn cn1 : Nat → Nat} {rw9 rw1 : Nat → Nat → Int32} {q0 pl : Nat} {kd fm to kd0 : Int32} (h : SD cn cn1 rw9 rw1 ((q0 + (dl (plc fm to)).toNatClampNeg) % 16) kd fm to) (hq : q0 < 16) (hp : pl < cn q0) (hk : ¬ (kd = 0 ∨ kd = 2))
    (hk0 : kd0 = 0 ∨ kd0 = 2) (e0 : kd0 = rw9 q0 (7 * pl)) (e1 : to = rw9 q0 (7 * pl + 1)) (e2 : fm = rw9 q0 (7 * pl + 2)) : EE C dl cn1 rw1 q0 (pl + 1) ≤ EE C dl cn rw9 q0 pl := by
  rcases h with ⟨rfl, rfl⟩ | ⟨h1, h2, h3, h4, -⟩
  · exact EE_read hq hp
  · refine EE_reply hq hp (Nat.mod_lt _ (by decide)) ?_ h1 h2 h3 (by rw [h4]; exact hk)
    rw [← e0, ← e1, ← e2]
    unfold rep
    rw [if_pos hk0]
/-- kinds where the numbers of owner i's cells alone may be others -/
def KU (i : Nat) (κ κ' : KM) : Prop := KF κ κ' ∧ ∀ a, (κ a).1 ≠ 0 → (κ a).2.1 ≠ i → κ' a = κ a
theorem KU.rf {i : Nat} {κ : KM} : KU i κ κ := ⟨KF.rf, fun _ _ _ => rfl⟩
theorem KX.u {i : Nat} {κ κ' : KM} (h : KX κ κ') : KU i κ κ' := ⟨h.f, fun a ha _ => h a ha⟩
theorem KU.tr {i : Nat} {κ κ1 κ2 : KM} (h : KU i κ κ1) (g : KU i κ1 κ2) : KU i κ κ2 := ⟨h.1.tr g.1, fun a ha hi => by
  have e := h.2 a ha hi
  exact (g.2 a (by rw [e]; exact ha) (by rw [e]; exact hi)).trans e⟩
theorem KU.kp {i : Nat} {κ : KM} {a c x y : Nat} (h : T2 κ a c i) : KU i κ (kp κ a x y) := ⟨KF.kp, fun q _ hi => kp_n (fun e => hi (by rw [e]; exact h.2))⟩
/-- how much may still come to world i: by its mail, and of an open proposal -/
def EO (C : Nat → Nat) (dl : Nat → Int32) (cn : Nat → Nat) (rw9 : Nat → Nat → Int32) (q0 pl op : Nat) : Nat := EE C dl cn rw9 q0 pl + (if op = 0 then 8 else 0)
/-- as a fact that is looked at by its lemmas alone -/
def EL (C : Nat → Nat) (dl : Nat → Int32) (cn : Nat → Nat) (rw9 : Nat → Nat → Int32) (q0 pl op b : Nat) : Prop := EO C dl cn rw9 q0 pl op ≤ b
section EL
variable {C : Nat → Nat} {dl : Nat → Int32} {cn cn1 : Nat → Nat} {rw9 rw1 : Nat → Nat → Int32} {q0 q1 pl pl1 op b : Nat}
theorem EL.op9 (h : EL C dl cn rw9 q0 pl op b) (ho : op = 0) : EE C dl cn rw9 q0 pl + 8 ≤ b := by
  unfold EL EO at h; rw [if_pos ho] at h; exact h
theorem EL.cl9 (ho : op ≠ 0) (h : EE C dl cn rw9 q0 pl ≤ b) : EL C dl cn rw9 q0 pl op b := by
  unfold EL EO; rw [if_neg ho]; exact h
theorem EL.le9 (h : EL C dl cn rw9 q0 pl op b) : EE C dl cn rw9 q0 pl ≤ b := by
  unfold EL EO at h; exact Nat.le_trans (Nat.le_add_right _ _) h
theorem EL.st (h : EL C dl cn rw9 q0 0 op b) : EL C dl cn rw9 q1 0 op b := by
  unfold EL EO at h ⊢; rw [EE_start q1 q0]; exact h
theorem EL.rp (h : EL C dl cn rw9 q0 pl op b) (g : EE C dl cn1 rw1 q1 pl1 ≤ EE C dl cn rw9 q0 pl) : EL C dl cn1 rw1 q1 pl1 op b := by
  unfold EL EO at h ⊢; exact Nat.le_trans (Nat.add_le_add_right g _) h
theorem EL.rd (h : EL C dl cn rw9 q0 pl op b) (hq : q0 < 16) (hp : pl < cn q0) : EL C dl cn rw9 q0 (pl + 1) op b := h.rp (EE_read hq hp)
theorem EL.clear (h : EL C dl cn rw9 q0 pl op b) : EL C dl (up9 cn q0 0) rw9 0 0 op b := h.rp (EE_clear (fun _ _ hne => up9_n hne) up9_r)
theorem EL.k {op1 : Nat} (h : EL C dl cn rw9 q0 pl op b) (e : op1 = op) : EL C dl cn rw9 q0 pl op1 b := by rw [e]; exact h
theorem EL.any9 (h : EE C dl cn rw9 q0 pl + 8 ≤ b) : EL C dl cn rw9 q0 pl op b := by
  unfold EL EO; split <;> omega
theorem EL.ad (h : EL C dl cn rw9 q0 pl op b) (g : EE C dl cn1 rw1 q0 pl ≤ EE C dl cn rw9 q0 pl + 2) : EL C dl cn1 rw1 q0 pl op (b + 2) := by
  unfold EL EO at h ⊢; omega
end EL
theorem EE_cb {C : Nat → Nat} {dl : Nat → Int32} {cn : Nat → Nat} {rw9 : Nat → Nat → Int32} {q0 pl : Nat} (h : EE C dl cn rw9 q0 pl ≤ 24) : ∀ j, j < 16 → cn j ≤ C j + 24 := fun j hj => by
  have := EE_cn (C := C) (dl := dl) (cn := cn) (rw9 := rw9) (q0 := q0) (pl := pl) hj
  omega
theorem m15_of {x : Int32} {t : Nat} (h : x &&& 15 = nI t) (ht : t < 16) : m15 x = t := by
  rw [and15] at h
  exact (nI_eq (by have := m15_lt x; omega) (by omega)).mp h
theorem m15_add {x : Int32} {t n : Nat} (h : x &&& 15 = nI t) (ht : t < 16) : m15 (x + nI n) = (t + n) % 16 := by
  have e := m15_of h ht
  unfold m15 at e ⊢
  have hn : (nI n).toBitVec.toNat = n % 2 ^ 32 := by unfold nI; simp
  rw [Int32.toBitVec_add, BitVec.toNat_add, hn]
  omega
theorem and15_1 {x : Int32} {t : Nat} (h : x &&& 15 = nI t) (ht : t < 16) : (x + 1) &&& 15 = nI ((t + 1) % 16) := by
  have := m15_add (n := 1) h ht
  rw [and15, show (1 : Int32) = nI 1 from rfl, this]
theorem MW.tm {D : va_G} {cs : Nat → ClassId} {H : Heap} {i su tm t1 : Nat} {C cn ln : Nat → Nat} {rw9 : Nat → Nat → Int32} {dl : Nat → Int32} (h : MW D cs H i su tm C cn ln rw9 dl) (ht : t1 < 16) : MW D cs H i su t1 C cn ln rw9 dl := ⟨h.1, h.2.1, h.2.2.1, ht⟩
