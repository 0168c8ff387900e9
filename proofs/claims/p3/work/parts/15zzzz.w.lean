/-! ===== the ten worlds: what is at rest, what may still come ===== -/
def ST (C : Nat → Nat) (dl : Nat → Int32) (cn : Nat → Nat) (rw9 : Nat → Nat → Int32) (op e : Nat) : Prop := if e = 0 then EE C dl cn rw9 0 0 ≤ 0 else EL C dl cn rw9 0 0 op e
def m8 (e : Nat) : Nat := if e = 0 then 8 else e
section ST
variable {C C1 : Nat → Nat} {dl : Nat → Int32} {cn cn1 : Nat → Nat} {rw9 rw1 : Nat → Nat → Int32} {op op1 e b : Nat}
theorem ST.el (h : ST C dl cn rw9 op e) : EL C dl cn rw9 0 0 op (m8 e) := by
  unfold ST at h; unfold m8
  split at h
  · rename_i h0
    rw [if_pos h0]
    unfold EL EO; split <;> omega
  · rename_i h0
    rw [if_neg h0]; exact h
theorem ST.z (h : ST C dl cn rw9 op 0) : EE C dl cn rw9 0 0 ≤ 0 := by
  unfold ST at h; rw [if_pos rfl] at h; exact h
theorem ST.of (h : EL C dl cn rw9 0 0 op e) (he : e ≠ 0) : ST C dl cn rw9 op e := by
  unfold ST; rw [if_neg he]; exact h
theorem ST.oz (h : EE C dl cn rw9 0 0 ≤ 0) : ST C dl cn rw9 op 0 := by
  unfold ST; rw [if_pos rfl]; exact h
theorem ST.cg (h : ST C dl cn rw9 op e) (g : EE C dl cn rw1 0 0 = EE C dl cn rw9 0 0) (ho : op1 = op) : ST C dl cn rw1 op1 e := by
  subst ho
  unfold ST EL EO at h ⊢
  rw [g]; exact h
theorem m8_le (h : e ≤ 24) : m8 e ≤ 24 := by unfold m8; split <;> omega
theorem m8_ne : m8 e ≠ 0 := by unfold m8; split <;> omega
end ST
/-- kinds where the numbers of the worlds' cells alone may be others -/
def KW (κ κ' : KM) : Prop := KF κ κ' ∧ ∀ a, (κ a).1 ≠ 0 → 10 ≤ (κ a).2.1 → κ' a = κ a
theorem KW.rf {κ : KM} : KW κ κ := ⟨KF.rf, fun _ _ _ => rfl⟩
theorem KW.tr {κ κ1 κ2 : KM} (h : KW κ κ1) (g : KW κ1 κ2) : KW κ κ2 := ⟨h.1.tr g.1, fun a ha hi => by
  have e := h.2 a ha hi
  exact (g.2 a (by rw [e]; exact ha) (by rw [e]; exact hi)).trans e⟩
theorem KU.w {i : Nat} {κ κ' : KM} (h : KU i κ κ') (hi : i < 10) : KW κ κ' := ⟨h.1, fun a ha ho => h.2 a ha (by omega)⟩
def RQ (D : va_G) (cs : Nat → ClassId) (κ : KM) (H : Heap) (C : Nat → Nat) (LN : Nat → Nat → Nat) (e : Nat → Nat) : Prop := ∀ i, i < 10 → ∃ (cn : Nat → Nat) (rw9 : Nat → Nat → Int32) (dl : Nat → Int32), T2 κ (cs (440 + i)) 8 i ∧ MW D cs H i (κ (cs (440 + i))).2.2.1 (κ (cs (440 + i))).2.2.2 C cn (LN i) rw9 dl ∧ ST C dl cn rw9 (κ (cs (420 + i))).2.2.1 (e i)
theorem RQ.fr {B0 : Nat} {D : va_G} {cs : Nat → ClassId} {T : Nat} {κ : KM} {H H1 : Heap} {C : Nat → Nat} {LN : Nat → Nat → Nat} {e : Nat → Nat} {S : List Nat} (h : RQ D cs κ H C LN e) (hT : WT B0 D cs T κ H) (_ : True) (hF : Fr B0 S κ H H1) (hS : (∀ i, i < 10 → i + 20 ∉ S) ∧ 15 ∉ S) : RQ D cs κ H1 C LN e := fun i hi => by
  obtain ⟨cn, rw9, dl, ht, hm, hs⟩ := h i hi
  exact ⟨cn, rw9, dl, ht, hm.fr hT ht rfl hF (hS.1 i hi) hS.2, hs⟩
theorem RQ.kk {B0 : Nat} {D : va_G} {cs : Nat → ClassId} {T : Nat} {κ κ1 : KM} {H : Heap} {C : Nat → Nat} {LN : Nat → Nat → Nat} {e : Nat → Nat} (h : RQ D cs κ H C LN e) (hT : WT B0 D cs T κ H) (hk : ∀ a, ((κ a).1 = 8 ∨ (κ a).1 = 5) → (κ a).2.1 < 10 → κ1 a = κ a) : RQ D cs κ1 H C LN e := fun i hi => by
  obtain ⟨cn, rw9, dl, ht, hm, hs⟩ := h i hi
  obtain ⟨-, hp, -⟩ := hT.ml ht
  have e1 := hk _ (Or.inl ht.1) (by rw [ht.2]; exact hi)
  have e2 := hk _ (Or.inr hp.1) (by rw [hp.2]; exact hi)
  exact ⟨cn, rw9, dl, ⟨by rw [e1]; exact ht.1, by rw [e1]; exact ht.2⟩, by rw [e1]; exact hm, by rw [e2]; exact hs⟩
theorem RQ.up {B0 : Nat} {D : va_G} {cs : Nat → ClassId} {T : Nat} {κ κ1 : KM} {H H1 : Heap} {C cn ln : Nat → Nat} {rw9 : Nat → Nat → Int32} {dl : Nat → Int32} {LN : Nat → Nat → Nat} {e : Nat → Nat} {k e1 : Nat} {S : List Nat} (h : RQ D cs κ H C LN e) (hT : WT B0 D cs T κ H) (hk : k < 10) (hF : Fr B0 S κ H H1) (hS : ∀ x ∈ S, x = k ∨ x = k + 20 ∨ x = k + 40) (hu : KU k κ κ1)
    (hm : MW D cs H1 k (κ1 (cs (440 + k))).2.2.1 (κ1 (cs (440 + k))).2.2.2 C cn ln rw9 dl) (hs : ST C dl cn rw9 (κ1 (cs (420 + k))).2.2.1 e1) : RQ D cs κ1 H1 C (up9 LN k ln) (up9 e k e1) := fun i hi => by
  obtain ⟨cn0, rw0, dl0, ht, hm0, hs0⟩ := h i hi
  by_cases hz : i = k
  · subst hz
    rw [up9_r, up9_r]
    exact ⟨cn, rw9, dl, hu.1.t2 ht (by decide), hm, hs⟩
  · rw [up9_n hz, up9_n hz]
    obtain ⟨-, hp, -⟩ := hT.ml ht
    have e1 := hu.2 _ (by rw [ht.1]; decide) (by rw [ht.2]; exact hz)
    have e2 := hu.2 _ (by rw [hp.1]; decide) (by rw [hp.2]; exact hz)
    refine ⟨cn0, rw0, dl0, hu.1.t2 ht (by decide), ?_, by rw [e2]; exact hs0⟩
    rw [e1]
    refine hm0.fr hT ht rfl hF (fun hx => ?_) (fun hx => ?_)
    · have := hS _ hx; omega
    · have := hS _ hx; omega
/-- what all rows of all worlds may take -/
def PotN (LN : Nat → Nat → Nat) : Nat := 2 * sumN (fun i => sumN (LN i) 16) 10
def GQ (H0 H : Heap) (LN LN1 : Nat → Nat → Nat) (k n : Nat) : Prop := Gr H0 H k n ∧ 35 * k ≤ n ∧ n + PotN LN ≤ PotN LN1
theorem GQ.rf {H : Heap} {LN : Nat → Nat → Nat} : GQ H H LN LN 0 0 := ⟨Gr.rf, Nat.le_refl _, by omega⟩
theorem GQ.tr {H0 H1 H2 : Heap} {l0 l1 l2 : Nat → Nat → Nat} {k n k' n' : Nat} (h : GQ H0 H1 l0 l1 k n) (g : GQ H1 H2 l1 l2 k' n') : GQ H0 H2 l0 l2 (k + k') (n + n') :=
  ⟨h.1.tr g.1, by have := h.2.1; have := g.2.1; omega, by have := h.2.2; have := g.2.2; omega⟩
theorem GP.q {H0 H : Heap} {LN : Nat → Nat → Nat} {ln1 : Nat → Nat} {i k n : Nat} (h : GP H0 H (LN i) ln1 k n) (hi : i < 10) : GQ H0 H LN (up9 LN i ln1) k n := by
  have h2 := h.2.2
  have e : sumN (fun j => sumN (up9 LN i ln1 j) 16) 10 = sumN (fun j => sumN (LN j) 16) 10 + (sumN ln1 16 - sumN (LN i) 16) := sumN_upd hi (fun j _ hne => by rw [up9_n hne]) (by rw [up9_r]; omega)
  refine ⟨h.1, h.2.1, ?_⟩
  unfold PotN
  rw [e]
  omega
theorem RQ.pot {D : va_G} {cs : Nat → ClassId} {κ : KM} {H : Heap} {C : Nat → Nat} {LN : Nat → Nat → Nat} {e : Nat → Nat} (h : RQ D cs κ H C LN e) : PotN LN ≤ 280 * sumN C 16 + 112000 := by
  have h1 : sumN (fun i => sumN (LN i) 16) 10 ≤ sumN (fun _ => 14 * sumN C 16 + 5600) 10 := sumN_le fun i hi => by
    obtain ⟨cn, rw9, dl, -, hm, -⟩ := h i hi
    exact hm.2.2.1.sum
  have h2 : ∀ c n : Nat, sumN (fun _ => c) n = n * c := by
    intro c n
    induction n with
    | zero => exact (Nat.zero_mul c).symm
    | succ n ih => show sumN (fun _ => c) n + c = _; rw [ih, Nat.succ_mul]
  rw [h2] at h1
  unfold PotN
  omega
theorem RQ.row {D : va_G} {cs : Nat → ClassId} {κ : KM} {H : Heap} {C : Nat → Nat} {LN : Nat → Nat → Nat} {e : Nat → Nat} (h : RQ D cs κ H C LN e) {i : Nat} (hi : i < 10) : 2 * sumN (LN i) 16 ≤ PotN LN := by
  have := sumN_at (f := fun i => sumN (LN i) 16) hi
  unfold PotN
  have h2 : sumN (LN i) 16 ≤ sumN (fun i => sumN (LN i) 16) 10 := this
  omega
theorem WT.dly {B0 : Nat} {D : va_G} {cs : Nat → ClassId} {T : Nat} {κ : KM} {H : Heap} {x o : Nat} (hT : WT B0 D cs T κ H) (h : T2 κ x 7 o) : ∃ dl, Dly D cs H x dl := by
  obtain ⟨-, e, hat, pl, ne, pa, mg, ct, of, dr, d9, rfl, -, -, -, -, -, -, k1⟩ := hT.o7 h.1
  obtain ⟨-, e2, hat2, f, rfl, -⟩ := hT.o20 k1.1
  exact ⟨f, _, _, _, _, _, _, _, _, hat, hat2⟩
/-- the ghost counts are raised: all is at rest again -/
def er (i : Nat) : Nat := if i = 1 then 24 else 0
theorem EE_fix {C : Nat → Nat} {dl : Nat → Int32} {cn : Nat → Nat} {rw9 : Nat → Nat → Int32} {b : Nat} (h : EE C dl cn rw9 0 0 ≤ b) : ∃ C1 : Nat → Nat, (∀ j, C j ≤ C1 j) ∧ sumN C1 16 ≤ sumN C 16 + b ∧ EE C1 dl cn rw9 0 0 ≤ 0 := by
  refine ⟨fun j => C j + (Ph dl cn rw9 0 0 j - C j), fun j => Nat.le_add_right _ _, ?_, ?_⟩
  · rw [sumN_add]
    exact Nat.add_le_add_left h _
  · have : EE (fun j => C j + (Ph dl cn rw9 0 0 j - C j)) dl cn rw9 0 0 ≤ sumN (fun _ => 0) 16 := sumN_le fun j _ => by
      show Ph dl cn rw9 0 0 j - (C j + (Ph dl cn rw9 0 0 j - C j)) ≤ 0
      omega
    have h2 : sumN (fun _ => 0) 16 = 0 := rfl
    omega
theorem EL.mono9 {C C1 : Nat → Nat} {dl : Nat → Int32} {cn : Nat → Nat} {rw9 : Nat → Nat → Int32} {q pl op b : Nat} (h : EL C dl cn rw9 q pl op b) (hc : ∀ j, C j ≤ C1 j) : EL C1 dl cn rw9 q pl op b := by
  have := EE_mono (dl := dl) (cn := cn) (rw9 := rw9) (q0 := q) (pl := pl) (fun r _ => hc r)
  unfold EL EO at h ⊢
  omega
theorem RQ.rest {D : va_G} {cs : Nat → ClassId} {κ : KM} {H : Heap} {C : Nat → Nat} {LN : Nat → Nat → Nat} {e : Nat → Nat} (h : RQ D cs κ H C LN e) (h0 : e 0 ≤ 24) (h1 : e 1 ≤ 24) (hz : ∀ i, 2 ≤ i → i < 10 → e i = 0) (hC : sumN C 16 + 24 ≤ 12400) : ∃ C1 : Nat → Nat, sumN C1 16 ≤ sumN C 16 + 24 ∧ RQ D cs κ H C1 LN er := by
  obtain ⟨cn, rw9, dl, -, hm, hs⟩ := h 0 (by decide)
  obtain ⟨C1, c1, c2, c3⟩ := EE_fix (Nat.le_trans hs.el.le9 (m8_le h0))
  refine ⟨C1, c2, fun i hi => ?_⟩
  have hb : ∀ j, j < 16 → C1 j ≤ 12400 := fun j hj => by have := sumN_at (f := C1) hj; omega
  have hl : ∀ {cn ln : Nat → Nat}, LC C cn ln → LC C1 cn ln := fun {cn ln} g j hj => by
    obtain ⟨g1, g2, g3, g4⟩ := g j hj
    have := c1 j
    exact ⟨g1, g2, by omega, hb j hj⟩
  obtain ⟨cn', rw', dl', ht', hm', hs'⟩ := h i hi
  have hm2 : MW D cs H i (κ (cs (440 + i))).2.2.1 (κ (cs (440 + i))).2.2.2 C1 cn' (LN i) rw' dl' := ⟨hm'.1, hm'.2.1, hl hm'.2.2.1, hm'.2.2.2⟩
  by_cases e0 : i = 0
  · subst e0
    exact ⟨cn, rw9, dl, ht', ⟨hm.1, hm.2.1, hl hm.2.2.1, hm.2.2.2⟩, ST.oz c3⟩
  · by_cases e1 : i = 1
    · subst e1
      refine ⟨cn', rw', dl', ht', hm2, ST.of ?_ (by decide)⟩
      have := (hs'.el.mono9 c1)
      unfold EL at this ⊢
      exact Nat.le_trans this (m8_le h1)
    · refine ⟨cn', rw', dl', ht', hm2, ?_⟩
      have ez : er i = 0 := if_neg e1
      rw [ez]
      rw [hz i (by omega) hi] at hs'
      exact ST.oz (Nat.le_trans (EE_mono (fun r _ => c1 r)) hs'.z)
