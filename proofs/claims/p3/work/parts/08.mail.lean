/-! ===== the mail's rows: their lengths, what they hold, the room that they take ===== -/
def SQ (n : Nat) : Prop := ∃ j, n + 7 = 21 * 2 ^ j
theorem SQ.b : SQ 14 := ⟨0, rfl⟩
theorem SQ.d {n : Nat} (h : SQ n) : SQ (2 * n + 7) := by
  obtain ⟨j, h⟩ := h
  exact ⟨j + 1, by rw [Nat.pow_succ]; omega⟩
theorem SQ.lt {a b : Nat} (ha : SQ a) (hb : SQ b) (h : a < b) : 2 * a + 7 ≤ b := by
  obtain ⟨i, hi⟩ := ha
  obtain ⟨j, hj⟩ := hb
  have h1 : i < j := by
    rcases Nat.lt_or_ge i j with h2 | h2
    · exact h2
    · have := Nat.pow_le_pow_right (n := 2) (by decide) h2
      omega
  have h3 : 2 ^ (i + 1) ≤ 2 ^ j := Nat.pow_le_pow_right (by decide) h1
  rw [Nat.pow_succ] at h3
  omega
theorem SQ.s7 {n : Nat} (h : SQ n) : ∃ m, n = 7 * m ∧ 2 ≤ m := by
  obtain ⟨j, hj⟩ := h
  have : 0 < 2 ^ j := Nat.pow_pos (by decide)
  exact ⟨3 * 2 ^ j - 1, by omega, by omega⟩
/-- a row of SQ's length that has no room for one more is full -/
theorem SQ.full {n c : Nat} (h : SQ n) (h1 : 7 * c ≤ n) (h2 : ¬ 7 * c + 7 ≤ n) : n = 7 * c := by
  obtain ⟨m, e, -⟩ := h.s7
  omega
/-- of a mail's rows: the counts and the lengths under the ghost counts C -/
def LC (C cn ln : Nat → Nat) : Prop := ∀ j, j < 16 → SQ (ln j) ∧ 7 * cn j ≤ ln j ∧ ln j ≤ 14 * C j + 350 ∧ C j ≤ 12400
/-- the mail at ml: cn r messages in the row r; its length ln r, its numbers rw r -/
def MB (D : va_G) (cs : Nat → ClassId) (H : Heap) (ml : Nat) (cn ln : Nat → Nat) (rw9 : Nat → Nat → Int32) : Prop :=
  ∃ (ra ca : Nat) (t : Int32) (f : Nat → Option Nat) (ct : Nat → Int32), va_at D vwCl (ml, .inr (2, [.ref ra, .ref ca, .int t])) H ∧ va_at D vwCl (ra, .inl (cs 6, 16, .inr (.inr (.inr (.inr f))))) H ∧ va_at D vwCl (ca, .inl (cs 0, 16, .inl ct)) H ∧ (∀ j, j < 16 → ct j = nI (cn j)) ∧ ∀ j, j < 16 → ∃ a, f j = some a ∧ va_at D vwCl (a, .inl (cs 0, ln j, .inl (rw9 j))) H
theorem cell_f {c : ClassId} {n : Nat} {f g : Nat → Int32} (h : vp_cell c (n, .inl f) = vp_cell c (n, .inl g)) : ∀ j, j < n → f j = g j := fun j hj => by
  have h1 : (vp_cell c (n, .inl f)).slots[j]? = some (.int (f j)) := arrV_read _ _ hj
  have h2 : (vp_cell c (n, .inl g)).slots[j]? = some (.int (g j)) := arrV_read _ _ hj
  rw [h, h2] at h1
  exact (Value.int.inj (Option.some.inj h1)).symm
theorem cell_q {c : ClassId} {n : Nat} {f g : Nat → Option Nat} (h : vp_cell c (n, .inr (.inr (.inr (.inr f)))) = vp_cell c (n, .inr (.inr (.inr (.inr g))))) : ∀ j, j < n → f j = g j := fun j hj => by
  have h1 : (vp_cell c (n, .inr (.inr (.inr (.inr f))))).slots[j]? = some (va_rf (f j)) := arrV_read _ _ hj
  have h2 : (vp_cell c (n, .inr (.inr (.inr (.inr g))))).slots[j]? = some (va_rf (g j)) := arrV_read _ _ hj
  rw [h, h2] at h1
  have h3 := Option.some.inj h1
  cases hf : f j <;> cases hg : g j <;> rw [hf, hg] at h3 <;> simp [va_rf] at h3 ⊢
  exact h3.symm
/-- what a mail is, with the kinds of its cells -/
theorem MB.op {B0 : Nat} {D : va_G} {cs : Nat → ClassId} {T : Nat} {κ : KM} {H : Heap} {ml o : Nat} {cn ln : Nat → Nat} {rw9 : Nat → Nat → Int32} (h : MB D cs H ml cn ln rw9) (hT : WT B0 D cs T κ H) (hm : T2 κ ml 3 o) :
    ∃ (ra ca : Nat) (t : Int32) (f : Nat → Option Nat) (ct : Nat → Int32), va_at D vwCl (ml, .inr (2, [.ref ra, .ref ca, .int t])) H ∧ va_at D vwCl (ra, .inl (cs 6, 16, .inr (.inr (.inr (.inr f))))) H ∧ va_at D vwCl (ca, .inl (cs 0, 16, .inl ct)) H ∧ T2 κ ra 13 o ∧ T2 κ ca 15 o ∧ (∀ j, j < 16 → ct j = nI (cn j)) ∧ (∀ j, j < 16 → ∃ a, f j = some a ∧ va_at D vwCl (a, .inl (cs 0, ln j, .inl (rw9 j))) H ∧ T2 κ a 14 o ∧ (κ a).2.2.1 = j) ∧ B0 ≤ ml ∧ B0 ≤ ra ∧ B0 ≤ ca := by
  obtain ⟨ra, ca, t, f, ct, h1, h2, h3, h4, h5⟩ := h
  obtain ⟨hb, e, hat, ra', ca', t', rfl, k1, k2⟩ := hT.o3 hm.1
  rw [hm.2] at k1 k2
  obtain rfl : ra' = ra := Value.ref.inj (FI.eq (k := 0) ⟨_, h1, rfl⟩ hat rfl (by decide) rfl)
  obtain rfl : ca' = ca := Value.ref.inj (FI.eq (k := 1) ⟨_, h1, rfl⟩ hat rfl (by decide) rfl)
  obtain ⟨hb2, e2, hat2, f', rfl, k3⟩ := hT.o13 k1.1
  rw [k1.2] at k3
  obtain ⟨hb3, -⟩ := hT.o15 k2.1
  refine ⟨_, _, t, f, ct, h1, h2, h3, k1, k2, h4, fun j hj => ?_, hb, hb2, hb3⟩
  obtain ⟨a, g1, g2⟩ := h5 j hj
  obtain ⟨a', g3, g4, g5⟩ := k3 j hj
  have q1 : H[ra']? = some (vp_cell (cs 6) (16, .inr (.inr (.inr (.inr f))))) := h2
  have q2 : H[ra']? = some (vp_cell (cs 6) (16, .inr (.inr (.inr (.inr f'))))) := hat2
  rw [q1] at q2
  have q3 := cell_q (Option.some.inj q2) j hj
  rw [g1, g3] at q3
  obtain rfl := Option.some.inj q3
  exact ⟨a, g1, g2, g4, g5⟩
theorem MB.fr {B0 : Nat} {D : va_G} {cs : Nat → ClassId} {T : Nat} {κ : KM} {H H1 : Heap} {ml o : Nat} {cn ln : Nat → Nat} {rw9 : Nat → Nat → Int32} {S : List Nat} (h : MB D cs H ml cn ln rw9) (hT : WT B0 D cs T κ H) (hm : T2 κ ml 3 o) (hF : Fr B0 S κ H H1) (ho : o ∉ S) : MB D cs H1 ml cn ln rw9 := by
  obtain ⟨ra, ca, t, f, ct, h1, h2, h3, k1, k2, h4, h5, -⟩ := h.op hT hm
  have k : ∀ {q c : Nat} {e : va_E}, va_at D vwCl (q, e) H → T2 κ q c o → c ≠ 0 → va_at D vwCl (q, e) H1 := fun {q c e} hq ht hc => hq.kept (hF.2 q hq.lt (Or.inr ⟨by rw [ht.1]; exact hc, by rw [ht.2]; exact ho⟩))
  refine ⟨ra, ca, t, f, ct, k h1 hm (by decide), k h2 k1 (by decide), k h3 k2 (by decide), h4, fun j hj => ?_⟩
  obtain ⟨a, g1, g2, g3, -⟩ := h5 j hj
  exact ⟨a, g1, k g2 g3 (by decide)⟩
/-- a message came into row r0: its kind, from and to -/
def PT (cn cn' : Nat → Nat) (rw9 rw' : Nat → Nat → Int32) (r0 : Nat) (kd fm to : Int32) : Prop := (∀ q, q < 16 → q ≠ r0 → cn' q = cn q) ∧ cn' r0 = cn r0 + 1 ∧ (∀ q, q < 16 → ∀ i, i < 7 * cn q → rw' q i = rw9 q i) ∧ rw' r0 (7 * cn r0) = kd ∧ rw' r0 (7 * cn r0 + 1) = fm ∧ rw' r0 (7 * cn r0 + 2) = to
/-- room taken: by lengths -/
def GP (H0 H : Heap) (ln ln1 : Nat → Nat) (k n : Nat) : Prop := Gr H0 H k n ∧ 35 * k ≤ n ∧ n + 2 * sumN ln 16 ≤ 2 * sumN ln1 16
theorem GP.rf {H : Heap} {ln : Nat → Nat} : GP H H ln ln 0 0 := ⟨Gr.rf, Nat.le_refl _, by omega⟩
theorem GP.tr {H0 H1 H2 : Heap} {l0 l1 l2 : Nat → Nat} {k n k' n' : Nat} (h : GP H0 H1 l0 l1 k n) (g : GP H1 H2 l1 l2 k' n') : GP H0 H2 l0 l2 (k + k') (n + n') :=
  ⟨h.1.tr g.1, by have := h.2.1; have := g.2.1; omega, by have := h.2.2; have := g.2.2; omega⟩
abbrev up9 {α : Type} (f : Nat → α) (r : Nat) (v : α) : Nat → α := fun j => if j = r then v else f j
theorem up9_r {α : Type} {f : Nat → α} {r : Nat} {v : α} : up9 f r v r = v := if_pos rfl
theorem up9_n {α : Type} {f : Nat → α} {r j : Nat} {v : α} (h : j ≠ r) : up9 f r v j = f j := if_neg h
theorem LC.put {C cn ln : Nat → Nat} {r n : Nat} (h : LC C cn ln) (hr : r < 16) (hcn : cn r ≤ C r + 24) (hn : (n = ln r ∧ 7 * cn r + 7 ≤ ln r) ∨ (n = 2 * ln r + 7 ∧ ln r = 7 * cn r)) : LC C (up9 cn r (cn r + 1)) (up9 ln r n) := fun j hj => by
  obtain ⟨h1, h2, h3, h4⟩ := h j hj
  by_cases e : j = r
  · subst e
    rw [up9_r, up9_r]
    rcases hn with ⟨rfl, h5⟩ | ⟨rfl, h5⟩
    · exact ⟨h1, by omega, h3, h4⟩
    · exact ⟨h1.d, by omega, by omega, h4⟩
  · rw [up9_n e, up9_n e]
    exact ⟨h1, h2, h3, h4⟩
theorem PT.put {cn : Nat → Nat} {rw9 : Nat → Nat → Int32} {r : Nat} {g : Nat → Int32} {kd fm to : Int32} (h1 : ∀ i, i < 7 * cn r → g i = rw9 r i) (h2 : g (7 * cn r) = kd) (h3 : g (7 * cn r + 1) = fm) (h4 : g (7 * cn r + 2) = to) : PT cn (up9 cn r (cn r + 1)) rw9 (up9 rw9 r g) r kd fm to :=
  ⟨fun q _ hne => up9_n hne, up9_r, fun q _ i hi => by
    by_cases e : q = r
    · subst e; rw [up9_r]; exact h1 i hi
    · rw [up9_n e], by rw [up9_r]; exact h2, by rw [up9_r]; exact h3, by rw [up9_r]; exact h4⟩
theorem GP.up {H0 H : Heap} {ln : Nat → Nat} {r n' k n : Nat} (hg : Gr H0 H k n) (hr : r < 16) (h : (n' = ln r ∧ k = 0 ∧ n = 0) ∨ (k = 1 ∧ n = n' ∧ 2 * ln r + 7 ≤ n' ∧ 14 ≤ ln r)) : GP H0 H ln (up9 ln r n') k n := by
  have e : sumN (up9 ln r n') 16 = sumN ln 16 + (n' - ln r) := sumN_upd hr (fun k _ hne => up9_n hne) (by rw [up9_r]; omega)
  refine ⟨hg, by omega, by rw [e]; omega⟩
/-- the mail after a message was put: its cells now -/
theorem MB.put {B0 : Nat} {D : va_G} {cs : Nat → ClassId} {κ : KM} {Hb H : Heap} {ws : va_W} {ms : List Nat} {locs : List Loc} {ml ra ca o r n' : Nat} {t : Int32} {f f' : Nat → Option Nat} {ct : Nat → Int32} {cn ln : Nat → Nat} {rw9 : Nat → Nat → Int32} {g' : Nat → Int32} (hB : Bx B0 D Hb ws ms H locs)
    (hr : ∀ j, j < 16 → ∃ a, f j = some a ∧ va_at D vwCl (a, .inl (cs 0, ln j, .inl (rw9 j))) Hb ∧ T2 κ a 14 o ∧ (κ a).2.2.1 = j) (hct : ∀ j, j < 16 → ct j = nI (cn j))
    (h1 : va_at D vwCl (ml, .inr (2, [.ref ra, .ref ca, .int t])) H) (h2 : va_at D vwCl (ra, .inl (cs 6, 16, .inr (.inr (.inr (.inr f'))))) H) (h3 : va_at D vwCl (ca, .inl (cs 0, 16, .inl (upd ct r (nI (cn r + 1))))) H)
    (hf : ∀ j, j < 16 → j ≠ r → f' j = f j) (hne : ∀ a j, j ≠ r → va_at D vwCl (a, .inl (cs 0, ln j, .inl (rw9 j))) Hb → T2 κ a 14 o → (κ a).2.2.1 = j → a ∉ ms) (hrr : ∃ a, f' r = some a ∧ va_at D vwCl (a, .inl (cs 0, n', .inl g')) H) : MB D cs H ml (up9 cn r (cn r + 1)) (up9 ln r n') (up9 rw9 r g') := by
  refine ⟨ra, ca, t, f', _, h1, h2, h3, fun j hj => ?_, fun j hj => ?_⟩
  · by_cases e : j = r
    · subst e; rw [up9_r, pk_us]
    · rw [up9_n e, pk_un e]; exact hct j hj
  · by_cases e : j = r
    · subst e; rw [up9_r, up9_r]; exact hrr
    · rw [up9_n e, up9_n e, hf j hj e]
      obtain ⟨a, g1, g2, g3, g4⟩ := hr j hj
      exact ⟨a, g1, g2.kept (hB.2.2.2.1 a g2.lt (hne a j e g2 g3 g4))⟩
theorem K15u {ct : Nat → Int32} {cn : Nat → Nat} {r n : Nat} (h : ∀ j, j < 16 → ct j = nI (cn j)) (hc : ∀ j, j < 16 → cn j ≤ 20000) (hn : n ≤ 20000) : ∀ j, j < 16 → ∃ m, m ≤ 20000 ∧ upd ct r (nI n) j = nI m := fun j hj => by
  by_cases e : j = r
  · subst e; exact ⟨n, hn, pk_us⟩
  · exact ⟨cn j, hc j hj, (pk_un e).trans (h j hj)⟩
theorem K13k {κ κ' : KM} {f : Nat → Option Nat} {o : Nat} (h : ∀ j, j < 16 → ∃ a, f j = some a ∧ T2 κ a 14 o ∧ (κ a).2.2.1 = j) (hx : KX κ κ') : ∀ j, j < 16 → ∃ a, f j = some a ∧ T2 κ' a 14 o ∧ (κ' a).2.2.1 = j := fun j hj => by
  obtain ⟨a, h1, h2, h3⟩ := h j hj
  exact ⟨a, h1, hx.f.t2 h2 (by decide), by rw [hx.n h2 (by decide)]; exact h3⟩
theorem K13u {κ κ' : KM} {f : Nat → Option Nat} {o r q : Nat} (h : ∀ j, j < 16 → ∃ a, f j = some a ∧ T2 κ a 14 o ∧ (κ a).2.2.1 = j) (hx : KX κ κ') (hq : T2 κ' q 14 o) (hp : (κ' q).2.2.1 = r) : ∀ j, j < 16 → ∃ a, va_up f r (some q) j = some a ∧ T2 κ' a 14 o ∧ (κ' a).2.2.1 = j := fun j hj => by
  by_cases e : j = r
  · subst e; exact ⟨q, if_pos rfl, hq, hp⟩
  · obtain ⟨a, h1, h2, h3⟩ := K13k h hx j hj
    exact ⟨a, (if_neg e).trans h1, h2, h3⟩
theorem cpy0 {f g : Nat → Int32} {n i : Nat} (hn : n < 2 ^ 31) (hi : i < n) : va_cpy f g (0 : Int32).toNatClampNeg (0 : Int32).toNatClampNeg (nI n).toNatClampNeg i = f i := by
  rw [show (0 : Int32).toNatClampNeg = 0 from rfl, nI_clamp hn]
  unfold va_cpy
  rw [if_pos ⟨Nat.zero_le _, by omega⟩]
  congr 1
  omega
/-- the mail where counts alone were changed -/
theorem MB.set {B0 : Nat} {D : va_G} {cs : Nat → ClassId} {κ : KM} {Hb H : Heap} {ws : va_W} {ms : List Nat} {locs : List Loc} {ml ra ca o : Nat} {t : Int32} {f : Nat → Option Nat} {ct' : Nat → Int32} {cn' ln : Nat → Nat} {rw9 : Nat → Nat → Int32} (hB : Bx B0 D Hb ws ms H locs)
    (hr : ∀ j, j < 16 → ∃ a, f j = some a ∧ va_at D vwCl (a, .inl (cs 0, ln j, .inl (rw9 j))) Hb ∧ T2 κ a 14 o ∧ (κ a).2.2.1 = j)
    (h1 : va_at D vwCl (ml, .inr (2, [.ref ra, .ref ca, .int t])) H) (h2 : va_at D vwCl (ra, .inl (cs 6, 16, .inr (.inr (.inr (.inr f))))) H) (h3 : va_at D vwCl (ca, .inl (cs 0, 16, .inl ct')) H) (hct : ∀ j, j < 16 → ct' j = nI (cn' j))
    (hne : ∀ a, T2 κ a 14 o → a ∉ ms) : MB D cs H ml cn' ln rw9 := by
  refine ⟨ra, ca, t, f, _, h1, h2, h3, hct, fun j hj => ?_⟩
  obtain ⟨a, g1, g2, g3, g4⟩ := hr j hj
  exact ⟨a, g1, g2.kept (hB.2.2.2.1 a g2.lt (hne a g3))⟩
theorem up9_ct {ct : Nat → Int32} {cn : Nat → Nat} {r n : Nat} (h : ∀ j, j < 16 → ct j = nI (cn j)) : ∀ j, j < 16 → upd ct r (nI n) j = nI (up9 cn r n j) := fun j hj => by
  by_cases e : j = r
  · subst e; rw [up9_r, pk_us]
  · rw [up9_n e, pk_un e]; exact h j hj
theorem LC.clear {C cn ln : Nat → Nat} {r : Nat} (h : LC C cn ln) : LC C (up9 cn r 0) ln := fun j hj => by
  obtain ⟨h1, h2, h3, h4⟩ := h j hj
  by_cases e : j = r
  · subst e; rw [up9_r]; exact ⟨h1, by omega, h3, h4⟩
  · rw [up9_n e]; exact ⟨h1, h2, h3, h4⟩
theorem LC.zero {C cn ln : Nat → Nat} (h : LC C cn ln) : LC C (fun _ => 0) ln := fun j hj => by
  obtain ⟨h1, h2, h3, h4⟩ := h j hj
  exact ⟨h1, (by show 7 * 0 ≤ ln j; omega), h3, h4⟩
/-- one cell was written to: the kinds stand -/
theorem WT.w1 {B0 : Nat} {D : va_G} {cs : Nat → ClassId} {T : Nat} {κ : KM} {H H1 : Heap} {v : Nat} {e : va_E} (hT : WT B0 D cs T κ H) (hs : ∀ q, q < H.size → q ≠ v → H1[q]? = H[q]?) (hat : va_at D vwCl (v, e) H1) (ho : okE cs T κ (κ v) e) : WT B0 D cs T κ H1 := fun a ha => by
  obtain ⟨h0, e0, h1, h2⟩ := hT a ha
  by_cases q : a = v
  · subst q; exact ⟨h0, e, hat, ho⟩
  · exact ⟨h0, e0, h1.kept (hs a h1.lt q), h2⟩
theorem Fr.w1 {B0 : Nat} {S : List Nat} {κ : KM} {H H1 : Heap} {v o c : Nat} (hz : H.size ≤ H1.size) (hs : ∀ q, q < H.size → q ≠ v → H1[q]? = H[q]?) (hv : T2 κ v c o) (hb : B0 ≤ v) (ho : o ∈ S) : Fr B0 S κ H H1 :=
  ⟨hz, fun q hq hc => hs q hq (fun e => by
    subst e
    rcases hc with h | h
    · omega
    · exact h.2 (by rw [hv.2]; exact ho))⟩
/-! copying a mail, row by row -/
def mx (cn cw : Nat → Nat) (r : Nat) : Nat → Nat := fun j => if j < r then cn j else cw j
theorem mx_lt {cn cw : Nat → Nat} {r j : Nat} (h : j < r) : mx cn cw r j = cn j := if_pos h
theorem mx_ge {cn cw : Nat → Nat} {r j : Nat} (h : ¬ j < r) : mx cn cw r j = cw j := if_neg h
theorem mx_s {cn cw : Nat → Nat} {r j : Nat} : up9 (mx cn cw r) r (cn r) j = mx cn cw (r + 1) j := by
  by_cases e : j = r
  · subst e; rw [up9_r, mx_lt (by omega)]
  · rw [up9_n e]
    by_cases h : j < r
    · rw [mx_lt h, mx_lt (by omega)]
    · rw [mx_ge h, mx_ge (by omega)]
theorem MB.cg {D : va_G} {cs : Nat → ClassId} {H : Heap} {ml : Nat} {cn cn' ln : Nat → Nat} {rw9 : Nat → Nat → Int32} (h : MB D cs H ml cn ln rw9) (e : ∀ j, j < 16 → cn j = cn' j) : MB D cs H ml cn' ln rw9 := by
  obtain ⟨ra, ca, t, f, ct, h1, h2, h3, h4, h5⟩ := h
  exact ⟨ra, ca, t, f, ct, h1, h2, h3, fun j hj => (h4 j hj).trans (by rw [e j hj]), h5⟩
theorem LC.cg {C cn cn' ln : Nat → Nat} (h : LC C cn ln) (e : ∀ j, j < 16 → cn j = cn' j) : LC C cn' ln := fun j hj => by
  rw [← e j hj]; exact h j hj
theorem MB.pc {B0 : Nat} {D : va_G} {cs : Nat → ClassId} {κ : KM} {Hb H : Heap} {ws : va_W} {ms : List Nat} {locs : List Loc} {ml ra ca o r n' c' : Nat} {t : Int32} {f f' : Nat → Option Nat} {ct : Nat → Int32} {cn ln : Nat → Nat} {rw9 : Nat → Nat → Int32} {g' : Nat → Int32} (hB : Bx B0 D Hb ws ms H locs)
    (hr : ∀ j, j < 16 → ∃ a, f j = some a ∧ va_at D vwCl (a, .inl (cs 0, ln j, .inl (rw9 j))) Hb ∧ T2 κ a 14 o ∧ (κ a).2.2.1 = j) (hct : ∀ j, j < 16 → ct j = nI (cn j))
    (h1 : va_at D vwCl (ml, .inr (2, [.ref ra, .ref ca, .int t])) H) (h2 : va_at D vwCl (ra, .inl (cs 6, 16, .inr (.inr (.inr (.inr f'))))) H) (h3 : va_at D vwCl (ca, .inl (cs 0, 16, .inl (upd ct r (nI c')))) H)
    (hf : ∀ j, j < 16 → j ≠ r → f' j = f j) (hne : ∀ a j, j ≠ r → va_at D vwCl (a, .inl (cs 0, ln j, .inl (rw9 j))) Hb → T2 κ a 14 o → (κ a).2.2.1 = j → a ∉ ms) (hrr : ∃ a, f' r = some a ∧ va_at D vwCl (a, .inl (cs 0, n', .inl g')) H) : MB D cs H ml (up9 cn r c') (up9 ln r n') (up9 rw9 r g') := by
  refine ⟨ra, ca, t, f', _, h1, h2, h3, fun j hj => ?_, fun j hj => ?_⟩
  · by_cases e : j = r
    · subst e; rw [up9_r, pk_us]
    · rw [up9_n e, pk_un e]; exact hct j hj
  · by_cases e : j = r
    · subst e; rw [up9_r, up9_r]; exact hrr
    · rw [up9_n e, up9_n e, hf j hj e]
      obtain ⟨a, g1, g2, g3, g4⟩ := hr j hj
      exact ⟨a, g1, g2.kept (hB.2.2.2.1 a g2.lt (hne a j e g2 g3 g4))⟩
theorem GN.up {l0 l1 : Nat → Nat} {k n k' m' r n' : Nat} (h1 : 35 * k ≤ n) (h2 : n + 2 * sumN l0 16 ≤ 2 * sumN l1 16) (hr : r < 16) (h : (n' = l1 r ∧ k' = k ∧ m' = n) ∨ (k' = k + 1 ∧ m' = n + n' ∧ 2 * l1 r + 7 ≤ n' ∧ 14 ≤ l1 r)) : 35 * k' ≤ m' ∧ m' + 2 * sumN l0 16 ≤ 2 * sumN (up9 l1 r n') 16 := by
  have e : sumN (up9 l1 r n') 16 = sumN l1 16 + (n' - l1 r) := sumN_upd hr (fun k _ hne => up9_n hne) (by rw [up9_r]; omega)
  rw [e]
  omega
theorem LC.row {C cn cw ln lv : Nat → Nat} {r n' : Nat} (h : LC C (mx cn cw r) ln) (hv : LC C cn lv) (hr : r < 16) (hn : (n' = ln r ∧ 7 * cn r ≤ ln r) ∨ n' = lv r) : LC C (mx cn cw (r + 1)) (up9 ln r n') := fun j hj => by
  by_cases e : j = r
  · subst e
    rw [up9_r, mx_lt (by omega)]
    rcases hn with ⟨rfl, h1⟩ | rfl
    · obtain ⟨g1, g2, g3, g4⟩ := h j hj
      exact ⟨g1, h1, g3, g4⟩
    · exact hv j hj
  · rw [up9_n e, ← mx_s, up9_n e]
    exact h j hj
theorem rw_row {cn : Nat → Nat} {rw9 rww : Nat → Nat → Int32} {r : Nat} {g : Nat → Int32} (h : ∀ q, q < r → ∀ i, i < 7 * cn q → rww q i = rw9 q i) (hg : ∀ i, i < 7 * cn r → g i = rw9 r i) : ∀ q, q < r + 1 → ∀ i, i < 7 * cn q → up9 rww r g q i = rw9 q i := fun q hq i hi => by
  by_cases e : q = r
  · subst e; rw [up9_r]; exact hg i hi
  · rw [up9_n e]; exact h q (by omega) i hi
theorem WT.ct {B0 : Nat} {D : va_G} {cs : Nat → ClassId} {T : Nat} {κ : KM} {H : Heap} {ca o : Nat} {ct : Nat → Int32} (hT : WT B0 D cs T κ H) (hc : T2 κ ca 15 o) (h : va_at D vwCl (ca, .inl (cs 0, 16, .inl ct)) H) : ∀ j, j < 16 → ∃ n, n ≤ 20000 ∧ ct j = nI n := fun j hj => by
  obtain ⟨-, e, hat, f, rfl, hf⟩ := hT.o15 hc.1
  have q1 : H[ca]? = some (vp_cell (cs 0) (16, .inl ct)) := h
  have q2 : H[ca]? = some (vp_cell (cs 0) (16, .inl f)) := hat
  rw [q1] at q2
  obtain ⟨n, h1, h2⟩ := hf j hj
  exact ⟨n, h1, (cell_f (Option.some.inj q2) j hj).trans h2⟩
theorem K15v {ct : Nat → Int32} {r n : Nat} (h : ∀ j, j < 16 → ∃ m, m ≤ 20000 ∧ ct j = nI m) (hn : n ≤ 20000) : ∀ j, j < 16 → ∃ m, m ≤ 20000 ∧ upd ct r (nI n) j = nI m := fun j hj => by
  by_cases e : j = r
  · subst e; exact ⟨n, hn, pk_us⟩
  · obtain ⟨m, h1, h2⟩ := h j hj
    exact ⟨m, h1, (pk_un e).trans h2⟩
