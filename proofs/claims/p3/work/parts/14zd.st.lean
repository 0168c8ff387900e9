/-! ===== statements, as they are read ===== -/
abbrev Er : Type := Int32 × Nat
def numB (B : Nat → Int32) (a b z : Nat) : Er ⊕ (Nat × Nat) := if isd (B z) then (if a ≤ nvl B z 0 ∧ nvl B z 0 ≤ b then .inr (nvl B z 0, skp B (dgE B z)) else .inl (-3, z)) else .inl (-2, z)
def sigB (B : Nat → Int32) (mm z : Nat) : Er ⊕ (Int32 × Nat) := if isd (B (sgz B z)) then (if nvl B (sgz B z) 0 ≤ mm then .inr (sgv B z, skp B (dgE B (sgz B z))) else .inl (-3, z)) else .inl (-2, sgz B z)
abbrev F3 : Type := (Nat → Int32) × (Nat → Int32) × (Nat → Int32)
def clkB (B : Nat → Int32) (pl : Nat) (tc fo fd : Nat → Int32) (z : Nat) : Er ⊕ (F3 × Nat) := match numB B 0 (pl - 1) z with
  | .inl e => .inl e
  | .inr (k, z2) => if tc k ≠ 0 then .inl (-4, z) else match sigB B 999 z2 with
    | .inl e => .inl e
    | .inr (v1, z3) => match sigB B 50 z3 with
      | .inl e => .inl e
      | .inr (v2, z4) => .inr ((upd tc k 1, upd fo k v1, upd fd k v2), z4)
def lnkB (B : Nat → Int32) (pl : Nat) (fl : Nat → Int32) (z : Nat) : Er ⊕ ((Nat → Int32) × Nat) := match numB B 0 (pl - 1) z with
  | .inl e => .inl e
  | .inr (i, z2) => match numB B 0 (pl - 1) z2 with
    | .inl e => .inl e
    | .inr (j, z3) => if i = j ∨ fl (8 * i + j) ≠ 0 then .inl (-4, z2) else match numB B 1 9 z3 with
      | .inl e => .inl e
      | .inr (t, z4) => match numB B 1 9 z4 with
        | .inl e => .inl e
        | .inr (u, z5) => .inr (upd (upd fl (8 * i + j) (nI t)) (8 * j + i) (nI u), z5)
/-- need, patience, the margin's codes, the told clocks, offsets, drifts, delays -/
abbrev SST : Type := Int32 × Int32 × Option (List Int32) × (Nat → Int32) × (Nat → Int32) × (Nat → Int32) × (Nat → Int32)
def stmB (B : Nat → Int32) (pl : Nat) (z : Nat) (s : SST) : Er ⊕ (SST × Nat) :=
  if isWb B 2 z = true then (match clkB B pl s.2.2.2.1 s.2.2.2.2.1 s.2.2.2.2.2.1 (skp B (z + nT 2)) with
    | .inl e => .inl e
    | .inr ((tc, fo, fd), q) => .inr ((s.1, s.2.1, s.2.2.1, tc, fo, fd, s.2.2.2.2.2.2), q))
  else if isWb B 3 z = true then (match lnkB B pl s.2.2.2.2.2.2 (skp B (z + nT 3)) with
    | .inl e => .inl e
    | .inr (fl, q) => .inr ((s.1, s.2.1, s.2.2.1, s.2.2.2.1, s.2.2.2.2.1, s.2.2.2.2.2.1, fl), q))
  else if isWb B 4 z = true ∧ s.1 = 0 then (match numB B 1 pl (skp B (z + nT 4)) with
    | .inl e => .inl e
    | .inr (v, q) => .inr ((nI v, s.2), q))
  else if isWb B 5 z = true ∧ s.2.1 = 0 then (match numB B 1 200 (skp B (z + nT 5)) with
    | .inl e => .inl e
    | .inr (v, q) => .inr ((s.1, nI v, s.2.2), q))
  else if isWb B 6 z = true ∧ s.2.2.1 = none then (match sumD B 4 (skp B (z + nT 6)) with
    | .inl e => .inl e
    | .inr (l, q) => .inr ((s.1, s.2.1, some l, s.2.2.2), q))
  else .inl (-2, z)
/-- the statements up to the end -/
def stsB (B : Nat → Int32) (pl : Nat) : Nat → Nat → SST → Er ⊕ SST
  | 0, _, s => .inr s
  | k + 1, z, s => if B z = -1 then .inr s else match stmB B pl z s with
    | .inl e => .inl e
    | .inr (s1, q) => if B q = nI 59 then stsB B pl k (skp B (q + 1)) s1 else .inl (-2, q)
def SPB (B : Nat → Int32) (pl z : Nat) (s : SST) : Er ⊕ SST := stsB B pl (601 - z) z s
def S00 : SST := (0, 0, none, fun _ => 0, fun _ => 0, fun _ => 0, fun _ => 0)
/-- the whole text: an error, or the players and what is told -/
def rdB (B : Nat → Int32) : Er ⊕ (Nat × SST) :=
  if isWb B 1 (skp B 0) = true then (match numB B 1 8 (skp B (skp B 0 + nT 1)) with
    | .inl e => .inl e
    | .inr (pl, q) => if B q = nI 59 then (match SPB B pl (skp B (q + 1)) S00 with
      | .inl e => .inl e
      | .inr s => .inr (pl, s)) else .inl (-2, q))
  else .inl (-2, skp B 0)
section NB
variable {B : Nat → Int32} {n a b z mm : Nat}
theorem num_ok (hd : isd (B z)) (h1 : a ≤ nvl B z 0) (h2 : nvl B z 0 ≤ b) : numB B a b z = .inr (nvl B z 0, skp B (dgE B z)) := by
  unfold numB; rw [if_pos hd, if_pos ⟨h1, h2⟩]
theorem num_nd (hd : ¬ isd (B z)) : numB B a b z = .inl (-2, z) := by unfold numB; rw [if_neg hd]
theorem num_or (hd : isd (B z)) (h : ¬ (a ≤ nvl B z 0 ∧ nvl B z 0 ≤ b)) : numB B a b z = .inl (-3, z) := by unfold numB; rw [if_pos hd, if_neg h]
theorem sig_ok (hd : isd (B (sgz B z))) (h : nvl B (sgz B z) 0 ≤ mm) : sigB B mm z = .inr (sgv B z, skp B (dgE B (sgz B z))) := by unfold sigB; rw [if_pos hd, if_pos h]
theorem sig_nd (hd : ¬ isd (B (sgz B z))) : sigB B mm z = .inl (-2, sgz B z) := by unfold sigB; rw [if_neg hd]
theorem sig_or (hd : isd (B (sgz B z))) (h : ¬ nvl B (sgz B z) 0 ≤ mm) : sigB B mm z = .inl (-3, z) := by unfold sigB; rw [if_pos hd, if_neg h]
theorem numB_pg (hY : BY B n) {v q : Nat} (h : numB B a b z = .inr (v, q)) : z < q ∧ q ≤ n ∧ a ≤ v ∧ v ≤ b := by
  unfold numB at h
  split at h
  · rename_i hd
    split at h
    · rename_i h9; cases h; exact ⟨(dgE_lt hY hd).1, (dgE_lt hY hd).2, h9⟩
    · cases h
  · cases h
theorem sgz_le (hY : BY B n) (hz : z ≤ n) : z ≤ sgz B z ∧ sgz B z ≤ n := by
  unfold sgz
  split
  · rename_i h
    have := mark_lt hY (by decide) h
    have := skp_b hY (z := z + 1) (by omega)
    omega
  · omega
theorem sigB_pg (hY : BY B n) (hz : z ≤ n) {v : Int32} {q : Nat} (h : sigB B mm z = .inr (v, q)) : z < q ∧ q ≤ n := by
  unfold sigB at h
  split at h
  · rename_i hd
    split at h
    · cases h
      have := sgz_le hY hz
      have := dgE_lt hY hd
      omega
    · cases h
  · cases h
end NB
section CB
variable {B : Nat → Int32} {pl z k z2 z3 z4 z5 i j t u : Nat} {tc fo fd fl : Nat → Int32} {v1 v2 : Int32} {e : Er}
theorem clk_1 (h : numB B 0 (pl - 1) z = .inl e) : clkB B pl tc fo fd z = .inl e := by unfold clkB; rw [h]
theorem clk_2 (h : numB B 0 (pl - 1) z = .inr (k, z2)) (h2 : tc k ≠ 0) : clkB B pl tc fo fd z = .inl (-4, z) := by unfold clkB; rw [h]; exact if_pos h2
theorem clk_3 (h : numB B 0 (pl - 1) z = .inr (k, z2)) (h2 : tc k = 0) (h3 : sigB B 999 z2 = .inl e) : clkB B pl tc fo fd z = .inl e := by
  unfold clkB; rw [h]; dsimp only; rw [if_neg (fun g => g h2), h3]
theorem clk_4 (h : numB B 0 (pl - 1) z = .inr (k, z2)) (h2 : tc k = 0) (h3 : sigB B 999 z2 = .inr (v1, z3)) (h4 : sigB B 50 z3 = .inl e) : clkB B pl tc fo fd z = .inl e := by
  unfold clkB; rw [h]; dsimp only; rw [if_neg (fun g => g h2), h3]; dsimp only; rw [h4]
theorem clk_5 (h : numB B 0 (pl - 1) z = .inr (k, z2)) (h2 : tc k = 0) (h3 : sigB B 999 z2 = .inr (v1, z3)) (h4 : sigB B 50 z3 = .inr (v2, z4)) : clkB B pl tc fo fd z = .inr ((upd tc k 1, upd fo k v1, upd fd k v2), z4) := by
  unfold clkB; rw [h]; dsimp only; rw [if_neg (fun g => g h2), h3]; dsimp only; rw [h4]
theorem lnk_1 (h : numB B 0 (pl - 1) z = .inl e) : lnkB B pl fl z = .inl e := by unfold lnkB; rw [h]
theorem lnk_2 (h : numB B 0 (pl - 1) z = .inr (i, z2)) (h2 : numB B 0 (pl - 1) z2 = .inl e) : lnkB B pl fl z = .inl e := by unfold lnkB; rw [h]; dsimp only; rw [h2]
theorem lnk_3 (h : numB B 0 (pl - 1) z = .inr (i, z2)) (h2 : numB B 0 (pl - 1) z2 = .inr (j, z3)) (h3 : i = j ∨ fl (8 * i + j) ≠ 0) : lnkB B pl fl z = .inl (-4, z2) := by
  unfold lnkB; rw [h]; dsimp only; rw [h2]; exact if_pos h3
theorem lnk_4 (h : numB B 0 (pl - 1) z = .inr (i, z2)) (h2 : numB B 0 (pl - 1) z2 = .inr (j, z3)) (h3 : ¬ i = j) (h4 : fl (8 * i + j) = 0) (h5 : numB B 1 9 z3 = .inl e) : lnkB B pl fl z = .inl e := by
  unfold lnkB; rw [h]; dsimp only; rw [h2]; dsimp only; rw [if_neg (fun g => g.elim h3 (fun g => g h4)), h5]
theorem lnk_5 (h : numB B 0 (pl - 1) z = .inr (i, z2)) (h2 : numB B 0 (pl - 1) z2 = .inr (j, z3)) (h3 : ¬ i = j) (h4 : fl (8 * i + j) = 0) (h5 : numB B 1 9 z3 = .inr (t, z4)) (h6 : numB B 1 9 z4 = .inl e) : lnkB B pl fl z = .inl e := by
  unfold lnkB; rw [h]; dsimp only; rw [h2]; dsimp only; rw [if_neg (fun g => g.elim h3 (fun g => g h4)), h5]; dsimp only; rw [h6]
theorem lnk_6 (h : numB B 0 (pl - 1) z = .inr (i, z2)) (h2 : numB B 0 (pl - 1) z2 = .inr (j, z3)) (h3 : ¬ i = j) (h4 : fl (8 * i + j) = 0) (h5 : numB B 1 9 z3 = .inr (t, z4)) (h6 : numB B 1 9 z4 = .inr (u, z5)) : lnkB B pl fl z = .inr (upd (upd fl (8 * i + j) (nI t)) (8 * j + i) (nI u), z5) := by
  unfold lnkB; rw [h]; dsimp only; rw [h2]; dsimp only; rw [if_neg (fun g => g.elim h3 (fun g => g h4)), h5]; dsimp only; rw [h6]
end CB
/-! ===== the setup, each number known ===== -/
def SUX (D : va_G) (cs : Nat → ClassId) (q : Nat) (H : Heap) (pl : Nat) (ne pa : Int32) (mg : Value) (ct of dr dl : Nat) (tc fo fd fl : Nat → Int32) : Prop :=
  va_at D vwCl (q, .inr (6, [.int (nI pl), .int ne, .int pa, mg, .ref ct, .ref of, .ref dr, .ref dl])) H ∧ va_at D vwCl (ct, .inl (cs 2, 8, .inl tc)) H ∧ va_at D vwCl (of, .inl (cs 0, 8, .inl fo)) H ∧ va_at D vwCl (dr, .inl (cs 0, 8, .inl fd)) H ∧ va_at D vwCl (dl, .inl (cs 0, 64, .inl fl)) H ∧ of ≠ dr
theorem eq7 {D : va_G} {w : Nat} {H : Heap} {a0 a4 a5 a6 a7 b0 b4 b5 b6 b7 : Nat} {a1 a2 b1 b2 : Int32} {a3 b3 : Value} (h : va_at D vwCl (w, .inr (6, [.int (nI a0), .int a1, .int a2, a3, .ref a4, .ref a5, .ref a6, .ref a7])) H) (g : va_at D vwCl (w, .inr (6, [.int (nI b0), .int b1, .int b2, b3, .ref b4, .ref b5, .ref b6, .ref b7])) H) (hb : a0 ≤ 8 ∧ b0 ≤ 8) : b0 = a0 ∧ b1 = a1 ∧ b2 = a2 ∧ b3 = a3 ∧ b4 = a4 ∧ b5 = a5 ∧ b6 = a6 ∧ b7 = a7 := by
  obtain ⟨h2, h3⟩ := hb
  have F : ∀ (k : Nat) (v v' : Value), k < 8 → ([.int (nI b0), .int b1, .int b2, b3, .ref b4, .ref b5, .ref b6, .ref b7] : List Value)[k]? = some v → ([.int (nI a0), .int a1, .int a2, a3, .ref a4, .ref a5, .ref a6, .ref a7] : List Value)[k]? = some v' → v = v' := fun k v v' hk e1 e2 => (FI.eq (show FI D w 6 k v H from ⟨_, g, e1⟩) h rfl hk e2).symm
  exact ⟨(nI_eq (by omega) (by omega)).mp (Value.int.inj (F 0 _ _ (by decide) rfl rfl)), Value.int.inj (F 1 _ _ (by decide) rfl rfl), Value.int.inj (F 2 _ _ (by decide) rfl rfl), F 3 _ _ (by decide) rfl rfl, Value.ref.inj (F 4 _ _ (by decide) rfl rfl), Value.ref.inj (F 5 _ _ (by decide) rfl rfl), Value.ref.inj (F 6 _ _ (by decide) rfl rfl), Value.ref.inj (F 7 _ _ (by decide) rfl rfl)⟩
section SU
variable {B0 : Nat} {D : va_G} {cs : Nat → ClassId} {T : Nat} {κ : KM} {H : Heap} {q ct of dr dl o : Nat} {v0 v1 v2 v3 : Value} {f : Nat → Int32}
theorem SUX.t2 (hT : WT B0 D cs T κ H) (hw : T2 κ q 7 o) (h : va_at D vwCl (q, .inr (6, [v0, v1, v2, v3, .ref ct, .ref of, .ref dr, .ref dl])) H) : T2 κ ct 18 o ∧ T2 κ of 19 o ∧ T2 κ dr 19 o ∧ T2 κ dl 20 o := by
  obtain ⟨-, e, hat, pl, ne, pa, mg, ct', of', dr', dl', rfl, -, -, -, h1, h2, h3, h4⟩ := hT.o7 hw.1
  have e1 : Value.ref ct' = .ref ct := FI.eq (show FI D q 6 4 (.ref ct) H from ⟨_, h, rfl⟩) hat rfl (by decide) rfl
  have e2 : Value.ref of' = .ref of := FI.eq (show FI D q 6 5 (.ref of) H from ⟨_, h, rfl⟩) hat rfl (by decide) rfl
  have e3 : Value.ref dr' = .ref dr := FI.eq (show FI D q 6 6 (.ref dr) H from ⟨_, h, rfl⟩) hat rfl (by decide) rfl
  have e4 : Value.ref dl' = .ref dl := FI.eq (show FI D q 6 7 (.ref dl) H from ⟨_, h, rfl⟩) hat rfl (by decide) rfl
  cases e1; cases e2; cases e3; cases e4
  rw [hw.2] at h1 h2 h3 h4
  exact ⟨h1, h2, h3, h4⟩
theorem f18 (hT : WT B0 D cs T κ H) (hw : T2 κ q 18 o) (h : va_at D vwCl (q, .inl (cs 2, 8, .inl f)) H) : ∀ j, j < 8 → f j = 0 ∨ f j = 1 := by
  obtain ⟨-, e, hat, g, rfl, hg⟩ := hT.o18 hw.1
  have h1 : H[q]? = some (vp_cell (cs 2) (8, .inl f)) := h
  have h2 : H[q]? = some (vp_cell (cs 2) (8, .inl g)) := hat
  rw [h1] at h2
  have e := cell_f (Option.some.inj h2)
  exact fun j hj => by rw [e j hj]; exact hg j hj
theorem f20 (hT : WT B0 D cs T κ H) (hw : T2 κ q 20 o) (h : va_at D vwCl (q, .inl (cs 0, 64, .inl f)) H) : ∀ j, j < 64 → ∃ n, n ≤ 9 ∧ f j = nI n := by
  obtain ⟨-, e, hat, g, rfl, hg⟩ := hT.o20 hw.1
  have h1 : H[q]? = some (vp_cell (cs 0) (64, .inl f)) := h
  have h2 : H[q]? = some (vp_cell (cs 0) (64, .inl g)) := hat
  rw [h1] at h2
  have e := cell_f (Option.some.inj h2)
  exact fun j hj => by rw [e j hj]; exact hg j hj
end SU
theorem m7_n {k : Nat} (h : k < 8) : m7 (nI k) = k := by
  have : ∀ k, k < 8 → m7 (nI k) = k := by decide +kernel
  exact this k h
theorem plc_n {i j : Nat} (hi : i < 8) (hj : j < 8) : plc (nI i) (nI j) = 8 * i + j := by
  have : ∀ i, i < 8 → ∀ j, j < 8 → plc (nI i) (nI j) = 8 * i + j := by decide +kernel
  exact this i hi j hj
def fin (x d : Int32) : Int32 := if x = 0 then d else x
theorem fin_0 {x d : Int32} (h : x = 0) : fin x d = d := if_pos h
theorem fin_n {x d : Int32} (h : ¬ x = 0) : fin x d = x := if_neg h
section SM
variable {B : Nat → Int32} {pl z q v : Nat} {s : SST} {e : Er} {l : List Int32} {tc fo fd fl : Nat → Int32}
theorem stm_c_e (h2 : isW B 2 z) (h : clkB B pl s.2.2.2.1 s.2.2.2.2.1 s.2.2.2.2.2.1 (skp B (z + nT 2)) = .inl e) : stmB B pl z s = .inl e := by
  unfold stmB; rw [if_pos (isWb_iff.mpr h2), h]
theorem stm_c_o (h2 : isW B 2 z) (h : clkB B pl s.2.2.2.1 s.2.2.2.2.1 s.2.2.2.2.2.1 (skp B (z + nT 2)) = .inr ((tc, fo, fd), q)) : stmB B pl z s = .inr ((s.1, s.2.1, s.2.2.1, tc, fo, fd, s.2.2.2.2.2.2), q) := by
  unfold stmB; rw [if_pos (isWb_iff.mpr h2), h]
theorem stm_l_e (h2 : ¬ isW B 2 z) (h3 : isW B 3 z) (h : lnkB B pl s.2.2.2.2.2.2 (skp B (z + nT 3)) = .inl e) : stmB B pl z s = .inl e := by
  unfold stmB; rw [if_neg (fun g => h2 (isWb_iff.mp g)), if_pos (isWb_iff.mpr h3), h]
theorem stm_l_o (h2 : ¬ isW B 2 z) (h3 : isW B 3 z) (h : lnkB B pl s.2.2.2.2.2.2 (skp B (z + nT 3)) = .inr (fl, q)) : stmB B pl z s = .inr ((s.1, s.2.1, s.2.2.1, s.2.2.2.1, s.2.2.2.2.1, s.2.2.2.2.2.1, fl), q) := by
  unfold stmB; rw [if_neg (fun g => h2 (isWb_iff.mp g)), if_pos (isWb_iff.mpr h3), h]
theorem stm_n_e (h2 : ¬ isW B 2 z) (h3 : ¬ isW B 3 z) (h4 : isW B 4 z) (h0 : s.1 = 0) (h : numB B 1 pl (skp B (z + nT 4)) = .inl e) : stmB B pl z s = .inl e := by
  unfold stmB; rw [if_neg (fun g => h2 (isWb_iff.mp g)), if_neg (fun g => h3 (isWb_iff.mp g)), if_pos ⟨isWb_iff.mpr h4, h0⟩, h]
theorem stm_n_o (h2 : ¬ isW B 2 z) (h3 : ¬ isW B 3 z) (h4 : isW B 4 z) (h0 : s.1 = 0) (h : numB B 1 pl (skp B (z + nT 4)) = .inr (v, q)) : stmB B pl z s = .inr ((nI v, s.2), q) := by
  unfold stmB; rw [if_neg (fun g => h2 (isWb_iff.mp g)), if_neg (fun g => h3 (isWb_iff.mp g)), if_pos ⟨isWb_iff.mpr h4, h0⟩, h]
theorem stm_p_e (h2 : ¬ isW B 2 z) (h3 : ¬ isW B 3 z) (h4 : ¬ (isW B 4 z ∧ s.1 = 0)) (h5 : isW B 5 z) (h0 : s.2.1 = 0) (h : numB B 1 200 (skp B (z + nT 5)) = .inl e) : stmB B pl z s = .inl e := by
  unfold stmB; rw [if_neg (fun g => h2 (isWb_iff.mp g)), if_neg (fun g => h3 (isWb_iff.mp g)), if_neg (fun g => h4 ⟨isWb_iff.mp g.1, g.2⟩), if_pos ⟨isWb_iff.mpr h5, h0⟩, h]
theorem stm_p_o (h2 : ¬ isW B 2 z) (h3 : ¬ isW B 3 z) (h4 : ¬ (isW B 4 z ∧ s.1 = 0)) (h5 : isW B 5 z) (h0 : s.2.1 = 0) (h : numB B 1 200 (skp B (z + nT 5)) = .inr (v, q)) : stmB B pl z s = .inr ((s.1, nI v, s.2.2), q) := by
  unfold stmB; rw [if_neg (fun g => h2 (isWb_iff.mp g)), if_neg (fun g => h3 (isWb_iff.mp g)), if_neg (fun g => h4 ⟨isWb_iff.mp g.1, g.2⟩), if_pos ⟨isWb_iff.mpr h5, h0⟩, h]
theorem stm_m_e (h2 : ¬ isW B 2 z) (h3 : ¬ isW B 3 z) (h4 : ¬ (isW B 4 z ∧ s.1 = 0)) (h5 : ¬ (isW B 5 z ∧ s.2.1 = 0)) (h6 : isW B 6 z) (h0 : s.2.2.1 = none) (h : sumD B 4 (skp B (z + nT 6)) = .inl e) : stmB B pl z s = .inl e := by
  unfold stmB; rw [if_neg (fun g => h2 (isWb_iff.mp g)), if_neg (fun g => h3 (isWb_iff.mp g)), if_neg (fun g => h4 ⟨isWb_iff.mp g.1, g.2⟩), if_neg (fun g => h5 ⟨isWb_iff.mp g.1, g.2⟩), if_pos ⟨isWb_iff.mpr h6, h0⟩, h]
theorem stm_m_o (h2 : ¬ isW B 2 z) (h3 : ¬ isW B 3 z) (h4 : ¬ (isW B 4 z ∧ s.1 = 0)) (h5 : ¬ (isW B 5 z ∧ s.2.1 = 0)) (h6 : isW B 6 z) (h0 : s.2.2.1 = none) (h : sumD B 4 (skp B (z + nT 6)) = .inr (l, q)) : stmB B pl z s = .inr ((s.1, s.2.1, some l, s.2.2.2), q) := by
  unfold stmB; rw [if_neg (fun g => h2 (isWb_iff.mp g)), if_neg (fun g => h3 (isWb_iff.mp g)), if_neg (fun g => h4 ⟨isWb_iff.mp g.1, g.2⟩), if_neg (fun g => h5 ⟨isWb_iff.mp g.1, g.2⟩), if_pos ⟨isWb_iff.mpr h6, h0⟩, h]
theorem stm_0 (h2 : ¬ isW B 2 z) (h3 : ¬ isW B 3 z) (h4 : ¬ (isW B 4 z ∧ s.1 = 0)) (h5 : ¬ (isW B 5 z ∧ s.2.1 = 0)) (h6 : ¬ (isW B 6 z ∧ s.2.2.1 = none)) : stmB B pl z s = .inl (-2, z) := by
  unfold stmB; rw [if_neg (fun g => h2 (isWb_iff.mp g)), if_neg (fun g => h3 (isWb_iff.mp g)), if_neg (fun g => h4 ⟨isWb_iff.mp g.1, g.2⟩), if_neg (fun g => h5 ⟨isWb_iff.mp g.1, g.2⟩), if_neg (fun g => h6 ⟨isWb_iff.mp g.1, g.2⟩)]
end SM
section SP
variable {B : Nat → Int32} {n pl z q : Nat} {s s1 : SST} {e : Er}
theorem lnkB_pg (hY : BY B n) {fl fl1 : Nat → Int32} (h : lnkB B pl fl z = .inr (fl1, q)) : z < q ∧ q ≤ n := by
  unfold lnkB at h
  split at h
  · cases h
  · rename_i i z2 e1
    have h1 := numB_pg hY e1
    split at h
    · cases h
    · rename_i j z3 e2
      have h2 := numB_pg hY e2
      split at h
      · cases h
      · split at h
        · cases h
        · rename_i t z4 e3
          have h3 := numB_pg hY e3
          split at h
          · cases h
          · rename_i u z5 e4
            have h4 := numB_pg hY e4
            cases h
            omega
theorem clkB_pg (hY : BY B n) {tc fo fd : Nat → Int32} {x : F3} (h : clkB B pl tc fo fd z = .inr (x, q)) : z < q ∧ q ≤ n := by
  unfold clkB at h
  split at h
  · cases h
  · rename_i i z2 e1
    have h1 := numB_pg hY e1
    split at h
    · cases h
    · split at h
      · cases h
      · rename_i v1 z3 e2
        have h2 := sigB_pg hY (by omega) e2
        split at h
        · cases h
        · rename_i v2 z4 e3
          have h3 := sigB_pg hY h2.2 e3
          cases h
          omega
theorem sumD_pg (hY : BY B n) (r : Nat) : PG n (sumD B r) := manyB_pg hY (by decide) (by decide) (trmD_pg hY r)
theorem stmB_pg (hY : BY B n) (h : stmB B pl z s = .inr (s1, q)) : z < q ∧ q ≤ n := by
  unfold stmB at h
  split at h
  · rename_i hw
    have hw := isW_lt hY (i := 2) (by decide) (isWb_iff.mp hw)
    split at h
    · cases h
    · rename_i e1
      have h1 := clkB_pg hY e1
      cases h
      omega
  · split at h
    · rename_i hw
      have hw := isW_lt hY (i := 3) (by decide) (isWb_iff.mp hw)
      split at h
      · cases h
      · rename_i e1
        have h1 := lnkB_pg hY e1
        cases h
        omega
    · split at h
      · rename_i hw
        have hw := isW_lt hY (i := 4) (by decide) (isWb_iff.mp hw.1)
        split at h
        · cases h
        · rename_i e1
          have h1 := numB_pg hY e1
          cases h
          omega
      · split at h
        · rename_i hw
          have hw := isW_lt hY (i := 5) (by decide) (isWb_iff.mp hw.1)
          split at h
          · cases h
          · rename_i e1
            have h1 := numB_pg hY e1
            cases h
            omega
        · split at h
          · rename_i hw
            have hw := isW_lt hY (i := 6) (by decide) (isWb_iff.mp hw.1)
            split at h
            · cases h
            · rename_i e1
              have h1 := sumD_pg hY 4 _ _ _ hw.2 e1
              cases h
              omega
          · cases h
theorem stsB_fu (hY : BY B n) : ∀ (k k2 z : Nat) (s : SST), z ≤ n → n - z < k → n - z < k2 → stsB B pl k z s = stsB B pl k2 z s
  | 0, _, _, _, _, h, _ => by omega
  | _ + 1, 0, _, _, _, _, h => by omega
  | k + 1, k2 + 1, z, s, hz, h1, h2 => by
    unfold stsB
    split
    · rfl
    · cases e : stmB B pl z s with
      | inl e1 => rfl
      | inr x =>
        obtain ⟨s1, q⟩ := x
        have h3 := stmB_pg hY e
        dsimp only
        split
        · rename_i h59
          have hl := mark_lt hY (by decide) h59
          have h7 := skp_b hY (z := q + 1) (by omega)
          exact stsB_fu hY k k2 _ s1 h7.2 (by omega) (by omega)
        · rfl
theorem SP_end (h : B z = -1) : SPB B pl z s = .inr s := by
  unfold SPB
  cases 601 - z with
  | zero => rfl
  | succ k => exact if_pos h
theorem SP_un (hY : BY B n) (h : B z ≠ -1) : SPB B pl z s = match stmB B pl z s with
    | .inl e => .inl e
    | .inr (s1, q) => if B q = nI 59 then stsB B pl (600 - z) (skp B (q + 1)) s1 else .inl (-2, q) := by
  have hl := hY.lt h
  have h6 := hY.1
  unfold SPB
  rw [show 601 - z = (600 - z) + 1 by omega]
  exact if_neg h
theorem SP_er (hY : BY B n) (h : B z ≠ -1) (h1 : stmB B pl z s = .inl e) : SPB B pl z s = .inl e := by
  rw [SP_un hY h, h1]
theorem SP_no (hY : BY B n) (h : B z ≠ -1) (h1 : stmB B pl z s = .inr (s1, q)) (h2 : ¬ B q = nI 59) : SPB B pl z s = .inl (-2, q) := by
  rw [SP_un hY h, h1]; exact if_neg h2
theorem SP_ok (hY : BY B n) (h : B z ≠ -1) (h1 : stmB B pl z s = .inr (s1, q)) (h2 : B q = nI 59) : SPB B pl z s = SPB B pl (skp B (q + 1)) s1 := by
  have hl := hY.lt h
  have h6 := hY.1
  have h3 := stmB_pg hY h1
  have h4 := mark_lt hY (by decide) h2
  have h7 := skp_b hY (z := q + 1) (by omega)
  rw [SP_un hY h, h1]
  refine (if_pos h2).trans ?_
  exact stsB_fu hY _ _ _ s1 h7.2 (by omega) (by omega)
theorem rd_w (h : ¬ isW B 1 (skp B 0)) : rdB B = .inl (-2, skp B 0) := by
  unfold rdB; rw [if_neg (fun g => h (isWb_iff.mp g))]
theorem rd_n (h : isW B 1 (skp B 0)) (h1 : numB B 1 8 (skp B (skp B 0 + nT 1)) = .inl e) : rdB B = .inl e := by
  unfold rdB; rw [if_pos (isWb_iff.mpr h), h1]
theorem rd_m (h : isW B 1 (skp B 0)) (h1 : numB B 1 8 (skp B (skp B 0 + nT 1)) = .inr (pl, q)) (h2 : ¬ B q = nI 59) : rdB B = .inl (-2, q) := by
  unfold rdB; rw [if_pos (isWb_iff.mpr h), h1]; exact if_neg h2
theorem rd_s (h : isW B 1 (skp B 0)) (h1 : numB B 1 8 (skp B (skp B 0 + nT 1)) = .inr (pl, q)) (h2 : B q = nI 59) (h3 : SPB B pl (skp B (q + 1)) S00 = .inl e) : rdB B = .inl e := by
  unfold rdB; rw [if_pos (isWb_iff.mpr h), h1]; dsimp only; rw [if_pos h2, h3]
theorem rd_o (h : isW B 1 (skp B 0)) (h1 : numB B 1 8 (skp B (skp B 0 + nT 1)) = .inr (pl, q)) (h2 : B q = nI 59) (h3 : SPB B pl (skp B (q + 1)) S00 = .inr s) : rdB B = .inr (pl, s) := by
  unfold rdB; rw [if_pos (isWb_iff.mpr h), h1]; dsimp only; rw [if_pos h2, h3]
end SP
/-- the reader's text is the row f at tx -/
def BRT (D : va_G) (cs : Nat → ClassId) (w : Nat) (H : Heap) (tx : Nat) (f : Nat → Int32) : Prop := (∃ fs : List Value, va_at D vwCl (w, .inr (5, .ref tx :: fs)) H) ∧ va_at D vwCl (tx, .inl (cs 1, 600, .inl f)) H
theorem BRT.tx {D : va_G} {cs : Nat → ClassId} {w : Nat} {H : Heap} {tx tx9 : Nat} {f : Nat → Int32} {v1 v2 v3 v4 v5 v6 v7 v8 v9 v10 v11 v12 v13 : Value} (h : BRT D cs w H tx f) (g : va_at D vwCl (w, .inr (5, [.ref tx9, v1, v2, v3, v4, v5, v6, v7, v8, v9, v10, v11, v12, v13])) H) : tx9 = tx := by
  obtain ⟨⟨fs, h⟩, -⟩ := h
  exact Value.ref.inj (FI.eq (show FI D w 5 0 (.ref tx) H from ⟨_, h, rfl⟩) g rfl (by decide) rfl)
theorem f17 {B0 : Nat} {D : va_G} {cs : Nat → ClassId} {T : Nat} {κ : KM} {H : Heap} {q o : Nat} (hT : WT B0 D cs T κ H) (hw : T2 κ q 17 o) : ∃ f, va_at D vwCl (q, .inl (cs 0, 600, .inl f)) H := by
  obtain ⟨-, e, hat, g, rfl⟩ := hT.o17 hw.1
  exact ⟨g, hat⟩
theorem sd5 {D : va_G} {w k k' : Nat} {v0 : Value} {r : List Value} {H : Heap} (h : k' = k) (g : va_at D vwCl (w, .inr (5, v0 :: .int (nI k) :: r)) H) : va_at D vwCl (w, .inr (5, v0 :: .int (nI k') :: r)) H := by rw [h]; exact g
theorem RS.sq {D : va_G} {cs : Nat → ClassId} {w : Nat} {H : Heap} {tx co sd n pos st cc a b : Nat} {f cf : Nat → Int32} {k va ta tk ec es : Int32} (h : a = b) (g : RS D cs w H tx f co cf sd n pos k st va ta tk cc (.ref b) ec es) : RS D cs w H tx f co cf sd n pos k st va ta tk cc (.ref a) ec es := by rw [h]; exact g
theorem SUX.sq {D : va_G} {cs : Nat → ClassId} {H : Heap} {a b pl ct of dr dl : Nat} {ne pa : Int32} {mg : Value} {tc fo fd fl : Nat → Int32} (h : a = b) (g : SUX D cs b H pl ne pa mg ct of dr dl tc fo fd fl) : SUX D cs a H pl ne pa mg ct of dr dl tc fo fd fl := by rw [h]; exact g
def shb (x n : Int32) : Int32 := x >>> n
/-- four bytes of x from k on -/
def st4 (f : Nat → Int32) (k : Nat) (x : Int32) : Nat → Int32 := upd (upd (upd (upd f k (vp_nar .byte (vp_nar .byte (shb x 24)))) (k + 1) (vp_nar .byte (vp_nar .byte (shb x 16)))) (k + 1 + 1) (vp_nar .byte (vp_nar .byte (shb x 8)))) (k + 1 + 1 + 1) (vp_nar .byte (vp_nar .byte (shb x 0)))
theorem shb_24 (x : Int32) : x >>> ((24 : Int32) &&& 31) = shb x 24 := by rw [show (24 : Int32) &&& 31 = 24 from by decide]; rfl
theorem shb_16 (x : Int32) : x >>> ((16 : Int32) &&& 31) = shb x 16 := by rw [show (16 : Int32) &&& 31 = 16 from by decide]; rfl
theorem shb_8 (x : Int32) : x >>> ((8 : Int32) &&& 31) = shb x 8 := by rw [show (8 : Int32) &&& 31 = 8 from by decide]; rfl
theorem shb_0 (x : Int32) : x >>> ((0 : Int32) &&& 31) = shb x 0 := by rw [show (0 : Int32) &&& 31 = 0 from by decide]; rfl
