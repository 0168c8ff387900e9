/-! ===== the class's reader, each number known ===== -/
theorem eq6 {D : va_G} {w : Nat} {H : Heap} {a0 a1 a2 a3 a5 a9 a10 b0 b2 b3 b5 b9 b10 : Nat} {a4 a6 a7 a8 a12 a13 b4 b6 b7 b8 b12 b13 : Int32} {a11 b11 : Value} (h : va_at D vwCl (w, .inr (5, [.ref a0, .int (nI a1), .int (nI a2), .int (nI a3), .int a4, .int (nI a5), .int a6, .int a7, .int a8, .ref a9, .int (nI a10), a11, .int a12, .int a13])) H) (g : va_at D vwCl (w, .inr (5, [.ref b0, .int (nI a1), .int (nI b2), .int (nI b3), .int b4, .int (nI b5), .int b6, .int b7, .int b8, .ref b9, .int (nI b10), b11, .int b12, .int b13])) H)
    (hb : a2 ≤ 600 ∧ a3 ≤ 600 ∧ a5 ≤ 600 ∧ a10 ≤ 600 ∧ b2 ≤ 600 ∧ b3 ≤ 600 ∧ b5 ≤ 600 ∧ b10 ≤ 600) : b0 = a0 ∧ b2 = a2 ∧ b3 = a3 ∧ b4 = a4 ∧ b5 = a5 ∧ b6 = a6 ∧ b7 = a7 ∧ b8 = a8 ∧ b9 = a9 ∧ b10 = a10 ∧ b11 = a11 ∧ b12 = a12 ∧ b13 = a13 := by
  obtain ⟨h2, h3, h5, h10, g2, g3, g5, g10⟩ := hb
  have F : ∀ (k : Nat) (v v' : Value), k < 14 → ([.ref b0, .int (nI a1), .int (nI b2), .int (nI b3), .int b4, .int (nI b5), .int b6, .int b7, .int b8, .ref b9, .int (nI b10), b11, .int b12, .int b13] : List Value)[k]? = some v → ([.ref a0, .int (nI a1), .int (nI a2), .int (nI a3), .int a4, .int (nI a5), .int a6, .int a7, .int a8, .ref a9, .int (nI a10), a11, .int a12, .int a13] : List Value)[k]? = some v' → v = v' := fun k v v' hk e1 e2 => (FI.eq (show FI D w 5 k v H from ⟨_, g, e1⟩) h rfl hk e2).symm
  exact ⟨Value.ref.inj (F 0 _ _ (by decide) rfl rfl), (nI_eq (by omega) (by omega)).mp (Value.int.inj (F 2 _ _ (by decide) rfl rfl)), (nI_eq (by omega) (by omega)).mp (Value.int.inj (F 3 _ _ (by decide) rfl rfl)), Value.int.inj (F 4 _ _ (by decide) rfl rfl), (nI_eq (by omega) (by omega)).mp (Value.int.inj (F 5 _ _ (by decide) rfl rfl)), Value.int.inj (F 6 _ _ (by decide) rfl rfl), Value.int.inj (F 7 _ _ (by decide) rfl rfl), Value.int.inj (F 8 _ _ (by decide) rfl rfl), Value.ref.inj (F 9 _ _ (by decide) rfl rfl), (nI_eq (by omega) (by omega)).mp (Value.int.inj (F 10 _ _ (by decide) rfl rfl)), F 11 _ _ (by decide) rfl rfl, Value.int.inj (F 12 _ _ (by decide) rfl rfl), Value.int.inj (F 13 _ _ (by decide) rfl rfl)⟩
/-- the reader w, its text's row f, its codes' row cf -/
def RS (D : va_G) (cs : Nat → ClassId) (w : Nat) (H : Heap) (tx : Nat) (f : Nat → Int32) (co : Nat) (cf : Nat → Int32) (sd n pos : Nat) (k : Int32) (st : Nat) (va ta tk : Int32) (cc : Nat) (su : Value) (ec es : Int32) : Prop :=
  va_at D vwCl (w, .inr (5, [.ref tx, .int (nI sd), .int (nI n), .int (nI pos), .int k, .int (nI st), .int va, .int ta, .int tk, .ref co, .int (nI cc), su, .int ec, .int es])) H ∧ va_at D vwCl (tx, .inl (cs 1, 600, .inl f)) H ∧ va_at D vwCl (co, .inl (cs 0, 600, .inl cf)) H
/-- at the token that begins at s -/
abbrev RT (D : va_G) (cs : Nat → ClassId) (w : Nat) (H : Heap) (tx : Nat) (f : Nat → Int32) (co : Nat) (cf : Nat → Int32) (sd n : Nat) (B : Nat → Int32) (s : Nat) (ta tk : Int32) (cc : Nat) (su : Value) (ec es : Int32) : Prop := RS D cs w H tx f co cf sd n (tkE B s) (tkK B s) s (tkV B s) ta tk cc su ec es
/-- the word i of the table begins at s, and ends with a byte that is no letter -/
def isW (B : Nat → Int32) (i s : Nat) : Prop := (∀ k, k < nT i → B (s + k) = nB i k) ∧ ¬ isl (B (s + nT i))
section WD
variable {B f : Nat → Int32} {n i s : Nat}
theorem nT_pos1 : ∀ i ∈ nW, 1 ≤ nT i := by decide +kernel
theorem wl_all : ∀ i ∈ nW, ∀ k, k < nT i → isl (nB i k) := by decide +kernel
theorem run_add {P : Int32 → Prop} [DecidablePred P] : ∀ (m q : Nat), (∀ k, k < m → P (B (q + k))) → q + m ≤ 601 → run P B q = run P B (q + m)
  | 0, _, _, _ => rfl
  | m + 1, q, h, hq => by
    rw [run_y (q := q) (h 0 (by omega)) (by omega), run_add m (q + 1) (fun k hk => by rw [show q + 1 + k = q + (k + 1) by omega]; exact h (k + 1) (by omega)) (by omega), show q + 1 + m = q + (m + 1) by omega]
theorem isW_le (hB : BY B n) (hi : i ∈ nW) (h : isW B i s) : isl (B s) ∧ ltE B s = s + nT i := by
  have h1 := nT_pos1 i hi
  have hl : ∀ k, k < nT i → isl (B (s + k)) := fun k hk => by rw [h.1 k hk]; exact wl_all i hi k hk
  have hn := hB.l (hl (nT i - 1) (by omega))
  have h6 := hB.1
  refine ⟨hl 0 (by omega), ?_⟩
  rw [show ltE B s = run isl B (s + nT i) from run_add (nT i) s hl (by omega)]
  exact run_n h.2
theorem isW_of (hB : BY B n) (he : ltE B s = s + nT i) (h : ∀ k, k < nT i → B (s + k) = nB i k) : isW B i s :=
  ⟨h, by rw [← he]; exact run_end hB (by decide)⟩
end WD
theorem RS.t2 {B0 : Nat} {D : va_G} {cs : Nat → ClassId} {T : Nat} {κ : KM} {H : Heap} {w tx co : Nat} {v1 v2 v3 v4 v5 v6 v7 v8 v10 v11 v12 v13 : Value} (hT : WT B0 D cs T κ H) (hw : T2 κ w 6 10) (h : va_at D vwCl (w, .inr (5, [.ref tx, v1, v2, v3, v4, v5, v6, v7, v8, .ref co, v10, v11, v12, v13])) H) : T2 κ tx 16 10 ∧ T2 κ co 17 10 := by
  obtain ⟨-, e, hat, tx', len, pos, kind, st, va, ta, tk, co', cc, su, ec, es, rfl, -, -, -, -, -, h1, h2, -⟩ := hT.o6 hw.1
  have e1 : Value.ref tx' = .ref tx := FI.eq (show FI D w 5 0 (.ref tx) H from ⟨_, h, rfl⟩) hat rfl (by decide) rfl
  have e2 : Value.ref co' = .ref co := FI.eq (show FI D w 5 9 (.ref co) H from ⟨_, h, rfl⟩) hat rfl (by decide) rfl
  cases e1; cases e2
  exact ⟨h1, h2⟩
section DG
variable {B f : Nat → Int32} {n k : Nat}
theorem dg_m (hB : BY B n) (h : isd (B k)) : ∃ m, 48 ≤ m ∧ m ≤ 57 ∧ B k = nI m ∧ dg (B k) = m - 48 := by
  obtain ⟨m, hm, em⟩ := hB.2.1 k (hB.d h)
  rw [em] at h ⊢
  have := (bd_all m hm).1.mp h
  exact ⟨m, this.1, this.2, rfl, by unfold dg; rw [nI_clamp (by omega)]⟩
theorem dg_lt (hB : BY B n) (h : isd (B k)) : dg (B k) ≤ 9 := by
  obtain ⟨m, h1, h2, -, e⟩ := dg_m hB h
  omega
theorem dg_ar (hB : BY B n) (hf : TXB f B n) {a : Nat} (h : isd (B k)) : nI a + f k - 48 = nI (a + dg (B k)) := by
  obtain ⟨m, h1, h2, e1, e2⟩ := dg_m hB h
  have e3 : f k = nI m := (hf.eq hB (hB.d h) (by omega)).mpr e1
  rw [e3, e2, nI_add, show a + (m - 48) = a + m - 48 by omega]
  exact nI_subN (a := a + m) (b := 48) (by omega)
end DG
section TE
variable {B f : Nat → Int32} {n i s c : Nat}
theorem tkE_w (hY : BY B n) (hi : i ∈ nW) (h : isW B i s) : tkE B s = s + nT i := (tk_l (isW_le hY hi h).1).2.2.trans (isW_le hY hi h).2
theorem tkE_m (hY : BY B n) (hc : MK c) (h : B s = nI c) : tkE B s = s + 1 := by
  have h0 : B s ≠ -1 := by rw [h]; exact nI_nm1 (by have := hc.1; omega)
  refine (tk_m h0 ?_ ?_).2.2
  · rw [h]; exact fun g => hc.2.2.1 ((bd_all c (by have := hc.1; omega)).1.mp g)
  · rw [h]; exact fun g => hc.2.2.2 ((bd_all c (by have := hc.1; omega)).2.mp g)
end TE
/-- a number that may have a minus sign: where its digits begin, what it is -/
def sgz (B : Nat → Int32) (s : Nat) : Nat := if B s = nI 45 then skp B (s + 1) else s
def sgv (B : Nat → Int32) (s : Nat) : Int32 := if B s = nI 45 then - nI (nvl B (sgz B s) 0) else nI (nvl B (sgz B s) 0)
