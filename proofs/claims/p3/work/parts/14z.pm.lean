/-! ===== the model's reading: its place, its codes ===== -/
def byF (g : Nat → Int32) (tl k : Nat) : Int32 := if k < tl then g k else -1
theorem byF_c {g : Nat → Int32} {tl k : Nat} {c : Int32} (h : byF g tl k = c) (hc : c ≠ -1) : k < tl := by
  unfold byF at h
  split at h
  · assumption
  · exact absurd h.symm hc
theorem byF_lt {g : Nat → Int32} {tl k : Nat} (h : ¬ byF g tl k < 48) : k < tl := by
  by_cases h1 : k < tl
  · exact h1
  · exact absurd (show byF g tl k < 48 by unfold byF; rw [if_neg h1]; decide) h
theorem byF_nn {g : Nat → Int32} {tl k n : Nat} (h : byF g tl k = nI n) (hn : n ≤ 255) : k < tl := byF_c h (nI_nm1 (by omega))
theorem byF_y {g : Nat → Int32} {tl k : Nat} (h : k < tl) : g k = byF g tl k := by unfold byF; rw [if_pos h]
theorem byF_n {g : Nat → Int32} {tl k : Nat} (h : ¬ k < tl) : (-1 : Int32) = byF g tl k := by unfold byF; rw [if_neg h]
/-- the model's place in its text -/
def MF (D : va_G) (cs : Nat → ClassId) (w : Nat) (H : Heap) (pos tl : Nat) (er ns : Int32) (dr bu : Nat) (g : Nat → Int32) : Prop :=
  FI D w 9 3 (.int (nI tl)) H ∧ FI D w 9 4 (.int (nI pos)) H ∧ FI D w 9 5 (.int er) H ∧ FI D w 9 14 (.int ns) H ∧ FI D w 9 10 (.ref dr) H ∧ FI D w 9 1 (.ref bu) H ∧ va_at D vwCl (bu, .inl (cs 0, 600, .inl g)) H ∧ pos ≤ tl ∧ tl ≤ 600
theorem MF.at {D : va_G} {cs : Nat → ClassId} {w : Nat} {H : Heap} {pos tl : Nat} {er ns : Int32} {dr bu : Nat} {g : Nat → Int32} {th bl ea eo ud st se td er' ns' : Int32} {bu' da sd dr' hi sk tl' pos' : Nat} (h : MF D cs w H pos tl er ns dr bu g)
    (hat : va_at D vwCl (w, .inr (9, [.int th, .ref bu', .int bl, .int (nI tl'), .int (nI pos'), .int er', .int ea, .int eo, .ref da, .ref sd, .ref dr', .ref hi, .int ud, .int st, .int ns', .int se, .int td, .ref sk])) H) (h1 : tl' ≤ 600) (h2 : pos' ≤ 600) : tl = tl' ∧ pos = pos' ∧ er = er' ∧ ns = ns' ∧ dr = dr' ∧ bu = bu' := by
  obtain ⟨a1, a2, a3, a4, a5, a6, a7, a8, a9⟩ := h
  have e1 := FI.eq (v' := .int (nI tl')) a1 hat rfl (by decide) rfl
  have e2 := FI.eq (v' := .int (nI pos')) a2 hat rfl (by decide) rfl
  have e3 := FI.eq (v' := .int er') a3 hat rfl (by decide) rfl
  have e4 := FI.eq (v' := .int ns') a4 hat rfl (by decide) rfl
  have e5 := FI.eq (v' := .ref dr') a5 hat rfl (by decide) rfl
  have e6 := FI.eq (v' := .ref bu') a6 hat rfl (by decide) rfl
  refine ⟨?_, ?_, (Value.int.inj e3).symm, (Value.int.inj e4).symm, (Value.ref.inj e5).symm, (Value.ref.inj e6).symm⟩
  · exact ((nI_eq (by omega) (by omega)).mp (Value.int.inj e1)).symm
  · exact ((nI_eq (by omega) (by omega)).mp (Value.int.inj e2)).symm
theorem DRK.cg {f g : Nat → Int32} (h : DRK f) (e : ∀ j, j < 1383 → g j = f j) : DRK g := by
  obtain ⟨⟨n, h1, h2⟩, h3, h4, h5, ⟨k, h6, h7⟩, h8⟩ := h
  exact ⟨⟨n, h1, (e 0 (by omega)).trans h2⟩, (e 1 (by omega)).trans h3, (e 2 (by omega)).trans h4, (e 3 (by omega)).trans h5, ⟨k, h6, (e 14 (by omega)).trans h7⟩, (e 18 (by omega)).trans h8⟩
theorem WT.dr {B0 : Nat} {D : va_G} {cs : Nat → ClassId} {T : Nat} {κ : KM} {H : Heap} {dr : Nat} {f : Nat → Int32} (hT : WT B0 D cs T κ H) (h : T2 κ dr 26 17) (hd : va_at D vwCl (dr, .inl (cs 0, 1383, .inl f)) H) : DRK f := by
  obtain ⟨-, e, hat, f', rfl, hf⟩ := hT.o26 h.1
  have h1 : H[dr]? = some (vp_cell (cs 0) (1383, .inl f)) := hd
  have h2 : H[dr]? = some (vp_cell (cs 0) (1383, .inl f')) := hat
  rw [h1] at h2
  exact hf.cg (cell_f (Option.some.inj h2))
/-- with the draft: N codes of the height h, as long as no error is told -/
def PS (D : va_G) (cs : Nat → ClassId) (w : Nat) (H : Heap) (pos tl : Nat) (er ns : Int32) (dr bu : Nat) (g : Nat → Int32) (N h : Nat) : Prop :=
  MF D cs w H pos tl er ns dr bu g ∧ ∃ f, va_at D vwCl (dr, .inl (cs 0, 1383, .inl f)) H ∧ f 14 = nI N ∧ N ≤ 2 * pos ∧ (er = 0 → CV (fun i => f (183 + i)) N h)
theorem CV.lit {f : Nat → Int32} {N h : Nat} {x y : Int32} (hc : CV f N h) (hx : x ≤ 1) : CV (upd (upd f N x) (N + 1) y) (N + 2) (h + 1) := by
  obtain ⟨ht, h0, hn, hs⟩ := hc
  refine ⟨fun i => if i = N + 1 then 0 else if i = N + 2 then h + 2 else ht i, ?_, ?_, fun i hi hne => ?_⟩
  · dsimp only
    rw [if_neg (by omega), if_neg (by omega)]
    exact h0
  · dsimp only
    rw [if_neg (by omega), if_pos rfl]
  · dsimp only at hne ⊢
    have hi1 : i ≠ N + 1 := fun e => hne (if_pos e)
    have hi2 : i ≤ N := by omega
    rw [if_neg hi1, if_neg (by omega)] at hne
    rw [if_neg (show i ≠ N + 1 from hi1), if_neg (show i ≠ N + 2 by omega)]
    rcases Nat.lt_or_ge i N with hlt | hge
    · obtain ⟨g1, g2⟩ := hs i hlt hne
      have e : upd (upd f N x) (N + 1) y i = f i := by rw [pk_un (by omega), pk_un (by omega)]
      rw [e]
      refine ⟨fun hq => ?_, fun hq => ?_⟩
      · obtain ⟨k1, k2⟩ := g1 hq
        refine ⟨by omega, ?_⟩
        by_cases e2 : i + 2 = N + 1
        · exfalso; omega
        · rw [if_neg e2, if_neg (by omega)]
          exact k2
      · obtain ⟨k1, k2⟩ := g2 hq
        refine ⟨k1, ?_⟩
        rw [if_neg (by omega), if_neg (by omega)]
        exact k2
    · have e0 : i = N := by omega
      subst e0
      have e : upd (upd f i x) (i + 1) y i = x := by rw [pk_un (by omega), pk_us]
      rw [e]
      refine ⟨fun _ => ⟨by omega, ?_⟩, fun hq => absurd hx hq⟩
      rw [if_neg (by omega), if_pos rfl, hn]
theorem CV.op {f : Nat → Int32} {N h : Nat} {x : Int32} (hc : CV f N (h + 2)) (hx : ¬ x ≤ 1) : CV (upd f N x) (N + 1) (h + 1) := by
  obtain ⟨ht, h0, hn, hs⟩ := hc
  refine ⟨fun i => if i = N + 1 then h + 2 else ht i, ?_, ?_, fun i hi hne => ?_⟩
  · dsimp only
    rw [if_neg (by omega)]
    exact h0
  · dsimp only
    rw [if_pos rfl]
  · dsimp only at hne ⊢
    rw [if_neg (show i ≠ N + 1 by omega)] at hne ⊢
    rcases Nat.lt_or_ge i N with hlt | hge
    · obtain ⟨g1, g2⟩ := hs i hlt hne
      rw [pk_un (by omega)]
      refine ⟨fun hq => ?_, fun hq => ?_⟩
      · obtain ⟨k1, k2⟩ := g1 hq
        refine ⟨by omega, ?_⟩
        by_cases e2 : i + 2 = N + 1
        · omega
        · rw [if_neg e2]
          exact k2
      · obtain ⟨k1, k2⟩ := g2 hq
        refine ⟨k1, ?_⟩
        rw [if_neg (by omega)]
        exact k2
    · have e0 : i = N := by omega
      subst e0
      rw [pk_us]
      refine ⟨fun hq => absurd hq hx, fun _ => ⟨by omega, ?_⟩⟩
      rw [if_pos rfl, hn]
theorem upd_sh {f : Nat → Int32} {N : Nat} {x : Int32} : (fun i => upd f (183 + N) x (183 + i)) = upd (fun i => f (183 + i)) N x := by
  funext i
  by_cases e : i = N
  · rw [e, pk_us, pk_us]
  · rw [pk_un (by omega), pk_un e]
/-- what an emit leaves of the codes -/
abbrev EM (f f1 : Nat → Int32) (N N1 : Nat) (er x : Int32) : Prop := (er ≠ 0 ∧ f1 = f ∧ N1 = N) ∨ (er = 0 ∧ f1 = upd (upd f (183 + N) x) 14 (nI (N + 1)) ∧ N1 = N + 1)
theorem EM.cv {f f1 : Nat → Int32} {N N1 : Nat} {er x : Int32} (h : EM f f1 N N1 er x) (e : er = 0) : (fun i => f1 (183 + i)) = upd (fun i => f (183 + i)) N x := by
  rcases h with ⟨h1, -⟩ | ⟨-, rfl, -⟩
  · exact absurd e h1
  · rw [← upd_sh]
    funext i
    exact pk_un (by omega)
theorem EM.n {f f1 : Nat → Int32} {N N1 : Nat} {er x : Int32} (h : EM f f1 N N1 er x) : N1 ≤ N + 1 ∧ (er ≠ 0 → N1 = N) ∧ (er = 0 → N1 = N + 1) := by
  rcases h with ⟨h1, -, h2⟩ | ⟨h1, -, h2⟩
  · exact ⟨by omega, fun _ => h2, fun e => absurd e h1⟩
  · exact ⟨by omega, fun e => absurd h1 e, fun _ => h2⟩
theorem EM.lit {f f1 f2 : Nat → Int32} {N N1 N2 h : Nat} {er x y : Int32} (h1 : EM f f1 N N1 er x) (h2 : EM f1 f2 N1 N2 er y) (hx : x ≤ 1) (hc : er = 0 → CV (fun i => f (183 + i)) N h) : er = 0 → CV (fun i => f2 (183 + i)) N2 (h + 1) := fun e => by
  rw [h2.cv e, h1.cv e, h2.n.2.2 e, h1.n.2.2 e]
  exact (hc e).lit hx
theorem EM.op {f f1 : Nat → Int32} {N N1 h : Nat} {er x : Int32} (h1 : EM f f1 N N1 er x) (hx : ¬ x ≤ 1) (hc : er = 0 → CV (fun i => f (183 + i)) N (h + 2)) : er = 0 → CV (fun i => f1 (183 + i)) N1 (h + 1) := fun e => by
  rw [h1.cv e, h1.n.2.2 e]
  exact (hc e).op hx
theorem nT_pos : ∀ i ∈ nW, 1 ≤ nT i := by decide +kernel
theorem CV.z (f : Nat → Int32) : CV f 0 0 := ⟨fun _ => 1, rfl, rfl, fun i hi => absurd hi (Nat.not_lt_zero i)⟩
theorem MF.kp {D : va_G} {cs : Nat → ClassId} {B0 w : Nat} {Hb H : Heap} {pos tl : Nat} {er ns : Int32} {dr bu : Nat} {g : Nat → Int32} {ws : va_W} {ms : List Nat} {locs : List Loc} (h : MF D cs w Hb pos tl er ns dr bu g) (hB : Bx B0 D Hb ws ms H locs) (h1 : bu ∉ ms) (h2 : w ∉ ms) : MF D cs w H pos tl er ns dr bu g := by
  obtain ⟨a1, a2, a3, a4, a5, a6, a7, a8, a9⟩ := h
  have k : ∀ {i : Nat} {v : Value}, FI D w 9 i v Hb → FI D w 9 i v H := fun ⟨fs, e1, e2⟩ => ⟨fs, e1.kept (hB.2.2.2.1 _ e1.lt h2), e2⟩
  exact ⟨k a1, k a2, k a3, k a4, k a5, k a6, a7.kept (hB.2.2.2.1 _ a7.lt h1), a8, a9⟩
theorem dig_lt {g : Nat → Int32} {tl a p : Nat} (h1 : ¬ byF g tl a < 48) (h2 : ¬ 57 < byF g tl a) (o : byF g tl p < 48 ∨ 57 < byF g tl p) (h : a ≤ p) : a + 1 ≤ p := by
  rcases Nat.lt_or_ge a p with h3 | h3
  · exact h3
  · have e : p = a := by omega
    rw [e] at o
    rcases o with o | o
    · exact absurd o h1
    · exact absurd o h2
theorem DRK.s14 {f : Nat → Int32} (h : DRK f) {n : Nat} (hn : n ≤ 1200) : DRK (upd f 14 (nI n)) := by
  obtain ⟨⟨m, h1, h2⟩, h3, h4, h5, ⟨k, h6, h7⟩, h8⟩ := h
  exact ⟨⟨m, h1, (pk_un (by omega)).trans h2⟩, (pk_un (by omega)).trans h3, (pk_un (by omega)).trans h4, (pk_un (by omega)).trans h5, ⟨n, hn, pk_us⟩, (pk_un (by omega)).trans h8⟩
theorem CVu {f : Nat → Int32} {N h a : Nat} {x : Int32} {P : Prop} (ha : a < 183) (hc : P → CV (fun i => f (183 + i)) N h) : P → CV (fun i => upd f a x (183 + i)) N h := fun e => (hc e).congr (fun i _ => pk_un (by omega))
theorem up0 {g : Nat → Int32} {k : Nat} (h : ∀ j, j < k → g j = 0) : ∀ j, j < k + 1 → upd g k 0 j = 0 := fun j hj => by
  by_cases e : j = k
  · rw [e]; exact pk_us
  · rw [pk_un e]; exact h j (by omega)
theorem DRK.lay {g : Nat → Int32} (h : ∀ j, j < 1383 → g j = 0) {n : Nat} (hn : n ≤ 8) : DRK (upd g 0 (nI n)) :=
  ⟨⟨n, hn, pk_us⟩, (pk_un (by omega)).trans (h 1 (by omega)), (pk_un (by omega)).trans (h 2 (by omega)), (pk_un (by omega)).trans (h 3 (by omega)), ⟨0, by omega, (pk_un (by omega)).trans (h 14 (by omega))⟩, (pk_un (by omega)).trans (h 18 (by omega))⟩
theorem num_c {r x y : Int32} {lo hi : Nat} {er : Int32} (hl : lo < 2 ^ 31) (hh : hi < 2 ^ 31) (hx : x = nI lo) (hy : y = nI hi) (h : (r = 0 ∧ er ≠ 0) ∨ er = 0 ∧ ¬ r < x ∧ ¬ y < r) : ∃ n, n ≤ hi ∧ r = nI n := by
  subst hx; subst hy
  rcases h with ⟨rfl, -⟩ | ⟨-, h1, h2⟩
  · exact ⟨0, Nat.zero_le _, rfl⟩
  · obtain ⟨n, -, h3, h4⟩ := rng hl hh h1 h2
    exact ⟨n, h3, h4⟩
theorem num_p {r : Int32} {n : Nat} {er : Int32} (hn : n ≤ 8) (h : (r = 0 ∧ er ≠ 0) ∨ er = 0 ∧ ¬ r < 0 ∧ ¬ nI n - 1 < r) : ∃ k, k < 8 ∧ r = nI k := by
  rcases h with ⟨rfl, -⟩ | ⟨-, h1, h2⟩
  · exact ⟨0, by decide, rfl⟩
  · exact rngm hn h1 h2
