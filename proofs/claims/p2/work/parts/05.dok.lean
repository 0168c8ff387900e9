/-! ===== the model's data: what a store leaves of it ===== -/
theorem CV.congr {f g : Nat → Int32} {n h : Nat} (hc : CV f n h) (e : ∀ i, i < n → g i = f i) : CV g n h := by
  obtain ⟨ht, h0, h1, h2⟩ := hc
  refine ⟨ht, h0, h1, fun i hi hz => ?_⟩
  rw [e i hi]
  exact h2 i hi hz
theorem DOK.up {T T' : Nat} {f : Nat → Int32} (h : DOK T f) (hT : T ≤ T') : DOK T' f := by
  obtain ⟨h0, ⟨n, hn, e⟩, h⟩ := h
  exact ⟨h0, ⟨n, by omega, e⟩, h⟩
/-- a store at a place of no meaning -/
theorem DOK.sf {T : Nat} {f : Nat → Int32} (h : DOK T f) {k : Nat} (hk : (3 < k ∧ k < 14) ∨ (14 < k ∧ k < 18) ∨ (18 < k ∧ k < 183)) (x : Int32) : DOK T (upd f k x) := by
  obtain ⟨⟨a, ha, e0⟩, ⟨b, hb, e1⟩, ⟨c, hc, e2⟩, ⟨d, hd, e3, hm⟩, ⟨n, g, hn, e4, hv⟩, ⟨s, hs, e5⟩⟩ := h
  refine ⟨⟨a, ha, (pk_un (by omega)).trans e0⟩, ⟨b, hb, (pk_un (by omega)).trans e1⟩, ⟨c, hc, (pk_un (by omega)).trans e2⟩, ⟨d, hd, (pk_un (by omega)).trans e3, fun k9 hk9 => ?_⟩, ⟨n, g, hn, (pk_un (by omega)).trans e4, hv.congr fun i hi => pk_un (by omega)⟩, ⟨s, hs, (pk_un (by omega)).trans e5⟩⟩
  obtain ⟨q, hq, e⟩ := hm k9 hk9
  exact ⟨q, hq, (pk_un (by omega)).trans e⟩
theorem DOK.s2 {T : Nat} {f : Nat → Int32} (h : DOK T f) {n : Nat} (hn9 : n < 8) : DOK T (upd f 2 (nI n)) := by
  obtain ⟨⟨a, ha, e0⟩, ⟨b, hb, e1⟩, ⟨c, hc, e2⟩, ⟨d, hd, e3, hm⟩, ⟨n, g, hn, e4, hv⟩, ⟨s, hs, e5⟩⟩ := h
  refine ⟨⟨a, ha, (pk_un (by omega)).trans e0⟩, ⟨b, hb, (pk_un (by omega)).trans e1⟩, ⟨_, hn9, pk_us⟩, ⟨d, hd, (pk_un (by omega)).trans e3, fun k9 hk9 => ?_⟩, ⟨n, g, hn, (pk_un (by omega)).trans e4, hv.congr fun i hi => pk_un (by omega)⟩, ⟨s, hs, (pk_un (by omega)).trans e5⟩⟩
  obtain ⟨q, hq, e⟩ := hm k9 hk9
  exact ⟨q, hq, (pk_un (by omega)).trans e⟩
theorem DOK.s18 {T : Nat} {f : Nat → Int32} (h : DOK T f) {n : Nat} (hn9 : n < 8) : DOK T (upd f 18 (nI n)) := by
  obtain ⟨⟨a, ha, e0⟩, ⟨b, hb, e1⟩, ⟨c, hc, e2⟩, ⟨d, hd, e3, hm⟩, ⟨n, g, hn, e4, hv⟩, ⟨s, hs, e5⟩⟩ := h
  refine ⟨⟨a, ha, (pk_un (by omega)).trans e0⟩, ⟨b, hb, (pk_un (by omega)).trans e1⟩, ⟨c, hc, (pk_un (by omega)).trans e2⟩, ⟨d, hd, (pk_un (by omega)).trans e3, fun k9 hk9 => ?_⟩, ⟨n, g, hn, (pk_un (by omega)).trans e4, hv.congr fun i hi => pk_un (by omega)⟩, ⟨_, hn9, pk_us⟩⟩
  obtain ⟨q, hq, e⟩ := hm k9 hk9
  exact ⟨q, hq, (pk_un (by omega)).trans e⟩
/-- a store behind the last message -/
theorem DOK.sm {T : Nat} {f : Nat → Int32} (h : DOK T f) {n k : Nat} (e : f 3 = nI n) {x : Int32} (hk : n ≤ 7400 ∧ 1383 + 6 * n ≤ k) : DOK T (upd f k x) := by
  obtain ⟨⟨a, ha, e0⟩, ⟨b, hb, e1⟩, ⟨c, hc, e2⟩, ⟨d, hd, e3, hm⟩, ⟨n4, g, hn, e4, hv⟩, ⟨s, hs, e5⟩⟩ := h
  have hdn : d = n := (nI_eq (by omega) (by omega)).mp (e3.symm.trans e)
  subst hdn
  refine ⟨⟨a, ha, (pk_un (by omega)).trans e0⟩, ⟨b, hb, (pk_un (by omega)).trans e1⟩, ⟨c, hc, (pk_un (by omega)).trans e2⟩, ⟨d, hd, (pk_un (by omega)).trans e3, fun k9 hk9 => ?_⟩, ⟨n4, g, hn, (pk_un (by omega)).trans e4, hv.congr fun i hi => pk_un (by omega)⟩, ⟨s, hs, (pk_un (by omega)).trans e5⟩⟩
  obtain ⟨q, hq, e⟩ := hm k9 hk9
  exact ⟨q, hq, (pk_un (by omega)).trans e⟩
/-- one message more -/
theorem DOK.s3 {T : Nat} {f : Nat → Int32} (h : DOK T f) {n h9 k : Nat} (e : f 3 = nI n) (hn9 : n < 7400 ∧ h9 < 512 ∧ k = 1383 + 6 * n) (eh : f k = nI h9) : DOK T (upd f 3 (nI (n + 1))) := by
  obtain ⟨⟨a, ha, e0⟩, ⟨b, hb, e1⟩, ⟨c, hc, e2⟩, ⟨d, hd, e3, hm⟩, ⟨n4, g, hn, e4, hv⟩, ⟨s, hs, e5⟩⟩ := h
  have hdn : d = n := (nI_eq (by omega) (by omega)).mp (e3.symm.trans e)
  subst hdn
  refine ⟨⟨a, ha, (pk_un (by omega)).trans e0⟩, ⟨b, hb, (pk_un (by omega)).trans e1⟩, ⟨c, hc, (pk_un (by omega)).trans e2⟩, ⟨d + 1, by omega, pk_us, fun k9 hk9 => ?_⟩, ⟨n4, g, hn, (pk_un (by omega)).trans e4, hv.congr fun i hi => pk_un (by omega)⟩, ⟨s, hs, (pk_un (by omega)).trans e5⟩⟩
  by_cases hz : k9 = d
  · subst hz
    exact ⟨h9, hn9.2.1, (pk_un (by omega)).trans (by rw [← hn9.2.2]; exact eh)⟩
  · obtain ⟨q, hq, e⟩ := hm k9 (by omega)
    exact ⟨q, hq, (pk_un (by omega)).trans e⟩
theorem DRK.sf {f : Nat → Int32} (h : DRK f) {k : Nat} (hk : (3 < k ∧ k < 14) ∨ (14 < k ∧ k < 18) ∨ 18 < k) (x : Int32) : DRK (upd f k x) := by
  obtain ⟨⟨a, ha, e0⟩, e1, e2, e3, ⟨n, hn, e4⟩, e5⟩ := h
  exact ⟨⟨a, ha, (pk_un (by omega)).trans e0⟩, (pk_un (by omega)).trans e1, (pk_un (by omega)).trans e2, (pk_un (by omega)).trans e3, ⟨n, hn, (pk_un (by omega)).trans e4⟩, (pk_un (by omega)).trans e5⟩
theorem nI_div {a d : Nat} (ha : a < 2 ^ 31) (hd : d < 2 ^ 31) (h0 : 0 < d) : nI a / nI d = nI (a / d) := pk_div ha h0 hd
theorem nI_rem {a d : Nat} (ha : a < 2 ^ 31) (hd : d < 2 ^ 31) (h0 : 0 < d) : nI a - nI a / nI d * nI d = nI (a % d) := pk_rem ha h0 hd
theorem or01 {x y : Int32} (hx : x = 0 ∨ x = 1) (hy : y = 0 ∨ y = 1) : ∃ z, (z = 0 ∨ z = 1) ∧ x ||| y = z := by
  rcases hx with rfl | rfl <;> rcases hy with rfl | rfl
  · exact ⟨0, Or.inl rfl, by decide⟩
  · exact ⟨1, Or.inr rfl, by decide⟩
  · exact ⟨1, Or.inr rfl, by decide⟩
  · exact ⟨1, Or.inr rfl, by decide⟩
/-- between 0 and n - 1 -/
theorem rngm {x : Int32} {n : Nat} (hn : n ≤ 8) (h1 : ¬ x < 0) (h2 : ¬ nI n - 1 < x) : ∃ k, k < 8 ∧ x = nI k := by
  obtain ⟨j, hj, rfl⟩ := nI_of h1
  rcases Nat.eq_zero_or_pos n with rfl | h0
  · exact absurd (show nI 0 - 1 < nI j by rw [Int32.lt_iff_toInt_lt, nI_toInt hj, show (nI 0 - 1 : Int32).toInt = -1 by decide]; omega) h2
  · rw [show (1 : Int32) = nI 1 from rfl, nI_subN h0, nI_ltI (by omega) hj] at h2
    exact ⟨j, by omega, rfl⟩
theorem DOK.s1 {T : Nat} {f : Nat → Int32} (h : DOK T f) {n : Nat} (e : f 1 = nI n) (hn9 : n ≤ T) : DOK (T + 1) (upd f 1 (nI (n + 1))) := by
  obtain ⟨⟨a, ha, e0⟩, -, ⟨c, hc, e2⟩, ⟨d, hd, e3, hm⟩, ⟨n4, g, hn, e4, hv⟩, ⟨s, hs, e5⟩⟩ := h
  refine ⟨⟨a, ha, (pk_un (by omega)).trans e0⟩, ⟨n + 1, by omega, pk_us⟩, ⟨c, hc, (pk_un (by omega)).trans e2⟩, ⟨d, hd, (pk_un (by omega)).trans e3, fun k9 hk9 => ?_⟩, ⟨n4, g, hn, (pk_un (by omega)).trans e4, hv.congr fun i hi => pk_un (by omega)⟩, ⟨s, hs, (pk_un (by omega)).trans e5⟩⟩
  obtain ⟨q, hq, e⟩ := hm k9 hk9
  exact ⟨q, hq, (pk_un (by omega)).trans e⟩
theorem WT.up {B0 : Nat} {D : va_G} {cs : Nat → ClassId} {T T' : Nat} {κ : KM} {H : Heap} (h : WT B0 D cs T κ H) (hT : T ≤ T') : WT B0 D cs T' κ H := by
  intro a ha
  obtain ⟨h0, e, h1, h2⟩ := h a ha
  refine ⟨h0, e, h1, ?_⟩
  by_cases c24 : (κ a).1 = 24
  · unfold okE at h2; rw [c24] at h2
    obtain ⟨f, rfl, hf⟩ := h2
    exact ok_24 c24 ⟨f, rfl, hf.up hT⟩
  by_cases c25 : (κ a).1 = 25
  · unfold okE at h2; rw [c25] at h2
    obtain ⟨f, rfl, hf⟩ := h2
    exact ok_25 c25 ⟨f, rfl, hf.up hT⟩
  unfold okE at h2 ⊢
  split at h2 <;> first | exact h2 | contradiction | (exfalso; omega)
/-- a copy's head and messages are what matters -/
theorem DOK.cp {T : Nat} {f g : Nat → Int32} (h : DOK T f) {n : Nat} (e : f 3 = nI n) (hn9 : n ≤ 7400) (hg : ∀ i, i < 1383 + 6 * n → g i = f i) : DOK T g := by
  obtain ⟨⟨a, ha, e0⟩, ⟨b, hb, e1⟩, ⟨c, hc, e2⟩, ⟨d, hd, e3, hm⟩, ⟨n4, g4, hn, e4, hv⟩, ⟨s, hs, e5⟩⟩ := h
  have hdn : d = n := (nI_eq (by omega) (by omega)).mp (e3.symm.trans e)
  subst hdn
  refine ⟨⟨a, ha, (hg _ (by omega)).trans e0⟩, ⟨b, hb, (hg _ (by omega)).trans e1⟩, ⟨c, hc, (hg _ (by omega)).trans e2⟩, ⟨d, hd, (hg _ (by omega)).trans e3, fun k9 hk9 => ?_⟩, ⟨n4, g4, hn, (hg _ (by omega)).trans e4, hv.congr fun i hi => hg _ (by omega)⟩, ⟨s, hs, (hg _ (by omega)).trans e5⟩⟩
  obtain ⟨q, hq, e⟩ := hm k9 hk9
  exact ⟨q, hq, (hg _ (by omega)).trans e⟩
/-- the draft, when it is copied: no messages, its codes run -/
theorem DRK.dok {T : Nat} {f g : Nat → Int32} (h : DRK f) {n k : Nat} (e : f 14 = nI n) (hn : n ≤ 1200) (hc : CV (fun i => f (183 + i)) n k) (hg : ∀ i, i < 1383 → g i = f i) : DOK T g := by
  obtain ⟨⟨a, ha, e0⟩, e1, e2, e3, -, e5⟩ := h
  exact ⟨⟨a, ha, (hg _ (by omega)).trans e0⟩, ⟨0, Nat.zero_le _, (hg _ (by omega)).trans e1⟩, ⟨0, by omega, (hg _ (by omega)).trans e2⟩, ⟨0, by omega, (hg _ (by omega)).trans e3, fun k9 hk9 => absurd hk9 (Nat.not_lt_zero _)⟩, ⟨n, k, hn, (hg _ (by omega)).trans e, hc.congr fun i hi => hg _ (by omega)⟩, ⟨0, by omega, (hg _ (by omega)).trans e5⟩⟩
def cpF (i : Nat) (f g : Nat → Int32) : Nat → Int32 := fun j => if j < i then f j else g j
theorem cpF_0 (f g : Nat → Int32) : cpF 0 f g = g := by
  funext j
  unfold cpF
  rw [if_neg (Nat.not_lt_zero j)]
theorem cpF_s (i : Nat) (f g : Nat → Int32) : upd (cpF i f g) i (f i) = cpF (i + 1) f g := by
  funext j
  unfold upd cpF
  by_cases e : j = i
  · subst e
    rw [if_pos rfl, if_pos (Nat.lt_succ_self j)]
  · rw [if_neg e]
    by_cases h : j < i
    · rw [if_pos h, if_pos (Nat.lt_succ_of_lt h)]
    · rw [if_neg h, if_neg (by omega)]
theorem cpF_lt {i j : Nat} {f g : Nat → Int32} (h : j < i) : cpF i f g j = f j := if_pos h
theorem nI_dec1 {n : Nat} (h : 1 ≤ n) : nI n + (-1) = nI (n - 1) := by
  obtain ⟨m, rfl⟩ : ∃ m, n = m + 1 := ⟨n - 1, by omega⟩
  exact pk_m1 m
