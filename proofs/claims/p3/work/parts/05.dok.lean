/-! ===== the model's data: what a store leaves of it ===== -/
theorem CV.congr {f g : Nat → Int32} {n h : Nat} (hc : CV f n h) (e : ∀ i, i < n → g i = f i) : CV g n h := by
  obtain ⟨ht, h0, h1, h2⟩ := hc
  refine ⟨ht, h0, h1, fun i hi hz => ?_⟩
  rw [e i hi]
  exact h2 i hi hz
theorem DOK.up {T T' : Nat} {f : Nat → Int32} (h : DOK T f) (hT : T ≤ T') : DOK T' f := by
  obtain ⟨h0, ⟨n, hn, e⟩, h⟩ := h
  exact ⟨h0, ⟨n, by omega, e⟩, h⟩
/-- a store at a place of no meaning -/
theorem DOK.sf {T : Nat} {f : Nat → Int32} (h : DOK T f) {k : Nat} (hk : (3 < k ∧ k < 14) ∨ (14 < k ∧ k < 18) ∨ (18 < k ∧ k < 183)) (x : Int32) : DOK T (upd f k x) := by
  obtain ⟨⟨a, ha, e0⟩, ⟨b, hb, e1⟩, ⟨c, hc, e2⟩, ⟨d, hd, e3⟩, hm, ⟨n4, g, hn, e4, hv⟩, ⟨s, hs, e5⟩⟩ := h
  refine ⟨⟨a, ha, (pk_un (by omega)).trans e0⟩, ⟨b, hb, (pk_un (by omega)).trans e1⟩, ⟨c, hc, (pk_un (by omega)).trans e2⟩, ⟨d, hd, (pk_un (by omega)).trans e3⟩, fun k9 hk9 => ?_, ⟨n4, g, hn, (pk_un (by omega)).trans e4, hv.congr fun i hi => pk_un (by omega)⟩, ⟨s, hs, (pk_un (by omega)).trans e5⟩⟩
  obtain ⟨q, hq, e⟩ := hm k9 hk9
  exact ⟨q, hq, (pk_un (by omega)).trans e⟩
theorem DOK.s2 {T : Nat} {f : Nat → Int32} (h : DOK T f) {n : Nat} (hn9 : n < 8) : DOK T (upd f 2 (nI n)) := by
  obtain ⟨⟨a, ha, e0⟩, ⟨b, hb, e1⟩, ⟨c, hc, e2⟩, ⟨d, hd, e3⟩, hm, ⟨n4, g, hn, e4, hv⟩, ⟨s, hs, e5⟩⟩ := h
  refine ⟨⟨a, ha, (pk_un (by omega)).trans e0⟩, ⟨b, hb, (pk_un (by omega)).trans e1⟩, ⟨_, hn9, pk_us⟩, ⟨d, hd, (pk_un (by omega)).trans e3⟩, fun k9 hk9 => ?_, ⟨n4, g, hn, (pk_un (by omega)).trans e4, hv.congr fun i hi => pk_un (by omega)⟩, ⟨s, hs, (pk_un (by omega)).trans e5⟩⟩
  obtain ⟨q, hq, e⟩ := hm k9 hk9
  exact ⟨q, hq, (pk_un (by omega)).trans e⟩
theorem DOK.s18 {T : Nat} {f : Nat → Int32} (h : DOK T f) {n : Nat} (hn9 : n < 8) : DOK T (upd f 18 (nI n)) := by
  obtain ⟨⟨a, ha, e0⟩, ⟨b, hb, e1⟩, ⟨c, hc, e2⟩, ⟨d, hd, e3⟩, hm, ⟨n4, g, hn, e4, hv⟩, ⟨s, hs, e5⟩⟩ := h
  refine ⟨⟨a, ha, (pk_un (by omega)).trans e0⟩, ⟨b, hb, (pk_un (by omega)).trans e1⟩, ⟨c, hc, (pk_un (by omega)).trans e2⟩, ⟨d, hd, (pk_un (by omega)).trans e3⟩, fun k9 hk9 => ?_, ⟨n4, g, hn, (pk_un (by omega)).trans e4, hv.congr fun i hi => pk_un (by omega)⟩, ⟨_, hn9, pk_us⟩⟩
  obtain ⟨q, hq, e⟩ := hm k9 hk9
  exact ⟨q, hq, (pk_un (by omega)).trans e⟩
theorem DOK.s3 {T : Nat} {f : Nat → Int32} (h : DOK T f) {n : Nat} (hn9 : n ≤ 7400) : DOK T (upd f 3 (nI n)) := by
  obtain ⟨⟨a, ha, e0⟩, ⟨b, hb, e1⟩, ⟨c, hc, e2⟩, ⟨d, hd, e3⟩, hm, ⟨n4, g, hn, e4, hv⟩, ⟨s, hs, e5⟩⟩ := h
  refine ⟨⟨a, ha, (pk_un (by omega)).trans e0⟩, ⟨b, hb, (pk_un (by omega)).trans e1⟩, ⟨c, hc, (pk_un (by omega)).trans e2⟩, ⟨_, hn9, pk_us⟩, fun k9 hk9 => ?_, ⟨n4, g, hn, (pk_un (by omega)).trans e4, hv.congr fun i hi => pk_un (by omega)⟩, ⟨s, hs, (pk_un (by omega)).trans e5⟩⟩
  obtain ⟨q, hq, e⟩ := hm k9 hk9
  exact ⟨q, hq, (pk_un (by omega)).trans e⟩
theorem DOK.s1 {T : Nat} {f : Nat → Int32} (h : DOK T f) {n : Nat} (hn9 : n ≤ T) : DOK (T + 1) (upd f 1 (nI (n + 1))) := by
  obtain ⟨⟨a, ha, e0⟩, ⟨b, hb, e1⟩, ⟨c, hc, e2⟩, ⟨d, hd, e3⟩, hm, ⟨n4, g, hn, e4, hv⟩, ⟨s, hs, e5⟩⟩ := h
  refine ⟨⟨a, ha, (pk_un (by omega)).trans e0⟩, ⟨n + 1, by omega, pk_us⟩, ⟨c, hc, (pk_un (by omega)).trans e2⟩, ⟨d, hd, (pk_un (by omega)).trans e3⟩, fun k9 hk9 => ?_, ⟨n4, g, hn, (pk_un (by omega)).trans e4, hv.congr fun i hi => pk_un (by omega)⟩, ⟨s, hs, (pk_un (by omega)).trans e5⟩⟩
  obtain ⟨q, hq, e⟩ := hm k9 hk9
  exact ⟨q, hq, (pk_un (by omega)).trans e⟩
/-- a store among the messages: at a head's place a head -/
theorem DOK.sm {T : Nat} {f : Nat → Int32} (h : DOK T f) {k : Nat} (hk : 1383 ≤ k) {x : Int32} (hx : ∀ j, j < 7400 → k = 1383 + 6 * j → ∃ h, h < 512 ∧ x = nI h) : DOK T (upd f k x) := by
  obtain ⟨⟨a, ha, e0⟩, ⟨b, hb, e1⟩, ⟨c, hc, e2⟩, ⟨d, hd, e3⟩, hm, ⟨n4, g, hn, e4, hv⟩, ⟨s, hs, e5⟩⟩ := h
  refine ⟨⟨a, ha, (pk_un (by omega)).trans e0⟩, ⟨b, hb, (pk_un (by omega)).trans e1⟩, ⟨c, hc, (pk_un (by omega)).trans e2⟩, ⟨d, hd, (pk_un (by omega)).trans e3⟩, fun k9 hk9 => ?_, ⟨n4, g, hn, (pk_un (by omega)).trans e4, hv.congr fun i hi => pk_un (by omega)⟩, ⟨s, hs, (pk_un (by omega)).trans e5⟩⟩
  by_cases hz : 1383 + 6 * k9 = k
  · obtain ⟨q, hq, e⟩ := hx k9 hk9 hz.symm
    exact ⟨q, hq, by rw [hz, pk_us]; exact e⟩
  · obtain ⟨q, hq, e⟩ := hm k9 hk9
    exact ⟨q, hq, (pk_un hz).trans e⟩
theorem DRK.sf {f : Nat → Int32} (h : DRK f) {k : Nat} (hk : (3 < k ∧ k < 14) ∨ (14 < k ∧ k < 18) ∨ 18 < k) (x : Int32) : DRK (upd f k x) := by
  obtain ⟨⟨a, ha, e0⟩, e1, e2, e3, ⟨n, hn, e4⟩, e5⟩ := h
  exact ⟨⟨a, ha, (pk_un (by omega)).trans e0⟩, (pk_un (by omega)).trans e1, (pk_un (by omega)).trans e2, (pk_un (by omega)).trans e3, ⟨n, hn, (pk_un (by omega)).trans e4⟩, (pk_un (by omega)).trans e5⟩
theorem nI_div {a d : Nat} (ha : a < 2 ^ 31) (hd : d < 2 ^ 31) (h0 : 0 < d) : nI a / nI d = nI (a / d) := pk_div ha h0 hd
theorem nI_rem {a d : Nat} (ha : a < 2 ^ 31) (hd : d < 2 ^ 31) (h0 : 0 < d) : nI a - nI a / nI d * nI d = nI (a % d) := pk_rem ha h0 hd
theorem or01 {x y : Int32} (hx : x = 0 ∨ x = 1) (hy : y = 0 ∨ y = 1) : ∃ z, (z = 0 ∨ z = 1) ∧ x ||| y = z := by
  rcases hx with rfl | rfl <;> rcases hy with rfl | rfl
  · exact ⟨0, Or.inl rfl, by decide⟩
  · exact ⟨1, Or.inr rfl, by decide⟩
  · exact ⟨1, Or.inr rfl, by decide⟩
  · exact ⟨1, Or.inr rfl, by decide⟩
/-- between 0 and n - 1 -/
theorem rngm {x : Int32} {n : Nat} (hn : n ≤ 8) (h1 : ¬ x < 0) (h2 : ¬ nI n - 1 < x) : ∃ k, k < 8 ∧ x = nI k := by
  obtain ⟨j, hj, rfl⟩ := nI_of h1
  rcases Nat.eq_zero_or_pos n with rfl | h0
  · exact absurd (show nI 0 - 1 < nI j by rw [Int32.lt_iff_toInt_lt, nI_toInt hj, show (nI 0 - 1 : Int32).toInt = -1 by decide]; omega) h2
  · rw [show (1 : Int32) = nI 1 from rfl, nI_subN h0, nI_ltI (by omega) hj] at h2
    exact ⟨j, by omega, rfl⟩
theorem WT.up {B0 : Nat} {D : va_G} {cs : Nat → ClassId} {T T' : Nat} {κ : KM} {H : Heap} (h : WT B0 D cs T κ H) (hT : T ≤ T') : WT B0 D cs T' κ H := by
  intro a ha
  obtain ⟨h0, e, h1, h2⟩ := h a ha
  refine ⟨h0, e, h1, ?_⟩
  by_cases c24 : (κ a).1 = 24
  · unfold okE at h2; rw [c24] at h2
    obtain ⟨f, rfl, hf⟩ := h2
    exact ok_24 c24 ⟨f, rfl, hf.up hT⟩
  by_cases c25 : (κ a).1 = 25
  · unfold okE at h2; rw [c25] at h2
    obtain ⟨f, rfl, hf⟩ := h2
    exact ok_25 c25 ⟨f, rfl, hf.up hT⟩
  unfold okE at h2 ⊢
  split at h2 <;> first | exact h2 | contradiction | (exfalso; omega)
/-- a copy's head and messages are what matters -/
theorem DOK.cp {T : Nat} {f g g0 : Nat → Int32} (h : DOK T f) (h0 : DOK T g0) {n : Nat} (hg : ∀ i, i < 1383 + 6 * n → g i = f i) (hg2 : ∀ i, 1383 + 6 * n ≤ i → g i = g0 i) : DOK T g := by
  obtain ⟨⟨a, ha, e0⟩, ⟨b, hb, e1⟩, ⟨c, hc, e2⟩, ⟨d, hd, e3⟩, hm, ⟨n4, g4, hn, e4, hv⟩, ⟨s, hs, e5⟩⟩ := h
  refine ⟨⟨a, ha, (hg _ (by omega)).trans e0⟩, ⟨b, hb, (hg _ (by omega)).trans e1⟩, ⟨c, hc, (hg _ (by omega)).trans e2⟩, ⟨d, hd, (hg _ (by omega)).trans e3⟩, fun k9 hk9 => ?_, ⟨n4, g4, hn, (hg _ (by omega)).trans e4, hv.congr fun i hi => hg _ (by omega)⟩, ⟨s, hs, (hg _ (by omega)).trans e5⟩⟩
  by_cases hz : k9 < n
  · obtain ⟨q, hq, e⟩ := hm k9 hk9
    exact ⟨q, hq, (hg _ (by omega)).trans e⟩
  · obtain ⟨q, hq, e⟩ := h0.2.2.2.2.1 k9 hk9
    exact ⟨q, hq, (hg2 _ (by omega)).trans e⟩
/-- the draft, when it is copied: no messages, its codes run -/
theorem DRK.dok {T : Nat} {f g g0 : Nat → Int32} (h : DRK f) (h0 : DOK T g0) {n k : Nat} (e : f 14 = nI n) (hn : n ≤ 1200) (hc : CV (fun i => f (183 + i)) n k) (hg : ∀ i, i < 1383 → g i = f i) (hg2 : ∀ i, 1383 ≤ i → g i = g0 i) : DOK T g := by
  obtain ⟨⟨a, ha, e0⟩, e1, e2, e3, -, e5⟩ := h
  refine ⟨⟨a, ha, (hg _ (by omega)).trans e0⟩, ⟨0, Nat.zero_le _, (hg _ (by omega)).trans e1⟩, ⟨0, by omega, (hg _ (by omega)).trans e2⟩, ⟨0, by omega, (hg _ (by omega)).trans e3⟩, fun k9 hk9 => ?_, ⟨n, k, hn, (hg _ (by omega)).trans e, hc.congr fun i hi => hg _ (by omega)⟩, ⟨0, by omega, (hg _ (by omega)).trans e5⟩⟩
  obtain ⟨q, hq, e⟩ := h0.2.2.2.2.1 k9 hk9
  exact ⟨q, hq, (hg2 _ (by omega)).trans e⟩
def cpF (i : Nat) (f g : Nat → Int32) : Nat → Int32 := fun j => if j < i then f j else g j
theorem cpF_0 (f g : Nat → Int32) : cpF 0 f g = g := by
  funext j
  unfold cpF
  rw [if_neg (Nat.not_lt_zero j)]
theorem cpF_s (i : Nat) (f g : Nat → Int32) : upd (cpF i f g) i (f i) = cpF (i + 1) f g := by
  funext j
  unfold upd cpF
  by_cases e : j = i
  · subst e
    rw [if_pos rfl, if_pos (Nat.lt_succ_self j)]
  · rw [if_neg e]
    by_cases h : j < i
    · rw [if_pos h, if_pos (Nat.lt_succ_of_lt h)]
    · rw [if_neg h, if_neg (by omega)]
theorem cpF_lt {i j : Nat} {f g : Nat → Int32} (h : j < i) : cpF i f g j = f j := if_pos h
theorem nI_dec1 {n : Nat} (h : 1 ≤ n) : nI n + (-1) = nI (n - 1) := by
  obtain ⟨m, rfl⟩ : ∃ m, n = m + 1 := ⟨n - 1, by omega⟩
  exact pk_m1 m
/-! a number of a kind's two changes -/
def kp (κ : KM) (a x y : Nat) : KM := fun q => if q = a then ((κ a).1, (κ a).2.1, x, y) else κ q
theorem kp_1 {κ : KM} {a x y q : Nat} : (kp κ a x y q).1 = (κ q).1 := by
  unfold kp
  split
  · rename_i h; subst h; rfl
  · rfl
theorem kp_2 {κ : KM} {a x y q : Nat} : (kp κ a x y q).2.1 = (κ q).2.1 := by
  unfold kp
  split
  · rename_i h; subst h; rfl
  · rfl
theorem kp_a {κ : KM} {a x y : Nat} : kp κ a x y a = ((κ a).1, (κ a).2.1, x, y) := if_pos rfl
theorem kp_n {κ : KM} {a x y q : Nat} (h : q ≠ a) : kp κ a x y q = κ q := if_neg h
theorem t2kp {κ : KM} {a x y q c o : Nat} (h : T2 κ q c o) : T2 (kp κ a x y) q c o := ⟨kp_1.trans h.1, kp_2.trans h.2⟩
theorem t2eq {κ : KM} {a x y q c o : Nat} : T2 (kp κ a x y) q c o = T2 κ q c o := by
  unfold T2; rw [kp_1, kp_2]
theorem okE_kp {cs : Nat → ClassId} {T : Nat} {κ : KM} {a x y : Nat} (h14 : (κ a).1 ≠ 14) (h25 : (κ a).1 ≠ 25) {k : Nat × Nat × Nat × Nat} {e : va_E} (h : okE cs T κ k e) : okE cs T (kp κ a x y) k e := by
  unfold okE at h ⊢
  split at h
  case h_13 =>
    obtain ⟨f, rfl, hf⟩ := h
    refine ⟨f, rfl, fun j hj => ?_⟩
    obtain ⟨b, h1, h2, h3⟩ := hf j hj
    exact ⟨b, h1, t2kp h2, by rw [kp_n (fun e => h14 (by rw [← e]; exact h2.1))]; exact h3⟩
  case h_27 =>
    obtain ⟨f, rfl, hf⟩ := h
    refine ⟨f, rfl, fun j hj => ?_⟩
    obtain ⟨b, h1, h2, h3⟩ := hf j hj
    exact ⟨b, h1, t2kp h2, by rw [kp_n (fun e => h25 (by rw [← e]; exact h2.1))]; exact h3⟩
  case h_10 =>
    obtain ⟨th, bu, tl, pos, er, ea, eo, sd, dr, hi, ud, ns, ne, se, td, sk, rfl, g1, g2, g3, g4, g5, g6, g7, g8, g9, g10, g11⟩ := h
    exact ⟨th, bu, tl, pos, er, ea, eo, sd, dr, hi, ud, ns, ne, se, td, sk, rfl, g1, g2, g3, g4, t2kp g5, t2kp g6, t2kp g7, by rw [kp_n (fun e => h25 (by rw [← e]; exact g7.1))]; exact g8, t2kp g9, t2kp g10, t2kp g11⟩
  all_goals first | exact h | (simp only [K1, K3, K6, K7, K8, K9, K11, K12, T2, kp_1, kp_2] at h ⊢; exact h)
/-- closing where a kind's numbers change -/
theorem WT.closeK {B0 : Nat} {D : va_G} {cs : Nat → ClassId} {T : Nat} {κ : KM} {Hb H : Heap} {ws : va_W} {ms : List Nat} {locs : List Loc} (w x y : Nat) (hT : WT B0 D cs T κ Hb) (h : Bx B0 D Hb ws ms H locs) (h14 : (κ w).1 ≠ 14) (h25 : (κ w).1 ≠ 25) (hw : w ∈ ms) (hok : okM cs T (kp κ w x y) ws ms) : WT B0 D cs T (kp κ w x y) H := by
  intro a ha
  obtain ⟨h0, e, hat, hoe⟩ := hT a (by rw [kp_1] at ha; exact ha)
  refine ⟨h0, ?_⟩
  by_cases hm : a ∈ ms
  · obtain ⟨k, e', hk, ho⟩ := hok.at a hm
    exact ⟨e', h.1 k _ hk, ho⟩
  · refine ⟨e, hat.kept (h.2.2.2.1 a hat.lt hm), ?_⟩
    have hne : a ≠ w := fun e => hm (by rw [e]; exact hw)
    rw [kp_n hne]
    exact okE_kp h14 h25 hoe
theorem fr_kp {B0 : Nat} {S : List Nat} {κ : KM} {a x y : Nat} {H0 H : Heap} (h : Fr B0 S (kp κ a x y) H0 H) : Fr B0 S κ H0 H := ⟨h.1, fun q hq hc => h.2 q hq (hc.elim Or.inl fun g => Or.inr ⟨by rw [kp_1]; exact g.1, by rw [kp_2]; exact g.2⟩)⟩
theorem fr_kp' {B0 : Nat} {S : List Nat} {κ : KM} {a x y : Nat} {H0 H : Heap} (h : Fr B0 S κ H0 H) : Fr B0 S (kp κ a x y) H0 H := ⟨h.1, fun q hq hc => h.2 q hq (hc.elim Or.inl fun g => Or.inr ⟨by have := g.1; rw [kp_1] at this; exact this, by have := g.2; rw [kp_2] at this; exact this⟩)⟩
theorem KC.wk {l : Launch} {y : MethodName} {wy : List Cond} {fr lo mc ms : Nat} {D : va_G} {cs : Nat → ClassId} {B0 : Nat} {H0 : Heap} {av : List Value} {Qo Qp : Option Value → Heap → Prop} (h : KC l y wy fr lo mc ms D cs B0 H0 av Qo) (hq : ∀ v H, Qo v H → Qp v H) : KC l y wy fr lo mc ms D cs B0 H0 av Qp := by
  intro p e h1 h2 h3 s m args below h4 h5 h6 h7
  obtain ⟨n, o, a1, a2, a3, ⟨⟨v, b1, b2⟩, b3⟩⟩ := h p e h1 h2 h3 s m args below h4 h5 h6 h7
  exact ⟨n, o, a1, a2, a3, ⟨⟨v, b1, hq v _ b2⟩, b3⟩⟩
theorem rngN {x : Int32} {n : Nat} (hn : n < 2 ^ 31) (h1 : ¬ x < 0) (h2 : ¬ nI n - 1 < x) : ∃ k, k < n ∧ x = nI k := by
  obtain ⟨j, hj, rfl⟩ := nI_of h1
  rcases Nat.eq_zero_or_pos n with rfl | h0
  · exact absurd (show nI 0 - 1 < nI j by rw [Int32.lt_iff_toInt_lt, nI_toInt hj, show (nI 0 - 1 : Int32).toInt = -1 by decide]; omega) h2
  · rw [show (1 : Int32) = nI 1 from rfl, nI_subN h0, nI_ltI (by omega) hj] at h2
    exact ⟨j, by omega, rfl⟩
theorem Bx.ms {B0 : Nat} {D : va_G} {Hb : Heap} {ws : va_W} {ms ms' : List Nat} {H : Heap} {locs : List Loc} (h : Bx B0 D Hb ws ms H locs) (h1 : ∀ q ∈ ms, q ∈ ms') (h2 : ∀ q ∈ ms', B0 ≤ q) : Bx B0 D Hb ws ms' H locs :=
  ⟨h.1, h.2.1, h.2.2.1, fun q hq hn => h.2.2.2.1 q hq (fun g => hn (h1 q g)), h2, h.2.2.2.2.2⟩
theorem kp_ok {cs : Nat → ClassId} {T : Nat} {κ : KM} {a x y : Nat} {e : va_E} (h : okE cs T (kp κ a x y) ((κ a).1, (κ a).2.1, x, y) e) : okE cs T (kp κ a x y) (kp κ a x y a) e := by rw [kp_a]; exact h
theorem kp_oth {cs : Nat → ClassId} {T : Nat} {κ : KM} {a b x y : Nat} {e : va_E} (hn : b ≠ a) (h14 : (κ a).1 ≠ 14) (h25 : (κ a).1 ≠ 25) (h : okE cs T κ (κ b) e) : okE cs T (kp κ a x y) (kp κ a x y b) e := by rw [kp_n hn]; exact okE_kp h14 h25 h
theorem W.vaS {p : Program} {l : Launch} {e : Env} {R : Room} {s : State} {m : MethodId} {args : Array Value} {below : List Frame} {meth : Method} {c : Code} {H : Heap} {locs : List Loc} {cells slots : Nat} {Q : State → Prop} {B0 : Nat} {g : JFrame} (hL : OkL B0 locs) (kk : va_S (fun q => B0 ≤ q) s.heap H locs → W p l e R s m args below meth c H locs cells slots Q g) : W p l e R s m args below meth c H locs cells slots Q g :=
  W.old hL (fun hold => W.know (fun hg => kk ⟨hg.1, fun q hq hA => hold q hq (Nat.not_le.mp hA), hL⟩))
theorem sx_rec {sa va n B0 : Nat} {by9 : Nat → Int32} {s : State} {H : Heap} (h : SX sa va n by9 (fun q => B0 ≤ q) s s.heap) (hold : ∀ a : Nat, a < s.heap.size → a < B0 → H[a]? = s.heap[a]?) : ∃ cellB : Cell, H[sa]? = some cellB ∧ cellB.vm.isStatics = false ∧ s.vm.findClass "java/lang/String" = some cellB.cls := by
  obtain ⟨cell, h1, h2, h3, h4⟩ := h.1
  exact ⟨cell, by rw [hold sa (Array.getElem?_eq_some_iff.mp h1).1 (Nat.not_le.mp h4)]; exact h1, h2, h3⟩
theorem nT_le : ∀ i ∈ nW, nT i ≤ 8 := by decide +kernel
theorem wc_all : ∀ i ∈ nW, ∀ k, k < 8 → wc i k < 123 := by decide +kernel
theorem wc_lt {i k : Nat} (hi : i ∈ nW) (hk : k < nT i) : wc i k < 123 := wc_all i hi k (Nat.lt_of_lt_of_le hk (nT_le i hi))
theorem nI_255 : ∀ n, n < 123 → nI n &&& 255 = nI n := by decide +kernel
theorem nB_255 {i k : Nat} (hi : i ∈ nW) (hk : k < nT i) : nB i k &&& 255 = nI (wc i k) := nI_255 _ (wc_lt hi hk)
theorem shr0 (x : Int32) : x >>> ((0 : Int32) &&& 31) = x := by
  rw [show (0 : Int32) &&& 31 = 0 from by decide, ← Int32.toBitVec_inj]
  simp
theorem nch {n : Nat} (h : n ≤ 65535) : narrow .char (.int (nI n)) = .int (nI n) := by
  show Value.int _ = _
  congr 1
  have h1 := nI_toInt (n := n) (by omega)
  exact lg_i2c_word (by omega) (by omega)
theorem i2cn {n : Nat} (h : n ≤ 65535) : ((nI n).toUInt32 % 65536).toInt32 = nI n := by
  have h1 := nI_toInt (n := n) (by omega)
  exact lg_i2c_word (by omega) (by omega)
def m255 (x : Int32) : Nat := x.toBitVec.toNat % 256
theorem m255_lt (x : Int32) : m255 x < 256 := Nat.mod_lt _ (by decide)
theorem and255 (x : Int32) : x &&& 255 = nI (m255 x) := pk_and x (m := 255) 8 (by decide)
theorem kp_su {κ : KM} {w x y : Nat} {su : Value} (h : su = .null ∨ ∃ a, su = .ref a ∧ (κ a).1 = 7) : su = .null ∨ ∃ a, su = .ref a ∧ (kp κ w x y a).1 = 7 := by
  rcases h with h | ⟨a, h1, h2⟩
  · exact Or.inl h
  · exact Or.inr ⟨a, h1, kp_1.trans h2⟩
/-- the field k of the object at a is v -/
def FI (D : va_G) (a ci k : Nat) (v : Value) (H : Heap) : Prop := ∃ fs : List Value, va_at D vwCl (a, .inr (ci, fs)) H ∧ fs[k]? = some v
theorem FI.eq {D : va_G} {a ci k N : Nat} {C : String} {T : u_T} {v v' : Value} {fs : List Value} {H : Heap} (h : FI D a ci k v H) (hat : va_at D vwCl (a, .inr (ci, fs)) H) (hc : vwCl[ci]? = some (C, T, N)) (hk : k < N) (hv : fs[k]? = some v') : v' = v := by
  obtain ⟨fs0, ⟨r, h1, cell, q1, q2, q3, q4⟩, h2⟩ := h
  obtain ⟨r', h1', cell', q1', q2', q3', q4'⟩ := hat
  obtain rfl : r = (C, T, N) := Option.some.inj (h1.symm.trans hc)
  obtain rfl : r' = (C, T, N) := Option.some.inj (h1'.symm.trans hc)
  obtain rfl : cell = cell' := Option.some.inj (q1.symm.trans q1')
  have e := (q4 k hk).symm.trans (q4' k hk)
  have e1 : vp_V fs0 k = v := by unfold vp_V; rw [List.getD_eq_getElem?_getD, h2]; rfl
  have e2 : vp_V fs k = v' := by unfold vp_V; rw [List.getD_eq_getElem?_getD, hv]; rfl
  rw [← e2, ← e1]
  exact (Option.some.inj e).symm
