/-! ===== the heap by kinds: an address' kind is its code, its owner, two numbers ===== -/
abbrev KM : Type := Nat → Nat × Nat × Nat × Nat
abbrev T2 (κ : KM) (a c o : Nat) : Prop := (κ a).1 = c ∧ (κ a).2.1 = o
/-- the model's row of codes runs to n with the height h -/
def CV (g : Nat → Int32) (n h : Nat) : Prop := ∃ ht : Nat → Nat, ht 0 = 1 ∧ ht n = h + 1 ∧ ∀ i, i < n → ht i ≠ 0 → (g i ≤ 1 → i + 2 ≤ n ∧ ht (i + 2) = ht i + 1) ∧ (¬ g i ≤ 1 → 3 ≤ ht i ∧ ht (i + 1) + 1 = ht i)
/-- a row of the model's data: what is read as a place is one; its time is at most T -/
def DOK (T : Nat) (f : Nat → Int32) : Prop :=
  (∃ n, n ≤ 8 ∧ f 0 = nI n) ∧ (∃ n, n ≤ T ∧ f 1 = nI n) ∧ (∃ n, n < 8 ∧ f 2 = nI n) ∧
  (∃ n, n ≤ 7400 ∧ f 3 = nI n) ∧ (∀ k, k < 7400 → ∃ h, h < 512 ∧ f (1383 + 6 * k) = nI h) ∧
  (∃ n h, n ≤ 1200 ∧ f 14 = nI n ∧ CV (fun i => f (183 + i)) n h) ∧ ∃ n, n < 8 ∧ f 18 = nI n
/-- the model's draft -/
def DRK (f : Nat → Int32) : Prop := (∃ n, n ≤ 8 ∧ f 0 = nI n) ∧ f 1 = 0 ∧ f 2 = 0 ∧ f 3 = 0 ∧ (∃ n, n ≤ 1200 ∧ f 14 = nI n) ∧ f 18 = 0
abbrev K1 (cs : Nat → ClassId) (T : Nat) (κ : KM) (k : Nat × Nat × Nat × Nat) (e : va_E) : Prop := ∃ co st, e = .inr (0, [.ref co, .ref st]) ∧ T2 κ co 21 15 ∧ T2 κ st 22 16
abbrev K2 (cs : Nat → ClassId) (T : Nat) (κ : KM) (k : Nat × Nat × Nat × Nat) (e : va_E) : Prop := ∃ a b c d x y z : Int32, e = .inr (1, [.int a, .int b, .int c, .int d, .int x, .int y, .int z])
abbrev K3 (cs : Nat → ClassId) (T : Nat) (κ : KM) (k : Nat × Nat × Nat × Nat) (e : va_E) : Prop := ∃ ra ca, ∃ t : Int32, e = .inr (2, [.ref ra, .ref ca, .int t]) ∧ T2 κ ra 13 k.2.1 ∧ T2 κ ca 15 k.2.1
abbrev K4 (cs : Nat → ClassId) (T : Nat) (κ : KM) (k : Nat × Nat × Nat × Nat) (e : va_E) : Prop := ∃ a b c d x y z u v w : Int32, e = .inr (3, [.int a, .int b, .int c, .int d, .int x, .int y, .int z, .int u, .int v, .int w]) ∧ (a = 0 ∨ a = 1)
abbrev K5 (cs : Nat → ClassId) (T : Nat) (κ : KM) (k : Nat × Nat × Nat × Nat) (e : va_E) : Prop := ∃ a b c d x oc y z : Int32, e = .inr (4, [.int a, .int b, .int c, .int d, .int x, .int oc, .int y, .int z]) ∧ (oc = 0 ↔ k.2.2.1 = 0)
abbrev K6 (cs : Nat → ClassId) (T : Nat) (κ : KM) (k : Nat × Nat × Nat × Nat) (e : va_E) : Prop := ∃ (tx len pos : Nat) (kind : Int32) (st : Nat) (va ta tk : Int32) (co cc : Nat) (su : Value) (ec es : Int32), e = .inr (5, [.ref tx, .int (nI k.2.2.1), .int (nI len), .int (nI pos), .int kind, .int (nI st), .int va, .int ta, .int tk, .ref co, .int (nI cc), su, .int ec, .int es]) ∧ k.2.2.1 ≤ 600 ∧ len ≤ 600 ∧ pos ≤ 600 ∧ st ≤ 600 ∧ cc ≤ 600 ∧ T2 κ tx 16 10 ∧ T2 κ co 17 10 ∧ (su = .null ∨ ∃ a, su = .ref a ∧ (κ a).1 = 7) ∧ (k.2.2.2 = 0 ∨ su = .ref k.2.2.2)
abbrev K7 (cs : Nat → ClassId) (T : Nat) (κ : KM) (k : Nat × Nat × Nat × Nat) (e : va_E) : Prop := ∃ (pl : Nat) (ne pa : Int32) (mg : Value) (ct of dr dl : Nat), e = .inr (6, [.int (nI pl), .int ne, .int pa, mg, .ref ct, .ref of, .ref dr, .ref dl]) ∧ pl ≤ 8 ∧ (mg = .null ∨ ∃ a, mg = .ref a ∧ T2 κ a 1 15) ∧ (k.2.2.1 ≠ 1 ∨ ∃ a, mg = .ref a) ∧ T2 κ ct 18 k.2.1 ∧ T2 κ of 19 k.2.1 ∧ T2 κ dr 19 k.2.1 ∧ T2 κ dl 20 k.2.1
abbrev K8 (cs : Nat → ClassId) (T : Nat) (κ : KM) (k : Nat × Nat × Nat × Nat) (e : va_E) : Prop := ∃ (su pa ml pr li lo : Nat) (cu : Int64) (tm c8 c9 c10 c11 c12 c13 c14 c15 : Int32), e = .inr (7, [.ref su, .ref pa, .ref ml, .ref pr, .ref li, .ref lo, .long cu, .int tm, .int c8, .int c9, .int c10, .int c11, .int c12, .int c13, .int c14, .int c15]) ∧ T2 κ su 7 15 ∧ su = k.2.2.1 ∧ T2 κ pa 11 k.2.1 ∧ T2 κ ml 3 (k.2.1 + 20) ∧ T2 κ pr 5 k.2.1 ∧ T2 κ li 2 (k.2.1 + 40) ∧ T2 κ lo 2 k.2.1 ∧ tm &&& 15 = nI k.2.2.2 ∧ k.2.1 < 10 ∧ ml = cs (400 + k.2.1) ∧ pr = cs (420 + k.2.1) ∧ li = cs (460 + k.2.1)
abbrev K9 (cs : Nat → ClassId) (T : Nat) (κ : KM) (k : Nat × Nat × Nat × Nat) (e : va_E) : Prop := ∃ (rd nw tr pa : Nat) (a b c : Int32), e = .inr (8, [.ref rd, .ref nw, .ref tr, .ref pa, .int a, .int b, .int c]) ∧ T2 κ rd 6 10 ∧ T2 κ nw 8 0 ∧ T2 κ tr 8 1 ∧ T2 κ pa 12 13 ∧ nw = cs 440 ∧ tr = cs 441 ∧ rd = cs 450
abbrev K10 (cs : Nat → ClassId) (T : Nat) (κ : KM) (k : Nat × Nat × Nat × Nat) (e : va_E) : Prop := ∃ (th : Int32) (bu tl pos : Nat) (er ea eo : Int32) (sd dr hi ud : Nat) (ns ne se td : Int32) (sk : Nat), e = .inr (9, [.int th, .ref bu, .int (nI k.2.2.1), .int (nI tl), .int (nI pos), .int er, .int ea, .int eo, .ref k.2.2.2, .ref sd, .ref dr, .ref hi, .int (nI ud), .int ns, .int ne, .int se, .int td, .ref sk]) ∧ k.2.2.1 ≤ 600 ∧ tl ≤ 600 ∧ pos ≤ tl ∧ ud ≤ 8 ∧ T2 κ bu 23 14 ∧ T2 κ k.2.2.2 24 18 ∧ T2 κ sd 25 18 ∧ (κ sd).2.2.1 = 100 ∧ T2 κ dr 26 17 ∧ T2 κ hi 27 12 ∧ T2 κ sk 28 19
abbrev K11 (cs : Nat → ClassId) (T : Nat) (κ : KM) (k : Nat × Nat × Nat × Nat) (e : va_E) : Prop := ∃ f : Nat → Option Nat, e = .inl (cs 4, 8, .inr (.inr (.inr (.inr f)))) ∧ ∀ j, j < 8 → ∃ a, f j = some a ∧ T2 κ a 4 k.2.1
abbrev K12 (cs : Nat → ClassId) (T : Nat) (κ : KM) (k : Nat × Nat × Nat × Nat) (e : va_E) : Prop := ∃ f : Nat → Option Nat, e = .inl (cs 5, 8, .inr (.inr (.inr (.inr f)))) ∧ ∀ j, j < 8 → ∃ a, f j = some a ∧ T2 κ a 8 (j + 2) ∧ a = cs (442 + j)
abbrev K13 (cs : Nat → ClassId) (T : Nat) (κ : KM) (k : Nat × Nat × Nat × Nat) (e : va_E) : Prop := ∃ f : Nat → Option Nat, e = .inl (cs 6, 16, .inr (.inr (.inr (.inr f)))) ∧ ∀ j, j < 16 → ∃ a, f j = some a ∧ T2 κ a 14 k.2.1 ∧ (κ a).2.2.1 = j
abbrev K14 (cs : Nat → ClassId) (T : Nat) (κ : KM) (k : Nat × Nat × Nat × Nat) (e : va_E) : Prop := ∃ n, ∃ f : Nat → Int32, e = .inl (cs 0, n, .inl f) ∧ n ≤ 1000000
abbrev K15 (cs : Nat → ClassId) (T : Nat) (κ : KM) (k : Nat × Nat × Nat × Nat) (e : va_E) : Prop := ∃ f : Nat → Int32, e = .inl (cs 0, 16, .inl f) ∧ ∀ j, j < 16 → ∃ n, n ≤ 20000 ∧ f j = nI n
abbrev K16 (cs : Nat → ClassId) (T : Nat) (κ : KM) (k : Nat × Nat × Nat × Nat) (e : va_E) : Prop := ∃ f : Nat → Int32, e = .inl (cs 1, 600, .inl f)
abbrev K17 (cs : Nat → ClassId) (T : Nat) (κ : KM) (k : Nat × Nat × Nat × Nat) (e : va_E) : Prop := ∃ f : Nat → Int32, e = .inl (cs 0, 600, .inl f)
abbrev K18 (cs : Nat → ClassId) (T : Nat) (κ : KM) (k : Nat × Nat × Nat × Nat) (e : va_E) : Prop := ∃ f : Nat → Int32, e = .inl (cs 2, 8, .inl f) ∧ ∀ j, j < 8 → f j = 0 ∨ f j = 1
abbrev K19 (cs : Nat → ClassId) (T : Nat) (κ : KM) (k : Nat × Nat × Nat × Nat) (e : va_E) : Prop := ∃ f : Nat → Int32, e = .inl (cs 0, 8, .inl f)
abbrev K20 (cs : Nat → ClassId) (T : Nat) (κ : KM) (k : Nat × Nat × Nat × Nat) (e : va_E) : Prop := ∃ f : Nat → Int32, e = .inl (cs 0, 64, .inl f) ∧ ∀ j, j < 64 → ∃ n, n ≤ 9 ∧ f j = nI n
abbrev K21 (cs : Nat → ClassId) (T : Nat) (κ : KM) (k : Nat × Nat × Nat × Nat) (e : va_E) : Prop := ∃ n, ∃ f : Nat → Int32, e = .inl (cs 0, n, .inl f) ∧ n ≤ 600
abbrev K22 (cs : Nat → ClassId) (T : Nat) (κ : KM) (k : Nat × Nat × Nat × Nat) (e : va_E) : Prop := ∃ f : Nat → Int32, e = .inl (cs 0, 16, .inl f)
abbrev K23 (cs : Nat → ClassId) (T : Nat) (κ : KM) (k : Nat × Nat × Nat × Nat) (e : va_E) : Prop := ∃ f : Nat → Int32, e = .inl (cs 0, 600, .inl f)
abbrev K24 (cs : Nat → ClassId) (T : Nat) (κ : KM) (k : Nat × Nat × Nat × Nat) (e : va_E) : Prop := ∃ f : Nat → Int32, e = .inl (cs 0, 45783, .inl f) ∧ DOK T f
abbrev K25 (cs : Nat → ClassId) (T : Nat) (κ : KM) (k : Nat × Nat × Nat × Nat) (e : va_E) : Prop := ∃ f : Nat → Int32, e = .inl (cs 0, 45783, .inl f) ∧ DOK T f
abbrev K26 (cs : Nat → ClassId) (T : Nat) (κ : KM) (k : Nat × Nat × Nat × Nat) (e : va_E) : Prop := ∃ f : Nat → Int32, e = .inl (cs 0, 1383, .inl f) ∧ DRK f
abbrev K27 (cs : Nat → ClassId) (T : Nat) (κ : KM) (k : Nat × Nat × Nat × Nat) (e : va_E) : Prop := ∃ f : Nat → Option Nat, e = .inl (cs 6, 8, .inr (.inr (.inr (.inr f)))) ∧ ∀ j, j < 8 → ∃ a, f j = some a ∧ T2 κ a 25 18 ∧ (κ a).2.2.1 = j
abbrev K28 (cs : Nat → ClassId) (T : Nat) (κ : KM) (k : Nat × Nat × Nat × Nat) (e : va_E) : Prop := ∃ f : Nat → Int64, e = .inl (cs 3, 1200, .inr (.inl f))
abbrev K29 (cs : Nat → ClassId) (T : Nat) (κ : KM) (k : Nat × Nat × Nat × Nat) (e : va_E) : Prop := ∃ f : Nat → Int64, e = .inl (cs 3, 1, .inr (.inl f))
def okE (cs : Nat → ClassId) (T : Nat) (κ : KM) (k : Nat × Nat × Nat × Nat) (e : va_E) : Prop := match k.1 with
  | 1 => K1 cs T κ k e
  | 2 => K2 cs T κ k e
  | 3 => K3 cs T κ k e
  | 4 => K4 cs T κ k e
  | 5 => K5 cs T κ k e
  | 6 => K6 cs T κ k e
  | 7 => K7 cs T κ k e
  | 8 => K8 cs T κ k e
  | 9 => K9 cs T κ k e
  | 10 => K10 cs T κ k e
  | 11 => K11 cs T κ k e
  | 12 => K12 cs T κ k e
  | 13 => K13 cs T κ k e
  | 14 => K14 cs T κ k e
  | 15 => K15 cs T κ k e
  | 16 => K16 cs T κ k e
  | 17 => K17 cs T κ k e
  | 18 => K18 cs T κ k e
  | 19 => K19 cs T κ k e
  | 20 => K20 cs T κ k e
  | 21 => K21 cs T κ k e
  | 22 => K22 cs T κ k e
  | 23 => K23 cs T κ k e
  | 24 => K24 cs T κ k e
  | 25 => K25 cs T κ k e
  | 26 => K26 cs T κ k e
  | 27 => K27 cs T κ k e
  | 28 => K28 cs T κ k e
  | 29 => K29 cs T κ k e
  | _ => False
theorem ok_1 {cs : Nat → ClassId} {T : Nat} {κ : KM} {k : Nat × Nat × Nat × Nat} {e : va_E} (h : k.1 = 1) (h2 : K1 cs T κ k e) : okE cs T κ k e := by unfold okE; rw [h]; exact h2
theorem ok_2 {cs : Nat → ClassId} {T : Nat} {κ : KM} {k : Nat × Nat × Nat × Nat} {e : va_E} (h : k.1 = 2) (h2 : K2 cs T κ k e) : okE cs T κ k e := by unfold okE; rw [h]; exact h2
theorem ok_3 {cs : Nat → ClassId} {T : Nat} {κ : KM} {k : Nat × Nat × Nat × Nat} {e : va_E} (h : k.1 = 3) (h2 : K3 cs T κ k e) : okE cs T κ k e := by unfold okE; rw [h]; exact h2
theorem ok_4 {cs : Nat → ClassId} {T : Nat} {κ : KM} {k : Nat × Nat × Nat × Nat} {e : va_E} (h : k.1 = 4) (h2 : K4 cs T κ k e) : okE cs T κ k e := by unfold okE; rw [h]; exact h2
theorem ok_5 {cs : Nat → ClassId} {T : Nat} {κ : KM} {k : Nat × Nat × Nat × Nat} {e : va_E} (h : k.1 = 5) (h2 : K5 cs T κ k e) : okE cs T κ k e := by unfold okE; rw [h]; exact h2
theorem ok_6 {cs : Nat → ClassId} {T : Nat} {κ : KM} {k : Nat × Nat × Nat × Nat} {e : va_E} (h : k.1 = 6) (h2 : K6 cs T κ k e) : okE cs T κ k e := by unfold okE; rw [h]; exact h2
theorem ok_7 {cs : Nat → ClassId} {T : Nat} {κ : KM} {k : Nat × Nat × Nat × Nat} {e : va_E} (h : k.1 = 7) (h2 : K7 cs T κ k e) : okE cs T κ k e := by unfold okE; rw [h]; exact h2
theorem ok_8 {cs : Nat → ClassId} {T : Nat} {κ : KM} {k : Nat × Nat × Nat × Nat} {e : va_E} (h : k.1 = 8) (h2 : K8 cs T κ k e) : okE cs T κ k e := by unfold okE; rw [h]; exact h2
theorem ok_9 {cs : Nat → ClassId} {T : Nat} {κ : KM} {k : Nat × Nat × Nat × Nat} {e : va_E} (h : k.1 = 9) (h2 : K9 cs T κ k e) : okE cs T κ k e := by unfold okE; rw [h]; exact h2
theorem ok_10 {cs : Nat → ClassId} {T : Nat} {κ : KM} {k : Nat × Nat × Nat × Nat} {e : va_E} (h : k.1 = 10) (h2 : K10 cs T κ k e) : okE cs T κ k e := by unfold okE; rw [h]; exact h2
theorem ok_11 {cs : Nat → ClassId} {T : Nat} {κ : KM} {k : Nat × Nat × Nat × Nat} {e : va_E} (h : k.1 = 11) (h2 : K11 cs T κ k e) : okE cs T κ k e := by unfold okE; rw [h]; exact h2
theorem ok_12 {cs : Nat → ClassId} {T : Nat} {κ : KM} {k : Nat × Nat × Nat × Nat} {e : va_E} (h : k.1 = 12) (h2 : K12 cs T κ k e) : okE cs T κ k e := by unfold okE; rw [h]; exact h2
theorem ok_13 {cs : Nat → ClassId} {T : Nat} {κ : KM} {k : Nat × Nat × Nat × Nat} {e : va_E} (h : k.1 = 13) (h2 : K13 cs T κ k e) : okE cs T κ k e := by unfold okE; rw [h]; exact h2
theorem ok_14 {cs : Nat → ClassId} {T : Nat} {κ : KM} {k : Nat × Nat × Nat × Nat} {e : va_E} (h : k.1 = 14) (h2 : K14 cs T κ k e) : okE cs T κ k e := by unfold okE; rw [h]; exact h2
theorem ok_15 {cs : Nat → ClassId} {T : Nat} {κ : KM} {k : Nat × Nat × Nat × Nat} {e : va_E} (h : k.1 = 15) (h2 : K15 cs T κ k e) : okE cs T κ k e := by unfold okE; rw [h]; exact h2
theorem ok_16 {cs : Nat → ClassId} {T : Nat} {κ : KM} {k : Nat × Nat × Nat × Nat} {e : va_E} (h : k.1 = 16) (h2 : K16 cs T κ k e) : okE cs T κ k e := by unfold okE; rw [h]; exact h2
theorem ok_17 {cs : Nat → ClassId} {T : Nat} {κ : KM} {k : Nat × Nat × Nat × Nat} {e : va_E} (h : k.1 = 17) (h2 : K17 cs T κ k e) : okE cs T κ k e := by unfold okE; rw [h]; exact h2
theorem ok_18 {cs : Nat → ClassId} {T : Nat} {κ : KM} {k : Nat × Nat × Nat × Nat} {e : va_E} (h : k.1 = 18) (h2 : K18 cs T κ k e) : okE cs T κ k e := by unfold okE; rw [h]; exact h2
theorem ok_19 {cs : Nat → ClassId} {T : Nat} {κ : KM} {k : Nat × Nat × Nat × Nat} {e : va_E} (h : k.1 = 19) (h2 : K19 cs T κ k e) : okE cs T κ k e := by unfold okE; rw [h]; exact h2
theorem ok_20 {cs : Nat → ClassId} {T : Nat} {κ : KM} {k : Nat × Nat × Nat × Nat} {e : va_E} (h : k.1 = 20) (h2 : K20 cs T κ k e) : okE cs T κ k e := by unfold okE; rw [h]; exact h2
theorem ok_21 {cs : Nat → ClassId} {T : Nat} {κ : KM} {k : Nat × Nat × Nat × Nat} {e : va_E} (h : k.1 = 21) (h2 : K21 cs T κ k e) : okE cs T κ k e := by unfold okE; rw [h]; exact h2
theorem ok_22 {cs : Nat → ClassId} {T : Nat} {κ : KM} {k : Nat × Nat × Nat × Nat} {e : va_E} (h : k.1 = 22) (h2 : K22 cs T κ k e) : okE cs T κ k e := by unfold okE; rw [h]; exact h2
theorem ok_23 {cs : Nat → ClassId} {T : Nat} {κ : KM} {k : Nat × Nat × Nat × Nat} {e : va_E} (h : k.1 = 23) (h2 : K23 cs T κ k e) : okE cs T κ k e := by unfold okE; rw [h]; exact h2
theorem ok_24 {cs : Nat → ClassId} {T : Nat} {κ : KM} {k : Nat × Nat × Nat × Nat} {e : va_E} (h : k.1 = 24) (h2 : K24 cs T κ k e) : okE cs T κ k e := by unfold okE; rw [h]; exact h2
theorem ok_25 {cs : Nat → ClassId} {T : Nat} {κ : KM} {k : Nat × Nat × Nat × Nat} {e : va_E} (h : k.1 = 25) (h2 : K25 cs T κ k e) : okE cs T κ k e := by unfold okE; rw [h]; exact h2
theorem ok_26 {cs : Nat → ClassId} {T : Nat} {κ : KM} {k : Nat × Nat × Nat × Nat} {e : va_E} (h : k.1 = 26) (h2 : K26 cs T κ k e) : okE cs T κ k e := by unfold okE; rw [h]; exact h2
theorem ok_27 {cs : Nat → ClassId} {T : Nat} {κ : KM} {k : Nat × Nat × Nat × Nat} {e : va_E} (h : k.1 = 27) (h2 : K27 cs T κ k e) : okE cs T κ k e := by unfold okE; rw [h]; exact h2
theorem ok_28 {cs : Nat → ClassId} {T : Nat} {κ : KM} {k : Nat × Nat × Nat × Nat} {e : va_E} (h : k.1 = 28) (h2 : K28 cs T κ k e) : okE cs T κ k e := by unfold okE; rw [h]; exact h2
theorem ok_29 {cs : Nat → ClassId} {T : Nat} {κ : KM} {k : Nat × Nat × Nat × Nat} {e : va_E} (h : k.1 = 29) (h2 : K29 cs T κ k e) : okE cs T κ k e := by unfold okE; rw [h]; exact h2
def WT (B0 : Nat) (D : va_G) (cs : Nat → ClassId) (T : Nat) (κ : KM) (H : Heap) : Prop := ∀ a, (κ a).1 ≠ 0 → B0 ≤ a ∧ ∃ e, va_at D vwCl (a, e) H ∧ okE cs T κ (κ a) e
theorem WT.o1 {B0 : Nat} {D : va_G} {cs : Nat → ClassId} {T : Nat} {κ : KM} {H : Heap} {a : Nat} (hT : WT B0 D cs T κ H) (h : (κ a).1 = 1) : B0 ≤ a ∧ ∃ e, va_at D vwCl (a, e) H ∧ K1 cs T κ (κ a) e := by
  obtain ⟨h0, e, h1, h2⟩ := hT a (by rw [h]; decide)
  unfold okE at h2; rw [h] at h2
  exact ⟨h0, e, h1, h2⟩
theorem WT.o2 {B0 : Nat} {D : va_G} {cs : Nat → ClassId} {T : Nat} {κ : KM} {H : Heap} {a : Nat} (hT : WT B0 D cs T κ H) (h : (κ a).1 = 2) : B0 ≤ a ∧ ∃ e, va_at D vwCl (a, e) H ∧ K2 cs T κ (κ a) e := by
  obtain ⟨h0, e, h1, h2⟩ := hT a (by rw [h]; decide)
  unfold okE at h2; rw [h] at h2
  exact ⟨h0, e, h1, h2⟩
theorem WT.o3 {B0 : Nat} {D : va_G} {cs : Nat → ClassId} {T : Nat} {κ : KM} {H : Heap} {a : Nat} (hT : WT B0 D cs T κ H) (h : (κ a).1 = 3) : B0 ≤ a ∧ ∃ e, va_at D vwCl (a, e) H ∧ K3 cs T κ (κ a) e := by
  obtain ⟨h0, e, h1, h2⟩ := hT a (by rw [h]; decide)
  unfold okE at h2; rw [h] at h2
  exact ⟨h0, e, h1, h2⟩
theorem WT.o4 {B0 : Nat} {D : va_G} {cs : Nat → ClassId} {T : Nat} {κ : KM} {H : Heap} {a : Nat} (hT : WT B0 D cs T κ H) (h : (κ a).1 = 4) : B0 ≤ a ∧ ∃ e, va_at D vwCl (a, e) H ∧ K4 cs T κ (κ a) e := by
  obtain ⟨h0, e, h1, h2⟩ := hT a (by rw [h]; decide)
  unfold okE at h2; rw [h] at h2
  exact ⟨h0, e, h1, h2⟩
theorem WT.o5 {B0 : Nat} {D : va_G} {cs : Nat → ClassId} {T : Nat} {κ : KM} {H : Heap} {a : Nat} (hT : WT B0 D cs T κ H) (h : (κ a).1 = 5) : B0 ≤ a ∧ ∃ e, va_at D vwCl (a, e) H ∧ K5 cs T κ (κ a) e := by
  obtain ⟨h0, e, h1, h2⟩ := hT a (by rw [h]; decide)
  unfold okE at h2; rw [h] at h2
  exact ⟨h0, e, h1, h2⟩
theorem WT.o6 {B0 : Nat} {D : va_G} {cs : Nat → ClassId} {T : Nat} {κ : KM} {H : Heap} {a : Nat} (hT : WT B0 D cs T κ H) (h : (κ a).1 = 6) : B0 ≤ a ∧ ∃ e, va_at D vwCl (a, e) H ∧ K6 cs T κ (κ a) e := by
  obtain ⟨h0, e, h1, h2⟩ := hT a (by rw [h]; decide)
  unfold okE at h2; rw [h] at h2
  exact ⟨h0, e, h1, h2⟩
theorem WT.o7 {B0 : Nat} {D : va_G} {cs : Nat → ClassId} {T : Nat} {κ : KM} {H : Heap} {a : Nat} (hT : WT B0 D cs T κ H) (h : (κ a).1 = 7) : B0 ≤ a ∧ ∃ e, va_at D vwCl (a, e) H ∧ K7 cs T κ (κ a) e := by
  obtain ⟨h0, e, h1, h2⟩ := hT a (by rw [h]; decide)
  unfold okE at h2; rw [h] at h2
  exact ⟨h0, e, h1, h2⟩
theorem WT.o8 {B0 : Nat} {D : va_G} {cs : Nat → ClassId} {T : Nat} {κ : KM} {H : Heap} {a : Nat} (hT : WT B0 D cs T κ H) (h : (κ a).1 = 8) : B0 ≤ a ∧ ∃ e, va_at D vwCl (a, e) H ∧ K8 cs T κ (κ a) e := by
  obtain ⟨h0, e, h1, h2⟩ := hT a (by rw [h]; decide)
  unfold okE at h2; rw [h] at h2
  exact ⟨h0, e, h1, h2⟩
theorem WT.o9 {B0 : Nat} {D : va_G} {cs : Nat → ClassId} {T : Nat} {κ : KM} {H : Heap} {a : Nat} (hT : WT B0 D cs T κ H) (h : (κ a).1 = 9) : B0 ≤ a ∧ ∃ e, va_at D vwCl (a, e) H ∧ K9 cs T κ (κ a) e := by
  obtain ⟨h0, e, h1, h2⟩ := hT a (by rw [h]; decide)
  unfold okE at h2; rw [h] at h2
  exact ⟨h0, e, h1, h2⟩
theorem WT.o10 {B0 : Nat} {D : va_G} {cs : Nat → ClassId} {T : Nat} {κ : KM} {H : Heap} {a : Nat} (hT : WT B0 D cs T κ H) (h : (κ a).1 = 10) : B0 ≤ a ∧ ∃ e, va_at D vwCl (a, e) H ∧ K10 cs T κ (κ a) e := by
  obtain ⟨h0, e, h1, h2⟩ := hT a (by rw [h]; decide)
  unfold okE at h2; rw [h] at h2
  exact ⟨h0, e, h1, h2⟩
theorem WT.o11 {B0 : Nat} {D : va_G} {cs : Nat → ClassId} {T : Nat} {κ : KM} {H : Heap} {a : Nat} (hT : WT B0 D cs T κ H) (h : (κ a).1 = 11) : B0 ≤ a ∧ ∃ e, va_at D vwCl (a, e) H ∧ K11 cs T κ (κ a) e := by
  obtain ⟨h0, e, h1, h2⟩ := hT a (by rw [h]; decide)
  unfold okE at h2; rw [h] at h2
  exact ⟨h0, e, h1, h2⟩
theorem WT.o12 {B0 : Nat} {D : va_G} {cs : Nat → ClassId} {T : Nat} {κ : KM} {H : Heap} {a : Nat} (hT : WT B0 D cs T κ H) (h : (κ a).1 = 12) : B0 ≤ a ∧ ∃ e, va_at D vwCl (a, e) H ∧ K12 cs T κ (κ a) e := by
  obtain ⟨h0, e, h1, h2⟩ := hT a (by rw [h]; decide)
  unfold okE at h2; rw [h] at h2
  exact ⟨h0, e, h1, h2⟩
theorem WT.o13 {B0 : Nat} {D : va_G} {cs : Nat → ClassId} {T : Nat} {κ : KM} {H : Heap} {a : Nat} (hT : WT B0 D cs T κ H) (h : (κ a).1 = 13) : B0 ≤ a ∧ ∃ e, va_at D vwCl (a, e) H ∧ K13 cs T κ (κ a) e := by
  obtain ⟨h0, e, h1, h2⟩ := hT a (by rw [h]; decide)
  unfold okE at h2; rw [h] at h2
  exact ⟨h0, e, h1, h2⟩
theorem WT.o14 {B0 : Nat} {D : va_G} {cs : Nat → ClassId} {T : Nat} {κ : KM} {H : Heap} {a : Nat} (hT : WT B0 D cs T κ H) (h : (κ a).1 = 14) : B0 ≤ a ∧ ∃ e, va_at D vwCl (a, e) H ∧ K14 cs T κ (κ a) e := by
  obtain ⟨h0, e, h1, h2⟩ := hT a (by rw [h]; decide)
  unfold okE at h2; rw [h] at h2
  exact ⟨h0, e, h1, h2⟩
theorem WT.o15 {B0 : Nat} {D : va_G} {cs : Nat → ClassId} {T : Nat} {κ : KM} {H : Heap} {a : Nat} (hT : WT B0 D cs T κ H) (h : (κ a).1 = 15) : B0 ≤ a ∧ ∃ e, va_at D vwCl (a, e) H ∧ K15 cs T κ (κ a) e := by
  obtain ⟨h0, e, h1, h2⟩ := hT a (by rw [h]; decide)
  unfold okE at h2; rw [h] at h2
  exact ⟨h0, e, h1, h2⟩
theorem WT.o16 {B0 : Nat} {D : va_G} {cs : Nat → ClassId} {T : Nat} {κ : KM} {H : Heap} {a : Nat} (hT : WT B0 D cs T κ H) (h : (κ a).1 = 16) : B0 ≤ a ∧ ∃ e, va_at D vwCl (a, e) H ∧ K16 cs T κ (κ a) e := by
  obtain ⟨h0, e, h1, h2⟩ := hT a (by rw [h]; decide)
  unfold okE at h2; rw [h] at h2
  exact ⟨h0, e, h1, h2⟩
theorem WT.o17 {B0 : Nat} {D : va_G} {cs : Nat → ClassId} {T : Nat} {κ : KM} {H : Heap} {a : Nat} (hT : WT B0 D cs T κ H) (h : (κ a).1 = 17) : B0 ≤ a ∧ ∃ e, va_at D vwCl (a, e) H ∧ K17 cs T κ (κ a) e := by
  obtain ⟨h0, e, h1, h2⟩ := hT a (by rw [h]; decide)
  unfold okE at h2; rw [h] at h2
  exact ⟨h0, e, h1, h2⟩
theorem WT.o18 {B0 : Nat} {D : va_G} {cs : Nat → ClassId} {T : Nat} {κ : KM} {H : Heap} {a : Nat} (hT : WT B0 D cs T κ H) (h : (κ a).1 = 18) : B0 ≤ a ∧ ∃ e, va_at D vwCl (a, e) H ∧ K18 cs T κ (κ a) e := by
  obtain ⟨h0, e, h1, h2⟩ := hT a (by rw [h]; decide)
  unfold okE at h2; rw [h] at h2
  exact ⟨h0, e, h1, h2⟩
theorem WT.o19 {B0 : Nat} {D : va_G} {cs : Nat → ClassId} {T : Nat} {κ : KM} {H : Heap} {a : Nat} (hT : WT B0 D cs T κ H) (h : (κ a).1 = 19) : B0 ≤ a ∧ ∃ e, va_at D vwCl (a, e) H ∧ K19 cs T κ (κ a) e := by
  obtain ⟨h0, e, h1, h2⟩ := hT a (by rw [h]; decide)
  unfold okE at h2; rw [h] at h2
  exact ⟨h0, e, h1, h2⟩
theorem WT.o20 {B0 : Nat} {D : va_G} {cs : Nat → ClassId} {T : Nat} {κ : KM} {H : Heap} {a : Nat} (hT : WT B0 D cs T κ H) (h : (κ a).1 = 20) : B0 ≤ a ∧ ∃ e, va_at D vwCl (a, e) H ∧ K20 cs T κ (κ a) e := by
  obtain ⟨h0, e, h1, h2⟩ := hT a (by rw [h]; decide)
  unfold okE at h2; rw [h] at h2
  exact ⟨h0, e, h1, h2⟩
theorem WT.o21 {B0 : Nat} {D : va_G} {cs : Nat → ClassId} {T : Nat} {κ : KM} {H : Heap} {a : Nat} (hT : WT B0 D cs T κ H) (h : (κ a).1 = 21) : B0 ≤ a ∧ ∃ e, va_at D vwCl (a, e) H ∧ K21 cs T κ (κ a) e := by
  obtain ⟨h0, e, h1, h2⟩ := hT a (by rw [h]; decide)
  unfold okE at h2; rw [h] at h2
  exact ⟨h0, e, h1, h2⟩
theorem WT.o22 {B0 : Nat} {D : va_G} {cs : Nat → ClassId} {T : Nat} {κ : KM} {H : Heap} {a : Nat} (hT : WT B0 D cs T κ H) (h : (κ a).1 = 22) : B0 ≤ a ∧ ∃ e, va_at D vwCl (a, e) H ∧ K22 cs T κ (κ a) e := by
  obtain ⟨h0, e, h1, h2⟩ := hT a (by rw [h]; decide)
  unfold okE at h2; rw [h] at h2
  exact ⟨h0, e, h1, h2⟩
theorem WT.o23 {B0 : Nat} {D : va_G} {cs : Nat → ClassId} {T : Nat} {κ : KM} {H : Heap} {a : Nat} (hT : WT B0 D cs T κ H) (h : (κ a).1 = 23) : B0 ≤ a ∧ ∃ e, va_at D vwCl (a, e) H ∧ K23 cs T κ (κ a) e := by
  obtain ⟨h0, e, h1, h2⟩ := hT a (by rw [h]; decide)
  unfold okE at h2; rw [h] at h2
  exact ⟨h0, e, h1, h2⟩
theorem WT.o24 {B0 : Nat} {D : va_G} {cs : Nat → ClassId} {T : Nat} {κ : KM} {H : Heap} {a : Nat} (hT : WT B0 D cs T κ H) (h : (κ a).1 = 24) : B0 ≤ a ∧ ∃ e, va_at D vwCl (a, e) H ∧ K24 cs T κ (κ a) e := by
  obtain ⟨h0, e, h1, h2⟩ := hT a (by rw [h]; decide)
  unfold okE at h2; rw [h] at h2
  exact ⟨h0, e, h1, h2⟩
theorem WT.o25 {B0 : Nat} {D : va_G} {cs : Nat → ClassId} {T : Nat} {κ : KM} {H : Heap} {a : Nat} (hT : WT B0 D cs T κ H) (h : (κ a).1 = 25) : B0 ≤ a ∧ ∃ e, va_at D vwCl (a, e) H ∧ K25 cs T κ (κ a) e := by
  obtain ⟨h0, e, h1, h2⟩ := hT a (by rw [h]; decide)
  unfold okE at h2; rw [h] at h2
  exact ⟨h0, e, h1, h2⟩
theorem WT.o26 {B0 : Nat} {D : va_G} {cs : Nat → ClassId} {T : Nat} {κ : KM} {H : Heap} {a : Nat} (hT : WT B0 D cs T κ H) (h : (κ a).1 = 26) : B0 ≤ a ∧ ∃ e, va_at D vwCl (a, e) H ∧ K26 cs T κ (κ a) e := by
  obtain ⟨h0, e, h1, h2⟩ := hT a (by rw [h]; decide)
  unfold okE at h2; rw [h] at h2
  exact ⟨h0, e, h1, h2⟩
theorem WT.o27 {B0 : Nat} {D : va_G} {cs : Nat → ClassId} {T : Nat} {κ : KM} {H : Heap} {a : Nat} (hT : WT B0 D cs T κ H) (h : (κ a).1 = 27) : B0 ≤ a ∧ ∃ e, va_at D vwCl (a, e) H ∧ K27 cs T κ (κ a) e := by
  obtain ⟨h0, e, h1, h2⟩ := hT a (by rw [h]; decide)
  unfold okE at h2; rw [h] at h2
  exact ⟨h0, e, h1, h2⟩
theorem WT.o28 {B0 : Nat} {D : va_G} {cs : Nat → ClassId} {T : Nat} {κ : KM} {H : Heap} {a : Nat} (hT : WT B0 D cs T κ H) (h : (κ a).1 = 28) : B0 ≤ a ∧ ∃ e, va_at D vwCl (a, e) H ∧ K28 cs T κ (κ a) e := by
  obtain ⟨h0, e, h1, h2⟩ := hT a (by rw [h]; decide)
  unfold okE at h2; rw [h] at h2
  exact ⟨h0, e, h1, h2⟩
theorem WT.o29 {B0 : Nat} {D : va_G} {cs : Nat → ClassId} {T : Nat} {κ : KM} {H : Heap} {a : Nat} (hT : WT B0 D cs T κ H) (h : (κ a).1 = 29) : B0 ≤ a ∧ ∃ e, va_at D vwCl (a, e) H ∧ K29 cs T κ (κ a) e := by
  obtain ⟨h0, e, h1, h2⟩ := hT a (by rw [h]; decide)
  unfold okE at h2; rw [h] at h2
  exact ⟨h0, e, h1, h2⟩
/-- what isn't of the owners S is as it was -/
def Fr (B0 : Nat) (S : List Nat) (κ : KM) (H0 H : Heap) : Prop := H0.size ≤ H.size ∧ ∀ q, q < H0.size → (q < B0 ∨ ((κ q).1 ≠ 0 ∧ (κ q).2.1 ∉ S)) → H[q]? = H0[q]?
theorem Fr.rf {B0 : Nat} {S : List Nat} {κ : KM} {H : Heap} : Fr B0 S κ H H := ⟨Nat.le_refl _, fun _ _ _ => rfl⟩
theorem Fr.tr {B0 : Nat} {S : List Nat} {κ : KM} {H0 H1 H2 : Heap} (h1 : Fr B0 S κ H0 H1) (h2 : Fr B0 S κ H1 H2) : Fr B0 S κ H0 H2 :=
  ⟨Nat.le_trans h1.1 h2.1, fun q hq hc => (h2.2 q (Nat.lt_of_lt_of_le hq h1.1) hc).trans (h1.2 q hq hc)⟩
theorem Fr.mono {B0 : Nat} {S S' : List Nat} {κ : KM} {H0 H1 : Heap} (h1 : Fr B0 S κ H0 H1) (hs : ∀ x ∈ S, x ∈ S') : Fr B0 S' κ H0 H1 :=
  ⟨h1.1, fun q hq hc => h1.2 q hq (hc.elim Or.inl fun h => Or.inr ⟨h.1, fun g => h.2 (hs _ g)⟩)⟩
/-- the cells ws opened at the heap Hb, those of ms written to -/
def Bx (B0 : Nat) (D : va_G) (Hb : Heap) (ws : va_W) (ms : List Nat) (H : Heap) (locs : List Loc) : Prop :=
  va_P D vwCl ws H ∧ va_D (fun q => B0 ≤ q) ws ∧ Hb.size ≤ H.size ∧ (∀ q, q < Hb.size → q ∉ ms → H[q]? = Hb[q]?) ∧ (∀ q ∈ ms, B0 ≤ q) ∧ OkL B0 locs
theorem Bx.set {B0 : Nat} {D : va_G} {Hb : Heap} {ws : va_W} {ms ms' : List Nat} {H H1 : Heap} {locs : List Loc} (h : Bx B0 D Hb ws ms H locs) {q0 a k : Nat} {e0 e : va_E} (he : ws[q0]? = some (a, e0)) (hz : H1.size = H.size) (oq : ∀ q, q ≠ a → H1[q]? = H[q]?) (hat : va_at D vwCl (a, e) H1) (hm : ms' = a :: ms ∨ (ms' = ms ∧ a ∈ ms)) : Bx B0 D Hb (ws.set q0 (a, e)) ms' H1 (locs ++ [⟨a, k⟩]) := by
  have ha : B0 ≤ a := h.2.1.2 q0 _ he
  refine ⟨h.1.set h.2.1 he hat oq, h.2.1.set he, by rw [hz]; exact h.2.2.1, fun q hq hn => ?_, fun q hq => ?_, h.2.2.2.2.2.app (fun q hq => by rw [List.mem_singleton.mp hq]; exact ha)⟩
  · have hne : q ≠ a := by
      rintro rfl
      rcases hm with rfl | ⟨rfl, h1⟩
      · exact hn List.mem_cons_self
      · exact hn h1
    rw [oq q hne]
    refine h.2.2.2.1 q hq (fun h1 => hn ?_)
    rcases hm with rfl | ⟨rfl, -⟩
    · exact List.mem_cons_of_mem _ h1
    · exact h1
  · rcases hm with rfl | ⟨rfl, -⟩
    · rcases List.mem_cons.mp hq with rfl | h1
      · exact ha
      · exact h.2.2.2.2.1 q h1
    · exact h.2.2.2.2.1 q hq
/-- of each address written to: its cell now -/
def okM (cs : Nat → ClassId) (T : Nat) (κ : KM) (ws : va_W) : List Nat → Prop
  | [] => True
  | a :: t => (∃ (k : Nat) (e : va_E), ws[k]? = some (a, e) ∧ okE cs T κ (κ a) e) ∧ okM cs T κ ws t
theorem okM.at {cs : Nat → ClassId} {T : Nat} {κ : KM} {ws : va_W} {ms : List Nat} (h : okM cs T κ ws ms) : ∀ a ∈ ms, ∃ (k : Nat) (e : va_E), ws[k]? = some (a, e) ∧ okE cs T κ (κ a) e := by
  induction ms with
  | nil => intro a ha; cases ha
  | cons b t ih =>
    intro a ha
    rcases List.mem_cons.mp ha with rfl | h1
    · exact h.1
    · exact ih h.2 a h1
theorem WT.close {B0 : Nat} {D : va_G} {cs : Nat → ClassId} {T : Nat} {κ : KM} {Hb H : Heap} {ws : va_W} {ms : List Nat} {locs : List Loc} (hT : WT B0 D cs T κ Hb) (h : Bx B0 D Hb ws ms H locs) (hok : okM cs T κ ws ms) : WT B0 D cs T κ H := by
  intro a ha
  obtain ⟨h0, e, hat, hoe⟩ := hT a ha
  refine ⟨h0, ?_⟩
  by_cases hm : a ∈ ms
  · obtain ⟨k, e', hk, ho⟩ := hok.at a hm
    exact ⟨e', h.1 k _ hk, ho⟩
  · exact ⟨e, hat.kept (h.2.2.2.1 a hat.lt hm), hoe⟩
theorem Fr.close {B0 : Nat} {D : va_G} {S : List Nat} {κ : KM} {H0 Hb H : Heap} {ws : va_W} {ms : List Nat} {locs : List Loc} (hF : Fr B0 S κ H0 Hb) (h : Bx B0 D Hb ws ms H locs) (hs : ∀ a ∈ ms, (κ a).2.1 ∈ S) : Fr B0 S κ H0 H := by
  refine ⟨Nat.le_trans hF.1 h.2.2.1, fun q hq hc => ?_⟩
  refine (h.2.2.2.1 q (Nat.lt_of_lt_of_le hq hF.1) (fun hm => ?_)).trans (hF.2 q hq hc)
  rcases hc with h1 | h1
  · exact absurd (h.2.2.2.2.1 q hm) (by omega)
  · exact h1.2 (hs q hm)
/-- opening: cells of codes that differ -/
theorem Bx.of {B0 : Nat} {D : va_G} {H : Heap} {ws : va_W} {locs : List Loc} (g : Nat → Nat) (hL : OkL B0 locs) (hP : va_P D vwCl ws H) (hB : ∀ q ∈ ws, B0 ≤ q.1) (hn : (ws.map (fun q => g q.1)).Nodup) : Bx B0 D H ws [] H locs := by
  refine ⟨hP, ⟨fun i j p q hi hj hpq => ?_, fun k q hk => hB q (List.mem_of_getElem? hk)⟩, Nat.le_refl _, fun _ _ _ => rfl, (fun q hq => by cases hq), hL⟩
  have h1 : (ws.map (fun q => g q.1))[i]? = some (g p.1) := by rw [List.getElem?_map, hi]; rfl
  have h2 : (ws.map (fun q => g q.1))[j]? = some (g q.1) := by rw [List.getElem?_map, hj]; rfl
  obtain ⟨l1, g1⟩ := List.getElem?_eq_some_iff.mp h1
  obtain ⟨l2, g2⟩ := List.getElem?_eq_some_iff.mp h2
  have hp := List.pairwise_iff_getElem.mp hn
  rcases Nat.lt_trichotomy i j with h | h | h
  · exact absurd (by rw [g1, g2, hpq]) (hp i j l1 l2 h)
  · exact h
  · exact absurd (by rw [g1, g2, hpq]) (hp j i l2 l1 h)
theorem va_P.nil {D : va_G} {cl : List vw_C} {H : Heap} : va_P D cl [] H := fun k q h => by simp at h
theorem va_P.cons {D : va_G} {cl : List vw_C} {H : Heap} {q : Nat × va_E} {ws : va_W} (h : va_at D cl q H) (hP : va_P D cl ws H) : va_P D cl (q :: ws) H := fun k x hk => by
  cases k with
  | zero => exact (Option.some.inj hk) ▸ h
  | succ k => exact hP k x hk
theorem fa_n {α : Type} {p : α → Prop} : ∀ q ∈ ([] : List α), p q := fun _ h => by cases h
theorem fa_c {α : Type} {p : α → Prop} {a : α} {l : List α} (h : p a) (t : ∀ q ∈ l, p q) : ∀ q ∈ a :: l, p q := fun q hq => (List.mem_cons.mp hq).elim (fun e => e ▸ h) (t q)
theorem nb {x : Int32} (h : x = 0 ∨ x = 1) : narrow .boolean (.int x) = .int x := by rcases h with rfl | rfl <;> rfl
theorem rcv1 {B0 : Nat} {D : va_G} {cs : Nat → ClassId} {T : Nat} {κ : KM} {H : Heap} {s : State} {b : Nat} (hN : NK D cs s) (hT : WT B0 D cs T κ H) (h : (κ b).1 = 1) : ∃ cellB : Cell, H[b]? = some cellB ∧ cellB.vm.isStatics = false ∧ s.vm.findClass RX0 = some cellB.cls := by
  obtain ⟨-, e, hat, h9⟩ := hT.o1 h
  obtain ⟨_, _, rfl, -⟩ := h9
  exact va_recv (q0 := 0) hN.1 (va_P.cons hat va_P.nil) (ci := 0) rfl rfl
theorem rcv2 {B0 : Nat} {D : va_G} {cs : Nat → ClassId} {T : Nat} {κ : KM} {H : Heap} {s : State} {b : Nat} (hN : NK D cs s) (hT : WT B0 D cs T κ H) (h : (κ b).1 = 2) : ∃ cellB : Cell, H[b]? = some cellB ∧ cellB.vm.isStatics = false ∧ s.vm.findClass RX1 = some cellB.cls := by
  obtain ⟨-, e, hat, h9⟩ := hT.o2 h
  obtain ⟨_, _, _, _, _, _, _, rfl⟩ := h9
  exact va_recv (q0 := 0) hN.1 (va_P.cons hat va_P.nil) (ci := 1) rfl rfl
theorem rcv3 {B0 : Nat} {D : va_G} {cs : Nat → ClassId} {T : Nat} {κ : KM} {H : Heap} {s : State} {b : Nat} (hN : NK D cs s) (hT : WT B0 D cs T κ H) (h : (κ b).1 = 3) : ∃ cellB : Cell, H[b]? = some cellB ∧ cellB.vm.isStatics = false ∧ s.vm.findClass RX2 = some cellB.cls := by
  obtain ⟨-, e, hat, h9⟩ := hT.o3 h
  obtain ⟨_, _, _, rfl, -⟩ := h9
  exact va_recv (q0 := 0) hN.1 (va_P.cons hat va_P.nil) (ci := 2) rfl rfl
theorem rcv4 {B0 : Nat} {D : va_G} {cs : Nat → ClassId} {T : Nat} {κ : KM} {H : Heap} {s : State} {b : Nat} (hN : NK D cs s) (hT : WT B0 D cs T κ H) (h : (κ b).1 = 4) : ∃ cellB : Cell, H[b]? = some cellB ∧ cellB.vm.isStatics = false ∧ s.vm.findClass RX3 = some cellB.cls := by
  obtain ⟨-, e, hat, h9⟩ := hT.o4 h
  obtain ⟨_, _, _, _, _, _, _, _, _, _, rfl, -⟩ := h9
  exact va_recv (q0 := 0) hN.1 (va_P.cons hat va_P.nil) (ci := 3) rfl rfl
theorem rcv5 {B0 : Nat} {D : va_G} {cs : Nat → ClassId} {T : Nat} {κ : KM} {H : Heap} {s : State} {b : Nat} (hN : NK D cs s) (hT : WT B0 D cs T κ H) (h : (κ b).1 = 5) : ∃ cellB : Cell, H[b]? = some cellB ∧ cellB.vm.isStatics = false ∧ s.vm.findClass RX4 = some cellB.cls := by
  obtain ⟨-, e, hat, h9⟩ := hT.o5 h
  obtain ⟨_, _, _, _, _, _, _, _, rfl, -⟩ := h9
  exact va_recv (q0 := 0) hN.1 (va_P.cons hat va_P.nil) (ci := 4) rfl rfl
theorem rcv6 {B0 : Nat} {D : va_G} {cs : Nat → ClassId} {T : Nat} {κ : KM} {H : Heap} {s : State} {b : Nat} (hN : NK D cs s) (hT : WT B0 D cs T κ H) (h : (κ b).1 = 6) : ∃ cellB : Cell, H[b]? = some cellB ∧ cellB.vm.isStatics = false ∧ s.vm.findClass RX5 = some cellB.cls := by
  obtain ⟨-, e, hat, h9⟩ := hT.o6 h
  obtain ⟨_, _, _, _, _, _, _, _, _, _, _, _, _, rfl, -⟩ := h9
  exact va_recv (q0 := 0) hN.1 (va_P.cons hat va_P.nil) (ci := 5) rfl rfl
theorem rcv7 {B0 : Nat} {D : va_G} {cs : Nat → ClassId} {T : Nat} {κ : KM} {H : Heap} {s : State} {b : Nat} (hN : NK D cs s) (hT : WT B0 D cs T κ H) (h : (κ b).1 = 7) : ∃ cellB : Cell, H[b]? = some cellB ∧ cellB.vm.isStatics = false ∧ s.vm.findClass RX6 = some cellB.cls := by
  obtain ⟨-, e, hat, h9⟩ := hT.o7 h
  obtain ⟨_, _, _, _, _, _, _, _, rfl, -⟩ := h9
  exact va_recv (q0 := 0) hN.1 (va_P.cons hat va_P.nil) (ci := 6) rfl rfl
theorem rcv8 {B0 : Nat} {D : va_G} {cs : Nat → ClassId} {T : Nat} {κ : KM} {H : Heap} {s : State} {b : Nat} (hN : NK D cs s) (hT : WT B0 D cs T κ H) (h : (κ b).1 = 8) : ∃ cellB : Cell, H[b]? = some cellB ∧ cellB.vm.isStatics = false ∧ s.vm.findClass RX7 = some cellB.cls := by
  obtain ⟨-, e, hat, h9⟩ := hT.o8 h
  obtain ⟨_, _, _, _, _, _, _, _, _, _, _, _, _, _, _, _, rfl, -⟩ := h9
  exact va_recv (q0 := 0) hN.1 (va_P.cons hat va_P.nil) (ci := 7) rfl rfl
theorem rcv9 {B0 : Nat} {D : va_G} {cs : Nat → ClassId} {T : Nat} {κ : KM} {H : Heap} {s : State} {b : Nat} (hN : NK D cs s) (hT : WT B0 D cs T κ H) (h : (κ b).1 = 9) : ∃ cellB : Cell, H[b]? = some cellB ∧ cellB.vm.isStatics = false ∧ s.vm.findClass RX8 = some cellB.cls := by
  obtain ⟨-, e, hat, h9⟩ := hT.o9 h
  obtain ⟨_, _, _, _, _, _, _, rfl, -⟩ := h9
  exact va_recv (q0 := 0) hN.1 (va_P.cons hat va_P.nil) (ci := 8) rfl rfl
theorem rcv10 {B0 : Nat} {D : va_G} {cs : Nat → ClassId} {T : Nat} {κ : KM} {H : Heap} {s : State} {b : Nat} (hN : NK D cs s) (hT : WT B0 D cs T κ H) (h : (κ b).1 = 10) : ∃ cellB : Cell, H[b]? = some cellB ∧ cellB.vm.isStatics = false ∧ s.vm.findClass RX9 = some cellB.cls := by
  obtain ⟨-, e, hat, h9⟩ := hT.o10 h
  obtain ⟨_, _, _, _, _, _, _, _, _, _, _, _, _, _, _, _, rfl, -⟩ := h9
  exact va_recv (q0 := 0) hN.1 (va_P.cons hat va_P.nil) (ci := 9) rfl rfl
theorem fb {x : Int32} (h : x = 0 ∨ x = 1) : fits .boolean (.int x) = true := by rcases h with rfl | rfl <;> rfl
/-- the setup at su has the row f of delays -/
def Dly (D : va_G) (cs : Nat → ClassId) (H : Heap) (su : Nat) (f : Nat → Int32) : Prop := ∃ (a b c d x y z : Value) (dl : Nat), va_at D vwCl (su, .inr (6, [a, b, c, d, x, y, z, .ref dl])) H ∧ va_at D vwCl (dl, .inl (cs 0, 64, .inl f)) H
theorem ne_p {κ : KM} {a b i j : Nat} (h1 : (κ a).2.2.1 = i) (h2 : (κ b).2.2.1 = j) (h : i ≠ j) : a ≠ b := fun e => h (by rw [← h1, ← h2, e])
/-- cells that a callee may not touch stay -/
theorem Fr.hP {B0 : Nat} {S : List Nat} {κ : KM} {D : va_G} {cl : List vw_C} {H H1 : Heap} {ws : va_W} (h : Fr B0 S κ H H1) (hP : va_P D cl ws H) (hw : ∀ q ∈ ws, (κ q.1).1 ≠ 0 ∧ (κ q.1).2.1 ∉ S) : va_P D cl ws H1 := fun k q hk =>
  (hP k q hk).kept (h.2 q.1 (hP k q hk).lt (Or.inr (hw q (List.mem_of_getElem? hk))))
