/-! ===== what a text says: its bytes (behind the end -1), its tokens ===== -/
def BY (B : Nat → Int32) (n : Nat) : Prop := n ≤ 600 ∧ (∀ k, k < n → ∃ m, m ≤ 255 ∧ B k = nI m) ∧ ∀ k, n ≤ k → B k = -1
def sb (x : Int32) : Int32 := vp_nar .byte x
/-- the class's row f of bytes (with a sign) is B's -/
def TXB (f B : Nat → Int32) (n : Nat) : Prop := ∀ k, k < n → f k = sb (B k)
abbrev isd (x : Int32) : Prop := ¬ x < 48 ∧ ¬ 57 < x
abbrev isl (x : Int32) : Prop := ¬ x < 97 ∧ ¬ 122 < x
theorem sb_all : ∀ m, m ≤ 255 → ((sb (nI m) = nI m ∧ m < 128) ∨ (sb (nI m) < 0 ∧ 128 ≤ m)) := by decide +kernel
theorem bd_all : ∀ m, m ≤ 255 → (isd (nI m) ↔ 48 ≤ m ∧ m ≤ 57) ∧ (isl (nI m) ↔ 97 ≤ m ∧ m ≤ 122) := by decide +kernel
section TK
variable {B f : Nat → Int32} {n : Nat}
/-- a byte of the class and of the text against a small constant -/
theorem TXB.eq (hB : BY B n) (hf : TXB f B n) {k c : Nat} (hk : k < n) (hc : c < 128) : f k = nI c ↔ B k = nI c := by
  obtain ⟨m, hm, em⟩ := hB.2.1 k hk
  rw [hf k hk, em]
  rcases sb_all m hm with ⟨e, h⟩ | ⟨h1, h2⟩
  · rw [e]
  · constructor
    · intro e
      rw [e] at h1
      exact absurd h1 (by rw [Int32.lt_iff_toInt_lt, nI_toInt (by omega)]; simp)
    · intro e
      have := (nI_eq (by omega) (by omega)).mp e
      omega
theorem TXB.d (hB : BY B n) (hf : TXB f B n) {k : Nat} (hk : k < n) : isd (f k) ↔ isd (B k) := by
  obtain ⟨m, hm, em⟩ := hB.2.1 k hk
  rw [hf k hk, em]
  rcases sb_all m hm with ⟨e, h⟩ | ⟨h1, h2⟩
  · rw [e]
  · constructor
    · intro h; exact absurd (Int32.lt_trans h1 (by decide)) h.1
    · intro h; have := (bd_all m hm).1.mp h; omega
theorem TXB.l (hB : BY B n) (hf : TXB f B n) {k : Nat} (hk : k < n) : isl (f k) ↔ isl (B k) := by
  obtain ⟨m, hm, em⟩ := hB.2.1 k hk
  rw [hf k hk, em]
  rcases sb_all m hm with ⟨e, h⟩ | ⟨h1, h2⟩
  · rw [e]
  · constructor
    · intro h; exact absurd (Int32.lt_trans h1 (by decide)) h.1
    · intro h; have := (bd_all m hm).2.mp h; omega
theorem BY.end_ (hB : BY B n) {k : Nat} (hk : n ≤ k) : B k = -1 := hB.2.2 k hk
theorem BY.lt (hB : BY B n) {k : Nat} (h : B k ≠ -1) : k < n := Nat.not_le.mp fun h9 => h (hB.2.2 k h9)
theorem BY.ne (hB : BY B n) {k : Nat} (h : k < n) : B k ≠ -1 := by
  obtain ⟨m, hm, em⟩ := hB.2.1 k h
  rw [em]
  exact nI_nm1 (by omega)
theorem BY.d (hB : BY B n) {k : Nat} (h : isd (B k)) : k < n := hB.lt (fun e => by rw [e] at h; exact absurd h (by decide))
theorem BY.l (hB : BY B n) {k : Nat} (h : isl (B k)) : k < n := hB.lt (fun e => by rw [e] at h; exact absurd h (by decide))
/-- the end of a run of bytes -/
def runF (P : Int32 → Prop) [DecidablePred P] (B : Nat → Int32) : Nat → Nat → Nat
  | 0, q => q
  | k + 1, q => if P (B q) then runF P B k (q + 1) else q
def run (P : Int32 → Prop) [DecidablePred P] (B : Nat → Int32) (q : Nat) : Nat := runF P B (601 - q) q
theorem run_y {P : Int32 → Prop} [DecidablePred P] {q : Nat} (h : P (B q)) (hq : q ≤ 600) : run P B q = run P B (q + 1) := by
  unfold run
  rw [show 601 - q = (601 - (q + 1)) + 1 by omega]
  show (if P (B q) then _ else _) = _
  rw [if_pos h]
theorem run_n {P : Int32 → Prop} [DecidablePred P] {q : Nat} (h : ¬ P (B q)) : run P B q = q := by
  unfold run
  cases 601 - q with
  | zero => rfl
  | succ k => exact if_neg h
theorem runF_le {P : Int32 → Prop} [DecidablePred P] : ∀ (k q : Nat), q ≤ runF P B k q
  | 0, _ => Nat.le_refl _
  | k + 1, q => by
    show q ≤ if P (B q) then runF P B k (q + 1) else q
    split
    · exact Nat.le_trans (Nat.le_succ q) (runF_le k (q + 1))
    · exact Nat.le_refl _
theorem run_le {P : Int32 → Prop} [DecidablePred P] {q : Nat} : q ≤ run P B q := runF_le _ _
theorem runF_n {P : Int32 → Prop} [DecidablePred P] (hB : BY B n) (hP : ¬ P (-1)) : ∀ (k q : Nat), q ≤ n → runF P B k q ≤ n
  | 0, _, h => h
  | k + 1, q, h => by
    show (if P (B q) then runF P B k (q + 1) else q) ≤ n
    split
    · rename_i h9
      exact runF_n hB hP k (q + 1) (hB.lt (fun e => hP (e ▸ h9)))
    · exact h
theorem run_ub {P : Int32 → Prop} [DecidablePred P] (hB : BY B n) (hP : ¬ P (-1)) {q : Nat} (h : q ≤ n) : run P B q ≤ n := runF_n hB hP _ _ h
theorem runF_end {P : Int32 → Prop} [DecidablePred P] (hB : BY B n) (hP : ¬ P (-1)) : ∀ (k q : Nat), n ≤ q + k → ¬ P (B (runF P B k q))
  | 0, q, h => by
    show ¬ P (B q)
    rw [hB.2.2 q (by omega)]; exact hP
  | k + 1, q, h => by
    show ¬ P (B (if P (B q) then runF P B k (q + 1) else q))
    split
    · exact runF_end hB hP k (q + 1) (by omega)
    · assumption
theorem run_end {P : Int32 → Prop} [DecidablePred P] (hB : BY B n) (hP : ¬ P (-1)) {q : Nat} : ¬ P (B (run P B q)) := runF_end hB hP _ _ (by have := hB.1; omega)
abbrev skp (B : Nat → Int32) (q : Nat) : Nat := run (fun x => x = 32) B q
abbrev dgE (B : Nat → Int32) (q : Nat) : Nat := run isd B q
abbrev ltE (B : Nat → Int32) (q : Nat) : Nat := run isl B q
/-- the number that the digits from q on add to v -/
def dg (x : Int32) : Nat := x.toNatClampNeg - 48
def nvF (B : Nat → Int32) : Nat → Nat → Nat → Nat
  | 0, _, v => v
  | k + 1, q, v => if isd (B q) then nvF B k (q + 1) (10 * v + dg (B q)) else v
def nvl (B : Nat → Int32) (q v : Nat) : Nat := nvF B (601 - q) q v
theorem nvl_y {q v : Nat} (h : isd (B q)) (hq : q ≤ 600) : nvl B q v = nvl B (q + 1) (10 * v + dg (B q)) := by
  unfold nvl
  rw [show 601 - q = (601 - (q + 1)) + 1 by omega]
  show (if isd (B q) then _ else _) = _
  rw [if_pos h]
theorem nvl_n {q v : Nat} (h : ¬ isd (B q)) : nvl B q v = v := by
  unfold nvl
  cases 601 - q with
  | zero => rfl
  | succ k => exact if_neg h
/-- the token that begins at s: its kind, its number, its end -/
def tkK (B : Nat → Int32) (s : Nat) : Int32 := if B s = -1 then 0 else if isd (B s) then 1 else if isl (B s) then 2 else 3
def tkV (B : Nat → Int32) (s : Nat) : Int32 := if isd (B s) then nI (min (nvl B s 0) 1000000) else if B s = -1 ∨ isl (B s) then 0 else sb (B s)
def tkE (B : Nat → Int32) (s : Nat) : Nat := if B s = -1 then s else if isd (B s) then dgE B s else if isl (B s) then ltE B s else s + 1
theorem tk_e {s : Nat} (h : B s = -1) : tkK B s = 0 ∧ tkV B s = 0 ∧ tkE B s = s := by
  unfold tkK tkV tkE
  rw [if_pos h, if_pos h, if_neg (by rw [h]; decide), if_pos (Or.inl h)]
  exact ⟨rfl, rfl, rfl⟩
theorem tk_d {s : Nat} (h : isd (B s)) : tkK B s = 1 ∧ tkV B s = nI (min (nvl B s 0) 1000000) ∧ tkE B s = dgE B s := by
  have h0 : ¬ B s = -1 := fun e => by rw [e] at h; exact absurd h (by decide)
  unfold tkK tkV tkE
  rw [if_neg h0, if_neg h0, if_pos h, if_pos h, if_pos h]
  exact ⟨rfl, rfl, rfl⟩
theorem tk_l {s : Nat} (h : isl (B s)) : tkK B s = 2 ∧ tkV B s = 0 ∧ tkE B s = ltE B s := by
  have h0 : ¬ B s = -1 := fun e => by rw [e] at h; exact absurd h (by decide)
  have h1 : ¬ isd (B s) := fun g => absurd (Int32.lt_of_lt_of_le (show (57 : Int32) < 97 by decide) (Int32.not_lt.mp h.1)) g.2
  unfold tkK tkV tkE
  rw [if_neg h0, if_neg h0, if_neg h1, if_neg h1, if_neg h1, if_pos h, if_pos h, if_pos (Or.inr h)]
  exact ⟨rfl, rfl, rfl⟩
theorem tk_m {s : Nat} (h0 : B s ≠ -1) (h1 : ¬ isd (B s)) (h2 : ¬ isl (B s)) : tkK B s = 3 ∧ tkV B s = sb (B s) ∧ tkE B s = s + 1 := by
  unfold tkK tkV tkE
  rw [if_neg h0, if_neg h0, if_neg h1, if_neg h1, if_neg h1, if_neg h2, if_neg h2, if_neg (by rintro (h | h); exact h0 h; exact h2 h)]
  exact ⟨rfl, rfl, rfl⟩
theorem tk_all (s : Nat) : B s = -1 ∨ isd (B s) ∨ isl (B s) ∨ (B s ≠ -1 ∧ ¬ isd (B s) ∧ ¬ isl (B s)) := by
  by_cases h0 : B s = -1
  · exact Or.inl h0
  · by_cases h1 : isd (B s)
    · exact Or.inr (Or.inl h1)
    · by_cases h2 : isl (B s)
      · exact Or.inr (Or.inr (Or.inl h2))
      · exact Or.inr (Or.inr (Or.inr ⟨h0, h1, h2⟩))
theorem tkK_1 {s : Nat} : tkK B s = 1 ↔ isd (B s) := by
  rcases tk_all (B := B) s with h | h | h | ⟨h0, h1, h2⟩
  · rw [(tk_e h).1]; exact ⟨fun e => absurd e (by decide), fun g => by rw [h] at g; exact absurd g (by decide)⟩
  · rw [(tk_d h).1]; exact ⟨fun _ => h, fun _ => rfl⟩
  · rw [(tk_l h).1]; exact ⟨fun e => absurd e (by decide), fun g => absurd (Int32.lt_of_lt_of_le (show (57 : Int32) < 97 by decide) (Int32.not_lt.mp h.1)) g.2⟩
  · rw [(tk_m h0 h1 h2).1]; exact ⟨fun e => absurd e (by decide), fun g => absurd g h1⟩
theorem tkK_2 {s : Nat} : tkK B s = 2 ↔ isl (B s) := by
  rcases tk_all (B := B) s with h | h | h | ⟨h0, h1, h2⟩
  · rw [(tk_e h).1]; exact ⟨fun e => absurd e (by decide), fun g => by rw [h] at g; exact absurd g (by decide)⟩
  · rw [(tk_d h).1]; exact ⟨fun e => absurd e (by decide), fun g => absurd (Int32.lt_of_lt_of_le (show (57 : Int32) < 97 by decide) (Int32.not_lt.mp g.1)) h.2⟩
  · rw [(tk_l h).1]; exact ⟨fun _ => h, fun _ => rfl⟩
  · rw [(tk_m h0 h1 h2).1]; exact ⟨fun e => absurd e (by decide), fun g => absurd g h2⟩
theorem tkK_0 {s : Nat} : tkK B s = 0 ↔ B s = -1 := by
  rcases tk_all (B := B) s with h | h | h | ⟨h0, h1, h2⟩
  · rw [(tk_e h).1]; exact ⟨fun _ => h, fun _ => rfl⟩
  · rw [(tk_d h).1]; exact ⟨fun e => absurd e (by decide), fun g => by rw [g] at h; exact absurd h (by decide)⟩
  · rw [(tk_l h).1]; exact ⟨fun e => absurd e (by decide), fun g => by rw [g] at h; exact absurd h (by decide)⟩
  · rw [(tk_m h0 h1 h2).1]; exact ⟨fun e => absurd e (by decide), fun g => absurd g h0⟩
/-- a mark is one: no digit, no letter, below 128 -/
abbrev MK (c : Nat) : Prop := c < 128 ∧ c ≠ 32 ∧ ¬ (48 ≤ c ∧ c ≤ 57) ∧ ¬ (97 ≤ c ∧ c ≤ 122)
theorem tk_mark (hB : BY B n) {s c : Nat} (hc : MK c) : (tkK B s = 3 ∧ tkV B s = nI c) ↔ B s = nI c := by
  have hcd : ¬ isd (nI c) := fun g => hc.2.2.1 ((bd_all c (by have := hc.1; omega)).1.mp g)
  have hcl : ¬ isl (nI c) := fun g => hc.2.2.2 ((bd_all c (by have := hc.1; omega)).2.mp g)
  constructor
  · rintro ⟨h1, h2⟩
    rcases tk_all (B := B) s with h | h | h | ⟨h0, h3, h4⟩
    · rw [(tk_e h).1] at h1; exact absurd h1 (by decide)
    · rw [(tk_d h).1] at h1; exact absurd h1 (by decide)
    · rw [(tk_l h).1] at h1; exact absurd h1 (by decide)
    · rw [(tk_m h0 h3 h4).2.1] at h2
      obtain ⟨m, hm, em⟩ := hB.2.1 s (hB.lt h0)
      rw [em] at h2 ⊢
      rcases sb_all m hm with ⟨e, h⟩ | ⟨g1, g2⟩
      · rw [e] at h2; exact h2
      · rw [h2] at g1
        exact absurd g1 (by rw [Int32.lt_iff_toInt_lt, nI_toInt (by have := hc.1; omega)]; simp)
  · intro h
    have h0 : B s ≠ -1 := by rw [h]; exact nI_nm1 (by have := hc.1; omega)
    obtain ⟨g1, g2, -⟩ := tk_m h0 (by rw [h]; exact hcd) (by rw [h]; exact hcl)
    refine ⟨g1, ?_⟩
    rw [g2, h]
    rcases sb_all c (by have := hc.1; omega) with ⟨e, -⟩ | ⟨-, g⟩
    · exact e
    · have := hc.1; omega
theorem tkE_le (hB : BY B n) {s : Nat} (hs : s ≤ n) : s ≤ tkE B s ∧ tkE B s ≤ n := by
  rcases tk_all (B := B) s with h | h | h | ⟨h0, h1, h2⟩
  · rw [(tk_e h).2.2]; exact ⟨Nat.le_refl _, hs⟩
  · rw [(tk_d h).2.2]; exact ⟨run_le, run_ub hB (by decide) hs⟩
  · rw [(tk_l h).2.2]; exact ⟨run_le, run_ub hB (by decide) hs⟩
  · rw [(tk_m h0 h1 h2).2.2]; exact ⟨Nat.le_succ _, hB.lt h0⟩
theorem tkE_lt (hB : BY B n) {s : Nat} (h0 : B s ≠ -1) : s < tkE B s := by
  have hs := hB.lt h0
  have h6 := hB.1
  rcases tk_all (B := B) s with h | h | h | ⟨h0, h1, h2⟩
  · exact absurd h h0
  · rw [(tk_d h).2.2]; unfold dgE; rw [run_y h (by omega)]; exact run_le
  · rw [(tk_l h).2.2]; unfold ltE; rw [run_y h (by omega)]; exact run_le
  · rw [(tk_m h0 h1 h2).2.2]; exact Nat.lt_succ_self _
end TK
