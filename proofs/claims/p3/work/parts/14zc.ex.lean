/-! ===== an expression, as it is read ===== -/
abbrev PX : Type := (Int32 × Nat) ⊕ (List Int32 × Nat)
def isWb (B : Nat → Int32) (i s : Nat) : Bool := decide (∀ k, k < nT i → B (s + k) = nB i k) && decide (¬ isl (B (s + nT i)))
theorem isWb_iff {B : Nat → Int32} {i s : Nat} : isWb B i s = true ↔ isW B i s := by
  unfold isWb isW
  rw [Bool.and_eq_true, decide_eq_true_iff, decide_eq_true_iff]
def facB (B : Nat → Int32) (g : Nat → PX) (dp : Bool) (z : Nat) : PX :=
  if isd (B z) then (if nvl B z 0 ≤ 9999 then .inr ([nI (nvl B z 0)], skp B (dgE B z)) else .inl (-3, z))
  else if B z = nI 40 then (if dp = true then .inl (-5, z) else match g (skp B (z + 1)) with
    | .inl e => .inl e
    | .inr (l, q) => if B q = nI 41 then .inr (l, skp B (q + 1)) else .inl (-2, q))
  else if isWb B 1 z = true then .inr ([-1], skp B (z + nT 1))
  else if isWb B 7 z = true then .inr ([-2], skp B (z + nT 7))
  else if isWb B 8 z = true then .inr ([-3], skp B (z + nT 8))
  else if isWb B 9 z = true then .inr ([-4], skp B (z + nT 9))
  else .inl (-2, z)
def lopB (B : Nat → Int32) (one : Nat → PX) (c1 c2 : Nat) (o1 o2 : Int32) : Nat → List Int32 → Nat → PX
  | 0, l, z => .inr (l, z)
  | k + 1, l, z => if B z = nI c1 then (match one (skp B (z + 1)) with
      | .inl e => .inl e
      | .inr (m, q) => lopB B one c1 c2 o1 o2 k (l ++ m ++ [o1]) q)
    else if B z = nI c2 then (match one (skp B (z + 1)) with
      | .inl e => .inl e
      | .inr (m, q) => lopB B one c1 c2 o1 o2 k (l ++ m ++ [o2]) q)
    else .inr (l, z)
def LPB (B : Nat → Int32) (one : Nat → PX) (c1 c2 : Nat) (o1 o2 : Int32) (l : List Int32) (z : Nat) : PX := lopB B one c1 c2 o1 o2 (601 - z) l z
def manyB (B : Nat → Int32) (one : Nat → PX) (c1 c2 : Nat) (o1 o2 : Int32) (z : Nat) : PX := match one z with
  | .inl e => .inl e
  | .inr (l, q) => LPB B one c1 c2 o1 o2 l q
def facD (B : Nat → Int32) : Nat → Nat → PX
  | 0 => facB B (fun _ => .inl (0, 0)) true
  | r + 1 => facB B (manyB B (manyB B (facD B r) 42 47 (-7) (-8)) 43 45 (-5) (-6)) false
def trmD (B : Nat → Int32) (r : Nat) : Nat → PX := manyB B (facD B r) 42 47 (-7) (-8)
def sumD (B : Nat → Int32) (r : Nat) : Nat → PX := manyB B (trmD B r) 43 45 (-5) (-6)
section EX
variable {B : Nat → Int32} {n z q : Nat} {g one : Nat → PX} {dp : Bool} {c1 c2 : Nat} {o1 o2 : Int32}
theorem fac_num (hd : isd (B z)) (h : nvl B z 0 ≤ 9999) : facB B g dp z = .inr ([nI (nvl B z 0)], skp B (dgE B z)) := by
  unfold facB; rw [if_pos hd, if_pos h]
theorem fac_big (hd : isd (B z)) (h : ¬ nvl B z 0 ≤ 9999) : facB B g dp z = .inl (-3, z) := by
  unfold facB; rw [if_pos hd, if_neg h]
theorem fac_deep (hd : ¬ isd (B z)) (h : B z = nI 40) : facB B g true z = .inl (-5, z) := by
  unfold facB; rw [if_neg hd, if_pos h, if_pos rfl]
theorem fac_er {e : Int32 × Nat} (hd : ¬ isd (B z)) (h : B z = nI 40) (hg : g (skp B (z + 1)) = .inl e) : facB B g false z = .inl e := by
  unfold facB; rw [if_neg hd, if_pos h, if_neg (by decide), hg]
theorem fac_op {l : List Int32} (hd : ¬ isd (B z)) (h : B z = nI 40) (hg : g (skp B (z + 1)) = .inr (l, q)) (h9 : ¬ B q = nI 41) : facB B g false z = .inl (-2, q) := by
  unfold facB; rw [if_neg hd, if_pos h, if_neg (by decide), hg]; exact if_neg h9
theorem fac_cl {l : List Int32} (hd : ¬ isd (B z)) (h : B z = nI 40) (hg : g (skp B (z + 1)) = .inr (l, q)) (h9 : B q = nI 41) : facB B g false z = .inr (l, skp B (q + 1)) := by
  unfold facB; rw [if_neg hd, if_pos h, if_neg (by decide), hg]; exact if_pos h9
theorem fac_w1 (hd : ¬ isd (B z)) (h : ¬ B z = nI 40) (h1 : isW B 1 z) : facB B g dp z = .inr ([-1], skp B (z + nT 1)) := by
  unfold facB; rw [if_neg hd, if_neg h, if_pos (isWb_iff.mpr h1)]
theorem fac_w2 (hd : ¬ isd (B z)) (h : ¬ B z = nI 40) (h1 : ¬ isW B 1 z) (h2 : isW B 7 z) : facB B g dp z = .inr ([-2], skp B (z + nT 7)) := by
  unfold facB; rw [if_neg hd, if_neg h, if_neg (fun e => h1 (isWb_iff.mp e)), if_pos (isWb_iff.mpr h2)]
theorem fac_w3 (hd : ¬ isd (B z)) (h : ¬ B z = nI 40) (h1 : ¬ isW B 1 z) (h2 : ¬ isW B 7 z) (h3 : isW B 8 z) : facB B g dp z = .inr ([-3], skp B (z + nT 8)) := by
  unfold facB; rw [if_neg hd, if_neg h, if_neg (fun e => h1 (isWb_iff.mp e)), if_neg (fun e => h2 (isWb_iff.mp e)), if_pos (isWb_iff.mpr h3)]
theorem fac_w4 (hd : ¬ isd (B z)) (h : ¬ B z = nI 40) (h1 : ¬ isW B 1 z) (h2 : ¬ isW B 7 z) (h3 : ¬ isW B 8 z) (h4 : isW B 9 z) : facB B g dp z = .inr ([-4], skp B (z + nT 9)) := by
  unfold facB; rw [if_neg hd, if_neg h, if_neg (fun e => h1 (isWb_iff.mp e)), if_neg (fun e => h2 (isWb_iff.mp e)), if_neg (fun e => h3 (isWb_iff.mp e)), if_pos (isWb_iff.mpr h4)]
theorem fac_w0 (hd : ¬ isd (B z)) (h : ¬ B z = nI 40) (h1 : ¬ isW B 1 z) (h2 : ¬ isW B 7 z) (h3 : ¬ isW B 8 z) (h4 : ¬ isW B 9 z) : facB B g dp z = .inl (-2, z) := by
  unfold facB; rw [if_neg hd, if_neg h, if_neg (fun e => h1 (isWb_iff.mp e)), if_neg (fun e => h2 (isWb_iff.mp e)), if_neg (fun e => h3 (isWb_iff.mp e)), if_neg (fun e => h4 (isWb_iff.mp e))]
/-- what is read goes on in the text -/
def PG (n : Nat) (one : Nat → PX) : Prop := ∀ z l q, z ≤ n → one z = .inr (l, q) → z < q ∧ q ≤ n
theorem skp_b (hY : BY B n) {z : Nat} (h : z ≤ n) : z ≤ skp B z ∧ skp B z ≤ n := ⟨run_le, run_ub hY (by decide) h⟩
theorem mark_lt (hY : BY B n) {c : Nat} (hc : c < 128) (h : B z = nI c) : z < n := hY.lt (by rw [h]; exact nI_nm1 (by omega))
theorem isW_lt (hY : BY B n) {i : Nat} (hi : i ∈ nW) (h : isW B i z) : z < skp B (z + nT i) ∧ skp B (z + nT i) ≤ n := by
  have h1 := nT_pos1 i hi
  have h2 := isW_le hY hi h
  have h3 := run_ub (P := isl) hY (by decide) (Nat.le_of_lt (hY.l h2.1))
  have h4 := skp_b hY (z := z + nT i) (by rw [← h2.2]; exact h3)
  omega
theorem dgE_lt (hY : BY B n) (h : isd (B z)) : z < skp B (dgE B z) ∧ skp B (dgE B z) ≤ n := by
  have h1 := hY.d h
  have h6 := hY.1
  have h2 : dgE B z = dgE B (z + 1) := run_y h (by omega)
  have h3 : z + 1 ≤ dgE B (z + 1) := run_le
  have h4 := run_ub (P := isd) hY (by decide) (q := z) (by omega)
  have h5 := skp_b hY (z := dgE B z) h4
  omega
theorem facB_pg (hY : BY B n) (hg : PG n g) : PG n (facB B g dp) := by
  intro z l q hz h
  unfold facB at h
  split at h
  · rename_i hd
    split at h
    · cases h; exact dgE_lt hY hd
    · cases h
  · split at h
    · rename_i h40
      have hl := mark_lt hY (by decide) h40
      split at h
      · cases h
      · have h7 := skp_b hY (z := z + 1) (by omega)
        split at h
        · cases h
        · rename_i l9 q9 e9
          have h8 := hg _ _ _ h7.2 e9
          split at h
          · rename_i h41
            have h6 := mark_lt hY (by decide) h41
            have h5 := skp_b hY (z := q9 + 1) (by omega)
            cases h
            omega
          · cases h
    · split at h
      · rename_i hw; cases h; exact isW_lt hY (by decide) (isWb_iff.mp hw)
      · split at h
        · rename_i hw; cases h; exact isW_lt hY (by decide) (isWb_iff.mp hw)
        · split at h
          · rename_i hw; cases h; exact isW_lt hY (by decide) (isWb_iff.mp hw)
          · split at h
            · rename_i hw; cases h; exact isW_lt hY (by decide) (isWb_iff.mp hw)
            · cases h
theorem lopB_pg (hY : BY B n) (hc1 : c1 < 128) (hc2 : c2 < 128) (hg : PG n one) : ∀ (k : Nat) (l : List Int32) (z : Nat) (l1 : List Int32) (q : Nat), z ≤ n → lopB B one c1 c2 o1 o2 k l z = .inr (l1, q) → z ≤ q ∧ q ≤ n
  | 0, l, z, l1, q, hz, h => by cases h; exact ⟨Nat.le_refl _, hz⟩
  | k + 1, l, z, l1, q, hz, h => by
    unfold lopB at h
    split at h
    · rename_i h1
      have hl := mark_lt hY hc1 h1
      have h7 := skp_b hY (z := z + 1) (by omega)
      split at h
      · cases h
      · rename_i m q9 e9
        have h8 := hg _ _ _ h7.2 e9
        have h5 := lopB_pg hY hc1 hc2 hg k _ q9 l1 q h8.2 h
        omega
    · split at h
      · rename_i h1
        have hl := mark_lt hY hc2 h1
        have h7 := skp_b hY (z := z + 1) (by omega)
        split at h
        · cases h
        · rename_i m q9 e9
          have h8 := hg _ _ _ h7.2 e9
          have h5 := lopB_pg hY hc1 hc2 hg k _ q9 l1 q h8.2 h
          omega
      · cases h; exact ⟨Nat.le_refl _, hz⟩
theorem manyB_pg (hY : BY B n) (hc1 : c1 < 128) (hc2 : c2 < 128) (hg : PG n one) : PG n (manyB B one c1 c2 o1 o2) := by
  intro z l q hz h
  unfold manyB at h
  split at h
  · cases h
  · rename_i l9 q9 e9
    have h8 := hg _ _ _ hz e9
    have h5 := lopB_pg hY hc1 hc2 hg _ _ q9 l q h8.2 h
    omega
theorem facD_pg (hY : BY B n) : ∀ r, PG n (facD B r)
  | 0 => facB_pg hY (fun _ _ _ _ h => by cases h)
  | r + 1 => facB_pg hY (manyB_pg hY (by decide) (by decide) (manyB_pg hY (by decide) (by decide) (facD_pg hY r)))
theorem trmD_pg (hY : BY B n) (r : Nat) : PG n (trmD B r) := manyB_pg hY (by decide) (by decide) (facD_pg hY r)
theorem lopB_fu (hY : BY B n) (hc1 : c1 < 128) (hc2 : c2 < 128) (hg : PG n one) : ∀ (k k2 : Nat) (l : List Int32) (z : Nat), z ≤ n → n - z < k → n - z < k2 → lopB B one c1 c2 o1 o2 k l z = lopB B one c1 c2 o1 o2 k2 l z
  | 0, _, _, _, _, h, _ => by omega
  | _ + 1, 0, _, _, _, _, h => by omega
  | k + 1, k2 + 1, l, z, hz, h1, h2 => by
    unfold lopB
    split
    · rename_i h3
      have hl := mark_lt hY hc1 h3
      have h7 := skp_b hY (z := z + 1) (by omega)
      cases e : one (skp B (z + 1)) with
      | inl e1 => rfl
      | inr x =>
        obtain ⟨m, q⟩ := x
        have h8 := hg _ _ _ h7.2 e
        exact lopB_fu hY hc1 hc2 hg k k2 _ q h8.2 (by omega) (by omega)
    · split
      · rename_i h3
        have hl := mark_lt hY hc2 h3
        have h7 := skp_b hY (z := z + 1) (by omega)
        cases e : one (skp B (z + 1)) with
        | inl e1 => rfl
        | inr x =>
          obtain ⟨m, q⟩ := x
          have h8 := hg _ _ _ h7.2 e
          exact lopB_fu hY hc1 hc2 hg k k2 _ q h8.2 (by omega) (by omega)
      · rfl
theorem LP_er {l : List Int32} {e : Int32 × Nat} {o : Int32} (hY : BY B n) (hz : z ≤ n) (h : (B z = nI c1) ∨ (¬ B z = nI c1 ∧ B z = nI c2)) (he : one (skp B (z + 1)) = .inl e) : LPB B one c1 c2 o1 o2 l z = .inl e := by
  unfold LPB
  have h6 := hY.1
  rw [show 601 - z = (600 - z) + 1 by omega]
  unfold lopB
  rcases h with h | ⟨h0, h⟩
  · rw [if_pos h, he]
  · rw [if_neg h0, if_pos h, he]
theorem LP_c1 {l m : List Int32} (hY : BY B n) (hc1 : c1 < 128) (hc2 : c2 < 128) (hg : PG n one) (h : B z = nI c1) (he : one (skp B (z + 1)) = .inr (m, q)) : LPB B one c1 c2 o1 o2 l z = LPB B one c1 c2 o1 o2 (l ++ m ++ [o1]) q := by
  have hl := mark_lt hY hc1 h
  have h7 := skp_b hY (z := z + 1) (by omega)
  have h8 := hg _ _ _ h7.2 he
  have h6 := hY.1
  unfold LPB
  rw [show 601 - z = (600 - z) + 1 by omega, lopB, if_pos h, he]
  exact lopB_fu hY hc1 hc2 hg _ _ _ q h8.2 (by omega) (by omega)
theorem LP_c2 {l m : List Int32} (hY : BY B n) (hc1 : c1 < 128) (hc2 : c2 < 128) (hg : PG n one) (h0 : ¬ B z = nI c1) (h : B z = nI c2) (he : one (skp B (z + 1)) = .inr (m, q)) : LPB B one c1 c2 o1 o2 l z = LPB B one c1 c2 o1 o2 (l ++ m ++ [o2]) q := by
  have hl := mark_lt hY hc2 h
  have h7 := skp_b hY (z := z + 1) (by omega)
  have h8 := hg _ _ _ h7.2 he
  have h6 := hY.1
  unfold LPB
  rw [show 601 - z = (600 - z) + 1 by omega, lopB, if_neg h0, if_pos h, he]
  exact lopB_fu hY hc1 hc2 hg _ _ _ q h8.2 (by omega) (by omega)
theorem LP_no {l : List Int32} (h0 : ¬ B z = nI c1) (h : ¬ B z = nI c2) : LPB B one c1 c2 o1 o2 l z = .inr (l, z) := by
  unfold LPB
  cases 601 - z with
  | zero => rfl
  | succ k => rw [lopB, if_neg h0, if_neg h]
theorem many_er {e : Int32 × Nat} (he : one z = .inl e) : manyB B one c1 c2 o1 o2 z = .inl e := by unfold manyB; rw [he]
theorem many_ok {l : List Int32} (he : one z = .inr (l, q)) : manyB B one c1 c2 o1 o2 z = LPB B one c1 c2 o1 o2 l q := by unfold manyB; rw [he]
end EX
/-- the codes: behind the first cc ones, those of l -/
def CDS (cf cf1 : Nat → Int32) (cc : Nat) (l : List Int32) : Prop := (∀ j, j < cc → cf1 j = cf j) ∧ ∀ j x, l[j]? = some x → cf1 (cc + j) = x
theorem CDS.rf {cf : Nat → Int32} {cc : Nat} : CDS cf cf cc [] := ⟨fun _ _ => rfl, fun j x h => by simp at h⟩
theorem CDS.one {cf : Nat → Int32} {cc : Nat} {x : Int32} : CDS cf (upd cf cc x) cc [x] := by
  refine ⟨fun j hj => pk_un (by omega), fun j y h => ?_⟩
  cases j with
  | zero =>
    simp at h; subst h
    exact pk_us
  | succ j => simp at h
theorem CDS.tr {cf cf1 cf2 : Nat → Int32} {cc : Nat} {l m : List Int32} (h : CDS cf cf1 cc l) (g : CDS cf1 cf2 (cc + l.length) m) : CDS cf cf2 cc (l ++ m) := by
  refine ⟨fun j hj => (g.1 j (by omega)).trans (h.1 j hj), fun j x hx => ?_⟩
  by_cases hl : j < l.length
  · rw [List.getElem?_append_left hl] at hx
    exact (g.1 _ (by omega)).trans (h.2 j x hx)
  · rw [List.getElem?_append_right (by omega)] at hx
    have := g.2 (j - l.length) x hx
    rw [show cc + l.length + (j - l.length) = cc + j by omega] at this
    exact this
theorem CDS.app1 {cf cf1 : Nat → Int32} {cc : Nat} {l : List Int32} {x : Int32} (h : CDS cf cf1 cc l) : CDS cf (upd cf1 (cc + l.length) x) cc (l ++ [x]) := h.tr CDS.one
/-- an error is told -/
def RE (D : va_G) (cs : Nat → ClassId) (w : Nat) (H : Heap) (tx : Nat) (f : Nat → Int32) (co sd n : Nat) (su : Value) (ec es : Int32) : Prop := ∃ (cf : Nat → Int32) (pos : Nat) (k : Int32) (st : Nat) (va ta tk : Int32) (cc : Nat), pos ≤ 600 ∧ st ≤ 600 ∧ cc ≤ 600 ∧ RS D cs w H tx f co cf sd n pos k st va ta tk cc su ec es
