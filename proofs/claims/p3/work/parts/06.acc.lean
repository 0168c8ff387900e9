/-! ===== how many messages a row may hold: those in it and the answers to come into it ===== -/
def cnt (p : Nat → Bool) : Nat → Nat
  | 0 => 0
  | n + 1 => cnt p n + (if p n = true then 1 else 0)
def sumN (f : Nat → Nat) : Nat → Nat
  | 0 => 0
  | n + 1 => sumN f n + f n
theorem cnt_congr {p q : Nat → Bool} {n : Nat} (h : ∀ k, k < n → p k = q k) : cnt p n = cnt q n := by
  induction n with
  | zero => rfl
  | succ n ih => show cnt p n + _ = cnt q n + _; rw [ih (fun k hk => h k (by omega)), h n (by omega)]
theorem sumN_congr {f g : Nat → Nat} {n : Nat} (h : ∀ k, k < n → f k = g k) : sumN f n = sumN g n := by
  induction n with
  | zero => rfl
  | succ n ih => show sumN f n + _ = sumN g n + _; rw [ih (fun k hk => h k (by omega)), h n (by omega)]
theorem sumN_le {f g : Nat → Nat} {n : Nat} (h : ∀ k, k < n → f k ≤ g k) : sumN f n ≤ sumN g n := by
  induction n with
  | zero => exact Nat.le_refl _
  | succ n ih => show sumN f n + _ ≤ sumN g n + _; exact Nat.add_le_add (ih (fun k hk => h k (by omega))) (h n (by omega))
theorem sumN_add (f g : Nat → Nat) (n : Nat) : sumN (fun k => f k + g k) n = sumN f n + sumN g n := by
  induction n with
  | zero => rfl
  | succ n ih => show sumN (fun k => f k + g k) n + (f n + g n) = (sumN f n + f n) + (sumN g n + g n); rw [ih]; omega
theorem sumN_ind (a n : Nat) : sumN (fun k => if k = a then 1 else 0) n = if a < n then 1 else 0 := by
  induction n with
  | zero => rfl
  | succ n ih =>
    show sumN (fun k => if k = a then 1 else 0) n + (if n = a then 1 else 0) = _
    rw [ih]
    by_cases h1 : a < n
    · rw [if_pos h1, if_neg (by omega), if_pos (by omega)]
    · by_cases h2 : n = a
      · rw [if_neg h1, if_pos h2, if_pos (by omega)]
      · rw [if_neg h1, if_neg h2, if_neg (by omega)]
theorem sumN_upd {f g : Nat → Nat} {a d n : Nat} (ha : a < n) (h : ∀ k, k < n → k ≠ a → g k = f k) (he : g a = f a + d) : sumN g n = sumN f n + d := by
  have e : sumN g n = sumN (fun k => f k + (if k = a then d else 0)) n := sumN_congr fun k hk => by
    by_cases hz : k = a
    · subst hz; rw [he, if_pos rfl]
    · rw [h k hk hz, if_neg hz]; rfl
  have e2 : sumN (fun k => if k = a then d else 0) n = d := by
    have : ∀ m, sumN (fun k => if k = a then d else 0) m = if a < m then d else 0 := by
      intro m
      induction m with
      | zero => rfl
      | succ m ih =>
        show sumN (fun k => if k = a then d else 0) m + (if m = a then d else 0) = _
        rw [ih]
        by_cases h1 : a < m
        · rw [if_pos h1, if_neg (by omega), if_pos (by omega)]; rfl
        · by_cases h2 : m = a
          · rw [if_neg h1, if_pos h2, if_pos (by omega)]; omega
          · rw [if_neg h1, if_neg h2, if_neg (by omega)]
    rw [this n, if_pos ha]
  rw [e, sumN_add, e2]
theorem sumN_at {f : Nat → Nat} {a n : Nat} (ha : a < n) : f a ≤ sumN f n := by
  induction n with
  | zero => omega
  | succ n ih =>
    show f a ≤ sumN f n + f n
    by_cases h : a = n
    · subst h; omega
    · have := ih (by omega); omega
/-- the row into which the answer to a message comes that arrives in row q -/
def rep (dl : Nat → Int32) (q : Nat) (k f t : Int32) : Nat := if k = 0 ∨ k = 2 then (q + (dl (plc t f)).toNatClampNeg) % 16 else 16
def unr (q0 pl q k : Nat) : Bool := !(decide (q = q0) && decide (k < pl))
/-- the message k of row q answers into r, and isn't read -/
def ans (dl : Nat → Int32) (rw9 : Nat → Nat → Int32) (q0 pl q r k : Nat) : Bool := unr q0 pl q k && decide (rep dl q (rw9 q (7 * k)) (rw9 q (7 * k + 1)) (rw9 q (7 * k + 2)) = r)
def Rr (dl : Nat → Int32) (cn : Nat → Nat) (rw9 : Nat → Nat → Int32) (q0 pl r : Nat) : Nat := sumN (fun q => cnt (ans dl rw9 q0 pl q r) (cn q)) 16
def Ph (dl : Nat → Int32) (cn : Nat → Nat) (rw9 : Nat → Nat → Int32) (q0 pl r : Nat) : Nat := cn r + Rr dl cn rw9 q0 pl r
def EE (C : Nat → Nat) (dl : Nat → Int32) (cn : Nat → Nat) (rw9 : Nat → Nat → Int32) (q0 pl : Nat) : Nat := sumN (fun r => Ph dl cn rw9 q0 pl r - C r) 16
theorem EE_at {C : Nat → Nat} {dl : Nat → Int32} {cn : Nat → Nat} {rw9 : Nat → Nat → Int32} {q0 pl r : Nat} (hr : r < 16) : Ph dl cn rw9 q0 pl r ≤ C r + EE C dl cn rw9 q0 pl := by
  have := sumN_at (f := fun r => Ph dl cn rw9 q0 pl r - C r) hr
  have h2 : Ph dl cn rw9 q0 pl r - C r ≤ EE C dl cn rw9 q0 pl := this
  omega
theorem EE_cn {C : Nat → Nat} {dl : Nat → Int32} {cn : Nat → Nat} {rw9 : Nat → Nat → Int32} {q0 pl r : Nat} (hr : r < 16) : cn r ≤ C r + EE C dl cn rw9 q0 pl := by
  have := EE_at (C := C) (dl := dl) (cn := cn) (rw9 := rw9) (q0 := q0) (pl := pl) hr
  unfold Ph at this
  omega
theorem EE_mono {C C' : Nat → Nat} {dl : Nat → Int32} {cn : Nat → Nat} {rw9 : Nat → Nat → Int32} {q0 pl : Nat} (h : ∀ r, r < 16 → C r ≤ C' r) : EE C' dl cn rw9 q0 pl ≤ EE C dl cn rw9 q0 pl :=
  sumN_le fun r hr => by have := h r hr; omega
theorem Rr_congr {dl : Nat → Int32} {cn cn' : Nat → Nat} {rw9 rw' : Nat → Nat → Int32} {q0 pl r : Nat} (hc : ∀ q, q < 16 → cn' q = cn q) (hr : ∀ q, q < 16 → ∀ i, i < 7 * cn q → rw' q i = rw9 q i) : Rr dl cn' rw' q0 pl r = Rr dl cn rw9 q0 pl r :=
  sumN_congr fun q hq => by
    rw [hc q hq]
    refine cnt_congr fun k hk => ?_
    unfold ans
    rw [hr q hq _ (by omega), hr q hq _ (by omega), hr q hq _ (by omega)]
theorem EE_congr {C : Nat → Nat} {dl : Nat → Int32} {cn cn' : Nat → Nat} {rw9 rw' : Nat → Nat → Int32} {q0 pl : Nat} (hc : ∀ q, q < 16 → cn' q = cn q) (hr : ∀ q, q < 16 → ∀ i, i < 7 * cn q → rw' q i = rw9 q i) : EE C dl cn' rw' q0 pl = EE C dl cn rw9 q0 pl :=
  sumN_congr fun r hr9 => by unfold Ph; rw [hc r hr9, Rr_congr hc hr]
theorem EE_dl {C : Nat → Nat} {dl dl' : Nat → Int32} {cn : Nat → Nat} {rw9 : Nat → Nat → Int32} {q0 pl : Nat} (h : ∀ j, j < 64 → dl' j = dl j) : EE C dl' cn rw9 q0 pl = EE C dl cn rw9 q0 pl :=
  sumN_congr fun r _ => by
    unfold Ph Rr
    congr 2
    refine sumN_congr fun q _ => cnt_congr fun k _ => ?_
    unfold ans rep
    rw [h _ (plc_lt _ _)]
/-- no message read yet: it is all one which row is looked at -/
theorem EE_start {C : Nat → Nat} {dl : Nat → Int32} {cn : Nat → Nat} {rw9 : Nat → Nat → Int32} (q0 q1 : Nat) : EE C dl cn rw9 q0 0 = EE C dl cn rw9 q1 0 :=
  sumN_congr fun r _ => by
    unfold Ph Rr
    congr 2
    refine sumN_congr fun q _ => cnt_congr fun k _ => ?_
    unfold ans unr
    simp
theorem Rr_zero {dl : Nat → Int32} {cn : Nat → Nat} {rw9 : Nat → Nat → Int32} {q0 pl r : Nat} (h : ∀ q, q < 16 → cn q = 0) : Rr dl cn rw9 q0 pl r = 0 := by
  unfold Rr
  rw [show sumN (fun q => cnt (ans dl rw9 q0 pl q r) (cn q)) 16 = sumN (fun _ => 0) 16 from sumN_congr fun q hq => by rw [h q hq]; rfl]
  rfl
theorem EE_zero {C : Nat → Nat} {dl : Nat → Int32} {cn : Nat → Nat} {rw9 : Nat → Nat → Int32} {q0 pl : Nat} (h : ∀ q, q < 16 → cn q = 0) : EE C dl cn rw9 q0 pl = 0 := by
  unfold EE
  rw [show sumN (fun r => Ph dl cn rw9 q0 pl r - C r) 16 = sumN (fun _ => 0) 16 from sumN_congr fun r hr => by unfold Ph; rw [h r hr, Rr_zero h]; simp]
  rfl
/-- a message comes into row r0 -/
theorem Rr_put {dl : Nat → Int32} {cn cn' : Nat → Nat} {rw9 rw' : Nat → Nat → Int32} {q0 pl r0 r : Nat} (h0 : r0 < 16) (hc : ∀ q, q < 16 → q ≠ r0 → cn' q = cn q) (hc0 : cn' r0 = cn r0 + 1) (hr : ∀ q, q < 16 → ∀ i, i < 7 * cn q → rw' q i = rw9 q i) :
    Rr dl cn' rw' q0 pl r = Rr dl cn rw9 q0 pl r + (if ans dl rw' q0 pl r0 r (cn r0) = true then 1 else 0) := by
  refine sumN_upd h0 (fun q hq hne => ?_) ?_
  · rw [hc q hq hne]
    refine cnt_congr fun k hk => ?_
    unfold ans
    rw [hr q hq _ (by omega), hr q hq _ (by omega), hr q hq _ (by omega)]
  · rw [hc0]
    show cnt _ (cn r0) + _ = _
    congr 1
    refine cnt_congr fun k hk => ?_
    unfold ans
    rw [hr r0 h0 _ (by omega), hr r0 h0 _ (by omega), hr r0 h0 _ (by omega)]
theorem EE_put {C : Nat → Nat} {dl : Nat → Int32} {cn cn' : Nat → Nat} {rw9 rw' : Nat → Nat → Int32} {q0 pl r0 : Nat} (h0 : r0 < 16) (hc : ∀ q, q < 16 → q ≠ r0 → cn' q = cn q) (hc0 : cn' r0 = cn r0 + 1) (hr : ∀ q, q < 16 → ∀ i, i < 7 * cn q → rw' q i = rw9 q i) :
    EE C dl cn' rw' q0 pl ≤ EE C dl cn rw9 q0 pl + 2 := by
  have h1 : EE C dl cn' rw' q0 pl ≤ sumN (fun r => (Ph dl cn rw9 q0 pl r - C r) + ((if r = r0 then 1 else 0) + (if r = rep dl r0 (rw' r0 (7 * cn r0)) (rw' r0 (7 * cn r0 + 1)) (rw' r0 (7 * cn r0 + 2)) then 1 else 0))) 16 := by
    refine sumN_le fun r hr9 => ?_
    have e1 : cn' r = cn r + (if r = r0 then 1 else 0) := by
      by_cases hz : r = r0
      · subst hz; rw [hc0, if_pos rfl]
      · rw [hc r hr9 hz, if_neg hz]; rfl
    have e2 : Rr dl cn' rw' q0 pl r ≤ Rr dl cn rw9 q0 pl r + (if r = rep dl r0 (rw' r0 (7 * cn r0)) (rw' r0 (7 * cn r0 + 1)) (rw' r0 (7 * cn r0 + 2)) then 1 else 0) := by
      rw [Rr_put h0 hc hc0 hr]
      refine Nat.add_le_add_left ?_ _
      by_cases hz : r = rep dl r0 (rw' r0 (7 * cn r0)) (rw' r0 (7 * cn r0 + 1)) (rw' r0 (7 * cn r0 + 2))
      · rw [if_pos hz]; split <;> omega
      · rw [if_neg hz, if_neg]
        · exact Nat.le_refl _
        · unfold ans; simp [Ne.symm hz]
    unfold Ph
    rw [e1]
    omega
  rw [sumN_add, sumN_add, sumN_ind, sumN_ind] at h1
  have h2 : ∀ a : Nat, (if a < 16 then 1 else 0 : Nat) ≤ 1 := fun a => by split <;> omega
  have := h2 r0
  have := h2 (rep dl r0 (rw' r0 (7 * cn r0)) (rw' r0 (7 * cn r0 + 1)) (rw' r0 (7 * cn r0 + 2)))
  unfold EE at h1 ⊢
  omega
/-- a message that asks no answer comes into row r0 -/
theorem EE_put1 {C : Nat → Nat} {dl : Nat → Int32} {cn cn' : Nat → Nat} {rw9 rw' : Nat → Nat → Int32} {q0 pl r0 : Nat} (h0 : r0 < 16) (hc : ∀ q, q < 16 → q ≠ r0 → cn' q = cn q) (hc0 : cn' r0 = cn r0 + 1) (hr : ∀ q, q < 16 → ∀ i, i < 7 * cn q → rw' q i = rw9 q i) (hk : ¬ (rw' r0 (7 * cn r0) = 0 ∨ rw' r0 (7 * cn r0) = 2)) :
    EE C dl cn' rw' q0 pl ≤ EE C dl cn rw9 q0 pl + 1 := by
  have h1 : EE C dl cn' rw' q0 pl ≤ sumN (fun r => (Ph dl cn rw9 q0 pl r - C r) + (if r = r0 then 1 else 0)) 16 := by
    refine sumN_le fun r hr9 => ?_
    have e1 : cn' r = cn r + (if r = r0 then 1 else 0) := by
      by_cases hz : r = r0
      · subst hz; rw [hc0, if_pos rfl]
      · rw [hc r hr9 hz, if_neg hz]; rfl
    have e2 : Rr dl cn' rw' q0 pl r = Rr dl cn rw9 q0 pl r := by
      rw [Rr_put h0 hc hc0 hr, if_neg]
      · rfl
      · unfold ans rep; rw [if_neg hk]; simp; omega
    unfold Ph
    rw [e1, e2]
    omega
  rw [sumN_add, sumN_ind] at h1
  have h2 : (if r0 < 16 then 1 else 0 : Nat) ≤ 1 := by split <;> omega
  unfold EE at h1 ⊢
  omega
theorem cnt_unr {dl : Nat → Int32} {rw9 : Nat → Nat → Int32} {q0 pl r n : Nat} (hp : pl < n) : cnt (ans dl rw9 q0 pl q0 r) n = cnt (ans dl rw9 q0 (pl + 1) q0 r) n + (if rep dl q0 (rw9 q0 (7 * pl)) (rw9 q0 (7 * pl + 1)) (rw9 q0 (7 * pl + 2)) = r then 1 else 0) := by
  induction n with
  | zero => omega
  | succ n ih =>
    show cnt (ans dl rw9 q0 pl q0 r) n + _ = cnt (ans dl rw9 q0 (pl + 1) q0 r) n + _ + _
    by_cases h : pl = n
    · subst h
      rw [cnt_congr (p := ans dl rw9 q0 pl q0 r) (q := ans dl rw9 q0 (pl + 1) q0 r) (n := pl) (fun k hk => by unfold ans unr; simp [show k < pl by omega, show k < pl + 1 by omega])]
      have e1 : ans dl rw9 q0 (pl + 1) q0 r pl = false := by unfold ans unr; simp
      rw [e1]
      unfold ans unr
      simp
    · rw [ih (by omega)]
      have e1 : ans dl rw9 q0 pl q0 r n = ans dl rw9 q0 (pl + 1) q0 r n := by unfold ans unr; simp [show ¬ n < pl by omega, show ¬ n < pl + 1 by omega]
      rw [e1]
      omega
theorem Rr_read {dl : Nat → Int32} {cn : Nat → Nat} {rw9 : Nat → Nat → Int32} {q0 pl r : Nat} (hq : q0 < 16) (hp : pl < cn q0) :
    Rr dl cn rw9 q0 pl r = Rr dl cn rw9 q0 (pl + 1) r + (if rep dl q0 (rw9 q0 (7 * pl)) (rw9 q0 (7 * pl + 1)) (rw9 q0 (7 * pl + 2)) = r then 1 else 0) := by
  refine sumN_upd hq (fun q hq9 hne => ?_) ?_
  · refine cnt_congr fun k hk => ?_
    unfold ans unr
    simp [hne]
  · exact cnt_unr hp
theorem EE_read {C : Nat → Nat} {dl : Nat → Int32} {cn : Nat → Nat} {rw9 : Nat → Nat → Int32} {q0 pl : Nat} (hq : q0 < 16) (hp : pl < cn q0) : EE C dl cn rw9 q0 (pl + 1) ≤ EE C dl cn rw9 q0 pl :=
  sumN_le fun r hr => by unfold Ph; rw [Rr_read (pl := pl) hq hp]; omega
/-- the message that was read is answered: its answer was counted -/
theorem EE_reply {C : Nat → Nat} {dl : Nat → Int32} {cn cn' : Nat → Nat} {rw9 rw' : Nat → Nat → Int32} {q0 pl r0 : Nat} (hq : q0 < 16) (hp : pl < cn q0) (h0 : r0 < 16) (he : rep dl q0 (rw9 q0 (7 * pl)) (rw9 q0 (7 * pl + 1)) (rw9 q0 (7 * pl + 2)) = r0)
    (hc : ∀ q, q < 16 → q ≠ r0 → cn' q = cn q) (hc0 : cn' r0 = cn r0 + 1) (hr : ∀ q, q < 16 → ∀ i, i < 7 * cn q → rw' q i = rw9 q i) (hk : ¬ (rw' r0 (7 * cn r0) = 0 ∨ rw' r0 (7 * cn r0) = 2)) :
    EE C dl cn' rw' q0 (pl + 1) ≤ EE C dl cn rw9 q0 pl := by
  refine sumN_le fun r hr9 => ?_
  have e1 : cn' r = cn r + (if r = r0 then 1 else 0) := by
    by_cases hz : r = r0
    · subst hz; rw [hc0, if_pos rfl]
    · rw [hc r hr9 hz, if_neg hz]; rfl
  have e2 : Rr dl cn' rw' q0 (pl + 1) r = Rr dl cn rw9 q0 (pl + 1) r := by
    rw [Rr_put h0 hc hc0 hr, if_neg]
    · rfl
    · unfold ans rep; rw [if_neg hk]; simp; omega
  have e3 := Rr_read (dl := dl) (cn := cn) (rw9 := rw9) (r := r) hq hp
  rw [he] at e3
  unfold Ph
  rw [e1, e2, e3]
  by_cases hz : r = r0
  · subst hz; rw [if_pos rfl]; omega
  · rw [if_neg hz, if_neg (Ne.symm hz)]; omega
/-- row q0 is cleared -/
theorem EE_clear {C : Nat → Nat} {dl : Nat → Int32} {cn cn' : Nat → Nat} {rw9 : Nat → Nat → Int32} {q0 pl q1 : Nat} (hc : ∀ q, q < 16 → q ≠ q0 → cn' q = cn q) (hc0 : cn' q0 = 0) : EE C dl cn' rw9 q1 0 ≤ EE C dl cn rw9 q0 pl := by
  refine sumN_le fun r hr => ?_
  have h1 : cn' r ≤ cn r := by
    by_cases hz : r = q0
    · subst hz; rw [hc0]; omega
    · rw [hc r hr hz]; exact Nat.le_refl _
  have h2 : Rr dl cn' rw9 q1 0 r ≤ Rr dl cn rw9 q0 pl r := by
    refine sumN_le fun q hq => ?_
    by_cases hz : q = q0
    · subst hz; rw [hc0]; exact Nat.zero_le _
    · rw [hc q hq hz]
      refine Nat.le_of_eq (cnt_congr fun k hk => ?_)
      unfold ans unr
      simp [hz]
  unfold Ph
  omega
theorem sumN_14 (C : Nat → Nat) : ∀ n, sumN (fun j => 14 * C j + 350) n = 14 * sumN C n + 350 * n := by
  intro n
  induction n with
  | zero => rfl
  | succ n ih => show sumN (fun j => 14 * C j + 350) n + (14 * C n + 350) = 14 * (sumN C n + C n) + 350 * (n + 1); rw [ih]; omega
