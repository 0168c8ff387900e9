/-! ===== how far a message's time lies ahead; how many lie before ===== -/
def hx9 (f : Nat → Int32) (i : Nat) : Nat := (f (1384 + 6 * i) - (f 1 + 1)).toBitVec.toNat
theorem hx_lt {f : Nat → Int32} {i : Nat} : hx9 f i < 4294967296 := (f (1384 + 6 * i) - (f 1 + 1)).toBitVec.isLt
theorem nI_bv {j : Nat} (hj : j < 4294967296) : (nI j).toBitVec.toNat = j := by
  show (BitVec.ofNat 32 j).toNat = j
  rw [BitVec.toNat_ofNat]
  exact Nat.mod_eq_of_lt hj
theorem nI_of_bv (x : Int32) : nI x.toBitVec.toNat = x := by
  rw [← Int32.toBitVec_inj]
  exact BitVec.eq_of_toNat_eq (nI_bv x.toBitVec.isLt)
theorem hx_eq {f : Nat → Int32} {i j : Nat} (h : f (1384 + 6 * i) = f 1 + 1 + nI j) (hj : j < 4294967296) : hx9 f i = j := by
  unfold hx9
  rw [h, Int32.add_comm (f 1 + 1), Int32.add_sub_cancel]
  exact nI_bv hj
theorem hx_ne {f : Nat → Int32} {i j : Nat} (h : ¬ f (1384 + 6 * i) = f 1 + 1 + nI j) : ¬ hx9 f i = j := by
  rintro rfl
  apply h
  unfold hx9
  rw [nI_of_bv, Int32.add_comm, Int32.sub_add_cancel]
def hc (f : Nat → Int32) (j n : Nat) : Nat := cnt (fun i => decide (hx9 f i < j)) n
def hd9 (f : Nat → Int32) (j n : Nat) : Nat := cnt (fun i => decide (hx9 f i = j)) n
theorem hc_0 {f : Nat → Int32} {n : Nat} : hc f 0 n = 0 := by
  induction n with
  | zero => rfl
  | succ n ih => show hc f 0 n + _ = 0; rw [ih]; simp
theorem hc_s {f : Nat → Int32} {j n : Nat} : hc f (j + 1) n = hc f j n + hd9 f j n := by
  induction n with
  | zero => rfl
  | succ n ih =>
    show hc f (j + 1) n + (if decide (hx9 f n < j + 1) = true then 1 else 0) = (hc f j n + (if decide (hx9 f n < j) = true then 1 else 0)) + (hd9 f j n + (if decide (hx9 f n = j) = true then 1 else 0))
    rw [ih]
    simp only [decide_eq_true_eq]
    split <;> split <;> split <;> omega
theorem hc_all {f : Nat → Int32} {j n : Nat} (h : 4294967296 ≤ j) : hc f j n = n := by
  induction n with
  | zero => rfl
  | succ n ih =>
    show hc f j n + (if decide (hx9 f n < j) = true then 1 else 0) = n + 1
    have := hx_lt (f := f) (i := n)
    rw [ih, if_pos (decide_eq_true (by omega))]
theorem hd_y {f : Nat → Int32} {j n : Nat} (h : hx9 f n = j) : hd9 f j (n + 1) = hd9 f j n + 1 := by
  show hd9 f j n + (if decide (hx9 f n = j) = true then 1 else 0) = _
  rw [if_pos (decide_eq_true h)]
theorem hd_n {f : Nat → Int32} {j n : Nat} (h : ¬ hx9 f n = j) : hd9 f j (n + 1) = hd9 f j n := by
  show hd9 f j n + (if decide (hx9 f n = j) = true then 1 else 0) = _
  rw [if_neg (by simpa using h)]; rfl
theorem nI_nm1 {n : Nat} (h : n < 2 ^ 31) : ¬ nI n = -1 := by
  intro e
  have := congrArg Int32.toInt e
  rw [nI_toInt h, show (-1 : Int32).toInt = -1 by decide] at this
  omega
