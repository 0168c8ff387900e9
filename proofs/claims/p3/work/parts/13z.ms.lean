/-! ===== how far a message's time lies ahead; how many lie before ===== -/
def hx9 (f : Nat → Int32) (i : Nat) : Nat := (f (1384 + 6 * i) - (f 1 + 1)).toBitVec.toNat
theorem hx_lt {f : Nat → Int32} {i : Nat} : hx9 f i < 4294967296 := (f (1384 + 6 * i) - (f 1 + 1)).toBitVec.isLt
theorem nI_bv {j : Nat} (hj : j < 4294967296) : (nI j).toBitVec.toNat = j := by
  show (BitVec.ofNat 32 j).toNat = j
  rw [BitVec.toNat_ofNat]
  exact Nat.mod_eq_of_lt hj
theorem nI_of_bv (x : Int32) : nI x.toBitVec.toNat = x := by
  rw [← Int32.toBitVec_inj]
  exact BitVec.eq_of_toNat_eq (nI_bv x.toBitVec.isLt)
theorem hx_eq {f : Nat → Int32} {i j : Nat} (h : f (1384 + 6 * i) = f 1 + 1 + nI j) (hj : j < 4294967296) : hx9 f i = j := by
  unfold hx9
  rw [h, Int32.add_comm (f 1 + 1), Int32.add_sub_cancel]
  exact nI_bv hj
theorem hx_ne {f : Nat → Int32} {i j : Nat} (h : ¬ f (1384 + 6 * i) = f 1 + 1 + nI j) : ¬ hx9 f i = j := by
  rintro rfl
  apply h
  unfold hx9
  rw [nI_of_bv, Int32.add_comm, Int32.sub_add_cancel]
def hc (f : Nat → Int32) (j n : Nat) : Nat := cnt (fun i => decide (hx9 f i < j)) n
def hd9 (f : Nat → Int32) (j n : Nat) : Nat := cnt (fun i => decide (hx9 f i = j)) n
theorem hc_0 {f : Nat → Int32} {n : Nat} : hc f 0 n = 0 := by
  induction n with
  | zero => rfl
  | succ n ih => show hc f 0 n + _ = 0; rw [ih]; simp
theorem hc_s {f : Nat → Int32} {j n : Nat} : hc f (j + 1) n = hc f j n + hd9 f j n := by
  induction n with
  | zero => rfl
  | succ n ih =>
    show hc f (j + 1) n + (if decide (hx9 f n < j + 1) = true then 1 else 0) = (hc f j n + (if decide (hx9 f n < j) = true then 1 else 0)) + (hd9 f j n + (if decide (hx9 f n = j) = true then 1 else 0))
    rw [ih]
    simp only [decide_eq_true_eq]
    split <;> split <;> split <;> omega
theorem hc_all {f : Nat → Int32} {j n : Nat} (h : 4294967296 ≤ j) : hc f j n = n := by
  induction n with
  | zero => rfl
  | succ n ih =>
    show hc f j n + (if decide (hx9 f n < j) = true then 1 else 0) = n + 1
    have := hx_lt (f := f) (i := n)
    rw [ih, if_pos (decide_eq_true (by omega))]
theorem hd_y {f : Nat → Int32} {j n : Nat} (h : hx9 f n = j) : hd9 f j (n + 1) = hd9 f j n + 1 := by
  show hd9 f j n + (if decide (hx9 f n = j) = true then 1 else 0) = _
  rw [if_pos (decide_eq_true h)]
theorem hd_n {f : Nat → Int32} {j n : Nat} (h : ¬ hx9 f n = j) : hd9 f j (n + 1) = hd9 f j n := by
  show hd9 f j n + (if decide (hx9 f n = j) = true then 1 else 0) = _
  rw [if_neg (by simpa using h)]; rfl
theorem nI_nm1 {n : Nat} (h : n < 2 ^ 31) : ¬ nI n = -1 := by
  intro e
  have := congrArg Int32.toInt e
  rw [nI_toInt h, show (-1 : Int32).toInt = -1 by decide] at this
  omega
/-! ===== a quotient whose divisor isn't 0 is a number ===== -/
theorem vfn_of {r : UInt64} (h : Jvm.FP.Core.dIsNaN r = false) : vf_n64 r := by
  unfold vf_n64
  rw [UInt64.le_iff_toNat_le, UInt64.toNat_and]
  have h1 : ¬ (9218868437227405312 < r.toNat % 2 ^ 63) := fun g => by rw [(Jvm.FP.Core.isNaN_bits r).mpr g] at h; cases h
  have h2 : r.toNat &&& (0x7fffffffffffffff : UInt64).toNat = r.toNat % 2 ^ 63 := Nat.and_two_pow_sub_one_eq_mod r.toNat 63
  rw [h2]
  exact Nat.not_lt.mp h1
theorem dd_fin {x : UInt64} {b : Int32} (hb : ¬ b = 0) (hx : Jvm.FP.Core.dIsNaN x = false) : vf_n64 (Jvm.FP.Core.ddiv x (Jvm.FP.Core.i2d b)) := by
  apply vfn_of
  rw [Bool.eq_false_iff]
  intro h
  rw [Jvm.FP.Core.ddiv_nan_iff] at h
  have hi : Jvm.FP.Core.Whole b.toInt (Jvm.FP.Core.val64 (Jvm.FP.Core.i2d b)) := Jvm.FP.Core.i2d_int b
  rcases h with h | h | ⟨s, t, -, h⟩ | ⟨-, s, q, h⟩
  · exact (Jvm.FP.Core.notNaN_iff x).mp hx h
  · rw [h] at hi; exact hi
  · rw [h] at hi; exact hi
  · rw [h] at hi
    apply hb
    rw [← Int32.toInt_inj]
    unfold Jvm.FP.Core.Whole Jvm.FP.Core.signed at hi
    have h2 : (0 : Int) = b.toInt * ((2 ^ (-q).toNat : Nat) : Int) := by
      rw [← hi]; split <;> simp
    have h3 : ((2 ^ (-q).toNat : Nat) : Int) ≠ 0 := by
      have := Nat.two_pow_pos (-q).toNat
      omega
    rcases Int.mul_eq_zero.mp h2.symm with g | g
    · rw [g]; rfl
    · exact absurd g h3
theorem dd_i (a : Int32) {b : Int32} (hb : ¬ b = 0) : vf_n64 (FP.ddiv (FP.i2d a) (FP.i2d b)) := by
  refine dd_fin hb ?_
  rw [Jvm.FP.Core.notNaN_iff]
  intro h
  have hi : Jvm.FP.Core.Whole a.toInt (Jvm.FP.Core.val64 (Jvm.FP.Core.i2d a)) := Jvm.FP.Core.i2d_int a
  rw [h] at hi
  exact hi
theorem dd_l (a : Int64) {b : Int32} (hb : ¬ b = 0) : vf_n64 (FP.ddiv (FP.l2d a) (FP.i2d b)) := by
  refine dd_fin hb ?_
  rw [Bool.eq_false_iff]
  intro h
  have h1 := (Jvm.FP.Core.isNaN_bits _).mp h
  have h2 : (FP.l2d a).toNat % 2 ^ 63 < 1088 * 2 ^ 52 := Jvm.FP.Core.l2d_mag a
  omega
