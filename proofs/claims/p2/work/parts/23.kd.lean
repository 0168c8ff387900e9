/-! ===== the start's world by kinds ===== -/
abbrev KK : Type := Nat × Nat × Nat × Nat
def kl (ws : va_W) (ks : List KK) : KM := fun a => match ws.findIdx? (fun q => q.1 == a) with
  | some j => (ks[j]?).getD (0, 0, 0, 0)
  | none => (0, 0, 0, 0)
theorem kl_at {A : Nat → Prop} {ws : va_W} {ks : List KK} (hD : va_D A ws) {j : Nat} {q : Nat × va_E} {k : KK} (hq : ws[j]? = some q) (hk : ks[j]? = some k) : kl ws ks q.1 = k := by
  have h : ws.findIdx? (fun x => x.1 == q.1) = some j := by
    cases e : ws.findIdx? (fun x => x.1 == q.1) with
    | none =>
      have h9 := List.findIdx?_eq_none_iff.mp e q (List.mem_of_getElem? hq)
      simp at h9
    | some i =>
      obtain ⟨hi, h1, -⟩ := List.findIdx?_eq_some_iff_getElem.mp e
      rw [hD.1 i j _ _ (List.getElem?_eq_getElem hi) hq (by simpa using h1)]
  unfold kl
  rw [h]
  simp [hk]
theorem kl_in {ws : va_W} {ks : List KK} {a : Nat} (h : (kl ws ks a).1 ≠ 0) : ∃ (j : Nat) (q : Nat × va_E) (k : KK), ws[j]? = some q ∧ ks[j]? = some k ∧ q.1 = a ∧ kl ws ks a = k := by
  unfold kl at h ⊢
  cases e : ws.findIdx? (fun x => x.1 == a) with
  | none => rw [e] at h; exact absurd rfl h
  | some i =>
    obtain ⟨hi, h1, -⟩ := List.findIdx?_eq_some_iff_getElem.mp e
    rw [e] at h
    cases ek : ks[i]? with
    | none => simp [ek] at h
    | some k => exact ⟨i, _, k, List.getElem?_eq_getElem hi, ek, by simpa using h1, by simp [ek]⟩
/-- cells and kinds side by side -/
def ZZ (P : Nat × va_E → KK → Prop) : va_W → List KK → Prop
  | [], [] => True
  | x :: a, k :: c => P x k ∧ ZZ P a c
  | _, _ => False
theorem ZZ.of {P : Nat × va_E → KK → Prop} : ∀ {ws : va_W} {ks : List KK}, ws.length = ks.length → (∀ (j : Nat) (q : Nat × va_E) (k : KK), ws[j]? = some q → ks[j]? = some k → P q k) → ZZ P ws ks
  | [], [], _, _ => trivial
  | [], _ :: _, hl, _ => absurd hl (by simp)
  | _ :: _, [], hl, _ => absurd hl (by simp)
  | x :: a, k :: c, hl, h => ⟨h 0 x k rfl rfl, ZZ.of (Nat.succ.inj hl) (fun j q k hq hk => h (j + 1) q k hq hk)⟩
theorem ZZ.get {P : Nat × va_E → KK → Prop} : ∀ {ws : va_W} {ks : List KK}, ZZ P ws ks → ∀ {j : Nat} {q : Nat × va_E} {k : KK}, ws[j]? = some q → ks[j]? = some k → P q k
  | [], [], _, j, q, k, hq, _ => by simp at hq
  | [], _ :: _, h, _, _, _, _, _ => h.elim
  | _ :: _, [], h, _, _, _, _, _ => h.elim
  | x :: a, k :: c, h, 0, q, k2, hq, hk => by
    simp only [List.getElem?_cons_zero, Option.some.injEq] at hq hk
    subst hq; subst hk; exact h.1
  | x :: a, k :: c, h, j + 1, q, k2, hq, hk => ZZ.get h.2 (j := j) (by simpa using hq) (by simpa using hk)
theorem ZZ.app {P : Nat × va_E → KK → Prop} {b : va_W} {d : List KK} : ∀ {a : va_W} {c : List KK}, ZZ P a c → ZZ P b d → ZZ P (a ++ b) (c ++ d)
  | [], [], _, h => h
  | [], _ :: _, h, _ => h.elim
  | _ :: _, [], h, _ => h.elim
  | _ :: _, _ :: _, h, h2 => ⟨h.1, ZZ.app h.2 h2⟩
theorem ZZ.sp {P : Nat × va_E → KK → Prop} {b : va_W} {d : List KK} : ∀ {a : va_W} {c : List KK}, a.length = c.length → ZZ P (a ++ b) (c ++ d) → ZZ P a c ∧ ZZ P b d
  | [], [], _, h => ⟨trivial, h⟩
  | [], _ :: _, hl, _ => absurd hl (by simp)
  | _ :: _, [], hl, _ => absurd hl (by simp)
  | _ :: a, _ :: c, hl, h => have g := ZZ.sp (a := a) (c := c) (Nat.succ.inj hl) h.2; ⟨⟨h.1, g.1⟩, g.2⟩
theorem P_l {D : va_G} {a b : va_W} {H : Heap} (h : va_P D vwCl (a ++ b) H) : va_P D vwCl a H := fun k q hk => h k q (by
  rw [List.getElem?_append_left (List.getElem?_eq_some_iff.mp hk).1]; exact hk)
theorem P_r {D : va_G} {a b : va_W} {H : Heap} (h : va_P D vwCl (a ++ b) H) : va_P D vwCl b H := fun k q hk => h (a.length + k) q (at_app hk)
theorem P_t {D : va_G} {x : Nat × va_E} {b : va_W} {H : Heap} (h : va_P D vwCl (x :: b) H) : va_P D vwCl b H := fun k q hk => h (k + 1) q hk
theorem t2e {κ : KM} {a c o x y : Nat} (h : κ a = (c, o, x, y)) : T2 κ a c o := ⟨by rw [h], by rw [h]⟩
theorem p1e {κ : KM} {a c o x y : Nat} (h : κ a = (c, o, x, y)) : (κ a).2.2.1 = x := by rw [h]
theorem p2e {κ : KM} {a c o x y : Nat} (h : κ a = (c, o, x, y)) : (κ a).2.2.2 = y := by rw [h]
def kd (i : Nat) (v : Nat → Nat) : List KK := [(13, i + 20, 0, 0), (14, i + 20, 0, 0), (14, i + 20, 1, 0), (14, i + 20, 2, 0), (14, i + 20, 3, 0), (14, i + 20, 4, 0), (14, i + 20, 5, 0), (14, i + 20, 6, 0), (14, i + 20, 7, 0), (14, i + 20, 8, 0), (14, i + 20, 9, 0), (14, i + 20, 10, 0), (14, i + 20, 11, 0), (14, i + 20, 12, 0), (14, i + 20, 13, 0), (14, i + 20, 14, 0), (14, i + 20, 15, 0), (2, i + 40, 0, 0), (2, i, 0, 0), (18, 15, 0, 0), (19, 15, 0, 0), (19, 15, 0, 0), (20, 15, 0, 0), (7, 15, 0, 0), (8, i, v 31, 0), (11, i, 0, 0), (4, i, 0, 0), (4, i, 0, 0), (4, i, 0, 0), (4, i, 0, 0), (4, i, 0, 0), (4, i, 0, 0), (4, i, 0, 0), (4, i, 0, 0), (3, i + 20, 0, 0), (15, i + 20, 0, 0), (5, i, 1, 0)]
def k9l (v : Nat → Nat) : List KK := [(10, 12, 0, v 1), (23, 14, 0, 0), (25, 18, 100, 0), (26, 17, 0, 0), (27, 12, 0, 0), (25, 18, 0, 0), (25, 18, 1, 0), (25, 18, 2, 0), (25, 18, 3, 0), (25, 18, 4, 0), (25, 18, 5, 0), (25, 18, 6, 0), (25, 18, 7, 0), (28, 19, 0, 0), (24, 18, 0, 0)]
def krd : List KK := [(6, 10, 0, 0), (16, 10, 0, 0), (17, 10, 0, 0)]
def k8l (w : Nat → Nat → Nat) : List KK := (12, 13, 0, 0) :: (9, 13, 0, 0) :: ((((((((((krd ++ kd 0 (w 0)) ++ kd 1 (w 1)) ++ kd 2 (w 2)) ++ kd 3 (w 3)) ++ kd 4 (w 4)) ++ kd 5 (w 5)) ++ kd 6 (w 6)) ++ kd 7 (w 7)) ++ kd 8 (w 8)) ++ kd 9 (w 9))
theorem wd_len {cs : Nat → ClassId} {q : Nat} {v : Nat → Nat} : (wd cs q v).length = 37 := rfl
theorem kd_len {i : Nat} {v : Nat → Nat} : (kd i v).length = 37 := rfl
theorem rd_len {cs : Nat → ClassId} {q : Nat} {v : Nat → Nat} : (rdl cs q v).length = 3 := rfl
theorem krd_len : krd.length = 3 := rfl
theorem m9_len {cs : Nat → ClassId} {q : Nat} {v : Nat → Nat} : (m9 cs q v).length = 15 := rfl
theorem k9_len {v : Nat → Nat} : (k9l v).length = 15 := rfl
theorem w8_len {cs : Nat → ClassId} {a0 : Nat} {g : Nat → Nat} {w : Nat → Nat → Nat} : (w8 cs a0 g w).length = 375 := by simp only [w8, List.length_cons, List.length_append, wd_len, rd_len]
theorem k8_len {w : Nat → Nat → Nat} : (k8l w).length = 375 := by simp only [k8l, List.length_cons, List.length_append, kd_len, krd_len]
theorem wd_cg {cs cs' : Nat → ClassId} (e : ∀ j, j < 400 → cs' j = cs j) (q : Nat) (v : Nat → Nat) : wd cs q v = wd cs' q v := by
  unfold wd; rw [e 0 (by decide), e 2 (by decide), e 4 (by decide), e 6 (by decide)]
theorem rd_cg {cs cs' : Nat → ClassId} (e : ∀ j, j < 400 → cs' j = cs j) (q : Nat) (v : Nat → Nat) : rdl cs q v = rdl cs' q v := by
  unfold rdl; rw [e 0 (by decide), e 1 (by decide)]
theorem m9_cg {cs cs' : Nat → ClassId} (e : ∀ j, j < 400 → cs' j = cs j) (q : Nat) (v : Nat → Nat) : m9 cs q v = m9 cs' q v := by
  unfold m9; rw [e 0 (by decide), e 3 (by decide), e 6 (by decide)]
theorem w8_cg {cs cs' : Nat → ClassId} (e : ∀ j, j < 400 → cs' j = cs j) (a0 : Nat) (g : Nat → Nat) (w : Nat → Nat → Nat) : w8 cs a0 g w = w8 cs' a0 g w := by
  unfold w8; simp only [wd_cg e, rd_cg e, e 5 (by decide)]
theorem wd_ok {cs : Nat → ClassId} {κ : KM} {T i q : Nat} {v : Nat → Nat} (hi : i < 10) (h1 : v 1 = cs (400 + i)) (h2 : v 20 = cs (420 + i)) (h3 : v 21 = cs (460 + i)) (hk : ZZ (fun x k => κ x.1 = k) (wd cs q v) (kd i v)) : ZZ (fun x k => okE cs T κ k x.2) (wd cs q v) (kd i v) := by
  have hk : κ (v 2) = (13, i + 20, 0, 0) ∧ κ (v 3) = (14, i + 20, 0, 0) ∧ κ (v 4) = (14, i + 20, 1, 0) ∧ κ (v 5) = (14, i + 20, 2, 0) ∧ κ (v 6) = (14, i + 20, 3, 0) ∧ κ (v 7) = (14, i + 20, 4, 0) ∧ κ (v 8) = (14, i + 20, 5, 0) ∧ κ (v 9) = (14, i + 20, 6, 0) ∧ κ (v 10) = (14, i + 20, 7, 0) ∧ κ (v 11) = (14, i + 20, 8, 0) ∧ κ (v 12) = (14, i + 20, 9, 0) ∧ κ (v 13) = (14, i + 20, 10, 0) ∧ κ (v 14) = (14, i + 20, 11, 0) ∧ κ (v 15) = (14, i + 20, 12, 0) ∧ κ (v 16) = (14, i + 20, 13, 0) ∧ κ (v 17) = (14, i + 20, 14, 0) ∧ κ (v 18) = (14, i + 20, 15, 0) ∧ κ (v 21) = (2, i + 40, 0, 0) ∧ κ (v 22) = (2, i, 0, 0) ∧ κ (v 32) = (18, 15, 0, 0) ∧ κ (v 33) = (19, 15, 0, 0) ∧ κ (v 34) = (19, 15, 0, 0) ∧ κ (v 35) = (20, 15, 0, 0) ∧ κ (v 31) = (7, 15, 0, 0) ∧ κ q = (8, i, v 31, 0) ∧ κ (v 0) = (11, i, 0, 0) ∧ κ (v 23) = (4, i, 0, 0) ∧ κ (v 24) = (4, i, 0, 0) ∧ κ (v 25) = (4, i, 0, 0) ∧ κ (v 26) = (4, i, 0, 0) ∧ κ (v 27) = (4, i, 0, 0) ∧ κ (v 28) = (4, i, 0, 0) ∧ κ (v 29) = (4, i, 0, 0) ∧ κ (v 30) = (4, i, 0, 0) ∧ κ (v 1) = (3, i + 20, 0, 0) ∧ κ (v 19) = (15, i + 20, 0, 0) ∧ κ (v 20) = (5, i, 1, 0) ∧ True := hk
  obtain ⟨e2, e3, e4, e5, e6, e7, e8, e9, e10, e11, e12, e13, e14, e15, e16, e17, e18, e21, e22, e32, e33, e34, e35, e31, eq, e0, e23, e24, e25, e26, e27, e28, e29, e30, e1, e19, e20, -⟩ := hk
  exact ⟨ok_13 rfl ⟨_, rfl, fun j hj => (match j, hj with | 0, _ => ⟨v 3, rfl, t2e e3, p1e e3⟩ | 1, _ => ⟨v 4, rfl, t2e e4, p1e e4⟩ | 2, _ => ⟨v 5, rfl, t2e e5, p1e e5⟩ | 3, _ => ⟨v 6, rfl, t2e e6, p1e e6⟩ | 4, _ => ⟨v 7, rfl, t2e e7, p1e e7⟩ | 5, _ => ⟨v 8, rfl, t2e e8, p1e e8⟩ | 6, _ => ⟨v 9, rfl, t2e e9, p1e e9⟩ | 7, _ => ⟨v 10, rfl, t2e e10, p1e e10⟩ | 8, _ => ⟨v 11, rfl, t2e e11, p1e e11⟩ | 9, _ => ⟨v 12, rfl, t2e e12, p1e e12⟩ | 10, _ => ⟨v 13, rfl, t2e e13, p1e e13⟩ | 11, _ => ⟨v 14, rfl, t2e e14, p1e e14⟩ | 12, _ => ⟨v 15, rfl, t2e e15, p1e e15⟩ | 13, _ => ⟨v 16, rfl, t2e e16, p1e e16⟩ | 14, _ => ⟨v 17, rfl, t2e e17, p1e e17⟩ | 15, _ => ⟨v 18, rfl, t2e e18, p1e e18⟩ | j + 16, hj => absurd hj (by omega))⟩,
    ok_14 rfl ⟨14, _, rfl, by decide⟩,
    ok_14 rfl ⟨14, _, rfl, by decide⟩,
    ok_14 rfl ⟨14, _, rfl, by decide⟩,
    ok_14 rfl ⟨14, _, rfl, by decide⟩,
    ok_14 rfl ⟨14, _, rfl, by decide⟩,
    ok_14 rfl ⟨14, _, rfl, by decide⟩,
    ok_14 rfl ⟨14, _, rfl, by decide⟩,
    ok_14 rfl ⟨14, _, rfl, by decide⟩,
    ok_14 rfl ⟨14, _, rfl, by decide⟩,
    ok_14 rfl ⟨14, _, rfl, by decide⟩,
    ok_14 rfl ⟨14, _, rfl, by decide⟩,
    ok_14 rfl ⟨14, _, rfl, by decide⟩,
    ok_14 rfl ⟨14, _, rfl, by decide⟩,
    ok_14 rfl ⟨14, _, rfl, by decide⟩,
    ok_14 rfl ⟨14, _, rfl, by decide⟩,
    ok_14 rfl ⟨14, _, rfl, by decide⟩,
    ok_2 rfl ⟨_, _, _, _, _, _, _, rfl⟩,
    ok_2 rfl ⟨_, _, _, _, _, _, _, rfl⟩,
    ok_18 rfl ⟨_, rfl, fun _ _ => Or.inl rfl⟩,
    ok_19 rfl ⟨_, rfl⟩,
    ok_19 rfl ⟨_, rfl⟩,
    ok_20 rfl ⟨_, rfl, fun _ _ => ⟨0, by decide, rfl⟩⟩,
    ok_7 rfl ⟨1, _, _, _, v 32, v 33, v 34, v 35, rfl, by decide, Or.inl rfl, Or.inl (Nat.zero_ne_one), t2e e32, t2e e33, t2e e34, t2e e35⟩,
    ok_8 rfl ⟨v 31, v 0, v 1, v 20, v 21, v 22, _, _, _, _, _, _, _, _, _, _, rfl, t2e e31, rfl, t2e e0, t2e e1, t2e e20, t2e e21, t2e e22, (show (0 : Int32) &&& 15 = nI 0 by decide), hi, h1, h2, h3⟩,
    ok_11 rfl ⟨_, rfl, fun j hj => (match j, hj with | 0, _ => ⟨v 23, rfl, t2e e23⟩ | 1, _ => ⟨v 24, rfl, t2e e24⟩ | 2, _ => ⟨v 25, rfl, t2e e25⟩ | 3, _ => ⟨v 26, rfl, t2e e26⟩ | 4, _ => ⟨v 27, rfl, t2e e27⟩ | 5, _ => ⟨v 28, rfl, t2e e28⟩ | 6, _ => ⟨v 29, rfl, t2e e29⟩ | 7, _ => ⟨v 30, rfl, t2e e30⟩ | j + 8, hj => absurd hj (by omega))⟩,
    ok_4 rfl ⟨_, _, _, _, _, _, _, _, _, _, rfl, Or.inr rfl⟩,
    ok_4 rfl ⟨_, _, _, _, _, _, _, _, _, _, rfl, Or.inr rfl⟩,
    ok_4 rfl ⟨_, _, _, _, _, _, _, _, _, _, rfl, Or.inr rfl⟩,
    ok_4 rfl ⟨_, _, _, _, _, _, _, _, _, _, rfl, Or.inr rfl⟩,
    ok_4 rfl ⟨_, _, _, _, _, _, _, _, _, _, rfl, Or.inr rfl⟩,
    ok_4 rfl ⟨_, _, _, _, _, _, _, _, _, _, rfl, Or.inr rfl⟩,
    ok_4 rfl ⟨_, _, _, _, _, _, _, _, _, _, rfl, Or.inr rfl⟩,
    ok_4 rfl ⟨_, _, _, _, _, _, _, _, _, _, rfl, Or.inr rfl⟩,
    ok_3 rfl ⟨v 2, v 19, _, rfl, t2e e2, t2e e19⟩,
    ok_15 rfl ⟨_, rfl, fun _ _ => ⟨0, by decide, rfl⟩⟩,
    ok_5 rfl ⟨_, _, _, _, _, _, _, _, rfl, ⟨fun h => absurd h (by decide), fun h => absurd h (show ¬ (1 : Nat) = 0 by decide)⟩⟩,
    trivial⟩
theorem rd_ok {cs : Nat → ClassId} {κ : KM} {T q : Nat} {v : Nat → Nat} (hk : ZZ (fun x k => κ x.1 = k) (rdl cs q v) krd) : ZZ (fun x k => okE cs T κ k x.2) (rdl cs q v) krd := by
  have hk : κ q = (6, 10, 0, 0) ∧ κ (v 0) = (16, 10, 0, 0) ∧ κ (v 1) = (17, 10, 0, 0) ∧ True := hk
  obtain ⟨eq, e0, e1, -⟩ := hk
  exact ⟨ok_6 rfl ⟨v 0, 0, 0, _, 0, _, _, _, v 1, 0, _, _, _, rfl, by decide, by decide, by decide, by decide, by decide, t2e e0, t2e e1, Or.inl rfl, Or.inl rfl⟩, ok_16 rfl ⟨_, rfl⟩, ok_17 rfl ⟨_, rfl⟩, trivial⟩
theorem dok0 : DOK 0 (fun _ => 0) := ⟨⟨0, by decide, rfl⟩, ⟨0, Nat.le_refl _, rfl⟩, ⟨0, by decide, rfl⟩, ⟨0, by decide, rfl⟩, fun _ _ => ⟨0, by decide, rfl⟩, ⟨0, 0, by decide, rfl, ⟨fun _ => 1, rfl, rfl, fun i hi => absurd hi (Nat.not_lt_zero i)⟩⟩, ⟨0, by decide, rfl⟩⟩
theorem layF_hi {x : Int32} {j : Nat} (hj : 118 < j) : layF (fun _ => 0) x j = 0 := by
  simp only [layF]
  repeat rw [pk_un (by omega)]
theorem dokL : DOK 0 (layF (fun _ => 0) 1) := ⟨⟨1, by decide, rfl⟩, ⟨0, Nat.le_refl _, rfl⟩, ⟨0, by decide, rfl⟩, ⟨0, by decide, rfl⟩, fun k _ => ⟨0, by decide, layF_hi (by omega)⟩, ⟨0, 0, by decide, rfl, ⟨fun _ => 1, rfl, rfl, fun i hi => absurd hi (Nat.not_lt_zero i)⟩⟩, ⟨0, by decide, rfl⟩⟩
theorem drk0 : DRK (fun _ => 0) := ⟨⟨0, by decide, rfl⟩, rfl, rfl, rfl, ⟨0, by decide, rfl⟩, rfl⟩
theorem m9_ok {cs : Nat → ClassId} {κ : KM} {q : Nat} {v : Nat → Nat} (hk : ZZ (fun x k => κ x.1 = k) (m9 cs q v) (k9l v)) : ZZ (fun x k => okE cs 0 κ k x.2) (m9 cs q v) (k9l v) := by
  have hk : κ q = (10, 12, 0, v 1) ∧ κ (v 0) = (23, 14, 0, 0) ∧ κ (v 2) = (25, 18, 100, 0) ∧ κ (v 3) = (26, 17, 0, 0) ∧ κ (v 4) = (27, 12, 0, 0) ∧ κ (v 5) = (25, 18, 0, 0) ∧ κ (v 6) = (25, 18, 1, 0) ∧ κ (v 7) = (25, 18, 2, 0) ∧ κ (v 8) = (25, 18, 3, 0) ∧ κ (v 9) = (25, 18, 4, 0) ∧ κ (v 10) = (25, 18, 5, 0) ∧ κ (v 11) = (25, 18, 6, 0) ∧ κ (v 12) = (25, 18, 7, 0) ∧ κ (v 13) = (28, 19, 0, 0) ∧ κ (v 1) = (24, 18, 0, 0) ∧ True := hk
  obtain ⟨eq, e0, e2, e3, e4, e5, e6, e7, e8, e9, e10, e11, e12, e13, e1, -⟩ := hk
  exact ⟨ok_10 rfl ⟨_, v 0, 0, 0, _, _, _, v 2, v 3, v 4, 0, _, _, _, _, v 13, rfl, Nat.zero_le _, Nat.zero_le _, Nat.zero_le _, Nat.zero_le _, t2e e0, t2e e1, t2e e2, p1e e2, t2e e3, t2e e4, t2e e13⟩,
    ok_23 rfl ⟨_, rfl⟩,
    ok_25 rfl ⟨_, rfl, dok0⟩,
    ok_26 rfl ⟨_, rfl, drk0⟩,
    ok_27 rfl ⟨_, rfl, fun j hj => (match j, hj with | 0, _ => ⟨v 5, rfl, t2e e5, p1e e5⟩ | 1, _ => ⟨v 6, rfl, t2e e6, p1e e6⟩ | 2, _ => ⟨v 7, rfl, t2e e7, p1e e7⟩ | 3, _ => ⟨v 8, rfl, t2e e8, p1e e8⟩ | 4, _ => ⟨v 9, rfl, t2e e9, p1e e9⟩ | 5, _ => ⟨v 10, rfl, t2e e10, p1e e10⟩ | 6, _ => ⟨v 11, rfl, t2e e11, p1e e11⟩ | 7, _ => ⟨v 12, rfl, t2e e12, p1e e12⟩ | j + 8, hj => absurd hj (by omega))⟩,
    ok_25 rfl ⟨_, rfl, dok0⟩,
    ok_25 rfl ⟨_, rfl, dok0⟩,
    ok_25 rfl ⟨_, rfl, dok0⟩,
    ok_25 rfl ⟨_, rfl, dok0⟩,
    ok_25 rfl ⟨_, rfl, dok0⟩,
    ok_25 rfl ⟨_, rfl, dok0⟩,
    ok_25 rfl ⟨_, rfl, dok0⟩,
    ok_25 rfl ⟨_, rfl, dok0⟩,
    ok_28 rfl ⟨_, rfl⟩,
    ok_24 rfl ⟨_, rfl, dokL⟩,
    trivial⟩
theorem EE0 : EE (fun _ => 0) (fun _ => 0) (fun _ => 0) (fun _ _ => 0) 0 0 ≤ 0 := Nat.le_of_eq rfl
theorem wd_rq {D : va_G} {cs : Nat → ClassId} {κ : KM} {H : Heap} {i q : Nat} {v : Nat → Nat} (hP : va_P D vwCl (wd cs q v) H) (hk : ZZ (fun x k => κ x.1 = k) (wd cs q v) (kd i v)) (h0 : q = cs (440 + i)) (h1 : v 1 = cs (400 + i)) (h2 : v 20 = cs (420 + i)) : ∃ (cn : Nat → Nat) (rw9 : Nat → Nat → Int32) (dl : Nat → Int32), T2 κ (cs (440 + i)) 8 i ∧ MW D cs H i (κ (cs (440 + i))).2.2.1 (κ (cs (440 + i))).2.2.2 (fun _ => 0) cn (fun _ => 14) rw9 dl ∧ ST (fun _ => 0) dl cn rw9 (κ (cs (420 + i))).2.2.1 (er i) := by
  have hq : κ q = (8, i, v 31, 0) := ZZ.get hk (j := 24) rfl rfl
  have hp : κ (v 20) = (5, i, 1, 0) := ZZ.get hk (j := 36) rfl rfl
  rw [← h0, ← h2, p1e hq, p2e hq, p1e hp]
  refine ⟨fun _ => 0, fun _ _ => 0, fun _ => 0, t2e hq, ⟨?_, ?_, fun j _ => ⟨⟨0, rfl⟩, (show 7 * 0 ≤ 14 by decide), (show 14 ≤ 14 * 0 + 350 by decide), (show 0 ≤ 12400 by decide)⟩, by decide⟩, ?_⟩
  · rw [← h1]
    exact ⟨v 2, v 19, 0, _, fun _ => 0, hP 34 _ rfl, hP 0 _ rfl, hP 35 _ rfl, fun j _ => rfl, fun j hj => (match j, hj with | 0, _ => ⟨v 3, rfl, hP 1 _ rfl⟩ | 1, _ => ⟨v 4, rfl, hP 2 _ rfl⟩ | 2, _ => ⟨v 5, rfl, hP 3 _ rfl⟩ | 3, _ => ⟨v 6, rfl, hP 4 _ rfl⟩ | 4, _ => ⟨v 7, rfl, hP 5 _ rfl⟩ | 5, _ => ⟨v 8, rfl, hP 6 _ rfl⟩ | 6, _ => ⟨v 9, rfl, hP 7 _ rfl⟩ | 7, _ => ⟨v 10, rfl, hP 8 _ rfl⟩ | 8, _ => ⟨v 11, rfl, hP 9 _ rfl⟩ | 9, _ => ⟨v 12, rfl, hP 10 _ rfl⟩ | 10, _ => ⟨v 13, rfl, hP 11 _ rfl⟩ | 11, _ => ⟨v 14, rfl, hP 12 _ rfl⟩ | 12, _ => ⟨v 15, rfl, hP 13 _ rfl⟩ | 13, _ => ⟨v 16, rfl, hP 14 _ rfl⟩ | 14, _ => ⟨v 17, rfl, hP 15 _ rfl⟩ | 15, _ => ⟨v 18, rfl, hP 16 _ rfl⟩ | j + 16, hj => absurd hj (by omega))⟩
  · exact ⟨_, _, _, _, _, _, _, v 35, hP 23 _ rfl, hP 22 _ rfl⟩
  · unfold ST
    split
    · exact EE0
    · exact EL.cl9 (by decide) (Nat.le_trans EE0 (Nat.zero_le _))
def cs9 (cs : Nat → ClassId) (g : Nat → Nat) (w : Nat → Nat → Nat) : Nat → ClassId := fun j => if j < 400 then cs j else if j < 420 then w (j - 400) 1 else if j < 440 then w (j - 420) 20 else if j < 450 then g (j - 440) else if j < 460 then g 10 else w (j - 460) 21
theorem cs9_lo {cs : Nat → ClassId} {g : Nat → Nat} {w : Nat → Nat → Nat} : ∀ j, j < 400 → cs9 cs g w j = cs j := fun j hj => if_pos hj
theorem cs9_ml {cs : Nat → ClassId} {g : Nat → Nat} {w : Nat → Nat → Nat} {i : Nat} (hi : i < 10) : w i 1 = cs9 cs g w (400 + i) := by
  unfold cs9; rw [if_neg (by omega), if_pos (by omega), Nat.add_sub_cancel_left]
theorem cs9_pr {cs : Nat → ClassId} {g : Nat → Nat} {w : Nat → Nat → Nat} {i : Nat} (hi : i < 10) : w i 20 = cs9 cs g w (420 + i) := by
  unfold cs9; rw [if_neg (by omega), if_neg (by omega), if_pos (by omega), Nat.add_sub_cancel_left]
theorem cs9_w {cs : Nat → ClassId} {g : Nat → Nat} {w : Nat → Nat → Nat} {i : Nat} (hi : i < 10) : g i = cs9 cs g w (440 + i) := by
  unfold cs9; rw [if_neg (by omega), if_neg (by omega), if_neg (by omega), if_pos (by omega), Nat.add_sub_cancel_left]
theorem cs9_rd {cs : Nat → ClassId} {g : Nat → Nat} {w : Nat → Nat → Nat} : g 10 = cs9 cs g w 450 := by
  unfold cs9; rw [if_neg (by omega), if_neg (by omega), if_neg (by omega), if_neg (by omega), if_pos (by omega)]
theorem cs9_li {cs : Nat → ClassId} {g : Nat → Nat} {w : Nat → Nat → Nat} {i : Nat} (hi : i < 10) : w i 21 = cs9 cs g w (460 + i) := by
  unfold cs9; rw [if_neg (by omega), if_neg (by omega), if_neg (by omega), if_neg (by omega), if_neg (by omega), Nat.add_sub_cancel_left]
theorem cs9_pa {cs : Nat → ClassId} {g : Nat → Nat} {w : Nat → Nat → Nat} {j : Nat} (hj : j < 8) : g (j + 2) = cs9 cs g w (442 + j) := by
  rw [show 442 + j = 440 + (j + 2) by omega]; exact cs9_w (by omega)
/-- the start's world -/
theorem st_lst {D : va_G} {cs : Nat → ClassId} {B0 : Nat} {H : Heap} {q0 q1 q2 : Nat} {g : Nat → Nat} {w : Nat → Nat → Nat} {v : Nat → Nat} (hP : va_P D vwCl ((w8 cs q0 g w ++ m9 cs q1 v) ++ [(q2, .inl (cs 3, 1, .inr (.inl (fun _ => 0))))]) H) (hD : va_D (fun q => B0 ≤ q) ((w8 cs q0 g w ++ m9 cs q1 v) ++ [(q2, .inl (cs 3, 1, .inr (.inl (fun _ => 0))))])) : ∃ (cs1 : Nat → ClassId) (κ : KM), (∀ j, j < 400 → cs1 j = cs j) ∧ LST D cs1 B0 κ H q0 q1 q2 0 (fun _ => 0) (fun _ _ => 14) := by
  have e := @cs9_lo cs g w
  rw [w8_cg e, m9_cg e, ← e 3 (by decide)] at hP hD
  refine ⟨cs9 cs g w, kl ((w8 (cs9 cs g w) q0 g w ++ m9 (cs9 cs g w) q1 v) ++ [(q2, .inl (cs9 cs g w 3, 1, .inr (.inl (fun _ => 0))))]) ((k8l w ++ k9l v) ++ [(29, 13, 0, 0)]), e, ?_⟩
  have hk := ZZ.of (P := fun x k => kl ((w8 (cs9 cs g w) q0 g w ++ m9 (cs9 cs g w) q1 v) ++ [(q2, .inl (cs9 cs g w 3, 1, .inr (.inl (fun _ => 0))))]) ((k8l w ++ k9l v) ++ [(29, 13, 0, 0)]) x.1 = k) (ws := (w8 (cs9 cs g w) q0 g w ++ m9 (cs9 cs g w) q1 v) ++ [(q2, .inl (cs9 cs g w 3, 1, .inr (.inl (fun _ => 0))))]) (ks := (k8l w ++ k9l v) ++ [(29, 13, 0, 0)]) (by simp only [List.length_append, w8_len, m9_len, k8_len, k9_len, List.length_cons, List.length_nil]) (fun j q k h1 h2 => kl_at hD h1 h2)
  have hin := fun a => @kl_in ((w8 (cs9 cs g w) q0 g w ++ m9 (cs9 cs g w) q1 v) ++ [(q2, .inl (cs9 cs g w 3, 1, .inr (.inl (fun _ => 0))))]) ((k8l w ++ k9l v) ++ [(29, 13, 0, 0)]) a
  generalize kl _ _ = κ at hk hin ⊢
  generalize hc1 : cs9 cs g w = cs1 at *
  have hml := fun i (hi : i < 10) => @cs9_ml cs g w i hi
  have hpr := fun i (hi : i < 10) => @cs9_pr cs g w i hi
  have hcw := fun i (hi : i < 10) => @cs9_w cs g w i hi
  have hli := fun i (hi : i < 10) => @cs9_li cs g w i hi
  have hpa := fun i (hi : i < 8) => @cs9_pa cs g w i hi
  have hrd := @cs9_rd cs g w
  rw [hc1] at hml hpr hcw hli hpa hrd
  obtain ⟨hk, hk2⟩ := ZZ.sp (by simp only [List.length_append, w8_len, m9_len, k8_len, k9_len]) hk
  obtain ⟨hk, hk9⟩ := ZZ.sp (by rw [w8_len, k8_len]) hk
  obtain ⟨hkp, hkx, hk⟩ := hk
  have hP9 := P_r (P_l hP)
  have hP8 := P_t (P_t (P_l (P_l hP)))
  obtain ⟨hk, hw9⟩ := ZZ.sp (by simp only [List.length_append, wd_len, rd_len, kd_len, krd_len]) hk
  have hPw9 := P_r hP8
  have hP8 := P_l hP8
  have ew9 : κ (g 9) = (8, 9, w 9 31, 0) := ZZ.get hw9 (j := 24) rfl rfl
  obtain ⟨hk, hw8⟩ := ZZ.sp (by simp only [List.length_append, wd_len, rd_len, kd_len, krd_len]) hk
  have hPw8 := P_r hP8
  have hP8 := P_l hP8
  have ew8 : κ (g 8) = (8, 8, w 8 31, 0) := ZZ.get hw8 (j := 24) rfl rfl
  obtain ⟨hk, hw7⟩ := ZZ.sp (by simp only [List.length_append, wd_len, rd_len, kd_len, krd_len]) hk
  have hPw7 := P_r hP8
  have hP8 := P_l hP8
  have ew7 : κ (g 7) = (8, 7, w 7 31, 0) := ZZ.get hw7 (j := 24) rfl rfl
  obtain ⟨hk, hw6⟩ := ZZ.sp (by simp only [List.length_append, wd_len, rd_len, kd_len, krd_len]) hk
  have hPw6 := P_r hP8
  have hP8 := P_l hP8
  have ew6 : κ (g 6) = (8, 6, w 6 31, 0) := ZZ.get hw6 (j := 24) rfl rfl
  obtain ⟨hk, hw5⟩ := ZZ.sp (by simp only [List.length_append, wd_len, rd_len, kd_len, krd_len]) hk
  have hPw5 := P_r hP8
  have hP8 := P_l hP8
  have ew5 : κ (g 5) = (8, 5, w 5 31, 0) := ZZ.get hw5 (j := 24) rfl rfl
  obtain ⟨hk, hw4⟩ := ZZ.sp (by simp only [List.length_append, wd_len, rd_len, kd_len, krd_len]) hk
  have hPw4 := P_r hP8
  have hP8 := P_l hP8
  have ew4 : κ (g 4) = (8, 4, w 4 31, 0) := ZZ.get hw4 (j := 24) rfl rfl
  obtain ⟨hk, hw3⟩ := ZZ.sp (by simp only [List.length_append, wd_len, rd_len, kd_len, krd_len]) hk
  have hPw3 := P_r hP8
  have hP8 := P_l hP8
  have ew3 : κ (g 3) = (8, 3, w 3 31, 0) := ZZ.get hw3 (j := 24) rfl rfl
  obtain ⟨hk, hw2⟩ := ZZ.sp (by simp only [List.length_append, wd_len, rd_len, kd_len, krd_len]) hk
  have hPw2 := P_r hP8
  have hP8 := P_l hP8
  have ew2 : κ (g 2) = (8, 2, w 2 31, 0) := ZZ.get hw2 (j := 24) rfl rfl
  obtain ⟨hk, hw1⟩ := ZZ.sp (by simp only [List.length_append, wd_len, rd_len, kd_len, krd_len]) hk
  have hPw1 := P_r hP8
  have hP8 := P_l hP8
  have ew1 : κ (g 1) = (8, 1, w 1 31, 0) := ZZ.get hw1 (j := 24) rfl rfl
  obtain ⟨hk, hw0⟩ := ZZ.sp (by simp only [List.length_append, wd_len, rd_len, kd_len, krd_len]) hk
  have hPw0 := P_r hP8
  have hP8 := P_l hP8
  have ew0 : κ (g 0) = (8, 0, w 0 31, 0) := ZZ.get hw0 (j := 24) rfl rfl
  have erd : κ (g 10) = (6, 10, 0, 0) := ZZ.get hk (j := 0) rfl rfl
  have em : κ q1 = (10, 12, 0, v 1) := ZZ.get hk9 (j := 0) rfl rfl
  have eo : κ q2 = (29, 13, 0, 0) := hk2.1
  have hkp : κ (g 11) = (12, 13, 0, 0) := hkp
  have hkx : κ q0 = (9, 13, 0, 0) := hkx
  have hOK : ZZ (fun x k => okE cs1 0 κ k x.2) ((w8 cs1 q0 g w ++ m9 cs1 q1 v) ++ [(q2, .inl (cs1 3, 1, .inr (.inl (fun _ => 0))))]) ((k8l w ++ k9l v) ++ [(29, 13, 0, 0)]) := ZZ.app (ZZ.app ⟨ok_12 rfl ⟨_, rfl, fun j hj => (match j, hj with | 0, _ => ⟨g 2, rfl, t2e ew2, hpa (0) (by decide)⟩ | 1, _ => ⟨g 3, rfl, t2e ew3, hpa (1) (by decide)⟩ | 2, _ => ⟨g 4, rfl, t2e ew4, hpa (2) (by decide)⟩ | 3, _ => ⟨g 5, rfl, t2e ew5, hpa (3) (by decide)⟩ | 4, _ => ⟨g 6, rfl, t2e ew6, hpa (4) (by decide)⟩ | 5, _ => ⟨g 7, rfl, t2e ew7, hpa (5) (by decide)⟩ | 6, _ => ⟨g 8, rfl, t2e ew8, hpa (6) (by decide)⟩ | 7, _ => ⟨g 9, rfl, t2e ew9, hpa (7) (by decide)⟩ | j + 8, hj => absurd hj (by omega))⟩, ok_9 rfl ⟨g 10, g 0, g 1, g 11, _, _, _, rfl, t2e erd, t2e ew0, t2e ew1, t2e hkp, hcw 0 (by decide), hcw 1 (by decide), hrd⟩, (ZZ.app (ZZ.app (ZZ.app (ZZ.app (ZZ.app (ZZ.app (ZZ.app (ZZ.app (ZZ.app (ZZ.app (rd_ok hk) (wd_ok (by decide) (hml _ (by decide)) (hpr _ (by decide)) (hli _ (by decide)) hw0)) (wd_ok (by decide) (hml _ (by decide)) (hpr _ (by decide)) (hli _ (by decide)) hw1)) (wd_ok (by decide) (hml _ (by decide)) (hpr _ (by decide)) (hli _ (by decide)) hw2)) (wd_ok (by decide) (hml _ (by decide)) (hpr _ (by decide)) (hli _ (by decide)) hw3)) (wd_ok (by decide) (hml _ (by decide)) (hpr _ (by decide)) (hli _ (by decide)) hw4)) (wd_ok (by decide) (hml _ (by decide)) (hpr _ (by decide)) (hli _ (by decide)) hw5)) (wd_ok (by decide) (hml _ (by decide)) (hpr _ (by decide)) (hli _ (by decide)) hw6)) (wd_ok (by decide) (hml _ (by decide)) (hpr _ (by decide)) (hli _ (by decide)) hw7)) (wd_ok (by decide) (hml _ (by decide)) (hpr _ (by decide)) (hli _ (by decide)) hw8)) (wd_ok (by decide) (hml _ (by decide)) (hpr _ (by decide)) (hli _ (by decide)) hw9))⟩ (m9_ok hk9)) ⟨ok_29 rfl ⟨_, rfl⟩, trivial⟩
  have hWT : WT B0 D cs1 0 κ H := fun a ha => by
    obtain ⟨j, q, k, h1, h2, rfl, h4⟩ := hin a ha
    exact ⟨hD.2 j q h1, q.2, hP j q h1, by rw [h4]; exact ZZ.get hOK h1 h2⟩
  refine ⟨hWT, t2e hkx, t2e em, t2e eo, by rw [← hrd]; exact t2e erd, by rw [← hrd, p1e erd, p1e em], fun i hi => ?_⟩
  match i, hi with
  | 0, _ => exact wd_rq hPw0 hw0 (hcw 0 (by decide)) (hml 0 (by decide)) (hpr 0 (by decide))
  | 1, _ => exact wd_rq hPw1 hw1 (hcw 1 (by decide)) (hml 1 (by decide)) (hpr 1 (by decide))
  | 2, _ => exact wd_rq hPw2 hw2 (hcw 2 (by decide)) (hml 2 (by decide)) (hpr 2 (by decide))
  | 3, _ => exact wd_rq hPw3 hw3 (hcw 3 (by decide)) (hml 3 (by decide)) (hpr 3 (by decide))
  | 4, _ => exact wd_rq hPw4 hw4 (hcw 4 (by decide)) (hml 4 (by decide)) (hpr 4 (by decide))
  | 5, _ => exact wd_rq hPw5 hw5 (hcw 5 (by decide)) (hml 5 (by decide)) (hpr 5 (by decide))
  | 6, _ => exact wd_rq hPw6 hw6 (hcw 6 (by decide)) (hml 6 (by decide)) (hpr 6 (by decide))
  | 7, _ => exact wd_rq hPw7 hw7 (hcw 7 (by decide)) (hml 7 (by decide)) (hpr 7 (by decide))
  | 8, _ => exact wd_rq hPw8 hw8 (hcw 8 (by decide)) (hml 8 (by decide)) (hpr 8 (by decide))
  | 9, _ => exact wd_rq hPw9 hw9 (hcw 9 (by decide)) (hml 9 (by decide)) (hpr 9 (by decide))
  | i + 10, hi => exact absurd hi (by omega)
