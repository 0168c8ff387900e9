/-! ===== the law's world between two calls ===== -/
def LST (D : va_G) (cs : Nat → ClassId) (B0 : Nat) (κ : KM) (H : Heap) (x m o T : Nat) (C : Nat → Nat) (LN : Nat → Nat → Nat) : Prop :=
  WT B0 D cs T κ H ∧ T2 κ x 9 13 ∧ T2 κ m 10 12 ∧ T2 κ o 29 13 ∧ T2 κ (cs 450) 6 10 ∧ (κ (cs 450)).2.2.1 = (κ m).2.2.1 ∧ RQ D cs κ H C LN er
section LST
variable {D : va_G} {cs : Nat → ClassId} {B0 : Nat} {κ κ1 : KM} {H0 H H1 : Heap} {x m o T T1 : Nat} {C C1 : Nat → Nat} {LN LN1 : Nat → Nat → Nat} {S : List Nat}
/-- behind a call of the class that leaves what is stored -/
theorem LST.cl (h : LST D cs B0 κ H0 x m o T C LN) (hz : KZ κ κ1) (hT : WT B0 D cs T κ1 H) (hr : T2 κ1 (cs 450) 6 10) (hs : (κ1 (cs 450)).2.2.1 = (κ (cs 450)).2.2.1) (hR : RQ D cs κ1 H C1 LN1 er) : LST D cs B0 κ1 H x m o T C1 LN1 := by
  obtain ⟨-, h2, h3, h4, -, h6, -⟩ := h
  have e := hz m (by rw [h3.1]; decide) (by rw [h3.2]; decide)
  exact ⟨hT, hz.t2 h2 (by decide) (by decide), hz.t2 h3 (by decide) (by decide), hz.t2 h4 (by decide) (by decide), hr, by rw [hs, e]; exact h6, hR⟩
theorem LST.kw (h : LST D cs B0 κ H0 x m o T C LN) (hz : KW κ κ1) (hT : WT B0 D cs T κ1 H) (hR : RQ D cs κ1 H C1 LN1 er) : LST D cs B0 κ1 H x m o T C1 LN1 := by
  have h5 := h.2.2.2.2.1
  exact h.cl hz.z hT (hz.1.t2 h5 (by decide)) (by rw [hz.2 _ (by rw [h5.1]; decide) (by rw [h5.2]; decide)]) hR
/-- behind a call of the model that leaves its numbers -/
theorem LST.md (h : LST D cs B0 κ H0 x m o T C LN) (hT : WT B0 D cs T1 κ H) (hF : Fr B0 S κ H0 H) (hS : (∀ i, i < 10 → i + 20 ∉ S) ∧ 15 ∉ S) : LST D cs B0 κ H x m o T1 C LN := by
  obtain ⟨h1, h2, h3, h4, h5, h6, h7⟩ := h
  exact ⟨hT, h2, h3, h4, h5, h6, h7.fr h1 trivial hF hS⟩
/-- the numbers of the model's kind are others -/
theorem RQ.kpm {a b : Nat} (hR : RQ D cs κ H C LN er) (hT : WT B0 D cs T κ H0) (hm : T2 κ m 10 12) : RQ D cs (kp κ m a b) H C LN er :=
  RQ.kk9 hR hT (fun q h8 _ => kp_n (fun e => by
    subst e
    have h6 := hm.1
    rcases h8 with h8 | h8 <;> rw [h8] at h6 <;> cases h6))
theorem ne_rm (hr : T2 κ (cs 450) 6 10) (hm : T2 κ m 10 12) : cs 450 ≠ m := fun e => by
  have h6 := hr.1
  rw [e, hm.1] at h6
  cases h6
/-- behind load of both -/
theorem LST.ld {v : Int32} (h : LST D cs B0 κ H0 x m o T C LN) (hz : KZ κ κ1) (hT : WT B0 D cs T κ1 H) (hr : T2 κ1 (cs 450) 6 10)
    (hs : ((v < 0 ∨ nI (κ (cs 450)).2.2.1 < v) ∧ (κ1 (cs 450)).2.2.1 = (κ (cs 450)).2.2.1) ∨ (¬ v < 0 ∧ ¬ nI (κ (cs 450)).2.2.1 < v ∧ (κ1 (cs 450)).2.2.1 = 0)) (hR : RQ D cs κ1 H C1 LN1 er)
    (hF : Fr B0 S κ1 H H1) (hS : (∀ i, i < 10 → i + 20 ∉ S) ∧ 15 ∉ S) (hm : ((v < 0 ∨ nI (κ1 m).2.2.1 < v) ∧ WT B0 D cs T κ1 H1) ∨ (¬ v < 0 ∧ ¬ nI (κ1 m).2.2.1 < v ∧ WT B0 D cs T (kp κ1 m 0 (κ1 m).2.2.2) H1)) : ∃ κ2, LST D cs B0 κ2 H1 x m o T C1 LN1 := by
  obtain ⟨-, h2, h3, h4, -, h6, -⟩ := h
  have e := hz m (by rw [h3.1]; decide) (by rw [h3.2]; decide)
  have k2 := hz.t2 h2 (by decide) (by decide)
  have k3 := hz.t2 h3 (by decide) (by decide)
  have k4 := hz.t2 h4 (by decide) (by decide)
  have hR1 := hR.fr hT trivial hF hS
  rw [h6] at hs
  rw [e] at hm
  rcases hm with ⟨h8, h9⟩ | ⟨h8, h9, h10⟩
  · rcases hs with ⟨-, g2⟩ | ⟨g1, g2, -⟩
    · exact ⟨κ1, h9, k2, k3, k4, hr, by rw [g2, e], hR1⟩
    · rcases h8 with h8 | h8
      · exact absurd h8 g1
      · exact absurd h8 g2
  · rcases hs with ⟨g1, -⟩ | ⟨-, -, g3⟩
    · rcases g1 with g1 | g1
      · exact absurd g1 h8
      · exact absurd g1 h9
    · rw [← e] at h10
      exact ⟨_, h10, t2kp k2, t2kp k3, t2kp k4, t2kp hr, by rw [kp_a, kp_n (ne_rm hr k3)]; exact g3, hR1.kpm hT k3⟩
/-- behind append of both: the answers are one -/
theorem LST.ap {r r2 : Int32} (h : LST D cs B0 κ H0 x m o T C LN) (hz : RDK (cs 450) κ κ1) (hT : WT B0 D cs T κ1 H) (hR : RQ D cs κ1 H C LN er)
    (hs : (r = -1 ∧ 600 < (κ (cs 450)).2.2.1 + 20 ∧ (κ1 (cs 450)).2.2.1 = (κ (cs 450)).2.2.1) ∨ (r = nI ((κ (cs 450)).2.2.1 + 20) ∧ (κ (cs 450)).2.2.1 + 20 ≤ 600 ∧ (κ1 (cs 450)).2.2.1 = (κ (cs 450)).2.2.1 + 20))
    (hS : (∀ i, i < 10 → i + 20 ∉ S) ∧ 15 ∉ S) (hm : (r2 = -1 ∧ 600 < (κ1 m).2.2.1 + 20 ∧ WT B0 D cs T κ1 H1 ∧ Fr B0 S κ1 H H1) ∨ (r2 = nI ((κ1 m).2.2.1 + 20) ∧ (κ1 m).2.2.1 + 20 ≤ 600 ∧ WT B0 D cs T (kp κ1 m ((κ1 m).2.2.1 + 20) (κ1 m).2.2.2) H1 ∧ Fr B0 S κ1 H H1)) : r = r2 ∧ ∃ κ2, LST D cs B0 κ2 H1 x m o T C LN := by
  obtain ⟨-, h2, h3, h4, h5, h6, -⟩ := h
  have e := hz.2 m (by rw [h3.1]; decide) (Ne.symm (ne_rm h5 h3))
  have k2 := hz.1.t2 h2 (by decide)
  have k3 := hz.1.t2 h3 (by decide)
  have k4 := hz.1.t2 h4 (by decide)
  have hr := hz.1.t2 h5 (by decide)
  rw [h6] at hs
  rcases hm with ⟨h8, h9, h10, hF⟩ | ⟨h8, h9, h10, hF⟩
  · rw [e] at h9
    rcases hs with ⟨g1, -, g3⟩ | ⟨-, g2, -⟩
    · exact ⟨g1.trans h8.symm, κ1, h10, k2, k3, k4, hr, by rw [g3, e], hR.fr hT trivial hF hS⟩
    · omega
  · rcases hs with ⟨-, g2, -⟩ | ⟨g1, -, g3⟩
    · rw [e] at h9; omega
    · refine ⟨by rw [g1, h8, e], _, h10, t2kp k2, t2kp k3, t2kp k4, t2kp hr, ?_, (hR.fr hT trivial hF hS).kpm hT k3⟩
      rw [kp_a, kp_n (ne_rm hr k3), g3, e]
end LST
/-! the tables' facts are of the numbers below 400 alone -/
theorem NK.cg {D : va_G} {cs cs' : Nat → ClassId} {U : State} (h : NK D cs U) (e : ∀ j, j < 400 → cs' j = cs j) : NK D cs' U := by
  have hT : TY cs' = TY cs := by
    unfold TY
    rw [e 0 (by decide), e 1 (by decide), e 2 (by decide), e 3 (by decide), e 4 (by decide), e 5 (by decide), e 6 (by decide)]
  obtain ⟨h1, h2, h3, h4, h5, h6, h7, h8⟩ := h
  refine ⟨by rw [hT]; exact h1, h2, h3, h4, h5, h6, fun i q hq => ?_, h8⟩
  have hi : i < nS.length := (List.getElem?_eq_some_iff.mp hq).1
  have hn : nS.length ≤ 100 := by decide
  rw [e (100 + i) (by omega)]
  exact h7 i q hq
theorem EX.cg {cs cs' : Nat → ClassId} {B0 : Nat} {U : State} {H : Heap} (h : EX cs B0 U H) (e : ∀ j, j < 400 → cs' j = cs j) : EX cs' B0 U H := by
  have hw : ∀ i ∈ nW, i < 100 := by decide
  exact ⟨h.1, fun i hi => by have := hw i hi; rw [e (100 + i) (by omega), e (200 + i) (by omega)]; exact h.2.1 i hi, h.2.2⟩
/-- what j calls have taken since Hs -/
def LA (Hs H : Heap) (LN0 LN : Nat → Nat → Nat) (j k n : Nat) : Prop := Gr Hs H k n ∧ 35 * k ≤ n + 35 * j ∧ n + PotN LN0 ≤ PotN LN + 714 * j
theorem LA.rf {H : Heap} {LN : Nat → Nat → Nat} : LA H H LN LN 0 0 0 := ⟨Gr.rf, by omega, by omega⟩
theorem LA.st {Hs H H1 : Heap} {LN0 LN LN1 : Nat → Nat → Nat} {j k n k1 n1 : Nat} (h : LA Hs H LN0 LN j k n) (g : Gr H H1 k1 n1) (h1 : 35 * k1 ≤ n1 + 35) (h2 : n1 + PotN LN ≤ PotN LN1 + 714) : LA Hs H1 LN0 LN1 (j + 1) (k + k1) (n + n1) :=
  ⟨h.1.tr g, by have := h.2.1; omega, by have := h.2.2; omega⟩
/-- room for one more call -/
theorem LA.room {Hs H : Heap} {LN0 LN : Nat → Nat → Nat} {C : Nat → Nat} {j k n : Nat} (h : LA Hs H LN0 LN j k n) (hC : sumN C 16 ≤ 24 * j) (hj : j ≤ 511) (hp : PotN LN ≤ 280 * sumN C 16 + 112000) : k + (336 * sumN C 16 + 145000 - PotN LN) / 35 ≤ 200000 ∧ n + (336 * sumN C 16 + 145000 - PotN LN) ≤ 5000000 ∧ sumN C 16 + 24 ≤ 12400 := by
  have h1 := h.2.1
  have h2 := h.2.2
  omega
section SL
variable {p : Program} {l : Launch} {e : Env} {R : Room} {s : State} {m : MethodId} {args : Array Value} {below : List Frame} {meth : Method} {c : Code} {H : Heap} {locs : List Loc} {cells slots : Nat} {Q : State → Prop}
variable {cc : ByteArray} {pc : Nat} {ls : Array Slot} {rest : List Value} {B0 b L : Nat} {xs : Nat → Int32}
/-- the script's number n -/
theorem sc_i {n : Nat} (hx : p.tables.exec = Jvm.exec) (hb : c.code = cc) (hL : OkL B0 locs) (hX : va_X b L xs s s.heap) (hbl : b < s.heap.size) (hbB : b < B0) (hn : n < L) (hL31 : L < 2 ^ 31) (hdg : decode cc pc = .ok (.iaload, 1))
    (kk : W p l e R s m args below meth c H locs cells slots Q (F0 m (pc + 1) ls (.int (xs n) :: rest))) : W p l e R s m args below meth c H locs cells slots Q (F0 m pc ls (.int (nI n) :: .ref b :: rest)) := by
  refine W.old hL (fun hold => W.know (fun hg => ?_))
  refine va_sld (A := fun q => B0 ≤ q) hx hb hX hbl (by omega) ⟨hg.1, fun q hq hA => hold q hq (by omega), hL⟩ (vp_in_nI (by omega) (by omega)) hdg ?_
  rw [nI_clamp (by omega)]
  exact kk
/-- how long the script is -/
theorem sc_n (hx : p.tables.exec = Jvm.exec) (hb : c.code = cc) (hL : OkL B0 locs) (hX : va_X b L xs s s.heap) (hbl : b < s.heap.size) (hbB : b < B0) (hdg : decode cc pc = .ok (.arraylength, 1))
    (kk : W p l e R s m args below meth c H locs cells slots Q (F0 m (pc + 1) ls (.int (nI L) :: rest))) : W p l e R s m args below meth c H locs cells slots Q (F0 m pc ls (.ref b :: rest)) := by
  refine W.old hL (fun hold => W.know (fun hg => ?_))
  exact va_slen (A := fun q => B0 ≤ q) hx hb hX hbl (by omega) ⟨hg.1, fun q hq hA => hold q hq (by omega), hL⟩ hdg kk
end SL
