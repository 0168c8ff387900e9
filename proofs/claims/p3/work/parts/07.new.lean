/-! ===== new cells: kinds that grow, closing over them, rows that make cells ===== -/
def ku (κ : KM) (a : Nat) (k : Nat × Nat × Nat × Nat) : KM := fun q => if q = a then k else κ q
theorem ku_a {κ : KM} {a : Nat} {k : Nat × Nat × Nat × Nat} : ku κ a k a = k := if_pos rfl
theorem ku_n {κ : KM} {a q : Nat} {k : Nat × Nat × Nat × Nat} (h : q ≠ a) : ku κ a k q = κ q := if_neg h
/-- what is known stays -/
def KX (κ κ' : KM) : Prop := ∀ a, (κ a).1 ≠ 0 → κ' a = κ a
/-- codes and owners stay -/
def KF (κ κ' : KM) : Prop := ∀ a, (κ a).1 ≠ 0 → (κ' a).1 = (κ a).1 ∧ (κ' a).2.1 = (κ a).2.1
theorem KX.f {κ κ' : KM} (h : KX κ κ') : KF κ κ' := fun a ha => by rw [h a ha]; exact ⟨rfl, rfl⟩
theorem KX.rf {κ : KM} : KX κ κ := fun _ _ => rfl
theorem KF.rf {κ : KM} : KF κ κ := fun _ _ => ⟨rfl, rfl⟩
theorem KX.tr {κ κ1 κ2 : KM} (h : KX κ κ1) (g : KX κ1 κ2) : KX κ κ2 := fun a ha => (g a (by rw [h a ha]; exact ha)).trans (h a ha)
theorem KF.tr {κ κ1 κ2 : KM} (h : KF κ κ1) (g : KF κ1 κ2) : KF κ κ2 := fun a ha => by
  obtain ⟨e1, e2⟩ := h a ha
  obtain ⟨e3, e4⟩ := g a (by rw [e1]; exact ha)
  exact ⟨e3.trans e1, e4.trans e2⟩
theorem KX.ku {κ : KM} {a : Nat} {k : Nat × Nat × Nat × Nat} (h : (κ a).1 = 0) : KX κ (ku κ a k) := fun q hq => ku_n (fun e => hq (by rw [e]; exact h))
theorem KF.kp {κ : KM} {a x y : Nat} : KF κ (kp κ a x y) := fun _ _ => ⟨kp_1, kp_2⟩
theorem KF.t2 {κ κ' : KM} (h : KF κ κ') {a c o : Nat} (g : T2 κ a c o) (hc : c ≠ 0) : T2 κ' a c o := by
  obtain ⟨e1, e2⟩ := h a (by rw [g.1]; exact hc)
  exact ⟨e1.trans g.1, e2.trans g.2⟩
theorem KX.n {κ κ' : KM} (h : KX κ κ') {a c o : Nat} (g : T2 κ a c o) (hc : c ≠ 0) : κ' a = κ a := h a (by rw [g.1]; exact hc)
theorem Fr.kf {B0 : Nat} {S : List Nat} {κ κ' : KM} {H H1 : Heap} (h : Fr B0 S κ' H H1) (hk : KF κ κ') : Fr B0 S κ H H1 := ⟨h.1, fun q hq hc => h.2 q hq (hc.elim Or.inl fun g => Or.inr (by
  obtain ⟨e1, e2⟩ := hk q g.1
  exact ⟨by rw [e1]; exact g.1, by rw [e2]; exact g.2⟩))⟩
/-- kinds under a change that renames owner 11 alone and leaves the numbers of rows and data -/
def KG (φ : Nat → Nat) (κ κ' : KM) : Prop := (∀ o, o ≠ 11 → φ o = o) ∧ ∀ a, (κ a).1 ≠ 0 → (κ' a).1 = (κ a).1 ∧ (κ' a).2.1 = φ (κ a).2.1 ∧ ((κ a).1 = 14 ∨ (κ a).1 = 25 → (κ' a).2.2.1 = (κ a).2.2.1)
theorem KX.g {κ κ' : KM} (h : KX κ κ') : KG id κ κ' := ⟨fun _ _ => rfl, fun a ha => by rw [h a ha]; exact ⟨rfl, rfl, fun _ => rfl⟩⟩
theorem okE_kg {cs : Nat → ClassId} {T : Nat} {φ : Nat → Nat} {κ κ' : KM} (hg : KG φ κ κ') {k : Nat × Nat × Nat × Nat} {e : va_E} (h : okE cs T κ k e) : okE cs T κ' (k.1, φ k.2.1, k.2.2) e := by
  obtain ⟨hφ, hg⟩ := hg
  have t2 : ∀ {a c o : Nat}, T2 κ a c o → c ≠ 0 → T2 κ' a c (φ o) := fun {a c o} g hc => by
    obtain ⟨e1, e2, -⟩ := hg a (by rw [g.1]; exact hc)
    exact ⟨e1.trans g.1, by rw [e2, g.2]⟩
  have t3 : ∀ {a c o : Nat}, T2 κ a c o → c ≠ 0 → o ≠ 11 → T2 κ' a c o := fun {a c o} g hc ho => by
    have := t2 g hc
    rw [hφ o ho] at this
    exact this
  obtain ⟨c, o, p, q⟩ := k
  unfold okE at h ⊢
  dsimp only at h ⊢
  split at h
  case h_1 =>
    obtain ⟨co, st, rfl, g1, g2⟩ := h
    exact ⟨co, st, rfl, t3 g1 (by decide) (by decide), t3 g2 (by decide) (by decide)⟩
  case h_3 =>
    obtain ⟨ra, ca, t, rfl, g1, g2⟩ := h
    exact ⟨ra, ca, t, rfl, t2 g1 (by decide), t2 g2 (by decide)⟩
  case h_6 =>
    obtain ⟨tx, len, pos, kind, st, va, ta, tk, co, cc, su, ec, es, rfl, g1, g2, g3, g4, g5, g6, g7, g8, g9⟩ := h
    exact ⟨tx, len, pos, kind, st, va, ta, tk, co, cc, su, ec, es, rfl, g1, g2, g3, g4, g5, t3 g6 (by decide) (by decide), t3 g7 (by decide) (by decide), g8.imp id (fun ⟨a, e, g⟩ => ⟨a, e, by rw [(hg a (by rw [g]; decide)).1]; exact g⟩), g9⟩
  case h_7 =>
    obtain ⟨pl, ne, pa, mg, ct, of, dr, dl, rfl, g1, g2, g3, g4, g5, g6, g7⟩ := h
    exact ⟨pl, ne, pa, mg, ct, of, dr, dl, rfl, g1, g2.imp id (fun ⟨a, e, g⟩ => ⟨a, e, t3 g (by decide) (by decide)⟩), g3, t2 g4 (by decide), t2 g5 (by decide), t2 g6 (by decide), t2 g7 (by decide)⟩
  case h_8 =>
    obtain ⟨su, pa, ml, pr, li, lo, cu, tm, c8, c9, c10, c11, c12, c13, c14, c15, rfl, g1, g2, g3, g4, g5, g6, g7, g8, g9, g10⟩ := h
    have ho : φ o = o := hφ o (by dsimp only at g9; omega)
    have ho2 : o + 20 ≠ 11 := by omega
    rw [ho]
    dsimp only at g9
    exact ⟨su, pa, ml, pr, li, lo, cu, tm, c8, c9, c10, c11, c12, c13, c14, c15, rfl, t3 g1 (by decide) (by decide), g2, t3 g3 (by decide) (by show o ≠ 11; omega), t3 g4 (by decide) ho2, t3 g5 (by decide) (by show o ≠ 11; omega), t3 g6 (by decide) (by show o + 40 ≠ 11; omega), t3 g7 (by decide) (by show o ≠ 11; omega), g8, g9, g10⟩
  case h_9 =>
    obtain ⟨rd, nw, tr, pa, a, b, c, rfl, g1, g2, g3, g4, g5⟩ := h
    exact ⟨rd, nw, tr, pa, a, b, c, rfl, t3 g1 (by decide) (by decide), t3 g2 (by decide) (by decide), t3 g3 (by decide) (by decide), t3 g4 (by decide) (by decide), g5⟩
  case h_10 =>
    obtain ⟨th, bu, tl, pos, er, ea, eo, sd, dr, hi, ud, ns, ne, se, td, sk, rfl, g1, g2, g3, g4, g5, g6, g7, g8, g9, g10, g11⟩ := h
    exact ⟨th, bu, tl, pos, er, ea, eo, sd, dr, hi, ud, ns, ne, se, td, sk, rfl, g1, g2, g3, g4, t3 g5 (by decide) (by decide), t3 g6 (by decide) (by decide), t3 g7 (by decide) (by decide), by rw [(hg sd (by rw [g7.1]; decide)).2.2 (Or.inr g7.1)]; exact g8, t3 g9 (by decide) (by decide), t3 g10 (by decide) (by decide), t3 g11 (by decide) (by decide)⟩
  case h_11 =>
    obtain ⟨f, rfl, hf⟩ := h
    refine ⟨f, rfl, fun j hj => ?_⟩
    obtain ⟨b, h1, h2⟩ := hf j hj
    exact ⟨b, h1, t2 h2 (by decide)⟩
  case h_12 =>
    obtain ⟨f, rfl, hf⟩ := h
    refine ⟨f, rfl, fun j hj => ?_⟩
    obtain ⟨b, h1, h2, h3⟩ := hf j hj
    exact ⟨b, h1, t3 h2 (by decide) (by omega), h3⟩
  case h_13 =>
    obtain ⟨f, rfl, hf⟩ := h
    refine ⟨f, rfl, fun j hj => ?_⟩
    obtain ⟨b, h1, h2, h3⟩ := hf j hj
    exact ⟨b, h1, t2 h2 (by decide), by rw [(hg b (by rw [h2.1]; decide)).2.2 (Or.inl h2.1)]; exact h3⟩
  case h_27 =>
    obtain ⟨f, rfl, hf⟩ := h
    refine ⟨f, rfl, fun j hj => ?_⟩
    obtain ⟨b, h1, h2, h3⟩ := hf j hj
    exact ⟨b, h1, t3 h2 (by decide) (by decide), by rw [(hg b (by rw [h2.1]; decide)).2.2 (Or.inr h2.1)]; exact h3⟩
  all_goals exact h
theorem WT.fresh {B0 : Nat} {D : va_G} {cs : Nat → ClassId} {T : Nat} {κ : KM} {H : Heap} {q : Nat} (hT : WT B0 D cs T κ H) (h : H.size ≤ q) : (κ q).1 = 0 := by
  by_cases h0 : (κ q).1 = 0
  · exact h0
  · obtain ⟨-, e, hat, -⟩ := hT q h0
    exact absurd hat.lt (by show ¬ q < _; omega)
theorem WT.b0 {B0 : Nat} {D : va_G} {cs : Nat → ClassId} {T : Nat} {κ : KM} {H : Heap} {a c o : Nat} (hT : WT B0 D cs T κ H) (h : T2 κ a c o) (hc : c ≠ 0) : B0 ≤ H.size := by
  obtain ⟨hb, e, hat, -⟩ := hT a (by rw [h.1]; exact hc)
  have := hat.lt
  exact Nat.le_trans hb (Nat.le_of_lt this)
theorem WT.lt {B0 : Nat} {D : va_G} {cs : Nat → ClassId} {T : Nat} {κ : KM} {H : Heap} {a c o : Nat} (hT : WT B0 D cs T κ H) (h : T2 κ a c o) (hc : c ≠ 0) : a < H.size := by
  obtain ⟨hb, e, hat, -⟩ := hT a (by rw [h.1]; exact hc)
  exact hat.lt
/-- closing: the kinds grow by cells of ms -/
theorem WT.closeN {B0 : Nat} {D : va_G} {cs : Nat → ClassId} {T : Nat} {κ κ' : KM} {Hb H : Heap} {ws : va_W} {ms : List Nat} {locs : List Loc} (hT : WT B0 D cs T κ Hb) (h : Bx B0 D Hb ws ms H locs) (hx : KX κ κ') (hn : ∀ a, a ∉ ms → κ' a = κ a) (hok : okM cs T κ' ws ms) : WT B0 D cs T κ' H := by
  intro a ha
  by_cases hm : a ∈ ms
  · obtain ⟨k, e', hk, ho⟩ := hok.at a hm
    exact ⟨h.2.2.2.2.1 a hm, e', h.1 k _ hk, ho⟩
  · rw [hn a hm] at ha ⊢
    obtain ⟨h0, e, hat, hoe⟩ := hT a ha
    exact ⟨h0, e, hat.kept (h.2.2.2.1 a hat.lt hm), okE_kg hx.g hoe⟩
theorem Fr.closeN {B0 : Nat} {D : va_G} {S : List Nat} {κ : KM} {H0 Hb H : Heap} {ws : va_W} {ms : List Nat} {locs : List Loc} (hF : Fr B0 S κ H0 Hb) (h : Bx B0 D Hb ws ms H locs) (hs : ∀ a ∈ ms, (κ a).1 ≠ 0 → (κ a).2.1 ∈ S) : Fr B0 S κ H0 H := by
  refine ⟨Nat.le_trans hF.1 h.2.2.1, fun q hq hc => ?_⟩
  refine (h.2.2.2.1 q (Nat.lt_of_lt_of_le hq hF.1) (fun hm => ?_)).trans (hF.2 q hq hc)
  rcases hc with h1 | h1
  · exact absurd (h.2.2.2.2.1 q hm) (by omega)
  · exact h1.2 (hs q hm h1.1)
/-- the setup under reading is finished: owner 11 becomes 15 -/
def ro (κ : KM) : KM := fun q => ((κ q).1, (if (κ q).2.1 = 11 then 15 else (κ q).2.1), (κ q).2.2)
theorem WT.re {B0 : Nat} {D : va_G} {cs : Nat → ClassId} {T : Nat} {κ : KM} {H : Heap} (hT : WT B0 D cs T κ H) : WT B0 D cs T (ro κ) H := fun a ha => by
  obtain ⟨h0, e, hat, hoe⟩ := hT a ha
  have h9 := okE_kg (κ := κ) (κ' := ro κ) (φ := fun o => if o = 11 then 15 else o) ⟨fun o ho => if_neg ho, fun a _ => ⟨rfl, rfl, fun _ => rfl⟩⟩ hoe
  exact ⟨h0, e, hat, h9⟩
theorem ro_n {κ : KM} {a : Nat} (h : (κ a).2.1 ≠ 11) : ro κ a = κ a := by unfold ro; rw [if_neg h]
theorem ro_t {κ : KM} {a c : Nat} (h : T2 κ a c 11) : T2 (ro κ) a c 15 := ⟨h.1, by unfold ro; exact if_pos h.2⟩
/-! growth -/
theorem Gr.rf {H : Heap} : Gr H H 0 0 := by
  refine ⟨Nat.le_refl _, Nat.le_refl _, ?_, fun a c h => ⟨c, h, rfl⟩⟩
  unfold nSl
  rw [List.drop_eq_nil_of_le (by simp)]
  exact Nat.le_refl _
theorem Gr.mono {H H1 : Heap} {k n k' n' : Nat} (h : Gr H H1 k n) (hk : k ≤ k') (hn : n ≤ n') : Gr H H1 k' n' := ⟨h.1, Nat.le_trans h.2.1 (Nat.add_le_add_left hk _), Nat.le_trans h.2.2.1 hn, h.2.2.2⟩
theorem Gr.tr {H0 H1 H2 : Heap} {k n k' n' : Nat} (h : Gr H0 H1 k n) (g : Gr H1 H2 k' n') : Gr H0 H2 (k + k') (n + n') := by
  refine ⟨Nat.le_trans h.1 g.1, by have := h.2.1; have := g.2.1; omega, ?_, fun a c hc => ?_⟩
  · have e : (H2.toList.take H1.size).map (·.slots.size) = H1.toList.map (·.slots.size) := by
      apply List.ext_getElem?
      intro i
      rw [List.getElem?_map, List.getElem?_map, List.getElem?_take]
      by_cases hi : i < H1.size
      · rw [if_pos hi]
        have h1 : H1[i]? = some H1[i] := Array.getElem?_eq_getElem hi
        obtain ⟨c', e1, e2⟩ := g.2.2.2 i _ h1
        rw [Array.getElem?_toList, Array.getElem?_toList, h1, e1]
        exact congrArg some e2
      · rw [if_neg hi, List.getElem?_eq_none (by simp; omega)]
        try rfl
    have e2 : H2.toList.drop H0.size = (H2.toList.take H1.size).drop H0.size ++ H2.toList.drop H1.size := by
      conv => lhs; rw [← List.take_append_drop H1.size H2.toList]
      rw [List.drop_append, List.drop_drop]
      have hl : (H2.toList.take H1.size).length = H1.size := by rw [List.length_take]; have := g.1; simp; omega
      rw [hl, show H0.size - H1.size = 0 by have := h.1; omega]
      simp
    have h3 := h.2.2.1
    have g3 := g.2.2.1
    unfold nSl at h3 g3 ⊢
    rw [e2, List.map_append, List.sum_append, List.map_drop, e, ← List.map_drop]
    omega
  · obtain ⟨c1, e1, e2⟩ := h.2.2.2 a c hc
    obtain ⟨c2, e3, e4⟩ := g.2.2.2 a c1 e1
    exact ⟨c2, e3, e4.trans e2⟩
/-! rows -/
theorem Bx.nw {B0 : Nat} {D : va_G} {Hb H H1 : Heap} {ws : va_W} {ms : List Nat} {locs : List Loc} {q : Nat} {e : va_E} (hB : Bx B0 D Hb ws ms H locs) (hq : q = H.size) (hz : H1.size = q + 1) (ho : ∀ x, x < q → H1[x]? = H[x]?) (hat : va_at D vwCl (q, e) H1) (hb : B0 ≤ Hb.size) : Bx B0 D Hb (ws ++ [(q, e)]) ms H1 locs := by
  have hlt : ∀ (k : Nat) (x : Nat × va_E), ws[k]? = some x → x.1 < q := fun k x hx => by rw [hq]; exact (hB.1 k x hx).lt
  refine ⟨fun k x hk => ?_, ?_, by have := hB.2.2.1; omega, fun x hx hn => (ho x (by have := hB.2.2.1; omega)).trans (hB.2.2.2.1 x hx hn), hB.2.2.2.2.1, hB.2.2.2.2.2⟩
  · by_cases hl : k < ws.length
    · rw [List.getElem?_append_left hl] at hk
      exact (hB.1 k x hk).kept (ho x.1 (hlt k x hk))
    · rw [List.getElem?_append_right (by omega)] at hk
      have hz : k - ws.length < 1 := (List.getElem?_eq_some_iff.mp hk).1
      rw [show k - ws.length = 0 by omega] at hk
      cases hk
      exact hat
  · refine ⟨fun i j x y hi hj hxy => ?_, fun k x hk => ?_⟩
    · by_cases h1 : i < ws.length
      · rw [List.getElem?_append_left h1] at hi
        by_cases h2 : j < ws.length
        · rw [List.getElem?_append_left h2] at hj
          exact hB.2.1.1 i j x y hi hj hxy
        · rw [List.getElem?_append_right (by omega)] at hj
          have hz : j - ws.length < 1 := (List.getElem?_eq_some_iff.mp hj).1
          rw [show j - ws.length = 0 by omega] at hj
          cases hj
          exact absurd hxy (by have := hlt i x hi; show x.1 ≠ q; omega)
      · rw [List.getElem?_append_right (by omega)] at hi
        have hz : i - ws.length < 1 := (List.getElem?_eq_some_iff.mp hi).1
        rw [show i - ws.length = 0 by omega] at hi
        cases hi
        by_cases h2 : j < ws.length
        · rw [List.getElem?_append_left h2] at hj
          exact absurd hxy (by have := hlt j y hj; show q ≠ y.1; omega)
        · have hz2 : j - ws.length < 1 := by
            rw [List.getElem?_append_right (by omega)] at hj
            exact (List.getElem?_eq_some_iff.mp hj).1
          omega
    · by_cases hl : k < ws.length
      · rw [List.getElem?_append_left hl] at hk
        exact hB.2.1.2 k x hk
      · rw [List.getElem?_append_right (by omega)] at hk
        have hz : k - ws.length < 1 := (List.getElem?_eq_some_iff.mp hk).1
        rw [show k - ws.length = 0 by omega] at hk
        cases hk
        show B0 ≤ q
        have := hB.2.2.1
        omega
theorem Bx.nwm {B0 : Nat} {D : va_G} {Hb H H1 : Heap} {ws : va_W} {ms : List Nat} {locs : List Loc} {q : Nat} {e : va_E} (hB : Bx B0 D Hb ws ms H locs) (hq : q = H.size) (hz : H1.size = q + 1) (ho : ∀ x, x < q → H1[x]? = H[x]?) (hat : va_at D vwCl (q, e) H1) (hb : B0 ≤ Hb.size) : Bx B0 D Hb (ws ++ [(q, e)]) (q :: ms) H1 locs :=
  (hB.nw hq hz ho hat hb).ms (fun _ h => List.mem_cons_of_mem _ h) (fun x hx => by
    rcases List.mem_cons.mp hx with rfl | h
    · have := hB.2.2.1
      omega
    · exact hB.2.2.2.2.1 x h)
/-- what an opened world says of a new address -/
theorem nw_ne {D : va_G} {cl : List vw_C} {x q : Nat} {e : va_E} {H : Heap} (h : va_at D cl (x, e) H) (hq : H.size ≤ q) : q ≠ x := by
  have := h.lt
  show q ≠ x
  have h2 : x < H.size := this
  omega
section NWR
variable {p : Program} {l : Launch} {e : Env} {R : Room} {s : State} {m : MethodId} {args : Array Value} {below : List Frame} {meth : Method} {c : Code} {H : Heap} {locs : List Loc} {cells slots : Nat} {Q : State → Prop}
variable {cc : ByteArray} {pc : Nat} {ls : Array Slot} {rest : List Value} {D : va_G} {cs : Nat → ClassId}
theorem nw_a {atype : ArrayType} {ty : FieldType} (k : Nat) (hN : NK D cs s) (hk : (TY cs)[k]? = some (cs k, ty)) (hexec : p.tables.exec = Jvm.exec) (hb : c.code = cc) (harr : (Cond.arrayClass (newarray.typeOf atype)).before args s = true) (hty : newarray.typeOf atype = ty)
    {n : Int32} {N' : Nat} {a0 : vp_A} (ha : ∀ cA : ClassId, vp_cell cA a0 = arrV cA N' (fun _ => defaultValue ty)) (hn : ¬ n < 0) (hN' : n.toNatClampNeg = N') (hbytes : N' * componentBytes ty ≤ 536870912) (hcells : cells + 1 ≤ R.cells) (hslots : slots + N' ≤ R.slots) (hdg : decode cc pc = .ok (.newarray atype, 2))
    (kk : ∀ (q : Nat) (H1 : Heap), q = H.size → H1.size = q + 1 → (∀ x, x < q → H1[x]? = H[x]?) → va_at D vwCl (q, .inl (cs k, a0)) H1 →
      W p l e R s m args below meth c H1 locs (cells + 1) (slots + N') Q (F0 m (pc + 2) ls (.ref q :: rest))) : W p l e R s m args below meth c H locs cells slots Q (F0 m pc ls (.int n :: rest)) := by
  subst hty
  refine va_newaK hexec hb harr rfl hdg rfl hn hN' hbytes hcells hslots rfl fun H1 cA e1 z1 o1 hAr hNm => ?_
  have hc : cA = cs k := ra_one (U := s) (ty := newarray.typeOf atype) (by cases atype <;> exact hNm) (hN.1.2 k _ hk).2
  subst hc
  refine kk H.size H1 rfl z1 o1 ?_
  show H1[H.size]? = some (vp_cell _ _)
  rw [ha]
  exact e1
theorem nw_o {own C : String} {T : u_T} {N ci index : Nat} {Ts : List Cond} (hexec : p.tables.exec = Jvm.exec) (hb : c.code = cc) (hts : ∀ w ∈ Ts, w.before args s = true) (hin : ∀ w ∈ u_ws C T N, w ∈ Ts) (ty : Nat → FieldType) (hty : ∀ k, k < N → parseFieldDescriptor (T k).2.2.1 = some (ty k)) (hown : s.vm.findClass own = some m.cls) (hcl : (Cond.classLink own index C).before args s = true) (hinst : (Cond.instantiable C N).before args s = true) (hini : (Cond.initialized C).before args s = true)
    (hN : NK D cs s) (hc : vwCl[ci]? = some (C, T, N)) {fs : List Value} (hfs : ∀ j, j < N → defaultValue (ty j) = vp_V fs j) (hcells : cells + 1 ≤ R.cells) (hslots : slots + N ≤ R.slots) (hdg : decode cc pc = .ok (.new index, 3))
    (kk : ∀ (q : Nat) (H1 : Heap), q = H.size → H1.size = q + 1 → (∀ x, x < q → H1[x]? = H[x]?) → va_at D vwCl (q, .inr (ci, fs)) H1 →
      W p l e R s m args below meth c H1 locs (cells + 1) (slots + N) Q (F0 m (pc + 3) ls (.ref q :: rest))) : W p l e R s m args below meth c H locs cells slots Q (F0 m pc ls rest) := by
  have hKn := hN.1.1 ci _ hc
  refine W.newcK hexec hb hown hcl hinst hini rfl hdg hcells hslots hKn.2.1 rfl fun H1 kC hkC e1 z1 o1 => ?_
  exact kk H.size H1 rfl z1 o1 ⟨_, hc, (u_born ty hts hin hKn hkC e1 hty).to hfs⟩
end NWR
theorem Bx.setL {B0 : Nat} {D : va_G} {Hb : Heap} {ws : va_W} {ms ms' : List Nat} {H H1 : Heap} {locs L : List Loc} (h : Bx B0 D Hb ws ms H locs) {q0 a : Nat} {e0 e : va_E} (he : ws[q0]? = some (a, e0)) (hz : H1.size = H.size) (oq : ∀ q, q ≠ a → H1[q]? = H[q]?) (hat : va_at D vwCl (a, e) H1) (hL : ∀ x ∈ L, x.base = a) (hm : ms' = a :: ms ∨ (ms' = ms ∧ a ∈ ms)) : Bx B0 D Hb (ws.set q0 (a, e)) ms' H1 (locs ++ L) := by
  have h1 := h.set (k := 0) he hz oq hat hm
  have ha : B0 ≤ a := h.2.1.2 q0 _ he
  exact ⟨h1.1, h1.2.1, h1.2.2.1, h1.2.2.2.1, h1.2.2.2.2.1, h.2.2.2.2.2.app (fun x hx => by rw [hL x hx]; exact ha)⟩
section CPR
variable {p : Program} {l : Launch} {e : Env} {R : Room} {s : State} {m : MethodId} {args : Array Value} {below : List Frame} {meth : Method} {c : Code} {H : Heap} {locs : List Loc} {cells slots : Nat} {Q : State → Prop}
variable {cc : ByteArray} {pc : Nat} {ls : Array Slot} {rest : List Value} {D : va_G} {cs : Nat → ClassId} {B0 : Nat} {Hb : Heap} {ws : va_W} {ms ms' : List Nat} {a : Nat}
theorem b_cpy (hexec : p.tables.exec = Jvm.exec) (hb : c.code = cc) (hml : c.maxLocals = ls.size) {own : String} {index : Nat} (hown : s.vm.findClass own = some m.cls) (hlink : (Cond.methodLink own index arraycopyName).before args s = true) (hnat : (Cond.native arraycopyName).before args s = true) (hstat : (Cond.static arraycopyName).before args s = true) (hini : (Cond.initialized "java/lang/System").before args s = true)
    (hN : NK D cs s) (hB : Bx B0 D Hb ws ms H locs) (q0 q1 : Nat) {a0 n0 n1 : Nat} {f g : Nat → Int32} (ha0 : ws[q0]? = some (a0, .inl (cs 0, n0, .inl f))) (ha1 : ws[q1]? = some (a, .inl (cs 0, n1, .inl g)))
    {sp dp n : Int32} (h1 : ¬ sp < 0) (h2 : ¬ dp < 0) (h3 : ¬ n < 0) (h4 : sp.toNatClampNeg + n.toNatClampNeg ≤ n0) (h5 : dp.toNatClampNeg + n.toNatClampNeg ≤ n1) (hm : ms' = a :: ms ∨ (ms' = ms ∧ a ∈ ms))
    (hframes : 1 ≤ R.frames) (hlocals : (rest.map fun v => v.category).sum + (nativeFrameWords "java/lang/System" "arraycopy" 5 + 11) ≤ R.locals) (hdg : decode cc pc = .ok (.invokestatic index, 3))
    (kk : ∀ (H1 : Heap) (locs1 : List Loc), Bx B0 D Hb (ws.set q1 (a, .inl (cs 0, n1, .inl (va_cpy f g sp.toNatClampNeg dp.toNatClampNeg n.toNatClampNeg)))) ms' H1 locs1 → W p l e R s m args below meth c H1 locs1 cells slots Q (F0 m (pc + 3) ls rest)) : W p l e R s m args below meth c H locs cells slots Q (F0 m pc ls (.int n :: .int dp :: .ref a :: .int sp :: .ref a0 :: rest)) := by
  have nn : ∀ z : Int32, ¬ z < 0 → z.toInt = (z.toNatClampNeg : Int) := by
    intro z hz
    have hz0 : (0 : Int) ≤ z.toInt := by
      have := Int32.not_lt.mp hz
      simpa using Int32.le_iff_toInt_le.mp this
    show z.toInt = ((z.toInt.toNat : Nat) : Int)
    omega
  intro T hT X
  have hc0 : H[a0]? = some (vp_cell (cs 0) (n0, .inl f)) := hB.1 q0 _ ha0
  have hc1 : H[a]? = some (vp_cell (cs 0) (n1, .inl g)) := hB.1 q1 _ ha1
  have ht : (TY cs)[0]? = some (cs 0, .int) := rfl
  obtain ⟨-, k0, hk0, cm0, hkk0⟩ := (hN.1.2 0 _ ht).1 n0 (fun j => .int (f j))
  obtain ⟨-, k1, hk1, cm1, hkk1⟩ := (hN.1.2 0 _ ht).1 n1 (fun j => .int (g j))
  obtain ⟨vm', X', step⟩ := X.arraycopy hexec hown hlink hnat hstat hini (src := a0) (dst := a) (cs := vp_cell (cs 0) (n0, .inl f)) (cd := vp_cell (cs 0) (n1, .inl g)) (srcPos := sp) (destPos := dp) (n := n) (by rw [hT]; exact hc0) (by rw [hT]; exact hc1)
    (fun _ h => by cases h) (fun _ h => by cases h) (fun h => by cases h) (fun h => by cases h) hk0 hk1 hkk0 hkk1 (by simp [show refKind FieldType.int = false from rfl]) h1 h2 h3
    (by rw [nn sp h1, nn n h3]; show ¬ _ > ((arrV (cs 0) n0 (fun j => .int (f j))).slots.size : Int); rw [arrV_size]; omega)
    (by rw [nn dp h2, nn n h3]; show ¬ _ > ((arrV (cs 0) n1 (fun j => .int (g j))).slots.size : Int); rw [arrV_size]; omega)
    (fun vm₁ _ i hi => by
      have e : (vp_cell (cs 0) (n0, .inl f)).slots.getD (sp.toNatClampNeg + i) .null = .int (f (sp.toNatClampNeg + i)) := by
        show (arrV (cs 0) n0 (fun j => .int (f j))).slots.getD _ _ = _
        rw [Array.getD_eq_getD_getElem?, arrV_read _ _ (by omega)]
        rfl
      refine ⟨?_, ?_⟩
      · rw [e]
        exact rfl
      · rw [e]
        exact trivial)
    (g := F0 m pc ls (.int n :: .int dp :: .ref a :: .int sp :: .ref a0 :: rest)) rfl (by rw [hml]) (rest := rest) rfl (by rw [hb]; exact hdg) hframes (by show 2 * 0 + _ + _ ≤ _; omega)
  have e1 : copied (vp_cell (cs 0) (n0, .inl f)) (vp_cell (cs 0) (n1, .inl g)) sp dp n = vp_cell (cs 0) (n1, .inl (va_cpy f g sp.toNatClampNeg dp.toNatClampNeg n.toNatClampNeg)) := va_copied (fun z => .int z) (cs 0) (cs 0) f g h4
  rw [e1] at X' step
  have hl : a < H.size := (Array.getElem?_eq_some_iff.mp hc1).1
  generalize hG : va_cpy f g sp.toNatClampNeg dp.toNatClampNeg n.toNatClampNeg = G at X' step kk
  have hheap : ((T.setVm vm').setCell a (vp_cell (cs 0) (n1, .inl G))).heap = H.setIfInBounds a (vp_cell (cs 0) (n1, .inl G)) := by rw [← hT]; rfl
  have oq : ∀ q : Nat, q ≠ a → (H.setIfInBounds a (vp_cell (cs 0) (n1, .inl G)))[q]? = H[q]? := fun q hq => by simp [Array.getElem?_setIfInBounds, Ne.symm hq]
  obtain ⟨t, a1, b1⟩ := kk _ _ (hB.setL ha1 (by simp) oq (show (H.setIfInBounds a _)[a]? = some _ by simp [Array.getElem?_setIfInBounds, hl]) (fun x hx => by
      obtain ⟨z, -, hz⟩ := List.mem_map.mp hx
      rw [← hz]) hm) _ hheap X'
  exact ⟨t, step t a1, b1⟩
/-- a clone of a row of ints -/
theorem nw_cl (hexec : p.tables.exec = Jvm.exec) (hb : c.code = cc) (hml : c.maxLocals = ls.size) {own : String} {index : Nat} (hown : s.vm.findClass own = some m.cls)
    (hlink : (Cond.methodLink own index ⟨"[I", "clone", "()Ljava/lang/Object;"⟩).before args s = true) (hsame : (Cond.sameMethod "[I" "java/lang/Object" "clone" "()Ljava/lang/Object;").before args s = true)
    (hnat : (Cond.native ⟨"java/lang/Object", "clone", "()Ljava/lang/Object;"⟩).before args s = true) (hinst : (Cond.instanceMethod ⟨"java/lang/Object", "clone", "()Ljava/lang/Object;"⟩).before args s = true)
    (hsel : (Cond.selects "[I" ⟨"[I", "clone", "()Ljava/lang/Object;"⟩ ⟨"java/lang/Object", "clone", "()Ljava/lang/Object;"⟩).before args s = true)
    (hN : NK D cs s) {n : Nat} {f : Nat → Int32} (hat : va_at D vwCl (a, .inl (cs 0, n, .inl f)) H)
    (hframes : 1 ≤ R.frames) (hlocals : (rest.map fun v => v.category).sum + 14 ≤ R.locals) (hcells : cells + 1 ≤ R.cells) (hslots : slots + n ≤ R.slots) (hdg : decode cc pc = .ok (.invokevirtual index, 3))
    (kk : ∀ (q : Nat) (H1 : Heap), q = H.size → H1.size = q + 1 → (∀ x, x < q → H1[x]? = H[x]?) → va_at D vwCl (q, .inl (cs 0, n, .inl f)) H1 →
      W p l e R s m args below meth c H1 locs (cells + 1) (slots + n) Q (F0 m (pc + 3) ls (.ref q :: rest))) : W p l e R s m args below meth c H locs cells slots Q (F0 m pc ls (.ref a :: rest)) := by
  have ht : (TY cs)[0]? = some (cs 0, .int) := rfl
  have hnm : s.vm.findClass "[I" = some (cs 0) := (hN.1.2 0 _ ht).2
  have hsz : (vp_cell (cs 0) (n, .inl f)).slots.size = n := arrV_size _ _ _
  obtain ⟨c0, t0', f1, f2, f3⟩ := Cond.castable_spec (va_Nw.use (A := args) rfl hN.2.2.2.2.2.2.2.2.2)
  cases hnm.symm.trans f1
  intro T hT X
  have hcellT : T.heap[a]? = some (vp_cell (cs 0) (n, .inl f)) := by rw [hT]; exact hat
  obtain ⟨-, kA, hkA, comp, hkind⟩ := State.isArrayOf_alike X.warmed.alike ((hN.1.2 0 _ ht).1 0 (fun _ => .null))
  obtain ⟨-, kS, hkS, compS, hkindS⟩ := (hN.1.2 0 _ ht).1 0 (fun _ => .null)
  obtain ⟨vm', X', st⟩ := X.cloneArray hexec hown hlink hsame hnat hinst hsel (a := a) (cell := vp_cell (cs 0) (n, .inl f)) hcellT (fun k h => by cases h) (fun h => by cases h) hnm f2 f3
    (fun i v hv => by
      have hk' : T.vm.classes[cs 0]? = some kA := hkA
      have hv' : fits .int v = true := by
        by_cases hi : i < n
        · have h9 : (vp_cell (cs 0) (n, .inl f)).slots[i]? = some (.int (f i)) := arrV_read _ _ hi
          rw [h9] at hv
          cases hv
          rfl
        · rw [Array.getElem?_eq_none (by rw [hsz]; omega)] at hv
          cases hv
      simpa [State.fitsSlot, State.slotType?, hk', hkind, show (vp_cell (cs 0) (n, .inl f)).cls = cs 0 from rfl] using hv')
    (g := F0 m pc ls (.ref a :: rest)) rfl (by rw [hml]) rfl (by rw [hb]; exact hdg) hframes (by show 2 * 0 + _ + 14 ≤ _; omega) hcells (by rw [hsz]; exact hslots) (hloader := Vm.clonesLoader_of_array hkS hkindS)
  have hcellE : ({ cls := (vp_cell (cs 0) (n, .inl f)).cls, slots := (vp_cell (cs 0) (n, .inl f)).slots } : Cell) = vp_cell (cs 0) (n, .inl f) := rfl
  rw [hcellE, hsz] at X'
  generalize hH1 : H.push (vp_cell (cs 0) (n, .inl f)) = H1
  have z1 : H1.size = H.size + 1 := by rw [← hH1, Array.size_push]
  have e1 : H1[H.size]? = some (vp_cell (cs 0) (n, .inl f)) := by rw [← hH1, Array.getElem?_push_size]
  have o1 : ∀ q : Nat, q < H.size → H1[q]? = H[q]? := fun q hq => by rw [← hH1, Array.getElem?_push, if_neg (Nat.ne_of_lt hq)]
  obtain ⟨t, b1, b2⟩ := kk H.size H1 rfl z1 o1 e1 ((T.setVm vm').pushCell (vp_cell (cs 0) (n, .inl f))) (by rw [← hH1, ← hT]; rfl) X'
  refine ⟨t, st t ?_, b2⟩
  rw [hcellE, hT]
  exact b1
/-- checkcast of a row of ints to its own class -/
theorem nw_ca (hexec : p.tables.exec = Jvm.exec) (hb : c.code = cc) {own : String} {index : Nat} (hown : s.vm.findClass own = some m.cls) (hlink : (Cond.classLink own index "[I").before args s = true) (hN : NK D cs s) {n : Nat} {f : Nat → Int32} (hat : va_at D vwCl (a, .inl (cs 0, n, .inl f)) H) (hdg : decode cc pc = .ok (.checkcast index, 3))
    (k : W p l e R s m args below meth c H locs cells slots Q (F0 m (pc + 3) ls (.ref a :: rest))) : W p l e R s m args below meth c H locs cells slots Q (F0 m pc ls (.ref a :: rest)) :=
  va_castA hexec hb hown hlink (va_P.cons hat va_P.nil) 0 rfl ((hN.1.2 0 (cs 0, .int) rfl).2) hdg k
end CPR
theorem Bx.lc {B0 : Nat} {D : va_G} {Hb : Heap} {ws : va_W} {ms : List Nat} {H : Heap} {locs locs1 : List Loc} (h : Bx B0 D Hb ws ms H locs) (hL : OkL B0 locs1) : Bx B0 D Hb ws ms H locs1 := ⟨h.1, h.2.1, h.2.2.1, h.2.2.2.1, h.2.2.2.2.1, hL⟩
theorem KC.gr {l : Launch} {y : MethodName} {wy : List Cond} {fr lo mc ms : Nat} {D : va_G} {cs : Nat → ClassId} {B0 : Nat} {H0 : Heap} {av : List Value} {Qo : Option Value → Heap → Prop} (h : KC l y wy fr lo mc ms D cs B0 H0 av Qo) : KC l y wy fr lo mc ms D cs B0 H0 av (fun v H => Qo v H ∧ Gr H0 H mc ms) := by
  intro p e h1 h2 h3 s m args below h4 h5 h6 h7
  obtain ⟨n, o, a1, a2, a3, ⟨⟨v, b1, b2⟩, L, b3, b4⟩⟩ := h p e h1 h2 h3 s m args below h4 h5 h6 h7
  refine ⟨n, o, a1, a2, a3, ⟨⟨v, b1, b2, ?_⟩, L, b3, b4⟩⟩
  rw [← h6.2.1]
  have b9 := b3.2.2
  refine ⟨b9.2.1, b9.2.2.1, b9.2.2.2.2.1, fun a c hc => ?_⟩
  obtain ⟨c', g1, g2, g3, -⟩ := b9.2.2.2.2.2 a c hc
  exact ⟨c', g1, g3⟩
theorem KC.grv {l : Launch} {y : MethodName} {wy : List Cond} {fr lo mc ms : Nat} {D : va_G} {cs : Nat → ClassId} {B0 : Nat} {H0 : Heap} {av : List Value} {B : Heap → Prop} (h : KC l y wy fr lo mc ms D cs B0 H0 av (Qv B)) : KC l y wy fr lo mc ms D cs B0 H0 av (Qv fun H => Gr H0 H mc ms ∧ B H) := h.gr.wk fun _ _ ⟨⟨e, b⟩, g⟩ => ⟨e, g, b⟩
theorem KC.gri {l : Launch} {y : MethodName} {wy : List Cond} {fr lo mc ms : Nat} {D : va_G} {cs : Nat → ClassId} {B0 : Nat} {H0 : Heap} {av : List Value} {B : Int32 → Heap → Prop} (h : KC l y wy fr lo mc ms D cs B0 H0 av (Qi B)) : KC l y wy fr lo mc ms D cs B0 H0 av (Qi fun r H => Gr H0 H mc ms ∧ B r H) := h.gr.wk fun _ _ ⟨⟨r, e, b⟩, g⟩ => ⟨r, e, g, b⟩
theorem KSF {κ κ1 : KM} {q c o : Nat} (h : ∀ a, (κ a).1 ≠ 0 → a ≠ q → κ1 a = κ a) (h1 : T2 κ q c o) (h2 : T2 κ1 q c o) : KF κ κ1 := fun a ha => by
  by_cases e : a = q
  · subst e
    exact ⟨h2.1.trans h1.1.symm, h2.2.trans h1.2.symm⟩
  · rw [h a ha e]
    exact ⟨rfl, rfl⟩
theorem WT.nil {B0 : Nat} {D : va_G} {cs : Nat → ClassId} {T : Nat} {κ : KM} {H : Heap} (_ : WT B0 D cs T κ H) : va_P D vwCl [] H := va_P.nil
