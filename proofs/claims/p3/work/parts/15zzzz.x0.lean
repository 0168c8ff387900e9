theorem c_X7_tick_dr {l : Launch} {D : va_G} {cs : Nat → ClassId} {B0 T : Nat} {κ : KM} {H0 : Heap} (hT : WT B0 D cs T κ H0) {i : Nat} (hi : i < 10) {C : Nat → Nat} {LN : Nat → Nat → Nat} {e : Nat → Nat} (hR : RQ D cs κ H0 C LN e) (he : e i ≤ 24) :
    KC l yX7_tick wsX7_tick 5 156 ((56 * sumN C 16 + 22407 - 2 * sumN (LN i) 16) / 35) (56 * sumN C 16 + 22407 - 2 * sumN (LN i) 16) D cs B0 H0 [.ref (cs (440 + i))] (Qv (fun H => ∃ κ1, KU i κ κ1 ∧ WT B0 D cs T κ1 H ∧ Fr B0 [i, i + 20, i + 40] κ H0 H ∧ ∃ LN1 k n, RQ D cs κ1 H C LN1 (up9 e i (m8 (e i))) ∧ GQ H0 H LN LN1 k n)) := by
  obtain ⟨cn, rw9, dl, ht, hm, hs⟩ := hR i hi
  refine (c_X7_tick hT ht rfl rfl hm hs.el (m8_le he)).wk (fun v H hq => ?_)
  obtain ⟨e9, κ1, hu, hT1, hF, cn1, ln1, rw1, t1, k, n, hm1, hg, hs1, ht1, he1⟩ := hq
  exact ⟨e9, κ1, hu, hT1, hF, _, k, n, hR.up hT hi hF (by intro x hx; simp at hx; omega) hu (by rw [hs1, ht1]; exact hm1) (ST.of he1 m8_ne), hg.q hi⟩

theorem c_X7_runOn_dr {l : Launch} {D : va_G} {cs : Nat → ClassId} {B0 T : Nat} {κ : KM} {H0 : Heap} (hT : WT B0 D cs T κ H0) {i : Nat} (hi : i < 10) {C : Nat → Nat} {LN : Nat → Nat → Nat} {e : Nat → Nat} (hR : RQ D cs κ H0 C LN e) {x : Int32} (qx : x = 0 ∨ x = 1) (he : e i ≤ 24) :
    KC l yX7_runOn wsX7_runOn 6 178 ((56 * sumN C 16 + 22407 - 2 * sumN (LN i) 16) / 35) (56 * sumN C 16 + 22407 - 2 * sumN (LN i) 16) D cs B0 H0 [.ref (cs (440 + i)), .int x] (Qi (fun r H => ∃ κ1, KU i κ κ1 ∧ WT B0 D cs T κ1 H ∧ Fr B0 [i, i + 20, i + 40] κ H0 H ∧ ∃ LN1 k n, RQ D cs κ1 H C LN1 (up9 e i (m8 (e i))) ∧ GQ H0 H LN LN1 k n)) := by
  obtain ⟨cn, rw9, dl, ht, hm, hs⟩ := hR i hi
  refine (c_X7_runOn hT ht qx rfl rfl hm hs.el (m8_le he)).wk (fun v H hq => ?_)
  obtain ⟨r, e9, κ1, hu, hT1, hF, cn1, ln1, rw1, t1, k, n, hm1, hg, hs1, ht1, he1⟩ := hq
  exact ⟨r, e9, κ1, hu, hT1, hF, _, k, n, hR.up hT hi hF (by intro x hx; simp at hx; omega) hu (by rw [hs1, ht1]; exact hm1) (ST.of he1 m8_ne), hg.q hi⟩

theorem c_X7_startProposal_dr {l : Launch} {D : va_G} {cs : Nat → ClassId} {B0 T : Nat} {κ : KM} {H0 : Heap} (hT : WT B0 D cs T κ H0) {i : Nat} (hi : i < 10) {C : Nat → Nat} {LN : Nat → Nat → Nat} {e : Nat → Nat} (hR : RQ D cs κ H0 C LN e) {x y : Int32} (he : e i = 0) :
    KC l yX7_startProposal wsX7_startProposal 5 155 ((56 * sumN C 16 + 22407 - 2 * sumN (LN i) 16) / 35) (56 * sumN C 16 + 22407 - 2 * sumN (LN i) 16) D cs B0 H0 [.ref (cs (440 + i)), .int x, .int y] (Qv (fun H => ∃ κ1, KU i κ κ1 ∧ WT B0 D cs T κ1 H ∧ Fr B0 [i, i + 20] κ H0 H ∧ ∃ LN1 k n, RQ D cs κ1 H C LN1 (up9 e i 24) ∧ GQ H0 H LN LN1 k n)) := by
  obtain ⟨cn, rw9, dl, ht, hm, hs⟩ := hR i hi
  rw [he] at hs
  refine (c_X7_startProposal hT ht rfl rfl hm hs.z).wk (fun v H hq => ?_)
  obtain ⟨e9, κ1, hu, hT1, hF, cn1, ln1, rw1, k, n, hm1, hg, hs1, ht1, he1⟩ := hq
  exact ⟨e9, κ1, hu, hT1, hF, _, k, n, hR.up hT hi hF (by intro x hx; simp at hx; omega) hu (by rw [hs1, ht1]; exact hm1) (ST.of he1 (by decide)), hg.q hi⟩

theorem c_X7_sendAsk_dr {l : Launch} {D : va_G} {cs : Nat → ClassId} {B0 T : Nat} {κ : KM} {H0 : Heap} (hT : WT B0 D cs T κ H0) {i : Nat} (hi : i < 10) {C : Nat → Nat} {LN : Nat → Nat → Nat} {e : Nat → Nat} (hR : RQ D cs κ H0 C LN e) {x : Int32} (he : e i = 0) :
    KC l yX7_sendAsk wsX7_sendAsk 3 113 ((56 * sumN C 16 + 22407 - 2 * sumN (LN i) 16) / 35) (56 * sumN C 16 + 22407 - 2 * sumN (LN i) 16) D cs B0 H0 [.ref (cs (440 + i)), .int x] (Qi (fun r H => ∃ κ1, KU i κ κ1 ∧ WT B0 D cs T κ1 H ∧ Fr B0 [i, i + 20] κ H0 H ∧ ∃ LN1 k n, RQ D cs κ1 H C LN1 (up9 e i 10) ∧ GQ H0 H LN LN1 k n ∧ (r = 0 ∨ r = 1))) := by
  obtain ⟨cn, rw9, dl, ht, hm, hs⟩ := hR i hi
  rw [he] at hs
  refine (c_X7_sendAsk hT ht rfl rfl hm (b := 8) hs.el (by decide)).wk (fun v H hq => ?_)
  obtain ⟨r, e9, κ1, hx, hT1, hF, cn1, ln1, rw1, k, n, hm1, hg, he1, hr⟩ := hq
  exact ⟨r, e9, κ1, hx.u, hT1, hF, _, k, n, hR.up hT hi hF (by intro x hx; simp at hx; omega) hx.u (by rw [hx.n ht (by decide)]; exact hm1) (ST.of he1 (by decide)), hg.q hi, hr⟩

theorem c_X7_copyFrom_dr {l : Launch} {D : va_G} {cs : Nat → ClassId} {B0 T : Nat} {κ : KM} {H0 : Heap} (hT : WT B0 D cs T κ H0) {i : Nat} (hi : i < 10) {C : Nat → Nat} {LN : Nat → Nat → Nat} {e : Nat → Nat} (hR : RQ D cs κ H0 C LN e) {j : Nat} (hj : j < 10) (hij : ¬ j = i) (he : e j ≤ 24) :
    KC l yX7_copyFrom wsX7_copyFrom 2 84 ((56 * sumN C 16 + 22407 - 2 * sumN (LN i) 16) / 35) (56 * sumN C 16 + 22407 - 2 * sumN (LN i) 16) D cs B0 H0 [.ref (cs (440 + i)), .ref (cs (440 + j))] (Qv (fun H => ∃ κ1, KU i κ κ1 ∧ WT B0 D cs T κ1 H ∧ Fr B0 [i, i + 20] κ H0 H ∧ ∃ LN1 k n, RQ D cs κ1 H C LN1 (up9 e i (e j)) ∧ GQ H0 H LN LN1 k n)) := by
  obtain ⟨cn, rw9, dl, ht, hm, hs⟩ := hR i hi
  obtain ⟨cnj, rwj, dlj, htj, hmj, hsj⟩ := hR j hj
  refine (c_X7_copyFrom hT ht htj hij rfl rfl hmj (EE_cb (Nat.le_trans hsj.el.le9 (m8_le he))) hm.1 hm.2.2.1).wk (fun v H hq => ?_)
  obtain ⟨e9, κ1, hu, hT1, hF, ln1, rw1, k, n, hm1, hg, hs1, ht1, hp1, hrr⟩ := hq
  exact ⟨e9, κ1, hu, hT1, hF, _, k, n, hR.up hT hi hF (by intro x hx; simp at hx; omega) hu (by rw [hs1, ht1]; exact hm1) (hsj.cg (EE_congr (fun _ _ => rfl) hrr) hp1), hg.q hi⟩

theorem c_X7_begin_dr {l : Launch} {D : va_G} {cs : Nat → ClassId} {B0 T : Nat} {κ : KM} {H0 : Heap} (hT : WT B0 D cs T κ H0) {i : Nat} (hi : i < 10) {C : Nat → Nat} {LN : Nat → Nat → Nat} {e : Nat → Nat} (hR : RQ D cs κ H0 C LN e) {x : Nat} (hx7 : T2 κ x 7 15) (he : e i ≤ 24) :
    KC l yX7_begin wsX7_begin 2 43 0 0 D cs B0 H0 [.ref (cs (440 + i)), .ref x] (Qv (fun H => ∃ κ1, KU i κ κ1 ∧ WT B0 D cs T κ1 H ∧ Fr B0 [i, i + 20] κ H0 H ∧ ∃ LN1 k n, RQ D cs κ1 H C LN1 (up9 e i 0) ∧ GQ H0 H LN LN1 k n)) := by
  obtain ⟨cn, rw9, dl, ht, hm, hs⟩ := hR i hi
  obtain ⟨dlx, hDl⟩ := hT.dly hx7
  refine ((c_X7_begin hT ht hx7 hDl hm.1 hm.2.2.1 (EE_cb (Nat.le_trans hs.el.le9 (m8_le he)))).grv).wk (fun v H hq => ?_)
  obtain ⟨e9, hgr, κ1, hu, hT1, hF, hm1, hs1, ht1, hp1⟩ := hq
  exact ⟨e9, κ1, hu, hT1, hF, _, 0, 0, hR.up hT hi hF (by intro x hx; simp at hx; omega) hu (by rw [hs1, ht1]; exact hm1) (ST.oz (by rw [EE_zero (fun _ _ => rfl)]; exact Nat.le_refl _)), GP.q (ln1 := LN i) ⟨hgr, Nat.le_refl _, by omega⟩ hi⟩

theorem RQ.ce {D : va_G} {cs : Nat → ClassId} {κ : KM} {H : Heap} {C : Nat → Nat} {LN : Nat → Nat → Nat} {e e1 : Nat → Nat} (h : RQ D cs κ H C LN e) (he : ∀ i, i < 10 → e i = e1 i) : RQ D cs κ H C LN e1 := fun i hi => by
  rw [← he i hi]; exact h i hi
theorem er_z {i : Nat} (h : i ≠ 1) : er i = 0 := if_neg h
theorem er_c {i j : Nat} (hi : i ≠ 1) (hj : j ≠ 1) : ∀ k, k < 10 → up9 er i (er j) k = er k := fun k _ => by
  by_cases e : k = i
  · subst e; rw [up9_r, er_z hi, er_z hj]
  · rw [up9_n e]

theorem er_2 {i k : Nat} (h : 2 ≤ i) : up9 er 0 k i = 0 := by rw [up9_n (by omega)]; exact er_z (by omega)
theorem RQ.m8 {D : va_G} {cs : Nat → ClassId} {κ : KM} {H : Heap} {C : Nat → Nat} {LN : Nat → Nat → Nat} {e : Nat → Nat} (h : RQ D cs κ H C LN e) (k : Nat) : RQ D cs κ H C LN (up9 e k (m8 (e k))) := fun i hi => by
  obtain ⟨cn, rw9, dl, ht, hm, hs⟩ := h i hi
  refine ⟨cn, rw9, dl, ht, hm, ?_⟩
  by_cases hz : i = k
  · subst hz; rw [up9_r]; exact ST.of hs.el m8_ne
  · rw [up9_n hz]; exact hs
theorem up_8 : ∀ i, i < 10 → up9 (up9 er 0 8) 0 (m8 (up9 er 0 8 0)) i = up9 er 0 8 i := fun i _ => by
  by_cases e : i = 0
  · subst e; rfl
  · rw [up9_n e]
theorem sf_e : ∀ i, i < 10 → up9 (up9 (up9 er 1 (er 0)) 1 24) 1 (m8 (up9 (up9 er 1 (er 0)) 1 24 1)) i = er i := fun i _ => by
  by_cases e : i = 1
  · subst e; rfl
  · rw [up9_n e, up9_n e, up9_n e]
theorem fo_z : ∀ i, 2 ≤ i → i < 10 → up9 (up9 er 1 (er 0)) 1 (m8 (up9 er 1 (er 0) 1)) i = 0 := fun i h _ => by
  rw [up9_n (by omega), up9_n (by omega)]; exact er_z (by omega)

theorem tot_lt {t : Int32} {k : Nat} (hk : k < 2147483648) (h : ¬ t ≤ nI k) : k + 1 < 2147483648 := by
  rw [Int32.le_iff_toInt_le, nI_toInt hk] at h
  have := Int32.toInt_lt t
  omega
theorem RQ.kk9 {B0 : Nat} {D : va_G} {cs : Nat → ClassId} {T : Nat} {κ κ1 : KM} {H H9 : Heap} {C : Nat → Nat} {LN : Nat → Nat → Nat} {e : Nat → Nat} (h : RQ D cs κ H C LN e) (hT : WT B0 D cs T κ H9) (hk : ∀ a, ((κ a).1 = 8 ∨ (κ a).1 = 5) → (κ a).2.1 < 10 → κ1 a = κ a) : RQ D cs κ1 H C LN e := fun i hi => by
  obtain ⟨cn, rw9, dl, ht, hm, hs⟩ := h i hi
  obtain ⟨-, hp, -⟩ := hT.ml ht
  have e1 := hk _ (Or.inl ht.1) (by rw [ht.2]; exact hi)
  have e2 := hk _ (Or.inr hp.1) (by rw [hp.2]; exact hi)
  exact ⟨cn, rw9, dl, ⟨by rw [e1]; exact ht.1, by rw [e1]; exact ht.2⟩, by rw [e1]; exact hm, by rw [e2]; exact hs⟩
/-- kinds where the reader's numbers alone may be others -/
def RDK (rd : Nat) (κ κ' : KM) : Prop := KF κ κ' ∧ ∀ a, (κ a).1 ≠ 0 → a ≠ rd → κ' a = κ a
theorem RDK.rf {rd : Nat} {κ : KM} : RDK rd κ κ := ⟨KF.rf, fun _ _ _ => rfl⟩
theorem RDK.tr {rd : Nat} {κ κ1 κ2 : KM} (h : RDK rd κ κ1) (g : RDK rd κ1 κ2) : RDK rd κ κ2 := ⟨h.1.tr g.1, fun a ha hi => by
  have e := h.2 a ha hi
  exact (g.2 a (by rw [e]; exact ha) hi).trans e⟩
theorem RDK.kp {rd x y : Nat} {κ : KM} : RDK rd κ (kp κ rd x y) := ⟨KF.kp, fun _ _ hi => kp_n hi⟩

/-- kinds where what is of the owners 12 and on stays -/
def KZ (κ κ' : KM) : Prop := ∀ a, (κ a).1 ≠ 0 → 12 ≤ (κ a).2.1 → κ' a = κ a
theorem KZ.rf {κ : KM} : KZ κ κ := fun _ _ _ => rfl
theorem KZ.tr {κ κ1 κ2 : KM} (h : KZ κ κ1) (g : KZ κ1 κ2) : KZ κ κ2 := fun a ha hi => by
  have e := h a ha hi
  exact (g a (by rw [e]; exact ha) (by rw [e]; exact hi)).trans e
theorem KW.z {κ κ' : KM} (h : KW κ κ') : KZ κ κ' := fun a ha hi => h.2 a ha (by omega)
theorem KZ.t2 {κ κ' : KM} (h : KZ κ κ') {a c o : Nat} (g : T2 κ a c o) (hc : c ≠ 0) (ho : 12 ≤ o) : T2 κ' a c o := by
  have e := h a (by rw [g.1]; exact hc) (by rw [g.2]; exact ho)
  exact ⟨by rw [e]; exact g.1, by rw [e]; exact g.2⟩
/-- the reader's text and all finished setups are as they were -/
def BTK (D : va_G) (cs : Nat → ClassId) (κ : KM) (H0 H : Heap) : Prop := (∀ (tx : Nat) (f : Nat → Int32), BRT D cs (cs 450) H0 tx f → BRT D cs (cs 450) H tx f) ∧ ∀ a, (κ a).1 ≠ 0 → (κ a).2.1 = 15 → ∀ e, va_at D vwCl (a, e) H0 → va_at D vwCl (a, e) H
theorem BTK.rf {D : va_G} {cs : Nat → ClassId} {κ : KM} {H : Heap} : BTK D cs κ H H := ⟨fun _ _ h => h, fun _ _ _ _ h => h⟩
theorem BTK.tr {D : va_G} {cs : Nat → ClassId} {κ κ1 : KM} {H0 H1 H2 : Heap} (h : BTK D cs κ H0 H1) (hk : KZ κ κ1) (g : BTK D cs κ1 H1 H2) : BTK D cs κ H0 H2 := ⟨fun tx f k => g.1 tx f (h.1 tx f k), fun a ha h15 e k => by
  have e1 := hk a ha (by omega)
  exact g.2 a (by rw [e1]; exact ha) (by rw [e1]; exact h15) e (h.2 a ha h15 e k)⟩
theorem BRT.fr {B0 : Nat} {D : va_G} {cs : Nat → ClassId} {T : Nat} {κ : KM} {H H1 : Heap} {S : List Nat} {w tx : Nat} {f : Nat → Int32} (h : BRT D cs w H tx f) (hT : WT B0 D cs T κ H) (hw : T2 κ w 6 10) (hF : Fr B0 S κ H H1) (hS : ¬ 10 ∈ S) : BRT D cs w H1 tx f := by
  obtain ⟨hwb9, e9, hkw, tx9, len9, pos9, kd9, st9, va9, ta9, tk9, co, cc9, su9, ec9, es9, rfl, l1, l2, l3, l4, l5, htx, -, hsu9, hp29⟩ := hT.o6 hw.1
  obtain rfl : tx = tx9 := (h.tx hkw).symm
  obtain ⟨-, hkt⟩ := h
  exact ⟨⟨_, hkw.kept (hF.2 _ hkw.lt (Or.inr ⟨by rw [hw.1]; decide, by rw [hw.2]; exact hS⟩))⟩, hkt.kept (hF.2 _ hkt.lt (Or.inr ⟨by rw [htx.1]; decide, by rw [htx.2]; exact hS⟩))⟩
theorem WT.rd {B0 : Nat} {D : va_G} {cs : Nat → ClassId} {T : Nat} {κ : KM} {H : Heap} {w : Nat} (hT : WT B0 D cs T κ H) (hw : T2 κ w 9 13) : T2 κ (cs 450) 6 10 := by
  obtain ⟨-, e0, hat0, rd0, nw0, tr0, pa0, a0, b0, c0, rfl, hrd0, -, -, -, -, -, hrd9⟩ := hT.o9 hw.1
  rw [← hrd9]; exact hrd0
theorem BTK.fr {B0 : Nat} {D : va_G} {cs : Nat → ClassId} {T : Nat} {κ κ1 : KM} {H0 H H1 : Heap} {S : List Nat} (h : BTK D cs κ H0 H) (hk : KZ κ κ1) (hT : WT B0 D cs T κ1 H) (hw : T2 κ1 (cs 450) 6 10) (hF : Fr B0 S κ1 H H1) (hS : ¬ 10 ∈ S) (h15 : ¬ 15 ∈ S) : BTK D cs κ H0 H1 := ⟨fun tx f k => (h.1 tx f k).fr hT hw hF hS, fun a ha ho e k => by
  have e1 := hk a ha (by omega)
  have k1 := h.2 a ha ho e k
  exact k1.kept (hF.2 _ k1.lt (Or.inr ⟨by rw [e1]; exact ha, by rw [e1, ho]; exact h15⟩))⟩
/-- twenty bytes of five words from k on -/
def st20 (f : Nat → Int32) (k : Nat) (x y z u v : Int32) : Nat → Int32 := st4 (st4 (st4 (st4 (st4 f k x) (k + 4) y) (k + 8) z) (k + 12) u) (k + 16) v

theorem mX8_keepForUndo_1 : (.fieldLink RX8 225 "OneBeat" "newest" "I" : Cond) ∈ wsX8_keepForUndo := List.mem_of_getElem? (i := 1) (by decide +kernel)
theorem iX8_keepForUndo_8 : ∀ w ∈ wsX80, w ∈ wsX8_keepForUndo := fun w h => List.mem_of_mem_drop (List.mem_of_mem_take ((show wsX80 = (wsX8_keepForUndo.drop 73).take 7 by decide +kernel) ▸ h))
theorem mX8_keepForUndo_2 : (.fieldLink RX8 26 "OneBeat" "past" "[LOneBeat$World;" : Cond) ∈ wsX8_keepForUndo := List.mem_of_getElem? (i := 2) (by decide +kernel)
theorem mX8_keepForUndo_3 : (.fieldLink RX8 19 "OneBeat" "now" "LOneBeat$World;" : Cond) ∈ wsX8_keepForUndo := List.mem_of_getElem? (i := 3) (by decide +kernel)
theorem hdX7_copyFrom_v : yX7_copyFrom.cls = RX7 ∧ yX7_copyFrom.cls ≠ "java/lang/invoke/MethodHandle" ∧ yX7_copyFrom.cls ≠ "java/lang/invoke/VarHandle" ∧ (parseMethodDescriptor yX7_copyFrom.desc).map (fun d => d.parameters.length) = some 1 := by decide +kernel
theorem mX8_keepForUndo_4 : (.fieldLink RX8 222 "OneBeat" "undoable" "I" : Cond) ∈ wsX8_keepForUndo := List.mem_of_getElem? (i := 4) (by decide +kernel)
set_option maxHeartbeats 4000000 in
set_option maxRecDepth 100000 in
theorem c_X8_keepForUndo {l : Launch} {D : va_G} {cs : Nat → ClassId} {B0 T : Nat} {κ : KM} {H0 : Heap} (hT : WT B0 D cs T κ H0) {w : Nat} (hw : T2 κ w 9 13) {C : Nat → Nat} {LN : Nat → Nat → Nat} (hR : RQ D cs κ H0 C LN er) : KC l yX8_keepForUndo wsX8_keepForUndo 3 106 ((336 * sumN C 16 + 137000 - PotN LN) / 35) (336 * sumN C 16 + 137000 - PotN LN) D cs B0 H0 [.ref w] (Qv (fun H => ∃ κ1, KW κ κ1 ∧ WT B0 D cs T κ1 H ∧ ∃ LN1 k n, RQ D cs κ1 H C LN1 er ∧ GQ H0 H LN LN1 k n ∧ BTK D cs κ H0 H)) := by
  refine KC.of cX8_keepForUndo 1 none (by decide) rfl (Nat.le_of_ble_eq_true rfl) ?_
  intro p e s m below meth c ls hx hb hr hml hown hts hlocks hin hN hE hH0 hl
  have hown : s.vm.findClass RX8 = some m.cls := hown
  have hl : lv_has ls 1 [(0, .ref w)] := hl
  have hL : OkL B0 [] := OkL.nil
  have hGN : 35 * 0 ≤ 0 ∧ 0 + PotN LN ≤ PotN LN := ⟨Nat.le_refl _, by omega⟩
  have hs0 := hR.pot
  have hbt : BTK D cs κ H0 H0 := BTK.rf
  refine lv_aload_n hx hb dX8_keepForUndo_0 rfl (lv_at hl 0 rfl) ?_
  refine lv_aload_n hx hb dX8_keepForUndo_1 rfl (lv_at hl 0 rfl) ?_
  obtain ⟨hb3531, e3531, hat3531, hk3531⟩ := hT.o9 hw.1
  obtain ⟨f3531_0, f3531_1, f3531_2, f3531_3, f3531_4, f3531_5, f3531_6, rfl, t3531_0, t3531_1, t3531_2, t3531_3, rfl, rfl, rfl⟩ := hk3531
  have hP : va_P D vwCl [(w, .inr (8, [.ref (cs 450), .ref (cs 440), .ref (cs 441), .ref f3531_3, .int f3531_4, .int f3531_5, .int f3531_6]))] _ := va_P.cons hat3531 va_P.nil
  refine va_get (D := D) (ci := 8) (v := .int f3531_4) (C := RX8) (T := TX8) (N := 7) hx hb hts iX8_keepForUndo_8 hown hN.1 hP 0 rfl rfl 4 (by decide) (hts _ mX8_keepForUndo_1) (fun _ h9 => h9) rfl dX8_keepForUndo_2 ?_
  refine lv_iconst (v := 1) hx hb dX8_keepForUndo_5 (by decide) ?_
  refine lv_iadd hx hb dX8_keepForUndo_6 ?_
  refine gn_i (fun x3532 => ?_)
  refine lv_bipush (v := 7) hx hb dX8_keepForUndo_7 (by decide) ?_
  refine lv_iand hx hb dX8_keepForUndo_9 ?_
  have hj3533 := m7_lt x3532
  refine tp_i (nI (m7 x3532)) (and7 x3532) ?_
  have hB : Bx B0 D _ [(w, .inr (8, [.ref (cs 450), .ref (cs 440), .ref (cs 441), .ref f3531_3, .int f3531_4, .int f3531_5, .int f3531_6]))] [] _ _ := Bx.of (fun a => (κ a).1) hL hP (fa_c hb3531 fa_n) (by simp only [List.map_cons, List.map_nil, hw.1]; decide)
  refine b_put (D := D) (ci := 8) (v := .int (nI (m7 x3532))) (ty := .int) (C := RX8) (T := TX8) (N := 7) hx hb hts iX8_keepForUndo_8 tyX8 tyX8_ok nmX8 hown hN hB 0 rfl rfl 4 (by decide) (hts _ mX8_keepForUndo_1) (fun _ h9 => h9) rfl (by decide +kernel) rfl rfl (Nat.le_of_ble_eq_true rfl) (.inl rfl) dX8_keepForUndo_10 (fun H locs hB => ?_)
  have hB : Bx B0 D _ [(w, .inr (8, [.ref (cs 450), .ref (cs 440), .ref (cs 441), .ref f3531_3, .int (nI (m7 x3532)), .int f3531_5, .int f3531_6]))] [w] _ _ := hB
  refine lv_aload_n hx hb dX8_keepForUndo_13 rfl (lv_at hl 0 rfl) ?_
  refine va_get (D := D) (ci := 8) (v := .ref f3531_3) (C := RX8) (T := TX8) (N := 7) hx hb hts iX8_keepForUndo_8 hown hN.1 hB.1 0 rfl rfl 3 (by decide) (hts _ mX8_keepForUndo_2) (fun _ h9 => h9) rfl dX8_keepForUndo_14 ?_
  refine lv_aload_n hx hb dX8_keepForUndo_17 rfl (lv_at hl 0 rfl) ?_
  refine va_get (D := D) (ci := 8) (v := .int (nI (m7 x3532))) (C := RX8) (T := TX8) (N := 7) hx hb hts iX8_keepForUndo_8 hown hN.1 hB.1 0 rfl rfl 4 (by decide) (hts _ mX8_keepForUndo_1) (fun _ h9 => h9) rfl dX8_keepForUndo_18 ?_
  refine lv_bipush (v := 7) hx hb dX8_keepForUndo_21 (by decide) ?_
  refine lv_iand hx hb dX8_keepForUndo_23 ?_
  have hj3534 := m7_lt (nI (m7 x3532))
  refine tp_i (nI (m7 (nI (m7 x3532)))) (and7 (nI (m7 x3532))) ?_
  obtain ⟨hb3535, e3535, hat3535, hk3535⟩ := hT.o12 t3531_3.1
  obtain ⟨g3535, rfl, q3535⟩ := hk3535
  have hB : Bx B0 D _ [(w, .inr (8, [.ref (cs 450), .ref (cs 440), .ref (cs 441), .ref f3531_3, .int (nI (m7 x3532)), .int f3531_5, .int f3531_6])), (f3531_3, .inl (cs 5, 8, .inr (.inr (.inr (.inr g3535)))))] [w] _ _ := hB.more hat3535 hb3535 (fa_c (ne_c hw.1 t3531_3.1 (by decide)) fa_n) (fa_c (ne_c hw.1 t3531_3.1 (by decide)) fa_n)
  obtain ⟨a3536, ea3536, ta3536, ha3536⟩ := q3535 ((m7 (nI (m7 x3532)))) (by omega)
  have ha3536 := ha3536.trans (show cs (442 + (m7 (nI (m7 x3532)))) = cs (440 + ((m7 (nI (m7 x3532))) + 2)) from congrArg cs (by omega))
  subst ha3536
  refine ld_w (v := .ref (cs (440 + ((m7 (nI (m7 x3532))) + 2)))) hx hb hN hB.1 1 rfl (vp_in_nI (n := (m7 (nI (m7 x3532)))) (N := 8) (by omega) (by omega)) (by rw [(show ((nI (m7 (nI (m7 x3532)))) : Int32).toNatClampNeg = (m7 (nI (m7 x3532))) from nI_clamp (n := (m7 (nI (m7 x3532)))) (by omega)), ea3536]; rfl) dX8_keepForUndo_24 ?_
  refine lv_aload_n hx hb dX8_keepForUndo_25 rfl (lv_at hl 0 rfl) ?_
  refine va_get (D := D) (ci := 8) (v := .ref (cs 440)) (C := RX8) (T := TX8) (N := 7) hx hb hts iX8_keepForUndo_8 hown hN.1 hB.1 0 rfl rfl 1 (by decide) (hts _ mX8_keepForUndo_3) (fun _ h9 => h9) rfl dX8_keepForUndo_26 ?_
  have hR := hR.fr hT trivial (Fr.close (S := [13]) Fr.rf hB (fa_c (by simp [hw.2]) fa_n)) (by decide)
  have hbt := hbt.fr KZ.rf hT (hT.rd hw) (Fr.close (S := [13]) Fr.rf hB (fa_c (by simp [hw.2]) fa_n)) (by decide) (by decide)
  have hT : WT B0 D cs T κ _ := hT.close hB ⟨⟨0, _, rfl, ok_9 hw.1 ⟨_, _, _, _, _, _, _, rfl, t3531_0, t3531_1, t3531_2, t3531_3, rfl, rfl, rfl⟩⟩, trivial⟩
  have hL : OkL B0 _ := hB.2.2.2.2.2
  have hP : va_P D vwCl [(w, .inr (8, [.ref (cs 450), .ref (cs 440), .ref (cs 441), .ref f3531_3, .int (nI (m7 x3532)), .int f3531_5, .int f3531_6])), (f3531_3, .inl (cs 5, 8, .inr (.inr (.inr (.inr g3535)))))] _ := hB.1
  refine W.know (fun hgb => ?_)
  rw [hH0] at hgb
  refine cv_v (As := [.ref (cs 440)]) (rest := []) (b := (cs (440 + ((m7 (nI (m7 x3532))) + 2)))) ⟨hx, hb, hml, hown, hts⟩ (c_X7_copyFrom_dr hT (i := ((m7 (nI (m7 x3532))) + 2)) (by omega) hR (j := 0) (by omega) (by omega) (by decide)) (cwV 1 hts gX8_keepForUndo_X7_copyFrom rfl rfl rfl hdX7_copyFrom_v ⟨Nat.le_of_ble_eq_true rfl, Nat.le_of_ble_eq_true rfl⟩) hN hE hL (rcv8 hN hT ta3536.1) rfl rfl hl.1 (Nat.le_of_ble_eq_true rfl) dX8_keepForUndo_29 (show 0 + ((56 * sumN C 16 + 22407 - 2 * sumN (LN ((m7 (nI (m7 x3532))) + 2)) 16) / 35) ≤ ((336 * sumN C 16 + 137000 - PotN LN) / 35) by omega) (show 0 + (56 * sumN C 16 + 22407 - 2 * sumN (LN ((m7 (nI (m7 x3532))) + 2)) 16) ≤ (336 * sumN C 16 + 137000 - PotN LN) by omega) (fun H1 locs hL hqr3537 => ?_)
  obtain ⟨κr3537, hxr3537, hT1, hF1, hqr3537⟩ := hqr3537
  have hxfr3537 := hxr3537.1
  have hbt := hbt.fr KZ.rf hT (hT.rd hw) hF1 (by first | decide | (simp; omega)) (by first | decide | (simp; omega))
  have hT := hT1
  have hKF : KF κ κr3537 := hxfr3537
  have hKW : KW κ κr3537 := (hxr3537.w (by omega))
  have hw := (KF.t2 hxfr3537 hw (by decide))
  obtain ⟨L3538, k3539, n3540, r3541, g3542⟩ := hqr3537
  have hR := r3541
  obtain ⟨k3543, n3544, hGP⟩ : ∃ k9 n9, GQ H0 _ LN L3538 k9 n9 := ⟨_, _, GQ.tr (show GQ H0 _ LN LN _ _ from ⟨hgb, hGN⟩) g3542⟩
  refine W.tight (k := k3543) (n := n3544) (by rw [hH0]; exact hGP.1) ?_
  have hGN : 35 * k3543 ≤ n3544 ∧ n3544 + PotN LN ≤ PotN L3538 := hGP.2
  have hgk3543 := hGN.1
  have hgn3544 := hGN.2
  have hsk3543 := hR.pot
  refine lv_aload_n hx hb dX8_keepForUndo_32 rfl (lv_at hl 0 rfl) ?_
  obtain ⟨hb3545, e3545, hat3545, hk3545⟩ := hT.o9 hw.1
  obtain ⟨f3545_0, f3545_1, f3545_2, f3545_3, f3545_4, f3545_5, f3545_6, rfl, t3545_0, t3545_1, t3545_2, t3545_3, rfl, rfl, rfl⟩ := hk3545
  have hP : va_P D vwCl [(w, .inr (8, [.ref (cs 450), .ref (cs 440), .ref (cs 441), .ref f3545_3, .int f3545_4, .int f3545_5, .int f3545_6]))] _ := va_P.cons hat3545 va_P.nil
  refine va_get (D := D) (ci := 8) (v := .int f3545_5) (C := RX8) (T := TX8) (N := 7) hx hb hts iX8_keepForUndo_8 hown hN.1 hP 0 rfl rfl 5 (by decide) (hts _ mX8_keepForUndo_4) (fun _ h9 => h9) rfl dX8_keepForUndo_33 ?_
  refine lv_bipush (v := 8) hx hb dX8_keepForUndo_36 (by decide) ?_
  refine lv_icmp_ge (tgt := 51) hx hb dX8_keepForUndo_38 (by decide) (fun c3546 => ?_) (fun c3546 => ?_)
  · refine W.know (fun hg => ?_)
    rw [hH0] at hg
    exact en_v hx hb hr hlocks hL (show k3543 ≤ ((336 * sumN C 16 + 137000 - PotN LN) / 35) by omega) (show n3544 ≤ (336 * sumN C 16 + 137000 - PotN LN) by omega) dX8_keepForUndo_51 (⟨_, hKW, hT, _, _, _, hR.ce (er_c (by omega) (by decide)), ⟨hg, hGN⟩, hbt⟩)
  · refine lv_aload_n hx hb dX8_keepForUndo_41 rfl (lv_at hl 0 rfl) ?_
    refine lv_dup hx hb dX8_keepForUndo_42 rfl ?_
    refine va_get (D := D) (ci := 8) (v := .int f3545_5) (C := RX8) (T := TX8) (N := 7) hx hb hts iX8_keepForUndo_8 hown hN.1 hP 0 rfl rfl 5 (by decide) (hts _ mX8_keepForUndo_4) (fun _ h9 => h9) rfl dX8_keepForUndo_43 ?_
    refine lv_iconst (v := 1) hx hb dX8_keepForUndo_46 (by decide) ?_
    refine lv_iadd hx hb dX8_keepForUndo_47 ?_
    refine gn_i (fun x3547 => ?_)
    have hB : Bx B0 D _ [(w, .inr (8, [.ref (cs 450), .ref (cs 440), .ref (cs 441), .ref f3545_3, .int f3545_4, .int f3545_5, .int f3545_6]))] [] _ _ := Bx.of (fun a => (κr3537 a).1) hL hP (fa_c hb3545 fa_n) (by simp only [List.map_cons, List.map_nil, hw.1]; decide)
    refine b_put (D := D) (ci := 8) (v := .int x3547) (ty := .int) (C := RX8) (T := TX8) (N := 7) hx hb hts iX8_keepForUndo_8 tyX8 tyX8_ok nmX8 hown hN hB 0 rfl rfl 5 (by decide) (hts _ mX8_keepForUndo_4) (fun _ h9 => h9) rfl (by decide +kernel) rfl rfl (Nat.le_of_ble_eq_true rfl) (.inl rfl) dX8_keepForUndo_48 (fun H locs hB => ?_)
    have hB : Bx B0 D _ [(w, .inr (8, [.ref (cs 450), .ref (cs 440), .ref (cs 441), .ref f3545_3, .int f3545_4, .int x3547, .int f3545_6]))] [w] _ _ := hB
    have hR := hR.fr hT trivial (Fr.close (S := [13]) Fr.rf hB (fa_c (by simp [hw.2]) fa_n)) (by decide)
    have hbt := hbt.fr hKW.z hT (hT.rd hw) (Fr.close (S := [13]) Fr.rf hB (fa_c (by simp [hw.2]) fa_n)) (by decide) (by decide)
    have hT : WT B0 D cs T κr3537 _ := hT.close hB ⟨⟨0, _, rfl, ok_9 hw.1 ⟨_, _, _, _, _, _, _, rfl, t3545_0, t3545_1, t3545_2, t3545_3, rfl, rfl, rfl⟩⟩, trivial⟩
    have hL : OkL B0 _ := hB.2.2.2.2.2
    have hP : va_P D vwCl [(w, .inr (8, [.ref (cs 450), .ref (cs 440), .ref (cs 441), .ref f3545_3, .int f3545_4, .int x3547, .int f3545_6]))] _ := hB.1
    refine W.know (fun hg => ?_)
    rw [hH0] at hg
    exact en_v hx hb hr hlocks hL (show k3543 ≤ ((336 * sumN C 16 + 137000 - PotN LN) / 35) by omega) (show n3544 ≤ (336 * sumN C 16 + 137000 - PotN LN) by omega) dX8_keepForUndo_51 (⟨_, hKW, hT, _, _, _, hR.ce (er_c (by omega) (by decide)), ⟨hg, hGN⟩, hbt⟩)
theorem mX8_undo_1 : (.fieldLink RX8 222 "OneBeat" "undoable" "I" : Cond) ∈ wsX8_undo := List.mem_of_getElem? (i := 1) (by decide +kernel)
theorem iX8_undo_8 : ∀ w ∈ wsX80, w ∈ wsX8_undo := fun w h => List.mem_of_mem_drop (List.mem_of_mem_take ((show wsX80 = (wsX8_undo.drop 73).take 7 by decide +kernel) ▸ h))
theorem mX8_undo_2 : (.fieldLink RX8 19 "OneBeat" "now" "LOneBeat$World;" : Cond) ∈ wsX8_undo := List.mem_of_getElem? (i := 2) (by decide +kernel)
theorem mX8_undo_3 : (.fieldLink RX8 26 "OneBeat" "past" "[LOneBeat$World;" : Cond) ∈ wsX8_undo := List.mem_of_getElem? (i := 3) (by decide +kernel)
theorem mX8_undo_4 : (.fieldLink RX8 225 "OneBeat" "newest" "I" : Cond) ∈ wsX8_undo := List.mem_of_getElem? (i := 4) (by decide +kernel)
set_option maxHeartbeats 4000000 in
set_option maxRecDepth 100000 in
theorem c_X8_undo {l : Launch} {D : va_G} {cs : Nat → ClassId} {B0 T : Nat} {κ : KM} {H0 : Heap} (hT : WT B0 D cs T κ H0) {w : Nat} (hw : T2 κ w 9 13) {C : Nat → Nat} {LN : Nat → Nat → Nat} (hR : RQ D cs κ H0 C LN er) : KC l yX8_undo wsX8_undo 3 106 ((336 * sumN C 16 + 137000 - PotN LN) / 35) (336 * sumN C 16 + 137000 - PotN LN) D cs B0 H0 [.ref w] (Qi (fun _ H => ∃ κ1, KW κ κ1 ∧ WT B0 D cs T κ1 H ∧ ∃ LN1 k n, RQ D cs κ1 H C LN1 er ∧ GQ H0 H LN LN1 k n ∧ BTK D cs κ H0 H)) := by
  refine KC.of cX8_undo 1 (some .int) (by decide) rfl (Nat.le_of_ble_eq_true rfl) ?_
  intro p e s m below meth c ls hx hb hr hml hown hts hlocks hin hN hE hH0 hl
  have hown : s.vm.findClass RX8 = some m.cls := hown
  have hl : lv_has ls 1 [(0, .ref w)] := hl
  have hL : OkL B0 [] := OkL.nil
  have hGN : 35 * 0 ≤ 0 ∧ 0 + PotN LN ≤ PotN LN := ⟨Nat.le_refl _, by omega⟩
  have hs0 := hR.pot
  have hbt : BTK D cs κ H0 H0 := BTK.rf
  refine lv_aload_n hx hb dX8_undo_0 rfl (lv_at hl 0 rfl) ?_
  obtain ⟨hb3548, e3548, hat3548, hk3548⟩ := hT.o9 hw.1
  obtain ⟨f3548_0, f3548_1, f3548_2, f3548_3, f3548_4, f3548_5, f3548_6, rfl, t3548_0, t3548_1, t3548_2, t3548_3, rfl, rfl, rfl⟩ := hk3548
  have hP : va_P D vwCl [(w, .inr (8, [.ref (cs 450), .ref (cs 440), .ref (cs 441), .ref f3548_3, .int f3548_4, .int f3548_5, .int f3548_6]))] _ := va_P.cons hat3548 va_P.nil
  refine va_get (D := D) (ci := 8) (v := .int f3548_5) (C := RX8) (T := TX8) (N := 7) hx hb hts iX8_undo_8 hown hN.1 hP 0 rfl rfl 5 (by decide) (hts _ mX8_undo_1) (fun _ h9 => h9) rfl dX8_undo_1 ?_
  refine lv_if_ne (tgt := 9) hx hb dX8_undo_4 (by decide) (fun c3549 => ?_) (fun c3549 => ?_)
  · refine lv_aload_n hx hb dX8_undo_9 rfl (lv_at hl 0 rfl) ?_
    refine va_get (D := D) (ci := 8) (v := .ref (cs 440)) (C := RX8) (T := TX8) (N := 7) hx hb hts iX8_undo_8 hown hN.1 hP 0 rfl rfl 1 (by decide) (hts _ mX8_undo_2) (fun _ h9 => h9) rfl dX8_undo_10 ?_
    refine lv_aload_n hx hb dX8_undo_13 rfl (lv_at hl 0 rfl) ?_
    refine va_get (D := D) (ci := 8) (v := .ref f3548_3) (C := RX8) (T := TX8) (N := 7) hx hb hts iX8_undo_8 hown hN.1 hP 0 rfl rfl 3 (by decide) (hts _ mX8_undo_3) (fun _ h9 => h9) rfl dX8_undo_14 ?_
    refine lv_aload_n hx hb dX8_undo_17 rfl (lv_at hl 0 rfl) ?_
    refine va_get (D := D) (ci := 8) (v := .int f3548_4) (C := RX8) (T := TX8) (N := 7) hx hb hts iX8_undo_8 hown hN.1 hP 0 rfl rfl 4 (by decide) (hts _ mX8_undo_4) (fun _ h9 => h9) rfl dX8_undo_18 ?_
    refine lv_bipush (v := 7) hx hb dX8_undo_21 (by decide) ?_
    refine lv_iand hx hb dX8_undo_23 ?_
    have hj3550 := m7_lt f3548_4
    refine tp_i (nI (m7 f3548_4)) (and7 f3548_4) ?_
    obtain ⟨hb3551, e3551, hat3551, hk3551⟩ := hT.o12 t3548_3.1
    obtain ⟨g3551, rfl, q3551⟩ := hk3551
    have hP : va_P D vwCl [(f3548_3, .inl (cs 5, 8, .inr (.inr (.inr (.inr g3551))))), (w, .inr (8, [.ref (cs 450), .ref (cs 440), .ref (cs 441), .ref f3548_3, .int f3548_4, .int f3548_5, .int f3548_6]))] _ := va_P.cons hat3551 hP
    obtain ⟨a3552, ea3552, ta3552, ha3552⟩ := q3551 ((m7 f3548_4)) (by omega)
    have ha3552 := ha3552.trans (show cs (442 + (m7 f3548_4)) = cs (440 + ((m7 f3548_4) + 2)) from congrArg cs (by omega))
    subst ha3552
    refine ld_w (v := .ref (cs (440 + ((m7 f3548_4) + 2)))) hx hb hN hP 0 rfl (vp_in_nI (n := (m7 f3548_4)) (N := 8) (by omega) (by omega)) (by rw [(show ((nI (m7 f3548_4)) : Int32).toNatClampNeg = (m7 f3548_4) from nI_clamp (n := (m7 f3548_4)) (by omega)), ea3552]; rfl) dX8_undo_24 ?_
    refine W.know (fun hgb => ?_)
    rw [hH0] at hgb
    refine cv_v (As := [.ref (cs (440 + ((m7 f3548_4) + 2)))]) (rest := []) (b := (cs 440)) ⟨hx, hb, hml, hown, hts⟩ (c_X7_copyFrom_dr hT (i := 0) (by omega) hR (j := ((m7 f3548_4) + 2)) (by omega) (by omega) (by unfold er; split <;> omega)) (cwV 1 hts gX8_undo_X7_copyFrom rfl rfl rfl hdX7_copyFrom_v ⟨Nat.le_of_ble_eq_true rfl, Nat.le_of_ble_eq_true rfl⟩) hN hE hL (rcv8 hN hT t3548_1.1) rfl rfl hl.1 (Nat.le_of_ble_eq_true rfl) dX8_undo_25 (show 0 + ((56 * sumN C 16 + 22407 - 2 * sumN (LN 0) 16) / 35) ≤ ((336 * sumN C 16 + 137000 - PotN LN) / 35) by omega) (show 0 + (56 * sumN C 16 + 22407 - 2 * sumN (LN 0) 16) ≤ (336 * sumN C 16 + 137000 - PotN LN) by omega) (fun H1 locs hL hqr3553 => ?_)
    obtain ⟨κr3553, hxr3553, hT1, hF1, hqr3553⟩ := hqr3553
    have hxfr3553 := hxr3553.1
    have hbt := hbt.fr KZ.rf hT (hT.rd hw) hF1 (by first | decide | (simp; omega)) (by first | decide | (simp; omega))
    have hT := hT1
    have hKF : KF κ κr3553 := hxfr3553
    have hKW : KW κ κr3553 := (hxr3553.w (by omega))
    have hw := (KF.t2 hxfr3553 hw (by decide))
    obtain ⟨L3554, k3555, n3556, r3557, g3558⟩ := hqr3553
    have hR := r3557
    obtain ⟨k3559, n3560, hGP⟩ : ∃ k9 n9, GQ H0 _ LN L3554 k9 n9 := ⟨_, _, GQ.tr (show GQ H0 _ LN LN _ _ from ⟨hgb, hGN⟩) g3558⟩
    refine W.tight (k := k3559) (n := n3560) (by rw [hH0]; exact hGP.1) ?_
    have hGN : 35 * k3559 ≤ n3560 ∧ n3560 + PotN LN ≤ PotN L3554 := hGP.2
    have hgk3559 := hGN.1
    have hgn3560 := hGN.2
    have hsk3559 := hR.pot
    refine lv_aload_n hx hb dX8_undo_28 rfl (lv_at hl 0 rfl) ?_
    refine lv_aload_n hx hb dX8_undo_29 rfl (lv_at hl 0 rfl) ?_
    obtain ⟨hb3561, e3561, hat3561, hk3561⟩ := hT.o9 hw.1
    obtain ⟨f3561_0, f3561_1, f3561_2, f3561_3, f3561_4, f3561_5, f3561_6, rfl, t3561_0, t3561_1, t3561_2, t3561_3, rfl, rfl, rfl⟩ := hk3561
    have hP : va_P D vwCl [(w, .inr (8, [.ref (cs 450), .ref (cs 440), .ref (cs 441), .ref f3561_3, .int f3561_4, .int f3561_5, .int f3561_6]))] _ := va_P.cons hat3561 va_P.nil
    refine va_get (D := D) (ci := 8) (v := .int f3561_4) (C := RX8) (T := TX8) (N := 7) hx hb hts iX8_undo_8 hown hN.1 hP 0 rfl rfl 4 (by decide) (hts _ mX8_undo_4) (fun _ h9 => h9) rfl dX8_undo_30 ?_
    refine lv_iconst (v := 1) hx hb dX8_undo_33 (by decide) ?_
    refine lv_isub hx hb dX8_undo_34 ?_
    refine gn_i (fun x3562 => ?_)
    refine lv_bipush (v := 7) hx hb dX8_undo_35 (by decide) ?_
    refine lv_iand hx hb dX8_undo_37 ?_
    have hj3563 := m7_lt x3562
    refine tp_i (nI (m7 x3562)) (and7 x3562) ?_
    have hB : Bx B0 D _ [(w, .inr (8, [.ref (cs 450), .ref (cs 440), .ref (cs 441), .ref f3561_3, .int f3561_4, .int f3561_5, .int f3561_6]))] [] _ _ := Bx.of (fun a => (κr3553 a).1) hL hP (fa_c hb3561 fa_n) (by simp only [List.map_cons, List.map_nil, hw.1]; decide)
    refine b_put (D := D) (ci := 8) (v := .int (nI (m7 x3562))) (ty := .int) (C := RX8) (T := TX8) (N := 7) hx hb hts iX8_undo_8 tyX8 tyX8_ok nmX8 hown hN hB 0 rfl rfl 4 (by decide) (hts _ mX8_undo_4) (fun _ h9 => h9) rfl (by decide +kernel) rfl rfl (Nat.le_of_ble_eq_true rfl) (.inl rfl) dX8_undo_38 (fun H locs hB => ?_)
    have hB : Bx B0 D _ [(w, .inr (8, [.ref (cs 450), .ref (cs 440), .ref (cs 441), .ref f3561_3, .int (nI (m7 x3562)), .int f3561_5, .int f3561_6]))] [w] _ _ := hB
    refine lv_aload_n hx hb dX8_undo_41 rfl (lv_at hl 0 rfl) ?_
    refine lv_dup hx hb dX8_undo_42 rfl ?_
    refine va_get (D := D) (ci := 8) (v := .int f3561_5) (C := RX8) (T := TX8) (N := 7) hx hb hts iX8_undo_8 hown hN.1 hB.1 0 rfl rfl 5 (by decide) (hts _ mX8_undo_1) (fun _ h9 => h9) rfl dX8_undo_43 ?_
    refine lv_iconst (v := 1) hx hb dX8_undo_46 (by decide) ?_
    refine lv_isub hx hb dX8_undo_47 ?_
    refine gn_i (fun x3564 => ?_)
    refine b_put (D := D) (ci := 8) (v := .int x3564) (ty := .int) (C := RX8) (T := TX8) (N := 7) hx hb hts iX8_undo_8 tyX8 tyX8_ok nmX8 hown hN hB 0 rfl rfl 5 (by decide) (hts _ mX8_undo_1) (fun _ h9 => h9) rfl (by decide +kernel) rfl rfl (Nat.le_of_ble_eq_true rfl) (.inr ⟨rfl, List.mem_of_getElem? (i := 0) rfl⟩) dX8_undo_48 (fun H locs hB => ?_)
    have hB : Bx B0 D _ [(w, .inr (8, [.ref (cs 450), .ref (cs 440), .ref (cs 441), .ref f3561_3, .int (nI (m7 x3562)), .int x3564, .int f3561_6]))] [w] _ _ := hB
    refine lv_aload_n hx hb dX8_undo_51 rfl (lv_at hl 0 rfl) ?_
    refine va_get (D := D) (ci := 8) (v := .int x3564) (C := RX8) (T := TX8) (N := 7) hx hb hts iX8_undo_8 hown hN.1 hB.1 0 rfl rfl 5 (by decide) (hts _ mX8_undo_1) (fun _ h9 => h9) rfl dX8_undo_52 ?_
    have hR := hR.fr hT trivial (Fr.close (S := [13]) Fr.rf hB (fa_c (by simp [hw.2]) fa_n)) (by decide)
    have hbt := hbt.fr hKW.z hT (hT.rd hw) (Fr.close (S := [13]) Fr.rf hB (fa_c (by simp [hw.2]) fa_n)) (by decide) (by decide)
    have hT : WT B0 D cs T κr3553 _ := hT.close hB ⟨⟨0, _, rfl, ok_9 hw.1 ⟨_, _, _, _, _, _, _, rfl, t3561_0, t3561_1, t3561_2, t3561_3, rfl, rfl, rfl⟩⟩, trivial⟩
    have hL : OkL B0 _ := hB.2.2.2.2.2
    have hP : va_P D vwCl [(w, .inr (8, [.ref (cs 450), .ref (cs 440), .ref (cs 441), .ref f3561_3, .int (nI (m7 x3562)), .int x3564, .int f3561_6]))] _ := hB.1
    refine W.know (fun hg => ?_)
    rw [hH0] at hg
    exact en_i hx hb hr hlocks hL rfl (show k3559 ≤ ((336 * sumN C 16 + 137000 - PotN LN) / 35) by omega) (show n3560 ≤ (336 * sumN C 16 + 137000 - PotN LN) by omega) dX8_undo_55 (⟨_, hKW, hT, _, _, _, hR.ce (er_c (by decide) (by omega)), ⟨hg, hGN⟩, hbt⟩)
  · refine lv_iconst (v := (-1)) hx hb dX8_undo_7 (by decide) ?_
    refine W.know (fun hg => ?_)
    rw [hH0] at hg
    exact en_i hx hb hr hlocks hL rfl (Nat.zero_le _) (Nat.zero_le _) dX8_undo_8 (⟨κ, KW.rf, hT, LN, 0, 0, hR, ⟨hg, hGN⟩, hbt⟩)
theorem xgX8_refuseNoPlayer_234_2 : ∀ w ∈ (vx_atS RX8 234 "java/lang/IndexOutOfBoundsException" ["java/lang/RuntimeException", "java/lang/Exception"]).filter goodWord, w ∈ wsX8_refuseNoPlayer := fun w h => by unfold wsX8_refuseNoPlayer; exact List.mem_cons_of_mem _ (List.mem_append_right _ h)
theorem xnRX8_234_2 : ∀ w ∈ (vx_atS RX8 234 "java/lang/IndexOutOfBoundsException" ["java/lang/RuntimeException", "java/lang/Exception"]).filter (fun w => !goodWord w), w ∈ Cond.castable "java/lang/IndexOutOfBoundsException" "java/lang/IndexOutOfBoundsException" :: xdD := by decide +kernel
theorem xdRX8_234_2 : xdL.all (fun w => decide (w ∈ (vx_atS RX8 234 "java/lang/IndexOutOfBoundsException" ["java/lang/RuntimeException", "java/lang/Exception"]).filter goodWord)) = true := by decide +kernel
theorem xoRX8_230_234_2 : ∀ w ∈ Cond.classLink RX8 230 "java/lang/IndexOutOfBoundsException" :: Cond.initialized "java/lang/IndexOutOfBoundsException" :: (vx_atS RX8 234 "java/lang/IndexOutOfBoundsException" ["java/lang/RuntimeException", "java/lang/Exception"]), vx_ot w = true := by decide +kernel
theorem mX8_refuseNoPlayer_1 : (.classLink RX8 230 "java/lang/IndexOutOfBoundsException" : Cond) ∈ wsX8_refuseNoPlayer := List.mem_of_getElem? (i := 1) (by decide +kernel)
theorem mX8_refuseNoPlayer_2 : (.initialized "java/lang/IndexOutOfBoundsException" : Cond) ∈ wsX8_refuseNoPlayer := List.mem_of_getElem? (i := 2) (by decide +kernel)
theorem mX8_refuseNoPlayer_3 : (.fieldLink RX8 19 "OneBeat" "now" "LOneBeat$World;" : Cond) ∈ wsX8_refuseNoPlayer := List.mem_of_getElem? (i := 3) (by decide +kernel)
theorem iX8_refuseNoPlayer_8 : ∀ w ∈ wsX80, w ∈ wsX8_refuseNoPlayer := fun w h => List.mem_of_mem_drop (List.mem_of_mem_take ((show wsX80 = (wsX8_refuseNoPlayer.drop 4).take 7 by decide +kernel) ▸ h))
theorem iX8_refuseNoPlayer_7 : ∀ w ∈ wsX70, w ∈ wsX8_refuseNoPlayer := fun w h => List.mem_of_mem_drop (List.mem_of_mem_take ((show wsX70 = (wsX8_refuseNoPlayer.drop 11).take 16 by decide +kernel) ▸ h))
theorem iX8_refuseNoPlayer_6 : ∀ w ∈ wsX60, w ∈ wsX8_refuseNoPlayer := fun w h => List.mem_of_mem_drop (List.mem_of_mem_take ((show wsX60 = (wsX8_refuseNoPlayer.drop 27).take 8 by decide +kernel) ▸ h))
set_option maxHeartbeats 4000000 in
set_option maxRecDepth 100000 in
theorem c_X8_refuseNoPlayer {l : Launch} (hlt : l.stackTraces = false) {D : va_G} {cs : Nat → ClassId} {B0 T : Nat} {κ : KM} {H0 : Heap} (hT : WT B0 D cs T κ H0) {w : Nat} (hw : T2 κ w 9 13) {x : Int32} : KT l yX8_refuseNoPlayer wsX8_refuseNoPlayer 6 100 1 6 D cs B0 H0 [.ref w, .int x] (Qv (fun H => H = H0)) (TQ ["java/lang/IndexOutOfBoundsException"] H0) := by
  refine KT.of cX8_refuseNoPlayer 2 none (by decide) rfl (Nat.le_of_ble_eq_true rfl) ?_
  intro p e s m below meth c ls hx hb hr hml hown hts hlocks hnx hN hE hH0 hl
  have hown : s.vm.findClass RX8 = some m.cls := hown
  have hl : lv_has ls 2 [(0, .ref w), (1, .int x)] := hl
  have hL : OkL B0 [] := OkL.nil
  refine lv_iload_n hx hb dX8_refuseNoPlayer_0 rfl (lv_at hl 1 rfl) ?_
  refine lv_if_lt (tgt := 18) hx hb dX8_refuseNoPlayer_1 (by decide) (fun c3565 => ?_) (fun c3565 => ?_)
  · exact tx_up (Qu := fun E1 H1 => E1 = "java/lang/IndexOutOfBoundsException" ∧ H0.size ≤ H1.size ∧ ∀ q : Nat, q < H0.size → H1[q]? = H0[q]?) (tx_g2 (Qo := fun _ _ => False) (E := "java/lang/IndexOutOfBoundsException") 2 hx hb hlt hown hN (by decide +kernel) (hts _ mX8_refuseNoPlayer_1) (hts _ mX8_refuseNoPlayer_2) (hN.s 11 rfl) rfl (fun w h => hts w (xgX8_refuseNoPlayer_234_2 w h)) xnRX8_234_2 xdRX8_234_2 xoRX8_230_234_2 hE.1 (by rw [hH0]; exact ⟨Nat.le_refl _, fun _ _ _ => rfl, hL⟩) (fun H1 g1 g2 => ⟨rfl, g1, g2⟩) hl hml dX8_refuseNoPlayer_18 dX8_refuseNoPlayer_21 dX8_refuseNoPlayer_22 dX8_refuseNoPlayer_24 dX8_refuseNoPlayer_27 hnx (Nat.le_of_ble_eq_true rfl) (Nat.le_of_ble_eq_true rfl) (show 0 + 1 ≤ 1 by omega) (show 0 + 6 ≤ 6 by omega) hlocks (Nat.le_refl _) (Nat.le_refl _)) hH0 (show 1 ≤ 1 by omega) (show 6 ≤ 6 by omega) (fun E1 H1 g g3 => ⟨by rw [g.1]; simp, g.2.1, g.2.2, g3⟩)
  · refine lv_iload_n hx hb dX8_refuseNoPlayer_4 rfl (lv_at hl 1 rfl) ?_
    refine lv_aload_n hx hb dX8_refuseNoPlayer_5 rfl (lv_at hl 0 rfl) ?_
    obtain ⟨hb3566, e3566, hat3566, hk3566⟩ := hT.o9 hw.1
    obtain ⟨f3566_0, f3566_1, f3566_2, f3566_3, f3566_4, f3566_5, f3566_6, rfl, t3566_0, t3566_1, t3566_2, t3566_3, rfl, rfl, rfl⟩ := hk3566
    have hP : va_P D vwCl [(w, .inr (8, [.ref (cs 450), .ref (cs 440), .ref (cs 441), .ref f3566_3, .int f3566_4, .int f3566_5, .int f3566_6]))] _ := va_P.cons hat3566 va_P.nil
    refine va_get (D := D) (ci := 8) (v := .ref (cs 440)) (C := RX8) (T := TX8) (N := 7) hx hb hts iX8_refuseNoPlayer_8 hown hN.1 hP 0 rfl rfl 1 (by decide) (hts _ mX8_refuseNoPlayer_3) (fun _ h9 => h9) rfl dX8_refuseNoPlayer_6 ?_
    obtain ⟨hb3567, e3567, hat3567, hk3567⟩ := hT.o8 t3566_1.1
    obtain ⟨f3567_0, f3567_1, f3567_2, f3567_3, f3567_4, f3567_5, f3567_6, f3567_7, f3567_8, f3567_9, f3567_10, f3567_11, f3567_12, f3567_13, f3567_14, f3567_15, rfl, t3567_0, c3567_su, t3567_1, t3567_2, t3567_3, t3567_4, t3567_5, c3567_tm, c3567_lt, c3567_ml, c3567_pr, c3567_li⟩ := hk3567
    rw [t3566_1.2] at t3567_1
    rw [t3566_1.2] at t3567_2
    rw [t3566_1.2] at t3567_3
    rw [t3566_1.2] at t3567_4
    rw [t3566_1.2] at t3567_5
    rw [t3566_1.2] at c3567_lt c3567_ml c3567_pr c3567_li
    subst c3567_ml
    subst c3567_pr
    subst c3567_li
    have hP : va_P D vwCl [((cs 440), .inr (7, [.ref f3567_0, .ref f3567_1, .ref (cs (400 + 0)), .ref (cs (420 + 0)), .ref (cs (460 + 0)), .ref f3567_5, .long f3567_6, .int f3567_7, .int f3567_8, .int f3567_9, .int f3567_10, .int f3567_11, .int f3567_12, .int f3567_13, .int f3567_14, .int f3567_15])), (w, .inr (8, [.ref (cs 450), .ref (cs 440), .ref (cs 441), .ref f3566_3, .int f3566_4, .int f3566_5, .int f3566_6]))] _ := va_P.cons hat3567 hP
    refine va_getN (D := D) (ci := 7) (v := .ref f3567_0) (C := RX7) (T := TX7) (N := 16) hx hb hts iX8_refuseNoPlayer_7 hown hN.1 hP 0 rfl rfl 0 (by decide) (hN.f 46 rfl) (fun _ h9 => h9) rfl dX8_refuseNoPlayer_9 ?_
    obtain ⟨hb3568, e3568, hat3568, hk3568⟩ := hT.o7 t3567_0.1
    obtain ⟨f3568_0, f3568_1, f3568_2, f3568_3, f3568_4, f3568_5, f3568_6, f3568_7, rfl, c3568_0, c3568_3, c3568_mg, t3568_4, t3568_5, t3568_6, t3568_7⟩ := hk3568
    rw [t3567_0.2] at t3568_4
    rw [t3567_0.2] at t3568_5
    rw [t3567_0.2] at t3568_6
    rw [t3567_0.2] at t3568_7
    have hP : va_P D vwCl [(f3567_0, .inr (6, [.int (nI f3568_0), .int f3568_1, .int f3568_2, f3568_3, .ref f3568_4, .ref f3568_5, .ref f3568_6, .ref f3568_7])), ((cs 440), .inr (7, [.ref f3567_0, .ref f3567_1, .ref (cs (400 + 0)), .ref (cs (420 + 0)), .ref (cs (460 + 0)), .ref f3567_5, .long f3567_6, .int f3567_7, .int f3567_8, .int f3567_9, .int f3567_10, .int f3567_11, .int f3567_12, .int f3567_13, .int f3567_14, .int f3567_15])), (w, .inr (8, [.ref (cs 450), .ref (cs 440), .ref (cs 441), .ref f3566_3, .int f3566_4, .int f3566_5, .int f3566_6]))] _ := va_P.cons hat3568 hP
    refine va_getN (D := D) (ci := 6) (v := .int (nI f3568_0)) (C := RX6) (T := TX6) (N := 8) hx hb hts iX8_refuseNoPlayer_6 hown hN.1 hP 0 rfl rfl 0 (by decide) (hN.f 37 rfl) (fun _ h9 => h9) rfl dX8_refuseNoPlayer_12 ?_
    refine lv_icmp_lt (tgt := 28) hx hb dX8_refuseNoPlayer_15 (by decide) (fun c3569 => ?_) (fun c3569 => ?_)
    · exact vx_ret (en_v hx hb hr hlocks hL (Nat.zero_le _) (Nat.zero_le _) dX8_refuseNoPlayer_28 (rfl))
    · exact tx_up (Qu := fun E1 H1 => E1 = "java/lang/IndexOutOfBoundsException" ∧ H0.size ≤ H1.size ∧ ∀ q : Nat, q < H0.size → H1[q]? = H0[q]?) (tx_g2 (Qo := fun _ _ => False) (E := "java/lang/IndexOutOfBoundsException") 2 hx hb hlt hown hN (by decide +kernel) (hts _ mX8_refuseNoPlayer_1) (hts _ mX8_refuseNoPlayer_2) (hN.s 11 rfl) rfl (fun w h => hts w (xgX8_refuseNoPlayer_234_2 w h)) xnRX8_234_2 xdRX8_234_2 xoRX8_230_234_2 hE.1 (by rw [hH0]; exact ⟨Nat.le_refl _, fun _ _ _ => rfl, hL⟩) (fun H1 g1 g2 => ⟨rfl, g1, g2⟩) hl hml dX8_refuseNoPlayer_18 dX8_refuseNoPlayer_21 dX8_refuseNoPlayer_22 dX8_refuseNoPlayer_24 dX8_refuseNoPlayer_27 hnx (Nat.le_of_ble_eq_true rfl) (Nat.le_of_ble_eq_true rfl) (show 0 + 1 ≤ 1 by omega) (show 0 + 6 ≤ 6 by omega) hlocks (Nat.le_refl _) (Nat.le_refl _)) hH0 (show 1 ≤ 1 by omega) (show 6 ≤ 6 by omega) (fun E1 H1 g g3 => ⟨by rw [g.1]; simp, g.2.1, g.2.2, g3⟩)
theorem xgX8_refuseWhatOutside_49_0 : ∀ w ∈ (vx_atS RX8 49 "java/lang/IllegalArgumentException" ["java/lang/RuntimeException", "java/lang/Exception"]).filter goodWord, w ∈ wsX8_refuseWhatOutside := fun w h => by unfold wsX8_refuseWhatOutside; exact List.mem_cons_of_mem _ (List.mem_append_right _ h)
theorem xnRX8_49_0 : ∀ w ∈ (vx_atS RX8 49 "java/lang/IllegalArgumentException" ["java/lang/RuntimeException", "java/lang/Exception"]).filter (fun w => !goodWord w), w ∈ Cond.castable "java/lang/IllegalArgumentException" "java/lang/IllegalArgumentException" :: xdD := by decide +kernel
theorem xdRX8_49_0 : xdL.all (fun w => decide (w ∈ (vx_atS RX8 49 "java/lang/IllegalArgumentException" ["java/lang/RuntimeException", "java/lang/Exception"]).filter goodWord)) = true := by decide +kernel
theorem xoRX8_45_49_0 : ∀ w ∈ Cond.classLink RX8 45 "java/lang/IllegalArgumentException" :: Cond.initialized "java/lang/IllegalArgumentException" :: (vx_atS RX8 49 "java/lang/IllegalArgumentException" ["java/lang/RuntimeException", "java/lang/Exception"]), vx_ot w = true := by decide +kernel
theorem mX8_refuseWhatOutside_1 : (.classLink RX8 45 "java/lang/IllegalArgumentException" : Cond) ∈ wsX8_refuseWhatOutside := List.mem_of_getElem? (i := 1) (by decide +kernel)
theorem mX8_refuseWhatOutside_2 : (.initialized "java/lang/IllegalArgumentException" : Cond) ∈ wsX8_refuseWhatOutside := List.mem_of_getElem? (i := 2) (by decide +kernel)
set_option maxHeartbeats 4000000 in
set_option maxRecDepth 100000 in
theorem c_X8_refuseWhatOutside {l : Launch} (hlt : l.stackTraces = false) {D : va_G} {cs : Nat → ClassId} {B0 T : Nat} {κ : KM} {H0 : Heap} (hT : WT B0 D cs T κ H0) {w : Nat} (hw : T2 κ w 9 13) {x : Int32} {y : Int32} : KT l yX8_refuseWhatOutside wsX8_refuseWhatOutside 6 100 1 6 D cs B0 H0 [.ref w, .int x, .int y] (Qv (fun H => H = H0)) (TQ ["java/lang/IllegalArgumentException"] H0) := by
  refine KT.of cX8_refuseWhatOutside 3 none (by decide) rfl (Nat.le_of_ble_eq_true rfl) ?_
  intro p e s m below meth c ls hx hb hr hml hown hts hlocks hnx hN hE hH0 hl
  have hown : s.vm.findClass RX8 = some m.cls := hown
  have hl : lv_has ls 3 [(0, .ref w), (1, .int x), (2, .int y)] := hl
  have hL : OkL B0 [] := OkL.nil
  refine lv_iload_n hx hb dX8_refuseWhatOutside_0 rfl (lv_at hl 1 rfl) ?_
  refine lv_if_lt (tgt := 9) hx hb dX8_refuseWhatOutside_1 (by decide) (fun c3570 => ?_) (fun c3570 => ?_)
  · exact tx_up (Qu := fun E1 H1 => E1 = "java/lang/IllegalArgumentException" ∧ H0.size ≤ H1.size ∧ ∀ q : Nat, q < H0.size → H1[q]? = H0[q]?) (tx_g2 (Qo := fun _ _ => False) (E := "java/lang/IllegalArgumentException") 0 hx hb hlt hown hN (by decide +kernel) (hts _ mX8_refuseWhatOutside_1) (hts _ mX8_refuseWhatOutside_2) (hN.s 10 rfl) rfl (fun w h => hts w (xgX8_refuseWhatOutside_49_0 w h)) xnRX8_49_0 xdRX8_49_0 xoRX8_45_49_0 hE.1 (by rw [hH0]; exact ⟨Nat.le_refl _, fun _ _ _ => rfl, hL⟩) (fun H1 g1 g2 => ⟨rfl, g1, g2⟩) hl hml dX8_refuseWhatOutside_9 dX8_refuseWhatOutside_12 dX8_refuseWhatOutside_13 dX8_refuseWhatOutside_15 dX8_refuseWhatOutside_18 hnx (Nat.le_of_ble_eq_true rfl) (Nat.le_of_ble_eq_true rfl) (show 0 + 1 ≤ 1 by omega) (show 0 + 6 ≤ 6 by omega) hlocks (Nat.le_refl _) (Nat.le_refl _)) hH0 (show 1 ≤ 1 by omega) (show 6 ≤ 6 by omega) (fun E1 H1 g g3 => ⟨by rw [g.1]; simp, g.2.1, g.2.2, g3⟩)
  · refine lv_iload_n hx hb dX8_refuseWhatOutside_4 rfl (lv_at hl 1 rfl) ?_
    refine lv_iload_n hx hb dX8_refuseWhatOutside_5 rfl (lv_at hl 2 rfl) ?_
    refine lv_icmp_le (tgt := 19) hx hb dX8_refuseWhatOutside_6 (by decide) (fun c3571 => ?_) (fun c3571 => ?_)
    · exact vx_ret (en_v hx hb hr hlocks hL (Nat.zero_le _) (Nat.zero_le _) dX8_refuseWhatOutside_19 (rfl))
    · exact tx_up (Qu := fun E1 H1 => E1 = "java/lang/IllegalArgumentException" ∧ H0.size ≤ H1.size ∧ ∀ q : Nat, q < H0.size → H1[q]? = H0[q]?) (tx_g2 (Qo := fun _ _ => False) (E := "java/lang/IllegalArgumentException") 0 hx hb hlt hown hN (by decide +kernel) (hts _ mX8_refuseWhatOutside_1) (hts _ mX8_refuseWhatOutside_2) (hN.s 10 rfl) rfl (fun w h => hts w (xgX8_refuseWhatOutside_49_0 w h)) xnRX8_49_0 xdRX8_49_0 xoRX8_45_49_0 hE.1 (by rw [hH0]; exact ⟨Nat.le_refl _, fun _ _ _ => rfl, hL⟩) (fun H1 g1 g2 => ⟨rfl, g1, g2⟩) hl hml dX8_refuseWhatOutside_9 dX8_refuseWhatOutside_12 dX8_refuseWhatOutside_13 dX8_refuseWhatOutside_15 dX8_refuseWhatOutside_18 hnx (Nat.le_of_ble_eq_true rfl) (Nat.le_of_ble_eq_true rfl) (show 0 + 1 ≤ 1 by omega) (show 0 + 6 ≤ 6 by omega) hlocks (Nat.le_refl _) (Nat.le_refl _)) hH0 (show 1 ≤ 1 by omega) (show 6 ≤ 6 by omega) (fun E1 H1 g g3 => ⟨by rw [g.1]; simp, g.2.1, g.2.2, g3⟩)
theorem mX8_errorOffset_1 : (.fieldLink RX8 30 "OneBeat" "errorAt" "I" : Cond) ∈ wsX8_errorOffset := List.mem_of_getElem? (i := 1) (by decide +kernel)
theorem iX8_errorOffset_8 : ∀ w ∈ wsX80, w ∈ wsX8_errorOffset := fun w h => List.mem_of_mem_drop (List.mem_of_mem_take ((show wsX80 = (wsX8_errorOffset.drop 2).take 7 by decide +kernel) ▸ h))
set_option maxHeartbeats 4000000 in
set_option maxRecDepth 100000 in
theorem c_X8_errorOffset {l : Launch} {D : va_G} {cs : Nat → ClassId} {B0 T : Nat} {κ : KM} {H0 : Heap} (hT : WT B0 D cs T κ H0) {w : Nat} (hw : T2 κ w 9 13) {C : Nat → Nat} {LN : Nat → Nat → Nat} (hR : RQ D cs κ H0 C LN er) : KC l yX8_errorOffset wsX8_errorOffset 0 0 ((336 * sumN C 16 + 137000 - PotN LN) / 35) (336 * sumN C 16 + 137000 - PotN LN) D cs B0 H0 [.ref w] (Qi (fun _ H => ∃ κ1, KW κ κ1 ∧ WT B0 D cs T κ1 H ∧ ∃ C1 LN1 k n, sumN C1 16 ≤ sumN C 16 + 24 ∧ RQ D cs κ1 H C1 LN1 er ∧ GQ H0 H LN LN1 k n ∧ BTK D cs κ H0 H)) := by
  refine KC.of cX8_errorOffset 1 (some .int) (by decide) rfl (Nat.le_of_ble_eq_true rfl) ?_
  intro p e s m below meth c ls hx hb hr hml hown hts hlocks hin hN hE hH0 hl
  have hown : s.vm.findClass RX8 = some m.cls := hown
  have hl : lv_has ls 1 [(0, .ref w)] := hl
  have hL : OkL B0 [] := OkL.nil
  have hGN : 35 * 0 ≤ 0 ∧ 0 + PotN LN ≤ PotN LN := ⟨Nat.le_refl _, by omega⟩
  have hs0 := hR.pot
  have hbt : BTK D cs κ H0 H0 := BTK.rf
  refine lv_aload_n hx hb dX8_errorOffset_0 rfl (lv_at hl 0 rfl) ?_
  obtain ⟨hb3572, e3572, hat3572, hk3572⟩ := hT.o9 hw.1
  obtain ⟨f3572_0, f3572_1, f3572_2, f3572_3, f3572_4, f3572_5, f3572_6, rfl, t3572_0, t3572_1, t3572_2, t3572_3, rfl, rfl, rfl⟩ := hk3572
  have hP : va_P D vwCl [(w, .inr (8, [.ref (cs 450), .ref (cs 440), .ref (cs 441), .ref f3572_3, .int f3572_4, .int f3572_5, .int f3572_6]))] _ := va_P.cons hat3572 va_P.nil
  refine va_get (D := D) (ci := 8) (v := .int f3572_6) (C := RX8) (T := TX8) (N := 7) hx hb hts iX8_errorOffset_8 hown hN.1 hP 0 rfl rfl 6 (by decide) (hts _ mX8_errorOffset_1) (fun _ h9 => h9) rfl dX8_errorOffset_1 ?_
  refine W.know (fun hg => ?_)
  rw [hH0] at hg
  exact en_i hx hb hr hlocks hL rfl (Nat.zero_le _) (Nat.zero_le _) dX8_errorOffset_4 (⟨κ, KW.rf, hT, C, LN, 0, 0, Nat.le_add_right _ _, hR, ⟨hg, hGN⟩, hbt⟩)
theorem mX8_spread_1 : (.fieldLink RX8 19 "OneBeat" "now" "LOneBeat$World;" : Cond) ∈ wsX8_spread := List.mem_of_getElem? (i := 1) (by decide +kernel)
theorem iX8_spread_8 : ∀ w ∈ wsX80, w ∈ wsX8_spread := fun w h => List.mem_of_mem_drop (List.mem_of_mem_take ((show wsX80 = (wsX8_spread.drop 9).take 7 by decide +kernel) ▸ h))
theorem iX8_spread_7 : ∀ w ∈ wsX70, w ∈ wsX8_spread := fun w h => List.mem_of_mem_drop (List.mem_of_mem_take ((show wsX70 = (wsX8_spread.drop 16).take 16 by decide +kernel) ▸ h))
theorem hdX4_spreadOfChanges_v : yX4_spreadOfChanges.cls = RX4 ∧ yX4_spreadOfChanges.cls ≠ "java/lang/invoke/MethodHandle" ∧ yX4_spreadOfChanges.cls ≠ "java/lang/invoke/VarHandle" ∧ (parseMethodDescriptor yX4_spreadOfChanges.desc).map (fun d => d.parameters.length) = some 0 := by decide +kernel
set_option maxHeartbeats 4000000 in
set_option maxRecDepth 100000 in
theorem c_X8_spread {l : Launch} {D : va_G} {cs : Nat → ClassId} {B0 T : Nat} {κ : KM} {H0 : Heap} (hT : WT B0 D cs T κ H0) {w : Nat} (hw : T2 κ w 9 13) {C : Nat → Nat} {LN : Nat → Nat → Nat} (hR : RQ D cs κ H0 C LN er) : KC l yX8_spread wsX8_spread 1 20 ((336 * sumN C 16 + 137000 - PotN LN) / 35) (336 * sumN C 16 + 137000 - PotN LN) D cs B0 H0 [.ref w] (Qi (fun _ H => ∃ κ1, KW κ κ1 ∧ WT B0 D cs T κ1 H ∧ ∃ C1 LN1 k n, sumN C1 16 ≤ sumN C 16 + 24 ∧ RQ D cs κ1 H C1 LN1 er ∧ GQ H0 H LN LN1 k n ∧ BTK D cs κ H0 H)) := by
  refine KC.of cX8_spread 1 (some .int) (by decide) rfl (Nat.le_of_ble_eq_true rfl) ?_
  intro p e s m below meth c ls hx hb hr hml hown hts hlocks hin hN hE hH0 hl
  have hown : s.vm.findClass RX8 = some m.cls := hown
  have hl : lv_has ls 1 [(0, .ref w)] := hl
  have hL : OkL B0 [] := OkL.nil
  have hGN : 35 * 0 ≤ 0 ∧ 0 + PotN LN ≤ PotN LN := ⟨Nat.le_refl _, by omega⟩
  have hs0 := hR.pot
  have hbt : BTK D cs κ H0 H0 := BTK.rf
  refine lv_aload_n hx hb dX8_spread_0 rfl (lv_at hl 0 rfl) ?_
  obtain ⟨hb3573, e3573, hat3573, hk3573⟩ := hT.o9 hw.1
  obtain ⟨f3573_0, f3573_1, f3573_2, f3573_3, f3573_4, f3573_5, f3573_6, rfl, t3573_0, t3573_1, t3573_2, t3573_3, rfl, rfl, rfl⟩ := hk3573
  have hP : va_P D vwCl [(w, .inr (8, [.ref (cs 450), .ref (cs 440), .ref (cs 441), .ref f3573_3, .int f3573_4, .int f3573_5, .int f3573_6]))] _ := va_P.cons hat3573 va_P.nil
  refine va_get (D := D) (ci := 8) (v := .ref (cs 440)) (C := RX8) (T := TX8) (N := 7) hx hb hts iX8_spread_8 hown hN.1 hP 0 rfl rfl 1 (by decide) (hts _ mX8_spread_1) (fun _ h9 => h9) rfl dX8_spread_1 ?_
  obtain ⟨hb3574, e3574, hat3574, hk3574⟩ := hT.o8 t3573_1.1
  obtain ⟨f3574_0, f3574_1, f3574_2, f3574_3, f3574_4, f3574_5, f3574_6, f3574_7, f3574_8, f3574_9, f3574_10, f3574_11, f3574_12, f3574_13, f3574_14, f3574_15, rfl, t3574_0, c3574_su, t3574_1, t3574_2, t3574_3, t3574_4, t3574_5, c3574_tm, c3574_lt, c3574_ml, c3574_pr, c3574_li⟩ := hk3574
  rw [t3573_1.2] at t3574_1
  rw [t3573_1.2] at t3574_2
  rw [t3573_1.2] at t3574_3
  rw [t3573_1.2] at t3574_4
  rw [t3573_1.2] at t3574_5
  rw [t3573_1.2] at c3574_lt c3574_ml c3574_pr c3574_li
  subst c3574_ml
  subst c3574_pr
  subst c3574_li
  have hP : va_P D vwCl [((cs 440), .inr (7, [.ref f3574_0, .ref f3574_1, .ref (cs (400 + 0)), .ref (cs (420 + 0)), .ref (cs (460 + 0)), .ref f3574_5, .long f3574_6, .int f3574_7, .int f3574_8, .int f3574_9, .int f3574_10, .int f3574_11, .int f3574_12, .int f3574_13, .int f3574_14, .int f3574_15])), (w, .inr (8, [.ref (cs 450), .ref (cs 440), .ref (cs 441), .ref f3573_3, .int f3573_4, .int f3573_5, .int f3573_6]))] _ := va_P.cons hat3574 hP
  refine va_getN (D := D) (ci := 7) (v := .ref (cs (420 + 0))) (C := RX7) (T := TX7) (N := 16) hx hb hts iX8_spread_7 hown hN.1 hP 0 rfl rfl 3 (by decide) (hN.f 48 rfl) (fun _ h9 => h9) rfl dX8_spread_4 ?_
  refine cv_i (As := []) (rest := []) (b := (cs (420 + 0))) ⟨hx, hb, hml, hown, hts⟩ (c_X4_spreadOfChanges hT (w := (cs (420 + 0))) t3574_3) (cwV 0 hts gX8_spread_X4_spreadOfChanges rfl rfl rfl hdX4_spreadOfChanges_v ⟨Nat.le_of_ble_eq_true rfl, Nat.le_of_ble_eq_true rfl⟩) hN hE hL (rcv5 hN hT t3574_3.1) rfl rfl hl.1 (Nat.le_of_ble_eq_true rfl) dX8_spread_7 (Nat.zero_le _) (Nat.zero_le _) (fun r3575 H1 locs hL hqr3575 => ?_)
  obtain rfl := hqr3575.symm
  refine W.know (fun hg => ?_)
  rw [hH0] at hg
  exact en_i hx hb hr hlocks hL rfl (Nat.zero_le _) (Nat.zero_le _) dX8_spread_10 (⟨κ, KW.rf, hT, C, LN, 0, 0, Nat.le_add_right _ _, hR, ⟨hg, hGN⟩, hbt⟩)
theorem hdX8_refuseWhatOutside_v : yX8_refuseWhatOutside.cls = RX8 ∧ yX8_refuseWhatOutside.cls ≠ "java/lang/invoke/MethodHandle" ∧ yX8_refuseWhatOutside.cls ≠ "java/lang/invoke/VarHandle" ∧ (parseMethodDescriptor yX8_refuseWhatOutside.desc).map (fun d => d.parameters.length) = some 2 := by decide +kernel
theorem mX8_state_1 : (.fieldLink RX8 19 "OneBeat" "now" "LOneBeat$World;" : Cond) ∈ wsX8_state := List.mem_of_getElem? (i := 1) (by decide +kernel)
theorem iX8_state_8 : ∀ w ∈ wsX80, w ∈ wsX8_state := fun w h => List.mem_of_mem_drop (List.mem_of_mem_take ((show wsX80 = (wsX8_state.drop 97).take 7 by decide +kernel) ▸ h))
theorem hdX7_count_v : yX7_count.cls = RX7 ∧ yX7_count.cls ≠ "java/lang/invoke/MethodHandle" ∧ yX7_count.cls ≠ "java/lang/invoke/VarHandle" ∧ (parseMethodDescriptor yX7_count.desc).map (fun d => d.parameters.length) = some 1 := by decide +kernel
set_option maxHeartbeats 4000000 in
set_option maxRecDepth 100000 in
theorem c_X8_state {l : Launch} (hlt : l.stackTraces = false) {D : va_G} {cs : Nat → ClassId} {B0 T : Nat} {κ : KM} {H0 : Heap} (hT : WT B0 D cs T κ H0) {w : Nat} (hw : T2 κ w 9 13) {C : Nat → Nat} {LN : Nat → Nat → Nat} (hR : RQ D cs κ H0 C LN er) {x : Int32} : KT l yX8_state wsX8_state 7 136 ((336 * sumN C 16 + 137000 - PotN LN) / 35) (336 * sumN C 16 + 137000 - PotN LN) D cs B0 H0 [.ref w, .int x] (Qi (fun _ H => ∃ κ1, KW κ κ1 ∧ WT B0 D cs T κ1 H ∧ ∃ C1 LN1 k n, sumN C1 16 ≤ sumN C 16 + 24 ∧ RQ D cs κ1 H C1 LN1 er ∧ GQ H0 H LN LN1 k n ∧ BTK D cs κ H0 H)) (TQ ["java/lang/IllegalArgumentException"] H0) := by
  refine KT.of cX8_state 2 (some .int) (by decide) rfl (Nat.le_of_ble_eq_true rfl) ?_
  intro p e s m below meth c ls hx hb hr hml hown hts hlocks hnx hN hE hH0 hl
  have hown : s.vm.findClass RX8 = some m.cls := hown
  have hl : lv_has ls 2 [(0, .ref w), (1, .int x)] := hl
  have hL : OkL B0 [] := OkL.nil
  have hGN : 35 * 0 ≤ 0 ∧ 0 + PotN LN ≤ PotN LN := ⟨Nat.le_refl _, by omega⟩
  have hs0 := hR.pot
  have hbt : BTK D cs κ H0 H0 := BTK.rf
  refine lv_aload_n hx hb dX8_state_0 rfl (lv_at hl 0 rfl) ?_
  refine lv_iload_n hx hb dX8_state_1 rfl (lv_at hl 1 rfl) ?_
  refine lv_bipush (v := 12) hx hb dX8_state_2 (by decide) ?_
  refine ct_V (As := [.int x, .int 12]) (rest := []) (b := w) ⟨hx, hb, hml, hown, hts⟩ (c_X8_refuseWhatOutside hlt hT (w := w) hw (x := x) (y := 12)) (cwV 2 hts gX8_state_X8_refuseWhatOutside rfl rfl rfl hdX8_refuseWhatOutside_v ⟨Nat.le_of_ble_eq_true rfl, Nat.le_of_ble_eq_true rfl⟩) hN hE hL (rcv9 hN hT hw.1) rfl rfl hl.1 (Nat.le_of_ble_eq_true rfl) dX8_state_4 (show 0 + 1 ≤ ((336 * sumN C 16 + 137000 - PotN LN) / 35) by omega) (show 0 + 6 ≤ (336 * sumN C 16 + 137000 - PotN LN) by omega) (fun E9 q9 ce9 H1 locs hL hq h1 h2 h3 => ct_up hnx hlocks h1 h2 h3 (hq.mono (by decide +kernel)) hL (show 0 + 1 ≤ ((336 * sumN C 16 + 137000 - PotN LN) / 35) by omega) (show 0 + 6 ≤ (336 * sumN C 16 + 137000 - PotN LN) by omega)) (fun v9 H1 locs hL hqr3576 => ?_)
  obtain ⟨rfl, hqr3576⟩ := hqr3576
  refine W.eq (g2 := F0 m 7 ls []) rfl ?_
  obtain rfl := hqr3576.symm
  refine W.tight (k := 0) (n := 0) (by rw [hH0]; exact Gr.rf) ?_
  refine lv_aload_n hx hb dX8_state_7 rfl (lv_at hl 0 rfl) ?_
  obtain ⟨hb3577, e3577, hat3577, hk3577⟩ := hT.o9 hw.1
  obtain ⟨f3577_0, f3577_1, f3577_2, f3577_3, f3577_4, f3577_5, f3577_6, rfl, t3577_0, t3577_1, t3577_2, t3577_3, rfl, rfl, rfl⟩ := hk3577
  have hP : va_P D vwCl [(w, .inr (8, [.ref (cs 450), .ref (cs 440), .ref (cs 441), .ref f3577_3, .int f3577_4, .int f3577_5, .int f3577_6]))] _ := va_P.cons hat3577 va_P.nil
  refine va_get (D := D) (ci := 8) (v := .ref (cs 440)) (C := RX8) (T := TX8) (N := 7) hx hb hts iX8_state_8 hown hN.1 hP 0 rfl rfl 1 (by decide) (hts _ mX8_state_1) (fun _ h9 => h9) rfl dX8_state_8 ?_
  refine lv_iload_n hx hb dX8_state_11 rfl (lv_at hl 1 rfl) ?_
  refine cv_i (As := [.int x]) (rest := []) (b := (cs 440)) ⟨hx, hb, hml, hown, hts⟩ (c_X7_count hT (w := (cs 440)) t3577_1 (x := x)) (cwV 1 hts gX8_state_X7_count rfl rfl rfl hdX7_count_v ⟨Nat.le_of_ble_eq_true rfl, Nat.le_of_ble_eq_true rfl⟩) hN hE hL (rcv8 hN hT t3577_1.1) rfl rfl hl.1 (Nat.le_of_ble_eq_true rfl) dX8_state_12 (Nat.zero_le _) (Nat.zero_le _) (fun r3578 H1 locs hL hqr3578 => ?_)
  obtain ⟨hT1, hF1⟩ := hqr3578
  have hP : va_P D vwCl [(w, .inr (8, [.ref (cs 450), .ref (cs 440), .ref (cs 441), .ref f3577_3, .int f3577_4, .int f3577_5, .int f3577_6]))] _ := hF1.hP (hP.sub [0] rfl) (fa_c ⟨by rw [hw.1]; decide, by rw [hw.2]; first | decide | (simp; done) | (simp [h15a, h15b, h15c]; done) | (simp; omega)⟩ fa_n)
  have hR := hR.fr hT trivial hF1 (by decide)
  have hbt := hbt.fr KZ.rf hT (hT.rd hw) hF1 (by first | decide | (simp; omega)) (by first | decide | (simp; omega))
  have hT := hT1
  refine W.know (fun hg => ?_)
  rw [hH0] at hg
  exact vx_ret (en_i hx hb hr hlocks hL rfl (Nat.zero_le _) (Nat.zero_le _) dX8_state_15 (⟨κ, KW.rf, hT, C, LN, 0, 0, Nat.le_add_right _ _, hR, ⟨hg, hGN⟩, hbt⟩))
theorem hdX8_refuseNoPlayer_v : yX8_refuseNoPlayer.cls = RX8 ∧ yX8_refuseNoPlayer.cls ≠ "java/lang/invoke/MethodHandle" ∧ yX8_refuseNoPlayer.cls ≠ "java/lang/invoke/VarHandle" ∧ (parseMethodDescriptor yX8_refuseNoPlayer.desc).map (fun d => d.parameters.length) = some 1 := by decide +kernel
theorem mX8_player_1 : (.fieldLink RX8 19 "OneBeat" "now" "LOneBeat$World;" : Cond) ∈ wsX8_player := List.mem_of_getElem? (i := 1) (by decide +kernel)
theorem iX8_player_8 : ∀ w ∈ wsX80, w ∈ wsX8_player := fun w h => List.mem_of_mem_drop (List.mem_of_mem_take ((show wsX80 = (wsX8_player.drop 47).take 7 by decide +kernel) ▸ h))
theorem hdX7_tellPlayer_v : yX7_tellPlayer.cls = RX7 ∧ yX7_tellPlayer.cls ≠ "java/lang/invoke/MethodHandle" ∧ yX7_tellPlayer.cls ≠ "java/lang/invoke/VarHandle" ∧ (parseMethodDescriptor yX7_tellPlayer.desc).map (fun d => d.parameters.length) = some 2 := by decide +kernel
set_option maxHeartbeats 4000000 in
set_option maxRecDepth 100000 in
theorem c_X8_player {l : Launch} (hlt : l.stackTraces = false) {D : va_G} {cs : Nat → ClassId} {B0 T : Nat} {κ : KM} {H0 : Heap} (hT : WT B0 D cs T κ H0) {w : Nat} (hw : T2 κ w 9 13) {C : Nat → Nat} {LN : Nat → Nat → Nat} (hR : RQ D cs κ H0 C LN er) {x : Int32} {y : Int32} : KT l yX8_player wsX8_player 7 122 ((336 * sumN C 16 + 137000 - PotN LN) / 35) (336 * sumN C 16 + 137000 - PotN LN) D cs B0 H0 [.ref w, .int x, .int y] (Qi (fun _ H => ∃ κ1, KW κ κ1 ∧ WT B0 D cs T κ1 H ∧ ∃ C1 LN1 k n, sumN C1 16 ≤ sumN C 16 + 24 ∧ RQ D cs κ1 H C1 LN1 er ∧ GQ H0 H LN LN1 k n ∧ BTK D cs κ H0 H)) (TQ ["java/lang/IndexOutOfBoundsException", "java/lang/IllegalArgumentException"] H0) := by
  refine KT.of cX8_player 3 (some .int) (by decide) rfl (Nat.le_of_ble_eq_true rfl) ?_
  intro p e s m below meth c ls hx hb hr hml hown hts hlocks hnx hN hE hH0 hl
  have hown : s.vm.findClass RX8 = some m.cls := hown
  have hl : lv_has ls 3 [(0, .ref w), (1, .int x), (2, .int y)] := hl
  have hL : OkL B0 [] := OkL.nil
  have hGN : 35 * 0 ≤ 0 ∧ 0 + PotN LN ≤ PotN LN := ⟨Nat.le_refl _, by omega⟩
  have hs0 := hR.pot
  have hbt : BTK D cs κ H0 H0 := BTK.rf
  refine lv_aload_n hx hb dX8_player_0 rfl (lv_at hl 0 rfl) ?_
  refine lv_iload_n hx hb dX8_player_1 rfl (lv_at hl 1 rfl) ?_
  refine ct_V (As := [.int x]) (rest := []) (b := w) ⟨hx, hb, hml, hown, hts⟩ (c_X8_refuseNoPlayer hlt hT (w := w) hw (x := x)) (cwV 1 hts gX8_player_X8_refuseNoPlayer rfl rfl rfl hdX8_refuseNoPlayer_v ⟨Nat.le_of_ble_eq_true rfl, Nat.le_of_ble_eq_true rfl⟩) hN hE hL (rcv9 hN hT hw.1) rfl rfl hl.1 (Nat.le_of_ble_eq_true rfl) dX8_player_2 (show 0 + 1 ≤ ((336 * sumN C 16 + 137000 - PotN LN) / 35) by omega) (show 0 + 6 ≤ (336 * sumN C 16 + 137000 - PotN LN) by omega) (fun E9 q9 ce9 H1 locs hL hq h1 h2 h3 => ct_up hnx hlocks h1 h2 h3 (hq.mono (by decide +kernel)) hL (show 0 + 1 ≤ ((336 * sumN C 16 + 137000 - PotN LN) / 35) by omega) (show 0 + 6 ≤ (336 * sumN C 16 + 137000 - PotN LN) by omega)) (fun v9 H1 locs hL hqr3579 => ?_)
  obtain ⟨rfl, hqr3579⟩ := hqr3579
  refine W.eq (g2 := F0 m 5 ls []) rfl ?_
  obtain rfl := hqr3579.symm
  refine W.tight (k := 0) (n := 0) (by rw [hH0]; exact Gr.rf) ?_
  refine lv_aload_n hx hb dX8_player_5 rfl (lv_at hl 0 rfl) ?_
  refine lv_iload_n hx hb dX8_player_6 rfl (lv_at hl 2 rfl) ?_
  refine lv_bipush (v := 9) hx hb dX8_player_7 (by decide) ?_
  refine ct_V (As := [.int y, .int 9]) (rest := []) (b := w) ⟨hx, hb, hml, hown, hts⟩ (c_X8_refuseWhatOutside hlt hT (w := w) hw (x := y) (y := 9)) (cwV 2 hts gX8_player_X8_refuseWhatOutside rfl rfl rfl hdX8_refuseWhatOutside_v ⟨Nat.le_of_ble_eq_true rfl, Nat.le_of_ble_eq_true rfl⟩) hN hE hL (rcv9 hN hT hw.1) rfl rfl hl.1 (Nat.le_of_ble_eq_true rfl) dX8_player_9 (show 0 + 1 ≤ ((336 * sumN C 16 + 137000 - PotN LN) / 35) by omega) (show 0 + 6 ≤ (336 * sumN C 16 + 137000 - PotN LN) by omega) (fun E9 q9 ce9 H1 locs hL hq h1 h2 h3 => ct_up hnx hlocks h1 h2 h3 (hq.mono (by decide +kernel)) hL (show 0 + 1 ≤ ((336 * sumN C 16 + 137000 - PotN LN) / 35) by omega) (show 0 + 6 ≤ (336 * sumN C 16 + 137000 - PotN LN) by omega)) (fun v9 H1 locs hL hqr3580 => ?_)
  obtain ⟨rfl, hqr3580⟩ := hqr3580
  refine W.eq (g2 := F0 m 12 ls []) rfl ?_
  obtain rfl := hqr3580.symm
  refine W.tight (k := 0) (n := 0) (by rw [hH0]; exact Gr.rf) ?_
  refine lv_aload_n hx hb dX8_player_12 rfl (lv_at hl 0 rfl) ?_
  obtain ⟨hb3581, e3581, hat3581, hk3581⟩ := hT.o9 hw.1
  obtain ⟨f3581_0, f3581_1, f3581_2, f3581_3, f3581_4, f3581_5, f3581_6, rfl, t3581_0, t3581_1, t3581_2, t3581_3, rfl, rfl, rfl⟩ := hk3581
  have hP : va_P D vwCl [(w, .inr (8, [.ref (cs 450), .ref (cs 440), .ref (cs 441), .ref f3581_3, .int f3581_4, .int f3581_5, .int f3581_6]))] _ := va_P.cons hat3581 va_P.nil
  refine va_get (D := D) (ci := 8) (v := .ref (cs 440)) (C := RX8) (T := TX8) (N := 7) hx hb hts iX8_player_8 hown hN.1 hP 0 rfl rfl 1 (by decide) (hts _ mX8_player_1) (fun _ h9 => h9) rfl dX8_player_13 ?_
  refine lv_iload_n hx hb dX8_player_16 rfl (lv_at hl 1 rfl) ?_
  refine lv_iload_n hx hb dX8_player_17 rfl (lv_at hl 2 rfl) ?_
  refine cv_i (As := [.int x, .int y]) (rest := []) (b := (cs 440)) ⟨hx, hb, hml, hown, hts⟩ (c_X7_tellPlayer hT (w := (cs 440)) t3581_1 (x := x) (y := y)) (cwV 2 hts gX8_player_X7_tellPlayer rfl rfl rfl hdX7_tellPlayer_v ⟨Nat.le_of_ble_eq_true rfl, Nat.le_of_ble_eq_true rfl⟩) hN hE hL (rcv8 hN hT t3581_1.1) rfl rfl hl.1 (Nat.le_of_ble_eq_true rfl) dX8_player_18 (Nat.zero_le _) (Nat.zero_le _) (fun r3582 H1 locs hL hqr3582 => ?_)
  obtain rfl := hqr3582.symm
  refine W.know (fun hg => ?_)
  rw [hH0] at hg
  exact vx_ret (en_i hx hb hr hlocks hL rfl (Nat.zero_le _) (Nat.zero_le _) dX8_player_21 (⟨κ, KW.rf, hT, C, LN, 0, 0, Nat.le_add_right _ _, hR, ⟨hg, hGN⟩, hbt⟩))
theorem mX8_link_1 : (.fieldLink RX8 19 "OneBeat" "now" "LOneBeat$World;" : Cond) ∈ wsX8_link := List.mem_of_getElem? (i := 1) (by decide +kernel)
theorem iX8_link_8 : ∀ w ∈ wsX80, w ∈ wsX8_link := fun w h => List.mem_of_mem_drop (List.mem_of_mem_take ((show wsX80 = (wsX8_link.drop 30).take 7 by decide +kernel) ▸ h))
set_option maxHeartbeats 4000000 in
set_option maxRecDepth 100000 in
theorem c_X8_link {l : Launch} (hlt : l.stackTraces = false) {D : va_G} {cs : Nat → ClassId} {B0 T : Nat} {κ : KM} {H0 : Heap} (hT : WT B0 D cs T κ H0) {w : Nat} (hw : T2 κ w 9 13) {C : Nat → Nat} {LN : Nat → Nat → Nat} (hR : RQ D cs κ H0 C LN er) {x : Int32} {y : Int32} : KT l yX8_link wsX8_link 7 121 ((336 * sumN C 16 + 137000 - PotN LN) / 35) (336 * sumN C 16 + 137000 - PotN LN) D cs B0 H0 [.ref w, .int x, .int y] (Qi (fun _ H => ∃ κ1, KW κ κ1 ∧ WT B0 D cs T κ1 H ∧ ∃ C1 LN1 k n, sumN C1 16 ≤ sumN C 16 + 24 ∧ RQ D cs κ1 H C1 LN1 er ∧ GQ H0 H LN LN1 k n ∧ BTK D cs κ H0 H)) (TQ ["java/lang/IndexOutOfBoundsException"] H0) := by
  refine KT.of cX8_link 3 (some .int) (by decide) rfl (Nat.le_of_ble_eq_true rfl) ?_
  intro p e s m below meth c ls hx hb hr hml hown hts hlocks hnx hN hE hH0 hl
  have hown : s.vm.findClass RX8 = some m.cls := hown
  have hl : lv_has ls 3 [(0, .ref w), (1, .int x), (2, .int y)] := hl
  have hL : OkL B0 [] := OkL.nil
  have hGN : 35 * 0 ≤ 0 ∧ 0 + PotN LN ≤ PotN LN := ⟨Nat.le_refl _, by omega⟩
  have hs0 := hR.pot
  have hbt : BTK D cs κ H0 H0 := BTK.rf
  refine lv_aload_n hx hb dX8_link_0 rfl (lv_at hl 0 rfl) ?_
  refine lv_iload_n hx hb dX8_link_1 rfl (lv_at hl 1 rfl) ?_
  refine ct_V (As := [.int x]) (rest := []) (b := w) ⟨hx, hb, hml, hown, hts⟩ (c_X8_refuseNoPlayer hlt hT (w := w) hw (x := x)) (cwV 1 hts gX8_link_X8_refuseNoPlayer rfl rfl rfl hdX8_refuseNoPlayer_v ⟨Nat.le_of_ble_eq_true rfl, Nat.le_of_ble_eq_true rfl⟩) hN hE hL (rcv9 hN hT hw.1) rfl rfl hl.1 (Nat.le_of_ble_eq_true rfl) dX8_link_2 (show 0 + 1 ≤ ((336 * sumN C 16 + 137000 - PotN LN) / 35) by omega) (show 0 + 6 ≤ (336 * sumN C 16 + 137000 - PotN LN) by omega) (fun E9 q9 ce9 H1 locs hL hq h1 h2 h3 => ct_up hnx hlocks h1 h2 h3 (hq.mono (by decide +kernel)) hL (show 0 + 1 ≤ ((336 * sumN C 16 + 137000 - PotN LN) / 35) by omega) (show 0 + 6 ≤ (336 * sumN C 16 + 137000 - PotN LN) by omega)) (fun v9 H1 locs hL hqr3583 => ?_)
  obtain ⟨rfl, hqr3583⟩ := hqr3583
  refine W.eq (g2 := F0 m 5 ls []) rfl ?_
  obtain rfl := hqr3583.symm
  refine W.tight (k := 0) (n := 0) (by rw [hH0]; exact Gr.rf) ?_
  refine lv_aload_n hx hb dX8_link_5 rfl (lv_at hl 0 rfl) ?_
  refine lv_iload_n hx hb dX8_link_6 rfl (lv_at hl 2 rfl) ?_
  refine ct_V (As := [.int y]) (rest := []) (b := w) ⟨hx, hb, hml, hown, hts⟩ (c_X8_refuseNoPlayer hlt hT (w := w) hw (x := y)) (cwV 1 hts gX8_link_X8_refuseNoPlayer rfl rfl rfl hdX8_refuseNoPlayer_v ⟨Nat.le_of_ble_eq_true rfl, Nat.le_of_ble_eq_true rfl⟩) hN hE hL (rcv9 hN hT hw.1) rfl rfl hl.1 (Nat.le_of_ble_eq_true rfl) dX8_link_7 (show 0 + 1 ≤ ((336 * sumN C 16 + 137000 - PotN LN) / 35) by omega) (show 0 + 6 ≤ (336 * sumN C 16 + 137000 - PotN LN) by omega) (fun E9 q9 ce9 H1 locs hL hq h1 h2 h3 => ct_up hnx hlocks h1 h2 h3 (hq.mono (by decide +kernel)) hL (show 0 + 1 ≤ ((336 * sumN C 16 + 137000 - PotN LN) / 35) by omega) (show 0 + 6 ≤ (336 * sumN C 16 + 137000 - PotN LN) by omega)) (fun v9 H1 locs hL hqr3584 => ?_)
  obtain ⟨rfl, hqr3584⟩ := hqr3584
  refine W.eq (g2 := F0 m 10 ls []) rfl ?_
  obtain rfl := hqr3584.symm
  refine W.tight (k := 0) (n := 0) (by rw [hH0]; exact Gr.rf) ?_
  refine lv_aload_n hx hb dX8_link_10 rfl (lv_at hl 0 rfl) ?_
  obtain ⟨hb3585, e3585, hat3585, hk3585⟩ := hT.o9 hw.1
  obtain ⟨f3585_0, f3585_1, f3585_2, f3585_3, f3585_4, f3585_5, f3585_6, rfl, t3585_0, t3585_1, t3585_2, t3585_3, rfl, rfl, rfl⟩ := hk3585
  have hP : va_P D vwCl [(w, .inr (8, [.ref (cs 450), .ref (cs 440), .ref (cs 441), .ref f3585_3, .int f3585_4, .int f3585_5, .int f3585_6]))] _ := va_P.cons hat3585 va_P.nil
  refine va_get (D := D) (ci := 8) (v := .ref (cs 440)) (C := RX8) (T := TX8) (N := 7) hx hb hts iX8_link_8 hown hN.1 hP 0 rfl rfl 1 (by decide) (hts _ mX8_link_1) (fun _ h9 => h9) rfl dX8_link_11 ?_
  refine lv_iload_n hx hb dX8_link_14 rfl (lv_at hl 1 rfl) ?_
  refine lv_iload_n hx hb dX8_link_15 rfl (lv_at hl 2 rfl) ?_
  refine cv_i (As := [.int x, .int y]) (rest := []) (b := (cs 440)) ⟨hx, hb, hml, hown, hts⟩ (c_X7_isCut hT (w := (cs 440)) t3585_1 (x := x) (y := y)) (cwV 2 hts gX8_link_X7_isCut rfl rfl rfl hdX7_isCut_v ⟨Nat.le_of_ble_eq_true rfl, Nat.le_of_ble_eq_true rfl⟩) hN hE hL (rcv8 hN hT t3585_1.1) rfl rfl hl.1 (Nat.le_of_ble_eq_true rfl) dX8_link_16 (Nat.zero_le _) (Nat.zero_le _) (fun r3586 H1 locs hL hqr3586 => ?_)
  obtain ⟨h9, hqr3586⟩ := hqr3586; replace h9 := h9.symm; subst h9
  rcases hqr3586 with rfl | rfl
  · refine lv_if_eq (tgt := 35) hx hb dX8_link_19 (by decide) (fun _ => ?_) (fun c9 => absurd (by decide) c9)
    refine lv_aload_n hx hb dX8_link_35 rfl (lv_at hl 0 rfl) ?_
    refine va_get (D := D) (ci := 8) (v := .ref (cs 440)) (C := RX8) (T := TX8) (N := 7) hx hb hts iX8_link_8 hown hN.1 hP 0 rfl rfl 1 (by decide) (hts _ mX8_link_1) (fun _ h9 => h9) rfl dX8_link_36 ?_
    refine lv_iload_n hx hb dX8_link_39 rfl (lv_at hl 1 rfl) ?_
    refine lv_iload_n hx hb dX8_link_40 rfl (lv_at hl 2 rfl) ?_
    refine cv_i (As := [.int x, .int y]) (rest := []) (b := (cs 440)) ⟨hx, hb, hml, hown, hts⟩ (c_X7_delay hT (w := (cs 440)) t3585_1 (x := x) (y := y)) (cwV 2 hts gX8_link_X7_delay rfl rfl rfl hdX7_delay_v ⟨Nat.le_of_ble_eq_true rfl, Nat.le_of_ble_eq_true rfl⟩) hN hE hL (rcv8 hN hT t3585_1.1) rfl rfl hl.1 (Nat.le_of_ble_eq_true rfl) dX8_link_41 (Nat.zero_le _) (Nat.zero_le _) (fun r3587 H1 locs hL hqr3587 => ?_)
    obtain ⟨h9, hqr3587⟩ := hqr3587; replace h9 := h9.symm; subst h9
    obtain ⟨n3588, h3589, rfl⟩ := hqr3587
    refine W.know (fun hg => ?_)
    rw [hH0] at hg
    exact vx_ret (en_i hx hb hr hlocks hL rfl (Nat.zero_le _) (Nat.zero_le _) dX8_link_44 (⟨κ, KW.rf, hT, C, LN, 0, 0, Nat.le_add_right _ _, hR, ⟨hg, hGN⟩, hbt⟩))
  · refine lv_if_eq (tgt := 35) hx hb dX8_link_19 (by decide) (fun c9 => absurd c9 (by decide)) (fun _ => ?_)
    refine lv_aload_n hx hb dX8_link_22 rfl (lv_at hl 0 rfl) ?_
    refine va_get (D := D) (ci := 8) (v := .ref (cs 440)) (C := RX8) (T := TX8) (N := 7) hx hb hts iX8_link_8 hown hN.1 hP 0 rfl rfl 1 (by decide) (hts _ mX8_link_1) (fun _ h9 => h9) rfl dX8_link_23 ?_
    refine lv_iload_n hx hb dX8_link_26 rfl (lv_at hl 1 rfl) ?_
    refine lv_iload_n hx hb dX8_link_27 rfl (lv_at hl 2 rfl) ?_
    refine cv_i (As := [.int x, .int y]) (rest := []) (b := (cs 440)) ⟨hx, hb, hml, hown, hts⟩ (c_X7_delay hT (w := (cs 440)) t3585_1 (x := x) (y := y)) (cwV 2 hts gX8_link_X7_delay rfl rfl rfl hdX7_delay_v ⟨Nat.le_of_ble_eq_true rfl, Nat.le_of_ble_eq_true rfl⟩) hN hE hL (rcv8 hN hT t3585_1.1) rfl rfl hl.1 (Nat.le_of_ble_eq_true rfl) dX8_link_28 (Nat.zero_le _) (Nat.zero_le _) (fun r3590 H1 locs hL hqr3590 => ?_)
    obtain ⟨h9, hqr3590⟩ := hqr3590; replace h9 := h9.symm; subst h9
    obtain ⟨n3591, h3592, rfl⟩ := hqr3590
    refine lv_ineg hx hb dX8_link_31 ?_
    refine gn_i (fun x3593 => ?_)
    refine lv_goto (tgt := 44) hx hb dX8_link_32 (by decide) ?_
    refine W.know (fun hg => ?_)
    rw [hH0] at hg
    exact vx_ret (en_i hx hb hr hlocks hL rfl (Nat.zero_le _) (Nat.zero_le _) dX8_link_44 (⟨κ, KW.rf, hT, C, LN, 0, 0, Nat.le_add_right _ _, hR, ⟨hg, hGN⟩, hbt⟩))
theorem xgX8_message_109_3 : ∀ w ∈ (xnse RX8 109).filter goodWord, w ∈ wsX8_message := fun w h => by unfold wsX8_message; exact List.mem_cons_of_mem _ (List.mem_append_left _ (List.mem_append_right _ h))
theorem xnRX8_109_3 : ∀ w ∈ (xnse RX8 109).filter (fun w => !goodWord w), w ∈ Cond.castable "java/util/NoSuchElementException" "java/util/NoSuchElementException" :: xdD := by decide +kernel
theorem xdRX8_109_3 : xdL.all (fun w => decide (w ∈ (xnse RX8 109).filter goodWord)) = true := by decide +kernel
theorem xoRX8_105_109_3 : ∀ w ∈ Cond.classLink RX8 105 "java/util/NoSuchElementException" :: Cond.initialized "java/util/NoSuchElementException" :: (xnse RX8 109), vx_ot w = true := by decide +kernel
theorem mX8_message_1 : (.classLink RX8 105 "java/util/NoSuchElementException" : Cond) ∈ wsX8_message := List.mem_of_getElem? (i := 1) (by decide +kernel)
theorem mX8_message_2 : (.initialized "java/util/NoSuchElementException" : Cond) ∈ wsX8_message := List.mem_of_getElem? (i := 2) (by decide +kernel)
theorem mX8_message_3 : (.fieldLink RX8 19 "OneBeat" "now" "LOneBeat$World;" : Cond) ∈ wsX8_message := List.mem_of_getElem? (i := 3) (by decide +kernel)
theorem iX8_message_8 : ∀ w ∈ wsX80, w ∈ wsX8_message := fun w h => List.mem_of_mem_drop (List.mem_of_mem_take ((show wsX80 = (wsX8_message.drop 40).take 7 by decide +kernel) ▸ h))
theorem iX8_message_7 : ∀ w ∈ wsX70, w ∈ wsX8_message := fun w h => List.mem_of_mem_drop (List.mem_of_mem_take ((show wsX70 = (wsX8_message.drop 47).take 16 by decide +kernel) ▸ h))
theorem iX8_message_2 : ∀ w ∈ wsX20, w ∈ wsX8_message := fun w h => List.mem_of_mem_drop (List.mem_of_mem_take ((show wsX20 = (wsX8_message.drop 63).take 3 by decide +kernel) ▸ h))
theorem hdX7_tellMessage_v : yX7_tellMessage.cls = RX7 ∧ yX7_tellMessage.cls ≠ "java/lang/invoke/MethodHandle" ∧ yX7_tellMessage.cls ≠ "java/lang/invoke/VarHandle" ∧ (parseMethodDescriptor yX7_tellMessage.desc).map (fun d => d.parameters.length) = some 2 := by decide +kernel
set_option maxHeartbeats 4000000 in
set_option maxRecDepth 100000 in
theorem c_X8_message {l : Launch} (hlt : l.stackTraces = false) {D : va_G} {cs : Nat → ClassId} {B0 T : Nat} {κ : KM} {H0 : Heap} (hT : WT B0 D cs T κ H0) {w : Nat} (hw : T2 κ w 9 13) {C : Nat → Nat} {LN : Nat → Nat → Nat} (hR : RQ D cs κ H0 C LN er) {x : Int32} {y : Int32} : KT l yX8_message wsX8_message 7 122 ((336 * sumN C 16 + 137000 - PotN LN) / 35) (336 * sumN C 16 + 137000 - PotN LN) D cs B0 H0 [.ref w, .int x, .int y] (Qi (fun _ H => ∃ κ1, KW κ κ1 ∧ WT B0 D cs T κ1 H ∧ ∃ C1 LN1 k n, sumN C1 16 ≤ sumN C 16 + 24 ∧ RQ D cs κ1 H C1 LN1 er ∧ GQ H0 H LN LN1 k n ∧ BTK D cs κ H0 H)) (TQ ["java/util/NoSuchElementException", "java/lang/IllegalArgumentException"] H0) := by
  refine KT.of cX8_message 3 (some .int) (by decide) rfl (Nat.le_of_ble_eq_true rfl) ?_
  intro p e s m below meth c ls hx hb hr hml hown hts hlocks hnx hN hE hH0 hl
  have hown : s.vm.findClass RX8 = some m.cls := hown
  have hl : lv_has ls 3 [(0, .ref w), (1, .int x), (2, .int y)] := hl
  have hL : OkL B0 [] := OkL.nil
  have hGN : 35 * 0 ≤ 0 ∧ 0 + PotN LN ≤ PotN LN := ⟨Nat.le_refl _, by omega⟩
  have hs0 := hR.pot
  have hbt : BTK D cs κ H0 H0 := BTK.rf
  refine lv_iload_n hx hb dX8_message_0 rfl (lv_at hl 1 rfl) ?_
  refine lv_if_lt (tgt := 18) hx hb dX8_message_1 (by decide) (fun c3594 => ?_) (fun c3594 => ?_)
  · exact tx_up (Qu := fun E1 H1 => E1 = "java/util/NoSuchElementException" ∧ H0.size ≤ H1.size ∧ ∀ q : Nat, q < H0.size → H1[q]? = H0[q]?) (tx_n2 (Qo := fun _ _ => False) (E := "java/util/NoSuchElementException") 3 hx hb hlt hown hN (by decide +kernel) (hts _ mX8_message_1) (hts _ mX8_message_2) (hN.s 12 rfl) rfl (fun w h => hts w (xgX8_message_109_3 w h)) xnRX8_109_3 xdRX8_109_3 xoRX8_105_109_3 hE.1 (by rw [hH0]; exact ⟨Nat.le_refl _, fun _ _ _ => rfl, hL⟩) (fun H1 g1 g2 => ⟨rfl, g1, g2⟩) hl hml dX8_message_18 dX8_message_21 dX8_message_22 dX8_message_24 dX8_message_27 hnx (Nat.le_of_ble_eq_true rfl) (Nat.le_of_ble_eq_true rfl) (show 0 + 1 ≤ ((336 * sumN C 16 + 137000 - PotN LN) / 35) by omega) (show 0 + 6 ≤ (336 * sumN C 16 + 137000 - PotN LN) by omega) hlocks (Nat.le_refl _) (Nat.le_refl _)) hH0 (show 1 ≤ ((336 * sumN C 16 + 137000 - PotN LN) / 35) by omega) (show 6 ≤ (336 * sumN C 16 + 137000 - PotN LN) by omega) (fun E1 H1 g g3 => ⟨by rw [g.1]; simp, g.2.1, g.2.2, g3⟩)
  · refine lv_iload_n hx hb dX8_message_4 rfl (lv_at hl 1 rfl) ?_
    refine lv_aload_n hx hb dX8_message_5 rfl (lv_at hl 0 rfl) ?_
    obtain ⟨hb3595, e3595, hat3595, hk3595⟩ := hT.o9 hw.1
    obtain ⟨f3595_0, f3595_1, f3595_2, f3595_3, f3595_4, f3595_5, f3595_6, rfl, t3595_0, t3595_1, t3595_2, t3595_3, rfl, rfl, rfl⟩ := hk3595
    have hP : va_P D vwCl [(w, .inr (8, [.ref (cs 450), .ref (cs 440), .ref (cs 441), .ref f3595_3, .int f3595_4, .int f3595_5, .int f3595_6]))] _ := va_P.cons hat3595 va_P.nil
    refine va_get (D := D) (ci := 8) (v := .ref (cs 440)) (C := RX8) (T := TX8) (N := 7) hx hb hts iX8_message_8 hown hN.1 hP 0 rfl rfl 1 (by decide) (hts _ mX8_message_3) (fun _ h9 => h9) rfl dX8_message_6 ?_
    obtain ⟨hb3596, e3596, hat3596, hk3596⟩ := hT.o8 t3595_1.1
    obtain ⟨f3596_0, f3596_1, f3596_2, f3596_3, f3596_4, f3596_5, f3596_6, f3596_7, f3596_8, f3596_9, f3596_10, f3596_11, f3596_12, f3596_13, f3596_14, f3596_15, rfl, t3596_0, c3596_su, t3596_1, t3596_2, t3596_3, t3596_4, t3596_5, c3596_tm, c3596_lt, c3596_ml, c3596_pr, c3596_li⟩ := hk3596
    rw [t3595_1.2] at t3596_1
    rw [t3595_1.2] at t3596_2
    rw [t3595_1.2] at t3596_3
    rw [t3595_1.2] at t3596_4
    rw [t3595_1.2] at t3596_5
    rw [t3595_1.2] at c3596_lt c3596_ml c3596_pr c3596_li
    subst c3596_ml
    subst c3596_pr
    subst c3596_li
    have hP : va_P D vwCl [((cs 440), .inr (7, [.ref f3596_0, .ref f3596_1, .ref (cs (400 + 0)), .ref (cs (420 + 0)), .ref (cs (460 + 0)), .ref f3596_5, .long f3596_6, .int f3596_7, .int f3596_8, .int f3596_9, .int f3596_10, .int f3596_11, .int f3596_12, .int f3596_13, .int f3596_14, .int f3596_15])), (w, .inr (8, [.ref (cs 450), .ref (cs 440), .ref (cs 441), .ref f3595_3, .int f3595_4, .int f3595_5, .int f3595_6]))] _ := va_P.cons hat3596 hP
    refine va_getN (D := D) (ci := 7) (v := .ref (cs (400 + 0))) (C := RX7) (T := TX7) (N := 16) hx hb hts iX8_message_7 hown hN.1 hP 0 rfl rfl 2 (by decide) (hN.f 47 rfl) (fun _ h9 => h9) rfl dX8_message_9 ?_
    obtain ⟨hb3597, e3597, hat3597, hk3597⟩ := hT.o3 t3596_2.1
    obtain ⟨f3597_0, f3597_1, f3597_2, rfl, t3597_0, t3597_1⟩ := hk3597
    rw [t3596_2.2] at t3597_0
    rw [t3596_2.2] at t3597_1
    have hP : va_P D vwCl [((cs (400 + 0)), .inr (2, [.ref f3597_0, .ref f3597_1, .int f3597_2])), ((cs 440), .inr (7, [.ref f3596_0, .ref f3596_1, .ref (cs (400 + 0)), .ref (cs (420 + 0)), .ref (cs (460 + 0)), .ref f3596_5, .long f3596_6, .int f3596_7, .int f3596_8, .int f3596_9, .int f3596_10, .int f3596_11, .int f3596_12, .int f3596_13, .int f3596_14, .int f3596_15])), (w, .inr (8, [.ref (cs 450), .ref (cs 440), .ref (cs 441), .ref f3595_3, .int f3595_4, .int f3595_5, .int f3595_6]))] _ := va_P.cons hat3597 hP
    refine va_getN (D := D) (ci := 2) (v := .int f3597_2) (C := RX2) (T := TX2) (N := 3) hx hb hts iX8_message_2 hown hN.1 hP 0 rfl rfl 2 (by decide) (hN.f 3 rfl) (fun _ h9 => h9) rfl dX8_message_12 ?_
    refine lv_icmp_lt (tgt := 28) hx hb dX8_message_15 (by decide) (fun c3598 => ?_) (fun c3598 => ?_)
    · refine lv_aload_n hx hb dX8_message_28 rfl (lv_at hl 0 rfl) ?_
      refine lv_iload_n hx hb dX8_message_29 rfl (lv_at hl 2 rfl) ?_
      refine lv_iconst (v := 5) hx hb dX8_message_30 (by decide) ?_
      refine ct_V (As := [.int y, .int 5]) (rest := []) (b := w) ⟨hx, hb, hml, hown, hts⟩ (c_X8_refuseWhatOutside hlt hT (w := w) hw (x := y) (y := 5)) (cwV 2 hts gX8_message_X8_refuseWhatOutside rfl rfl rfl hdX8_refuseWhatOutside_v ⟨Nat.le_of_ble_eq_true rfl, Nat.le_of_ble_eq_true rfl⟩) hN hE hL (rcv9 hN hT hw.1) rfl rfl hl.1 (Nat.le_of_ble_eq_true rfl) dX8_message_31 (show 0 + 1 ≤ ((336 * sumN C 16 + 137000 - PotN LN) / 35) by omega) (show 0 + 6 ≤ (336 * sumN C 16 + 137000 - PotN LN) by omega) (fun E9 q9 ce9 H1 locs hL hq h1 h2 h3 => ct_up hnx hlocks h1 h2 h3 (hq.mono (by decide +kernel)) hL (show 0 + 1 ≤ ((336 * sumN C 16 + 137000 - PotN LN) / 35) by omega) (show 0 + 6 ≤ (336 * sumN C 16 + 137000 - PotN LN) by omega)) (fun v9 H1 locs hL hqr3599 => ?_)
      obtain ⟨rfl, hqr3599⟩ := hqr3599
      refine W.eq (g2 := F0 m 34 ls []) rfl ?_
      obtain rfl := hqr3599.symm
      refine W.tight (k := 0) (n := 0) (by rw [hH0]; exact Gr.rf) ?_
      refine lv_aload_n hx hb dX8_message_34 rfl (lv_at hl 0 rfl) ?_
      refine va_get (D := D) (ci := 8) (v := .ref (cs 440)) (C := RX8) (T := TX8) (N := 7) hx hb hts iX8_message_8 hown hN.1 hP 2 rfl rfl 1 (by decide) (hts _ mX8_message_3) (fun _ h9 => h9) rfl dX8_message_35 ?_
      refine lv_iload_n hx hb dX8_message_38 rfl (lv_at hl 1 rfl) ?_
      refine lv_iload_n hx hb dX8_message_39 rfl (lv_at hl 2 rfl) ?_
      refine cv_i (As := [.int x, .int y]) (rest := []) (b := (cs 440)) ⟨hx, hb, hml, hown, hts⟩ (c_X7_tellMessage hT (w := (cs 440)) t3595_1 (x := x) (y := y)) (cwV 2 hts gX8_message_X7_tellMessage rfl rfl rfl hdX7_tellMessage_v ⟨Nat.le_of_ble_eq_true rfl, Nat.le_of_ble_eq_true rfl⟩) hN hE hL (rcv8 hN hT t3595_1.1) rfl rfl hl.1 (Nat.le_of_ble_eq_true rfl) dX8_message_40 (Nat.zero_le _) (Nat.zero_le _) (fun r3600 H1 locs hL hqr3600 => ?_)
      obtain ⟨hT1, hF1⟩ := hqr3600
      have hR := hR.fr hT trivial hF1 (by decide)
      have hbt := hbt.fr KZ.rf hT (hT.rd hw) hF1 (by first | decide | (simp; omega)) (by first | decide | (simp; omega))
      have hT := hT1
      refine W.know (fun hg => ?_)
      rw [hH0] at hg
      exact vx_ret (en_i hx hb hr hlocks hL rfl (Nat.zero_le _) (Nat.zero_le _) dX8_message_43 (⟨κ, KW.rf, hT, C, LN, 0, 0, Nat.le_add_right _ _, hR, ⟨hg, hGN⟩, hbt⟩))
    · exact tx_up (Qu := fun E1 H1 => E1 = "java/util/NoSuchElementException" ∧ H0.size ≤ H1.size ∧ ∀ q : Nat, q < H0.size → H1[q]? = H0[q]?) (tx_n2 (Qo := fun _ _ => False) (E := "java/util/NoSuchElementException") 3 hx hb hlt hown hN (by decide +kernel) (hts _ mX8_message_1) (hts _ mX8_message_2) (hN.s 12 rfl) rfl (fun w h => hts w (xgX8_message_109_3 w h)) xnRX8_109_3 xdRX8_109_3 xoRX8_105_109_3 hE.1 (by rw [hH0]; exact ⟨Nat.le_refl _, fun _ _ _ => rfl, hL⟩) (fun H1 g1 g2 => ⟨rfl, g1, g2⟩) hl hml dX8_message_18 dX8_message_21 dX8_message_22 dX8_message_24 dX8_message_27 hnx (Nat.le_of_ble_eq_true rfl) (Nat.le_of_ble_eq_true rfl) (show 0 + 1 ≤ ((336 * sumN C 16 + 137000 - PotN LN) / 35) by omega) (show 0 + 6 ≤ (336 * sumN C 16 + 137000 - PotN LN) by omega) hlocks (Nat.le_refl _) (Nat.le_refl _)) hH0 (show 1 ≤ ((336 * sumN C 16 + 137000 - PotN LN) / 35) by omega) (show 6 ≤ (336 * sumN C 16 + 137000 - PotN LN) by omega) (fun E1 H1 g g3 => ⟨by rw [g.1]; simp, g.2.1, g.2.2, g3⟩)
theorem mX8_proposal_3 : (.fieldLink RX8 19 "OneBeat" "now" "LOneBeat$World;" : Cond) ∈ wsX8_proposal := List.mem_of_getElem? (i := 3) (by decide +kernel)
theorem iX8_proposal_8 : ∀ w ∈ wsX80, w ∈ wsX8_proposal := fun w h => List.mem_of_mem_drop (List.mem_of_mem_take ((show wsX80 = (wsX8_proposal.drop 22).take 7 by decide +kernel) ▸ h))
theorem iX8_proposal_7 : ∀ w ∈ wsX70, w ∈ wsX8_proposal := fun w h => List.mem_of_mem_drop (List.mem_of_mem_take ((show wsX70 = (wsX8_proposal.drop 29).take 16 by decide +kernel) ▸ h))
theorem hdX4_tell_v : yX4_tell.cls = RX4 ∧ yX4_tell.cls ≠ "java/lang/invoke/MethodHandle" ∧ yX4_tell.cls ≠ "java/lang/invoke/VarHandle" ∧ (parseMethodDescriptor yX4_tell.desc).map (fun d => d.parameters.length) = some 1 := by decide +kernel
theorem xgX8_proposal_109_3 : ∀ w ∈ (xnse RX8 109).filter goodWord, w ∈ wsX8_proposal := fun w h => by unfold wsX8_proposal; exact List.mem_cons_of_mem _ (List.mem_append_left _ (List.mem_append_right _ h))
theorem mX8_proposal_1 : (.classLink RX8 105 "java/util/NoSuchElementException" : Cond) ∈ wsX8_proposal := List.mem_of_getElem? (i := 1) (by decide +kernel)
theorem mX8_proposal_2 : (.initialized "java/util/NoSuchElementException" : Cond) ∈ wsX8_proposal := List.mem_of_getElem? (i := 2) (by decide +kernel)
set_option maxHeartbeats 4000000 in
set_option maxRecDepth 100000 in
theorem c_X8_proposal {l : Launch} (hlt : l.stackTraces = false) {D : va_G} {cs : Nat → ClassId} {B0 T : Nat} {κ : KM} {H0 : Heap} (hT : WT B0 D cs T κ H0) {w : Nat} (hw : T2 κ w 9 13) {C : Nat → Nat} {LN : Nat → Nat → Nat} (hR : RQ D cs κ H0 C LN er) {x : Int32} : KT l yX8_proposal wsX8_proposal 7 122 ((336 * sumN C 16 + 137000 - PotN LN) / 35) (336 * sumN C 16 + 137000 - PotN LN) D cs B0 H0 [.ref w, .int x] (Qi (fun _ H => ∃ κ1, KW κ κ1 ∧ WT B0 D cs T κ1 H ∧ ∃ C1 LN1 k n, sumN C1 16 ≤ sumN C 16 + 24 ∧ RQ D cs κ1 H C1 LN1 er ∧ GQ H0 H LN LN1 k n ∧ BTK D cs κ H0 H)) (TQ ["java/util/NoSuchElementException", "java/lang/IllegalArgumentException"] H0) := by
  refine KT.of cX8_proposal 2 (some .int) (by decide) rfl (Nat.le_of_ble_eq_true rfl) ?_
  intro p e s m below meth c ls hx hb hr hml hown hts hlocks hnx hN hE hH0 hl
  have hown : s.vm.findClass RX8 = some m.cls := hown
  have hl : lv_has ls 2 [(0, .ref w), (1, .int x)] := hl
  have hL : OkL B0 [] := OkL.nil
  have hGN : 35 * 0 ≤ 0 ∧ 0 + PotN LN ≤ PotN LN := ⟨Nat.le_refl _, by omega⟩
  have hs0 := hR.pot
  have hbt : BTK D cs κ H0 H0 := BTK.rf
  refine lv_aload_n hx hb dX8_proposal_0 rfl (lv_at hl 0 rfl) ?_
  obtain ⟨hb3601, e3601, hat3601, hk3601⟩ := hT.o9 hw.1
  obtain ⟨f3601_0, f3601_1, f3601_2, f3601_3, f3601_4, f3601_5, f3601_6, rfl, t3601_0, t3601_1, t3601_2, t3601_3, rfl, rfl, rfl⟩ := hk3601
  have hP : va_P D vwCl [(w, .inr (8, [.ref (cs 450), .ref (cs 440), .ref (cs 441), .ref f3601_3, .int f3601_4, .int f3601_5, .int f3601_6]))] _ := va_P.cons hat3601 va_P.nil
  refine va_get (D := D) (ci := 8) (v := .ref (cs 440)) (C := RX8) (T := TX8) (N := 7) hx hb hts iX8_proposal_8 hown hN.1 hP 0 rfl rfl 1 (by decide) (hts _ mX8_proposal_3) (fun _ h9 => h9) rfl dX8_proposal_1 ?_
  obtain ⟨hb3602, e3602, hat3602, hk3602⟩ := hT.o8 t3601_1.1
  obtain ⟨f3602_0, f3602_1, f3602_2, f3602_3, f3602_4, f3602_5, f3602_6, f3602_7, f3602_8, f3602_9, f3602_10, f3602_11, f3602_12, f3602_13, f3602_14, f3602_15, rfl, t3602_0, c3602_su, t3602_1, t3602_2, t3602_3, t3602_4, t3602_5, c3602_tm, c3602_lt, c3602_ml, c3602_pr, c3602_li⟩ := hk3602
  rw [t3601_1.2] at t3602_1
  rw [t3601_1.2] at t3602_2
  rw [t3601_1.2] at t3602_3
  rw [t3601_1.2] at t3602_4
  rw [t3601_1.2] at t3602_5
  rw [t3601_1.2] at c3602_lt c3602_ml c3602_pr c3602_li
  subst c3602_ml
  subst c3602_pr
  subst c3602_li
  have hP : va_P D vwCl [((cs 440), .inr (7, [.ref f3602_0, .ref f3602_1, .ref (cs (400 + 0)), .ref (cs (420 + 0)), .ref (cs (460 + 0)), .ref f3602_5, .long f3602_6, .int f3602_7, .int f3602_8, .int f3602_9, .int f3602_10, .int f3602_11, .int f3602_12, .int f3602_13, .int f3602_14, .int f3602_15])), (w, .inr (8, [.ref (cs 450), .ref (cs 440), .ref (cs 441), .ref f3601_3, .int f3601_4, .int f3601_5, .int f3601_6]))] _ := va_P.cons hat3602 hP
  refine va_getN (D := D) (ci := 7) (v := .int f3602_11) (C := RX7) (T := TX7) (N := 16) hx hb hts iX8_proposal_7 hown hN.1 hP 0 rfl rfl 11 (by decide) (hN.f 50 rfl) (fun _ h9 => h9) rfl dX8_proposal_4 ?_
  refine lv_if_ne (tgt := 20) hx hb dX8_proposal_7 (by decide) (fun c3603 => ?_) (fun c3603 => ?_)
  · refine lv_aload_n hx hb dX8_proposal_20 rfl (lv_at hl 0 rfl) ?_
    refine lv_iload_n hx hb dX8_proposal_21 rfl (lv_at hl 1 rfl) ?_
    refine lv_iconst (v := 5) hx hb dX8_proposal_22 (by decide) ?_
    refine ct_V (As := [.int x, .int 5]) (rest := []) (b := w) ⟨hx, hb, hml, hown, hts⟩ (c_X8_refuseWhatOutside hlt hT (w := w) hw (x := x) (y := 5)) (cwV 2 hts gX8_proposal_X8_refuseWhatOutside rfl rfl rfl hdX8_refuseWhatOutside_v ⟨Nat.le_of_ble_eq_true rfl, Nat.le_of_ble_eq_true rfl⟩) hN hE hL (rcv9 hN hT hw.1) rfl rfl hl.1 (Nat.le_of_ble_eq_true rfl) dX8_proposal_23 (show 0 + 1 ≤ ((336 * sumN C 16 + 137000 - PotN LN) / 35) by omega) (show 0 + 6 ≤ (336 * sumN C 16 + 137000 - PotN LN) by omega) (fun E9 q9 ce9 H1 locs hL hq h1 h2 h3 => ct_up hnx hlocks h1 h2 h3 (hq.mono (by decide +kernel)) hL (show 0 + 1 ≤ ((336 * sumN C 16 + 137000 - PotN LN) / 35) by omega) (show 0 + 6 ≤ (336 * sumN C 16 + 137000 - PotN LN) by omega)) (fun v9 H1 locs hL hqr3604 => ?_)
    obtain ⟨rfl, hqr3604⟩ := hqr3604
    refine W.eq (g2 := F0 m 26 ls []) rfl ?_
    obtain rfl := hqr3604.symm
    refine W.tight (k := 0) (n := 0) (by rw [hH0]; exact Gr.rf) ?_
    refine lv_aload_n hx hb dX8_proposal_26 rfl (lv_at hl 0 rfl) ?_
    refine va_get (D := D) (ci := 8) (v := .ref (cs 440)) (C := RX8) (T := TX8) (N := 7) hx hb hts iX8_proposal_8 hown hN.1 hP 1 rfl rfl 1 (by decide) (hts _ mX8_proposal_3) (fun _ h9 => h9) rfl dX8_proposal_27 ?_
    refine va_getN (D := D) (ci := 7) (v := .ref (cs (420 + 0))) (C := RX7) (T := TX7) (N := 16) hx hb hts iX8_proposal_7 hown hN.1 hP 0 rfl rfl 3 (by decide) (hN.f 48 rfl) (fun _ h9 => h9) rfl dX8_proposal_30 ?_
    refine lv_iload_n hx hb dX8_proposal_33 rfl (lv_at hl 1 rfl) ?_
    refine cv_i (As := [.int x]) (rest := []) (b := (cs (420 + 0))) ⟨hx, hb, hml, hown, hts⟩ (c_X4_tell hT (w := (cs (420 + 0))) t3602_3 (x := x)) (cwV 1 hts gX8_proposal_X4_tell rfl rfl rfl hdX4_tell_v ⟨Nat.le_of_ble_eq_true rfl, Nat.le_of_ble_eq_true rfl⟩) hN hE hL (rcv5 hN hT t3602_3.1) rfl rfl hl.1 (Nat.le_of_ble_eq_true rfl) dX8_proposal_34 (Nat.zero_le _) (Nat.zero_le _) (fun r3605 H1 locs hL hqr3605 => ?_)
    obtain rfl := hqr3605.symm
    refine W.know (fun hg => ?_)
    rw [hH0] at hg
    exact vx_ret (en_i hx hb hr hlocks hL rfl (Nat.zero_le _) (Nat.zero_le _) dX8_proposal_37 (⟨κ, KW.rf, hT, C, LN, 0, 0, Nat.le_add_right _ _, hR, ⟨hg, hGN⟩, hbt⟩))
  · exact tx_up (Qu := fun E1 H1 => E1 = "java/util/NoSuchElementException" ∧ H0.size ≤ H1.size ∧ ∀ q : Nat, q < H0.size → H1[q]? = H0[q]?) (tx_n2 (Qo := fun _ _ => False) (E := "java/util/NoSuchElementException") 3 hx hb hlt hown hN (by decide +kernel) (hts _ mX8_proposal_1) (hts _ mX8_proposal_2) (hN.s 13 rfl) rfl (fun w h => hts w (xgX8_proposal_109_3 w h)) xnRX8_109_3 xdRX8_109_3 xoRX8_105_109_3 hE.1 (by rw [hH0]; exact ⟨Nat.le_refl _, fun _ _ _ => rfl, hL⟩) (fun H1 g1 g2 => ⟨rfl, g1, g2⟩) hl hml dX8_proposal_10 dX8_proposal_13 dX8_proposal_14 dX8_proposal_16 dX8_proposal_19 hnx (Nat.le_of_ble_eq_true rfl) (Nat.le_of_ble_eq_true rfl) (show 0 + 1 ≤ ((336 * sumN C 16 + 137000 - PotN LN) / 35) by omega) (show 0 + 6 ≤ (336 * sumN C 16 + 137000 - PotN LN) by omega) hlocks (Nat.le_refl _) (Nat.le_refl _)) hH0 (show 1 ≤ ((336 * sumN C 16 + 137000 - PotN LN) / 35) by omega) (show 6 ≤ (336 * sumN C 16 + 137000 - PotN LN) by omega) (fun E1 H1 g g3 => ⟨by rw [g.1]; simp, g.2.1, g.2.2, g3⟩)
theorem hdX8_keepForUndo_v : yX8_keepForUndo.cls = RX8 ∧ yX8_keepForUndo.cls ≠ "java/lang/invoke/MethodHandle" ∧ yX8_keepForUndo.cls ≠ "java/lang/invoke/VarHandle" ∧ (parseMethodDescriptor yX8_keepForUndo.desc).map (fun d => d.parameters.length) = some 0 := by decide +kernel
theorem mX8_power_1 : (.fieldLink RX8 19 "OneBeat" "now" "LOneBeat$World;" : Cond) ∈ wsX8_power := List.mem_of_getElem? (i := 1) (by decide +kernel)
theorem iX8_power_8 : ∀ w ∈ wsX80, w ∈ wsX8_power := fun w h => List.mem_of_mem_drop (List.mem_of_mem_take ((show wsX80 = (wsX8_power.drop 93).take 7 by decide +kernel) ▸ h))
theorem hdX3_turn_v : yX3_turn.cls = RX3 ∧ yX3_turn.cls ≠ "java/lang/invoke/MethodHandle" ∧ yX3_turn.cls ≠ "java/lang/invoke/VarHandle" ∧ (parseMethodDescriptor yX3_turn.desc).map (fun d => d.parameters.length) = some 1 := by decide +kernel
set_option maxHeartbeats 4000000 in
set_option maxRecDepth 100000 in
theorem c_X8_power {l : Launch} (hlt : l.stackTraces = false) {D : va_G} {cs : Nat → ClassId} {B0 T : Nat} {κ : KM} {H0 : Heap} (hT : WT B0 D cs T κ H0) {w : Nat} (hw : T2 κ w 9 13) {C : Nat → Nat} {LN : Nat → Nat → Nat} (hR : RQ D cs κ H0 C LN er) {x : Int32} {b_y : Int32} (qb_y : b_y = 0 ∨ b_y = 1) : KT l yX8_power wsX8_power 7 126 ((336 * sumN C 16 + 137000 - PotN LN) / 35) (336 * sumN C 16 + 137000 - PotN LN) D cs B0 H0 [.ref w, .int x, .int b_y] (Qi (fun _ H => ∃ κ1, KW κ κ1 ∧ WT B0 D cs T κ1 H ∧ ∃ C1 LN1 k n, sumN C1 16 ≤ sumN C 16 + 24 ∧ RQ D cs κ1 H C1 LN1 er ∧ GQ H0 H LN LN1 k n ∧ BTK D cs κ H0 H)) (TQ ["java/lang/IndexOutOfBoundsException"] H0) := by
  refine KT.of cX8_power 3 (some .boolean) (by decide) rfl (Nat.le_of_ble_eq_true rfl) ?_
  intro p e s m below meth c ls hx hb hr hml hown hts hlocks hnx hN hE hH0 hl
  have hown : s.vm.findClass RX8 = some m.cls := hown
  have hl : lv_has ls 3 [(0, .ref w), (1, .int x), (2, .int b_y)] := hl
  have hL : OkL B0 [] := OkL.nil
  have hGN : 35 * 0 ≤ 0 ∧ 0 + PotN LN ≤ PotN LN := ⟨Nat.le_refl _, by omega⟩
  have hs0 := hR.pot
  have hbt : BTK D cs κ H0 H0 := BTK.rf
  refine lv_aload_n hx hb dX8_power_0 rfl (lv_at hl 0 rfl) ?_
  refine lv_iload_n hx hb dX8_power_1 rfl (lv_at hl 1 rfl) ?_
  refine ct_V (As := [.int x]) (rest := []) (b := w) ⟨hx, hb, hml, hown, hts⟩ (c_X8_refuseNoPlayer hlt hT (w := w) hw (x := x)) (cwV 1 hts gX8_power_X8_refuseNoPlayer rfl rfl rfl hdX8_refuseNoPlayer_v ⟨Nat.le_of_ble_eq_true rfl, Nat.le_of_ble_eq_true rfl⟩) hN hE hL (rcv9 hN hT hw.1) rfl rfl hl.1 (Nat.le_of_ble_eq_true rfl) dX8_power_2 (show 0 + 1 ≤ ((336 * sumN C 16 + 137000 - PotN LN) / 35) by omega) (show 0 + 6 ≤ (336 * sumN C 16 + 137000 - PotN LN) by omega) (fun E9 q9 ce9 H1 locs hL hq h1 h2 h3 => ct_up hnx hlocks h1 h2 h3 (hq.mono (by decide +kernel)) hL (show 0 + 1 ≤ ((336 * sumN C 16 + 137000 - PotN LN) / 35) by omega) (show 0 + 6 ≤ (336 * sumN C 16 + 137000 - PotN LN) by omega)) (fun v9 H1 locs hL hqr3606 => ?_)
  obtain ⟨rfl, hqr3606⟩ := hqr3606
  refine W.eq (g2 := F0 m 5 ls []) rfl ?_
  obtain rfl := hqr3606.symm
  refine W.tight (k := 0) (n := 0) (by rw [hH0]; exact Gr.rf) ?_
  refine lv_aload_n hx hb dX8_power_5 rfl (lv_at hl 0 rfl) ?_
  refine W.know (fun hgb => ?_)
  rw [hH0] at hgb
  refine cv_v (As := []) (rest := []) (b := w) ⟨hx, hb, hml, hown, hts⟩ (c_X8_keepForUndo hT (w := w) hw hR) (cwV 0 hts gX8_power_X8_keepForUndo rfl rfl rfl hdX8_keepForUndo_v ⟨Nat.le_of_ble_eq_true rfl, Nat.le_of_ble_eq_true rfl⟩) hN hE hL (rcv9 hN hT hw.1) rfl rfl hl.1 (Nat.le_of_ble_eq_true rfl) dX8_power_6 (show 0 + ((336 * sumN C 16 + 137000 - PotN LN) / 35) ≤ ((336 * sumN C 16 + 137000 - PotN LN) / 35) by omega) (show 0 + (336 * sumN C 16 + 137000 - PotN LN) ≤ (336 * sumN C 16 + 137000 - PotN LN) by omega) (fun H1 locs hL hqr3607 => ?_)
  obtain ⟨κr3607, hxr3607, hT1, hqr3607⟩ := hqr3607
  have hxfr3607 := hxr3607.1
  have hKZo : KZ κ κ := KZ.rf
  have hT := hT1
  have hKF : KF κ κr3607 := hxfr3607
  have hKW : KW κ κr3607 := hxr3607
  have hw := (KF.t2 hxfr3607 hw (by decide))
  obtain ⟨L3608, k3609, n3610, r3611, g3612, t3613⟩ := hqr3607
  have hR := r3611
  obtain ⟨k3614, n3615, hGP⟩ : ∃ k9 n9, GQ H0 _ LN L3608 k9 n9 := ⟨_, _, GQ.tr (show GQ H0 _ LN LN _ _ from ⟨hgb, hGN⟩) g3612⟩
  refine W.tight (k := k3614) (n := n3615) (by rw [hH0]; exact hGP.1) ?_
  have hGN : 35 * k3614 ≤ n3615 ∧ n3615 + PotN LN ≤ PotN L3608 := hGP.2
  have hgk3614 := hGN.1
  have hgn3615 := hGN.2
  have hsk3614 := hR.pot
  have hbt := hbt.tr hKZo t3613
  refine lv_aload_n hx hb dX8_power_9 rfl (lv_at hl 0 rfl) ?_
  obtain ⟨hb3616, e3616, hat3616, hk3616⟩ := hT.o9 hw.1
  obtain ⟨f3616_0, f3616_1, f3616_2, f3616_3, f3616_4, f3616_5, f3616_6, rfl, t3616_0, t3616_1, t3616_2, t3616_3, rfl, rfl, rfl⟩ := hk3616
  have hP : va_P D vwCl [(w, .inr (8, [.ref (cs 450), .ref (cs 440), .ref (cs 441), .ref f3616_3, .int f3616_4, .int f3616_5, .int f3616_6]))] _ := va_P.cons hat3616 va_P.nil
  refine va_get (D := D) (ci := 8) (v := .ref (cs 440)) (C := RX8) (T := TX8) (N := 7) hx hb hts iX8_power_8 hown hN.1 hP 0 rfl rfl 1 (by decide) (hts _ mX8_power_1) (fun _ h9 => h9) rfl dX8_power_10 ?_
  refine lv_iload_n hx hb dX8_power_13 rfl (lv_at hl 1 rfl) ?_
  refine cv_r (As := [.int x]) (rest := []) (b := (cs 440)) ⟨hx, hb, hml, hown, hts⟩ (c_X7_at hT (w := (cs 440)) t3616_1 (x := x)) (cwV 1 hts gX8_power_X7_at rfl rfl rfl hdX7_at_v ⟨Nat.le_of_ble_eq_true rfl, Nat.le_of_ble_eq_true rfl⟩) hN hE hL (rcv8 hN hT t3616_1.1) rfl rfl hl.1 (Nat.le_of_ble_eq_true rfl) dX8_power_14 (show k3614 + 0 ≤ ((336 * sumN C 16 + 137000 - PotN LN) / 35) by omega) (show n3615 + 0 ≤ (336 * sumN C 16 + 137000 - PotN LN) by omega) (fun r3617 H1 locs hL hqr3617 => ?_)
  obtain ⟨h9, hqr3617⟩ := hqr3617; replace h9 := h9.symm; subst h9
  refine lv_iload_n hx hb dX8_power_17 rfl (lv_at hl 2 rfl) ?_
  refine cv_i (As := [.int b_y]) (rest := []) (b := r3617) ⟨hx, hb, hml, hown, hts⟩ (c_X3_turn hT (w := r3617) hqr3617 (x := b_y) (by first | omega | decide | assumption)) (cwV 1 hts gX8_power_X3_turn rfl rfl rfl hdX3_turn_v ⟨Nat.le_of_ble_eq_true rfl, Nat.le_of_ble_eq_true rfl⟩) hN hE hL (rcv4 hN hT hqr3617.1) rfl rfl hl.1 (Nat.le_of_ble_eq_true rfl) dX8_power_18 (show k3614 + 0 ≤ ((336 * sumN C 16 + 137000 - PotN LN) / 35) by omega) (show n3615 + 0 ≤ (336 * sumN C 16 + 137000 - PotN LN) by omega) (fun r3618 H1 locs hL hqr3618 => ?_)
  obtain ⟨hT1, hF1, hqr3618⟩ := hqr3618
  have hP : va_P D vwCl [(w, .inr (8, [.ref (cs 450), .ref (cs 440), .ref (cs 441), .ref f3616_3, .int f3616_4, .int f3616_5, .int f3616_6]))] _ := hF1.hP (hP.sub [0] rfl) (fa_c ⟨by rw [hw.1]; decide, by rw [hw.2]; first | decide | (simp; done) | (simp [h15a, h15b, h15c]; done) | (simp; omega)⟩ fa_n)
  have hR := hR.fr hT trivial hF1 (by decide)
  have hbt := hbt.fr hKW.z hT (hT.rd hw) hF1 (by first | decide | (simp; omega)) (by first | decide | (simp; omega))
  have hT := hT1
  refine W.know (fun hg => ?_)
  rw [hH0] at hg
  exact vx_ret (en_i hx hb hr hlocks hL (nb hqr3618) (show k3614 ≤ ((336 * sumN C 16 + 137000 - PotN LN) / 35) by omega) (show n3615 ≤ (336 * sumN C 16 + 137000 - PotN LN) by omega) dX8_power_21 (⟨_, hKW, hT, C, _, _, _, Nat.le_add_right _ _, hR, ⟨hg, hGN⟩, hbt⟩))
theorem mX8_cut_3 : (.fieldLink RX8 19 "OneBeat" "now" "LOneBeat$World;" : Cond) ∈ wsX8_cut := List.mem_of_getElem? (i := 3) (by decide +kernel)
theorem iX8_cut_8 : ∀ w ∈ wsX80, w ∈ wsX8_cut := fun w h => List.mem_of_mem_drop (List.mem_of_mem_take ((show wsX80 = (wsX8_cut.drop 109).take 7 by decide +kernel) ▸ h))
theorem hdX7_setCut_v : yX7_setCut.cls = RX7 ∧ yX7_setCut.cls ≠ "java/lang/invoke/MethodHandle" ∧ yX7_setCut.cls ≠ "java/lang/invoke/VarHandle" ∧ (parseMethodDescriptor yX7_setCut.desc).map (fun d => d.parameters.length) = some 3 := by decide +kernel
theorem xgX8_cut_186_1 : ∀ w ∈ (vx_atS RX8 186 "java/lang/IllegalStateException" ["java/lang/RuntimeException", "java/lang/Exception"]).filter goodWord, w ∈ wsX8_cut := fun w h => by unfold wsX8_cut; exact List.mem_cons_of_mem _ (List.mem_append_left _ (List.mem_append_right _ h))
theorem xnRX8_186_1 : ∀ w ∈ (vx_atS RX8 186 "java/lang/IllegalStateException" ["java/lang/RuntimeException", "java/lang/Exception"]).filter (fun w => !goodWord w), w ∈ Cond.castable "java/lang/IllegalStateException" "java/lang/IllegalStateException" :: xdD := by decide +kernel
theorem xdRX8_186_1 : xdL.all (fun w => decide (w ∈ (vx_atS RX8 186 "java/lang/IllegalStateException" ["java/lang/RuntimeException", "java/lang/Exception"]).filter goodWord)) = true := by decide +kernel
theorem xoRX8_182_186_1 : ∀ w ∈ Cond.classLink RX8 182 "java/lang/IllegalStateException" :: Cond.initialized "java/lang/IllegalStateException" :: (vx_atS RX8 186 "java/lang/IllegalStateException" ["java/lang/RuntimeException", "java/lang/Exception"]), vx_ot w = true := by decide +kernel
theorem mX8_cut_1 : (.classLink RX8 182 "java/lang/IllegalStateException" : Cond) ∈ wsX8_cut := List.mem_of_getElem? (i := 1) (by decide +kernel)
theorem mX8_cut_2 : (.initialized "java/lang/IllegalStateException" : Cond) ∈ wsX8_cut := List.mem_of_getElem? (i := 2) (by decide +kernel)
set_option maxHeartbeats 4000000 in
set_option maxRecDepth 100000 in
theorem c_X8_cut {l : Launch} (hlt : l.stackTraces = false) {D : va_G} {cs : Nat → ClassId} {B0 T : Nat} {κ : KM} {H0 : Heap} (hT : WT B0 D cs T κ H0) {w : Nat} (hw : T2 κ w 9 13) {C : Nat → Nat} {LN : Nat → Nat → Nat} (hR : RQ D cs κ H0 C LN er) {x : Int32} {y : Int32} {b_z : Int32} (qb_z : b_z = 0 ∨ b_z = 1) : KT l yX8_cut wsX8_cut 7 126 ((336 * sumN C 16 + 137000 - PotN LN) / 35) (336 * sumN C 16 + 137000 - PotN LN) D cs B0 H0 [.ref w, .int x, .int y, .int b_z] (Qi (fun _ H => ∃ κ1, KW κ κ1 ∧ WT B0 D cs T κ1 H ∧ ∃ C1 LN1 k n, sumN C1 16 ≤ sumN C 16 + 24 ∧ RQ D cs κ1 H C1 LN1 er ∧ GQ H0 H LN LN1 k n ∧ BTK D cs κ H0 H)) (TQ ["java/lang/IndexOutOfBoundsException", "java/lang/IllegalStateException"] H0) := by
  refine KT.of cX8_cut 5 (some .boolean) (by decide) rfl (Nat.le_of_ble_eq_true rfl) ?_
  intro p e s m below meth c ls hx hb hr hml hown hts hlocks hnx hN hE hH0 hl
  have hown : s.vm.findClass RX8 = some m.cls := hown
  have hl : lv_has ls 5 [(0, .ref w), (1, .int x), (2, .int y), (3, .int b_z)] := hl
  have hL : OkL B0 [] := OkL.nil
  have hGN : 35 * 0 ≤ 0 ∧ 0 + PotN LN ≤ PotN LN := ⟨Nat.le_refl _, by omega⟩
  have hs0 := hR.pot
  have hbt : BTK D cs κ H0 H0 := BTK.rf
  refine lv_aload_n hx hb dX8_cut_0 rfl (lv_at hl 0 rfl) ?_
  refine lv_iload_n hx hb dX8_cut_1 rfl (lv_at hl 1 rfl) ?_
  refine ct_V (As := [.int x]) (rest := []) (b := w) ⟨hx, hb, hml, hown, hts⟩ (c_X8_refuseNoPlayer hlt hT (w := w) hw (x := x)) (cwV 1 hts gX8_cut_X8_refuseNoPlayer rfl rfl rfl hdX8_refuseNoPlayer_v ⟨Nat.le_of_ble_eq_true rfl, Nat.le_of_ble_eq_true rfl⟩) hN hE hL (rcv9 hN hT hw.1) rfl rfl hl.1 (Nat.le_of_ble_eq_true rfl) dX8_cut_2 (show 0 + 1 ≤ ((336 * sumN C 16 + 137000 - PotN LN) / 35) by omega) (show 0 + 6 ≤ (336 * sumN C 16 + 137000 - PotN LN) by omega) (fun E9 q9 ce9 H1 locs hL hq h1 h2 h3 => ct_up hnx hlocks h1 h2 h3 (hq.mono (by decide +kernel)) hL (show 0 + 1 ≤ ((336 * sumN C 16 + 137000 - PotN LN) / 35) by omega) (show 0 + 6 ≤ (336 * sumN C 16 + 137000 - PotN LN) by omega)) (fun v9 H1 locs hL hqr3619 => ?_)
  obtain ⟨rfl, hqr3619⟩ := hqr3619
  refine W.eq (g2 := F0 m 5 ls []) rfl ?_
  obtain rfl := hqr3619.symm
  refine W.tight (k := 0) (n := 0) (by rw [hH0]; exact Gr.rf) ?_
  refine lv_aload_n hx hb dX8_cut_5 rfl (lv_at hl 0 rfl) ?_
  refine lv_iload_n hx hb dX8_cut_6 rfl (lv_at hl 2 rfl) ?_
  refine ct_V (As := [.int y]) (rest := []) (b := w) ⟨hx, hb, hml, hown, hts⟩ (c_X8_refuseNoPlayer hlt hT (w := w) hw (x := y)) (cwV 1 hts gX8_cut_X8_refuseNoPlayer rfl rfl rfl hdX8_refuseNoPlayer_v ⟨Nat.le_of_ble_eq_true rfl, Nat.le_of_ble_eq_true rfl⟩) hN hE hL (rcv9 hN hT hw.1) rfl rfl hl.1 (Nat.le_of_ble_eq_true rfl) dX8_cut_7 (show 0 + 1 ≤ ((336 * sumN C 16 + 137000 - PotN LN) / 35) by omega) (show 0 + 6 ≤ (336 * sumN C 16 + 137000 - PotN LN) by omega) (fun E9 q9 ce9 H1 locs hL hq h1 h2 h3 => ct_up hnx hlocks h1 h2 h3 (hq.mono (by decide +kernel)) hL (show 0 + 1 ≤ ((336 * sumN C 16 + 137000 - PotN LN) / 35) by omega) (show 0 + 6 ≤ (336 * sumN C 16 + 137000 - PotN LN) by omega)) (fun v9 H1 locs hL hqr3620 => ?_)
  obtain ⟨rfl, hqr3620⟩ := hqr3620
  refine W.eq (g2 := F0 m 10 ls []) rfl ?_
  obtain rfl := hqr3620.symm
  refine W.tight (k := 0) (n := 0) (by rw [hH0]; exact Gr.rf) ?_
  refine lv_aload_n hx hb dX8_cut_10 rfl (lv_at hl 0 rfl) ?_
  obtain ⟨hb3621, e3621, hat3621, hk3621⟩ := hT.o9 hw.1
  obtain ⟨f3621_0, f3621_1, f3621_2, f3621_3, f3621_4, f3621_5, f3621_6, rfl, t3621_0, t3621_1, t3621_2, t3621_3, rfl, rfl, rfl⟩ := hk3621
  have hP : va_P D vwCl [(w, .inr (8, [.ref (cs 450), .ref (cs 440), .ref (cs 441), .ref f3621_3, .int f3621_4, .int f3621_5, .int f3621_6]))] _ := va_P.cons hat3621 va_P.nil
  refine va_get (D := D) (ci := 8) (v := .ref (cs 440)) (C := RX8) (T := TX8) (N := 7) hx hb hts iX8_cut_8 hown hN.1 hP 0 rfl rfl 1 (by decide) (hts _ mX8_cut_3) (fun _ h9 => h9) rfl dX8_cut_11 ?_
  refine lv_iload_n hx hb dX8_cut_14 rfl (lv_at hl 1 rfl) ?_
  refine lv_iload_n hx hb dX8_cut_15 rfl (lv_at hl 2 rfl) ?_
  refine cv_i (As := [.int x, .int y]) (rest := []) (b := (cs 440)) ⟨hx, hb, hml, hown, hts⟩ (c_X7_delay hT (w := (cs 440)) t3621_1 (x := x) (y := y)) (cwV 2 hts gX8_cut_X7_delay rfl rfl rfl hdX7_delay_v ⟨Nat.le_of_ble_eq_true rfl, Nat.le_of_ble_eq_true rfl⟩) hN hE hL (rcv8 hN hT t3621_1.1) rfl rfl hl.1 (Nat.le_of_ble_eq_true rfl) dX8_cut_16 (Nat.zero_le _) (Nat.zero_le _) (fun r3622 H1 locs hL hqr3622 => ?_)
  obtain ⟨h9, hqr3622⟩ := hqr3622; replace h9 := h9.symm; subst h9
  obtain ⟨n3623, h3624, rfl⟩ := hqr3622
  refine lv_if_ne (tgt := 32) hx hb dX8_cut_19 (by decide) (fun c3625 => ?_) (fun c3625 => ?_)
  · have c3625 : ¬ n3623 = 0 := fun h9 => c3625 ((nI_eq (a := n3623) (b := 0) (by omega) (by omega)).mpr h9)
    refine lv_aload_n hx hb dX8_cut_32 rfl (lv_at hl 0 rfl) ?_
    refine W.know (fun hgb => ?_)
    rw [hH0] at hgb
    refine cv_v (As := []) (rest := []) (b := w) ⟨hx, hb, hml, hown, hts⟩ (c_X8_keepForUndo hT (w := w) hw hR) (cwV 0 hts gX8_cut_X8_keepForUndo rfl rfl rfl hdX8_keepForUndo_v ⟨Nat.le_of_ble_eq_true rfl, Nat.le_of_ble_eq_true rfl⟩) hN hE hL (rcv9 hN hT hw.1) rfl rfl hl.1 (Nat.le_of_ble_eq_true rfl) dX8_cut_33 (show 0 + ((336 * sumN C 16 + 137000 - PotN LN) / 35) ≤ ((336 * sumN C 16 + 137000 - PotN LN) / 35) by omega) (show 0 + (336 * sumN C 16 + 137000 - PotN LN) ≤ (336 * sumN C 16 + 137000 - PotN LN) by omega) (fun H1 locs hL hqr3626 => ?_)
    obtain ⟨κr3626, hxr3626, hT1, hqr3626⟩ := hqr3626
    have hxfr3626 := hxr3626.1
    have hKZo : KZ κ κ := KZ.rf
    have hT := hT1
    have hKF : KF κ κr3626 := hxfr3626
    have hKW : KW κ κr3626 := hxr3626
    have hw := (KF.t2 hxfr3626 hw (by decide))
    obtain ⟨L3627, k3628, n3629, r3630, g3631, t3632⟩ := hqr3626
    have hR := r3630
    obtain ⟨k3633, n3634, hGP⟩ : ∃ k9 n9, GQ H0 _ LN L3627 k9 n9 := ⟨_, _, GQ.tr (show GQ H0 _ LN LN _ _ from ⟨hgb, hGN⟩) g3631⟩
    refine W.tight (k := k3633) (n := n3634) (by rw [hH0]; exact hGP.1) ?_
    have hGN : 35 * k3633 ≤ n3634 ∧ n3634 + PotN LN ≤ PotN L3627 := hGP.2
    have hgk3633 := hGN.1
    have hgn3634 := hGN.2
    have hsk3633 := hR.pot
    have hbt := hbt.tr hKZo t3632
    refine lv_aload_n hx hb dX8_cut_36 rfl (lv_at hl 0 rfl) ?_
    obtain ⟨hb3635, e3635, hat3635, hk3635⟩ := hT.o9 hw.1
    obtain ⟨f3635_0, f3635_1, f3635_2, f3635_3, f3635_4, f3635_5, f3635_6, rfl, t3635_0, t3635_1, t3635_2, t3635_3, rfl, rfl, rfl⟩ := hk3635
    have hP : va_P D vwCl [(w, .inr (8, [.ref (cs 450), .ref (cs 440), .ref (cs 441), .ref f3635_3, .int f3635_4, .int f3635_5, .int f3635_6]))] _ := va_P.cons hat3635 va_P.nil
    refine va_get (D := D) (ci := 8) (v := .ref (cs 440)) (C := RX8) (T := TX8) (N := 7) hx hb hts iX8_cut_8 hown hN.1 hP 0 rfl rfl 1 (by decide) (hts _ mX8_cut_3) (fun _ h9 => h9) rfl dX8_cut_37 ?_
    refine lv_iload_n hx hb dX8_cut_40 rfl (lv_at hl 1 rfl) ?_
    refine lv_iload_n hx hb dX8_cut_41 rfl (lv_at hl 2 rfl) ?_
    refine cv_i (As := [.int x, .int y]) (rest := []) (b := (cs 440)) ⟨hx, hb, hml, hown, hts⟩ (c_X7_isCut hT (w := (cs 440)) t3635_1 (x := x) (y := y)) (cwV 2 hts gX8_cut_X7_isCut rfl rfl rfl hdX7_isCut_v ⟨Nat.le_of_ble_eq_true rfl, Nat.le_of_ble_eq_true rfl⟩) hN hE hL (rcv8 hN hT t3635_1.1) rfl rfl hl.1 (Nat.le_of_ble_eq_true rfl) dX8_cut_42 (show k3633 + 0 ≤ ((336 * sumN C 16 + 137000 - PotN LN) / 35) by omega) (show n3634 + 0 ≤ (336 * sumN C 16 + 137000 - PotN LN) by omega) (fun r3636 H1 locs hL hqr3636 => ?_)
    obtain ⟨h9, hqr3636⟩ := hqr3636; replace h9 := h9.symm; subst h9
    rcases hqr3636 with rfl | rfl
    · refine lv_istore (lv' := [(4, .int 0), (0, .ref w), (1, .int x), (2, .int y), (3, .int b_z)]) hx hb dX8_cut_45 hl (by decide) rfl (fun ls hl => ?_)
      refine lv_aload_n hx hb dX8_cut_47 rfl (lv_at hl 1 rfl) ?_
      refine va_get (D := D) (ci := 8) (v := .ref (cs 440)) (C := RX8) (T := TX8) (N := 7) hx hb hts iX8_cut_8 hown hN.1 hP 0 rfl rfl 1 (by decide) (hts _ mX8_cut_3) (fun _ h9 => h9) rfl dX8_cut_48 ?_
      refine lv_iload_n hx hb dX8_cut_51 rfl (lv_at hl 2 rfl) ?_
      refine lv_iload_n hx hb dX8_cut_52 rfl (lv_at hl 3 rfl) ?_
      refine lv_iload_n hx hb dX8_cut_53 rfl (lv_at hl 4 rfl) ?_
      refine cv_v (As := [.int x, .int y, .int b_z]) (rest := []) (b := (cs 440)) ⟨hx, hb, hml, hown, hts⟩ (c_X7_setCut hT (w := (cs 440)) t3635_1 (x := x) (y := y) (z := b_z)) (cwV 3 hts gX8_cut_X7_setCut rfl rfl rfl hdX7_setCut_v ⟨Nat.le_of_ble_eq_true rfl, Nat.le_of_ble_eq_true rfl⟩) hN hE hL (rcv8 hN hT t3635_1.1) rfl rfl hl.1 (Nat.le_of_ble_eq_true rfl) dX8_cut_54 (show k3633 + 0 ≤ ((336 * sumN C 16 + 137000 - PotN LN) / 35) by omega) (show n3634 + 0 ≤ (336 * sumN C 16 + 137000 - PotN LN) by omega) (fun H1 locs hL hqr3637 => ?_)
      obtain ⟨hT1, hF1⟩ := hqr3637
      have hP : va_P D vwCl [(w, .inr (8, [.ref (cs 450), .ref (cs 440), .ref (cs 441), .ref f3635_3, .int f3635_4, .int f3635_5, .int f3635_6]))] _ := hF1.hP (hP.sub [0] rfl) (fa_c ⟨by rw [hw.1]; decide, by rw [hw.2]; first | decide | (simp; done) | (simp [h15a, h15b, h15c]; done) | (simp; omega)⟩ fa_n)
      have hR := hR.fr hT trivial hF1 (by decide)
      have hbt := hbt.fr hKW.z hT (hT.rd hw) hF1 (by first | decide | (simp; omega)) (by first | decide | (simp; omega))
      have hT := hT1
      refine lv_iload hx hb dX8_cut_57 (lv_at hl 0 rfl) ?_
      refine W.know (fun hg => ?_)
      rw [hH0] at hg
      exact vx_ret (en_i hx hb hr hlocks hL rfl (show k3633 ≤ ((336 * sumN C 16 + 137000 - PotN LN) / 35) by omega) (show n3634 ≤ (336 * sumN C 16 + 137000 - PotN LN) by omega) dX8_cut_59 (⟨_, hKW, hT, C, _, _, _, Nat.le_add_right _ _, hR, ⟨hg, hGN⟩, hbt⟩))
    · refine lv_istore (lv' := [(4, .int 1), (0, .ref w), (1, .int x), (2, .int y), (3, .int b_z)]) hx hb dX8_cut_45 hl (by decide) rfl (fun ls hl => ?_)
      refine lv_aload_n hx hb dX8_cut_47 rfl (lv_at hl 1 rfl) ?_
      refine va_get (D := D) (ci := 8) (v := .ref (cs 440)) (C := RX8) (T := TX8) (N := 7) hx hb hts iX8_cut_8 hown hN.1 hP 0 rfl rfl 1 (by decide) (hts _ mX8_cut_3) (fun _ h9 => h9) rfl dX8_cut_48 ?_
      refine lv_iload_n hx hb dX8_cut_51 rfl (lv_at hl 2 rfl) ?_
      refine lv_iload_n hx hb dX8_cut_52 rfl (lv_at hl 3 rfl) ?_
      refine lv_iload_n hx hb dX8_cut_53 rfl (lv_at hl 4 rfl) ?_
      refine cv_v (As := [.int x, .int y, .int b_z]) (rest := []) (b := (cs 440)) ⟨hx, hb, hml, hown, hts⟩ (c_X7_setCut hT (w := (cs 440)) t3635_1 (x := x) (y := y) (z := b_z)) (cwV 3 hts gX8_cut_X7_setCut rfl rfl rfl hdX7_setCut_v ⟨Nat.le_of_ble_eq_true rfl, Nat.le_of_ble_eq_true rfl⟩) hN hE hL (rcv8 hN hT t3635_1.1) rfl rfl hl.1 (Nat.le_of_ble_eq_true rfl) dX8_cut_54 (show k3633 + 0 ≤ ((336 * sumN C 16 + 137000 - PotN LN) / 35) by omega) (show n3634 + 0 ≤ (336 * sumN C 16 + 137000 - PotN LN) by omega) (fun H1 locs hL hqr3638 => ?_)
      obtain ⟨hT1, hF1⟩ := hqr3638
      have hP : va_P D vwCl [(w, .inr (8, [.ref (cs 450), .ref (cs 440), .ref (cs 441), .ref f3635_3, .int f3635_4, .int f3635_5, .int f3635_6]))] _ := hF1.hP (hP.sub [0] rfl) (fa_c ⟨by rw [hw.1]; decide, by rw [hw.2]; first | decide | (simp; done) | (simp [h15a, h15b, h15c]; done) | (simp; omega)⟩ fa_n)
      have hR := hR.fr hT trivial hF1 (by decide)
      have hbt := hbt.fr hKW.z hT (hT.rd hw) hF1 (by first | decide | (simp; omega)) (by first | decide | (simp; omega))
      have hT := hT1
      refine lv_iload hx hb dX8_cut_57 (lv_at hl 0 rfl) ?_
      refine W.know (fun hg => ?_)
      rw [hH0] at hg
      exact vx_ret (en_i hx hb hr hlocks hL rfl (show k3633 ≤ ((336 * sumN C 16 + 137000 - PotN LN) / 35) by omega) (show n3634 ≤ (336 * sumN C 16 + 137000 - PotN LN) by omega) dX8_cut_59 (⟨_, hKW, hT, C, _, _, _, Nat.le_add_right _ _, hR, ⟨hg, hGN⟩, hbt⟩))
  · have c3625 : n3623 = 0 := (nI_eq (a := n3623) (b := 0) (by omega) (by omega)).mp c3625
    exact tx_up (Qu := fun E1 H1 => E1 = "java/lang/IllegalStateException" ∧ H0.size ≤ H1.size ∧ ∀ q : Nat, q < H0.size → H1[q]? = H0[q]?) (tx_g2 (Qo := fun _ _ => False) (E := "java/lang/IllegalStateException") 1 hx hb hlt hown hN (by decide +kernel) (hts _ mX8_cut_1) (hts _ mX8_cut_2) (hN.s 18 rfl) rfl (fun w h => hts w (xgX8_cut_186_1 w h)) xnRX8_186_1 xdRX8_186_1 xoRX8_182_186_1 hE.1 (by rw [hH0]; exact ⟨Nat.le_refl _, fun _ _ _ => rfl, hL⟩) (fun H1 g1 g2 => ⟨rfl, g1, g2⟩) hl hml dX8_cut_22 dX8_cut_25 dX8_cut_26 dX8_cut_28 dX8_cut_31 hnx (Nat.le_of_ble_eq_true rfl) (Nat.le_of_ble_eq_true rfl) (show 0 + 1 ≤ ((336 * sumN C 16 + 137000 - PotN LN) / 35) by omega) (show 0 + 6 ≤ (336 * sumN C 16 + 137000 - PotN LN) by omega) hlocks (Nat.le_refl _) (Nat.le_refl _)) hH0 (show 1 ≤ ((336 * sumN C 16 + 137000 - PotN LN) / 35) by omega) (show 6 ≤ (336 * sumN C 16 + 137000 - PotN LN) by omega) (fun E1 H1 g g3 => ⟨by rw [g.1]; simp, g.2.1, g.2.2, g3⟩)
theorem mX8_lead_1 : (.fieldLink RX8 19 "OneBeat" "now" "LOneBeat$World;" : Cond) ∈ wsX8_lead := List.mem_of_getElem? (i := 1) (by decide +kernel)
theorem iX8_lead_8 : ∀ w ∈ wsX80, w ∈ wsX8_lead := fun w h => List.mem_of_mem_drop (List.mem_of_mem_take ((show wsX80 = (wsX8_lead.drop 88).take 7 by decide +kernel) ▸ h))
theorem iX8_lead_7 : ∀ w ∈ wsX70, w ∈ wsX8_lead := fun w h => List.mem_of_mem_drop (List.mem_of_mem_take ((show wsX70 = (wsX8_lead.drop 95).take 16 by decide +kernel) ▸ h))
theorem hdX7_makeConductor_v : yX7_makeConductor.cls = RX7 ∧ yX7_makeConductor.cls ≠ "java/lang/invoke/MethodHandle" ∧ yX7_makeConductor.cls ≠ "java/lang/invoke/VarHandle" ∧ (parseMethodDescriptor yX7_makeConductor.desc).map (fun d => d.parameters.length) = some 1 := by decide +kernel
set_option maxHeartbeats 4000000 in
set_option maxRecDepth 100000 in
theorem c_X8_lead {l : Launch} (hlt : l.stackTraces = false) {D : va_G} {cs : Nat → ClassId} {B0 T : Nat} {κ : KM} {H0 : Heap} (hT : WT B0 D cs T κ H0) {w : Nat} (hw : T2 κ w 9 13) {C : Nat → Nat} {LN : Nat → Nat → Nat} (hR : RQ D cs κ H0 C LN er) {x : Int32} : KT l yX8_lead wsX8_lead 7 126 ((336 * sumN C 16 + 137000 - PotN LN) / 35) (336 * sumN C 16 + 137000 - PotN LN) D cs B0 H0 [.ref w, .int x] (Qi (fun _ H => ∃ κ1, KW κ κ1 ∧ WT B0 D cs T κ1 H ∧ ∃ C1 LN1 k n, sumN C1 16 ≤ sumN C 16 + 24 ∧ RQ D cs κ1 H C1 LN1 er ∧ GQ H0 H LN LN1 k n ∧ BTK D cs κ H0 H)) (TQ ["java/lang/IndexOutOfBoundsException"] H0) := by
  refine KT.of cX8_lead 3 (some .int) (by decide) rfl (Nat.le_of_ble_eq_true rfl) ?_
  intro p e s m below meth c ls hx hb hr hml hown hts hlocks hnx hN hE hH0 hl
  have hown : s.vm.findClass RX8 = some m.cls := hown
  have hl : lv_has ls 3 [(0, .ref w), (1, .int x)] := hl
  have hL : OkL B0 [] := OkL.nil
  have hGN : 35 * 0 ≤ 0 ∧ 0 + PotN LN ≤ PotN LN := ⟨Nat.le_refl _, by omega⟩
  have hs0 := hR.pot
  have hbt : BTK D cs κ H0 H0 := BTK.rf
  refine lv_aload_n hx hb dX8_lead_0 rfl (lv_at hl 0 rfl) ?_
  refine lv_iload_n hx hb dX8_lead_1 rfl (lv_at hl 1 rfl) ?_
  refine ct_V (As := [.int x]) (rest := []) (b := w) ⟨hx, hb, hml, hown, hts⟩ (c_X8_refuseNoPlayer hlt hT (w := w) hw (x := x)) (cwV 1 hts gX8_lead_X8_refuseNoPlayer rfl rfl rfl hdX8_refuseNoPlayer_v ⟨Nat.le_of_ble_eq_true rfl, Nat.le_of_ble_eq_true rfl⟩) hN hE hL (rcv9 hN hT hw.1) rfl rfl hl.1 (Nat.le_of_ble_eq_true rfl) dX8_lead_2 (show 0 + 1 ≤ ((336 * sumN C 16 + 137000 - PotN LN) / 35) by omega) (show 0 + 6 ≤ (336 * sumN C 16 + 137000 - PotN LN) by omega) (fun E9 q9 ce9 H1 locs hL hq h1 h2 h3 => ct_up hnx hlocks h1 h2 h3 (hq.mono (by decide +kernel)) hL (show 0 + 1 ≤ ((336 * sumN C 16 + 137000 - PotN LN) / 35) by omega) (show 0 + 6 ≤ (336 * sumN C 16 + 137000 - PotN LN) by omega)) (fun v9 H1 locs hL hqr3639 => ?_)
  obtain ⟨rfl, hqr3639⟩ := hqr3639
  refine W.eq (g2 := F0 m 5 ls []) rfl ?_
  obtain rfl := hqr3639.symm
  refine W.tight (k := 0) (n := 0) (by rw [hH0]; exact Gr.rf) ?_
  refine lv_aload_n hx hb dX8_lead_5 rfl (lv_at hl 0 rfl) ?_
  refine W.know (fun hgb => ?_)
  rw [hH0] at hgb
  refine cv_v (As := []) (rest := []) (b := w) ⟨hx, hb, hml, hown, hts⟩ (c_X8_keepForUndo hT (w := w) hw hR) (cwV 0 hts gX8_lead_X8_keepForUndo rfl rfl rfl hdX8_keepForUndo_v ⟨Nat.le_of_ble_eq_true rfl, Nat.le_of_ble_eq_true rfl⟩) hN hE hL (rcv9 hN hT hw.1) rfl rfl hl.1 (Nat.le_of_ble_eq_true rfl) dX8_lead_6 (show 0 + ((336 * sumN C 16 + 137000 - PotN LN) / 35) ≤ ((336 * sumN C 16 + 137000 - PotN LN) / 35) by omega) (show 0 + (336 * sumN C 16 + 137000 - PotN LN) ≤ (336 * sumN C 16 + 137000 - PotN LN) by omega) (fun H1 locs hL hqr3640 => ?_)
  obtain ⟨κr3640, hxr3640, hT1, hqr3640⟩ := hqr3640
  have hxfr3640 := hxr3640.1
  have hKZo : KZ κ κ := KZ.rf
  have hT := hT1
  have hKF : KF κ κr3640 := hxfr3640
  have hKW : KW κ κr3640 := hxr3640
  have hw := (KF.t2 hxfr3640 hw (by decide))
  obtain ⟨L3641, k3642, n3643, r3644, g3645, t3646⟩ := hqr3640
  have hR := r3644
  obtain ⟨k3647, n3648, hGP⟩ : ∃ k9 n9, GQ H0 _ LN L3641 k9 n9 := ⟨_, _, GQ.tr (show GQ H0 _ LN LN _ _ from ⟨hgb, hGN⟩) g3645⟩
  refine W.tight (k := k3647) (n := n3648) (by rw [hH0]; exact hGP.1) ?_
  have hGN : 35 * k3647 ≤ n3648 ∧ n3648 + PotN LN ≤ PotN L3641 := hGP.2
  have hgk3647 := hGN.1
  have hgn3648 := hGN.2
  have hsk3647 := hR.pot
  have hbt := hbt.tr hKZo t3646
  refine lv_aload_n hx hb dX8_lead_9 rfl (lv_at hl 0 rfl) ?_
  obtain ⟨hb3649, e3649, hat3649, hk3649⟩ := hT.o9 hw.1
  obtain ⟨f3649_0, f3649_1, f3649_2, f3649_3, f3649_4, f3649_5, f3649_6, rfl, t3649_0, t3649_1, t3649_2, t3649_3, rfl, rfl, rfl⟩ := hk3649
  have hP : va_P D vwCl [(w, .inr (8, [.ref (cs 450), .ref (cs 440), .ref (cs 441), .ref f3649_3, .int f3649_4, .int f3649_5, .int f3649_6]))] _ := va_P.cons hat3649 va_P.nil
  refine va_get (D := D) (ci := 8) (v := .ref (cs 440)) (C := RX8) (T := TX8) (N := 7) hx hb hts iX8_lead_8 hown hN.1 hP 0 rfl rfl 1 (by decide) (hts _ mX8_lead_1) (fun _ h9 => h9) rfl dX8_lead_10 ?_
  obtain ⟨hb3650, e3650, hat3650, hk3650⟩ := hT.o8 t3649_1.1
  obtain ⟨f3650_0, f3650_1, f3650_2, f3650_3, f3650_4, f3650_5, f3650_6, f3650_7, f3650_8, f3650_9, f3650_10, f3650_11, f3650_12, f3650_13, f3650_14, f3650_15, rfl, t3650_0, c3650_su, t3650_1, t3650_2, t3650_3, t3650_4, t3650_5, c3650_tm, c3650_lt, c3650_ml, c3650_pr, c3650_li⟩ := hk3650
  rw [t3649_1.2] at t3650_1
  rw [t3649_1.2] at t3650_2
  rw [t3649_1.2] at t3650_3
  rw [t3649_1.2] at t3650_4
  rw [t3649_1.2] at t3650_5
  rw [t3649_1.2] at c3650_lt c3650_ml c3650_pr c3650_li
  subst c3650_ml
  subst c3650_pr
  subst c3650_li
  have hP : va_P D vwCl [((cs 440), .inr (7, [.ref f3650_0, .ref f3650_1, .ref (cs (400 + 0)), .ref (cs (420 + 0)), .ref (cs (460 + 0)), .ref f3650_5, .long f3650_6, .int f3650_7, .int f3650_8, .int f3650_9, .int f3650_10, .int f3650_11, .int f3650_12, .int f3650_13, .int f3650_14, .int f3650_15])), (w, .inr (8, [.ref (cs 450), .ref (cs 440), .ref (cs 441), .ref f3649_3, .int f3649_4, .int f3649_5, .int f3649_6]))] _ := va_P.cons hat3650 hP
  refine va_getN (D := D) (ci := 7) (v := .int f3650_8) (C := RX7) (T := TX7) (N := 16) hx hb hts iX8_lead_7 hown hN.1 hP 0 rfl rfl 8 (by decide) (hN.f 49 rfl) (fun _ h9 => h9) rfl dX8_lead_13 ?_
  refine lv_istore_n (lv' := [(2, .int f3650_8), (0, .ref w), (1, .int x)]) hx hb dX8_lead_16 rfl hl (by decide) rfl (fun ls hl => ?_)
  refine lv_aload_n hx hb dX8_lead_17 rfl (lv_at hl 1 rfl) ?_
  refine va_get (D := D) (ci := 8) (v := .ref (cs 440)) (C := RX8) (T := TX8) (N := 7) hx hb hts iX8_lead_8 hown hN.1 hP 1 rfl rfl 1 (by decide) (hts _ mX8_lead_1) (fun _ h9 => h9) rfl dX8_lead_18 ?_
  refine lv_iload_n hx hb dX8_lead_21 rfl (lv_at hl 2 rfl) ?_
  refine cv_v (As := [.int x]) (rest := []) (b := (cs 440)) ⟨hx, hb, hml, hown, hts⟩ (c_X7_makeConductor hT (w := (cs 440)) t3649_1 (x := x)) (cwV 1 hts gX8_lead_X7_makeConductor rfl rfl rfl hdX7_makeConductor_v ⟨Nat.le_of_ble_eq_true rfl, Nat.le_of_ble_eq_true rfl⟩) hN hE hL (rcv8 hN hT t3649_1.1) rfl rfl hl.1 (Nat.le_of_ble_eq_true rfl) dX8_lead_22 (show k3647 + 0 ≤ ((336 * sumN C 16 + 137000 - PotN LN) / 35) by omega) (show n3648 + 0 ≤ (336 * sumN C 16 + 137000 - PotN LN) by omega) (fun H1 locs hL hqr3651 => ?_)
  obtain ⟨hT1, hF1⟩ := hqr3651
  have hP : va_P D vwCl [(w, .inr (8, [.ref (cs 450), .ref (cs 440), .ref (cs 441), .ref f3649_3, .int f3649_4, .int f3649_5, .int f3649_6]))] _ := hF1.hP (hP.sub [1] rfl) (fa_c ⟨by rw [hw.1]; decide, by rw [hw.2]; first | decide | (simp; done) | (simp [h15a, h15b, h15c]; done) | (simp; omega)⟩ fa_n)
  have hR := hR.fr hT trivial hF1 (by decide)
  have hbt := hbt.fr hKW.z hT (hT.rd hw) hF1 (by first | decide | (simp; omega)) (by first | decide | (simp; omega))
  have hT := hT1
  refine lv_iload_n hx hb dX8_lead_25 rfl (lv_at hl 0 rfl) ?_
  refine W.know (fun hg => ?_)
  rw [hH0] at hg
  exact vx_ret (en_i hx hb hr hlocks hL rfl (show k3647 ≤ ((336 * sumN C 16 + 137000 - PotN LN) / 35) by omega) (show n3648 ≤ (336 * sumN C 16 + 137000 - PotN LN) by omega) dX8_lead_26 (⟨_, hKW, hT, C, _, _, _, Nat.le_add_right _ _, hR, ⟨hg, hGN⟩, hbt⟩))
theorem mX8_ask_3 : (.fieldLink RX8 19 "OneBeat" "now" "LOneBeat$World;" : Cond) ∈ wsX8_ask := List.mem_of_getElem? (i := 3) (by decide +kernel)
theorem iX8_ask_8 : ∀ w ∈ wsX80, w ∈ wsX8_ask := fun w h => List.mem_of_mem_drop (List.mem_of_mem_take ((show wsX80 = (wsX8_ask.drop 124).take 7 by decide +kernel) ▸ h))
theorem iX8_ask_3 : ∀ w ∈ wsX30, w ∈ wsX8_ask := fun w h => List.mem_of_mem_drop (List.mem_of_mem_take ((show wsX30 = (wsX8_ask.drop 131).take 10 by decide +kernel) ▸ h))
theorem xgX8_ask_186_1 : ∀ w ∈ (vx_atS RX8 186 "java/lang/IllegalStateException" ["java/lang/RuntimeException", "java/lang/Exception"]).filter goodWord, w ∈ wsX8_ask := fun w h => by unfold wsX8_ask; exact List.mem_cons_of_mem _ (List.mem_append_left _ (List.mem_append_right _ h))
theorem mX8_ask_1 : (.classLink RX8 182 "java/lang/IllegalStateException" : Cond) ∈ wsX8_ask := List.mem_of_getElem? (i := 1) (by decide +kernel)
theorem mX8_ask_2 : (.initialized "java/lang/IllegalStateException" : Cond) ∈ wsX8_ask := List.mem_of_getElem? (i := 2) (by decide +kernel)
theorem iX8_ask_7 : ∀ w ∈ wsX70, w ∈ wsX8_ask := fun w h => List.mem_of_mem_drop (List.mem_of_mem_take ((show wsX70 = (wsX8_ask.drop 141).take 16 by decide +kernel) ▸ h))
theorem hdX7_sendAsk_v : yX7_sendAsk.cls = RX7 ∧ yX7_sendAsk.cls ≠ "java/lang/invoke/MethodHandle" ∧ yX7_sendAsk.cls ≠ "java/lang/invoke/VarHandle" ∧ (parseMethodDescriptor yX7_sendAsk.desc).map (fun d => d.parameters.length) = some 1 := by decide +kernel
set_option maxHeartbeats 4000000 in
set_option maxRecDepth 100000 in
theorem c_X8_ask {l : Launch} (hlt : l.stackTraces = false) {D : va_G} {cs : Nat → ClassId} {B0 T : Nat} {κ : KM} {H0 : Heap} (hT : WT B0 D cs T κ H0) {w : Nat} (hw : T2 κ w 9 13) {C : Nat → Nat} {LN : Nat → Nat → Nat} (hR : RQ D cs κ H0 C LN er) {x : Int32} (hC : sumN C 16 + 24 ≤ 12400) : KT l yX8_ask wsX8_ask 7 134 ((336 * sumN C 16 + 137000 - PotN LN) / 35) (336 * sumN C 16 + 137000 - PotN LN) D cs B0 H0 [.ref w, .int x] (Qi (fun _ H => ∃ κ1, KW κ κ1 ∧ WT B0 D cs T κ1 H ∧ ∃ C1 LN1 k n, sumN C1 16 ≤ sumN C 16 + 24 ∧ RQ D cs κ1 H C1 LN1 er ∧ GQ H0 H LN LN1 k n ∧ BTK D cs κ H0 H)) (TQ ["java/lang/IndexOutOfBoundsException", "java/lang/IllegalStateException"] H0) := by
  refine KT.of cX8_ask 2 (some .boolean) (by decide) rfl (Nat.le_of_ble_eq_true rfl) ?_
  intro p e s m below meth c ls hx hb hr hml hown hts hlocks hnx hN hE hH0 hl
  have hown : s.vm.findClass RX8 = some m.cls := hown
  have hl : lv_has ls 2 [(0, .ref w), (1, .int x)] := hl
  have hL : OkL B0 [] := OkL.nil
  have hGN : 35 * 0 ≤ 0 ∧ 0 + PotN LN ≤ PotN LN := ⟨Nat.le_refl _, by omega⟩
  have hs0 := hR.pot
  have hbt : BTK D cs κ H0 H0 := BTK.rf
  refine lv_aload_n hx hb dX8_ask_0 rfl (lv_at hl 0 rfl) ?_
  refine lv_iload_n hx hb dX8_ask_1 rfl (lv_at hl 1 rfl) ?_
  refine ct_V (As := [.int x]) (rest := []) (b := w) ⟨hx, hb, hml, hown, hts⟩ (c_X8_refuseNoPlayer hlt hT (w := w) hw (x := x)) (cwV 1 hts gX8_ask_X8_refuseNoPlayer rfl rfl rfl hdX8_refuseNoPlayer_v ⟨Nat.le_of_ble_eq_true rfl, Nat.le_of_ble_eq_true rfl⟩) hN hE hL (rcv9 hN hT hw.1) rfl rfl hl.1 (Nat.le_of_ble_eq_true rfl) dX8_ask_2 (show 0 + 1 ≤ ((336 * sumN C 16 + 137000 - PotN LN) / 35) by omega) (show 0 + 6 ≤ (336 * sumN C 16 + 137000 - PotN LN) by omega) (fun E9 q9 ce9 H1 locs hL hq h1 h2 h3 => ct_up hnx hlocks h1 h2 h3 (hq.mono (by decide +kernel)) hL (show 0 + 1 ≤ ((336 * sumN C 16 + 137000 - PotN LN) / 35) by omega) (show 0 + 6 ≤ (336 * sumN C 16 + 137000 - PotN LN) by omega)) (fun v9 H1 locs hL hqr3652 => ?_)
  obtain ⟨rfl, hqr3652⟩ := hqr3652
  refine W.eq (g2 := F0 m 5 ls []) rfl ?_
  obtain rfl := hqr3652.symm
  refine W.tight (k := 0) (n := 0) (by rw [hH0]; exact Gr.rf) ?_
  refine lv_aload_n hx hb dX8_ask_5 rfl (lv_at hl 0 rfl) ?_
  obtain ⟨hb3653, e3653, hat3653, hk3653⟩ := hT.o9 hw.1
  obtain ⟨f3653_0, f3653_1, f3653_2, f3653_3, f3653_4, f3653_5, f3653_6, rfl, t3653_0, t3653_1, t3653_2, t3653_3, rfl, rfl, rfl⟩ := hk3653
  have hP : va_P D vwCl [(w, .inr (8, [.ref (cs 450), .ref (cs 440), .ref (cs 441), .ref f3653_3, .int f3653_4, .int f3653_5, .int f3653_6]))] _ := va_P.cons hat3653 va_P.nil
  refine va_get (D := D) (ci := 8) (v := .ref (cs 440)) (C := RX8) (T := TX8) (N := 7) hx hb hts iX8_ask_8 hown hN.1 hP 0 rfl rfl 1 (by decide) (hts _ mX8_ask_3) (fun _ h9 => h9) rfl dX8_ask_6 ?_
  refine lv_iload_n hx hb dX8_ask_9 rfl (lv_at hl 1 rfl) ?_
  refine cv_r (As := [.int x]) (rest := []) (b := (cs 440)) ⟨hx, hb, hml, hown, hts⟩ (c_X7_at hT (w := (cs 440)) t3653_1 (x := x)) (cwV 1 hts gX8_ask_X7_at rfl rfl rfl hdX7_at_v ⟨Nat.le_of_ble_eq_true rfl, Nat.le_of_ble_eq_true rfl⟩) hN hE hL (rcv8 hN hT t3653_1.1) rfl rfl hl.1 (Nat.le_of_ble_eq_true rfl) dX8_ask_10 (Nat.zero_le _) (Nat.zero_le _) (fun r3654 H1 locs hL hqr3654 => ?_)
  obtain ⟨h9, hqr3654⟩ := hqr3654; replace h9 := h9.symm; subst h9
  obtain ⟨hb3655, e3655, hat3655, hk3655⟩ := hT.o4 hqr3654.1
  obtain ⟨f3655_0, f3655_1, f3655_2, f3655_3, f3655_4, f3655_5, f3655_6, f3655_7, f3655_8, f3655_9, rfl, c3655_up⟩ := hk3655
  have hP : va_P D vwCl [(r3654, .inr (3, [.int f3655_0, .int f3655_1, .int f3655_2, .int f3655_3, .int f3655_4, .int f3655_5, .int f3655_6, .int f3655_7, .int f3655_8, .int f3655_9])), (w, .inr (8, [.ref (cs 450), .ref (cs 440), .ref (cs 441), .ref f3653_3, .int f3653_4, .int f3653_5, .int f3653_6]))] _ := va_P.cons hat3655 hP
  refine va_getN (D := D) (ci := 3) (v := .int f3655_0) (C := RX3) (T := TX3) (N := 10) hx hb hts iX8_ask_3 hown hN.1 hP 0 rfl rfl 0 (by decide) (hN.f 28 rfl) (fun _ h9 => h9) rfl dX8_ask_13 ?_
  refine lv_if_eq (tgt := 30) hx hb dX8_ask_16 (by decide) (fun c3656 => ?_) (fun c3656 => ?_)
  · exact tx_up (Qu := fun E1 H1 => E1 = "java/lang/IllegalStateException" ∧ H0.size ≤ H1.size ∧ ∀ q : Nat, q < H0.size → H1[q]? = H0[q]?) (tx_g2 (Qo := fun _ _ => False) (E := "java/lang/IllegalStateException") 1 hx hb hlt hown hN (by decide +kernel) (hts _ mX8_ask_1) (hts _ mX8_ask_2) (hN.s 16 rfl) rfl (fun w h => hts w (xgX8_ask_186_1 w h)) xnRX8_186_1 xdRX8_186_1 xoRX8_182_186_1 hE.1 (by rw [hH0]; exact ⟨Nat.le_refl _, fun _ _ _ => rfl, hL⟩) (fun H1 g1 g2 => ⟨rfl, g1, g2⟩) hl hml dX8_ask_30 dX8_ask_33 dX8_ask_34 dX8_ask_36 dX8_ask_39 hnx (Nat.le_of_ble_eq_true rfl) (Nat.le_of_ble_eq_true rfl) (show 0 + 1 ≤ ((336 * sumN C 16 + 137000 - PotN LN) / 35) by omega) (show 0 + 6 ≤ (336 * sumN C 16 + 137000 - PotN LN) by omega) hlocks (Nat.le_refl _) (Nat.le_refl _)) hH0 (show 1 ≤ ((336 * sumN C 16 + 137000 - PotN LN) / 35) by omega) (show 6 ≤ (336 * sumN C 16 + 137000 - PotN LN) by omega) (fun E1 H1 g g3 => ⟨by rw [g.1]; simp, g.2.1, g.2.2, g3⟩)
  · refine lv_iload_n hx hb dX8_ask_19 rfl (lv_at hl 1 rfl) ?_
    refine lv_aload_n hx hb dX8_ask_20 rfl (lv_at hl 0 rfl) ?_
    refine va_get (D := D) (ci := 8) (v := .ref (cs 440)) (C := RX8) (T := TX8) (N := 7) hx hb hts iX8_ask_8 hown hN.1 hP 1 rfl rfl 1 (by decide) (hts _ mX8_ask_3) (fun _ h9 => h9) rfl dX8_ask_21 ?_
    obtain ⟨hb3657, e3657, hat3657, hk3657⟩ := hT.o8 t3653_1.1
    obtain ⟨f3657_0, f3657_1, f3657_2, f3657_3, f3657_4, f3657_5, f3657_6, f3657_7, f3657_8, f3657_9, f3657_10, f3657_11, f3657_12, f3657_13, f3657_14, f3657_15, rfl, t3657_0, c3657_su, t3657_1, t3657_2, t3657_3, t3657_4, t3657_5, c3657_tm, c3657_lt, c3657_ml, c3657_pr, c3657_li⟩ := hk3657
    rw [t3653_1.2] at t3657_1
    rw [t3653_1.2] at t3657_2
    rw [t3653_1.2] at t3657_3
    rw [t3653_1.2] at t3657_4
    rw [t3653_1.2] at t3657_5
    rw [t3653_1.2] at c3657_lt c3657_ml c3657_pr c3657_li
    subst c3657_ml
    subst c3657_pr
    subst c3657_li
    have hP : va_P D vwCl [((cs 440), .inr (7, [.ref f3657_0, .ref f3657_1, .ref (cs (400 + 0)), .ref (cs (420 + 0)), .ref (cs (460 + 0)), .ref f3657_5, .long f3657_6, .int f3657_7, .int f3657_8, .int f3657_9, .int f3657_10, .int f3657_11, .int f3657_12, .int f3657_13, .int f3657_14, .int f3657_15])), (r3654, .inr (3, [.int f3655_0, .int f3655_1, .int f3655_2, .int f3655_3, .int f3655_4, .int f3655_5, .int f3655_6, .int f3655_7, .int f3655_8, .int f3655_9])), (w, .inr (8, [.ref (cs 450), .ref (cs 440), .ref (cs 441), .ref f3653_3, .int f3653_4, .int f3653_5, .int f3653_6]))] _ := va_P.cons hat3657 hP
    refine va_getN (D := D) (ci := 7) (v := .int f3657_8) (C := RX7) (T := TX7) (N := 16) hx hb hts iX8_ask_7 hown hN.1 hP 0 rfl rfl 8 (by decide) (hN.f 49 rfl) (fun _ h9 => h9) rfl dX8_ask_24 ?_
    refine lv_icmp_ne (tgt := 40) hx hb dX8_ask_27 (by decide) (fun c3658 => ?_) (fun c3658 => ?_)
    · refine lv_aload_n hx hb dX8_ask_40 rfl (lv_at hl 0 rfl) ?_
      refine W.know (fun hgb => ?_)
      rw [hH0] at hgb
      refine cv_v (As := []) (rest := []) (b := w) ⟨hx, hb, hml, hown, hts⟩ (c_X8_keepForUndo hT (w := w) hw hR) (cwV 0 hts gX8_ask_X8_keepForUndo rfl rfl rfl hdX8_keepForUndo_v ⟨Nat.le_of_ble_eq_true rfl, Nat.le_of_ble_eq_true rfl⟩) hN hE hL (rcv9 hN hT hw.1) rfl rfl hl.1 (Nat.le_of_ble_eq_true rfl) dX8_ask_41 (show 0 + ((336 * sumN C 16 + 137000 - PotN LN) / 35) ≤ ((336 * sumN C 16 + 137000 - PotN LN) / 35) by omega) (show 0 + (336 * sumN C 16 + 137000 - PotN LN) ≤ (336 * sumN C 16 + 137000 - PotN LN) by omega) (fun H1 locs hL hqr3659 => ?_)
      obtain ⟨κr3659, hxr3659, hT1, hqr3659⟩ := hqr3659
      have hxfr3659 := hxr3659.1
      have hKZo : KZ κ κ := KZ.rf
      have hT := hT1
      have hKF : KF κ κr3659 := hxfr3659
      have hKW : KW κ κr3659 := hxr3659
      have hw := (KF.t2 hxfr3659 hw (by decide))
      obtain ⟨L3660, k3661, n3662, r3663, g3664, t3665⟩ := hqr3659
      have hR := r3663
      obtain ⟨k3666, n3667, hGP⟩ : ∃ k9 n9, GQ H0 _ LN L3660 k9 n9 := ⟨_, _, GQ.tr (show GQ H0 _ LN LN _ _ from ⟨hgb, hGN⟩) g3664⟩
      refine W.tight (k := k3666) (n := n3667) (by rw [hH0]; exact hGP.1) ?_
      have hGN : 35 * k3666 ≤ n3667 ∧ n3667 + PotN LN ≤ PotN L3660 := hGP.2
      have hgk3666 := hGN.1
      have hgn3667 := hGN.2
      have hsk3666 := hR.pot
      have hbt := hbt.tr hKZo t3665
      refine lv_aload_n hx hb dX8_ask_44 rfl (lv_at hl 0 rfl) ?_
      obtain ⟨hb3668, e3668, hat3668, hk3668⟩ := hT.o9 hw.1
      obtain ⟨f3668_0, f3668_1, f3668_2, f3668_3, f3668_4, f3668_5, f3668_6, rfl, t3668_0, t3668_1, t3668_2, t3668_3, rfl, rfl, rfl⟩ := hk3668
      have hP : va_P D vwCl [(w, .inr (8, [.ref (cs 450), .ref (cs 440), .ref (cs 441), .ref f3668_3, .int f3668_4, .int f3668_5, .int f3668_6]))] _ := va_P.cons hat3668 va_P.nil
      refine va_get (D := D) (ci := 8) (v := .ref (cs 440)) (C := RX8) (T := TX8) (N := 7) hx hb hts iX8_ask_8 hown hN.1 hP 0 rfl rfl 1 (by decide) (hts _ mX8_ask_3) (fun _ h9 => h9) rfl dX8_ask_45 ?_
      refine lv_iload_n hx hb dX8_ask_48 rfl (lv_at hl 1 rfl) ?_
      refine W.know (fun hgb => ?_)
      rw [hH0] at hgb
      refine cv_i (As := [.int x]) (rest := []) (b := (cs 440)) ⟨hx, hb, hml, hown, hts⟩ (c_X7_sendAsk_dr hT (i := 0) (by omega) hR rfl) (cwV 1 hts gX8_ask_X7_sendAsk rfl rfl rfl hdX7_sendAsk_v ⟨Nat.le_of_ble_eq_true rfl, Nat.le_of_ble_eq_true rfl⟩) hN hE hL (rcv8 hN hT t3668_1.1) rfl rfl hl.1 (Nat.le_of_ble_eq_true rfl) dX8_ask_49 (show k3666 + ((56 * sumN C 16 + 22407 - 2 * sumN (L3660 0) 16) / 35) ≤ ((336 * sumN C 16 + 137000 - PotN LN) / 35) by omega) (show n3667 + (56 * sumN C 16 + 22407 - 2 * sumN (L3660 0) 16) ≤ (336 * sumN C 16 + 137000 - PotN LN) by omega) (fun r3669 H1 locs hL hqr3669 => ?_)
      obtain ⟨κr3669, hxr3669, hT1, hF1, hqr3669⟩ := hqr3669
      have hxfr3669 := hxr3669.1
      have hbt := hbt.fr hKW.z hT (hT.rd hw) hF1 (by first | decide | (simp; omega)) (by first | decide | (simp; omega))
      have hT := hT1
      have hKF := hKF.tr hxfr3669
      have hKW : KW κ κr3669 := hKW.tr (hxr3669.w (by omega))
      have hw := (KF.t2 hxfr3669 hw (by decide))
      obtain ⟨L3670, k3671, n3672, r3673, g3674, b3675⟩ := hqr3669
      have hR := r3673
      obtain ⟨k3676, n3677, hGP⟩ : ∃ k9 n9, GQ H0 _ LN L3670 k9 n9 := ⟨_, _, GQ.tr (show GQ H0 _ LN L3660 _ _ from ⟨hgb, hGN⟩) g3674⟩
      refine W.tight (k := k3676) (n := n3677) (by rw [hH0]; exact hGP.1) ?_
      have hGN : 35 * k3676 ≤ n3677 ∧ n3677 + PotN LN ≤ PotN L3670 := hGP.2
      have hgk3676 := hGN.1
      have hgn3677 := hGN.2
      have hsk3676 := hR.pot
      refine W.know (fun hg => ?_)
      rw [hH0] at hg
      obtain ⟨C1, hC1, hR1⟩ := hR.rest (by decide) (by decide) (fun i h2 h3 => er_2 h2) hC
      exact vx_ret (en_i hx hb hr hlocks hL (nb b3675) (show k3676 ≤ ((336 * sumN C 16 + 137000 - PotN LN) / 35) by omega) (show n3677 ≤ (336 * sumN C 16 + 137000 - PotN LN) by omega) dX8_ask_52 (⟨_, hKW, hT, C1, _, _, _, hC1, hR1, ⟨hg, hGN⟩, hbt⟩))
    · exact tx_up (Qu := fun E1 H1 => E1 = "java/lang/IllegalStateException" ∧ H0.size ≤ H1.size ∧ ∀ q : Nat, q < H0.size → H1[q]? = H0[q]?) (tx_g2 (Qo := fun _ _ => False) (E := "java/lang/IllegalStateException") 1 hx hb hlt hown hN (by decide +kernel) (hts _ mX8_ask_1) (hts _ mX8_ask_2) (hN.s 16 rfl) rfl (fun w h => hts w (xgX8_ask_186_1 w h)) xnRX8_186_1 xdRX8_186_1 xoRX8_182_186_1 hE.1 (by rw [hH0]; exact ⟨Nat.le_refl _, fun _ _ _ => rfl, hL⟩) (fun H1 g1 g2 => ⟨rfl, g1, g2⟩) hl hml dX8_ask_30 dX8_ask_33 dX8_ask_34 dX8_ask_36 dX8_ask_39 hnx (Nat.le_of_ble_eq_true rfl) (Nat.le_of_ble_eq_true rfl) (show 0 + 1 ≤ ((336 * sumN C 16 + 137000 - PotN LN) / 35) by omega) (show 0 + 6 ≤ (336 * sumN C 16 + 137000 - PotN LN) by omega) hlocks (Nat.le_refl _) (Nat.le_refl _)) hH0 (show 1 ≤ ((336 * sumN C 16 + 137000 - PotN LN) / 35) by omega) (show 6 ≤ (336 * sumN C 16 + 137000 - PotN LN) by omega) (fun E1 H1 g g3 => ⟨by rw [g.1]; simp, g.2.1, g.2.2, g3⟩)
theorem xgX8_propose_49_0 : ∀ w ∈ (vx_atS RX8 49 "java/lang/IllegalArgumentException" ["java/lang/RuntimeException", "java/lang/Exception"]).filter goodWord, w ∈ wsX8_propose := fun w h => by unfold wsX8_propose; exact List.mem_cons_of_mem _ (List.mem_append_left _ (List.mem_append_right _ h))
theorem mX8_propose_1 : (.classLink RX8 45 "java/lang/IllegalArgumentException" : Cond) ∈ wsX8_propose := List.mem_of_getElem? (i := 1) (by decide +kernel)
theorem mX8_propose_2 : (.initialized "java/lang/IllegalArgumentException" : Cond) ∈ wsX8_propose := List.mem_of_getElem? (i := 2) (by decide +kernel)
theorem mX8_propose_5 : (.fieldLink RX8 19 "OneBeat" "now" "LOneBeat$World;" : Cond) ∈ wsX8_propose := List.mem_of_getElem? (i := 5) (by decide +kernel)
theorem iX8_propose_8 : ∀ w ∈ wsX80, w ∈ wsX8_propose := fun w h => List.mem_of_mem_drop (List.mem_of_mem_take ((show wsX80 = (wsX8_propose.drop 180).take 7 by decide +kernel) ▸ h))
theorem hdX7_canPropose_v : yX7_canPropose.cls = RX7 ∧ yX7_canPropose.cls ≠ "java/lang/invoke/MethodHandle" ∧ yX7_canPropose.cls ≠ "java/lang/invoke/VarHandle" ∧ (parseMethodDescriptor yX7_canPropose.desc).map (fun d => d.parameters.length) = some 0 := by decide +kernel
theorem xgX8_propose_186_1 : ∀ w ∈ (vx_atS RX8 186 "java/lang/IllegalStateException" ["java/lang/RuntimeException", "java/lang/Exception"]).filter goodWord, w ∈ wsX8_propose := fun w h => by unfold wsX8_propose; exact List.mem_cons_of_mem _ (List.mem_append_right _ h)
theorem mX8_propose_3 : (.classLink RX8 182 "java/lang/IllegalStateException" : Cond) ∈ wsX8_propose := List.mem_of_getElem? (i := 3) (by decide +kernel)
theorem mX8_propose_4 : (.initialized "java/lang/IllegalStateException" : Cond) ∈ wsX8_propose := List.mem_of_getElem? (i := 4) (by decide +kernel)
theorem hdX7_startProposal_v : yX7_startProposal.cls = RX7 ∧ yX7_startProposal.cls ≠ "java/lang/invoke/MethodHandle" ∧ yX7_startProposal.cls ≠ "java/lang/invoke/VarHandle" ∧ (parseMethodDescriptor yX7_startProposal.desc).map (fun d => d.parameters.length) = some 2 := by decide +kernel
theorem iX8_propose_7 : ∀ w ∈ wsX70, w ∈ wsX8_propose := fun w h => List.mem_of_mem_drop (List.mem_of_mem_take ((show wsX70 = (wsX8_propose.drop 187).take 16 by decide +kernel) ▸ h))
theorem iX8_propose_4 : ∀ w ∈ wsX40, w ∈ wsX8_propose := fun w h => List.mem_of_mem_drop (List.mem_of_mem_take ((show wsX40 = (wsX8_propose.drop 203).take 8 by decide +kernel) ▸ h))
set_option maxHeartbeats 4000000 in
set_option maxRecDepth 100000 in
theorem c_X8_propose {l : Launch} (hlt : l.stackTraces = false) {D : va_G} {cs : Nat → ClassId} {B0 T : Nat} {κ : KM} {H0 : Heap} (hT : WT B0 D cs T κ H0) {w : Nat} (hw : T2 κ w 9 13) {C : Nat → Nat} {LN : Nat → Nat → Nat} (hR : RQ D cs κ H0 C LN er) {x : Int32} (hC : sumN C 16 + 24 ≤ 12400) : KT l yX8_propose wsX8_propose 6 177 ((336 * sumN C 16 + 137000 - PotN LN) / 35) (336 * sumN C 16 + 137000 - PotN LN) D cs B0 H0 [.ref w, .int x] (Qi (fun _ H => ∃ κ1, KW κ κ1 ∧ WT B0 D cs T κ1 H ∧ ∃ C1 LN1 k n, sumN C1 16 ≤ sumN C 16 + 24 ∧ RQ D cs κ1 H C1 LN1 er ∧ GQ H0 H LN LN1 k n ∧ BTK D cs κ H0 H)) (TQ ["java/lang/IllegalArgumentException", "java/lang/IllegalStateException"] H0) := by
  refine KT.of cX8_propose 2 (some .int) (by decide) rfl (Nat.le_of_ble_eq_true rfl) ?_
  intro p e s m below meth c ls hx hb hr hml hown hts hlocks hnx hN hE hH0 hl
  have hown : s.vm.findClass RX8 = some m.cls := hown
  have hl : lv_has ls 2 [(0, .ref w), (1, .int x)] := hl
  have hL : OkL B0 [] := OkL.nil
  have hGN : 35 * 0 ≤ 0 ∧ 0 + PotN LN ≤ PotN LN := ⟨Nat.le_refl _, by omega⟩
  have hs0 := hR.pot
  have hbt : BTK D cs κ H0 H0 := BTK.rf
  refine lv_iload_n hx hb dX8_propose_0 rfl (lv_at hl 1 rfl) ?_
  refine lv_if_lt (tgt := 10) hx hb dX8_propose_1 (by decide) (fun c3678 => ?_) (fun c3678 => ?_)
  · exact tx_up (Qu := fun E1 H1 => E1 = "java/lang/IllegalArgumentException" ∧ H0.size ≤ H1.size ∧ ∀ q : Nat, q < H0.size → H1[q]? = H0[q]?) (tx_g2 (Qo := fun _ _ => False) (E := "java/lang/IllegalArgumentException") 0 hx hb hlt hown hN (by decide +kernel) (hts _ mX8_propose_1) (hts _ mX8_propose_2) (hN.s 14 rfl) rfl (fun w h => hts w (xgX8_propose_49_0 w h)) xnRX8_49_0 xdRX8_49_0 xoRX8_45_49_0 hE.1 (by rw [hH0]; exact ⟨Nat.le_refl _, fun _ _ _ => rfl, hL⟩) (fun H1 g1 g2 => ⟨rfl, g1, g2⟩) hl hml dX8_propose_10 dX8_propose_13 dX8_propose_14 dX8_propose_16 dX8_propose_19 hnx (Nat.le_of_ble_eq_true rfl) (Nat.le_of_ble_eq_true rfl) (show 0 + 1 ≤ ((336 * sumN C 16 + 137000 - PotN LN) / 35) by omega) (show 0 + 6 ≤ (336 * sumN C 16 + 137000 - PotN LN) by omega) hlocks (Nat.le_refl _) (Nat.le_refl _)) hH0 (show 1 ≤ ((336 * sumN C 16 + 137000 - PotN LN) / 35) by omega) (show 6 ≤ (336 * sumN C 16 + 137000 - PotN LN) by omega) (fun E1 H1 g g3 => ⟨by rw [g.1]; simp, g.2.1, g.2.2, g3⟩)
  · refine lv_iload_n hx hb dX8_propose_4 rfl (lv_at hl 1 rfl) ?_
    refine lv_bipush (v := 99) hx hb dX8_propose_5 (by decide) ?_
    refine lv_icmp_le (tgt := 20) hx hb dX8_propose_7 (by decide) (fun c3679 => ?_) (fun c3679 => ?_)
    · refine lv_aload_n hx hb dX8_propose_20 rfl (lv_at hl 0 rfl) ?_
      obtain ⟨hb3680, e3680, hat3680, hk3680⟩ := hT.o9 hw.1
      obtain ⟨f3680_0, f3680_1, f3680_2, f3680_3, f3680_4, f3680_5, f3680_6, rfl, t3680_0, t3680_1, t3680_2, t3680_3, rfl, rfl, rfl⟩ := hk3680
      have hP : va_P D vwCl [(w, .inr (8, [.ref (cs 450), .ref (cs 440), .ref (cs 441), .ref f3680_3, .int f3680_4, .int f3680_5, .int f3680_6]))] _ := va_P.cons hat3680 va_P.nil
      refine va_get (D := D) (ci := 8) (v := .ref (cs 440)) (C := RX8) (T := TX8) (N := 7) hx hb hts iX8_propose_8 hown hN.1 hP 0 rfl rfl 1 (by decide) (hts _ mX8_propose_5) (fun _ h9 => h9) rfl dX8_propose_21 ?_
      refine cv_i (As := []) (rest := []) (b := (cs 440)) ⟨hx, hb, hml, hown, hts⟩ (c_X7_canPropose hT (w := (cs 440)) t3680_1) (cwV 0 hts gX8_propose_X7_canPropose rfl rfl rfl hdX7_canPropose_v ⟨Nat.le_of_ble_eq_true rfl, Nat.le_of_ble_eq_true rfl⟩) hN hE hL (rcv8 hN hT t3680_1.1) rfl rfl hl.1 (Nat.le_of_ble_eq_true rfl) dX8_propose_24 (Nat.zero_le _) (Nat.zero_le _) (fun r3681 H1 locs hL hqr3681 => ?_)
      obtain ⟨h9, hqr3681⟩ := hqr3681; replace h9 := h9.symm; subst h9
      rcases hqr3681 with rfl | rfl
      · refine lv_if_ne (tgt := 40) hx hb dX8_propose_27 (by decide) (fun c9 => absurd (by decide) c9) (fun _ => ?_)
        exact tx_up (Qu := fun E1 H1 => E1 = "java/lang/IllegalStateException" ∧ H0.size ≤ H1.size ∧ ∀ q : Nat, q < H0.size → H1[q]? = H0[q]?) (tx_g2 (Qo := fun _ _ => False) (E := "java/lang/IllegalStateException") 1 hx hb hlt hown hN (by decide +kernel) (hts _ mX8_propose_3) (hts _ mX8_propose_4) (hN.s 15 rfl) rfl (fun w h => hts w (xgX8_propose_186_1 w h)) xnRX8_186_1 xdRX8_186_1 xoRX8_182_186_1 hE.1 (by rw [hH0]; exact ⟨Nat.le_refl _, fun _ _ _ => rfl, hL⟩) (fun H1 g1 g2 => ⟨rfl, g1, g2⟩) hl hml dX8_propose_30 dX8_propose_33 dX8_propose_34 dX8_propose_36 dX8_propose_39 hnx (Nat.le_of_ble_eq_true rfl) (Nat.le_of_ble_eq_true rfl) (show 0 + 1 ≤ ((336 * sumN C 16 + 137000 - PotN LN) / 35) by omega) (show 0 + 6 ≤ (336 * sumN C 16 + 137000 - PotN LN) by omega) hlocks (Nat.le_refl _) (Nat.le_refl _)) hH0 (show 1 ≤ ((336 * sumN C 16 + 137000 - PotN LN) / 35) by omega) (show 6 ≤ (336 * sumN C 16 + 137000 - PotN LN) by omega) (fun E1 H1 g g3 => ⟨by rw [g.1]; simp, g.2.1, g.2.2, g3⟩)
      · refine lv_if_ne (tgt := 40) hx hb dX8_propose_27 (by decide) (fun _ => ?_) (fun c9 => absurd c9 (by decide))
        refine lv_aload_n hx hb dX8_propose_40 rfl (lv_at hl 0 rfl) ?_
        refine W.know (fun hgb => ?_)
        rw [hH0] at hgb
        refine cv_v (As := []) (rest := []) (b := w) ⟨hx, hb, hml, hown, hts⟩ (c_X8_keepForUndo hT (w := w) hw hR) (cwV 0 hts gX8_propose_X8_keepForUndo rfl rfl rfl hdX8_keepForUndo_v ⟨Nat.le_of_ble_eq_true rfl, Nat.le_of_ble_eq_true rfl⟩) hN hE hL (rcv9 hN hT hw.1) rfl rfl hl.1 (Nat.le_of_ble_eq_true rfl) dX8_propose_41 (show 0 + ((336 * sumN C 16 + 137000 - PotN LN) / 35) ≤ ((336 * sumN C 16 + 137000 - PotN LN) / 35) by omega) (show 0 + (336 * sumN C 16 + 137000 - PotN LN) ≤ (336 * sumN C 16 + 137000 - PotN LN) by omega) (fun H1 locs hL hqr3682 => ?_)
        obtain ⟨κr3682, hxr3682, hT1, hqr3682⟩ := hqr3682
        have hxfr3682 := hxr3682.1
        have hKZo : KZ κ κ := KZ.rf
        have hT := hT1
        have hKF : KF κ κr3682 := hxfr3682
        have hKW : KW κ κr3682 := hxr3682
        have hw := (KF.t2 hxfr3682 hw (by decide))
        obtain ⟨L3683, k3684, n3685, r3686, g3687, t3688⟩ := hqr3682
        have hR := r3686
        obtain ⟨k3689, n3690, hGP⟩ : ∃ k9 n9, GQ H0 _ LN L3683 k9 n9 := ⟨_, _, GQ.tr (show GQ H0 _ LN LN _ _ from ⟨hgb, hGN⟩) g3687⟩
        refine W.tight (k := k3689) (n := n3690) (by rw [hH0]; exact hGP.1) ?_
        have hGN : 35 * k3689 ≤ n3690 ∧ n3690 + PotN LN ≤ PotN L3683 := hGP.2
        have hgk3689 := hGN.1
        have hgn3690 := hGN.2
        have hsk3689 := hR.pot
        have hbt := hbt.tr hKZo t3688
        refine lv_aload_n hx hb dX8_propose_44 rfl (lv_at hl 0 rfl) ?_
        obtain ⟨hb3691, e3691, hat3691, hk3691⟩ := hT.o9 hw.1
        obtain ⟨f3691_0, f3691_1, f3691_2, f3691_3, f3691_4, f3691_5, f3691_6, rfl, t3691_0, t3691_1, t3691_2, t3691_3, rfl, rfl, rfl⟩ := hk3691
        have hP : va_P D vwCl [(w, .inr (8, [.ref (cs 450), .ref (cs 440), .ref (cs 441), .ref f3691_3, .int f3691_4, .int f3691_5, .int f3691_6]))] _ := va_P.cons hat3691 va_P.nil
        refine va_get (D := D) (ci := 8) (v := .ref (cs 440)) (C := RX8) (T := TX8) (N := 7) hx hb hts iX8_propose_8 hown hN.1 hP 0 rfl rfl 1 (by decide) (hts _ mX8_propose_5) (fun _ h9 => h9) rfl dX8_propose_45 ?_
        refine lv_iload_n hx hb dX8_propose_48 rfl (lv_at hl 1 rfl) ?_
        refine lv_aload_n hx hb dX8_propose_49 rfl (lv_at hl 0 rfl) ?_
        refine va_get (D := D) (ci := 8) (v := .ref (cs 440)) (C := RX8) (T := TX8) (N := 7) hx hb hts iX8_propose_8 hown hN.1 hP 0 rfl rfl 1 (by decide) (hts _ mX8_propose_5) (fun _ h9 => h9) rfl dX8_propose_50 ?_
        refine lv_iload_n hx hb dX8_propose_53 rfl (lv_at hl 1 rfl) ?_
        refine cv_i (As := [.int x]) (rest := [.int x, .ref (cs 440)]) (b := (cs 440)) ⟨hx, hb, hml, hown, hts⟩ (c_X7_margin hT (w := (cs 440)) t3691_1 (x := x)) (cwV 1 hts gX8_propose_X7_margin rfl rfl rfl hdX7_margin_v ⟨Nat.le_of_ble_eq_true rfl, Nat.le_of_ble_eq_true rfl⟩) hN hE hL (rcv8 hN hT t3691_1.1) rfl rfl hl.1 (Nat.le_of_ble_eq_true rfl) dX8_propose_54 (show k3689 + 0 ≤ ((336 * sumN C 16 + 137000 - PotN LN) / 35) by omega) (show n3690 + 0 ≤ (336 * sumN C 16 + 137000 - PotN LN) by omega) (fun r3692 H1 locs hL hqr3692 => ?_)
        obtain ⟨hT1, hF1⟩ := hqr3692
        have hP : va_P D vwCl [(w, .inr (8, [.ref (cs 450), .ref (cs 440), .ref (cs 441), .ref f3691_3, .int f3691_4, .int f3691_5, .int f3691_6]))] _ := hF1.hP (hP.sub [0] rfl) (fa_c ⟨by rw [hw.1]; decide, by rw [hw.2]; first | decide | (simp; done) | (simp [h15a, h15b, h15c]; done) | (simp; omega)⟩ fa_n)
        have hR := hR.fr hT trivial hF1 (by decide)
        have hbt := hbt.fr hKW.z hT (hT.rd hw) hF1 (by first | decide | (simp; omega)) (by first | decide | (simp; omega))
        have hT := hT1
        refine W.know (fun hgb => ?_)
        rw [hH0] at hgb
        refine cv_v (As := [.int x, .int r3692]) (rest := []) (b := (cs 440)) ⟨hx, hb, hml, hown, hts⟩ (c_X7_startProposal_dr hT (i := 0) (by omega) hR rfl) (cwV 2 hts gX8_propose_X7_startProposal rfl rfl rfl hdX7_startProposal_v ⟨Nat.le_of_ble_eq_true rfl, Nat.le_of_ble_eq_true rfl⟩) hN hE hL (rcv8 hN hT t3691_1.1) rfl rfl hl.1 (Nat.le_of_ble_eq_true rfl) dX8_propose_57 (show k3689 + ((56 * sumN C 16 + 22407 - 2 * sumN (L3683 0) 16) / 35) ≤ ((336 * sumN C 16 + 137000 - PotN LN) / 35) by omega) (show n3690 + (56 * sumN C 16 + 22407 - 2 * sumN (L3683 0) 16) ≤ (336 * sumN C 16 + 137000 - PotN LN) by omega) (fun H1 locs hL hqr3693 => ?_)
        obtain ⟨κr3693, hxr3693, hT1, hF1, hqr3693⟩ := hqr3693
        have hxfr3693 := hxr3693.1
        have hbt := hbt.fr hKW.z hT (hT.rd hw) hF1 (by first | decide | (simp; omega)) (by first | decide | (simp; omega))
        have hT := hT1
        have hKF := hKF.tr hxfr3693
        have hKW : KW κ κr3693 := hKW.tr (hxr3693.w (by omega))
        have hw := (KF.t2 hxfr3693 hw (by decide))
        obtain ⟨L3694, k3695, n3696, r3697, g3698⟩ := hqr3693
        have hR := r3697
        obtain ⟨k3699, n3700, hGP⟩ : ∃ k9 n9, GQ H0 _ LN L3694 k9 n9 := ⟨_, _, GQ.tr (show GQ H0 _ LN L3683 _ _ from ⟨hgb, hGN⟩) g3698⟩
        refine W.tight (k := k3699) (n := n3700) (by rw [hH0]; exact hGP.1) ?_
        have hGN : 35 * k3699 ≤ n3700 ∧ n3700 + PotN LN ≤ PotN L3694 := hGP.2
        have hgk3699 := hGN.1
        have hgn3700 := hGN.2
        have hsk3699 := hR.pot
        refine lv_aload_n hx hb dX8_propose_60 rfl (lv_at hl 0 rfl) ?_
        obtain ⟨hb3701, e3701, hat3701, hk3701⟩ := hT.o9 hw.1
        obtain ⟨f3701_0, f3701_1, f3701_2, f3701_3, f3701_4, f3701_5, f3701_6, rfl, t3701_0, t3701_1, t3701_2, t3701_3, rfl, rfl, rfl⟩ := hk3701
        have hP : va_P D vwCl [(w, .inr (8, [.ref (cs 450), .ref (cs 440), .ref (cs 441), .ref f3701_3, .int f3701_4, .int f3701_5, .int f3701_6]))] _ := va_P.cons hat3701 va_P.nil
        refine va_get (D := D) (ci := 8) (v := .ref (cs 440)) (C := RX8) (T := TX8) (N := 7) hx hb hts iX8_propose_8 hown hN.1 hP 0 rfl rfl 1 (by decide) (hts _ mX8_propose_5) (fun _ h9 => h9) rfl dX8_propose_61 ?_
        obtain ⟨hb3702, e3702, hat3702, hk3702⟩ := hT.o8 t3701_1.1
        obtain ⟨f3702_0, f3702_1, f3702_2, f3702_3, f3702_4, f3702_5, f3702_6, f3702_7, f3702_8, f3702_9, f3702_10, f3702_11, f3702_12, f3702_13, f3702_14, f3702_15, rfl, t3702_0, c3702_su, t3702_1, t3702_2, t3702_3, t3702_4, t3702_5, c3702_tm, c3702_lt, c3702_ml, c3702_pr, c3702_li⟩ := hk3702
        rw [t3701_1.2] at t3702_1
        rw [t3701_1.2] at t3702_2
        rw [t3701_1.2] at t3702_3
        rw [t3701_1.2] at t3702_4
        rw [t3701_1.2] at t3702_5
        rw [t3701_1.2] at c3702_lt c3702_ml c3702_pr c3702_li
        subst c3702_ml
        subst c3702_pr
        subst c3702_li
        have hP : va_P D vwCl [((cs 440), .inr (7, [.ref f3702_0, .ref f3702_1, .ref (cs (400 + 0)), .ref (cs (420 + 0)), .ref (cs (460 + 0)), .ref f3702_5, .long f3702_6, .int f3702_7, .int f3702_8, .int f3702_9, .int f3702_10, .int f3702_11, .int f3702_12, .int f3702_13, .int f3702_14, .int f3702_15])), (w, .inr (8, [.ref (cs 450), .ref (cs 440), .ref (cs 441), .ref f3701_3, .int f3701_4, .int f3701_5, .int f3701_6]))] _ := va_P.cons hat3702 hP
        refine va_getN (D := D) (ci := 7) (v := .ref (cs (420 + 0))) (C := RX7) (T := TX7) (N := 16) hx hb hts iX8_propose_7 hown hN.1 hP 0 rfl rfl 3 (by decide) (hN.f 48 rfl) (fun _ h9 => h9) rfl dX8_propose_64 ?_
        obtain ⟨hb3703, e3703, hat3703, hk3703⟩ := hT.o5 t3702_3.1
        obtain ⟨f3703_0, f3703_1, f3703_2, f3703_3, f3703_4, f3703_5, f3703_6, f3703_7, rfl, c3703⟩ := hk3703
        have hP : va_P D vwCl [((cs (420 + 0)), .inr (4, [.int f3703_0, .int f3703_1, .int f3703_2, .int f3703_3, .int f3703_4, .int f3703_5, .int f3703_6, .int f3703_7])), ((cs 440), .inr (7, [.ref f3702_0, .ref f3702_1, .ref (cs (400 + 0)), .ref (cs (420 + 0)), .ref (cs (460 + 0)), .ref f3702_5, .long f3702_6, .int f3702_7, .int f3702_8, .int f3702_9, .int f3702_10, .int f3702_11, .int f3702_12, .int f3702_13, .int f3702_14, .int f3702_15])), (w, .inr (8, [.ref (cs 450), .ref (cs 440), .ref (cs 441), .ref f3701_3, .int f3701_4, .int f3701_5, .int f3701_6]))] _ := va_P.cons hat3703 hP
        refine va_getN (D := D) (ci := 4) (v := .int f3703_1) (C := RX4) (T := TX4) (N := 8) hx hb hts iX8_propose_4 hown hN.1 hP 0 rfl rfl 1 (by decide) (hN.f 6 rfl) (fun _ h9 => h9) rfl dX8_propose_67 ?_
        refine W.know (fun hg => ?_)
        rw [hH0] at hg
        obtain ⟨C1, hC1, hR1⟩ := hR.rest (by decide) (by decide) (fun i h2 h3 => er_2 h2) hC
        exact vx_ret (en_i hx hb hr hlocks hL rfl (show k3699 ≤ ((336 * sumN C 16 + 137000 - PotN LN) / 35) by omega) (show n3700 ≤ (336 * sumN C 16 + 137000 - PotN LN) by omega) dX8_propose_70 (⟨_, hKW, hT, C1, _, _, _, hC1, hR1, ⟨hg, hGN⟩, hbt⟩))
    · exact tx_up (Qu := fun E1 H1 => E1 = "java/lang/IllegalArgumentException" ∧ H0.size ≤ H1.size ∧ ∀ q : Nat, q < H0.size → H1[q]? = H0[q]?) (tx_g2 (Qo := fun _ _ => False) (E := "java/lang/IllegalArgumentException") 0 hx hb hlt hown hN (by decide +kernel) (hts _ mX8_propose_1) (hts _ mX8_propose_2) (hN.s 14 rfl) rfl (fun w h => hts w (xgX8_propose_49_0 w h)) xnRX8_49_0 xdRX8_49_0 xoRX8_45_49_0 hE.1 (by rw [hH0]; exact ⟨Nat.le_refl _, fun _ _ _ => rfl, hL⟩) (fun H1 g1 g2 => ⟨rfl, g1, g2⟩) hl hml dX8_propose_10 dX8_propose_13 dX8_propose_14 dX8_propose_16 dX8_propose_19 hnx (Nat.le_of_ble_eq_true rfl) (Nat.le_of_ble_eq_true rfl) (show 0 + 1 ≤ ((336 * sumN C 16 + 137000 - PotN LN) / 35) by omega) (show 0 + 6 ≤ (336 * sumN C 16 + 137000 - PotN LN) by omega) hlocks (Nat.le_refl _) (Nat.le_refl _)) hH0 (show 1 ≤ ((336 * sumN C 16 + 137000 - PotN LN) / 35) by omega) (show 6 ≤ (336 * sumN C 16 + 137000 - PotN LN) by omega) (fun E1 H1 g g3 => ⟨by rw [g.1]; simp, g.2.1, g.2.2, g3⟩)
theorem xgX8_pass_49_0 : ∀ w ∈ (vx_atS RX8 49 "java/lang/IllegalArgumentException" ["java/lang/RuntimeException", "java/lang/Exception"]).filter goodWord, w ∈ wsX8_pass := fun w h => by unfold wsX8_pass; exact List.mem_cons_of_mem _ (List.mem_append_right _ h)
theorem mX8_pass_1 : (.classLink RX8 45 "java/lang/IllegalArgumentException" : Cond) ∈ wsX8_pass := List.mem_of_getElem? (i := 1) (by decide +kernel)
theorem mX8_pass_2 : (.initialized "java/lang/IllegalArgumentException" : Cond) ∈ wsX8_pass := List.mem_of_getElem? (i := 2) (by decide +kernel)
theorem mX8_pass_3 : (.fieldLink RX8 19 "OneBeat" "now" "LOneBeat$World;" : Cond) ∈ wsX8_pass := List.mem_of_getElem? (i := 3) (by decide +kernel)
theorem iX8_pass_8 : ∀ w ∈ wsX80, w ∈ wsX8_pass := fun w h => List.mem_of_mem_drop (List.mem_of_mem_take ((show wsX80 = (wsX8_pass.drop 179).take 7 by decide +kernel) ▸ h))
theorem iX8_pass_7 : ∀ w ∈ wsX70, w ∈ wsX8_pass := fun w h => List.mem_of_mem_drop (List.mem_of_mem_take ((show wsX70 = (wsX8_pass.drop 186).take 16 by decide +kernel) ▸ h))
set_option maxHeartbeats 4000000 in
set_option maxRecDepth 100000 in
theorem c_X8_pass {l : Launch} (hlt : l.stackTraces = false) {D : va_G} {cs : Nat → ClassId} {B0 T : Nat} {κ : KM} {H0 : Heap} (hT : WT B0 D cs T κ H0) {w : Nat} (hw : T2 κ w 9 13) {C : Nat → Nat} {LN : Nat → Nat → Nat} (hR : RQ D cs κ H0 C LN er) {x : Int32} (hC : sumN C 16 + 24 ≤ 12400) : KT l yX8_pass wsX8_pass 6 178 ((336 * sumN C 16 + 137000 - PotN LN) / 35) (336 * sumN C 16 + 137000 - PotN LN) D cs B0 H0 [.ref w, .int x] (Qi (fun _ H => ∃ κ1, KW κ κ1 ∧ WT B0 D cs T κ1 H ∧ ∃ C1 LN1 k n, sumN C1 16 ≤ sumN C 16 + 24 ∧ RQ D cs κ1 H C1 LN1 er ∧ GQ H0 H LN LN1 k n ∧ BTK D cs κ H0 H)) (TQ ["java/lang/IllegalArgumentException"] H0) := by
  refine KT.of cX8_pass 4 (some .int) (by decide) rfl (Nat.le_of_ble_eq_true rfl) ?_
  intro p e s m below meth c ls hx hb hr hml hown hts hlocks hnx hN hE hH0 hl
  have hown : s.vm.findClass RX8 = some m.cls := hown
  have hl : lv_has ls 4 [(0, .ref w), (1, .int x)] := hl
  have hL : OkL B0 [] := OkL.nil
  have hGN : 35 * 0 ≤ 0 ∧ 0 + PotN LN ≤ PotN LN := ⟨Nat.le_refl _, by omega⟩
  have hs0 := hR.pot
  have hbt : BTK D cs κ H0 H0 := BTK.rf
  refine lv_iload_n hx hb dX8_pass_0 rfl (lv_at hl 1 rfl) ?_
  refine lv_iconst (v := 1) hx hb dX8_pass_1 (by decide) ?_
  refine lv_icmp_lt (tgt := 11) hx hb dX8_pass_2 (by decide) (fun c3704 => ?_) (fun c3704 => ?_)
  · exact tx_up (Qu := fun E1 H1 => E1 = "java/lang/IllegalArgumentException" ∧ H0.size ≤ H1.size ∧ ∀ q : Nat, q < H0.size → H1[q]? = H0[q]?) (tx_g2 (Qo := fun _ _ => False) (E := "java/lang/IllegalArgumentException") 0 hx hb hlt hown hN (by decide +kernel) (hts _ mX8_pass_1) (hts _ mX8_pass_2) (hN.s 17 rfl) rfl (fun w h => hts w (xgX8_pass_49_0 w h)) xnRX8_49_0 xdRX8_49_0 xoRX8_45_49_0 hE.1 (by rw [hH0]; exact ⟨Nat.le_refl _, fun _ _ _ => rfl, hL⟩) (fun H1 g1 g2 => ⟨rfl, g1, g2⟩) hl hml dX8_pass_11 dX8_pass_14 dX8_pass_15 dX8_pass_17 dX8_pass_20 hnx (Nat.le_of_ble_eq_true rfl) (Nat.le_of_ble_eq_true rfl) (show 0 + 1 ≤ ((336 * sumN C 16 + 137000 - PotN LN) / 35) by omega) (show 0 + 6 ≤ (336 * sumN C 16 + 137000 - PotN LN) by omega) hlocks (Nat.le_refl _) (Nat.le_refl _)) hH0 (show 1 ≤ ((336 * sumN C 16 + 137000 - PotN LN) / 35) by omega) (show 6 ≤ (336 * sumN C 16 + 137000 - PotN LN) by omega) (fun E1 H1 g g3 => ⟨by rw [g.1]; simp, g.2.1, g.2.2, g3⟩)
  · refine lv_iload_n hx hb dX8_pass_5 rfl (lv_at hl 1 rfl) ?_
    refine lv_bipush (v := 50) hx hb dX8_pass_6 (by decide) ?_
    refine lv_icmp_le (tgt := 21) hx hb dX8_pass_8 (by decide) (fun c3705 => ?_) (fun c3705 => ?_)
    · obtain ⟨nx, hx1, hx2, hx3⟩ := rng (lo := 1) (hi := 50) (by decide) (by decide) c3704 (Int32.not_lt.mpr c3705)
      subst hx3
      have hl : lv_has ls 4 [(0, .ref w), (1, .int (nI nx))] := hl
      refine lv_aload_n hx hb dX8_pass_21 rfl (lv_at hl 0 rfl) ?_
      refine W.know (fun hgb => ?_)
      rw [hH0] at hgb
      refine cv_v (As := []) (rest := []) (b := w) ⟨hx, hb, hml, hown, hts⟩ (c_X8_keepForUndo hT (w := w) hw hR) (cwV 0 hts gX8_pass_X8_keepForUndo rfl rfl rfl hdX8_keepForUndo_v ⟨Nat.le_of_ble_eq_true rfl, Nat.le_of_ble_eq_true rfl⟩) hN hE hL (rcv9 hN hT hw.1) rfl rfl hl.1 (Nat.le_of_ble_eq_true rfl) dX8_pass_22 (show 0 + ((336 * sumN C 16 + 137000 - PotN LN) / 35) ≤ ((336 * sumN C 16 + 137000 - PotN LN) / 35) by omega) (show 0 + (336 * sumN C 16 + 137000 - PotN LN) ≤ (336 * sumN C 16 + 137000 - PotN LN) by omega) (fun H1 locs hL hqr3706 => ?_)
      obtain ⟨κr3706, hxr3706, hT1, hqr3706⟩ := hqr3706
      have hxfr3706 := hxr3706.1
      have hKZo : KZ κ κ := KZ.rf
      have hT := hT1
      have hKF : KF κ κr3706 := hxfr3706
      have hKW : KW κ κr3706 := hxr3706
      have hw := (KF.t2 hxfr3706 hw (by decide))
      obtain ⟨L3707, k3708, n3709, r3710, g3711, t3712⟩ := hqr3706
      have hR := r3710
      obtain ⟨k3713, n3714, hGP⟩ : ∃ k9 n9, GQ H0 _ LN L3707 k9 n9 := ⟨_, _, GQ.tr (show GQ H0 _ LN LN _ _ from ⟨hgb, hGN⟩) g3711⟩
      refine W.tight (k := k3713) (n := n3714) (by rw [hH0]; exact hGP.1) ?_
      have hGN : 35 * k3713 ≤ n3714 ∧ n3714 + PotN LN ≤ PotN L3707 := hGP.2
      have hgk3713 := hGN.1
      have hgn3714 := hGN.2
      have hsk3713 := hR.pot
      have hbt := hbt.tr hKZo t3712
      refine lv_aload_n hx hb dX8_pass_25 rfl (lv_at hl 0 rfl) ?_
      obtain ⟨hb3715, e3715, hat3715, hk3715⟩ := hT.o9 hw.1
      obtain ⟨f3715_0, f3715_1, f3715_2, f3715_3, f3715_4, f3715_5, f3715_6, rfl, t3715_0, t3715_1, t3715_2, t3715_3, rfl, rfl, rfl⟩ := hk3715
      have hP : va_P D vwCl [(w, .inr (8, [.ref (cs 450), .ref (cs 440), .ref (cs 441), .ref f3715_3, .int f3715_4, .int f3715_5, .int f3715_6]))] _ := va_P.cons hat3715 va_P.nil
      refine va_get (D := D) (ci := 8) (v := .ref (cs 440)) (C := RX8) (T := TX8) (N := 7) hx hb hts iX8_pass_8 hown hN.1 hP 0 rfl rfl 1 (by decide) (hts _ mX8_pass_3) (fun _ h9 => h9) rfl dX8_pass_26 ?_
      obtain ⟨hb3716, e3716, hat3716, hk3716⟩ := hT.o8 t3715_1.1
      obtain ⟨f3716_0, f3716_1, f3716_2, f3716_3, f3716_4, f3716_5, f3716_6, f3716_7, f3716_8, f3716_9, f3716_10, f3716_11, f3716_12, f3716_13, f3716_14, f3716_15, rfl, t3716_0, c3716_su, t3716_1, t3716_2, t3716_3, t3716_4, t3716_5, c3716_tm, c3716_lt, c3716_ml, c3716_pr, c3716_li⟩ := hk3716
      rw [t3715_1.2] at t3716_1
      rw [t3715_1.2] at t3716_2
      rw [t3715_1.2] at t3716_3
      rw [t3715_1.2] at t3716_4
      rw [t3715_1.2] at t3716_5
      rw [t3715_1.2] at c3716_lt c3716_ml c3716_pr c3716_li
      subst c3716_ml
      subst c3716_pr
      subst c3716_li
      have hP : va_P D vwCl [((cs 440), .inr (7, [.ref f3716_0, .ref f3716_1, .ref (cs (400 + 0)), .ref (cs (420 + 0)), .ref (cs (460 + 0)), .ref f3716_5, .long f3716_6, .int f3716_7, .int f3716_8, .int f3716_9, .int f3716_10, .int f3716_11, .int f3716_12, .int f3716_13, .int f3716_14, .int f3716_15])), (w, .inr (8, [.ref (cs 450), .ref (cs 440), .ref (cs 441), .ref f3715_3, .int f3715_4, .int f3715_5, .int f3715_6]))] _ := va_P.cons hat3716 hP
      refine va_getN (D := D) (ci := 7) (v := .int f3716_14) (C := RX7) (T := TX7) (N := 16) hx hb hts iX8_pass_7 hown hN.1 hP 0 rfl rfl 14 (by decide) (hN.f 51 rfl) (fun _ h9 => h9) rfl dX8_pass_29 ?_
      refine lv_istore_n (lv' := [(2, .int f3716_14), (0, .ref w), (1, .int (nI nx))]) hx hb dX8_pass_32 rfl hl (by decide) rfl (fun ls hl => ?_)
      refine lv_iconst (v := 0) hx hb dX8_pass_33 (by decide) ?_
      refine lv_istore_n (lv' := [(3, .int 0), (2, .int f3716_14), (0, .ref w), (1, .int (nI nx))]) hx hb dX8_pass_34 rfl hl (by decide) rfl (fun ls hl => ?_)
      refine W.know (fun hgb => ?_)
      rw [hH0] at hgb
      refine W.widen (k := ((336 * sumN C 16 + 137000 - PotN LN) / 35)) (n := (336 * sumN C 16 + 137000 - PotN LN)) (show k3713 ≤ ((336 * sumN C 16 + 137000 - PotN LN) / 35) by omega) (show n3714 ≤ (336 * sumN C 16 + 137000 - PotN LN) by omega) ?_
      refine lp_m (α := Nat × KM × (Nat → Nat → Nat) × Nat × Nat × Int32) (nL := 4) (fun a9 => 50 - a9.1) (fun a9 H9 l9 => (a9.1 ≤ 50) ∧ (KW κ a9.2.1) ∧ (T2 a9.2.1 w 9 13) ∧ (RQ D cs a9.2.1 H9 C a9.2.2.1 (up9 er 0 8)) ∧ (Gr H0 H9 a9.2.2.2.1 a9.2.2.2.2.1) ∧ (35 * a9.2.2.2.1 ≤ a9.2.2.2.2.1 ∧ a9.2.2.2.2.1 + PotN LN ≤ PotN a9.2.2.1) ∧ (BTK D cs κ H0 H9) ∧ (WT B0 D cs T a9.2.1 H9) ∧ (OkL B0 l9)) (fun a9 => [(3, .int (nI a9.1)), (0, .ref w), (1, .int (nI nx)), (2, .int a9.2.2.2.2.2)]) ?_ (0, κr3706, L3707, k3713, n3714, f3716_14) _ _ _ ⟨(by show (0) ≤ 50; omega), hKW, hw, (hR.m8 0), hgb, hGN, hbt, hT, hL⟩ (lv_sub hl [0, 2, 3, 1] rfl)
      rintro ⟨k, κ9, LN9, k9, n9, y⟩ H locs ls ih3717 ⟨hk, hKW, hw, hR, hGR, hGN, hbt, hT, hL⟩ hl
      have hl : lv_has ls 4 [(3, .int (nI k)), (0, .ref w), (1, .int (nI nx)), (2, .int y)] := hl
      have hk : k ≤ 50 := hk
      have hKW : KW κ κ9 := hKW
      have hw : T2 κ9 w 9 13 := hw
      have hR : RQ D cs κ9 H C LN9 (up9 er 0 8) := hR
      have hGR : Gr H0 H k9 n9 := hGR
      have hGN : 35 * k9 ≤ n9 ∧ n9 + PotN LN ≤ PotN LN9 := hGN
      have hbt : BTK D cs κ H0 H := hbt
      have hT : WT B0 D cs T κ9 _ := hT
      have hKF := hKW.1
      refine W.tight (k := k9) (n := n9) (by rw [hH0]; exact hGR) ?_
      have hg1 := hGN.1
      have hg2 := hGN.2
      have hs9 := hR.pot
      refine lv_iload_n hx hb dX8_pass_35 rfl (lv_at hl 0 rfl) ?_
      refine lv_iload_n hx hb dX8_pass_36 rfl (lv_at hl 2 rfl) ?_
      refine lv_icmp_ge (tgt := 53) hx hb dX8_pass_37 (by decide) (fun c3718 => ?_) (fun c3718 => ?_)
      · have c3718 : nx ≤ k := (nI_leI (a := nx) (b := k) (by omega) (by omega)).mp c3718
        refine lv_aload_n hx hb dX8_pass_53 rfl (lv_at hl 1 rfl) ?_
        obtain ⟨hb3719, e3719, hat3719, hk3719⟩ := hT.o9 hw.1
        obtain ⟨f3719_0, f3719_1, f3719_2, f3719_3, f3719_4, f3719_5, f3719_6, rfl, t3719_0, t3719_1, t3719_2, t3719_3, rfl, rfl, rfl⟩ := hk3719
        have hP : va_P D vwCl [(w, .inr (8, [.ref (cs 450), .ref (cs 440), .ref (cs 441), .ref f3719_3, .int f3719_4, .int f3719_5, .int f3719_6]))] _ := va_P.cons hat3719 va_P.nil
        refine va_get (D := D) (ci := 8) (v := .ref (cs 440)) (C := RX8) (T := TX8) (N := 7) hx hb hts iX8_pass_8 hown hN.1 hP 0 rfl rfl 1 (by decide) (hts _ mX8_pass_3) (fun _ h9 => h9) rfl dX8_pass_54 ?_
        obtain ⟨hb3720, e3720, hat3720, hk3720⟩ := hT.o8 t3719_1.1
        obtain ⟨f3720_0, f3720_1, f3720_2, f3720_3, f3720_4, f3720_5, f3720_6, f3720_7, f3720_8, f3720_9, f3720_10, f3720_11, f3720_12, f3720_13, f3720_14, f3720_15, rfl, t3720_0, c3720_su, t3720_1, t3720_2, t3720_3, t3720_4, t3720_5, c3720_tm, c3720_lt, c3720_ml, c3720_pr, c3720_li⟩ := hk3720
        rw [t3719_1.2] at t3720_1
        rw [t3719_1.2] at t3720_2
        rw [t3719_1.2] at t3720_3
        rw [t3719_1.2] at t3720_4
        rw [t3719_1.2] at t3720_5
        rw [t3719_1.2] at c3720_lt c3720_ml c3720_pr c3720_li
        subst c3720_ml
        subst c3720_pr
        subst c3720_li
        have hP : va_P D vwCl [((cs 440), .inr (7, [.ref f3720_0, .ref f3720_1, .ref (cs (400 + 0)), .ref (cs (420 + 0)), .ref (cs (460 + 0)), .ref f3720_5, .long f3720_6, .int f3720_7, .int f3720_8, .int f3720_9, .int f3720_10, .int f3720_11, .int f3720_12, .int f3720_13, .int f3720_14, .int f3720_15])), (w, .inr (8, [.ref (cs 450), .ref (cs 440), .ref (cs 441), .ref f3719_3, .int f3719_4, .int f3719_5, .int f3719_6]))] _ := va_P.cons hat3720 hP
        refine va_getN (D := D) (ci := 7) (v := .int f3720_14) (C := RX7) (T := TX7) (N := 16) hx hb hts iX8_pass_7 hown hN.1 hP 0 rfl rfl 14 (by decide) (hN.f 51 rfl) (fun _ h9 => h9) rfl dX8_pass_57 ?_
        refine lv_iload_n hx hb dX8_pass_60 rfl (lv_at hl 3 rfl) ?_
        refine lv_isub hx hb dX8_pass_61 ?_
        refine gn_i (fun x3721 => ?_)
        refine W.know (fun hg => ?_)
        rw [hH0] at hg
        obtain ⟨C1, hC1, hR1⟩ := hR.rest (by decide) (by decide) (fun i h2 h3 => er_2 h2) hC
        exact vx_ret (en_i hx hb hr hlocks hL rfl (show k9 ≤ ((336 * sumN C 16 + 137000 - PotN LN) / 35) by omega) (show n9 ≤ (336 * sumN C 16 + 137000 - PotN LN) by omega) dX8_pass_62 (⟨_, hKW, hT, C1, _, _, _, hC1, hR1, ⟨hg, hGN⟩, hbt⟩))
      · have c3718 : ¬ nx ≤ k := fun h9 => c3718 ((nI_leI (a := nx) (b := k) (by omega) (by omega)).mpr h9)
        refine lv_aload_n hx hb dX8_pass_40 rfl (lv_at hl 1 rfl) ?_
        obtain ⟨hb3722, e3722, hat3722, hk3722⟩ := hT.o9 hw.1
        obtain ⟨f3722_0, f3722_1, f3722_2, f3722_3, f3722_4, f3722_5, f3722_6, rfl, t3722_0, t3722_1, t3722_2, t3722_3, rfl, rfl, rfl⟩ := hk3722
        have hP : va_P D vwCl [(w, .inr (8, [.ref (cs 450), .ref (cs 440), .ref (cs 441), .ref f3722_3, .int f3722_4, .int f3722_5, .int f3722_6]))] _ := va_P.cons hat3722 va_P.nil
        refine va_get (D := D) (ci := 8) (v := .ref (cs 440)) (C := RX8) (T := TX8) (N := 7) hx hb hts iX8_pass_8 hown hN.1 hP 0 rfl rfl 1 (by decide) (hts _ mX8_pass_3) (fun _ h9 => h9) rfl dX8_pass_41 ?_
        refine W.know (fun hgb => ?_)
        rw [hH0] at hgb
        refine cv_v (As := []) (rest := []) (b := (cs 440)) ⟨hx, hb, hml, hown, hts⟩ (c_X7_tick_dr hT (i := 0) (by omega) hR (by decide)) (cwV 0 hts gX8_pass_X7_tick rfl rfl rfl hdX7_tick_v ⟨Nat.le_of_ble_eq_true rfl, Nat.le_of_ble_eq_true rfl⟩) hN hE hL (rcv8 hN hT t3722_1.1) rfl rfl hl.1 (Nat.le_of_ble_eq_true rfl) dX8_pass_44 (show k9 + ((56 * sumN C 16 + 22407 - 2 * sumN (LN9 0) 16) / 35) ≤ ((336 * sumN C 16 + 137000 - PotN LN) / 35) by omega) (show n9 + (56 * sumN C 16 + 22407 - 2 * sumN (LN9 0) 16) ≤ (336 * sumN C 16 + 137000 - PotN LN) by omega) (fun H1 locs hL hqr3723 => ?_)
        obtain ⟨κr3723, hxr3723, hT1, hF1, hqr3723⟩ := hqr3723
        have hxfr3723 := hxr3723.1
        have hbt := hbt.fr hKW.z hT (hT.rd hw) hF1 (by first | decide | (simp; omega)) (by first | decide | (simp; omega))
        have hT := hT1
        have hKF := hKF.tr hxfr3723
        have hKW : KW κ κr3723 := hKW.tr (hxr3723.w (by omega))
        have hw := (KF.t2 hxfr3723 hw (by decide))
        obtain ⟨L3724, k3725, n3726, r3727, g3728⟩ := hqr3723
        have hR := r3727
        obtain ⟨k3729, n3730, hGP⟩ : ∃ k9 n9, GQ H0 _ LN L3724 k9 n9 := ⟨_, _, GQ.tr (show GQ H0 _ LN LN9 _ _ from ⟨hgb, hGN⟩) g3728⟩
        refine W.tight (k := k3729) (n := n3730) (by rw [hH0]; exact hGP.1) ?_
        have hGN : 35 * k3729 ≤ n3730 ∧ n3730 + PotN LN ≤ PotN L3724 := hGP.2
        have hgk3729 := hGN.1
        have hgn3730 := hGN.2
        have hsk3729 := hR.pot
        refine lv_iinc (v := (nI (k + 1))) (lv' := [(3, .int (nI (k + 1))), (0, .ref w), (1, .int (nI nx)), (2, .int y)]) hx hb dX8_pass_47 hl (k := 0) rfl (nI_add _ 1) (by decide) rfl (fun ls hl => ?_)
        refine lv_goto (tgt := 35) hx hb dX8_pass_50 (by decide) ?_
        refine W.know (fun hgb => ?_)
        rw [hH0] at hgb
        refine W.widen (k := ((336 * sumN C 16 + 137000 - PotN LN) / 35)) (n := (336 * sumN C 16 + 137000 - PotN LN)) (show k3729 ≤ ((336 * sumN C 16 + 137000 - PotN LN) / 35) by omega) (show n3730 ≤ (336 * sumN C 16 + 137000 - PotN LN) by omega) ?_
        exact ih3717 ((k + 1), κr3723, L3724, k3729, n3730, y) _ _ _ (by show 50 - ((k + 1)) < 50 - k; omega) ⟨(by show ((k + 1)) ≤ 50; omega), hKW, hw, (hR.ce up_8), hgb, hGN, hbt, hT, hL⟩ (lv_sub hl [0, 1, 2, 3] rfl)
    · exact tx_up (Qu := fun E1 H1 => E1 = "java/lang/IllegalArgumentException" ∧ H0.size ≤ H1.size ∧ ∀ q : Nat, q < H0.size → H1[q]? = H0[q]?) (tx_g2 (Qo := fun _ _ => False) (E := "java/lang/IllegalArgumentException") 0 hx hb hlt hown hN (by decide +kernel) (hts _ mX8_pass_1) (hts _ mX8_pass_2) (hN.s 17 rfl) rfl (fun w h => hts w (xgX8_pass_49_0 w h)) xnRX8_49_0 xdRX8_49_0 xoRX8_45_49_0 hE.1 (by rw [hH0]; exact ⟨Nat.le_refl _, fun _ _ _ => rfl, hL⟩) (fun H1 g1 g2 => ⟨rfl, g1, g2⟩) hl hml dX8_pass_11 dX8_pass_14 dX8_pass_15 dX8_pass_17 dX8_pass_20 hnx (Nat.le_of_ble_eq_true rfl) (Nat.le_of_ble_eq_true rfl) (show 0 + 1 ≤ ((336 * sumN C 16 + 137000 - PotN LN) / 35) by omega) (show 0 + 6 ≤ (336 * sumN C 16 + 137000 - PotN LN) by omega) hlocks (Nat.le_refl _) (Nat.le_refl _)) hH0 (show 1 ≤ ((336 * sumN C 16 + 137000 - PotN LN) / 35) by omega) (show 6 ≤ (336 * sumN C 16 + 137000 - PotN LN) by omega) (fun E1 H1 g g3 => ⟨by rw [g.1]; simp, g.2.1, g.2.2, g3⟩)
theorem mX8_foretold_1 : (.fieldLink RX8 23 "OneBeat" "trial" "LOneBeat$World;" : Cond) ∈ wsX8_foretold := List.mem_of_getElem? (i := 1) (by decide +kernel)
theorem iX8_foretold_8 : ∀ w ∈ wsX80, w ∈ wsX8_foretold := fun w h => List.mem_of_mem_drop (List.mem_of_mem_take ((show wsX80 = (wsX8_foretold.drop 197).take 7 by decide +kernel) ▸ h))
theorem mX8_foretold_2 : (.fieldLink RX8 19 "OneBeat" "now" "LOneBeat$World;" : Cond) ∈ wsX8_foretold := List.mem_of_getElem? (i := 2) (by decide +kernel)
theorem hdX7_runOn_v : yX7_runOn.cls = RX7 ∧ yX7_runOn.cls ≠ "java/lang/invoke/MethodHandle" ∧ yX7_runOn.cls ≠ "java/lang/invoke/VarHandle" ∧ (parseMethodDescriptor yX7_runOn.desc).map (fun d => d.parameters.length) = some 1 := by decide +kernel
theorem iX8_foretold_7 : ∀ w ∈ wsX70, w ∈ wsX8_foretold := fun w h => List.mem_of_mem_drop (List.mem_of_mem_take ((show wsX70 = (wsX8_foretold.drop 204).take 16 by decide +kernel) ▸ h))
theorem sw_0_3 {x : Int32} (h : ¬ (x.toInt < (0 : Int) ∨ (3 : Int) < x.toInt)) : x = 0 ∨ x = 1 ∨ x = 2 ∨ x = 3 := by
  have h2 : x.toInt = (0 : Int) ∨ x.toInt = (1 : Int) ∨ x.toInt = (2 : Int) ∨ x.toInt = (3 : Int) := by omega
  rcases h2 with h2 | h2 | h2 | h2
  · exact Or.inl (Int32.toInt_inj.mp (h2.trans (by decide)))
  · exact Or.inr (Or.inl (Int32.toInt_inj.mp (h2.trans (by decide))))
  · exact Or.inr (Or.inr (Or.inl (Int32.toInt_inj.mp (h2.trans (by decide)))))
  · exact Or.inr (Or.inr (Or.inr ((Int32.toInt_inj.mp (h2.trans (by decide))))))
theorem iX8_foretold_4 : ∀ w ∈ wsX40, w ∈ wsX8_foretold := fun w h => List.mem_of_mem_drop (List.mem_of_mem_take ((show wsX40 = (wsX8_foretold.drop 220).take 8 by decide +kernel) ▸ h))
set_option maxHeartbeats 4000000 in
set_option maxRecDepth 100000 in
theorem c_X8_foretold {l : Launch} (hlt : l.stackTraces = false) {D : va_G} {cs : Nat → ClassId} {B0 T : Nat} {κ : KM} {H0 : Heap} (hT : WT B0 D cs T κ H0) {w : Nat} (hw : T2 κ w 9 13) {C : Nat → Nat} {LN : Nat → Nat → Nat} (hR : RQ D cs κ H0 C LN er) {x : Int32} (hC : sumN C 16 + 24 ≤ 12400) : KT l yX8_foretold wsX8_foretold 7 201 ((336 * sumN C 16 + 137000 - PotN LN) / 35) (336 * sumN C 16 + 137000 - PotN LN) D cs B0 H0 [.ref w, .int x] (Qi (fun _ H => ∃ κ1, KW κ κ1 ∧ WT B0 D cs T κ1 H ∧ ∃ C1 LN1 k n, sumN C1 16 ≤ sumN C 16 + 24 ∧ RQ D cs κ1 H C1 LN1 er ∧ GQ H0 H LN LN1 k n ∧ BTK D cs κ H0 H)) (TQ ["java/lang/IllegalArgumentException"] H0) := by
  refine KT.of cX8_foretold 3 (some .int) (by decide) rfl (Nat.le_of_ble_eq_true rfl) ?_
  intro p e s m below meth c ls hx hb hr hml hown hts hlocks hnx hN hE hH0 hl
  have hown : s.vm.findClass RX8 = some m.cls := hown
  have hl : lv_has ls 3 [(0, .ref w), (1, .int x)] := hl
  have hL : OkL B0 [] := OkL.nil
  have hGN : 35 * 0 ≤ 0 ∧ 0 + PotN LN ≤ PotN LN := ⟨Nat.le_refl _, by omega⟩
  have hs0 := hR.pot
  have hbt : BTK D cs κ H0 H0 := BTK.rf
  refine lv_aload_n hx hb dX8_foretold_0 rfl (lv_at hl 0 rfl) ?_
  refine lv_iload_n hx hb dX8_foretold_1 rfl (lv_at hl 1 rfl) ?_
  refine lv_iconst (v := 4) hx hb dX8_foretold_2 (by decide) ?_
  refine ct_V (As := [.int x, .int 4]) (rest := []) (b := w) ⟨hx, hb, hml, hown, hts⟩ (c_X8_refuseWhatOutside hlt hT (w := w) hw (x := x) (y := 4)) (cwV 2 hts gX8_foretold_X8_refuseWhatOutside rfl rfl rfl hdX8_refuseWhatOutside_v ⟨Nat.le_of_ble_eq_true rfl, Nat.le_of_ble_eq_true rfl⟩) hN hE hL (rcv9 hN hT hw.1) rfl rfl hl.1 (Nat.le_of_ble_eq_true rfl) dX8_foretold_3 (show 0 + 1 ≤ ((336 * sumN C 16 + 137000 - PotN LN) / 35) by omega) (show 0 + 6 ≤ (336 * sumN C 16 + 137000 - PotN LN) by omega) (fun E9 q9 ce9 H1 locs hL hq h1 h2 h3 => ct_up hnx hlocks h1 h2 h3 (hq.mono (by decide +kernel)) hL (show 0 + 1 ≤ ((336 * sumN C 16 + 137000 - PotN LN) / 35) by omega) (show 0 + 6 ≤ (336 * sumN C 16 + 137000 - PotN LN) by omega)) (fun v9 H1 locs hL hqr3731 => ?_)
  obtain ⟨rfl, hqr3731⟩ := hqr3731
  refine W.eq (g2 := F0 m 6 ls []) rfl ?_
  obtain rfl := hqr3731.symm
  refine W.tight (k := 0) (n := 0) (by rw [hH0]; exact Gr.rf) ?_
  refine lv_aload_n hx hb dX8_foretold_6 rfl (lv_at hl 0 rfl) ?_
  obtain ⟨hb3732, e3732, hat3732, hk3732⟩ := hT.o9 hw.1
  obtain ⟨f3732_0, f3732_1, f3732_2, f3732_3, f3732_4, f3732_5, f3732_6, rfl, t3732_0, t3732_1, t3732_2, t3732_3, rfl, rfl, rfl⟩ := hk3732
  have hP : va_P D vwCl [(w, .inr (8, [.ref (cs 450), .ref (cs 440), .ref (cs 441), .ref f3732_3, .int f3732_4, .int f3732_5, .int f3732_6]))] _ := va_P.cons hat3732 va_P.nil
  refine va_get (D := D) (ci := 8) (v := .ref (cs 441)) (C := RX8) (T := TX8) (N := 7) hx hb hts iX8_foretold_8 hown hN.1 hP 0 rfl rfl 2 (by decide) (hts _ mX8_foretold_1) (fun _ h9 => h9) rfl dX8_foretold_7 ?_
  refine lv_aload_n hx hb dX8_foretold_10 rfl (lv_at hl 0 rfl) ?_
  refine va_get (D := D) (ci := 8) (v := .ref (cs 440)) (C := RX8) (T := TX8) (N := 7) hx hb hts iX8_foretold_8 hown hN.1 hP 0 rfl rfl 1 (by decide) (hts _ mX8_foretold_2) (fun _ h9 => h9) rfl dX8_foretold_11 ?_
  refine W.know (fun hgb => ?_)
  rw [hH0] at hgb
  refine cv_v (As := [.ref (cs 440)]) (rest := []) (b := (cs 441)) ⟨hx, hb, hml, hown, hts⟩ (c_X7_copyFrom_dr hT (i := 1) (by omega) hR (j := 0) (by omega) (by decide) (by decide)) (cwV 1 hts gX8_foretold_X7_copyFrom rfl rfl rfl hdX7_copyFrom_v ⟨Nat.le_of_ble_eq_true rfl, Nat.le_of_ble_eq_true rfl⟩) hN hE hL (rcv8 hN hT t3732_2.1) rfl rfl hl.1 (Nat.le_of_ble_eq_true rfl) dX8_foretold_14 (show 0 + ((56 * sumN C 16 + 22407 - 2 * sumN (LN 1) 16) / 35) ≤ ((336 * sumN C 16 + 137000 - PotN LN) / 35) by omega) (show 0 + (56 * sumN C 16 + 22407 - 2 * sumN (LN 1) 16) ≤ (336 * sumN C 16 + 137000 - PotN LN) by omega) (fun H1 locs hL hqr3733 => ?_)
  obtain ⟨κr3733, hxr3733, hT1, hF1, hqr3733⟩ := hqr3733
  have hxfr3733 := hxr3733.1
  have hbt := hbt.fr KZ.rf hT (hT.rd hw) hF1 (by first | decide | (simp; omega)) (by first | decide | (simp; omega))
  have hT := hT1
  have hKF : KF κ κr3733 := hxfr3733
  have hKW : KW κ κr3733 := (hxr3733.w (by omega))
  have hw := (KF.t2 hxfr3733 hw (by decide))
  obtain ⟨L3734, k3735, n3736, r3737, g3738⟩ := hqr3733
  have hR := r3737
  obtain ⟨k3739, n3740, hGP⟩ : ∃ k9 n9, GQ H0 _ LN L3734 k9 n9 := ⟨_, _, GQ.tr (show GQ H0 _ LN LN _ _ from ⟨hgb, hGN⟩) g3738⟩
  refine W.tight (k := k3739) (n := n3740) (by rw [hH0]; exact hGP.1) ?_
  have hGN : 35 * k3739 ≤ n3740 ∧ n3740 + PotN LN ≤ PotN L3734 := hGP.2
  have hgk3739 := hGN.1
  have hgn3740 := hGN.2
  have hsk3739 := hR.pot
  refine lv_aload_n hx hb dX8_foretold_17 rfl (lv_at hl 0 rfl) ?_
  obtain ⟨hb3741, e3741, hat3741, hk3741⟩ := hT.o9 hw.1
  obtain ⟨f3741_0, f3741_1, f3741_2, f3741_3, f3741_4, f3741_5, f3741_6, rfl, t3741_0, t3741_1, t3741_2, t3741_3, rfl, rfl, rfl⟩ := hk3741
  have hP : va_P D vwCl [(w, .inr (8, [.ref (cs 450), .ref (cs 440), .ref (cs 441), .ref f3741_3, .int f3741_4, .int f3741_5, .int f3741_6]))] _ := va_P.cons hat3741 va_P.nil
  refine va_get (D := D) (ci := 8) (v := .ref (cs 441)) (C := RX8) (T := TX8) (N := 7) hx hb hts iX8_foretold_8 hown hN.1 hP 0 rfl rfl 2 (by decide) (hts _ mX8_foretold_1) (fun _ h9 => h9) rfl dX8_foretold_18 ?_
  refine lv_iconst (v := 0) hx hb dX8_foretold_21 (by decide) ?_
  refine W.know (fun hgb => ?_)
  rw [hH0] at hgb
  refine cv_i (As := [.int 0]) (rest := []) (b := (cs 441)) ⟨hx, hb, hml, hown, hts⟩ (c_X7_runOn_dr hT (i := 1) (by omega) hR (Or.inl rfl) (by decide)) (cwV 1 hts gX8_foretold_X7_runOn rfl rfl rfl hdX7_runOn_v ⟨Nat.le_of_ble_eq_true rfl, Nat.le_of_ble_eq_true rfl⟩) hN hE hL (rcv8 hN hT t3741_2.1) rfl rfl hl.1 (Nat.le_of_ble_eq_true rfl) dX8_foretold_22 (show k3739 + ((56 * sumN C 16 + 22407 - 2 * sumN (L3734 1) 16) / 35) ≤ ((336 * sumN C 16 + 137000 - PotN LN) / 35) by omega) (show n3740 + (56 * sumN C 16 + 22407 - 2 * sumN (L3734 1) 16) ≤ (336 * sumN C 16 + 137000 - PotN LN) by omega) (fun r3742 H1 locs hL hqr3742 => ?_)
  obtain ⟨κr3742, hxr3742, hT1, hF1, hqr3742⟩ := hqr3742
  have hxfr3742 := hxr3742.1
  have hbt := hbt.fr hKW.z hT (hT.rd hw) hF1 (by first | decide | (simp; omega)) (by first | decide | (simp; omega))
  have hT := hT1
  have hKF := hKF.tr hxfr3742
  have hKW : KW κ κr3742 := hKW.tr (hxr3742.w (by omega))
  have hw := (KF.t2 hxfr3742 hw (by decide))
  obtain ⟨L3743, k3744, n3745, r3746, g3747⟩ := hqr3742
  have hR := r3746
  obtain ⟨k3748, n3749, hGP⟩ : ∃ k9 n9, GQ H0 _ LN L3743 k9 n9 := ⟨_, _, GQ.tr (show GQ H0 _ LN L3734 _ _ from ⟨hgb, hGN⟩) g3747⟩
  refine W.tight (k := k3748) (n := n3749) (by rw [hH0]; exact hGP.1) ?_
  have hGN : 35 * k3748 ≤ n3749 ∧ n3749 + PotN LN ≤ PotN L3743 := hGP.2
  have hgk3748 := hGN.1
  have hgn3749 := hGN.2
  have hsk3748 := hR.pot
  refine lv_istore_n (lv' := [(2, .int r3742), (0, .ref w), (1, .int x)]) hx hb dX8_foretold_25 rfl hl (by decide) rfl (fun ls hl => ?_)
  refine lv_iload_n hx hb dX8_foretold_26 rfl (lv_at hl 2 rfl) ?_
  by_cases c3750 : (x : Int32).toInt < (0 : Int) ∨ (3 : Int) < (x : Int32).toInt
  · refine lv_tableOut (tgt := 102) hx hb dX8_foretold_27 c3750 (by decide) ?_
    refine lv_aload_n hx hb dX8_foretold_102 rfl (lv_at hl 1 rfl) ?_
    obtain ⟨hb3751, e3751, hat3751, hk3751⟩ := hT.o9 hw.1
    obtain ⟨f3751_0, f3751_1, f3751_2, f3751_3, f3751_4, f3751_5, f3751_6, rfl, t3751_0, t3751_1, t3751_2, t3751_3, rfl, rfl, rfl⟩ := hk3751
    have hP : va_P D vwCl [(w, .inr (8, [.ref (cs 450), .ref (cs 440), .ref (cs 441), .ref f3751_3, .int f3751_4, .int f3751_5, .int f3751_6]))] _ := va_P.cons hat3751 va_P.nil
    refine va_get (D := D) (ci := 8) (v := .ref (cs 441)) (C := RX8) (T := TX8) (N := 7) hx hb hts iX8_foretold_8 hown hN.1 hP 0 rfl rfl 2 (by decide) (hts _ mX8_foretold_1) (fun _ h9 => h9) rfl dX8_foretold_103 ?_
    obtain ⟨hb3752, e3752, hat3752, hk3752⟩ := hT.o8 t3751_2.1
    obtain ⟨f3752_0, f3752_1, f3752_2, f3752_3, f3752_4, f3752_5, f3752_6, f3752_7, f3752_8, f3752_9, f3752_10, f3752_11, f3752_12, f3752_13, f3752_14, f3752_15, rfl, t3752_0, c3752_su, t3752_1, t3752_2, t3752_3, t3752_4, t3752_5, c3752_tm, c3752_lt, c3752_ml, c3752_pr, c3752_li⟩ := hk3752
    rw [t3751_2.2] at t3752_1
    rw [t3751_2.2] at t3752_2
    rw [t3751_2.2] at t3752_3
    rw [t3751_2.2] at t3752_4
    rw [t3751_2.2] at t3752_5
    rw [t3751_2.2] at c3752_lt c3752_ml c3752_pr c3752_li
    subst c3752_ml
    subst c3752_pr
    subst c3752_li
    have hP : va_P D vwCl [((cs 441), .inr (7, [.ref f3752_0, .ref f3752_1, .ref (cs (400 + 1)), .ref (cs (420 + 1)), .ref (cs (460 + 1)), .ref f3752_5, .long f3752_6, .int f3752_7, .int f3752_8, .int f3752_9, .int f3752_10, .int f3752_11, .int f3752_12, .int f3752_13, .int f3752_14, .int f3752_15])), (w, .inr (8, [.ref (cs 450), .ref (cs 440), .ref (cs 441), .ref f3751_3, .int f3751_4, .int f3751_5, .int f3751_6]))] _ := va_P.cons hat3752 hP
    refine va_getN (D := D) (ci := 7) (v := .int f3752_15) (C := RX7) (T := TX7) (N := 16) hx hb hts iX8_foretold_7 hown hN.1 hP 0 rfl rfl 15 (by decide) (hN.f 52 rfl) (fun _ h9 => h9) rfl dX8_foretold_106 ?_
    refine lv_aload_n hx hb dX8_foretold_109 rfl (lv_at hl 1 rfl) ?_
    refine va_get (D := D) (ci := 8) (v := .ref (cs 440)) (C := RX8) (T := TX8) (N := 7) hx hb hts iX8_foretold_8 hown hN.1 hP 1 rfl rfl 1 (by decide) (hts _ mX8_foretold_2) (fun _ h9 => h9) rfl dX8_foretold_110 ?_
    obtain ⟨hb3753, e3753, hat3753, hk3753⟩ := hT.o8 t3751_1.1
    obtain ⟨f3753_0, f3753_1, f3753_2, f3753_3, f3753_4, f3753_5, f3753_6, f3753_7, f3753_8, f3753_9, f3753_10, f3753_11, f3753_12, f3753_13, f3753_14, f3753_15, rfl, t3753_0, c3753_su, t3753_1, t3753_2, t3753_3, t3753_4, t3753_5, c3753_tm, c3753_lt, c3753_ml, c3753_pr, c3753_li⟩ := hk3753
    rw [t3751_1.2] at t3753_1
    rw [t3751_1.2] at t3753_2
    rw [t3751_1.2] at t3753_3
    rw [t3751_1.2] at t3753_4
    rw [t3751_1.2] at t3753_5
    rw [t3751_1.2] at c3753_lt c3753_ml c3753_pr c3753_li
    subst c3753_ml
    subst c3753_pr
    subst c3753_li
    have hP : va_P D vwCl [((cs 440), .inr (7, [.ref f3753_0, .ref f3753_1, .ref (cs (400 + 0)), .ref (cs (420 + 0)), .ref (cs (460 + 0)), .ref f3753_5, .long f3753_6, .int f3753_7, .int f3753_8, .int f3753_9, .int f3753_10, .int f3753_11, .int f3753_12, .int f3753_13, .int f3753_14, .int f3753_15])), ((cs 441), .inr (7, [.ref f3752_0, .ref f3752_1, .ref (cs (400 + 1)), .ref (cs (420 + 1)), .ref (cs (460 + 1)), .ref f3752_5, .long f3752_6, .int f3752_7, .int f3752_8, .int f3752_9, .int f3752_10, .int f3752_11, .int f3752_12, .int f3752_13, .int f3752_14, .int f3752_15])), (w, .inr (8, [.ref (cs 450), .ref (cs 440), .ref (cs 441), .ref f3751_3, .int f3751_4, .int f3751_5, .int f3751_6]))] _ := va_P.cons hat3753 hP
    refine va_getN (D := D) (ci := 7) (v := .int f3753_15) (C := RX7) (T := TX7) (N := 16) hx hb hts iX8_foretold_7 hown hN.1 hP 0 rfl rfl 15 (by decide) (hN.f 52 rfl) (fun _ h9 => h9) rfl dX8_foretold_113 ?_
    refine lv_isub hx hb dX8_foretold_116 ?_
    refine gn_i (fun x3754 => ?_)
    refine W.know (fun hg => ?_)
    rw [hH0] at hg
    obtain ⟨C1, hC1, hR1⟩ := hR.rest (by decide) (by decide) fo_z hC
    exact vx_ret (en_i hx hb hr hlocks hL rfl (show k3748 ≤ ((336 * sumN C 16 + 137000 - PotN LN) / 35) by omega) (show n3749 ≤ (336 * sumN C 16 + 137000 - PotN LN) by omega) dX8_foretold_117 (⟨_, hKW, hT, C1, _, _, _, hC1, hR1, ⟨hg, hGN⟩, hbt⟩))
  · rcases sw_0_3 c3750 with rfl | rfl | rfl | rfl
    · refine lv_tableIn (tgt := 56) (off := 29) hx hb dX8_foretold_27 (by decide) (by decide) (by decide) (by decide) ?_
      refine lv_iload_n hx hb dX8_foretold_56 rfl (lv_at hl 0 rfl) ?_
      refine W.know (fun hg => ?_)
      rw [hH0] at hg
      obtain ⟨C1, hC1, hR1⟩ := hR.rest (by decide) (by decide) fo_z hC
      exact vx_ret (en_i hx hb hr hlocks hL rfl (show k3748 ≤ ((336 * sumN C 16 + 137000 - PotN LN) / 35) by omega) (show n3749 ≤ (336 * sumN C 16 + 137000 - PotN LN) by omega) dX8_foretold_57 (⟨_, hKW, hT, C1, _, _, _, hC1, hR1, ⟨hg, hGN⟩, hbt⟩))
    · refine lv_tableIn (tgt := 58) (off := 31) hx hb dX8_foretold_27 (by decide) (by decide) (by decide) (by decide) ?_
      refine lv_aload_n hx hb dX8_foretold_58 rfl (lv_at hl 1 rfl) ?_
      obtain ⟨hb3755, e3755, hat3755, hk3755⟩ := hT.o9 hw.1
      obtain ⟨f3755_0, f3755_1, f3755_2, f3755_3, f3755_4, f3755_5, f3755_6, rfl, t3755_0, t3755_1, t3755_2, t3755_3, rfl, rfl, rfl⟩ := hk3755
      have hP : va_P D vwCl [(w, .inr (8, [.ref (cs 450), .ref (cs 440), .ref (cs 441), .ref f3755_3, .int f3755_4, .int f3755_5, .int f3755_6]))] _ := va_P.cons hat3755 va_P.nil
      refine va_get (D := D) (ci := 8) (v := .ref (cs 441)) (C := RX8) (T := TX8) (N := 7) hx hb hts iX8_foretold_8 hown hN.1 hP 0 rfl rfl 2 (by decide) (hts _ mX8_foretold_1) (fun _ h9 => h9) rfl dX8_foretold_59 ?_
      obtain ⟨hb3756, e3756, hat3756, hk3756⟩ := hT.o8 t3755_2.1
      obtain ⟨f3756_0, f3756_1, f3756_2, f3756_3, f3756_4, f3756_5, f3756_6, f3756_7, f3756_8, f3756_9, f3756_10, f3756_11, f3756_12, f3756_13, f3756_14, f3756_15, rfl, t3756_0, c3756_su, t3756_1, t3756_2, t3756_3, t3756_4, t3756_5, c3756_tm, c3756_lt, c3756_ml, c3756_pr, c3756_li⟩ := hk3756
      rw [t3755_2.2] at t3756_1
      rw [t3755_2.2] at t3756_2
      rw [t3755_2.2] at t3756_3
      rw [t3755_2.2] at t3756_4
      rw [t3755_2.2] at t3756_5
      rw [t3755_2.2] at c3756_lt c3756_ml c3756_pr c3756_li
      subst c3756_ml
      subst c3756_pr
      subst c3756_li
      have hP : va_P D vwCl [((cs 441), .inr (7, [.ref f3756_0, .ref f3756_1, .ref (cs (400 + 1)), .ref (cs (420 + 1)), .ref (cs (460 + 1)), .ref f3756_5, .long f3756_6, .int f3756_7, .int f3756_8, .int f3756_9, .int f3756_10, .int f3756_11, .int f3756_12, .int f3756_13, .int f3756_14, .int f3756_15])), (w, .inr (8, [.ref (cs 450), .ref (cs 440), .ref (cs 441), .ref f3755_3, .int f3755_4, .int f3755_5, .int f3755_6]))] _ := va_P.cons hat3756 hP
      refine va_getN (D := D) (ci := 7) (v := .int f3756_11) (C := RX7) (T := TX7) (N := 16) hx hb hts iX8_foretold_7 hown hN.1 hP 0 rfl rfl 11 (by decide) (hN.f 50 rfl) (fun _ h9 => h9) rfl dX8_foretold_62 ?_
      refine lv_if_ne (tgt := 72) hx hb dX8_foretold_65 (by decide) (fun c3757 => ?_) (fun c3757 => ?_)
      · refine lv_aload_n hx hb dX8_foretold_72 rfl (lv_at hl 1 rfl) ?_
        refine va_get (D := D) (ci := 8) (v := .ref (cs 441)) (C := RX8) (T := TX8) (N := 7) hx hb hts iX8_foretold_8 hown hN.1 hP 1 rfl rfl 2 (by decide) (hts _ mX8_foretold_1) (fun _ h9 => h9) rfl dX8_foretold_73 ?_
        refine va_getN (D := D) (ci := 7) (v := .ref (cs (420 + 1))) (C := RX7) (T := TX7) (N := 16) hx hb hts iX8_foretold_7 hown hN.1 hP 0 rfl rfl 3 (by decide) (hN.f 48 rfl) (fun _ h9 => h9) rfl dX8_foretold_76 ?_
        obtain ⟨hb3758, e3758, hat3758, hk3758⟩ := hT.o5 t3756_3.1
        obtain ⟨f3758_0, f3758_1, f3758_2, f3758_3, f3758_4, f3758_5, f3758_6, f3758_7, rfl, c3758⟩ := hk3758
        have hP : va_P D vwCl [((cs (420 + 1)), .inr (4, [.int f3758_0, .int f3758_1, .int f3758_2, .int f3758_3, .int f3758_4, .int f3758_5, .int f3758_6, .int f3758_7])), ((cs 441), .inr (7, [.ref f3756_0, .ref f3756_1, .ref (cs (400 + 1)), .ref (cs (420 + 1)), .ref (cs (460 + 1)), .ref f3756_5, .long f3756_6, .int f3756_7, .int f3756_8, .int f3756_9, .int f3756_10, .int f3756_11, .int f3756_12, .int f3756_13, .int f3756_14, .int f3756_15])), (w, .inr (8, [.ref (cs 450), .ref (cs 440), .ref (cs 441), .ref f3755_3, .int f3755_4, .int f3755_5, .int f3755_6]))] _ := va_P.cons hat3758 hP
        refine va_getN (D := D) (ci := 4) (v := .int f3758_5) (C := RX4) (T := TX4) (N := 8) hx hb hts iX8_foretold_4 hown hN.1 hP 0 rfl rfl 5 (by decide) (hN.f 11 rfl) (fun _ h9 => h9) rfl dX8_foretold_79 ?_
        refine W.know (fun hg => ?_)
        rw [hH0] at hg
        obtain ⟨C1, hC1, hR1⟩ := hR.rest (by decide) (by decide) fo_z hC
        exact vx_ret (en_i hx hb hr hlocks hL rfl (show k3748 ≤ ((336 * sumN C 16 + 137000 - PotN LN) / 35) by omega) (show n3749 ≤ (336 * sumN C 16 + 137000 - PotN LN) by omega) dX8_foretold_82 (⟨_, hKW, hT, C1, _, _, _, hC1, hR1, ⟨hg, hGN⟩, hbt⟩))
      · refine lv_iconst (v := (-1)) hx hb dX8_foretold_68 (by decide) ?_
        refine lv_goto (tgt := 82) hx hb dX8_foretold_69 (by decide) ?_
        refine W.know (fun hg => ?_)
        rw [hH0] at hg
        obtain ⟨C1, hC1, hR1⟩ := hR.rest (by decide) (by decide) fo_z hC
        exact vx_ret (en_i hx hb hr hlocks hL rfl (show k3748 ≤ ((336 * sumN C 16 + 137000 - PotN LN) / 35) by omega) (show n3749 ≤ (336 * sumN C 16 + 137000 - PotN LN) by omega) dX8_foretold_82 (⟨_, hKW, hT, C1, _, _, _, hC1, hR1, ⟨hg, hGN⟩, hbt⟩))
    · refine lv_tableIn (tgt := 83) (off := 56) hx hb dX8_foretold_27 (by decide) (by decide) (by decide) (by decide) ?_
      refine lv_aload_n hx hb dX8_foretold_83 rfl (lv_at hl 1 rfl) ?_
      obtain ⟨hb3759, e3759, hat3759, hk3759⟩ := hT.o9 hw.1
      obtain ⟨f3759_0, f3759_1, f3759_2, f3759_3, f3759_4, f3759_5, f3759_6, rfl, t3759_0, t3759_1, t3759_2, t3759_3, rfl, rfl, rfl⟩ := hk3759
      have hP : va_P D vwCl [(w, .inr (8, [.ref (cs 450), .ref (cs 440), .ref (cs 441), .ref f3759_3, .int f3759_4, .int f3759_5, .int f3759_6]))] _ := va_P.cons hat3759 va_P.nil
      refine va_get (D := D) (ci := 8) (v := .ref (cs 441)) (C := RX8) (T := TX8) (N := 7) hx hb hts iX8_foretold_8 hown hN.1 hP 0 rfl rfl 2 (by decide) (hts _ mX8_foretold_1) (fun _ h9 => h9) rfl dX8_foretold_84 ?_
      obtain ⟨hb3760, e3760, hat3760, hk3760⟩ := hT.o8 t3759_2.1
      obtain ⟨f3760_0, f3760_1, f3760_2, f3760_3, f3760_4, f3760_5, f3760_6, f3760_7, f3760_8, f3760_9, f3760_10, f3760_11, f3760_12, f3760_13, f3760_14, f3760_15, rfl, t3760_0, c3760_su, t3760_1, t3760_2, t3760_3, t3760_4, t3760_5, c3760_tm, c3760_lt, c3760_ml, c3760_pr, c3760_li⟩ := hk3760
      rw [t3759_2.2] at t3760_1
      rw [t3759_2.2] at t3760_2
      rw [t3759_2.2] at t3760_3
      rw [t3759_2.2] at t3760_4
      rw [t3759_2.2] at t3760_5
      rw [t3759_2.2] at c3760_lt c3760_ml c3760_pr c3760_li
      subst c3760_ml
      subst c3760_pr
      subst c3760_li
      have hP : va_P D vwCl [((cs 441), .inr (7, [.ref f3760_0, .ref f3760_1, .ref (cs (400 + 1)), .ref (cs (420 + 1)), .ref (cs (460 + 1)), .ref f3760_5, .long f3760_6, .int f3760_7, .int f3760_8, .int f3760_9, .int f3760_10, .int f3760_11, .int f3760_12, .int f3760_13, .int f3760_14, .int f3760_15])), (w, .inr (8, [.ref (cs 450), .ref (cs 440), .ref (cs 441), .ref f3759_3, .int f3759_4, .int f3759_5, .int f3759_6]))] _ := va_P.cons hat3760 hP
      refine va_getN (D := D) (ci := 7) (v := .ref (cs (420 + 1))) (C := RX7) (T := TX7) (N := 16) hx hb hts iX8_foretold_7 hown hN.1 hP 0 rfl rfl 3 (by decide) (hN.f 48 rfl) (fun _ h9 => h9) rfl dX8_foretold_87 ?_
      refine cv_i (As := []) (rest := []) (b := (cs (420 + 1))) ⟨hx, hb, hml, hown, hts⟩ (c_X4_spreadOfChanges hT (w := (cs (420 + 1))) t3760_3) (cwV 0 hts gX8_foretold_X4_spreadOfChanges rfl rfl rfl hdX4_spreadOfChanges_v ⟨Nat.le_of_ble_eq_true rfl, Nat.le_of_ble_eq_true rfl⟩) hN hE hL (rcv5 hN hT t3760_3.1) rfl rfl hl.1 (Nat.le_of_ble_eq_true rfl) dX8_foretold_90 (show k3748 + 0 ≤ ((336 * sumN C 16 + 137000 - PotN LN) / 35) by omega) (show n3749 + 0 ≤ (336 * sumN C 16 + 137000 - PotN LN) by omega) (fun r3761 H1 locs hL hqr3761 => ?_)
      obtain rfl := hqr3761.symm
      refine W.know (fun hg => ?_)
      rw [hH0] at hg
      obtain ⟨C1, hC1, hR1⟩ := hR.rest (by decide) (by decide) fo_z hC
      exact vx_ret (en_i hx hb hr hlocks hL rfl (show k3748 ≤ ((336 * sumN C 16 + 137000 - PotN LN) / 35) by omega) (show n3749 ≤ (336 * sumN C 16 + 137000 - PotN LN) by omega) dX8_foretold_93 (⟨_, hKW, hT, C1, _, _, _, hC1, hR1, ⟨hg, hGN⟩, hbt⟩))
    · refine lv_tableIn (tgt := 94) (off := 67) hx hb dX8_foretold_27 (by decide) (by decide) (by decide) (by decide) ?_
      refine lv_aload_n hx hb dX8_foretold_94 rfl (lv_at hl 1 rfl) ?_
      obtain ⟨hb3762, e3762, hat3762, hk3762⟩ := hT.o9 hw.1
      obtain ⟨f3762_0, f3762_1, f3762_2, f3762_3, f3762_4, f3762_5, f3762_6, rfl, t3762_0, t3762_1, t3762_2, t3762_3, rfl, rfl, rfl⟩ := hk3762
      have hP : va_P D vwCl [(w, .inr (8, [.ref (cs 450), .ref (cs 440), .ref (cs 441), .ref f3762_3, .int f3762_4, .int f3762_5, .int f3762_6]))] _ := va_P.cons hat3762 va_P.nil
      refine va_get (D := D) (ci := 8) (v := .ref (cs 441)) (C := RX8) (T := TX8) (N := 7) hx hb hts iX8_foretold_8 hown hN.1 hP 0 rfl rfl 2 (by decide) (hts _ mX8_foretold_1) (fun _ h9 => h9) rfl dX8_foretold_95 ?_
      refine cv_i (As := []) (rest := []) (b := (cs 441)) ⟨hx, hb, hml, hown, hts⟩ (c_X7_countSongs hT (w := (cs 441)) t3762_2) (cwV 0 hts gX8_foretold_X7_countSongs rfl rfl rfl hdX7_countSongs_v ⟨Nat.le_of_ble_eq_true rfl, Nat.le_of_ble_eq_true rfl⟩) hN hE hL (rcv8 hN hT t3762_2.1) rfl rfl hl.1 (Nat.le_of_ble_eq_true rfl) dX8_foretold_98 (show k3748 + 0 ≤ ((336 * sumN C 16 + 137000 - PotN LN) / 35) by omega) (show n3749 + 0 ≤ (336 * sumN C 16 + 137000 - PotN LN) by omega) (fun r3763 H1 locs hL hqr3763 => ?_)
      obtain rfl := hqr3763.symm
      refine W.know (fun hg => ?_)
      rw [hH0] at hg
      obtain ⟨C1, hC1, hR1⟩ := hR.rest (by decide) (by decide) fo_z hC
      exact vx_ret (en_i hx hb hr hlocks hL rfl (show k3748 ≤ ((336 * sumN C 16 + 137000 - PotN LN) / 35) by omega) (show n3749 ≤ (336 * sumN C 16 + 137000 - PotN LN) by omega) dX8_foretold_101 (⟨_, hKW, hT, C1, _, _, _, hC1, hR1, ⟨hg, hGN⟩, hbt⟩))
theorem mX8_safest_1 : (.fieldLink RX8 19 "OneBeat" "now" "LOneBeat$World;" : Cond) ∈ wsX8_safest := List.mem_of_getElem? (i := 1) (by decide +kernel)
theorem iX8_safest_8 : ∀ w ∈ wsX80, w ∈ wsX8_safest := fun w h => List.mem_of_mem_drop (List.mem_of_mem_take ((show wsX80 = (wsX8_safest.drop 190).take 7 by decide +kernel) ▸ h))
theorem mX8_safest_2 : (.fieldLink RX8 23 "OneBeat" "trial" "LOneBeat$World;" : Cond) ∈ wsX8_safest := List.mem_of_getElem? (i := 2) (by decide +kernel)
theorem iX8_safest_7 : ∀ w ∈ wsX70, w ∈ wsX8_safest := fun w h => List.mem_of_mem_drop (List.mem_of_mem_take ((show wsX70 = (wsX8_safest.drop 197).take 16 by decide +kernel) ▸ h))
theorem iX8_safest_4 : ∀ w ∈ wsX40, w ∈ wsX8_safest := fun w h => List.mem_of_mem_drop (List.mem_of_mem_take ((show wsX40 = (wsX8_safest.drop 213).take 8 by decide +kernel) ▸ h))
set_option maxHeartbeats 4000000 in
set_option maxRecDepth 100000 in
theorem c_X8_safest {l : Launch} {D : va_G} {cs : Nat → ClassId} {B0 T : Nat} {κ : KM} {H0 : Heap} (hT : WT B0 D cs T κ H0) {w : Nat} (hw : T2 κ w 9 13) {C : Nat → Nat} {LN : Nat → Nat → Nat} (hR : RQ D cs κ H0 C LN er) : KC l yX8_safest wsX8_safest 7 201 ((336 * sumN C 16 + 137000 - PotN LN) / 35) (336 * sumN C 16 + 137000 - PotN LN) D cs B0 H0 [.ref w] (Qi (fun _ H => ∃ κ1, KW κ κ1 ∧ WT B0 D cs T κ1 H ∧ ∃ C1 LN1 k n, sumN C1 16 ≤ sumN C 16 + 24 ∧ RQ D cs κ1 H C1 LN1 er ∧ GQ H0 H LN LN1 k n ∧ BTK D cs κ H0 H)) := by
  refine KC.of cX8_safest 2 (some .int) (by decide) rfl (Nat.le_of_ble_eq_true rfl) ?_
  intro p e s m below meth c ls hx hb hr hml hown hts hlocks hin hN hE hH0 hl
  have hown : s.vm.findClass RX8 = some m.cls := hown
  have hl : lv_has ls 2 [(0, .ref w)] := hl
  have hL : OkL B0 [] := OkL.nil
  have hGN : 35 * 0 ≤ 0 ∧ 0 + PotN LN ≤ PotN LN := ⟨Nat.le_refl _, by omega⟩
  have hs0 := hR.pot
  have hbt : BTK D cs κ H0 H0 := BTK.rf
  refine lv_aload_n hx hb dX8_safest_0 rfl (lv_at hl 0 rfl) ?_
  obtain ⟨hb3764, e3764, hat3764, hk3764⟩ := hT.o9 hw.1
  obtain ⟨f3764_0, f3764_1, f3764_2, f3764_3, f3764_4, f3764_5, f3764_6, rfl, t3764_0, t3764_1, t3764_2, t3764_3, rfl, rfl, rfl⟩ := hk3764
  have hP : va_P D vwCl [(w, .inr (8, [.ref (cs 450), .ref (cs 440), .ref (cs 441), .ref f3764_3, .int f3764_4, .int f3764_5, .int f3764_6]))] _ := va_P.cons hat3764 va_P.nil
  refine va_get (D := D) (ci := 8) (v := .ref (cs 440)) (C := RX8) (T := TX8) (N := 7) hx hb hts iX8_safest_8 hown hN.1 hP 0 rfl rfl 1 (by decide) (hts _ mX8_safest_1) (fun _ h9 => h9) rfl dX8_safest_1 ?_
  refine cv_i (As := []) (rest := []) (b := (cs 440)) ⟨hx, hb, hml, hown, hts⟩ (c_X7_canPropose hT (w := (cs 440)) t3764_1) (cwV 0 hts gX8_safest_X7_canPropose rfl rfl rfl hdX7_canPropose_v ⟨Nat.le_of_ble_eq_true rfl, Nat.le_of_ble_eq_true rfl⟩) hN hE hL (rcv8 hN hT t3764_1.1) rfl rfl hl.1 (Nat.le_of_ble_eq_true rfl) dX8_safest_4 (Nat.zero_le _) (Nat.zero_le _) (fun r3765 H1 locs hL hqr3765 => ?_)
  obtain ⟨h9, hqr3765⟩ := hqr3765; replace h9 := h9.symm; subst h9
  rcases hqr3765 with rfl | rfl
  · refine lv_if_ne (tgt := 12) hx hb dX8_safest_7 (by decide) (fun c9 => absurd (by decide) c9) (fun _ => ?_)
    refine lv_iconst (v := (-1)) hx hb dX8_safest_10 (by decide) ?_
    refine W.know (fun hg => ?_)
    rw [hH0] at hg
    exact en_i hx hb hr hlocks hL rfl (Nat.zero_le _) (Nat.zero_le _) dX8_safest_11 (⟨κ, KW.rf, hT, C, LN, 0, 0, Nat.le_add_right _ _, hR, ⟨hg, hGN⟩, hbt⟩)
  · refine lv_if_ne (tgt := 12) hx hb dX8_safest_7 (by decide) (fun _ => ?_) (fun c9 => absurd c9 (by decide))
    refine lv_iconst (v := 1) hx hb dX8_safest_12 (by decide) ?_
    refine lv_istore_n (lv' := [(1, .int 1), (0, .ref w)]) hx hb dX8_safest_13 rfl hl (by decide) rfl (fun ls hl => ?_)
    refine W.know (fun hgb => ?_)
    rw [hH0] at hgb
    refine W.widen (k := ((336 * sumN C 16 + 137000 - PotN LN) / 35)) (n := (336 * sumN C 16 + 137000 - PotN LN)) (Nat.zero_le _) (Nat.zero_le _) ?_
    refine lp_m (α := Nat × KM × (Nat → Nat → Nat) × Nat × Nat) (nL := 2) (fun a9 => 61 - a9.1) (fun a9 H9 l9 => (a9.1 ≤ 61) ∧ (KW κ a9.2.1) ∧ (T2 a9.2.1 w 9 13) ∧ (RQ D cs a9.2.1 H9 C a9.2.2.1 er) ∧ (Gr H0 H9 a9.2.2.2.1 a9.2.2.2.2) ∧ (35 * a9.2.2.2.1 ≤ a9.2.2.2.2 ∧ a9.2.2.2.2 + PotN LN ≤ PotN a9.2.2.1) ∧ (BTK D cs κ H0 H9) ∧ (WT B0 D cs T a9.2.1 H9) ∧ (OkL B0 l9)) (fun a9 => [(1, .int (nI a9.1)), (0, .ref w)]) ?_ (1, κ, LN, 0, 0) _ _ _ ⟨(by show (1) ≤ 61; omega), KW.rf, hw, hR, hgb, hGN, hbt, hT, hL⟩ (lv_sub hl [0, 1] rfl)
    rintro ⟨k, κ9, LN9, k9, n9⟩ H locs ls ih3766 ⟨hk, hKW, hw, hR, hGR, hGN, hbt, hT, hL⟩ hl
    have hl : lv_has ls 2 [(1, .int (nI k)), (0, .ref w)] := hl
    have hk : k ≤ 61 := hk
    have hKW : KW κ κ9 := hKW
    have hw : T2 κ9 w 9 13 := hw
    have hR : RQ D cs κ9 H C LN9 er := hR
    have hGR : Gr H0 H k9 n9 := hGR
    have hGN : 35 * k9 ≤ n9 ∧ n9 + PotN LN ≤ PotN LN9 := hGN
    have hbt : BTK D cs κ H0 H := hbt
    have hT : WT B0 D cs T κ9 _ := hT
    have hKF := hKW.1
    refine W.tight (k := k9) (n := n9) (by rw [hH0]; exact hGR) ?_
    have hg1 := hGN.1
    have hg2 := hGN.2
    have hs9 := hR.pot
    refine lv_iload_n hx hb dX8_safest_14 rfl (lv_at hl 0 rfl) ?_
    refine lv_bipush (v := 60) hx hb dX8_safest_15 (by decide) ?_
    refine lv_icmp_gt (tgt := 88) hx hb dX8_safest_17 (by decide) (fun c3767 => ?_) (fun c3767 => ?_)
    · have c3767 : 60 < k := (nI_ltI (a := 60) (b := k) (by omega) (by omega)).mp c3767
      refine lv_iconst (v := (-1)) hx hb dX8_safest_88 (by decide) ?_
      refine W.know (fun hg => ?_)
      rw [hH0] at hg
      exact en_i hx hb hr hlocks hL rfl (show k9 ≤ ((336 * sumN C 16 + 137000 - PotN LN) / 35) by omega) (show n9 ≤ (336 * sumN C 16 + 137000 - PotN LN) by omega) dX8_safest_89 (⟨_, hKW, hT, C, _, _, _, Nat.le_add_right _ _, hR, ⟨hg, hGN⟩, hbt⟩)
    · have c3767 : ¬ 60 < k := fun h9 => c3767 ((nI_ltI (a := 60) (b := k) (by omega) (by omega)).mpr h9)
      refine lv_aload_n hx hb dX8_safest_20 rfl (lv_at hl 1 rfl) ?_
      obtain ⟨hb3768, e3768, hat3768, hk3768⟩ := hT.o9 hw.1
      obtain ⟨f3768_0, f3768_1, f3768_2, f3768_3, f3768_4, f3768_5, f3768_6, rfl, t3768_0, t3768_1, t3768_2, t3768_3, rfl, rfl, rfl⟩ := hk3768
      have hP : va_P D vwCl [(w, .inr (8, [.ref (cs 450), .ref (cs 440), .ref (cs 441), .ref f3768_3, .int f3768_4, .int f3768_5, .int f3768_6]))] _ := va_P.cons hat3768 va_P.nil
      refine va_get (D := D) (ci := 8) (v := .ref (cs 441)) (C := RX8) (T := TX8) (N := 7) hx hb hts iX8_safest_8 hown hN.1 hP 0 rfl rfl 2 (by decide) (hts _ mX8_safest_2) (fun _ h9 => h9) rfl dX8_safest_21 ?_
      refine lv_aload_n hx hb dX8_safest_24 rfl (lv_at hl 1 rfl) ?_
      refine va_get (D := D) (ci := 8) (v := .ref (cs 440)) (C := RX8) (T := TX8) (N := 7) hx hb hts iX8_safest_8 hown hN.1 hP 0 rfl rfl 1 (by decide) (hts _ mX8_safest_1) (fun _ h9 => h9) rfl dX8_safest_25 ?_
      refine W.know (fun hgb => ?_)
      rw [hH0] at hgb
      refine cv_v (As := [.ref (cs 440)]) (rest := []) (b := (cs 441)) ⟨hx, hb, hml, hown, hts⟩ (c_X7_copyFrom_dr hT (i := 1) (by omega) hR (j := 0) (by omega) (by decide) (by decide)) (cwV 1 hts gX8_safest_X7_copyFrom rfl rfl rfl hdX7_copyFrom_v ⟨Nat.le_of_ble_eq_true rfl, Nat.le_of_ble_eq_true rfl⟩) hN hE hL (rcv8 hN hT t3768_2.1) rfl rfl hl.1 (Nat.le_of_ble_eq_true rfl) dX8_safest_28 (show k9 + ((56 * sumN C 16 + 22407 - 2 * sumN (LN9 1) 16) / 35) ≤ ((336 * sumN C 16 + 137000 - PotN LN) / 35) by omega) (show n9 + (56 * sumN C 16 + 22407 - 2 * sumN (LN9 1) 16) ≤ (336 * sumN C 16 + 137000 - PotN LN) by omega) (fun H1 locs hL hqr3769 => ?_)
      obtain ⟨κr3769, hxr3769, hT1, hF1, hqr3769⟩ := hqr3769
      have hxfr3769 := hxr3769.1
      have hbt := hbt.fr hKW.z hT (hT.rd hw) hF1 (by first | decide | (simp; omega)) (by first | decide | (simp; omega))
      have hT := hT1
      have hKF := hKF.tr hxfr3769
      have hKW : KW κ κr3769 := hKW.tr (hxr3769.w (by omega))
      have hw := (KF.t2 hxfr3769 hw (by decide))
      obtain ⟨L3770, k3771, n3772, r3773, g3774⟩ := hqr3769
      have hR := r3773
      obtain ⟨k3775, n3776, hGP⟩ : ∃ k9 n9, GQ H0 _ LN L3770 k9 n9 := ⟨_, _, GQ.tr (show GQ H0 _ LN LN9 _ _ from ⟨hgb, hGN⟩) g3774⟩
      refine W.tight (k := k3775) (n := n3776) (by rw [hH0]; exact hGP.1) ?_
      have hGN : 35 * k3775 ≤ n3776 ∧ n3776 + PotN LN ≤ PotN L3770 := hGP.2
      have hgk3775 := hGN.1
      have hgn3776 := hGN.2
      have hsk3775 := hR.pot
      refine lv_aload_n hx hb dX8_safest_31 rfl (lv_at hl 1 rfl) ?_
      obtain ⟨hb3777, e3777, hat3777, hk3777⟩ := hT.o9 hw.1
      obtain ⟨f3777_0, f3777_1, f3777_2, f3777_3, f3777_4, f3777_5, f3777_6, rfl, t3777_0, t3777_1, t3777_2, t3777_3, rfl, rfl, rfl⟩ := hk3777
      have hP : va_P D vwCl [(w, .inr (8, [.ref (cs 450), .ref (cs 440), .ref (cs 441), .ref f3777_3, .int f3777_4, .int f3777_5, .int f3777_6]))] _ := va_P.cons hat3777 va_P.nil
      refine va_get (D := D) (ci := 8) (v := .ref (cs 441)) (C := RX8) (T := TX8) (N := 7) hx hb hts iX8_safest_8 hown hN.1 hP 0 rfl rfl 2 (by decide) (hts _ mX8_safest_2) (fun _ h9 => h9) rfl dX8_safest_32 ?_
      refine lv_iconst (v := 1) hx hb dX8_safest_35 (by decide) ?_
      refine lv_iload_n hx hb dX8_safest_36 rfl (lv_at hl 0 rfl) ?_
      refine W.know (fun hgb => ?_)
      rw [hH0] at hgb
      refine cv_v (As := [.int 1, .int (nI k)]) (rest := []) (b := (cs 441)) ⟨hx, hb, hml, hown, hts⟩ (c_X7_startProposal_dr hT (i := 1) (by omega) hR rfl) (cwV 2 hts gX8_safest_X7_startProposal rfl rfl rfl hdX7_startProposal_v ⟨Nat.le_of_ble_eq_true rfl, Nat.le_of_ble_eq_true rfl⟩) hN hE hL (rcv8 hN hT t3777_2.1) rfl rfl hl.1 (Nat.le_of_ble_eq_true rfl) dX8_safest_37 (show k3775 + ((56 * sumN C 16 + 22407 - 2 * sumN (L3770 1) 16) / 35) ≤ ((336 * sumN C 16 + 137000 - PotN LN) / 35) by omega) (show n3776 + (56 * sumN C 16 + 22407 - 2 * sumN (L3770 1) 16) ≤ (336 * sumN C 16 + 137000 - PotN LN) by omega) (fun H1 locs hL hqr3778 => ?_)
      obtain ⟨κr3778, hxr3778, hT1, hF1, hqr3778⟩ := hqr3778
      have hxfr3778 := hxr3778.1
      have hbt := hbt.fr hKW.z hT (hT.rd hw) hF1 (by first | decide | (simp; omega)) (by first | decide | (simp; omega))
      have hT := hT1
      have hKF := hKF.tr hxfr3778
      have hKW : KW κ κr3778 := hKW.tr (hxr3778.w (by omega))
      have hw := (KF.t2 hxfr3778 hw (by decide))
      obtain ⟨L3779, k3780, n3781, r3782, g3783⟩ := hqr3778
      have hR := r3782
      obtain ⟨k3784, n3785, hGP⟩ : ∃ k9 n9, GQ H0 _ LN L3779 k9 n9 := ⟨_, _, GQ.tr (show GQ H0 _ LN L3770 _ _ from ⟨hgb, hGN⟩) g3783⟩
      refine W.tight (k := k3784) (n := n3785) (by rw [hH0]; exact hGP.1) ?_
      have hGN : 35 * k3784 ≤ n3785 ∧ n3785 + PotN LN ≤ PotN L3779 := hGP.2
      have hgk3784 := hGN.1
      have hgn3785 := hGN.2
      have hsk3784 := hR.pot
      refine lv_aload_n hx hb dX8_safest_40 rfl (lv_at hl 1 rfl) ?_
      obtain ⟨hb3786, e3786, hat3786, hk3786⟩ := hT.o9 hw.1
      obtain ⟨f3786_0, f3786_1, f3786_2, f3786_3, f3786_4, f3786_5, f3786_6, rfl, t3786_0, t3786_1, t3786_2, t3786_3, rfl, rfl, rfl⟩ := hk3786
      have hP : va_P D vwCl [(w, .inr (8, [.ref (cs 450), .ref (cs 440), .ref (cs 441), .ref f3786_3, .int f3786_4, .int f3786_5, .int f3786_6]))] _ := va_P.cons hat3786 va_P.nil
      refine va_get (D := D) (ci := 8) (v := .ref (cs 441)) (C := RX8) (T := TX8) (N := 7) hx hb hts iX8_safest_8 hown hN.1 hP 0 rfl rfl 2 (by decide) (hts _ mX8_safest_2) (fun _ h9 => h9) rfl dX8_safest_41 ?_
      refine lv_iconst (v := 1) hx hb dX8_safest_44 (by decide) ?_
      refine W.know (fun hgb => ?_)
      rw [hH0] at hgb
      refine cv_i (As := [.int 1]) (rest := []) (b := (cs 441)) ⟨hx, hb, hml, hown, hts⟩ (c_X7_runOn_dr hT (i := 1) (by omega) hR (Or.inr rfl) (by decide)) (cwV 1 hts gX8_safest_X7_runOn rfl rfl rfl hdX7_runOn_v ⟨Nat.le_of_ble_eq_true rfl, Nat.le_of_ble_eq_true rfl⟩) hN hE hL (rcv8 hN hT t3786_2.1) rfl rfl hl.1 (Nat.le_of_ble_eq_true rfl) dX8_safest_45 (show k3784 + ((56 * sumN C 16 + 22407 - 2 * sumN (L3779 1) 16) / 35) ≤ ((336 * sumN C 16 + 137000 - PotN LN) / 35) by omega) (show n3785 + (56 * sumN C 16 + 22407 - 2 * sumN (L3779 1) 16) ≤ (336 * sumN C 16 + 137000 - PotN LN) by omega) (fun r3787 H1 locs hL hqr3787 => ?_)
      obtain ⟨κr3787, hxr3787, hT1, hF1, hqr3787⟩ := hqr3787
      have hxfr3787 := hxr3787.1
      have hbt := hbt.fr hKW.z hT (hT.rd hw) hF1 (by first | decide | (simp; omega)) (by first | decide | (simp; omega))
      have hT := hT1
      have hKF := hKF.tr hxfr3787
      have hKW : KW κ κr3787 := hKW.tr (hxr3787.w (by omega))
      have hw := (KF.t2 hxfr3787 hw (by decide))
      obtain ⟨L3788, k3789, n3790, r3791, g3792⟩ := hqr3787
      have hR := r3791
      obtain ⟨k3793, n3794, hGP⟩ : ∃ k9 n9, GQ H0 _ LN L3788 k9 n9 := ⟨_, _, GQ.tr (show GQ H0 _ LN L3779 _ _ from ⟨hgb, hGN⟩) g3792⟩
      refine W.tight (k := k3793) (n := n3794) (by rw [hH0]; exact hGP.1) ?_
      have hGN : 35 * k3793 ≤ n3794 ∧ n3794 + PotN LN ≤ PotN L3788 := hGP.2
      have hgk3793 := hGN.1
      have hgn3794 := hGN.2
      have hsk3793 := hR.pot
      refine lv_pop hx hb dX8_safest_48 rfl ?_
      refine lv_aload_n hx hb dX8_safest_49 rfl (lv_at hl 1 rfl) ?_
      obtain ⟨hb3795, e3795, hat3795, hk3795⟩ := hT.o9 hw.1
      obtain ⟨f3795_0, f3795_1, f3795_2, f3795_3, f3795_4, f3795_5, f3795_6, rfl, t3795_0, t3795_1, t3795_2, t3795_3, rfl, rfl, rfl⟩ := hk3795
      have hP : va_P D vwCl [(w, .inr (8, [.ref (cs 450), .ref (cs 440), .ref (cs 441), .ref f3795_3, .int f3795_4, .int f3795_5, .int f3795_6]))] _ := va_P.cons hat3795 va_P.nil
      refine va_get (D := D) (ci := 8) (v := .ref (cs 441)) (C := RX8) (T := TX8) (N := 7) hx hb hts iX8_safest_8 hown hN.1 hP 0 rfl rfl 2 (by decide) (hts _ mX8_safest_2) (fun _ h9 => h9) rfl dX8_safest_50 ?_
      obtain ⟨hb3796, e3796, hat3796, hk3796⟩ := hT.o8 t3795_2.1
      obtain ⟨f3796_0, f3796_1, f3796_2, f3796_3, f3796_4, f3796_5, f3796_6, f3796_7, f3796_8, f3796_9, f3796_10, f3796_11, f3796_12, f3796_13, f3796_14, f3796_15, rfl, t3796_0, c3796_su, t3796_1, t3796_2, t3796_3, t3796_4, t3796_5, c3796_tm, c3796_lt, c3796_ml, c3796_pr, c3796_li⟩ := hk3796
      rw [t3795_2.2] at t3796_1
      rw [t3795_2.2] at t3796_2
      rw [t3795_2.2] at t3796_3
      rw [t3795_2.2] at t3796_4
      rw [t3795_2.2] at t3796_5
      rw [t3795_2.2] at c3796_lt c3796_ml c3796_pr c3796_li
      subst c3796_ml
      subst c3796_pr
      subst c3796_li
      have hP : va_P D vwCl [((cs 441), .inr (7, [.ref f3796_0, .ref f3796_1, .ref (cs (400 + 1)), .ref (cs (420 + 1)), .ref (cs (460 + 1)), .ref f3796_5, .long f3796_6, .int f3796_7, .int f3796_8, .int f3796_9, .int f3796_10, .int f3796_11, .int f3796_12, .int f3796_13, .int f3796_14, .int f3796_15])), (w, .inr (8, [.ref (cs 450), .ref (cs 440), .ref (cs 441), .ref f3795_3, .int f3795_4, .int f3795_5, .int f3795_6]))] _ := va_P.cons hat3796 hP
      refine va_getN (D := D) (ci := 7) (v := .ref (cs (420 + 1))) (C := RX7) (T := TX7) (N := 16) hx hb hts iX8_safest_7 hown hN.1 hP 0 rfl rfl 3 (by decide) (hN.f 48 rfl) (fun _ h9 => h9) rfl dX8_safest_53 ?_
      obtain ⟨hb3797, e3797, hat3797, hk3797⟩ := hT.o5 t3796_3.1
      obtain ⟨f3797_0, f3797_1, f3797_2, f3797_3, f3797_4, f3797_5, f3797_6, f3797_7, rfl, c3797⟩ := hk3797
      have hP : va_P D vwCl [((cs (420 + 1)), .inr (4, [.int f3797_0, .int f3797_1, .int f3797_2, .int f3797_3, .int f3797_4, .int f3797_5, .int f3797_6, .int f3797_7])), ((cs 441), .inr (7, [.ref f3796_0, .ref f3796_1, .ref (cs (400 + 1)), .ref (cs (420 + 1)), .ref (cs (460 + 1)), .ref f3796_5, .long f3796_6, .int f3796_7, .int f3796_8, .int f3796_9, .int f3796_10, .int f3796_11, .int f3796_12, .int f3796_13, .int f3796_14, .int f3796_15])), (w, .inr (8, [.ref (cs 450), .ref (cs 440), .ref (cs 441), .ref f3795_3, .int f3795_4, .int f3795_5, .int f3795_6]))] _ := va_P.cons hat3797 hP
      refine va_getN (D := D) (ci := 4) (v := .int f3797_5) (C := RX4) (T := TX4) (N := 8) hx hb hts iX8_safest_4 hown hN.1 hP 0 rfl rfl 5 (by decide) (hN.f 11 rfl) (fun _ h9 => h9) rfl dX8_safest_56 ?_
      refine lv_iconst (v := 1) hx hb dX8_safest_59 (by decide) ?_
      refine lv_icmp_ne (tgt := 82) hx hb dX8_safest_60 (by decide) (fun c3798 => ?_) (fun c3798 => ?_)
      · refine lv_iinc (v := (nI (k + 1))) (lv' := [(1, .int (nI (k + 1))), (0, .ref w)]) hx hb dX8_safest_82 hl (k := 0) rfl (nI_add _ 1) (by decide) rfl (fun ls hl => ?_)
        refine lv_goto (tgt := 14) hx hb dX8_safest_85 (by decide) ?_
        refine W.know (fun hgb => ?_)
        rw [hH0] at hgb
        refine W.widen (k := ((336 * sumN C 16 + 137000 - PotN LN) / 35)) (n := (336 * sumN C 16 + 137000 - PotN LN)) (show k3793 ≤ ((336 * sumN C 16 + 137000 - PotN LN) / 35) by omega) (show n3794 ≤ (336 * sumN C 16 + 137000 - PotN LN) by omega) ?_
        exact ih3766 ((k + 1), κr3787, L3788, k3793, n3794) _ _ _ (by show 61 - ((k + 1)) < 61 - k; omega) ⟨(by show ((k + 1)) ≤ 61; omega), hKW, hw, (hR.ce sf_e), hgb, hGN, hbt, hT, hL⟩ (lv_sub hl [0, 1] rfl)
      · refine lv_aload_n hx hb dX8_safest_63 rfl (lv_at hl 1 rfl) ?_
        refine va_get (D := D) (ci := 8) (v := .ref (cs 441)) (C := RX8) (T := TX8) (N := 7) hx hb hts iX8_safest_8 hown hN.1 hP 2 rfl rfl 2 (by decide) (hts _ mX8_safest_2) (fun _ h9 => h9) rfl dX8_safest_64 ?_
        refine va_getN (D := D) (ci := 7) (v := .int f3796_15) (C := RX7) (T := TX7) (N := 16) hx hb hts iX8_safest_7 hown hN.1 hP 1 rfl rfl 15 (by decide) (hN.f 52 rfl) (fun _ h9 => h9) rfl dX8_safest_67 ?_
        refine lv_aload_n hx hb dX8_safest_70 rfl (lv_at hl 1 rfl) ?_
        refine va_get (D := D) (ci := 8) (v := .ref (cs 440)) (C := RX8) (T := TX8) (N := 7) hx hb hts iX8_safest_8 hown hN.1 hP 2 rfl rfl 1 (by decide) (hts _ mX8_safest_1) (fun _ h9 => h9) rfl dX8_safest_71 ?_
        obtain ⟨hb3799, e3799, hat3799, hk3799⟩ := hT.o8 t3795_1.1
        obtain ⟨f3799_0, f3799_1, f3799_2, f3799_3, f3799_4, f3799_5, f3799_6, f3799_7, f3799_8, f3799_9, f3799_10, f3799_11, f3799_12, f3799_13, f3799_14, f3799_15, rfl, t3799_0, c3799_su, t3799_1, t3799_2, t3799_3, t3799_4, t3799_5, c3799_tm, c3799_lt, c3799_ml, c3799_pr, c3799_li⟩ := hk3799
        rw [t3795_1.2] at t3799_1
        rw [t3795_1.2] at t3799_2
        rw [t3795_1.2] at t3799_3
        rw [t3795_1.2] at t3799_4
        rw [t3795_1.2] at t3799_5
        rw [t3795_1.2] at c3799_lt c3799_ml c3799_pr c3799_li
        subst c3799_ml
        subst c3799_pr
        subst c3799_li
        have hP : va_P D vwCl [((cs 440), .inr (7, [.ref f3799_0, .ref f3799_1, .ref (cs (400 + 0)), .ref (cs (420 + 0)), .ref (cs (460 + 0)), .ref f3799_5, .long f3799_6, .int f3799_7, .int f3799_8, .int f3799_9, .int f3799_10, .int f3799_11, .int f3799_12, .int f3799_13, .int f3799_14, .int f3799_15])), ((cs (420 + 1)), .inr (4, [.int f3797_0, .int f3797_1, .int f3797_2, .int f3797_3, .int f3797_4, .int f3797_5, .int f3797_6, .int f3797_7])), ((cs 441), .inr (7, [.ref f3796_0, .ref f3796_1, .ref (cs (400 + 1)), .ref (cs (420 + 1)), .ref (cs (460 + 1)), .ref f3796_5, .long f3796_6, .int f3796_7, .int f3796_8, .int f3796_9, .int f3796_10, .int f3796_11, .int f3796_12, .int f3796_13, .int f3796_14, .int f3796_15])), (w, .inr (8, [.ref (cs 450), .ref (cs 440), .ref (cs 441), .ref f3795_3, .int f3795_4, .int f3795_5, .int f3795_6]))] _ := va_P.cons hat3799 hP
        refine va_getN (D := D) (ci := 7) (v := .int f3799_15) (C := RX7) (T := TX7) (N := 16) hx hb hts iX8_safest_7 hown hN.1 hP 0 rfl rfl 15 (by decide) (hN.f 52 rfl) (fun _ h9 => h9) rfl dX8_safest_74 ?_
        refine lv_icmp_ne (tgt := 82) hx hb dX8_safest_77 (by decide) (fun c3800 => ?_) (fun c3800 => ?_)
        · refine lv_iinc (v := (nI (k + 1))) (lv' := [(1, .int (nI (k + 1))), (0, .ref w)]) hx hb dX8_safest_82 hl (k := 0) rfl (nI_add _ 1) (by decide) rfl (fun ls hl => ?_)
          refine lv_goto (tgt := 14) hx hb dX8_safest_85 (by decide) ?_
          refine W.know (fun hgb => ?_)
          rw [hH0] at hgb
          refine W.widen (k := ((336 * sumN C 16 + 137000 - PotN LN) / 35)) (n := (336 * sumN C 16 + 137000 - PotN LN)) (show k3793 ≤ ((336 * sumN C 16 + 137000 - PotN LN) / 35) by omega) (show n3794 ≤ (336 * sumN C 16 + 137000 - PotN LN) by omega) ?_
          exact ih3766 ((k + 1), κr3787, L3788, k3793, n3794) _ _ _ (by show 61 - ((k + 1)) < 61 - k; omega) ⟨(by show ((k + 1)) ≤ 61; omega), hKW, hw, (hR.ce sf_e), hgb, hGN, hbt, hT, hL⟩ (lv_sub hl [0, 1] rfl)
        · refine lv_iload_n hx hb dX8_safest_80 rfl (lv_at hl 0 rfl) ?_
          refine W.know (fun hg => ?_)
          rw [hH0] at hg
          exact en_i hx hb hr hlocks hL rfl (show k3793 ≤ ((336 * sumN C 16 + 137000 - PotN LN) / 35) by omega) (show n3794 ≤ (336 * sumN C 16 + 137000 - PotN LN) by omega) dX8_safest_81 (⟨_, hKW, hT, C, _, _, _, Nat.le_add_right _ _, hR.ce sf_e, ⟨hg, hGN⟩, hbt⟩)
theorem mX8_meanError_1 : (.fieldLink RX8 19 "OneBeat" "now" "LOneBeat$World;" : Cond) ∈ wsX8_meanError := List.mem_of_getElem? (i := 1) (by decide +kernel)
theorem iX8_meanError_8 : ∀ w ∈ wsX80, w ∈ wsX8_meanError := fun w h => List.mem_of_mem_drop (List.mem_of_mem_take ((show wsX80 = (wsX8_meanError.drop 39).take 7 by decide +kernel) ▸ h))
theorem iX8_meanError_7 : ∀ w ∈ wsX70, w ∈ wsX8_meanError := fun w h => List.mem_of_mem_drop (List.mem_of_mem_take ((show wsX70 = (wsX8_meanError.drop 46).take 16 by decide +kernel) ▸ h))
theorem iX8_meanError_6 : ∀ w ∈ wsX60, w ∈ wsX8_meanError := fun w h => List.mem_of_mem_drop (List.mem_of_mem_take ((show wsX60 = (wsX8_meanError.drop 62).take 8 by decide +kernel) ▸ h))
theorem iX8_meanError_3 : ∀ w ∈ wsX30, w ∈ wsX8_meanError := fun w h => List.mem_of_mem_drop (List.mem_of_mem_take ((show wsX30 = (wsX8_meanError.drop 70).take 10 by decide +kernel) ▸ h))
theorem mX8_meanError_2 : (.methodLink RX8 172 Lib.Math.abs.name : Cond) ∈ wsX8_meanError := List.mem_of_getElem? (i := 2) (by decide +kernel)
theorem mX8_meanError_3 : (.static Lib.Math.abs.name : Cond) ∈ wsX8_meanError := List.mem_of_getElem? (i := 3) (by decide +kernel)
theorem mX8_meanError_4 : (.initialized "java/lang/Math" : Cond) ∈ wsX8_meanError := List.mem_of_getElem? (i := 4) (by decide +kernel)
theorem mX8_meanError_5 : (.code Lib.Math.abs.name Lib.Math.abs.code 1 (some .int) : Cond) ∈ wsX8_meanError := List.mem_of_getElem? (i := 5) (by decide +kernel)
set_option maxHeartbeats 4000000 in
set_option maxRecDepth 100000 in
theorem c_X8_meanError {l : Launch} {D : va_G} {cs : Nat → ClassId} {B0 T : Nat} {κ : KM} {H0 : Heap} (hT : WT B0 D cs T κ H0) {w : Nat} (hw : T2 κ w 9 13) {C : Nat → Nat} {LN : Nat → Nat → Nat} (hR : RQ D cs κ H0 C LN er) : KC l yX8_meanError wsX8_meanError 4 85 ((336 * sumN C 16 + 137000 - PotN LN) / 35) (336 * sumN C 16 + 137000 - PotN LN) D cs B0 H0 [.ref w] (Qd (fun _ H => ∃ κ1, KW κ κ1 ∧ WT B0 D cs T κ1 H ∧ ∃ C1 LN1 k n, sumN C1 16 ≤ sumN C 16 + 24 ∧ RQ D cs κ1 H C1 LN1 er ∧ GQ H0 H LN LN1 k n ∧ BTK D cs κ H0 H)) := by
  refine KC.of cX8_meanError 4 (some .double) (by decide) rfl (Nat.le_of_ble_eq_true rfl) ?_
  intro p e s m below meth c ls hx hb hr hml hown hts hlocks hin hN hE hH0 hl
  have hown : s.vm.findClass RX8 = some m.cls := hown
  have hl : lv_has ls 4 [(0, .ref w)] := hl
  have hL : OkL B0 [] := OkL.nil
  have hGN : 35 * 0 ≤ 0 ∧ 0 + PotN LN ≤ PotN LN := ⟨Nat.le_refl _, by omega⟩
  have hs0 := hR.pot
  have hbt : BTK D cs κ H0 H0 := BTK.rf
  refine lv_lconst (v := 0) hx hb dX8_meanError_0 (by decide) ?_
  refine lv_lstore_n (lv' := [(1, .long 0), (0, .ref w)]) hx hb dX8_meanError_1 rfl hl (by decide) rfl (fun ls hl => ?_)
  refine lv_iconst (v := 0) hx hb dX8_meanError_2 (by decide) ?_
  refine lv_istore_n (lv' := [(3, .int 0), (1, .long 0), (0, .ref w)]) hx hb dX8_meanError_3 rfl hl (by decide) rfl (fun ls hl => ?_)
  refine lp_m (α := Nat × Int64) (nL := 4) (fun a9 => 8 - a9.1) (fun a9 H9 l9 => (a9.1 ≤ 8) ∧ (RQ D cs κ H9 C LN er) ∧ (BTK D cs κ H0 H9) ∧ (WT B0 D cs T κ H9) ∧ (OkL B0 l9)) (fun a9 => [(3, .int (nI a9.1)), (1, .long a9.2), (0, .ref w)]) ?_ (0, 0) _ _ _ ⟨(by show (0) ≤ 8; omega), hR, hbt, hT, hL⟩ (lv_sub hl [0, 1, 2] rfl)
  rintro ⟨p, y⟩ H locs ls ih3801 ⟨hp, hR, hbt, hT, hL⟩ hl
  have hl : lv_has ls 4 [(3, .int (nI p)), (1, .long y), (0, .ref w)] := hl
  have hp : p ≤ 8 := hp
  have hR : RQ D cs κ H C LN er := hR
  have hbt : BTK D cs κ H0 H := hbt
  refine lv_iload_n hx hb dX8_meanError_4 rfl (lv_at hl 0 rfl) ?_
  refine lv_aload_n hx hb dX8_meanError_5 rfl (lv_at hl 2 rfl) ?_
  obtain ⟨hb3802, e3802, hat3802, hk3802⟩ := hT.o9 hw.1
  obtain ⟨f3802_0, f3802_1, f3802_2, f3802_3, f3802_4, f3802_5, f3802_6, rfl, t3802_0, t3802_1, t3802_2, t3802_3, rfl, rfl, rfl⟩ := hk3802
  have hP : va_P D vwCl [(w, .inr (8, [.ref (cs 450), .ref (cs 440), .ref (cs 441), .ref f3802_3, .int f3802_4, .int f3802_5, .int f3802_6]))] _ := va_P.cons hat3802 va_P.nil
  refine va_get (D := D) (ci := 8) (v := .ref (cs 440)) (C := RX8) (T := TX8) (N := 7) hx hb hts iX8_meanError_8 hown hN.1 hP 0 rfl rfl 1 (by decide) (hts _ mX8_meanError_1) (fun _ h9 => h9) rfl dX8_meanError_6 ?_
  obtain ⟨hb3803, e3803, hat3803, hk3803⟩ := hT.o8 t3802_1.1
  obtain ⟨f3803_0, f3803_1, f3803_2, f3803_3, f3803_4, f3803_5, f3803_6, f3803_7, f3803_8, f3803_9, f3803_10, f3803_11, f3803_12, f3803_13, f3803_14, f3803_15, rfl, t3803_0, c3803_su, t3803_1, t3803_2, t3803_3, t3803_4, t3803_5, c3803_tm, c3803_lt, c3803_ml, c3803_pr, c3803_li⟩ := hk3803
  rw [t3802_1.2] at t3803_1
  rw [t3802_1.2] at t3803_2
  rw [t3802_1.2] at t3803_3
  rw [t3802_1.2] at t3803_4
  rw [t3802_1.2] at t3803_5
  rw [t3802_1.2] at c3803_lt c3803_ml c3803_pr c3803_li
  subst c3803_ml
  subst c3803_pr
  subst c3803_li
  have hP : va_P D vwCl [((cs 440), .inr (7, [.ref f3803_0, .ref f3803_1, .ref (cs (400 + 0)), .ref (cs (420 + 0)), .ref (cs (460 + 0)), .ref f3803_5, .long f3803_6, .int f3803_7, .int f3803_8, .int f3803_9, .int f3803_10, .int f3803_11, .int f3803_12, .int f3803_13, .int f3803_14, .int f3803_15])), (w, .inr (8, [.ref (cs 450), .ref (cs 440), .ref (cs 441), .ref f3802_3, .int f3802_4, .int f3802_5, .int f3802_6]))] _ := va_P.cons hat3803 hP
  refine va_getN (D := D) (ci := 7) (v := .ref f3803_0) (C := RX7) (T := TX7) (N := 16) hx hb hts iX8_meanError_7 hown hN.1 hP 0 rfl rfl 0 (by decide) (hN.f 46 rfl) (fun _ h9 => h9) rfl dX8_meanError_9 ?_
  obtain ⟨hb3804, e3804, hat3804, hk3804⟩ := hT.o7 t3803_0.1
  obtain ⟨f3804_0, f3804_1, f3804_2, f3804_3, f3804_4, f3804_5, f3804_6, f3804_7, rfl, c3804_0, c3804_3, c3804_mg, t3804_4, t3804_5, t3804_6, t3804_7⟩ := hk3804
  rw [t3803_0.2] at t3804_4
  rw [t3803_0.2] at t3804_5
  rw [t3803_0.2] at t3804_6
  rw [t3803_0.2] at t3804_7
  have hP : va_P D vwCl [(f3803_0, .inr (6, [.int (nI f3804_0), .int f3804_1, .int f3804_2, f3804_3, .ref f3804_4, .ref f3804_5, .ref f3804_6, .ref f3804_7])), ((cs 440), .inr (7, [.ref f3803_0, .ref f3803_1, .ref (cs (400 + 0)), .ref (cs (420 + 0)), .ref (cs (460 + 0)), .ref f3803_5, .long f3803_6, .int f3803_7, .int f3803_8, .int f3803_9, .int f3803_10, .int f3803_11, .int f3803_12, .int f3803_13, .int f3803_14, .int f3803_15])), (w, .inr (8, [.ref (cs 450), .ref (cs 440), .ref (cs 441), .ref f3802_3, .int f3802_4, .int f3802_5, .int f3802_6]))] _ := va_P.cons hat3804 hP
  refine va_getN (D := D) (ci := 6) (v := .int (nI f3804_0)) (C := RX6) (T := TX6) (N := 8) hx hb hts iX8_meanError_6 hown hN.1 hP 0 rfl rfl 0 (by decide) (hN.f 37 rfl) (fun _ h9 => h9) rfl dX8_meanError_12 ?_
  refine lv_icmp_ge (tgt := 53) hx hb dX8_meanError_15 (by decide) (fun c3805 => ?_) (fun c3805 => ?_)
  · have c3805 : f3804_0 ≤ p := (nI_leI (a := f3804_0) (b := p) (by omega) (by omega)).mp c3805
    refine lv_aload_n hx hb dX8_meanError_53 rfl (lv_at hl 2 rfl) ?_
    refine va_get (D := D) (ci := 8) (v := .ref (cs 440)) (C := RX8) (T := TX8) (N := 7) hx hb hts iX8_meanError_8 hown hN.1 hP 2 rfl rfl 1 (by decide) (hts _ mX8_meanError_1) (fun _ h9 => h9) rfl dX8_meanError_54 ?_
    refine cv_i (As := []) (rest := []) (b := (cs 440)) ⟨hx, hb, hml, hown, hts⟩ (c_X7_countUp hT (w := (cs 440)) t3802_1) (cwV 0 hts gX8_meanError_X7_countUp rfl rfl rfl hdX7_countUp_v ⟨Nat.le_of_ble_eq_true rfl, Nat.le_of_ble_eq_true rfl⟩) hN hE hL (rcv8 hN hT t3802_1.1) rfl rfl hl.1 (Nat.le_of_ble_eq_true rfl) dX8_meanError_57 (Nat.zero_le _) (Nat.zero_le _) (fun r3806 H1 locs hL hqr3806 => ?_)
    obtain rfl := hqr3806.symm
    refine lv_istore_n (lv' := [(3, .int r3806), (1, .long y), (0, .ref w)]) hx hb dX8_meanError_60 rfl hl (by decide) rfl (fun ls hl => ?_)
    refine lv_iload_n hx hb dX8_meanError_61 rfl (lv_at hl 0 rfl) ?_
    refine lv_if_ne (tgt := 69) hx hb dX8_meanError_62 (by decide) (fun c3807 => ?_) (fun c3807 => ?_)
    · refine lv_lload_n hx hb dX8_meanError_69 rfl (lv_at hl 1 rfl) ?_
      refine lv_l2d hx hb dX8_meanError_70 ?_
      refine lv_iload_n hx hb dX8_meanError_71 rfl (lv_at hl 0 rfl) ?_
      refine lv_i2d hx hb dX8_meanError_72 ?_
      refine lv_ddiv hx hb dX8_meanError_73 (dd_l y c3807) ?_
      refine gn_d (fun z3808 => ?_)
      refine W.know (fun hg => ?_)
      rw [hH0] at hg
      exact en_d hx hb hr hlocks hL (Nat.zero_le _) (Nat.zero_le _) dX8_meanError_74 (⟨κ, KW.rf, hT, C, LN, 0, 0, Nat.le_add_right _ _, hR, ⟨hg, hGN⟩, hbt⟩)
    · refine lv_dconst0 hx hb dX8_meanError_65 ?_
      refine gn_d (fun z3809 => ?_)
      refine lv_goto (tgt := 74) hx hb dX8_meanError_66 (by decide) ?_
      refine W.know (fun hg => ?_)
      rw [hH0] at hg
      exact en_d hx hb hr hlocks hL (Nat.zero_le _) (Nat.zero_le _) dX8_meanError_74 (⟨κ, KW.rf, hT, C, LN, 0, 0, Nat.le_add_right _ _, hR, ⟨hg, hGN⟩, hbt⟩)
  · have c3805 : ¬ f3804_0 ≤ p := fun h9 => c3805 ((nI_leI (a := f3804_0) (b := p) (by omega) (by omega)).mpr h9)
    refine lv_aload_n hx hb dX8_meanError_18 rfl (lv_at hl 2 rfl) ?_
    refine va_get (D := D) (ci := 8) (v := .ref (cs 440)) (C := RX8) (T := TX8) (N := 7) hx hb hts iX8_meanError_8 hown hN.1 hP 2 rfl rfl 1 (by decide) (hts _ mX8_meanError_1) (fun _ h9 => h9) rfl dX8_meanError_19 ?_
    refine lv_iload_n hx hb dX8_meanError_22 rfl (lv_at hl 0 rfl) ?_
    refine cv_r (As := [.int (nI p)]) (rest := []) (b := (cs 440)) ⟨hx, hb, hml, hown, hts⟩ (c_X7_at hT (w := (cs 440)) t3802_1 (x := (nI p))) (cwV 1 hts gX8_meanError_X7_at rfl rfl rfl hdX7_at_v ⟨Nat.le_of_ble_eq_true rfl, Nat.le_of_ble_eq_true rfl⟩) hN hE hL (rcv8 hN hT t3802_1.1) rfl rfl hl.1 (Nat.le_of_ble_eq_true rfl) dX8_meanError_23 (Nat.zero_le _) (Nat.zero_le _) (fun r3810 H1 locs hL hqr3810 => ?_)
    obtain ⟨h9, hqr3810⟩ := hqr3810; replace h9 := h9.symm; subst h9
    obtain ⟨hb3811, e3811, hat3811, hk3811⟩ := hT.o4 hqr3810.1
    obtain ⟨f3811_0, f3811_1, f3811_2, f3811_3, f3811_4, f3811_5, f3811_6, f3811_7, f3811_8, f3811_9, rfl, c3811_up⟩ := hk3811
    have hP : va_P D vwCl [(r3810, .inr (3, [.int f3811_0, .int f3811_1, .int f3811_2, .int f3811_3, .int f3811_4, .int f3811_5, .int f3811_6, .int f3811_7, .int f3811_8, .int f3811_9])), (f3803_0, .inr (6, [.int (nI f3804_0), .int f3804_1, .int f3804_2, f3804_3, .ref f3804_4, .ref f3804_5, .ref f3804_6, .ref f3804_7])), ((cs 440), .inr (7, [.ref f3803_0, .ref f3803_1, .ref (cs (400 + 0)), .ref (cs (420 + 0)), .ref (cs (460 + 0)), .ref f3803_5, .long f3803_6, .int f3803_7, .int f3803_8, .int f3803_9, .int f3803_10, .int f3803_11, .int f3803_12, .int f3803_13, .int f3803_14, .int f3803_15])), (w, .inr (8, [.ref (cs 450), .ref (cs 440), .ref (cs 441), .ref f3802_3, .int f3802_4, .int f3802_5, .int f3802_6]))] _ := va_P.cons hat3811 hP
    refine va_getN (D := D) (ci := 3) (v := .int f3811_0) (C := RX3) (T := TX3) (N := 10) hx hb hts iX8_meanError_3 hown hN.1 hP 0 rfl rfl 0 (by decide) (hN.f 28 rfl) (fun _ h9 => h9) rfl dX8_meanError_26 ?_
    refine lv_if_eq (tgt := 47) hx hb dX8_meanError_29 (by decide) (fun c3812 => ?_) (fun c3812 => ?_)
    · refine lv_iinc (v := (nI (p + 1))) (lv' := [(3, .int (nI (p + 1))), (1, .long y), (0, .ref w)]) hx hb dX8_meanError_47 hl (k := 0) rfl (nI_add _ 1) (by decide) rfl (fun ls hl => ?_)
      refine lv_goto (tgt := 4) hx hb dX8_meanError_50 (by decide) ?_
      exact ih3801 ((p + 1), y) _ _ _ (by show 8 - ((p + 1)) < 8 - p; omega) ⟨(by show ((p + 1)) ≤ 8; omega), hR, hbt, hT, hL⟩ (lv_sub hl [0, 1, 2] rfl)
    · refine lv_lload_n hx hb dX8_meanError_32 rfl (lv_at hl 1 rfl) ?_
      refine lv_aload_n hx hb dX8_meanError_33 rfl (lv_at hl 2 rfl) ?_
      refine va_get (D := D) (ci := 8) (v := .ref (cs 440)) (C := RX8) (T := TX8) (N := 7) hx hb hts iX8_meanError_8 hown hN.1 hP 3 rfl rfl 1 (by decide) (hts _ mX8_meanError_1) (fun _ h9 => h9) rfl dX8_meanError_34 ?_
      refine lv_iload_n hx hb dX8_meanError_37 rfl (lv_at hl 0 rfl) ?_
      refine cv_i (As := [.int (nI p)]) (rest := [.long y]) (b := (cs 440)) ⟨hx, hb, hml, hown, hts⟩ (c_X7_error hT (w := (cs 440)) t3802_1 (x := (nI p))) (cwV 1 hts gX8_meanError_X7_error rfl rfl rfl hdX7_error_v ⟨Nat.le_of_ble_eq_true rfl, Nat.le_of_ble_eq_true rfl⟩) hN hE hL (rcv8 hN hT t3802_1.1) rfl rfl hl.1 (Nat.le_of_ble_eq_true rfl) dX8_meanError_38 (Nat.zero_le _) (Nat.zero_le _) (fun r3813 H1 locs hL hqr3813 => ?_)
      obtain rfl := hqr3813.symm
      refine va_mabs hx hb (hml.trans hl.1.symm) hown (hts _ mX8_meanError_2) (hts _ mX8_meanError_3) (hts _ mX8_meanError_4) (hts _ mX8_meanError_5) (Nat.le_of_ble_eq_true rfl) (Nat.le_of_ble_eq_true rfl) (Nat.zero_le _) (Nat.zero_le _) dX8_meanError_41 ?_
      refine gn_i (fun x3814 => ?_)
      refine lv_i2l hx hb dX8_meanError_44 rfl ?_
      refine gn_l (fun y3815 => ?_)
      refine lv_ladd hx hb dX8_meanError_45 ?_
      refine gn_l (fun y3816 => ?_)
      refine lv_lstore_n (lv' := [(1, .long y3816), (3, .int (nI p)), (0, .ref w)]) hx hb dX8_meanError_46 rfl hl (by decide) rfl (fun ls hl => ?_)
      refine lv_iinc (v := (nI (p + 1))) (lv' := [(3, .int (nI (p + 1))), (1, .long y3816), (0, .ref w)]) hx hb dX8_meanError_47 hl (k := 1) rfl (nI_add _ 1) (by decide) rfl (fun ls hl => ?_)
      refine lv_goto (tgt := 4) hx hb dX8_meanError_50 (by decide) ?_
      exact ih3801 ((p + 1), y3816) _ _ _ (by show 8 - ((p + 1)) < 8 - p; omega) ⟨(by show ((p + 1)) ≤ 8; omega), hR, hbt, hT, hL⟩ (lv_sub hl [0, 1, 2] rfl)
theorem mX8_checksum_2 : (.fieldLink RX8 19 "OneBeat" "now" "LOneBeat$World;" : Cond) ∈ wsX8_checksum := List.mem_of_getElem? (i := 2) (by decide +kernel)
theorem iX8_checksum_8 : ∀ w ∈ wsX80, w ∈ wsX8_checksum := fun w h => List.mem_of_mem_drop (List.mem_of_mem_take ((show wsX80 = (wsX8_checksum.drop 156).take 7 by decide +kernel) ▸ h))
theorem iX8_checksum_7 : ∀ w ∈ wsX70, w ∈ wsX8_checksum := fun w h => List.mem_of_mem_drop (List.mem_of_mem_take ((show wsX70 = (wsX8_checksum.drop 163).take 16 by decide +kernel) ▸ h))
theorem iX8_checksum_6 : ∀ w ∈ wsX60, w ∈ wsX8_checksum := fun w h => List.mem_of_mem_drop (List.mem_of_mem_take ((show wsX60 = (wsX8_checksum.drop 179).take 8 by decide +kernel) ▸ h))
theorem iX8_checksum_2 : ∀ w ∈ wsX20, w ∈ wsX8_checksum := fun w h => List.mem_of_mem_drop (List.mem_of_mem_take ((show wsX20 = (wsX8_checksum.drop 187).take 3 by decide +kernel) ▸ h))
theorem mX8_checksum_1 : (.constantLong RX8 228 (31) : Cond) ∈ wsX8_checksum := List.mem_of_getElem? (i := 1) (by decide +kernel)
