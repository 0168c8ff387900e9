theorem c_X7_tick_dr {l : Launch} {D : va_G} {cs : Nat → ClassId} {B0 T : Nat} {κ : KM} {H0 : Heap} (hT : WT B0 D cs T κ H0) {i : Nat} (hi : i < 10) {C : Nat → Nat} {LN : Nat → Nat → Nat} {e : Nat → Nat} (hR : RQ D cs κ H0 C LN e) (he : e i ≤ 24) :
    KC l yX7_tick wsX7_tick 5 156 ((56 * sumN C 16 + 22407 - 2 * sumN (LN i) 16) / 35) (56 * sumN C 16 + 22407 - 2 * sumN (LN i) 16) D cs B0 H0 [.ref (cs (440 + i))] (Qv (fun H => ∃ κ1, KU i κ κ1 ∧ WT B0 D cs T κ1 H ∧ Fr B0 [i, i + 20, i + 40] κ H0 H ∧ ∃ LN1 k n, RQ D cs κ1 H C LN1 (up9 e i (m8 (e i))) ∧ GQ H0 H LN LN1 k n)) := by
  obtain ⟨cn, rw9, dl, ht, hm, hs⟩ := hR i hi
  refine (c_X7_tick hT ht rfl rfl hm hs.el (m8_le he)).wk (fun v H hq => ?_)
  obtain ⟨e9, κ1, hu, hT1, hF, cn1, ln1, rw1, t1, k, n, hm1, hg, hs1, ht1, he1⟩ := hq
  exact ⟨e9, κ1, hu, hT1, hF, _, k, n, hR.up hT hi hF (by intro x hx; simp at hx; omega) hu (by rw [hs1, ht1]; exact hm1) (ST.of he1 m8_ne), hg.q hi⟩

theorem c_X7_runOn_dr {l : Launch} {D : va_G} {cs : Nat → ClassId} {B0 T : Nat} {κ : KM} {H0 : Heap} (hT : WT B0 D cs T κ H0) {i : Nat} (hi : i < 10) {C : Nat → Nat} {LN : Nat → Nat → Nat} {e : Nat → Nat} (hR : RQ D cs κ H0 C LN e) {x : Int32} (qx : x = 0 ∨ x = 1) (he : e i ≤ 24) :
    KC l yX7_runOn wsX7_runOn 6 178 ((56 * sumN C 16 + 22407 - 2 * sumN (LN i) 16) / 35) (56 * sumN C 16 + 22407 - 2 * sumN (LN i) 16) D cs B0 H0 [.ref (cs (440 + i)), .int x] (Qi (fun r H => ∃ κ1, KU i κ κ1 ∧ WT B0 D cs T κ1 H ∧ Fr B0 [i, i + 20, i + 40] κ H0 H ∧ ∃ LN1 k n, RQ D cs κ1 H C LN1 (up9 e i (m8 (e i))) ∧ GQ H0 H LN LN1 k n)) := by
  obtain ⟨cn, rw9, dl, ht, hm, hs⟩ := hR i hi
  refine (c_X7_runOn hT ht qx rfl rfl hm hs.el (m8_le he)).wk (fun v H hq => ?_)
  obtain ⟨r, e9, κ1, hu, hT1, hF, cn1, ln1, rw1, t1, k, n, hm1, hg, hs1, ht1, he1⟩ := hq
  exact ⟨r, e9, κ1, hu, hT1, hF, _, k, n, hR.up hT hi hF (by intro x hx; simp at hx; omega) hu (by rw [hs1, ht1]; exact hm1) (ST.of he1 m8_ne), hg.q hi⟩

theorem c_X7_startProposal_dr {l : Launch} {D : va_G} {cs : Nat → ClassId} {B0 T : Nat} {κ : KM} {H0 : Heap} (hT : WT B0 D cs T κ H0) {i : Nat} (hi : i < 10) {C : Nat → Nat} {LN : Nat → Nat → Nat} {e : Nat → Nat} (hR : RQ D cs κ H0 C LN e) {x y : Int32} (he : e i = 0) :
    KC l yX7_startProposal wsX7_startProposal 5 155 ((56 * sumN C 16 + 22407 - 2 * sumN (LN i) 16) / 35) (56 * sumN C 16 + 22407 - 2 * sumN (LN i) 16) D cs B0 H0 [.ref (cs (440 + i)), .int x, .int y] (Qv (fun H => ∃ κ1, KU i κ κ1 ∧ WT B0 D cs T κ1 H ∧ Fr B0 [i, i + 20] κ H0 H ∧ ∃ LN1 k n, RQ D cs κ1 H C LN1 (up9 e i 24) ∧ GQ H0 H LN LN1 k n)) := by
  obtain ⟨cn, rw9, dl, ht, hm, hs⟩ := hR i hi
  rw [he] at hs
  refine (c_X7_startProposal hT ht rfl rfl hm hs.z).wk (fun v H hq => ?_)
  obtain ⟨e9, κ1, hu, hT1, hF, cn1, ln1, rw1, k, n, hm1, hg, hs1, ht1, he1⟩ := hq
  exact ⟨e9, κ1, hu, hT1, hF, _, k, n, hR.up hT hi hF (by intro x hx; simp at hx; omega) hu (by rw [hs1, ht1]; exact hm1) (ST.of he1 (by decide)), hg.q hi⟩

theorem c_X7_sendAsk_dr {l : Launch} {D : va_G} {cs : Nat → ClassId} {B0 T : Nat} {κ : KM} {H0 : Heap} (hT : WT B0 D cs T κ H0) {i : Nat} (hi : i < 10) {C : Nat → Nat} {LN : Nat → Nat → Nat} {e : Nat → Nat} (hR : RQ D cs κ H0 C LN e) {x : Int32} (he : e i = 0) :
    KC l yX7_sendAsk wsX7_sendAsk 3 113 ((56 * sumN C 16 + 22407 - 2 * sumN (LN i) 16) / 35) (56 * sumN C 16 + 22407 - 2 * sumN (LN i) 16) D cs B0 H0 [.ref (cs (440 + i)), .int x] (Qi (fun r H => ∃ κ1, KU i κ κ1 ∧ WT B0 D cs T κ1 H ∧ Fr B0 [i, i + 20] κ H0 H ∧ ∃ LN1 k n, RQ D cs κ1 H C LN1 (up9 e i 10) ∧ GQ H0 H LN LN1 k n ∧ (r = 0 ∨ r = 1))) := by
  obtain ⟨cn, rw9, dl, ht, hm, hs⟩ := hR i hi
  rw [he] at hs
  refine (c_X7_sendAsk hT ht rfl rfl hm (b := 8) hs.el (by decide)).wk (fun v H hq => ?_)
  obtain ⟨r, e9, κ1, hx, hT1, hF, cn1, ln1, rw1, k, n, hm1, hg, he1, hr⟩ := hq
  exact ⟨r, e9, κ1, hx.u, hT1, hF, _, k, n, hR.up hT hi hF (by intro x hx; simp at hx; omega) hx.u (by rw [hx.n ht (by decide)]; exact hm1) (ST.of he1 (by decide)), hg.q hi, hr⟩

theorem c_X7_copyFrom_dr {l : Launch} {D : va_G} {cs : Nat → ClassId} {B0 T : Nat} {κ : KM} {H0 : Heap} (hT : WT B0 D cs T κ H0) {i : Nat} (hi : i < 10) {C : Nat → Nat} {LN : Nat → Nat → Nat} {e : Nat → Nat} (hR : RQ D cs κ H0 C LN e) {j : Nat} (hj : j < 10) (hij : ¬ j = i) (he : e j ≤ 24) :
    KC l yX7_copyFrom wsX7_copyFrom 2 84 ((56 * sumN C 16 + 22407 - 2 * sumN (LN i) 16) / 35) (56 * sumN C 16 + 22407 - 2 * sumN (LN i) 16) D cs B0 H0 [.ref (cs (440 + i)), .ref (cs (440 + j))] (Qv (fun H => ∃ κ1, KU i κ κ1 ∧ WT B0 D cs T κ1 H ∧ Fr B0 [i, i + 20] κ H0 H ∧ ∃ LN1 k n, RQ D cs κ1 H C LN1 (up9 e i (e j)) ∧ GQ H0 H LN LN1 k n)) := by
  obtain ⟨cn, rw9, dl, ht, hm, hs⟩ := hR i hi
  obtain ⟨cnj, rwj, dlj, htj, hmj, hsj⟩ := hR j hj
  refine (c_X7_copyFrom hT ht htj hij rfl rfl hmj (EE_cb (Nat.le_trans hsj.el.le9 (m8_le he))) hm.1 hm.2.2.1).wk (fun v H hq => ?_)
  obtain ⟨e9, κ1, hu, hT1, hF, ln1, rw1, k, n, hm1, hg, hs1, ht1, hp1, hrr⟩ := hq
  exact ⟨e9, κ1, hu, hT1, hF, _, k, n, hR.up hT hi hF (by intro x hx; simp at hx; omega) hu (by rw [hs1, ht1]; exact hm1) (hsj.cg (EE_congr (fun _ _ => rfl) hrr) hp1), hg.q hi⟩

theorem c_X7_begin_dr {l : Launch} {D : va_G} {cs : Nat → ClassId} {B0 T : Nat} {κ : KM} {H0 : Heap} (hT : WT B0 D cs T κ H0) {i : Nat} (hi : i < 10) {C : Nat → Nat} {LN : Nat → Nat → Nat} {e : Nat → Nat} (hR : RQ D cs κ H0 C LN e) {x : Nat} (hx7 : T2 κ x 7 15) (he : e i ≤ 24) :
    KC l yX7_begin wsX7_begin 2 43 0 0 D cs B0 H0 [.ref (cs (440 + i)), .ref x] (Qv (fun H => ∃ κ1, KU i κ κ1 ∧ WT B0 D cs T κ1 H ∧ Fr B0 [i, i + 20] κ H0 H ∧ ∃ LN1 k n, RQ D cs κ1 H C LN1 (up9 e i 0) ∧ GQ H0 H LN LN1 k n)) := by
  obtain ⟨cn, rw9, dl, ht, hm, hs⟩ := hR i hi
  obtain ⟨dlx, hDl⟩ := hT.dly hx7
  refine ((c_X7_begin hT ht hx7 hDl hm.1 hm.2.2.1 (EE_cb (Nat.le_trans hs.el.le9 (m8_le he)))).grv).wk (fun v H hq => ?_)
  obtain ⟨e9, hgr, κ1, hu, hT1, hF, hm1, hs1, ht1, hp1⟩ := hq
  exact ⟨e9, κ1, hu, hT1, hF, _, 0, 0, hR.up hT hi hF (by intro x hx; simp at hx; omega) hu (by rw [hs1, ht1]; exact hm1) (ST.oz (by rw [EE_zero (fun _ _ => rfl)]; exact Nat.le_refl _)), GP.q (ln1 := LN i) ⟨hgr, Nat.le_refl _, by omega⟩ hi⟩

theorem RQ.ce {D : va_G} {cs : Nat → ClassId} {κ : KM} {H : Heap} {C : Nat → Nat} {LN : Nat → Nat → Nat} {e e1 : Nat → Nat} (h : RQ D cs κ H C LN e) (he : ∀ i, i < 10 → e i = e1 i) : RQ D cs κ H C LN e1 := fun i hi => by
  rw [← he i hi]; exact h i hi
theorem er_z {i : Nat} (h : i ≠ 1) : er i = 0 := if_neg h
theorem er_c {i j : Nat} (hi : i ≠ 1) (hj : j ≠ 1) : ∀ k, k < 10 → up9 er i (er j) k = er k := fun k _ => by
  by_cases e : k = i
  · subst e; rw [up9_r, er_z hi, er_z hj]
  · rw [up9_n e]

theorem er_2 {i k : Nat} (h : 2 ≤ i) : up9 er 0 k i = 0 := by rw [up9_n (by omega)]; exact er_z (by omega)
theorem RQ.m8 {D : va_G} {cs : Nat → ClassId} {κ : KM} {H : Heap} {C : Nat → Nat} {LN : Nat → Nat → Nat} {e : Nat → Nat} (h : RQ D cs κ H C LN e) (k : Nat) : RQ D cs κ H C LN (up9 e k (m8 (e k))) := fun i hi => by
  obtain ⟨cn, rw9, dl, ht, hm, hs⟩ := h i hi
  refine ⟨cn, rw9, dl, ht, hm, ?_⟩
  by_cases hz : i = k
  · subst hz; rw [up9_r]; exact ST.of hs.el m8_ne
  · rw [up9_n hz]; exact hs
theorem up_8 : ∀ i, i < 10 → up9 (up9 er 0 8) 0 (m8 (up9 er 0 8 0)) i = up9 er 0 8 i := fun i _ => by
  by_cases e : i = 0
  · subst e; rfl
  · rw [up9_n e]
theorem sf_e : ∀ i, i < 10 → up9 (up9 (up9 er 1 (er 0)) 1 24) 1 (m8 (up9 (up9 er 1 (er 0)) 1 24 1)) i = er i := fun i _ => by
  by_cases e : i = 1
  · subst e; rfl
  · rw [up9_n e, up9_n e, up9_n e]
theorem fo_z : ∀ i, 2 ≤ i → i < 10 → up9 (up9 er 1 (er 0)) 1 (m8 (up9 er 1 (er 0) 1)) i = 0 := fun i h _ => by
  rw [up9_n (by omega), up9_n (by omega)]; exact er_z (by omega)

theorem tot_lt {t : Int32} {k : Nat} (hk : k < 2147483648) (h : ¬ t ≤ nI k) : k + 1 < 2147483648 := by
  rw [Int32.le_iff_toInt_le, nI_toInt hk] at h
  have := Int32.toInt_lt t
  omega
theorem RQ.kk9 {B0 : Nat} {D : va_G} {cs : Nat → ClassId} {T : Nat} {κ κ1 : KM} {H H9 : Heap} {C : Nat → Nat} {LN : Nat → Nat → Nat} {e : Nat → Nat} (h : RQ D cs κ H C LN e) (hT : WT B0 D cs T κ H9) (hk : ∀ a, ((κ a).1 = 8 ∨ (κ a).1 = 5) → (κ a).2.1 < 10 → κ1 a = κ a) : RQ D cs κ1 H C LN e := fun i hi => by
  obtain ⟨cn, rw9, dl, ht, hm, hs⟩ := h i hi
  obtain ⟨-, hp, -⟩ := hT.ml ht
  have e1 := hk _ (Or.inl ht.1) (by rw [ht.2]; exact hi)
  have e2 := hk _ (Or.inr hp.1) (by rw [hp.2]; exact hi)
  exact ⟨cn, rw9, dl, ⟨by rw [e1]; exact ht.1, by rw [e1]; exact ht.2⟩, by rw [e1]; exact hm, by rw [e2]; exact hs⟩
/-- kinds where the reader's numbers alone may be others -/
def RDK (rd : Nat) (κ κ' : KM) : Prop := KF κ κ' ∧ ∀ a, (κ a).1 ≠ 0 → a ≠ rd → κ' a = κ a
theorem RDK.rf {rd : Nat} {κ : KM} : RDK rd κ κ := ⟨KF.rf, fun _ _ _ => rfl⟩
theorem RDK.tr {rd : Nat} {κ κ1 κ2 : KM} (h : RDK rd κ κ1) (g : RDK rd κ1 κ2) : RDK rd κ κ2 := ⟨h.1.tr g.1, fun a ha hi => by
  have e := h.2 a ha hi
  exact (g.2 a (by rw [e]; exact ha) hi).trans e⟩
theorem RDK.kp {rd x y : Nat} {κ : KM} : RDK rd κ (kp κ rd x y) := ⟨KF.kp, fun _ _ hi => kp_n hi⟩

theorem mX8_keepForUndo_1 : (.fieldLink RX8 225 "OneBeat" "newest" "I" : Cond) ∈ wsX8_keepForUndo := List.mem_of_getElem? (i := 1) (by decide +kernel)
theorem iX8_keepForUndo_8 : ∀ w ∈ wsX80, w ∈ wsX8_keepForUndo := fun w h => List.mem_of_mem_drop (List.mem_of_mem_take ((show wsX80 = (wsX8_keepForUndo.drop 73).take 7 by decide +kernel) ▸ h))
theorem mX8_keepForUndo_2 : (.fieldLink RX8 26 "OneBeat" "past" "[LOneBeat$World;" : Cond) ∈ wsX8_keepForUndo := List.mem_of_getElem? (i := 2) (by decide +kernel)
theorem mX8_keepForUndo_3 : (.fieldLink RX8 19 "OneBeat" "now" "LOneBeat$World;" : Cond) ∈ wsX8_keepForUndo := List.mem_of_getElem? (i := 3) (by decide +kernel)
theorem hdX7_copyFrom_v : yX7_copyFrom.cls = RX7 ∧ yX7_copyFrom.cls ≠ "java/lang/invoke/MethodHandle" ∧ yX7_copyFrom.cls ≠ "java/lang/invoke/VarHandle" ∧ (parseMethodDescriptor yX7_copyFrom.desc).map (fun d => d.parameters.length) = some 1 := by decide +kernel
theorem mX8_keepForUndo_4 : (.fieldLink RX8 222 "OneBeat" "undoable" "I" : Cond) ∈ wsX8_keepForUndo := List.mem_of_getElem? (i := 4) (by decide +kernel)
set_option maxHeartbeats 4000000 in
set_option maxRecDepth 100000 in
theorem c_X8_keepForUndo {l : Launch} {D : va_G} {cs : Nat → ClassId} {B0 T : Nat} {κ : KM} {H0 : Heap} (hT : WT B0 D cs T κ H0) {w : Nat} (hw : T2 κ w 9 13) {C : Nat → Nat} {LN : Nat → Nat → Nat} (hR : RQ D cs κ H0 C LN er) : KC l yX8_keepForUndo wsX8_keepForUndo 3 106 ((336 * sumN C 16 + 137000 - PotN LN) / 35) (336 * sumN C 16 + 137000 - PotN LN) D cs B0 H0 [.ref w] (Qv (fun H => ∃ κ1, KW κ κ1 ∧ WT B0 D cs T κ1 H ∧ ∃ LN1 k n, RQ D cs κ1 H C LN1 er ∧ GQ H0 H LN LN1 k n)) := by
  refine KC.of cX8_keepForUndo 1 none (by decide) rfl (Nat.le_of_ble_eq_true rfl) ?_
  intro p e s m below meth c ls hx hb hr hml hown hts hlocks hin hN hE hH0 hl
  have hown : s.vm.findClass RX8 = some m.cls := hown
  have hl : lv_has ls 1 [(0, .ref w)] := hl
  have hL : OkL B0 [] := OkL.nil
  have hGN : 35 * 0 ≤ 0 ∧ 0 + PotN LN ≤ PotN LN := ⟨Nat.le_refl _, by omega⟩
  have hs0 := hR.pot
  refine lv_aload_n hx hb dX8_keepForUndo_0 rfl (lv_at hl 0 rfl) ?_
  refine lv_aload_n hx hb dX8_keepForUndo_1 rfl (lv_at hl 0 rfl) ?_
  obtain ⟨hb5442, e5442, hat5442, hk5442⟩ := hT.o9 hw.1
  obtain ⟨f5442_0, f5442_1, f5442_2, f5442_3, f5442_4, f5442_5, f5442_6, rfl, t5442_0, t5442_1, t5442_2, t5442_3, rfl, rfl, rfl⟩ := hk5442
  have hP : va_P D vwCl [(w, .inr (8, [.ref (cs 450), .ref (cs 440), .ref (cs 441), .ref f5442_3, .int f5442_4, .int f5442_5, .int f5442_6]))] _ := va_P.cons hat5442 va_P.nil
  refine va_get (D := D) (ci := 8) (v := .int f5442_4) (C := RX8) (T := TX8) (N := 7) hx hb hts iX8_keepForUndo_8 hown hN.1 hP 0 rfl rfl 4 (by decide) (hts _ mX8_keepForUndo_1) (fun _ h9 => h9) rfl dX8_keepForUndo_2 ?_
  refine lv_iconst (v := 1) hx hb dX8_keepForUndo_5 (by decide) ?_
  refine lv_iadd hx hb dX8_keepForUndo_6 ?_
  refine gn_i (fun x5443 => ?_)
  refine lv_bipush (v := 7) hx hb dX8_keepForUndo_7 (by decide) ?_
  refine lv_iand hx hb dX8_keepForUndo_9 ?_
  have hj5444 := m7_lt x5443
  refine tp_i (nI (m7 x5443)) (and7 x5443) ?_
  have hB : Bx B0 D _ [(w, .inr (8, [.ref (cs 450), .ref (cs 440), .ref (cs 441), .ref f5442_3, .int f5442_4, .int f5442_5, .int f5442_6]))] [] _ _ := Bx.of (fun a => (κ a).1) hL hP (fa_c hb5442 fa_n) (by simp only [List.map_cons, List.map_nil, hw.1]; decide)
  refine b_put (D := D) (ci := 8) (v := .int (nI (m7 x5443))) (ty := .int) (C := RX8) (T := TX8) (N := 7) hx hb hts iX8_keepForUndo_8 tyX8 tyX8_ok nmX8 hown hN hB 0 rfl rfl 4 (by decide) (hts _ mX8_keepForUndo_1) (fun _ h9 => h9) rfl (by decide +kernel) rfl rfl (Nat.le_of_ble_eq_true rfl) (.inl rfl) dX8_keepForUndo_10 (fun H locs hB => ?_)
  have hB : Bx B0 D _ [(w, .inr (8, [.ref (cs 450), .ref (cs 440), .ref (cs 441), .ref f5442_3, .int (nI (m7 x5443)), .int f5442_5, .int f5442_6]))] [w] _ _ := hB
  refine lv_aload_n hx hb dX8_keepForUndo_13 rfl (lv_at hl 0 rfl) ?_
  refine va_get (D := D) (ci := 8) (v := .ref f5442_3) (C := RX8) (T := TX8) (N := 7) hx hb hts iX8_keepForUndo_8 hown hN.1 hB.1 0 rfl rfl 3 (by decide) (hts _ mX8_keepForUndo_2) (fun _ h9 => h9) rfl dX8_keepForUndo_14 ?_
  refine lv_aload_n hx hb dX8_keepForUndo_17 rfl (lv_at hl 0 rfl) ?_
  refine va_get (D := D) (ci := 8) (v := .int (nI (m7 x5443))) (C := RX8) (T := TX8) (N := 7) hx hb hts iX8_keepForUndo_8 hown hN.1 hB.1 0 rfl rfl 4 (by decide) (hts _ mX8_keepForUndo_1) (fun _ h9 => h9) rfl dX8_keepForUndo_18 ?_
  refine lv_bipush (v := 7) hx hb dX8_keepForUndo_21 (by decide) ?_
  refine lv_iand hx hb dX8_keepForUndo_23 ?_
  have hj5445 := m7_lt (nI (m7 x5443))
  refine tp_i (nI (m7 (nI (m7 x5443)))) (and7 (nI (m7 x5443))) ?_
  obtain ⟨hb5446, e5446, hat5446, hk5446⟩ := hT.o12 t5442_3.1
  obtain ⟨g5446, rfl, q5446⟩ := hk5446
  have hB : Bx B0 D _ [(w, .inr (8, [.ref (cs 450), .ref (cs 440), .ref (cs 441), .ref f5442_3, .int (nI (m7 x5443)), .int f5442_5, .int f5442_6])), (f5442_3, .inl (cs 5, 8, .inr (.inr (.inr (.inr g5446)))))] [w] _ _ := hB.more hat5446 hb5446 (fa_c (ne_c hw.1 t5442_3.1 (by decide)) fa_n) (fa_c (ne_c hw.1 t5442_3.1 (by decide)) fa_n)
  obtain ⟨a5447, ea5447, ta5447, ha5447⟩ := q5446 ((m7 (nI (m7 x5443)))) (by omega)
  have ha5447 := ha5447.trans (show cs (442 + (m7 (nI (m7 x5443)))) = cs (440 + ((m7 (nI (m7 x5443))) + 2)) from congrArg cs (by omega))
  subst ha5447
  refine ld_w (v := .ref (cs (440 + ((m7 (nI (m7 x5443))) + 2)))) hx hb hN hB.1 1 rfl (vp_in_nI (n := (m7 (nI (m7 x5443)))) (N := 8) (by omega) (by omega)) (by rw [(show ((nI (m7 (nI (m7 x5443)))) : Int32).toNatClampNeg = (m7 (nI (m7 x5443))) from nI_clamp (n := (m7 (nI (m7 x5443)))) (by omega)), ea5447]; rfl) dX8_keepForUndo_24 ?_
  refine lv_aload_n hx hb dX8_keepForUndo_25 rfl (lv_at hl 0 rfl) ?_
  refine va_get (D := D) (ci := 8) (v := .ref (cs 440)) (C := RX8) (T := TX8) (N := 7) hx hb hts iX8_keepForUndo_8 hown hN.1 hB.1 0 rfl rfl 1 (by decide) (hts _ mX8_keepForUndo_3) (fun _ h9 => h9) rfl dX8_keepForUndo_26 ?_
  have hR := hR.fr hT trivial (Fr.close (S := [13]) Fr.rf hB (fa_c (by simp [hw.2]) fa_n)) (by decide)
  have hT : WT B0 D cs T κ _ := hT.close hB ⟨⟨0, _, rfl, ok_9 hw.1 ⟨_, _, _, _, _, _, _, rfl, t5442_0, t5442_1, t5442_2, t5442_3, rfl, rfl, rfl⟩⟩, trivial⟩
  have hL : OkL B0 _ := hB.2.2.2.2.2
  have hP : va_P D vwCl [(w, .inr (8, [.ref (cs 450), .ref (cs 440), .ref (cs 441), .ref f5442_3, .int (nI (m7 x5443)), .int f5442_5, .int f5442_6])), (f5442_3, .inl (cs 5, 8, .inr (.inr (.inr (.inr g5446)))))] _ := hB.1
  refine W.know (fun hgb => ?_)
  rw [hH0] at hgb
  refine cv_v (As := [.ref (cs 440)]) (rest := []) (b := (cs (440 + ((m7 (nI (m7 x5443))) + 2)))) ⟨hx, hb, hml, hown, hts⟩ (c_X7_copyFrom_dr hT (i := ((m7 (nI (m7 x5443))) + 2)) (by omega) hR (j := 0) (by omega) (by omega) (by decide)) (cwV 1 hts gX8_keepForUndo_X7_copyFrom rfl rfl rfl hdX7_copyFrom_v ⟨Nat.le_of_ble_eq_true rfl, Nat.le_of_ble_eq_true rfl⟩) hN hE hL (rcv8 hN hT ta5447.1) rfl rfl hl.1 (Nat.le_of_ble_eq_true rfl) dX8_keepForUndo_29 (show 0 + ((56 * sumN C 16 + 22407 - 2 * sumN (LN ((m7 (nI (m7 x5443))) + 2)) 16) / 35) ≤ ((336 * sumN C 16 + 137000 - PotN LN) / 35) by omega) (show 0 + (56 * sumN C 16 + 22407 - 2 * sumN (LN ((m7 (nI (m7 x5443))) + 2)) 16) ≤ (336 * sumN C 16 + 137000 - PotN LN) by omega) (fun H1 locs hL hqr5448 => ?_)
  obtain ⟨κr5448, hxr5448, hT1, hF1, hqr5448⟩ := hqr5448
  have hxfr5448 := hxr5448.1
  have hT := hT1
  have hKF : KF κ κr5448 := hxfr5448
  have hKW : KW κ κr5448 := (hxr5448.w (by omega))
  have hw := (KF.t2 hxfr5448 hw (by decide))
  obtain ⟨L5449, k5450, n5451, r5452, g5453⟩ := hqr5448
  have hR := r5452
  obtain ⟨k5454, n5455, hGP⟩ : ∃ k9 n9, GQ H0 _ LN L5449 k9 n9 := ⟨_, _, GQ.tr (show GQ H0 _ LN LN _ _ from ⟨hgb, hGN⟩) g5453⟩
  refine W.tight (k := k5454) (n := n5455) (by rw [hH0]; exact hGP.1) ?_
  have hGN : 35 * k5454 ≤ n5455 ∧ n5455 + PotN LN ≤ PotN L5449 := hGP.2
  have hgk5454 := hGN.1
  have hgn5455 := hGN.2
  have hsk5454 := hR.pot
  refine lv_aload_n hx hb dX8_keepForUndo_32 rfl (lv_at hl 0 rfl) ?_
  obtain ⟨hb5456, e5456, hat5456, hk5456⟩ := hT.o9 hw.1
  obtain ⟨f5456_0, f5456_1, f5456_2, f5456_3, f5456_4, f5456_5, f5456_6, rfl, t5456_0, t5456_1, t5456_2, t5456_3, rfl, rfl, rfl⟩ := hk5456
  have hP : va_P D vwCl [(w, .inr (8, [.ref (cs 450), .ref (cs 440), .ref (cs 441), .ref f5456_3, .int f5456_4, .int f5456_5, .int f5456_6]))] _ := va_P.cons hat5456 va_P.nil
  refine va_get (D := D) (ci := 8) (v := .int f5456_5) (C := RX8) (T := TX8) (N := 7) hx hb hts iX8_keepForUndo_8 hown hN.1 hP 0 rfl rfl 5 (by decide) (hts _ mX8_keepForUndo_4) (fun _ h9 => h9) rfl dX8_keepForUndo_33 ?_
  refine lv_bipush (v := 8) hx hb dX8_keepForUndo_36 (by decide) ?_
  refine lv_icmp_ge (tgt := 51) hx hb dX8_keepForUndo_38 (by decide) (fun c5457 => ?_) (fun c5457 => ?_)
  · refine W.know (fun hg => ?_)
    rw [hH0] at hg
    exact en_v hx hb hr hlocks hL (show k5454 ≤ ((336 * sumN C 16 + 137000 - PotN LN) / 35) by omega) (show n5455 ≤ (336 * sumN C 16 + 137000 - PotN LN) by omega) dX8_keepForUndo_51 (⟨_, hKW, hT, _, _, _, hR.ce (er_c (by omega) (by decide)), ⟨hg, hGN⟩⟩)
  · refine lv_aload_n hx hb dX8_keepForUndo_41 rfl (lv_at hl 0 rfl) ?_
    refine lv_dup hx hb dX8_keepForUndo_42 rfl ?_
    refine va_get (D := D) (ci := 8) (v := .int f5456_5) (C := RX8) (T := TX8) (N := 7) hx hb hts iX8_keepForUndo_8 hown hN.1 hP 0 rfl rfl 5 (by decide) (hts _ mX8_keepForUndo_4) (fun _ h9 => h9) rfl dX8_keepForUndo_43 ?_
    refine lv_iconst (v := 1) hx hb dX8_keepForUndo_46 (by decide) ?_
    refine lv_iadd hx hb dX8_keepForUndo_47 ?_
    refine gn_i (fun x5458 => ?_)
    have hB : Bx B0 D _ [(w, .inr (8, [.ref (cs 450), .ref (cs 440), .ref (cs 441), .ref f5456_3, .int f5456_4, .int f5456_5, .int f5456_6]))] [] _ _ := Bx.of (fun a => (κr5448 a).1) hL hP (fa_c hb5456 fa_n) (by simp only [List.map_cons, List.map_nil, hw.1]; decide)
    refine b_put (D := D) (ci := 8) (v := .int x5458) (ty := .int) (C := RX8) (T := TX8) (N := 7) hx hb hts iX8_keepForUndo_8 tyX8 tyX8_ok nmX8 hown hN hB 0 rfl rfl 5 (by decide) (hts _ mX8_keepForUndo_4) (fun _ h9 => h9) rfl (by decide +kernel) rfl rfl (Nat.le_of_ble_eq_true rfl) (.inl rfl) dX8_keepForUndo_48 (fun H locs hB => ?_)
    have hB : Bx B0 D _ [(w, .inr (8, [.ref (cs 450), .ref (cs 440), .ref (cs 441), .ref f5456_3, .int f5456_4, .int x5458, .int f5456_6]))] [w] _ _ := hB
    have hR := hR.fr hT trivial (Fr.close (S := [13]) Fr.rf hB (fa_c (by simp [hw.2]) fa_n)) (by decide)
    have hT : WT B0 D cs T κr5448 _ := hT.close hB ⟨⟨0, _, rfl, ok_9 hw.1 ⟨_, _, _, _, _, _, _, rfl, t5456_0, t5456_1, t5456_2, t5456_3, rfl, rfl, rfl⟩⟩, trivial⟩
    have hL : OkL B0 _ := hB.2.2.2.2.2
    have hP : va_P D vwCl [(w, .inr (8, [.ref (cs 450), .ref (cs 440), .ref (cs 441), .ref f5456_3, .int f5456_4, .int x5458, .int f5456_6]))] _ := hB.1
    refine W.know (fun hg => ?_)
    rw [hH0] at hg
    exact en_v hx hb hr hlocks hL (show k5454 ≤ ((336 * sumN C 16 + 137000 - PotN LN) / 35) by omega) (show n5455 ≤ (336 * sumN C 16 + 137000 - PotN LN) by omega) dX8_keepForUndo_51 (⟨_, hKW, hT, _, _, _, hR.ce (er_c (by omega) (by decide)), ⟨hg, hGN⟩⟩)
theorem mX8_undo_1 : (.fieldLink RX8 222 "OneBeat" "undoable" "I" : Cond) ∈ wsX8_undo := List.mem_of_getElem? (i := 1) (by decide +kernel)
theorem iX8_undo_8 : ∀ w ∈ wsX80, w ∈ wsX8_undo := fun w h => List.mem_of_mem_drop (List.mem_of_mem_take ((show wsX80 = (wsX8_undo.drop 73).take 7 by decide +kernel) ▸ h))
theorem mX8_undo_2 : (.fieldLink RX8 19 "OneBeat" "now" "LOneBeat$World;" : Cond) ∈ wsX8_undo := List.mem_of_getElem? (i := 2) (by decide +kernel)
theorem mX8_undo_3 : (.fieldLink RX8 26 "OneBeat" "past" "[LOneBeat$World;" : Cond) ∈ wsX8_undo := List.mem_of_getElem? (i := 3) (by decide +kernel)
theorem mX8_undo_4 : (.fieldLink RX8 225 "OneBeat" "newest" "I" : Cond) ∈ wsX8_undo := List.mem_of_getElem? (i := 4) (by decide +kernel)
set_option maxHeartbeats 4000000 in
set_option maxRecDepth 100000 in
theorem c_X8_undo {l : Launch} {D : va_G} {cs : Nat → ClassId} {B0 T : Nat} {κ : KM} {H0 : Heap} (hT : WT B0 D cs T κ H0) {w : Nat} (hw : T2 κ w 9 13) {C : Nat → Nat} {LN : Nat → Nat → Nat} (hR : RQ D cs κ H0 C LN er) : KC l yX8_undo wsX8_undo 3 106 ((336 * sumN C 16 + 137000 - PotN LN) / 35) (336 * sumN C 16 + 137000 - PotN LN) D cs B0 H0 [.ref w] (Qi (fun _ H => ∃ κ1, KW κ κ1 ∧ WT B0 D cs T κ1 H ∧ ∃ LN1 k n, RQ D cs κ1 H C LN1 er ∧ GQ H0 H LN LN1 k n)) := by
  refine KC.of cX8_undo 1 (some .int) (by decide) rfl (Nat.le_of_ble_eq_true rfl) ?_
  intro p e s m below meth c ls hx hb hr hml hown hts hlocks hin hN hE hH0 hl
  have hown : s.vm.findClass RX8 = some m.cls := hown
  have hl : lv_has ls 1 [(0, .ref w)] := hl
  have hL : OkL B0 [] := OkL.nil
  have hGN : 35 * 0 ≤ 0 ∧ 0 + PotN LN ≤ PotN LN := ⟨Nat.le_refl _, by omega⟩
  have hs0 := hR.pot
  refine lv_aload_n hx hb dX8_undo_0 rfl (lv_at hl 0 rfl) ?_
  obtain ⟨hb5459, e5459, hat5459, hk5459⟩ := hT.o9 hw.1
  obtain ⟨f5459_0, f5459_1, f5459_2, f5459_3, f5459_4, f5459_5, f5459_6, rfl, t5459_0, t5459_1, t5459_2, t5459_3, rfl, rfl, rfl⟩ := hk5459
  have hP : va_P D vwCl [(w, .inr (8, [.ref (cs 450), .ref (cs 440), .ref (cs 441), .ref f5459_3, .int f5459_4, .int f5459_5, .int f5459_6]))] _ := va_P.cons hat5459 va_P.nil
  refine va_get (D := D) (ci := 8) (v := .int f5459_5) (C := RX8) (T := TX8) (N := 7) hx hb hts iX8_undo_8 hown hN.1 hP 0 rfl rfl 5 (by decide) (hts _ mX8_undo_1) (fun _ h9 => h9) rfl dX8_undo_1 ?_
  refine lv_if_ne (tgt := 9) hx hb dX8_undo_4 (by decide) (fun c5460 => ?_) (fun c5460 => ?_)
  · refine lv_aload_n hx hb dX8_undo_9 rfl (lv_at hl 0 rfl) ?_
    refine va_get (D := D) (ci := 8) (v := .ref (cs 440)) (C := RX8) (T := TX8) (N := 7) hx hb hts iX8_undo_8 hown hN.1 hP 0 rfl rfl 1 (by decide) (hts _ mX8_undo_2) (fun _ h9 => h9) rfl dX8_undo_10 ?_
    refine lv_aload_n hx hb dX8_undo_13 rfl (lv_at hl 0 rfl) ?_
    refine va_get (D := D) (ci := 8) (v := .ref f5459_3) (C := RX8) (T := TX8) (N := 7) hx hb hts iX8_undo_8 hown hN.1 hP 0 rfl rfl 3 (by decide) (hts _ mX8_undo_3) (fun _ h9 => h9) rfl dX8_undo_14 ?_
    refine lv_aload_n hx hb dX8_undo_17 rfl (lv_at hl 0 rfl) ?_
    refine va_get (D := D) (ci := 8) (v := .int f5459_4) (C := RX8) (T := TX8) (N := 7) hx hb hts iX8_undo_8 hown hN.1 hP 0 rfl rfl 4 (by decide) (hts _ mX8_undo_4) (fun _ h9 => h9) rfl dX8_undo_18 ?_
    refine lv_bipush (v := 7) hx hb dX8_undo_21 (by decide) ?_
    refine lv_iand hx hb dX8_undo_23 ?_
    have hj5461 := m7_lt f5459_4
    refine tp_i (nI (m7 f5459_4)) (and7 f5459_4) ?_
    obtain ⟨hb5462, e5462, hat5462, hk5462⟩ := hT.o12 t5459_3.1
    obtain ⟨g5462, rfl, q5462⟩ := hk5462
    have hP : va_P D vwCl [(f5459_3, .inl (cs 5, 8, .inr (.inr (.inr (.inr g5462))))), (w, .inr (8, [.ref (cs 450), .ref (cs 440), .ref (cs 441), .ref f5459_3, .int f5459_4, .int f5459_5, .int f5459_6]))] _ := va_P.cons hat5462 hP
    obtain ⟨a5463, ea5463, ta5463, ha5463⟩ := q5462 ((m7 f5459_4)) (by omega)
    have ha5463 := ha5463.trans (show cs (442 + (m7 f5459_4)) = cs (440 + ((m7 f5459_4) + 2)) from congrArg cs (by omega))
    subst ha5463
    refine ld_w (v := .ref (cs (440 + ((m7 f5459_4) + 2)))) hx hb hN hP 0 rfl (vp_in_nI (n := (m7 f5459_4)) (N := 8) (by omega) (by omega)) (by rw [(show ((nI (m7 f5459_4)) : Int32).toNatClampNeg = (m7 f5459_4) from nI_clamp (n := (m7 f5459_4)) (by omega)), ea5463]; rfl) dX8_undo_24 ?_
    refine W.know (fun hgb => ?_)
    rw [hH0] at hgb
    refine cv_v (As := [.ref (cs (440 + ((m7 f5459_4) + 2)))]) (rest := []) (b := (cs 440)) ⟨hx, hb, hml, hown, hts⟩ (c_X7_copyFrom_dr hT (i := 0) (by omega) hR (j := ((m7 f5459_4) + 2)) (by omega) (by omega) (by unfold er; split <;> omega)) (cwV 1 hts gX8_undo_X7_copyFrom rfl rfl rfl hdX7_copyFrom_v ⟨Nat.le_of_ble_eq_true rfl, Nat.le_of_ble_eq_true rfl⟩) hN hE hL (rcv8 hN hT t5459_1.1) rfl rfl hl.1 (Nat.le_of_ble_eq_true rfl) dX8_undo_25 (show 0 + ((56 * sumN C 16 + 22407 - 2 * sumN (LN 0) 16) / 35) ≤ ((336 * sumN C 16 + 137000 - PotN LN) / 35) by omega) (show 0 + (56 * sumN C 16 + 22407 - 2 * sumN (LN 0) 16) ≤ (336 * sumN C 16 + 137000 - PotN LN) by omega) (fun H1 locs hL hqr5464 => ?_)
    obtain ⟨κr5464, hxr5464, hT1, hF1, hqr5464⟩ := hqr5464
    have hxfr5464 := hxr5464.1
    have hT := hT1
    have hKF : KF κ κr5464 := hxfr5464
    have hKW : KW κ κr5464 := (hxr5464.w (by omega))
    have hw := (KF.t2 hxfr5464 hw (by decide))
    obtain ⟨L5465, k5466, n5467, r5468, g5469⟩ := hqr5464
    have hR := r5468
    obtain ⟨k5470, n5471, hGP⟩ : ∃ k9 n9, GQ H0 _ LN L5465 k9 n9 := ⟨_, _, GQ.tr (show GQ H0 _ LN LN _ _ from ⟨hgb, hGN⟩) g5469⟩
    refine W.tight (k := k5470) (n := n5471) (by rw [hH0]; exact hGP.1) ?_
    have hGN : 35 * k5470 ≤ n5471 ∧ n5471 + PotN LN ≤ PotN L5465 := hGP.2
    have hgk5470 := hGN.1
    have hgn5471 := hGN.2
    have hsk5470 := hR.pot
    refine lv_aload_n hx hb dX8_undo_28 rfl (lv_at hl 0 rfl) ?_
    refine lv_aload_n hx hb dX8_undo_29 rfl (lv_at hl 0 rfl) ?_
    obtain ⟨hb5472, e5472, hat5472, hk5472⟩ := hT.o9 hw.1
    obtain ⟨f5472_0, f5472_1, f5472_2, f5472_3, f5472_4, f5472_5, f5472_6, rfl, t5472_0, t5472_1, t5472_2, t5472_3, rfl, rfl, rfl⟩ := hk5472
    have hP : va_P D vwCl [(w, .inr (8, [.ref (cs 450), .ref (cs 440), .ref (cs 441), .ref f5472_3, .int f5472_4, .int f5472_5, .int f5472_6]))] _ := va_P.cons hat5472 va_P.nil
    refine va_get (D := D) (ci := 8) (v := .int f5472_4) (C := RX8) (T := TX8) (N := 7) hx hb hts iX8_undo_8 hown hN.1 hP 0 rfl rfl 4 (by decide) (hts _ mX8_undo_4) (fun _ h9 => h9) rfl dX8_undo_30 ?_
    refine lv_iconst (v := 1) hx hb dX8_undo_33 (by decide) ?_
    refine lv_isub hx hb dX8_undo_34 ?_
    refine gn_i (fun x5473 => ?_)
    refine lv_bipush (v := 7) hx hb dX8_undo_35 (by decide) ?_
    refine lv_iand hx hb dX8_undo_37 ?_
    have hj5474 := m7_lt x5473
    refine tp_i (nI (m7 x5473)) (and7 x5473) ?_
    have hB : Bx B0 D _ [(w, .inr (8, [.ref (cs 450), .ref (cs 440), .ref (cs 441), .ref f5472_3, .int f5472_4, .int f5472_5, .int f5472_6]))] [] _ _ := Bx.of (fun a => (κr5464 a).1) hL hP (fa_c hb5472 fa_n) (by simp only [List.map_cons, List.map_nil, hw.1]; decide)
    refine b_put (D := D) (ci := 8) (v := .int (nI (m7 x5473))) (ty := .int) (C := RX8) (T := TX8) (N := 7) hx hb hts iX8_undo_8 tyX8 tyX8_ok nmX8 hown hN hB 0 rfl rfl 4 (by decide) (hts _ mX8_undo_4) (fun _ h9 => h9) rfl (by decide +kernel) rfl rfl (Nat.le_of_ble_eq_true rfl) (.inl rfl) dX8_undo_38 (fun H locs hB => ?_)
    have hB : Bx B0 D _ [(w, .inr (8, [.ref (cs 450), .ref (cs 440), .ref (cs 441), .ref f5472_3, .int (nI (m7 x5473)), .int f5472_5, .int f5472_6]))] [w] _ _ := hB
    refine lv_aload_n hx hb dX8_undo_41 rfl (lv_at hl 0 rfl) ?_
    refine lv_dup hx hb dX8_undo_42 rfl ?_
    refine va_get (D := D) (ci := 8) (v := .int f5472_5) (C := RX8) (T := TX8) (N := 7) hx hb hts iX8_undo_8 hown hN.1 hB.1 0 rfl rfl 5 (by decide) (hts _ mX8_undo_1) (fun _ h9 => h9) rfl dX8_undo_43 ?_
    refine lv_iconst (v := 1) hx hb dX8_undo_46 (by decide) ?_
    refine lv_isub hx hb dX8_undo_47 ?_
    refine gn_i (fun x5475 => ?_)
    refine b_put (D := D) (ci := 8) (v := .int x5475) (ty := .int) (C := RX8) (T := TX8) (N := 7) hx hb hts iX8_undo_8 tyX8 tyX8_ok nmX8 hown hN hB 0 rfl rfl 5 (by decide) (hts _ mX8_undo_1) (fun _ h9 => h9) rfl (by decide +kernel) rfl rfl (Nat.le_of_ble_eq_true rfl) (.inr ⟨rfl, List.mem_of_getElem? (i := 0) rfl⟩) dX8_undo_48 (fun H locs hB => ?_)
    have hB : Bx B0 D _ [(w, .inr (8, [.ref (cs 450), .ref (cs 440), .ref (cs 441), .ref f5472_3, .int (nI (m7 x5473)), .int x5475, .int f5472_6]))] [w] _ _ := hB
    refine lv_aload_n hx hb dX8_undo_51 rfl (lv_at hl 0 rfl) ?_
    refine va_get (D := D) (ci := 8) (v := .int x5475) (C := RX8) (T := TX8) (N := 7) hx hb hts iX8_undo_8 hown hN.1 hB.1 0 rfl rfl 5 (by decide) (hts _ mX8_undo_1) (fun _ h9 => h9) rfl dX8_undo_52 ?_
    have hR := hR.fr hT trivial (Fr.close (S := [13]) Fr.rf hB (fa_c (by simp [hw.2]) fa_n)) (by decide)
    have hT : WT B0 D cs T κr5464 _ := hT.close hB ⟨⟨0, _, rfl, ok_9 hw.1 ⟨_, _, _, _, _, _, _, rfl, t5472_0, t5472_1, t5472_2, t5472_3, rfl, rfl, rfl⟩⟩, trivial⟩
    have hL : OkL B0 _ := hB.2.2.2.2.2
    have hP : va_P D vwCl [(w, .inr (8, [.ref (cs 450), .ref (cs 440), .ref (cs 441), .ref f5472_3, .int (nI (m7 x5473)), .int x5475, .int f5472_6]))] _ := hB.1
    refine W.know (fun hg => ?_)
    rw [hH0] at hg
    exact en_i hx hb hr hlocks hL rfl (show k5470 ≤ ((336 * sumN C 16 + 137000 - PotN LN) / 35) by omega) (show n5471 ≤ (336 * sumN C 16 + 137000 - PotN LN) by omega) dX8_undo_55 (⟨_, hKW, hT, _, _, _, hR.ce (er_c (by decide) (by omega)), ⟨hg, hGN⟩⟩)
  · refine lv_iconst (v := (-1)) hx hb dX8_undo_7 (by decide) ?_
    refine W.know (fun hg => ?_)
    rw [hH0] at hg
    exact en_i hx hb hr hlocks hL rfl (Nat.zero_le _) (Nat.zero_le _) dX8_undo_8 (⟨κ, KW.rf, hT, LN, 0, 0, hR, ⟨hg, hGN⟩⟩)
theorem xgX8_refuseNoPlayer_234_2 : ∀ w ∈ (vx_atS RX8 234 "java/lang/IndexOutOfBoundsException" ["java/lang/RuntimeException", "java/lang/Exception"]).filter goodWord, w ∈ wsX8_refuseNoPlayer := fun w h => by unfold wsX8_refuseNoPlayer; exact List.mem_cons_of_mem _ (List.mem_append_right _ h)
theorem xnRX8_234_2 : ∀ w ∈ (vx_atS RX8 234 "java/lang/IndexOutOfBoundsException" ["java/lang/RuntimeException", "java/lang/Exception"]).filter (fun w => !goodWord w), w ∈ Cond.castable "java/lang/IndexOutOfBoundsException" "java/lang/IndexOutOfBoundsException" :: xdD := by decide +kernel
theorem xdRX8_234_2 : xdL.all (fun w => decide (w ∈ (vx_atS RX8 234 "java/lang/IndexOutOfBoundsException" ["java/lang/RuntimeException", "java/lang/Exception"]).filter goodWord)) = true := by decide +kernel
theorem xoRX8_230_234_2 : ∀ w ∈ Cond.classLink RX8 230 "java/lang/IndexOutOfBoundsException" :: Cond.initialized "java/lang/IndexOutOfBoundsException" :: (vx_atS RX8 234 "java/lang/IndexOutOfBoundsException" ["java/lang/RuntimeException", "java/lang/Exception"]), vx_ot w = true := by decide +kernel
theorem mX8_refuseNoPlayer_1 : (.classLink RX8 230 "java/lang/IndexOutOfBoundsException" : Cond) ∈ wsX8_refuseNoPlayer := List.mem_of_getElem? (i := 1) (by decide +kernel)
theorem mX8_refuseNoPlayer_2 : (.initialized "java/lang/IndexOutOfBoundsException" : Cond) ∈ wsX8_refuseNoPlayer := List.mem_of_getElem? (i := 2) (by decide +kernel)
theorem mX8_refuseNoPlayer_3 : (.fieldLink RX8 19 "OneBeat" "now" "LOneBeat$World;" : Cond) ∈ wsX8_refuseNoPlayer := List.mem_of_getElem? (i := 3) (by decide +kernel)
theorem iX8_refuseNoPlayer_8 : ∀ w ∈ wsX80, w ∈ wsX8_refuseNoPlayer := fun w h => List.mem_of_mem_drop (List.mem_of_mem_take ((show wsX80 = (wsX8_refuseNoPlayer.drop 4).take 7 by decide +kernel) ▸ h))
theorem iX8_refuseNoPlayer_7 : ∀ w ∈ wsX70, w ∈ wsX8_refuseNoPlayer := fun w h => List.mem_of_mem_drop (List.mem_of_mem_take ((show wsX70 = (wsX8_refuseNoPlayer.drop 11).take 16 by decide +kernel) ▸ h))
theorem iX8_refuseNoPlayer_6 : ∀ w ∈ wsX60, w ∈ wsX8_refuseNoPlayer := fun w h => List.mem_of_mem_drop (List.mem_of_mem_take ((show wsX60 = (wsX8_refuseNoPlayer.drop 27).take 8 by decide +kernel) ▸ h))
set_option maxHeartbeats 4000000 in
set_option maxRecDepth 100000 in
theorem c_X8_refuseNoPlayer {l : Launch} (hlt : l.stackTraces = false) {D : va_G} {cs : Nat → ClassId} {B0 T : Nat} {κ : KM} {H0 : Heap} (hT : WT B0 D cs T κ H0) {w : Nat} (hw : T2 κ w 9 13) {x : Int32} : KT l yX8_refuseNoPlayer wsX8_refuseNoPlayer 6 100 1 6 D cs B0 H0 [.ref w, .int x] (Qv (fun H => H = H0)) (TQ ["java/lang/IndexOutOfBoundsException"] H0) := by
  refine KT.of cX8_refuseNoPlayer 2 none (by decide) rfl (Nat.le_of_ble_eq_true rfl) ?_
  intro p e s m below meth c ls hx hb hr hml hown hts hlocks hnx hN hE hH0 hl
  have hown : s.vm.findClass RX8 = some m.cls := hown
  have hl : lv_has ls 2 [(0, .ref w), (1, .int x)] := hl
  have hL : OkL B0 [] := OkL.nil
  refine lv_iload_n hx hb dX8_refuseNoPlayer_0 rfl (lv_at hl 1 rfl) ?_
  refine lv_if_lt (tgt := 18) hx hb dX8_refuseNoPlayer_1 (by decide) (fun c5476 => ?_) (fun c5476 => ?_)
  · exact tx_up (Qu := fun E1 H1 => E1 = "java/lang/IndexOutOfBoundsException" ∧ H0.size ≤ H1.size ∧ ∀ q : Nat, q < H0.size → H1[q]? = H0[q]?) (tx_g2 (Qo := fun _ _ => False) (E := "java/lang/IndexOutOfBoundsException") 2 hx hb hlt hown hN (by decide +kernel) (hts _ mX8_refuseNoPlayer_1) (hts _ mX8_refuseNoPlayer_2) (hN.s 11 rfl) rfl (fun w h => hts w (xgX8_refuseNoPlayer_234_2 w h)) xnRX8_234_2 xdRX8_234_2 xoRX8_230_234_2 hE.1 (by rw [hH0]; exact ⟨Nat.le_refl _, fun _ _ _ => rfl, hL⟩) (fun H1 g1 g2 => ⟨rfl, g1, g2⟩) hl hml dX8_refuseNoPlayer_18 dX8_refuseNoPlayer_21 dX8_refuseNoPlayer_22 dX8_refuseNoPlayer_24 dX8_refuseNoPlayer_27 hnx (Nat.le_of_ble_eq_true rfl) (Nat.le_of_ble_eq_true rfl) (show 0 + 1 ≤ 1 by omega) (show 0 + 6 ≤ 6 by omega) hlocks (Nat.le_refl _) (Nat.le_refl _)) hH0 (show 1 ≤ 1 by omega) (show 6 ≤ 6 by omega) (fun E1 H1 g g3 => ⟨by rw [g.1]; simp, g.2.1, g.2.2, g3⟩)
  · refine lv_iload_n hx hb dX8_refuseNoPlayer_4 rfl (lv_at hl 1 rfl) ?_
    refine lv_aload_n hx hb dX8_refuseNoPlayer_5 rfl (lv_at hl 0 rfl) ?_
    obtain ⟨hb5477, e5477, hat5477, hk5477⟩ := hT.o9 hw.1
    obtain ⟨f5477_0, f5477_1, f5477_2, f5477_3, f5477_4, f5477_5, f5477_6, rfl, t5477_0, t5477_1, t5477_2, t5477_3, rfl, rfl, rfl⟩ := hk5477
    have hP : va_P D vwCl [(w, .inr (8, [.ref (cs 450), .ref (cs 440), .ref (cs 441), .ref f5477_3, .int f5477_4, .int f5477_5, .int f5477_6]))] _ := va_P.cons hat5477 va_P.nil
    refine va_get (D := D) (ci := 8) (v := .ref (cs 440)) (C := RX8) (T := TX8) (N := 7) hx hb hts iX8_refuseNoPlayer_8 hown hN.1 hP 0 rfl rfl 1 (by decide) (hts _ mX8_refuseNoPlayer_3) (fun _ h9 => h9) rfl dX8_refuseNoPlayer_6 ?_
    obtain ⟨hb5478, e5478, hat5478, hk5478⟩ := hT.o8 t5477_1.1
    obtain ⟨f5478_0, f5478_1, f5478_2, f5478_3, f5478_4, f5478_5, f5478_6, f5478_7, f5478_8, f5478_9, f5478_10, f5478_11, f5478_12, f5478_13, f5478_14, f5478_15, rfl, t5478_0, c5478_su, t5478_1, t5478_2, t5478_3, t5478_4, t5478_5, c5478_tm, c5478_lt, c5478_ml, c5478_pr, c5478_li⟩ := hk5478
    rw [t5477_1.2] at t5478_1
    rw [t5477_1.2] at t5478_2
    rw [t5477_1.2] at t5478_3
    rw [t5477_1.2] at t5478_4
    rw [t5477_1.2] at t5478_5
    rw [t5477_1.2] at c5478_lt c5478_ml c5478_pr c5478_li
    subst c5478_ml
    subst c5478_pr
    subst c5478_li
    have hP : va_P D vwCl [((cs 440), .inr (7, [.ref f5478_0, .ref f5478_1, .ref (cs (400 + 0)), .ref (cs (420 + 0)), .ref (cs (460 + 0)), .ref f5478_5, .long f5478_6, .int f5478_7, .int f5478_8, .int f5478_9, .int f5478_10, .int f5478_11, .int f5478_12, .int f5478_13, .int f5478_14, .int f5478_15])), (w, .inr (8, [.ref (cs 450), .ref (cs 440), .ref (cs 441), .ref f5477_3, .int f5477_4, .int f5477_5, .int f5477_6]))] _ := va_P.cons hat5478 hP
    refine va_getN (D := D) (ci := 7) (v := .ref f5478_0) (C := RX7) (T := TX7) (N := 16) hx hb hts iX8_refuseNoPlayer_7 hown hN.1 hP 0 rfl rfl 0 (by decide) (hN.f 46 rfl) (fun _ h9 => h9) rfl dX8_refuseNoPlayer_9 ?_
    obtain ⟨hb5479, e5479, hat5479, hk5479⟩ := hT.o7 t5478_0.1
    obtain ⟨f5479_0, f5479_1, f5479_2, f5479_3, f5479_4, f5479_5, f5479_6, f5479_7, rfl, c5479_0, c5479_3, c5479_mg, t5479_4, t5479_5, t5479_6, t5479_7⟩ := hk5479
    rw [t5478_0.2] at t5479_4
    rw [t5478_0.2] at t5479_5
    rw [t5478_0.2] at t5479_6
    rw [t5478_0.2] at t5479_7
    have hP : va_P D vwCl [(f5478_0, .inr (6, [.int (nI f5479_0), .int f5479_1, .int f5479_2, f5479_3, .ref f5479_4, .ref f5479_5, .ref f5479_6, .ref f5479_7])), ((cs 440), .inr (7, [.ref f5478_0, .ref f5478_1, .ref (cs (400 + 0)), .ref (cs (420 + 0)), .ref (cs (460 + 0)), .ref f5478_5, .long f5478_6, .int f5478_7, .int f5478_8, .int f5478_9, .int f5478_10, .int f5478_11, .int f5478_12, .int f5478_13, .int f5478_14, .int f5478_15])), (w, .inr (8, [.ref (cs 450), .ref (cs 440), .ref (cs 441), .ref f5477_3, .int f5477_4, .int f5477_5, .int f5477_6]))] _ := va_P.cons hat5479 hP
    refine va_getN (D := D) (ci := 6) (v := .int (nI f5479_0)) (C := RX6) (T := TX6) (N := 8) hx hb hts iX8_refuseNoPlayer_6 hown hN.1 hP 0 rfl rfl 0 (by decide) (hN.f 37 rfl) (fun _ h9 => h9) rfl dX8_refuseNoPlayer_12 ?_
    refine lv_icmp_lt (tgt := 28) hx hb dX8_refuseNoPlayer_15 (by decide) (fun c5480 => ?_) (fun c5480 => ?_)
    · exact vx_ret (en_v hx hb hr hlocks hL (Nat.zero_le _) (Nat.zero_le _) dX8_refuseNoPlayer_28 (rfl))
    · exact tx_up (Qu := fun E1 H1 => E1 = "java/lang/IndexOutOfBoundsException" ∧ H0.size ≤ H1.size ∧ ∀ q : Nat, q < H0.size → H1[q]? = H0[q]?) (tx_g2 (Qo := fun _ _ => False) (E := "java/lang/IndexOutOfBoundsException") 2 hx hb hlt hown hN (by decide +kernel) (hts _ mX8_refuseNoPlayer_1) (hts _ mX8_refuseNoPlayer_2) (hN.s 11 rfl) rfl (fun w h => hts w (xgX8_refuseNoPlayer_234_2 w h)) xnRX8_234_2 xdRX8_234_2 xoRX8_230_234_2 hE.1 (by rw [hH0]; exact ⟨Nat.le_refl _, fun _ _ _ => rfl, hL⟩) (fun H1 g1 g2 => ⟨rfl, g1, g2⟩) hl hml dX8_refuseNoPlayer_18 dX8_refuseNoPlayer_21 dX8_refuseNoPlayer_22 dX8_refuseNoPlayer_24 dX8_refuseNoPlayer_27 hnx (Nat.le_of_ble_eq_true rfl) (Nat.le_of_ble_eq_true rfl) (show 0 + 1 ≤ 1 by omega) (show 0 + 6 ≤ 6 by omega) hlocks (Nat.le_refl _) (Nat.le_refl _)) hH0 (show 1 ≤ 1 by omega) (show 6 ≤ 6 by omega) (fun E1 H1 g g3 => ⟨by rw [g.1]; simp, g.2.1, g.2.2, g3⟩)
theorem xgX8_refuseWhatOutside_49_0 : ∀ w ∈ (vx_atS RX8 49 "java/lang/IllegalArgumentException" ["java/lang/RuntimeException", "java/lang/Exception"]).filter goodWord, w ∈ wsX8_refuseWhatOutside := fun w h => by unfold wsX8_refuseWhatOutside; exact List.mem_cons_of_mem _ (List.mem_append_right _ h)
theorem xnRX8_49_0 : ∀ w ∈ (vx_atS RX8 49 "java/lang/IllegalArgumentException" ["java/lang/RuntimeException", "java/lang/Exception"]).filter (fun w => !goodWord w), w ∈ Cond.castable "java/lang/IllegalArgumentException" "java/lang/IllegalArgumentException" :: xdD := by decide +kernel
theorem xdRX8_49_0 : xdL.all (fun w => decide (w ∈ (vx_atS RX8 49 "java/lang/IllegalArgumentException" ["java/lang/RuntimeException", "java/lang/Exception"]).filter goodWord)) = true := by decide +kernel
theorem xoRX8_45_49_0 : ∀ w ∈ Cond.classLink RX8 45 "java/lang/IllegalArgumentException" :: Cond.initialized "java/lang/IllegalArgumentException" :: (vx_atS RX8 49 "java/lang/IllegalArgumentException" ["java/lang/RuntimeException", "java/lang/Exception"]), vx_ot w = true := by decide +kernel
theorem mX8_refuseWhatOutside_1 : (.classLink RX8 45 "java/lang/IllegalArgumentException" : Cond) ∈ wsX8_refuseWhatOutside := List.mem_of_getElem? (i := 1) (by decide +kernel)
theorem mX8_refuseWhatOutside_2 : (.initialized "java/lang/IllegalArgumentException" : Cond) ∈ wsX8_refuseWhatOutside := List.mem_of_getElem? (i := 2) (by decide +kernel)
set_option maxHeartbeats 4000000 in
set_option maxRecDepth 100000 in
theorem c_X8_refuseWhatOutside {l : Launch} (hlt : l.stackTraces = false) {D : va_G} {cs : Nat → ClassId} {B0 T : Nat} {κ : KM} {H0 : Heap} (hT : WT B0 D cs T κ H0) {w : Nat} (hw : T2 κ w 9 13) {x : Int32} {y : Int32} : KT l yX8_refuseWhatOutside wsX8_refuseWhatOutside 6 100 1 6 D cs B0 H0 [.ref w, .int x, .int y] (Qv (fun H => H = H0)) (TQ ["java/lang/IllegalArgumentException"] H0) := by
  refine KT.of cX8_refuseWhatOutside 3 none (by decide) rfl (Nat.le_of_ble_eq_true rfl) ?_
  intro p e s m below meth c ls hx hb hr hml hown hts hlocks hnx hN hE hH0 hl
  have hown : s.vm.findClass RX8 = some m.cls := hown
  have hl : lv_has ls 3 [(0, .ref w), (1, .int x), (2, .int y)] := hl
  have hL : OkL B0 [] := OkL.nil
  refine lv_iload_n hx hb dX8_refuseWhatOutside_0 rfl (lv_at hl 1 rfl) ?_
  refine lv_if_lt (tgt := 9) hx hb dX8_refuseWhatOutside_1 (by decide) (fun c5481 => ?_) (fun c5481 => ?_)
  · exact tx_up (Qu := fun E1 H1 => E1 = "java/lang/IllegalArgumentException" ∧ H0.size ≤ H1.size ∧ ∀ q : Nat, q < H0.size → H1[q]? = H0[q]?) (tx_g2 (Qo := fun _ _ => False) (E := "java/lang/IllegalArgumentException") 0 hx hb hlt hown hN (by decide +kernel) (hts _ mX8_refuseWhatOutside_1) (hts _ mX8_refuseWhatOutside_2) (hN.s 10 rfl) rfl (fun w h => hts w (xgX8_refuseWhatOutside_49_0 w h)) xnRX8_49_0 xdRX8_49_0 xoRX8_45_49_0 hE.1 (by rw [hH0]; exact ⟨Nat.le_refl _, fun _ _ _ => rfl, hL⟩) (fun H1 g1 g2 => ⟨rfl, g1, g2⟩) hl hml dX8_refuseWhatOutside_9 dX8_refuseWhatOutside_12 dX8_refuseWhatOutside_13 dX8_refuseWhatOutside_15 dX8_refuseWhatOutside_18 hnx (Nat.le_of_ble_eq_true rfl) (Nat.le_of_ble_eq_true rfl) (show 0 + 1 ≤ 1 by omega) (show 0 + 6 ≤ 6 by omega) hlocks (Nat.le_refl _) (Nat.le_refl _)) hH0 (show 1 ≤ 1 by omega) (show 6 ≤ 6 by omega) (fun E1 H1 g g3 => ⟨by rw [g.1]; simp, g.2.1, g.2.2, g3⟩)
  · refine lv_iload_n hx hb dX8_refuseWhatOutside_4 rfl (lv_at hl 1 rfl) ?_
    refine lv_iload_n hx hb dX8_refuseWhatOutside_5 rfl (lv_at hl 2 rfl) ?_
    refine lv_icmp_le (tgt := 19) hx hb dX8_refuseWhatOutside_6 (by decide) (fun c5482 => ?_) (fun c5482 => ?_)
    · exact vx_ret (en_v hx hb hr hlocks hL (Nat.zero_le _) (Nat.zero_le _) dX8_refuseWhatOutside_19 (rfl))
    · exact tx_up (Qu := fun E1 H1 => E1 = "java/lang/IllegalArgumentException" ∧ H0.size ≤ H1.size ∧ ∀ q : Nat, q < H0.size → H1[q]? = H0[q]?) (tx_g2 (Qo := fun _ _ => False) (E := "java/lang/IllegalArgumentException") 0 hx hb hlt hown hN (by decide +kernel) (hts _ mX8_refuseWhatOutside_1) (hts _ mX8_refuseWhatOutside_2) (hN.s 10 rfl) rfl (fun w h => hts w (xgX8_refuseWhatOutside_49_0 w h)) xnRX8_49_0 xdRX8_49_0 xoRX8_45_49_0 hE.1 (by rw [hH0]; exact ⟨Nat.le_refl _, fun _ _ _ => rfl, hL⟩) (fun H1 g1 g2 => ⟨rfl, g1, g2⟩) hl hml dX8_refuseWhatOutside_9 dX8_refuseWhatOutside_12 dX8_refuseWhatOutside_13 dX8_refuseWhatOutside_15 dX8_refuseWhatOutside_18 hnx (Nat.le_of_ble_eq_true rfl) (Nat.le_of_ble_eq_true rfl) (show 0 + 1 ≤ 1 by omega) (show 0 + 6 ≤ 6 by omega) hlocks (Nat.le_refl _) (Nat.le_refl _)) hH0 (show 1 ≤ 1 by omega) (show 6 ≤ 6 by omega) (fun E1 H1 g g3 => ⟨by rw [g.1]; simp, g.2.1, g.2.2, g3⟩)
theorem mX8_errorOffset_1 : (.fieldLink RX8 30 "OneBeat" "errorAt" "I" : Cond) ∈ wsX8_errorOffset := List.mem_of_getElem? (i := 1) (by decide +kernel)
theorem iX8_errorOffset_8 : ∀ w ∈ wsX80, w ∈ wsX8_errorOffset := fun w h => List.mem_of_mem_drop (List.mem_of_mem_take ((show wsX80 = (wsX8_errorOffset.drop 2).take 7 by decide +kernel) ▸ h))
set_option maxHeartbeats 4000000 in
set_option maxRecDepth 100000 in
theorem c_X8_errorOffset {l : Launch} {D : va_G} {cs : Nat → ClassId} {B0 T : Nat} {κ : KM} {H0 : Heap} (hT : WT B0 D cs T κ H0) {w : Nat} (hw : T2 κ w 9 13) {C : Nat → Nat} {LN : Nat → Nat → Nat} (hR : RQ D cs κ H0 C LN er) : KC l yX8_errorOffset wsX8_errorOffset 0 0 ((336 * sumN C 16 + 137000 - PotN LN) / 35) (336 * sumN C 16 + 137000 - PotN LN) D cs B0 H0 [.ref w] (Qi (fun _ H => ∃ κ1, KW κ κ1 ∧ WT B0 D cs T κ1 H ∧ ∃ C1 LN1 k n, sumN C1 16 ≤ sumN C 16 + 24 ∧ RQ D cs κ1 H C1 LN1 er ∧ GQ H0 H LN LN1 k n)) := by
  refine KC.of cX8_errorOffset 1 (some .int) (by decide) rfl (Nat.le_of_ble_eq_true rfl) ?_
  intro p e s m below meth c ls hx hb hr hml hown hts hlocks hin hN hE hH0 hl
  have hown : s.vm.findClass RX8 = some m.cls := hown
  have hl : lv_has ls 1 [(0, .ref w)] := hl
  have hL : OkL B0 [] := OkL.nil
  have hGN : 35 * 0 ≤ 0 ∧ 0 + PotN LN ≤ PotN LN := ⟨Nat.le_refl _, by omega⟩
  have hs0 := hR.pot
  refine lv_aload_n hx hb dX8_errorOffset_0 rfl (lv_at hl 0 rfl) ?_
  obtain ⟨hb5483, e5483, hat5483, hk5483⟩ := hT.o9 hw.1
  obtain ⟨f5483_0, f5483_1, f5483_2, f5483_3, f5483_4, f5483_5, f5483_6, rfl, t5483_0, t5483_1, t5483_2, t5483_3, rfl, rfl, rfl⟩ := hk5483
  have hP : va_P D vwCl [(w, .inr (8, [.ref (cs 450), .ref (cs 440), .ref (cs 441), .ref f5483_3, .int f5483_4, .int f5483_5, .int f5483_6]))] _ := va_P.cons hat5483 va_P.nil
  refine va_get (D := D) (ci := 8) (v := .int f5483_6) (C := RX8) (T := TX8) (N := 7) hx hb hts iX8_errorOffset_8 hown hN.1 hP 0 rfl rfl 6 (by decide) (hts _ mX8_errorOffset_1) (fun _ h9 => h9) rfl dX8_errorOffset_1 ?_
  refine W.know (fun hg => ?_)
  rw [hH0] at hg
  exact en_i hx hb hr hlocks hL rfl (Nat.zero_le _) (Nat.zero_le _) dX8_errorOffset_4 (⟨κ, KW.rf, hT, C, LN, 0, 0, Nat.le_add_right _ _, hR, ⟨hg, hGN⟩⟩)
theorem mX8_spread_1 : (.fieldLink RX8 19 "OneBeat" "now" "LOneBeat$World;" : Cond) ∈ wsX8_spread := List.mem_of_getElem? (i := 1) (by decide +kernel)
theorem iX8_spread_8 : ∀ w ∈ wsX80, w ∈ wsX8_spread := fun w h => List.mem_of_mem_drop (List.mem_of_mem_take ((show wsX80 = (wsX8_spread.drop 9).take 7 by decide +kernel) ▸ h))
theorem iX8_spread_7 : ∀ w ∈ wsX70, w ∈ wsX8_spread := fun w h => List.mem_of_mem_drop (List.mem_of_mem_take ((show wsX70 = (wsX8_spread.drop 16).take 16 by decide +kernel) ▸ h))
theorem hdX4_spreadOfChanges_v : yX4_spreadOfChanges.cls = RX4 ∧ yX4_spreadOfChanges.cls ≠ "java/lang/invoke/MethodHandle" ∧ yX4_spreadOfChanges.cls ≠ "java/lang/invoke/VarHandle" ∧ (parseMethodDescriptor yX4_spreadOfChanges.desc).map (fun d => d.parameters.length) = some 0 := by decide +kernel
set_option maxHeartbeats 4000000 in
set_option maxRecDepth 100000 in
theorem c_X8_spread {l : Launch} {D : va_G} {cs : Nat → ClassId} {B0 T : Nat} {κ : KM} {H0 : Heap} (hT : WT B0 D cs T κ H0) {w : Nat} (hw : T2 κ w 9 13) {C : Nat → Nat} {LN : Nat → Nat → Nat} (hR : RQ D cs κ H0 C LN er) : KC l yX8_spread wsX8_spread 1 20 ((336 * sumN C 16 + 137000 - PotN LN) / 35) (336 * sumN C 16 + 137000 - PotN LN) D cs B0 H0 [.ref w] (Qi (fun _ H => ∃ κ1, KW κ κ1 ∧ WT B0 D cs T κ1 H ∧ ∃ C1 LN1 k n, sumN C1 16 ≤ sumN C 16 + 24 ∧ RQ D cs κ1 H C1 LN1 er ∧ GQ H0 H LN LN1 k n)) := by
  refine KC.of cX8_spread 1 (some .int) (by decide) rfl (Nat.le_of_ble_eq_true rfl) ?_
  intro p e s m below meth c ls hx hb hr hml hown hts hlocks hin hN hE hH0 hl
  have hown : s.vm.findClass RX8 = some m.cls := hown
  have hl : lv_has ls 1 [(0, .ref w)] := hl
  have hL : OkL B0 [] := OkL.nil
  have hGN : 35 * 0 ≤ 0 ∧ 0 + PotN LN ≤ PotN LN := ⟨Nat.le_refl _, by omega⟩
  have hs0 := hR.pot
  refine lv_aload_n hx hb dX8_spread_0 rfl (lv_at hl 0 rfl) ?_
  obtain ⟨hb5484, e5484, hat5484, hk5484⟩ := hT.o9 hw.1
  obtain ⟨f5484_0, f5484_1, f5484_2, f5484_3, f5484_4, f5484_5, f5484_6, rfl, t5484_0, t5484_1, t5484_2, t5484_3, rfl, rfl, rfl⟩ := hk5484
  have hP : va_P D vwCl [(w, .inr (8, [.ref (cs 450), .ref (cs 440), .ref (cs 441), .ref f5484_3, .int f5484_4, .int f5484_5, .int f5484_6]))] _ := va_P.cons hat5484 va_P.nil
  refine va_get (D := D) (ci := 8) (v := .ref (cs 440)) (C := RX8) (T := TX8) (N := 7) hx hb hts iX8_spread_8 hown hN.1 hP 0 rfl rfl 1 (by decide) (hts _ mX8_spread_1) (fun _ h9 => h9) rfl dX8_spread_1 ?_
  obtain ⟨hb5485, e5485, hat5485, hk5485⟩ := hT.o8 t5484_1.1
  obtain ⟨f5485_0, f5485_1, f5485_2, f5485_3, f5485_4, f5485_5, f5485_6, f5485_7, f5485_8, f5485_9, f5485_10, f5485_11, f5485_12, f5485_13, f5485_14, f5485_15, rfl, t5485_0, c5485_su, t5485_1, t5485_2, t5485_3, t5485_4, t5485_5, c5485_tm, c5485_lt, c5485_ml, c5485_pr, c5485_li⟩ := hk5485
  rw [t5484_1.2] at t5485_1
  rw [t5484_1.2] at t5485_2
  rw [t5484_1.2] at t5485_3
  rw [t5484_1.2] at t5485_4
  rw [t5484_1.2] at t5485_5
  rw [t5484_1.2] at c5485_lt c5485_ml c5485_pr c5485_li
  subst c5485_ml
  subst c5485_pr
  subst c5485_li
  have hP : va_P D vwCl [((cs 440), .inr (7, [.ref f5485_0, .ref f5485_1, .ref (cs (400 + 0)), .ref (cs (420 + 0)), .ref (cs (460 + 0)), .ref f5485_5, .long f5485_6, .int f5485_7, .int f5485_8, .int f5485_9, .int f5485_10, .int f5485_11, .int f5485_12, .int f5485_13, .int f5485_14, .int f5485_15])), (w, .inr (8, [.ref (cs 450), .ref (cs 440), .ref (cs 441), .ref f5484_3, .int f5484_4, .int f5484_5, .int f5484_6]))] _ := va_P.cons hat5485 hP
  refine va_getN (D := D) (ci := 7) (v := .ref (cs (420 + 0))) (C := RX7) (T := TX7) (N := 16) hx hb hts iX8_spread_7 hown hN.1 hP 0 rfl rfl 3 (by decide) (hN.f 48 rfl) (fun _ h9 => h9) rfl dX8_spread_4 ?_
  refine cv_i (As := []) (rest := []) (b := (cs (420 + 0))) ⟨hx, hb, hml, hown, hts⟩ (c_X4_spreadOfChanges hT (w := (cs (420 + 0))) t5485_3) (cwV 0 hts gX8_spread_X4_spreadOfChanges rfl rfl rfl hdX4_spreadOfChanges_v ⟨Nat.le_of_ble_eq_true rfl, Nat.le_of_ble_eq_true rfl⟩) hN hE hL (rcv5 hN hT t5485_3.1) rfl rfl hl.1 (Nat.le_of_ble_eq_true rfl) dX8_spread_7 (Nat.zero_le _) (Nat.zero_le _) (fun r5486 H1 locs hL hqr5486 => ?_)
  obtain rfl := hqr5486.symm
  refine W.know (fun hg => ?_)
  rw [hH0] at hg
  exact en_i hx hb hr hlocks hL rfl (Nat.zero_le _) (Nat.zero_le _) dX8_spread_10 (⟨κ, KW.rf, hT, C, LN, 0, 0, Nat.le_add_right _ _, hR, ⟨hg, hGN⟩⟩)
theorem hdX8_refuseWhatOutside_v : yX8_refuseWhatOutside.cls = RX8 ∧ yX8_refuseWhatOutside.cls ≠ "java/lang/invoke/MethodHandle" ∧ yX8_refuseWhatOutside.cls ≠ "java/lang/invoke/VarHandle" ∧ (parseMethodDescriptor yX8_refuseWhatOutside.desc).map (fun d => d.parameters.length) = some 2 := by decide +kernel
theorem mX8_state_1 : (.fieldLink RX8 19 "OneBeat" "now" "LOneBeat$World;" : Cond) ∈ wsX8_state := List.mem_of_getElem? (i := 1) (by decide +kernel)
theorem iX8_state_8 : ∀ w ∈ wsX80, w ∈ wsX8_state := fun w h => List.mem_of_mem_drop (List.mem_of_mem_take ((show wsX80 = (wsX8_state.drop 97).take 7 by decide +kernel) ▸ h))
theorem hdX7_count_v : yX7_count.cls = RX7 ∧ yX7_count.cls ≠ "java/lang/invoke/MethodHandle" ∧ yX7_count.cls ≠ "java/lang/invoke/VarHandle" ∧ (parseMethodDescriptor yX7_count.desc).map (fun d => d.parameters.length) = some 1 := by decide +kernel
set_option maxHeartbeats 4000000 in
set_option maxRecDepth 100000 in
theorem c_X8_state {l : Launch} (hlt : l.stackTraces = false) {D : va_G} {cs : Nat → ClassId} {B0 T : Nat} {κ : KM} {H0 : Heap} (hT : WT B0 D cs T κ H0) {w : Nat} (hw : T2 κ w 9 13) {C : Nat → Nat} {LN : Nat → Nat → Nat} (hR : RQ D cs κ H0 C LN er) {x : Int32} : KT l yX8_state wsX8_state 7 136 ((336 * sumN C 16 + 137000 - PotN LN) / 35) (336 * sumN C 16 + 137000 - PotN LN) D cs B0 H0 [.ref w, .int x] (Qi (fun _ H => ∃ κ1, KW κ κ1 ∧ WT B0 D cs T κ1 H ∧ ∃ C1 LN1 k n, sumN C1 16 ≤ sumN C 16 + 24 ∧ RQ D cs κ1 H C1 LN1 er ∧ GQ H0 H LN LN1 k n)) (TQ ["java/lang/IllegalArgumentException"] H0) := by
  refine KT.of cX8_state 2 (some .int) (by decide) rfl (Nat.le_of_ble_eq_true rfl) ?_
  intro p e s m below meth c ls hx hb hr hml hown hts hlocks hnx hN hE hH0 hl
  have hown : s.vm.findClass RX8 = some m.cls := hown
  have hl : lv_has ls 2 [(0, .ref w), (1, .int x)] := hl
  have hL : OkL B0 [] := OkL.nil
  have hGN : 35 * 0 ≤ 0 ∧ 0 + PotN LN ≤ PotN LN := ⟨Nat.le_refl _, by omega⟩
  have hs0 := hR.pot
  refine lv_aload_n hx hb dX8_state_0 rfl (lv_at hl 0 rfl) ?_
  refine lv_iload_n hx hb dX8_state_1 rfl (lv_at hl 1 rfl) ?_
  refine lv_bipush (v := 12) hx hb dX8_state_2 (by decide) ?_
  refine ct_V (As := [.int x, .int 12]) (rest := []) (b := w) ⟨hx, hb, hml, hown, hts⟩ (c_X8_refuseWhatOutside hlt hT (w := w) hw (x := x) (y := 12)) (cwV 2 hts gX8_state_X8_refuseWhatOutside rfl rfl rfl hdX8_refuseWhatOutside_v ⟨Nat.le_of_ble_eq_true rfl, Nat.le_of_ble_eq_true rfl⟩) hN hE hL (rcv9 hN hT hw.1) rfl rfl hl.1 (Nat.le_of_ble_eq_true rfl) dX8_state_4 (show 0 + 1 ≤ ((336 * sumN C 16 + 137000 - PotN LN) / 35) by omega) (show 0 + 6 ≤ (336 * sumN C 16 + 137000 - PotN LN) by omega) (fun E9 q9 ce9 H1 locs hL hq h1 h2 h3 => ct_up hnx hlocks h1 h2 h3 (hq.mono (by decide +kernel)) hL (show 0 + 1 ≤ ((336 * sumN C 16 + 137000 - PotN LN) / 35) by omega) (show 0 + 6 ≤ (336 * sumN C 16 + 137000 - PotN LN) by omega)) (fun v9 H1 locs hL hqr5487 => ?_)
  obtain ⟨rfl, hqr5487⟩ := hqr5487
  refine W.eq (g2 := F0 m 7 ls []) rfl ?_
  obtain rfl := hqr5487.symm
  refine W.tight (k := 0) (n := 0) (by rw [hH0]; exact Gr.rf) ?_
  refine lv_aload_n hx hb dX8_state_7 rfl (lv_at hl 0 rfl) ?_
  obtain ⟨hb5488, e5488, hat5488, hk5488⟩ := hT.o9 hw.1
  obtain ⟨f5488_0, f5488_1, f5488_2, f5488_3, f5488_4, f5488_5, f5488_6, rfl, t5488_0, t5488_1, t5488_2, t5488_3, rfl, rfl, rfl⟩ := hk5488
  have hP : va_P D vwCl [(w, .inr (8, [.ref (cs 450), .ref (cs 440), .ref (cs 441), .ref f5488_3, .int f5488_4, .int f5488_5, .int f5488_6]))] _ := va_P.cons hat5488 va_P.nil
  refine va_get (D := D) (ci := 8) (v := .ref (cs 440)) (C := RX8) (T := TX8) (N := 7) hx hb hts iX8_state_8 hown hN.1 hP 0 rfl rfl 1 (by decide) (hts _ mX8_state_1) (fun _ h9 => h9) rfl dX8_state_8 ?_
  refine lv_iload_n hx hb dX8_state_11 rfl (lv_at hl 1 rfl) ?_
  refine cv_i (As := [.int x]) (rest := []) (b := (cs 440)) ⟨hx, hb, hml, hown, hts⟩ (c_X7_count hT (w := (cs 440)) t5488_1 (x := x)) (cwV 1 hts gX8_state_X7_count rfl rfl rfl hdX7_count_v ⟨Nat.le_of_ble_eq_true rfl, Nat.le_of_ble_eq_true rfl⟩) hN hE hL (rcv8 hN hT t5488_1.1) rfl rfl hl.1 (Nat.le_of_ble_eq_true rfl) dX8_state_12 (Nat.zero_le _) (Nat.zero_le _) (fun r5489 H1 locs hL hqr5489 => ?_)
  obtain ⟨hT1, hF1⟩ := hqr5489
  have hP : va_P D vwCl [(w, .inr (8, [.ref (cs 450), .ref (cs 440), .ref (cs 441), .ref f5488_3, .int f5488_4, .int f5488_5, .int f5488_6]))] _ := hF1.hP (hP.sub [0] rfl) (fa_c ⟨by rw [hw.1]; decide, by rw [hw.2]; first | decide | (simp; done) | (simp [h15a, h15b, h15c]; done) | (simp; omega)⟩ fa_n)
  have hR := hR.fr hT trivial hF1 (by decide)
  have hT := hT1
  refine W.know (fun hg => ?_)
  rw [hH0] at hg
  exact vx_ret (en_i hx hb hr hlocks hL rfl (Nat.zero_le _) (Nat.zero_le _) dX8_state_15 (⟨κ, KW.rf, hT, C, LN, 0, 0, Nat.le_add_right _ _, hR, ⟨hg, hGN⟩⟩))
theorem hdX8_refuseNoPlayer_v : yX8_refuseNoPlayer.cls = RX8 ∧ yX8_refuseNoPlayer.cls ≠ "java/lang/invoke/MethodHandle" ∧ yX8_refuseNoPlayer.cls ≠ "java/lang/invoke/VarHandle" ∧ (parseMethodDescriptor yX8_refuseNoPlayer.desc).map (fun d => d.parameters.length) = some 1 := by decide +kernel
theorem mX8_player_1 : (.fieldLink RX8 19 "OneBeat" "now" "LOneBeat$World;" : Cond) ∈ wsX8_player := List.mem_of_getElem? (i := 1) (by decide +kernel)
theorem iX8_player_8 : ∀ w ∈ wsX80, w ∈ wsX8_player := fun w h => List.mem_of_mem_drop (List.mem_of_mem_take ((show wsX80 = (wsX8_player.drop 47).take 7 by decide +kernel) ▸ h))
theorem hdX7_tellPlayer_v : yX7_tellPlayer.cls = RX7 ∧ yX7_tellPlayer.cls ≠ "java/lang/invoke/MethodHandle" ∧ yX7_tellPlayer.cls ≠ "java/lang/invoke/VarHandle" ∧ (parseMethodDescriptor yX7_tellPlayer.desc).map (fun d => d.parameters.length) = some 2 := by decide +kernel
set_option maxHeartbeats 4000000 in
set_option maxRecDepth 100000 in
theorem c_X8_player {l : Launch} (hlt : l.stackTraces = false) {D : va_G} {cs : Nat → ClassId} {B0 T : Nat} {κ : KM} {H0 : Heap} (hT : WT B0 D cs T κ H0) {w : Nat} (hw : T2 κ w 9 13) {C : Nat → Nat} {LN : Nat → Nat → Nat} (hR : RQ D cs κ H0 C LN er) {x : Int32} {y : Int32} : KT l yX8_player wsX8_player 7 122 ((336 * sumN C 16 + 137000 - PotN LN) / 35) (336 * sumN C 16 + 137000 - PotN LN) D cs B0 H0 [.ref w, .int x, .int y] (Qi (fun _ H => ∃ κ1, KW κ κ1 ∧ WT B0 D cs T κ1 H ∧ ∃ C1 LN1 k n, sumN C1 16 ≤ sumN C 16 + 24 ∧ RQ D cs κ1 H C1 LN1 er ∧ GQ H0 H LN LN1 k n)) (TQ ["java/lang/IndexOutOfBoundsException", "java/lang/IllegalArgumentException"] H0) := by
  refine KT.of cX8_player 3 (some .int) (by decide) rfl (Nat.le_of_ble_eq_true rfl) ?_
  intro p e s m below meth c ls hx hb hr hml hown hts hlocks hnx hN hE hH0 hl
  have hown : s.vm.findClass RX8 = some m.cls := hown
  have hl : lv_has ls 3 [(0, .ref w), (1, .int x), (2, .int y)] := hl
  have hL : OkL B0 [] := OkL.nil
  have hGN : 35 * 0 ≤ 0 ∧ 0 + PotN LN ≤ PotN LN := ⟨Nat.le_refl _, by omega⟩
  have hs0 := hR.pot
  refine lv_aload_n hx hb dX8_player_0 rfl (lv_at hl 0 rfl) ?_
  refine lv_iload_n hx hb dX8_player_1 rfl (lv_at hl 1 rfl) ?_
  refine ct_V (As := [.int x]) (rest := []) (b := w) ⟨hx, hb, hml, hown, hts⟩ (c_X8_refuseNoPlayer hlt hT (w := w) hw (x := x)) (cwV 1 hts gX8_player_X8_refuseNoPlayer rfl rfl rfl hdX8_refuseNoPlayer_v ⟨Nat.le_of_ble_eq_true rfl, Nat.le_of_ble_eq_true rfl⟩) hN hE hL (rcv9 hN hT hw.1) rfl rfl hl.1 (Nat.le_of_ble_eq_true rfl) dX8_player_2 (show 0 + 1 ≤ ((336 * sumN C 16 + 137000 - PotN LN) / 35) by omega) (show 0 + 6 ≤ (336 * sumN C 16 + 137000 - PotN LN) by omega) (fun E9 q9 ce9 H1 locs hL hq h1 h2 h3 => ct_up hnx hlocks h1 h2 h3 (hq.mono (by decide +kernel)) hL (show 0 + 1 ≤ ((336 * sumN C 16 + 137000 - PotN LN) / 35) by omega) (show 0 + 6 ≤ (336 * sumN C 16 + 137000 - PotN LN) by omega)) (fun v9 H1 locs hL hqr5490 => ?_)
  obtain ⟨rfl, hqr5490⟩ := hqr5490
  refine W.eq (g2 := F0 m 5 ls []) rfl ?_
  obtain rfl := hqr5490.symm
  refine W.tight (k := 0) (n := 0) (by rw [hH0]; exact Gr.rf) ?_
  refine lv_aload_n hx hb dX8_player_5 rfl (lv_at hl 0 rfl) ?_
  refine lv_iload_n hx hb dX8_player_6 rfl (lv_at hl 2 rfl) ?_
  refine lv_bipush (v := 9) hx hb dX8_player_7 (by decide) ?_
  refine ct_V (As := [.int y, .int 9]) (rest := []) (b := w) ⟨hx, hb, hml, hown, hts⟩ (c_X8_refuseWhatOutside hlt hT (w := w) hw (x := y) (y := 9)) (cwV 2 hts gX8_player_X8_refuseWhatOutside rfl rfl rfl hdX8_refuseWhatOutside_v ⟨Nat.le_of_ble_eq_true rfl, Nat.le_of_ble_eq_true rfl⟩) hN hE hL (rcv9 hN hT hw.1) rfl rfl hl.1 (Nat.le_of_ble_eq_true rfl) dX8_player_9 (show 0 + 1 ≤ ((336 * sumN C 16 + 137000 - PotN LN) / 35) by omega) (show 0 + 6 ≤ (336 * sumN C 16 + 137000 - PotN LN) by omega) (fun E9 q9 ce9 H1 locs hL hq h1 h2 h3 => ct_up hnx hlocks h1 h2 h3 (hq.mono (by decide +kernel)) hL (show 0 + 1 ≤ ((336 * sumN C 16 + 137000 - PotN LN) / 35) by omega) (show 0 + 6 ≤ (336 * sumN C 16 + 137000 - PotN LN) by omega)) (fun v9 H1 locs hL hqr5491 => ?_)
  obtain ⟨rfl, hqr5491⟩ := hqr5491
  refine W.eq (g2 := F0 m 12 ls []) rfl ?_
  obtain rfl := hqr5491.symm
  refine W.tight (k := 0) (n := 0) (by rw [hH0]; exact Gr.rf) ?_
  refine lv_aload_n hx hb dX8_player_12 rfl (lv_at hl 0 rfl) ?_
  obtain ⟨hb5492, e5492, hat5492, hk5492⟩ := hT.o9 hw.1
  obtain ⟨f5492_0, f5492_1, f5492_2, f5492_3, f5492_4, f5492_5, f5492_6, rfl, t5492_0, t5492_1, t5492_2, t5492_3, rfl, rfl, rfl⟩ := hk5492
  have hP : va_P D vwCl [(w, .inr (8, [.ref (cs 450), .ref (cs 440), .ref (cs 441), .ref f5492_3, .int f5492_4, .int f5492_5, .int f5492_6]))] _ := va_P.cons hat5492 va_P.nil
  refine va_get (D := D) (ci := 8) (v := .ref (cs 440)) (C := RX8) (T := TX8) (N := 7) hx hb hts iX8_player_8 hown hN.1 hP 0 rfl rfl 1 (by decide) (hts _ mX8_player_1) (fun _ h9 => h9) rfl dX8_player_13 ?_
  refine lv_iload_n hx hb dX8_player_16 rfl (lv_at hl 1 rfl) ?_
  refine lv_iload_n hx hb dX8_player_17 rfl (lv_at hl 2 rfl) ?_
  refine cv_i (As := [.int x, .int y]) (rest := []) (b := (cs 440)) ⟨hx, hb, hml, hown, hts⟩ (c_X7_tellPlayer hT (w := (cs 440)) t5492_1 (x := x) (y := y)) (cwV 2 hts gX8_player_X7_tellPlayer rfl rfl rfl hdX7_tellPlayer_v ⟨Nat.le_of_ble_eq_true rfl, Nat.le_of_ble_eq_true rfl⟩) hN hE hL (rcv8 hN hT t5492_1.1) rfl rfl hl.1 (Nat.le_of_ble_eq_true rfl) dX8_player_18 (Nat.zero_le _) (Nat.zero_le _) (fun r5493 H1 locs hL hqr5493 => ?_)
  obtain rfl := hqr5493.symm
  refine W.know (fun hg => ?_)
  rw [hH0] at hg
  exact vx_ret (en_i hx hb hr hlocks hL rfl (Nat.zero_le _) (Nat.zero_le _) dX8_player_21 (⟨κ, KW.rf, hT, C, LN, 0, 0, Nat.le_add_right _ _, hR, ⟨hg, hGN⟩⟩))
theorem mX8_link_1 : (.fieldLink RX8 19 "OneBeat" "now" "LOneBeat$World;" : Cond) ∈ wsX8_link := List.mem_of_getElem? (i := 1) (by decide +kernel)
theorem iX8_link_8 : ∀ w ∈ wsX80, w ∈ wsX8_link := fun w h => List.mem_of_mem_drop (List.mem_of_mem_take ((show wsX80 = (wsX8_link.drop 30).take 7 by decide +kernel) ▸ h))
set_option maxHeartbeats 4000000 in
set_option maxRecDepth 100000 in
theorem c_X8_link {l : Launch} (hlt : l.stackTraces = false) {D : va_G} {cs : Nat → ClassId} {B0 T : Nat} {κ : KM} {H0 : Heap} (hT : WT B0 D cs T κ H0) {w : Nat} (hw : T2 κ w 9 13) {C : Nat → Nat} {LN : Nat → Nat → Nat} (hR : RQ D cs κ H0 C LN er) {x : Int32} {y : Int32} : KT l yX8_link wsX8_link 7 121 ((336 * sumN C 16 + 137000 - PotN LN) / 35) (336 * sumN C 16 + 137000 - PotN LN) D cs B0 H0 [.ref w, .int x, .int y] (Qi (fun _ H => ∃ κ1, KW κ κ1 ∧ WT B0 D cs T κ1 H ∧ ∃ C1 LN1 k n, sumN C1 16 ≤ sumN C 16 + 24 ∧ RQ D cs κ1 H C1 LN1 er ∧ GQ H0 H LN LN1 k n)) (TQ ["java/lang/IndexOutOfBoundsException"] H0) := by
  refine KT.of cX8_link 3 (some .int) (by decide) rfl (Nat.le_of_ble_eq_true rfl) ?_
  intro p e s m below meth c ls hx hb hr hml hown hts hlocks hnx hN hE hH0 hl
  have hown : s.vm.findClass RX8 = some m.cls := hown
  have hl : lv_has ls 3 [(0, .ref w), (1, .int x), (2, .int y)] := hl
  have hL : OkL B0 [] := OkL.nil
  have hGN : 35 * 0 ≤ 0 ∧ 0 + PotN LN ≤ PotN LN := ⟨Nat.le_refl _, by omega⟩
  have hs0 := hR.pot
  refine lv_aload_n hx hb dX8_link_0 rfl (lv_at hl 0 rfl) ?_
  refine lv_iload_n hx hb dX8_link_1 rfl (lv_at hl 1 rfl) ?_
  refine ct_V (As := [.int x]) (rest := []) (b := w) ⟨hx, hb, hml, hown, hts⟩ (c_X8_refuseNoPlayer hlt hT (w := w) hw (x := x)) (cwV 1 hts gX8_link_X8_refuseNoPlayer rfl rfl rfl hdX8_refuseNoPlayer_v ⟨Nat.le_of_ble_eq_true rfl, Nat.le_of_ble_eq_true rfl⟩) hN hE hL (rcv9 hN hT hw.1) rfl rfl hl.1 (Nat.le_of_ble_eq_true rfl) dX8_link_2 (show 0 + 1 ≤ ((336 * sumN C 16 + 137000 - PotN LN) / 35) by omega) (show 0 + 6 ≤ (336 * sumN C 16 + 137000 - PotN LN) by omega) (fun E9 q9 ce9 H1 locs hL hq h1 h2 h3 => ct_up hnx hlocks h1 h2 h3 (hq.mono (by decide +kernel)) hL (show 0 + 1 ≤ ((336 * sumN C 16 + 137000 - PotN LN) / 35) by omega) (show 0 + 6 ≤ (336 * sumN C 16 + 137000 - PotN LN) by omega)) (fun v9 H1 locs hL hqr5494 => ?_)
  obtain ⟨rfl, hqr5494⟩ := hqr5494
  refine W.eq (g2 := F0 m 5 ls []) rfl ?_
  obtain rfl := hqr5494.symm
  refine W.tight (k := 0) (n := 0) (by rw [hH0]; exact Gr.rf) ?_
  refine lv_aload_n hx hb dX8_link_5 rfl (lv_at hl 0 rfl) ?_
  refine lv_iload_n hx hb dX8_link_6 rfl (lv_at hl 2 rfl) ?_
  refine ct_V (As := [.int y]) (rest := []) (b := w) ⟨hx, hb, hml, hown, hts⟩ (c_X8_refuseNoPlayer hlt hT (w := w) hw (x := y)) (cwV 1 hts gX8_link_X8_refuseNoPlayer rfl rfl rfl hdX8_refuseNoPlayer_v ⟨Nat.le_of_ble_eq_true rfl, Nat.le_of_ble_eq_true rfl⟩) hN hE hL (rcv9 hN hT hw.1) rfl rfl hl.1 (Nat.le_of_ble_eq_true rfl) dX8_link_7 (show 0 + 1 ≤ ((336 * sumN C 16 + 137000 - PotN LN) / 35) by omega) (show 0 + 6 ≤ (336 * sumN C 16 + 137000 - PotN LN) by omega) (fun E9 q9 ce9 H1 locs hL hq h1 h2 h3 => ct_up hnx hlocks h1 h2 h3 (hq.mono (by decide +kernel)) hL (show 0 + 1 ≤ ((336 * sumN C 16 + 137000 - PotN LN) / 35) by omega) (show 0 + 6 ≤ (336 * sumN C 16 + 137000 - PotN LN) by omega)) (fun v9 H1 locs hL hqr5495 => ?_)
  obtain ⟨rfl, hqr5495⟩ := hqr5495
  refine W.eq (g2 := F0 m 10 ls []) rfl ?_
  obtain rfl := hqr5495.symm
  refine W.tight (k := 0) (n := 0) (by rw [hH0]; exact Gr.rf) ?_
  refine lv_aload_n hx hb dX8_link_10 rfl (lv_at hl 0 rfl) ?_
  obtain ⟨hb5496, e5496, hat5496, hk5496⟩ := hT.o9 hw.1
  obtain ⟨f5496_0, f5496_1, f5496_2, f5496_3, f5496_4, f5496_5, f5496_6, rfl, t5496_0, t5496_1, t5496_2, t5496_3, rfl, rfl, rfl⟩ := hk5496
  have hP : va_P D vwCl [(w, .inr (8, [.ref (cs 450), .ref (cs 440), .ref (cs 441), .ref f5496_3, .int f5496_4, .int f5496_5, .int f5496_6]))] _ := va_P.cons hat5496 va_P.nil
  refine va_get (D := D) (ci := 8) (v := .ref (cs 440)) (C := RX8) (T := TX8) (N := 7) hx hb hts iX8_link_8 hown hN.1 hP 0 rfl rfl 1 (by decide) (hts _ mX8_link_1) (fun _ h9 => h9) rfl dX8_link_11 ?_
  refine lv_iload_n hx hb dX8_link_14 rfl (lv_at hl 1 rfl) ?_
  refine lv_iload_n hx hb dX8_link_15 rfl (lv_at hl 2 rfl) ?_
  refine cv_i (As := [.int x, .int y]) (rest := []) (b := (cs 440)) ⟨hx, hb, hml, hown, hts⟩ (c_X7_isCut hT (w := (cs 440)) t5496_1 (x := x) (y := y)) (cwV 2 hts gX8_link_X7_isCut rfl rfl rfl hdX7_isCut_v ⟨Nat.le_of_ble_eq_true rfl, Nat.le_of_ble_eq_true rfl⟩) hN hE hL (rcv8 hN hT t5496_1.1) rfl rfl hl.1 (Nat.le_of_ble_eq_true rfl) dX8_link_16 (Nat.zero_le _) (Nat.zero_le _) (fun r5497 H1 locs hL hqr5497 => ?_)
  obtain ⟨h9, hqr5497⟩ := hqr5497; replace h9 := h9.symm; subst h9
  rcases hqr5497 with rfl | rfl
  · refine lv_if_eq (tgt := 35) hx hb dX8_link_19 (by decide) (fun _ => ?_) (fun c9 => absurd (by decide) c9)
    refine lv_aload_n hx hb dX8_link_35 rfl (lv_at hl 0 rfl) ?_
    refine va_get (D := D) (ci := 8) (v := .ref (cs 440)) (C := RX8) (T := TX8) (N := 7) hx hb hts iX8_link_8 hown hN.1 hP 0 rfl rfl 1 (by decide) (hts _ mX8_link_1) (fun _ h9 => h9) rfl dX8_link_36 ?_
    refine lv_iload_n hx hb dX8_link_39 rfl (lv_at hl 1 rfl) ?_
    refine lv_iload_n hx hb dX8_link_40 rfl (lv_at hl 2 rfl) ?_
    refine cv_i (As := [.int x, .int y]) (rest := []) (b := (cs 440)) ⟨hx, hb, hml, hown, hts⟩ (c_X7_delay hT (w := (cs 440)) t5496_1 (x := x) (y := y)) (cwV 2 hts gX8_link_X7_delay rfl rfl rfl hdX7_delay_v ⟨Nat.le_of_ble_eq_true rfl, Nat.le_of_ble_eq_true rfl⟩) hN hE hL (rcv8 hN hT t5496_1.1) rfl rfl hl.1 (Nat.le_of_ble_eq_true rfl) dX8_link_41 (Nat.zero_le _) (Nat.zero_le _) (fun r5498 H1 locs hL hqr5498 => ?_)
    obtain ⟨h9, hqr5498⟩ := hqr5498; replace h9 := h9.symm; subst h9
    obtain ⟨n5499, h5500, rfl⟩ := hqr5498
    refine W.know (fun hg => ?_)
    rw [hH0] at hg
    exact vx_ret (en_i hx hb hr hlocks hL rfl (Nat.zero_le _) (Nat.zero_le _) dX8_link_44 (⟨κ, KW.rf, hT, C, LN, 0, 0, Nat.le_add_right _ _, hR, ⟨hg, hGN⟩⟩))
  · refine lv_if_eq (tgt := 35) hx hb dX8_link_19 (by decide) (fun c9 => absurd c9 (by decide)) (fun _ => ?_)
    refine lv_aload_n hx hb dX8_link_22 rfl (lv_at hl 0 rfl) ?_
    refine va_get (D := D) (ci := 8) (v := .ref (cs 440)) (C := RX8) (T := TX8) (N := 7) hx hb hts iX8_link_8 hown hN.1 hP 0 rfl rfl 1 (by decide) (hts _ mX8_link_1) (fun _ h9 => h9) rfl dX8_link_23 ?_
    refine lv_iload_n hx hb dX8_link_26 rfl (lv_at hl 1 rfl) ?_
    refine lv_iload_n hx hb dX8_link_27 rfl (lv_at hl 2 rfl) ?_
    refine cv_i (As := [.int x, .int y]) (rest := []) (b := (cs 440)) ⟨hx, hb, hml, hown, hts⟩ (c_X7_delay hT (w := (cs 440)) t5496_1 (x := x) (y := y)) (cwV 2 hts gX8_link_X7_delay rfl rfl rfl hdX7_delay_v ⟨Nat.le_of_ble_eq_true rfl, Nat.le_of_ble_eq_true rfl⟩) hN hE hL (rcv8 hN hT t5496_1.1) rfl rfl hl.1 (Nat.le_of_ble_eq_true rfl) dX8_link_28 (Nat.zero_le _) (Nat.zero_le _) (fun r5501 H1 locs hL hqr5501 => ?_)
    obtain ⟨h9, hqr5501⟩ := hqr5501; replace h9 := h9.symm; subst h9
    obtain ⟨n5502, h5503, rfl⟩ := hqr5501
    refine lv_ineg hx hb dX8_link_31 ?_
    refine gn_i (fun x5504 => ?_)
    refine lv_goto (tgt := 44) hx hb dX8_link_32 (by decide) ?_
    refine W.know (fun hg => ?_)
    rw [hH0] at hg
    exact vx_ret (en_i hx hb hr hlocks hL rfl (Nat.zero_le _) (Nat.zero_le _) dX8_link_44 (⟨κ, KW.rf, hT, C, LN, 0, 0, Nat.le_add_right _ _, hR, ⟨hg, hGN⟩⟩))
theorem xgX8_message_109_3 : ∀ w ∈ (xnse RX8 109).filter goodWord, w ∈ wsX8_message := fun w h => by unfold wsX8_message; exact List.mem_cons_of_mem _ (List.mem_append_left _ (List.mem_append_right _ h))
theorem xnRX8_109_3 : ∀ w ∈ (xnse RX8 109).filter (fun w => !goodWord w), w ∈ Cond.castable "java/util/NoSuchElementException" "java/util/NoSuchElementException" :: xdD := by decide +kernel
theorem xdRX8_109_3 : xdL.all (fun w => decide (w ∈ (xnse RX8 109).filter goodWord)) = true := by decide +kernel
theorem xoRX8_105_109_3 : ∀ w ∈ Cond.classLink RX8 105 "java/util/NoSuchElementException" :: Cond.initialized "java/util/NoSuchElementException" :: (xnse RX8 109), vx_ot w = true := by decide +kernel
theorem mX8_message_1 : (.classLink RX8 105 "java/util/NoSuchElementException" : Cond) ∈ wsX8_message := List.mem_of_getElem? (i := 1) (by decide +kernel)
theorem mX8_message_2 : (.initialized "java/util/NoSuchElementException" : Cond) ∈ wsX8_message := List.mem_of_getElem? (i := 2) (by decide +kernel)
theorem mX8_message_3 : (.fieldLink RX8 19 "OneBeat" "now" "LOneBeat$World;" : Cond) ∈ wsX8_message := List.mem_of_getElem? (i := 3) (by decide +kernel)
theorem iX8_message_8 : ∀ w ∈ wsX80, w ∈ wsX8_message := fun w h => List.mem_of_mem_drop (List.mem_of_mem_take ((show wsX80 = (wsX8_message.drop 40).take 7 by decide +kernel) ▸ h))
theorem iX8_message_7 : ∀ w ∈ wsX70, w ∈ wsX8_message := fun w h => List.mem_of_mem_drop (List.mem_of_mem_take ((show wsX70 = (wsX8_message.drop 47).take 16 by decide +kernel) ▸ h))
theorem iX8_message_2 : ∀ w ∈ wsX20, w ∈ wsX8_message := fun w h => List.mem_of_mem_drop (List.mem_of_mem_take ((show wsX20 = (wsX8_message.drop 63).take 3 by decide +kernel) ▸ h))
theorem hdX7_tellMessage_v : yX7_tellMessage.cls = RX7 ∧ yX7_tellMessage.cls ≠ "java/lang/invoke/MethodHandle" ∧ yX7_tellMessage.cls ≠ "java/lang/invoke/VarHandle" ∧ (parseMethodDescriptor yX7_tellMessage.desc).map (fun d => d.parameters.length) = some 2 := by decide +kernel
set_option maxHeartbeats 4000000 in
set_option maxRecDepth 100000 in
theorem c_X8_message {l : Launch} (hlt : l.stackTraces = false) {D : va_G} {cs : Nat → ClassId} {B0 T : Nat} {κ : KM} {H0 : Heap} (hT : WT B0 D cs T κ H0) {w : Nat} (hw : T2 κ w 9 13) {C : Nat → Nat} {LN : Nat → Nat → Nat} (hR : RQ D cs κ H0 C LN er) {x : Int32} {y : Int32} : KT l yX8_message wsX8_message 7 122 ((336 * sumN C 16 + 137000 - PotN LN) / 35) (336 * sumN C 16 + 137000 - PotN LN) D cs B0 H0 [.ref w, .int x, .int y] (Qi (fun _ H => ∃ κ1, KW κ κ1 ∧ WT B0 D cs T κ1 H ∧ ∃ C1 LN1 k n, sumN C1 16 ≤ sumN C 16 + 24 ∧ RQ D cs κ1 H C1 LN1 er ∧ GQ H0 H LN LN1 k n)) (TQ ["java/util/NoSuchElementException", "java/lang/IllegalArgumentException"] H0) := by
  refine KT.of cX8_message 3 (some .int) (by decide) rfl (Nat.le_of_ble_eq_true rfl) ?_
  intro p e s m below meth c ls hx hb hr hml hown hts hlocks hnx hN hE hH0 hl
  have hown : s.vm.findClass RX8 = some m.cls := hown
  have hl : lv_has ls 3 [(0, .ref w), (1, .int x), (2, .int y)] := hl
  have hL : OkL B0 [] := OkL.nil
  have hGN : 35 * 0 ≤ 0 ∧ 0 + PotN LN ≤ PotN LN := ⟨Nat.le_refl _, by omega⟩
  have hs0 := hR.pot
  refine lv_iload_n hx hb dX8_message_0 rfl (lv_at hl 1 rfl) ?_
  refine lv_if_lt (tgt := 18) hx hb dX8_message_1 (by decide) (fun c5505 => ?_) (fun c5505 => ?_)
  · exact tx_up (Qu := fun E1 H1 => E1 = "java/util/NoSuchElementException" ∧ H0.size ≤ H1.size ∧ ∀ q : Nat, q < H0.size → H1[q]? = H0[q]?) (tx_n2 (Qo := fun _ _ => False) (E := "java/util/NoSuchElementException") 3 hx hb hlt hown hN (by decide +kernel) (hts _ mX8_message_1) (hts _ mX8_message_2) (hN.s 12 rfl) rfl (fun w h => hts w (xgX8_message_109_3 w h)) xnRX8_109_3 xdRX8_109_3 xoRX8_105_109_3 hE.1 (by rw [hH0]; exact ⟨Nat.le_refl _, fun _ _ _ => rfl, hL⟩) (fun H1 g1 g2 => ⟨rfl, g1, g2⟩) hl hml dX8_message_18 dX8_message_21 dX8_message_22 dX8_message_24 dX8_message_27 hnx (Nat.le_of_ble_eq_true rfl) (Nat.le_of_ble_eq_true rfl) (show 0 + 1 ≤ ((336 * sumN C 16 + 137000 - PotN LN) / 35) by omega) (show 0 + 6 ≤ (336 * sumN C 16 + 137000 - PotN LN) by omega) hlocks (Nat.le_refl _) (Nat.le_refl _)) hH0 (show 1 ≤ ((336 * sumN C 16 + 137000 - PotN LN) / 35) by omega) (show 6 ≤ (336 * sumN C 16 + 137000 - PotN LN) by omega) (fun E1 H1 g g3 => ⟨by rw [g.1]; simp, g.2.1, g.2.2, g3⟩)
  · refine lv_iload_n hx hb dX8_message_4 rfl (lv_at hl 1 rfl) ?_
    refine lv_aload_n hx hb dX8_message_5 rfl (lv_at hl 0 rfl) ?_
    obtain ⟨hb5506, e5506, hat5506, hk5506⟩ := hT.o9 hw.1
    obtain ⟨f5506_0, f5506_1, f5506_2, f5506_3, f5506_4, f5506_5, f5506_6, rfl, t5506_0, t5506_1, t5506_2, t5506_3, rfl, rfl, rfl⟩ := hk5506
    have hP : va_P D vwCl [(w, .inr (8, [.ref (cs 450), .ref (cs 440), .ref (cs 441), .ref f5506_3, .int f5506_4, .int f5506_5, .int f5506_6]))] _ := va_P.cons hat5506 va_P.nil
    refine va_get (D := D) (ci := 8) (v := .ref (cs 440)) (C := RX8) (T := TX8) (N := 7) hx hb hts iX8_message_8 hown hN.1 hP 0 rfl rfl 1 (by decide) (hts _ mX8_message_3) (fun _ h9 => h9) rfl dX8_message_6 ?_
    obtain ⟨hb5507, e5507, hat5507, hk5507⟩ := hT.o8 t5506_1.1
    obtain ⟨f5507_0, f5507_1, f5507_2, f5507_3, f5507_4, f5507_5, f5507_6, f5507_7, f5507_8, f5507_9, f5507_10, f5507_11, f5507_12, f5507_13, f5507_14, f5507_15, rfl, t5507_0, c5507_su, t5507_1, t5507_2, t5507_3, t5507_4, t5507_5, c5507_tm, c5507_lt, c5507_ml, c5507_pr, c5507_li⟩ := hk5507
    rw [t5506_1.2] at t5507_1
    rw [t5506_1.2] at t5507_2
    rw [t5506_1.2] at t5507_3
    rw [t5506_1.2] at t5507_4
    rw [t5506_1.2] at t5507_5
    rw [t5506_1.2] at c5507_lt c5507_ml c5507_pr c5507_li
    subst c5507_ml
    subst c5507_pr
    subst c5507_li
    have hP : va_P D vwCl [((cs 440), .inr (7, [.ref f5507_0, .ref f5507_1, .ref (cs (400 + 0)), .ref (cs (420 + 0)), .ref (cs (460 + 0)), .ref f5507_5, .long f5507_6, .int f5507_7, .int f5507_8, .int f5507_9, .int f5507_10, .int f5507_11, .int f5507_12, .int f5507_13, .int f5507_14, .int f5507_15])), (w, .inr (8, [.ref (cs 450), .ref (cs 440), .ref (cs 441), .ref f5506_3, .int f5506_4, .int f5506_5, .int f5506_6]))] _ := va_P.cons hat5507 hP
    refine va_getN (D := D) (ci := 7) (v := .ref (cs (400 + 0))) (C := RX7) (T := TX7) (N := 16) hx hb hts iX8_message_7 hown hN.1 hP 0 rfl rfl 2 (by decide) (hN.f 47 rfl) (fun _ h9 => h9) rfl dX8_message_9 ?_
    obtain ⟨hb5508, e5508, hat5508, hk5508⟩ := hT.o3 t5507_2.1
    obtain ⟨f5508_0, f5508_1, f5508_2, rfl, t5508_0, t5508_1⟩ := hk5508
    rw [t5507_2.2] at t5508_0
    rw [t5507_2.2] at t5508_1
    have hP : va_P D vwCl [((cs (400 + 0)), .inr (2, [.ref f5508_0, .ref f5508_1, .int f5508_2])), ((cs 440), .inr (7, [.ref f5507_0, .ref f5507_1, .ref (cs (400 + 0)), .ref (cs (420 + 0)), .ref (cs (460 + 0)), .ref f5507_5, .long f5507_6, .int f5507_7, .int f5507_8, .int f5507_9, .int f5507_10, .int f5507_11, .int f5507_12, .int f5507_13, .int f5507_14, .int f5507_15])), (w, .inr (8, [.ref (cs 450), .ref (cs 440), .ref (cs 441), .ref f5506_3, .int f5506_4, .int f5506_5, .int f5506_6]))] _ := va_P.cons hat5508 hP
    refine va_getN (D := D) (ci := 2) (v := .int f5508_2) (C := RX2) (T := TX2) (N := 3) hx hb hts iX8_message_2 hown hN.1 hP 0 rfl rfl 2 (by decide) (hN.f 3 rfl) (fun _ h9 => h9) rfl dX8_message_12 ?_
    refine lv_icmp_lt (tgt := 28) hx hb dX8_message_15 (by decide) (fun c5509 => ?_) (fun c5509 => ?_)
    · refine lv_aload_n hx hb dX8_message_28 rfl (lv_at hl 0 rfl) ?_
      refine lv_iload_n hx hb dX8_message_29 rfl (lv_at hl 2 rfl) ?_
      refine lv_iconst (v := 5) hx hb dX8_message_30 (by decide) ?_
      refine ct_V (As := [.int y, .int 5]) (rest := []) (b := w) ⟨hx, hb, hml, hown, hts⟩ (c_X8_refuseWhatOutside hlt hT (w := w) hw (x := y) (y := 5)) (cwV 2 hts gX8_message_X8_refuseWhatOutside rfl rfl rfl hdX8_refuseWhatOutside_v ⟨Nat.le_of_ble_eq_true rfl, Nat.le_of_ble_eq_true rfl⟩) hN hE hL (rcv9 hN hT hw.1) rfl rfl hl.1 (Nat.le_of_ble_eq_true rfl) dX8_message_31 (show 0 + 1 ≤ ((336 * sumN C 16 + 137000 - PotN LN) / 35) by omega) (show 0 + 6 ≤ (336 * sumN C 16 + 137000 - PotN LN) by omega) (fun E9 q9 ce9 H1 locs hL hq h1 h2 h3 => ct_up hnx hlocks h1 h2 h3 (hq.mono (by decide +kernel)) hL (show 0 + 1 ≤ ((336 * sumN C 16 + 137000 - PotN LN) / 35) by omega) (show 0 + 6 ≤ (336 * sumN C 16 + 137000 - PotN LN) by omega)) (fun v9 H1 locs hL hqr5510 => ?_)
      obtain ⟨rfl, hqr5510⟩ := hqr5510
      refine W.eq (g2 := F0 m 34 ls []) rfl ?_
      obtain rfl := hqr5510.symm
      refine W.tight (k := 0) (n := 0) (by rw [hH0]; exact Gr.rf) ?_
      refine lv_aload_n hx hb dX8_message_34 rfl (lv_at hl 0 rfl) ?_
      refine va_get (D := D) (ci := 8) (v := .ref (cs 440)) (C := RX8) (T := TX8) (N := 7) hx hb hts iX8_message_8 hown hN.1 hP 2 rfl rfl 1 (by decide) (hts _ mX8_message_3) (fun _ h9 => h9) rfl dX8_message_35 ?_
      refine lv_iload_n hx hb dX8_message_38 rfl (lv_at hl 1 rfl) ?_
      refine lv_iload_n hx hb dX8_message_39 rfl (lv_at hl 2 rfl) ?_
      refine cv_i (As := [.int x, .int y]) (rest := []) (b := (cs 440)) ⟨hx, hb, hml, hown, hts⟩ (c_X7_tellMessage hT (w := (cs 440)) t5506_1 (x := x) (y := y)) (cwV 2 hts gX8_message_X7_tellMessage rfl rfl rfl hdX7_tellMessage_v ⟨Nat.le_of_ble_eq_true rfl, Nat.le_of_ble_eq_true rfl⟩) hN hE hL (rcv8 hN hT t5506_1.1) rfl rfl hl.1 (Nat.le_of_ble_eq_true rfl) dX8_message_40 (Nat.zero_le _) (Nat.zero_le _) (fun r5511 H1 locs hL hqr5511 => ?_)
      obtain ⟨hT1, hF1⟩ := hqr5511
      have hR := hR.fr hT trivial hF1 (by decide)
      have hT := hT1
      refine W.know (fun hg => ?_)
      rw [hH0] at hg
      exact vx_ret (en_i hx hb hr hlocks hL rfl (Nat.zero_le _) (Nat.zero_le _) dX8_message_43 (⟨κ, KW.rf, hT, C, LN, 0, 0, Nat.le_add_right _ _, hR, ⟨hg, hGN⟩⟩))
    · exact tx_up (Qu := fun E1 H1 => E1 = "java/util/NoSuchElementException" ∧ H0.size ≤ H1.size ∧ ∀ q : Nat, q < H0.size → H1[q]? = H0[q]?) (tx_n2 (Qo := fun _ _ => False) (E := "java/util/NoSuchElementException") 3 hx hb hlt hown hN (by decide +kernel) (hts _ mX8_message_1) (hts _ mX8_message_2) (hN.s 12 rfl) rfl (fun w h => hts w (xgX8_message_109_3 w h)) xnRX8_109_3 xdRX8_109_3 xoRX8_105_109_3 hE.1 (by rw [hH0]; exact ⟨Nat.le_refl _, fun _ _ _ => rfl, hL⟩) (fun H1 g1 g2 => ⟨rfl, g1, g2⟩) hl hml dX8_message_18 dX8_message_21 dX8_message_22 dX8_message_24 dX8_message_27 hnx (Nat.le_of_ble_eq_true rfl) (Nat.le_of_ble_eq_true rfl) (show 0 + 1 ≤ ((336 * sumN C 16 + 137000 - PotN LN) / 35) by omega) (show 0 + 6 ≤ (336 * sumN C 16 + 137000 - PotN LN) by omega) hlocks (Nat.le_refl _) (Nat.le_refl _)) hH0 (show 1 ≤ ((336 * sumN C 16 + 137000 - PotN LN) / 35) by omega) (show 6 ≤ (336 * sumN C 16 + 137000 - PotN LN) by omega) (fun E1 H1 g g3 => ⟨by rw [g.1]; simp, g.2.1, g.2.2, g3⟩)
theorem mX8_proposal_3 : (.fieldLink RX8 19 "OneBeat" "now" "LOneBeat$World;" : Cond) ∈ wsX8_proposal := List.mem_of_getElem? (i := 3) (by decide +kernel)
theorem iX8_proposal_8 : ∀ w ∈ wsX80, w ∈ wsX8_proposal := fun w h => List.mem_of_mem_drop (List.mem_of_mem_take ((show wsX80 = (wsX8_proposal.drop 22).take 7 by decide +kernel) ▸ h))
theorem iX8_proposal_7 : ∀ w ∈ wsX70, w ∈ wsX8_proposal := fun w h => List.mem_of_mem_drop (List.mem_of_mem_take ((show wsX70 = (wsX8_proposal.drop 29).take 16 by decide +kernel) ▸ h))
theorem hdX4_tell_v : yX4_tell.cls = RX4 ∧ yX4_tell.cls ≠ "java/lang/invoke/MethodHandle" ∧ yX4_tell.cls ≠ "java/lang/invoke/VarHandle" ∧ (parseMethodDescriptor yX4_tell.desc).map (fun d => d.parameters.length) = some 1 := by decide +kernel
theorem xgX8_proposal_109_3 : ∀ w ∈ (xnse RX8 109).filter goodWord, w ∈ wsX8_proposal := fun w h => by unfold wsX8_proposal; exact List.mem_cons_of_mem _ (List.mem_append_left _ (List.mem_append_right _ h))
theorem mX8_proposal_1 : (.classLink RX8 105 "java/util/NoSuchElementException" : Cond) ∈ wsX8_proposal := List.mem_of_getElem? (i := 1) (by decide +kernel)
theorem mX8_proposal_2 : (.initialized "java/util/NoSuchElementException" : Cond) ∈ wsX8_proposal := List.mem_of_getElem? (i := 2) (by decide +kernel)
set_option maxHeartbeats 4000000 in
set_option maxRecDepth 100000 in
theorem c_X8_proposal {l : Launch} (hlt : l.stackTraces = false) {D : va_G} {cs : Nat → ClassId} {B0 T : Nat} {κ : KM} {H0 : Heap} (hT : WT B0 D cs T κ H0) {w : Nat} (hw : T2 κ w 9 13) {C : Nat → Nat} {LN : Nat → Nat → Nat} (hR : RQ D cs κ H0 C LN er) {x : Int32} : KT l yX8_proposal wsX8_proposal 7 122 ((336 * sumN C 16 + 137000 - PotN LN) / 35) (336 * sumN C 16 + 137000 - PotN LN) D cs B0 H0 [.ref w, .int x] (Qi (fun _ H => ∃ κ1, KW κ κ1 ∧ WT B0 D cs T κ1 H ∧ ∃ C1 LN1 k n, sumN C1 16 ≤ sumN C 16 + 24 ∧ RQ D cs κ1 H C1 LN1 er ∧ GQ H0 H LN LN1 k n)) (TQ ["java/util/NoSuchElementException", "java/lang/IllegalArgumentException"] H0) := by
  refine KT.of cX8_proposal 2 (some .int) (by decide) rfl (Nat.le_of_ble_eq_true rfl) ?_
  intro p e s m below meth c ls hx hb hr hml hown hts hlocks hnx hN hE hH0 hl
  have hown : s.vm.findClass RX8 = some m.cls := hown
  have hl : lv_has ls 2 [(0, .ref w), (1, .int x)] := hl
  have hL : OkL B0 [] := OkL.nil
  have hGN : 35 * 0 ≤ 0 ∧ 0 + PotN LN ≤ PotN LN := ⟨Nat.le_refl _, by omega⟩
  have hs0 := hR.pot
  refine lv_aload_n hx hb dX8_proposal_0 rfl (lv_at hl 0 rfl) ?_
  obtain ⟨hb5512, e5512, hat5512, hk5512⟩ := hT.o9 hw.1
  obtain ⟨f5512_0, f5512_1, f5512_2, f5512_3, f5512_4, f5512_5, f5512_6, rfl, t5512_0, t5512_1, t5512_2, t5512_3, rfl, rfl, rfl⟩ := hk5512
  have hP : va_P D vwCl [(w, .inr (8, [.ref (cs 450), .ref (cs 440), .ref (cs 441), .ref f5512_3, .int f5512_4, .int f5512_5, .int f5512_6]))] _ := va_P.cons hat5512 va_P.nil
  refine va_get (D := D) (ci := 8) (v := .ref (cs 440)) (C := RX8) (T := TX8) (N := 7) hx hb hts iX8_proposal_8 hown hN.1 hP 0 rfl rfl 1 (by decide) (hts _ mX8_proposal_3) (fun _ h9 => h9) rfl dX8_proposal_1 ?_
  obtain ⟨hb5513, e5513, hat5513, hk5513⟩ := hT.o8 t5512_1.1
  obtain ⟨f5513_0, f5513_1, f5513_2, f5513_3, f5513_4, f5513_5, f5513_6, f5513_7, f5513_8, f5513_9, f5513_10, f5513_11, f5513_12, f5513_13, f5513_14, f5513_15, rfl, t5513_0, c5513_su, t5513_1, t5513_2, t5513_3, t5513_4, t5513_5, c5513_tm, c5513_lt, c5513_ml, c5513_pr, c5513_li⟩ := hk5513
  rw [t5512_1.2] at t5513_1
  rw [t5512_1.2] at t5513_2
  rw [t5512_1.2] at t5513_3
  rw [t5512_1.2] at t5513_4
  rw [t5512_1.2] at t5513_5
  rw [t5512_1.2] at c5513_lt c5513_ml c5513_pr c5513_li
  subst c5513_ml
  subst c5513_pr
  subst c5513_li
  have hP : va_P D vwCl [((cs 440), .inr (7, [.ref f5513_0, .ref f5513_1, .ref (cs (400 + 0)), .ref (cs (420 + 0)), .ref (cs (460 + 0)), .ref f5513_5, .long f5513_6, .int f5513_7, .int f5513_8, .int f5513_9, .int f5513_10, .int f5513_11, .int f5513_12, .int f5513_13, .int f5513_14, .int f5513_15])), (w, .inr (8, [.ref (cs 450), .ref (cs 440), .ref (cs 441), .ref f5512_3, .int f5512_4, .int f5512_5, .int f5512_6]))] _ := va_P.cons hat5513 hP
  refine va_getN (D := D) (ci := 7) (v := .int f5513_11) (C := RX7) (T := TX7) (N := 16) hx hb hts iX8_proposal_7 hown hN.1 hP 0 rfl rfl 11 (by decide) (hN.f 50 rfl) (fun _ h9 => h9) rfl dX8_proposal_4 ?_
  refine lv_if_ne (tgt := 20) hx hb dX8_proposal_7 (by decide) (fun c5514 => ?_) (fun c5514 => ?_)
  · refine lv_aload_n hx hb dX8_proposal_20 rfl (lv_at hl 0 rfl) ?_
    refine lv_iload_n hx hb dX8_proposal_21 rfl (lv_at hl 1 rfl) ?_
    refine lv_iconst (v := 5) hx hb dX8_proposal_22 (by decide) ?_
    refine ct_V (As := [.int x, .int 5]) (rest := []) (b := w) ⟨hx, hb, hml, hown, hts⟩ (c_X8_refuseWhatOutside hlt hT (w := w) hw (x := x) (y := 5)) (cwV 2 hts gX8_proposal_X8_refuseWhatOutside rfl rfl rfl hdX8_refuseWhatOutside_v ⟨Nat.le_of_ble_eq_true rfl, Nat.le_of_ble_eq_true rfl⟩) hN hE hL (rcv9 hN hT hw.1) rfl rfl hl.1 (Nat.le_of_ble_eq_true rfl) dX8_proposal_23 (show 0 + 1 ≤ ((336 * sumN C 16 + 137000 - PotN LN) / 35) by omega) (show 0 + 6 ≤ (336 * sumN C 16 + 137000 - PotN LN) by omega) (fun E9 q9 ce9 H1 locs hL hq h1 h2 h3 => ct_up hnx hlocks h1 h2 h3 (hq.mono (by decide +kernel)) hL (show 0 + 1 ≤ ((336 * sumN C 16 + 137000 - PotN LN) / 35) by omega) (show 0 + 6 ≤ (336 * sumN C 16 + 137000 - PotN LN) by omega)) (fun v9 H1 locs hL hqr5515 => ?_)
    obtain ⟨rfl, hqr5515⟩ := hqr5515
    refine W.eq (g2 := F0 m 26 ls []) rfl ?_
    obtain rfl := hqr5515.symm
    refine W.tight (k := 0) (n := 0) (by rw [hH0]; exact Gr.rf) ?_
    refine lv_aload_n hx hb dX8_proposal_26 rfl (lv_at hl 0 rfl) ?_
    refine va_get (D := D) (ci := 8) (v := .ref (cs 440)) (C := RX8) (T := TX8) (N := 7) hx hb hts iX8_proposal_8 hown hN.1 hP 1 rfl rfl 1 (by decide) (hts _ mX8_proposal_3) (fun _ h9 => h9) rfl dX8_proposal_27 ?_
    refine va_getN (D := D) (ci := 7) (v := .ref (cs (420 + 0))) (C := RX7) (T := TX7) (N := 16) hx hb hts iX8_proposal_7 hown hN.1 hP 0 rfl rfl 3 (by decide) (hN.f 48 rfl) (fun _ h9 => h9) rfl dX8_proposal_30 ?_
    refine lv_iload_n hx hb dX8_proposal_33 rfl (lv_at hl 1 rfl) ?_
    refine cv_i (As := [.int x]) (rest := []) (b := (cs (420 + 0))) ⟨hx, hb, hml, hown, hts⟩ (c_X4_tell hT (w := (cs (420 + 0))) t5513_3 (x := x)) (cwV 1 hts gX8_proposal_X4_tell rfl rfl rfl hdX4_tell_v ⟨Nat.le_of_ble_eq_true rfl, Nat.le_of_ble_eq_true rfl⟩) hN hE hL (rcv5 hN hT t5513_3.1) rfl rfl hl.1 (Nat.le_of_ble_eq_true rfl) dX8_proposal_34 (Nat.zero_le _) (Nat.zero_le _) (fun r5516 H1 locs hL hqr5516 => ?_)
    obtain rfl := hqr5516.symm
    refine W.know (fun hg => ?_)
    rw [hH0] at hg
    exact vx_ret (en_i hx hb hr hlocks hL rfl (Nat.zero_le _) (Nat.zero_le _) dX8_proposal_37 (⟨κ, KW.rf, hT, C, LN, 0, 0, Nat.le_add_right _ _, hR, ⟨hg, hGN⟩⟩))
  · exact tx_up (Qu := fun E1 H1 => E1 = "java/util/NoSuchElementException" ∧ H0.size ≤ H1.size ∧ ∀ q : Nat, q < H0.size → H1[q]? = H0[q]?) (tx_n2 (Qo := fun _ _ => False) (E := "java/util/NoSuchElementException") 3 hx hb hlt hown hN (by decide +kernel) (hts _ mX8_proposal_1) (hts _ mX8_proposal_2) (hN.s 13 rfl) rfl (fun w h => hts w (xgX8_proposal_109_3 w h)) xnRX8_109_3 xdRX8_109_3 xoRX8_105_109_3 hE.1 (by rw [hH0]; exact ⟨Nat.le_refl _, fun _ _ _ => rfl, hL⟩) (fun H1 g1 g2 => ⟨rfl, g1, g2⟩) hl hml dX8_proposal_10 dX8_proposal_13 dX8_proposal_14 dX8_proposal_16 dX8_proposal_19 hnx (Nat.le_of_ble_eq_true rfl) (Nat.le_of_ble_eq_true rfl) (show 0 + 1 ≤ ((336 * sumN C 16 + 137000 - PotN LN) / 35) by omega) (show 0 + 6 ≤ (336 * sumN C 16 + 137000 - PotN LN) by omega) hlocks (Nat.le_refl _) (Nat.le_refl _)) hH0 (show 1 ≤ ((336 * sumN C 16 + 137000 - PotN LN) / 35) by omega) (show 6 ≤ (336 * sumN C 16 + 137000 - PotN LN) by omega) (fun E1 H1 g g3 => ⟨by rw [g.1]; simp, g.2.1, g.2.2, g3⟩)
theorem hdX8_keepForUndo_v : yX8_keepForUndo.cls = RX8 ∧ yX8_keepForUndo.cls ≠ "java/lang/invoke/MethodHandle" ∧ yX8_keepForUndo.cls ≠ "java/lang/invoke/VarHandle" ∧ (parseMethodDescriptor yX8_keepForUndo.desc).map (fun d => d.parameters.length) = some 0 := by decide +kernel
theorem mX8_power_1 : (.fieldLink RX8 19 "OneBeat" "now" "LOneBeat$World;" : Cond) ∈ wsX8_power := List.mem_of_getElem? (i := 1) (by decide +kernel)
theorem iX8_power_8 : ∀ w ∈ wsX80, w ∈ wsX8_power := fun w h => List.mem_of_mem_drop (List.mem_of_mem_take ((show wsX80 = (wsX8_power.drop 93).take 7 by decide +kernel) ▸ h))
theorem hdX3_turn_v : yX3_turn.cls = RX3 ∧ yX3_turn.cls ≠ "java/lang/invoke/MethodHandle" ∧ yX3_turn.cls ≠ "java/lang/invoke/VarHandle" ∧ (parseMethodDescriptor yX3_turn.desc).map (fun d => d.parameters.length) = some 1 := by decide +kernel
set_option maxHeartbeats 4000000 in
set_option maxRecDepth 100000 in
theorem c_X8_power {l : Launch} (hlt : l.stackTraces = false) {D : va_G} {cs : Nat → ClassId} {B0 T : Nat} {κ : KM} {H0 : Heap} (hT : WT B0 D cs T κ H0) {w : Nat} (hw : T2 κ w 9 13) {C : Nat → Nat} {LN : Nat → Nat → Nat} (hR : RQ D cs κ H0 C LN er) {x : Int32} {b_y : Int32} (qb_y : b_y = 0 ∨ b_y = 1) : KT l yX8_power wsX8_power 7 126 ((336 * sumN C 16 + 137000 - PotN LN) / 35) (336 * sumN C 16 + 137000 - PotN LN) D cs B0 H0 [.ref w, .int x, .int b_y] (Qi (fun _ H => ∃ κ1, KW κ κ1 ∧ WT B0 D cs T κ1 H ∧ ∃ C1 LN1 k n, sumN C1 16 ≤ sumN C 16 + 24 ∧ RQ D cs κ1 H C1 LN1 er ∧ GQ H0 H LN LN1 k n)) (TQ ["java/lang/IndexOutOfBoundsException"] H0) := by
  refine KT.of cX8_power 3 (some .boolean) (by decide) rfl (Nat.le_of_ble_eq_true rfl) ?_
  intro p e s m below meth c ls hx hb hr hml hown hts hlocks hnx hN hE hH0 hl
  have hown : s.vm.findClass RX8 = some m.cls := hown
  have hl : lv_has ls 3 [(0, .ref w), (1, .int x), (2, .int b_y)] := hl
  have hL : OkL B0 [] := OkL.nil
  have hGN : 35 * 0 ≤ 0 ∧ 0 + PotN LN ≤ PotN LN := ⟨Nat.le_refl _, by omega⟩
  have hs0 := hR.pot
  refine lv_aload_n hx hb dX8_power_0 rfl (lv_at hl 0 rfl) ?_
  refine lv_iload_n hx hb dX8_power_1 rfl (lv_at hl 1 rfl) ?_
  refine ct_V (As := [.int x]) (rest := []) (b := w) ⟨hx, hb, hml, hown, hts⟩ (c_X8_refuseNoPlayer hlt hT (w := w) hw (x := x)) (cwV 1 hts gX8_power_X8_refuseNoPlayer rfl rfl rfl hdX8_refuseNoPlayer_v ⟨Nat.le_of_ble_eq_true rfl, Nat.le_of_ble_eq_true rfl⟩) hN hE hL (rcv9 hN hT hw.1) rfl rfl hl.1 (Nat.le_of_ble_eq_true rfl) dX8_power_2 (show 0 + 1 ≤ ((336 * sumN C 16 + 137000 - PotN LN) / 35) by omega) (show 0 + 6 ≤ (336 * sumN C 16 + 137000 - PotN LN) by omega) (fun E9 q9 ce9 H1 locs hL hq h1 h2 h3 => ct_up hnx hlocks h1 h2 h3 (hq.mono (by decide +kernel)) hL (show 0 + 1 ≤ ((336 * sumN C 16 + 137000 - PotN LN) / 35) by omega) (show 0 + 6 ≤ (336 * sumN C 16 + 137000 - PotN LN) by omega)) (fun v9 H1 locs hL hqr5517 => ?_)
  obtain ⟨rfl, hqr5517⟩ := hqr5517
  refine W.eq (g2 := F0 m 5 ls []) rfl ?_
  obtain rfl := hqr5517.symm
  refine W.tight (k := 0) (n := 0) (by rw [hH0]; exact Gr.rf) ?_
  refine lv_aload_n hx hb dX8_power_5 rfl (lv_at hl 0 rfl) ?_
  refine W.know (fun hgb => ?_)
  rw [hH0] at hgb
  refine cv_v (As := []) (rest := []) (b := w) ⟨hx, hb, hml, hown, hts⟩ (c_X8_keepForUndo hT (w := w) hw hR) (cwV 0 hts gX8_power_X8_keepForUndo rfl rfl rfl hdX8_keepForUndo_v ⟨Nat.le_of_ble_eq_true rfl, Nat.le_of_ble_eq_true rfl⟩) hN hE hL (rcv9 hN hT hw.1) rfl rfl hl.1 (Nat.le_of_ble_eq_true rfl) dX8_power_6 (show 0 + ((336 * sumN C 16 + 137000 - PotN LN) / 35) ≤ ((336 * sumN C 16 + 137000 - PotN LN) / 35) by omega) (show 0 + (336 * sumN C 16 + 137000 - PotN LN) ≤ (336 * sumN C 16 + 137000 - PotN LN) by omega) (fun H1 locs hL hqr5518 => ?_)
  obtain ⟨κr5518, hxr5518, hT1, hqr5518⟩ := hqr5518
  have hxfr5518 := hxr5518.1
  have hT := hT1
  have hKF : KF κ κr5518 := hxfr5518
  have hKW : KW κ κr5518 := hxr5518
  have hw := (KF.t2 hxfr5518 hw (by decide))
  obtain ⟨L5519, k5520, n5521, r5522, g5523⟩ := hqr5518
  have hR := r5522
  obtain ⟨k5524, n5525, hGP⟩ : ∃ k9 n9, GQ H0 _ LN L5519 k9 n9 := ⟨_, _, GQ.tr (show GQ H0 _ LN LN _ _ from ⟨hgb, hGN⟩) g5523⟩
  refine W.tight (k := k5524) (n := n5525) (by rw [hH0]; exact hGP.1) ?_
  have hGN : 35 * k5524 ≤ n5525 ∧ n5525 + PotN LN ≤ PotN L5519 := hGP.2
  have hgk5524 := hGN.1
  have hgn5525 := hGN.2
  have hsk5524 := hR.pot
  refine lv_aload_n hx hb dX8_power_9 rfl (lv_at hl 0 rfl) ?_
  obtain ⟨hb5526, e5526, hat5526, hk5526⟩ := hT.o9 hw.1
  obtain ⟨f5526_0, f5526_1, f5526_2, f5526_3, f5526_4, f5526_5, f5526_6, rfl, t5526_0, t5526_1, t5526_2, t5526_3, rfl, rfl, rfl⟩ := hk5526
  have hP : va_P D vwCl [(w, .inr (8, [.ref (cs 450), .ref (cs 440), .ref (cs 441), .ref f5526_3, .int f5526_4, .int f5526_5, .int f5526_6]))] _ := va_P.cons hat5526 va_P.nil
  refine va_get (D := D) (ci := 8) (v := .ref (cs 440)) (C := RX8) (T := TX8) (N := 7) hx hb hts iX8_power_8 hown hN.1 hP 0 rfl rfl 1 (by decide) (hts _ mX8_power_1) (fun _ h9 => h9) rfl dX8_power_10 ?_
  refine lv_iload_n hx hb dX8_power_13 rfl (lv_at hl 1 rfl) ?_
  refine cv_r (As := [.int x]) (rest := []) (b := (cs 440)) ⟨hx, hb, hml, hown, hts⟩ (c_X7_at hT (w := (cs 440)) t5526_1 (x := x)) (cwV 1 hts gX8_power_X7_at rfl rfl rfl hdX7_at_v ⟨Nat.le_of_ble_eq_true rfl, Nat.le_of_ble_eq_true rfl⟩) hN hE hL (rcv8 hN hT t5526_1.1) rfl rfl hl.1 (Nat.le_of_ble_eq_true rfl) dX8_power_14 (show k5524 + 0 ≤ ((336 * sumN C 16 + 137000 - PotN LN) / 35) by omega) (show n5525 + 0 ≤ (336 * sumN C 16 + 137000 - PotN LN) by omega) (fun r5527 H1 locs hL hqr5527 => ?_)
  obtain ⟨h9, hqr5527⟩ := hqr5527; replace h9 := h9.symm; subst h9
  refine lv_iload_n hx hb dX8_power_17 rfl (lv_at hl 2 rfl) ?_
  refine cv_i (As := [.int b_y]) (rest := []) (b := r5527) ⟨hx, hb, hml, hown, hts⟩ (c_X3_turn hT (w := r5527) hqr5527 (x := b_y) (by first | omega | decide | assumption)) (cwV 1 hts gX8_power_X3_turn rfl rfl rfl hdX3_turn_v ⟨Nat.le_of_ble_eq_true rfl, Nat.le_of_ble_eq_true rfl⟩) hN hE hL (rcv4 hN hT hqr5527.1) rfl rfl hl.1 (Nat.le_of_ble_eq_true rfl) dX8_power_18 (show k5524 + 0 ≤ ((336 * sumN C 16 + 137000 - PotN LN) / 35) by omega) (show n5525 + 0 ≤ (336 * sumN C 16 + 137000 - PotN LN) by omega) (fun r5528 H1 locs hL hqr5528 => ?_)
  obtain ⟨hT1, hF1, hqr5528⟩ := hqr5528
  have hP : va_P D vwCl [(w, .inr (8, [.ref (cs 450), .ref (cs 440), .ref (cs 441), .ref f5526_3, .int f5526_4, .int f5526_5, .int f5526_6]))] _ := hF1.hP (hP.sub [0] rfl) (fa_c ⟨by rw [hw.1]; decide, by rw [hw.2]; first | decide | (simp; done) | (simp [h15a, h15b, h15c]; done) | (simp; omega)⟩ fa_n)
  have hR := hR.fr hT trivial hF1 (by decide)
  have hT := hT1
  refine W.know (fun hg => ?_)
  rw [hH0] at hg
  exact vx_ret (en_i hx hb hr hlocks hL (nb hqr5528) (show k5524 ≤ ((336 * sumN C 16 + 137000 - PotN LN) / 35) by omega) (show n5525 ≤ (336 * sumN C 16 + 137000 - PotN LN) by omega) dX8_power_21 (⟨_, hKW, hT, C, _, _, _, Nat.le_add_right _ _, hR, ⟨hg, hGN⟩⟩))
theorem mX8_cut_3 : (.fieldLink RX8 19 "OneBeat" "now" "LOneBeat$World;" : Cond) ∈ wsX8_cut := List.mem_of_getElem? (i := 3) (by decide +kernel)
theorem iX8_cut_8 : ∀ w ∈ wsX80, w ∈ wsX8_cut := fun w h => List.mem_of_mem_drop (List.mem_of_mem_take ((show wsX80 = (wsX8_cut.drop 109).take 7 by decide +kernel) ▸ h))
theorem hdX7_setCut_v : yX7_setCut.cls = RX7 ∧ yX7_setCut.cls ≠ "java/lang/invoke/MethodHandle" ∧ yX7_setCut.cls ≠ "java/lang/invoke/VarHandle" ∧ (parseMethodDescriptor yX7_setCut.desc).map (fun d => d.parameters.length) = some 3 := by decide +kernel
theorem xgX8_cut_186_1 : ∀ w ∈ (vx_atS RX8 186 "java/lang/IllegalStateException" ["java/lang/RuntimeException", "java/lang/Exception"]).filter goodWord, w ∈ wsX8_cut := fun w h => by unfold wsX8_cut; exact List.mem_cons_of_mem _ (List.mem_append_left _ (List.mem_append_right _ h))
theorem xnRX8_186_1 : ∀ w ∈ (vx_atS RX8 186 "java/lang/IllegalStateException" ["java/lang/RuntimeException", "java/lang/Exception"]).filter (fun w => !goodWord w), w ∈ Cond.castable "java/lang/IllegalStateException" "java/lang/IllegalStateException" :: xdD := by decide +kernel
theorem xdRX8_186_1 : xdL.all (fun w => decide (w ∈ (vx_atS RX8 186 "java/lang/IllegalStateException" ["java/lang/RuntimeException", "java/lang/Exception"]).filter goodWord)) = true := by decide +kernel
theorem xoRX8_182_186_1 : ∀ w ∈ Cond.classLink RX8 182 "java/lang/IllegalStateException" :: Cond.initialized "java/lang/IllegalStateException" :: (vx_atS RX8 186 "java/lang/IllegalStateException" ["java/lang/RuntimeException", "java/lang/Exception"]), vx_ot w = true := by decide +kernel
theorem mX8_cut_1 : (.classLink RX8 182 "java/lang/IllegalStateException" : Cond) ∈ wsX8_cut := List.mem_of_getElem? (i := 1) (by decide +kernel)
theorem mX8_cut_2 : (.initialized "java/lang/IllegalStateException" : Cond) ∈ wsX8_cut := List.mem_of_getElem? (i := 2) (by decide +kernel)
set_option maxHeartbeats 4000000 in
set_option maxRecDepth 100000 in
theorem c_X8_cut {l : Launch} (hlt : l.stackTraces = false) {D : va_G} {cs : Nat → ClassId} {B0 T : Nat} {κ : KM} {H0 : Heap} (hT : WT B0 D cs T κ H0) {w : Nat} (hw : T2 κ w 9 13) {C : Nat → Nat} {LN : Nat → Nat → Nat} (hR : RQ D cs κ H0 C LN er) {x : Int32} {y : Int32} {b_z : Int32} (qb_z : b_z = 0 ∨ b_z = 1) : KT l yX8_cut wsX8_cut 7 126 ((336 * sumN C 16 + 137000 - PotN LN) / 35) (336 * sumN C 16 + 137000 - PotN LN) D cs B0 H0 [.ref w, .int x, .int y, .int b_z] (Qi (fun _ H => ∃ κ1, KW κ κ1 ∧ WT B0 D cs T κ1 H ∧ ∃ C1 LN1 k n, sumN C1 16 ≤ sumN C 16 + 24 ∧ RQ D cs κ1 H C1 LN1 er ∧ GQ H0 H LN LN1 k n)) (TQ ["java/lang/IndexOutOfBoundsException", "java/lang/IllegalStateException"] H0) := by
  refine KT.of cX8_cut 5 (some .boolean) (by decide) rfl (Nat.le_of_ble_eq_true rfl) ?_
  intro p e s m below meth c ls hx hb hr hml hown hts hlocks hnx hN hE hH0 hl
  have hown : s.vm.findClass RX8 = some m.cls := hown
  have hl : lv_has ls 5 [(0, .ref w), (1, .int x), (2, .int y), (3, .int b_z)] := hl
  have hL : OkL B0 [] := OkL.nil
  have hGN : 35 * 0 ≤ 0 ∧ 0 + PotN LN ≤ PotN LN := ⟨Nat.le_refl _, by omega⟩
  have hs0 := hR.pot
  refine lv_aload_n hx hb dX8_cut_0 rfl (lv_at hl 0 rfl) ?_
  refine lv_iload_n hx hb dX8_cut_1 rfl (lv_at hl 1 rfl) ?_
  refine ct_V (As := [.int x]) (rest := []) (b := w) ⟨hx, hb, hml, hown, hts⟩ (c_X8_refuseNoPlayer hlt hT (w := w) hw (x := x)) (cwV 1 hts gX8_cut_X8_refuseNoPlayer rfl rfl rfl hdX8_refuseNoPlayer_v ⟨Nat.le_of_ble_eq_true rfl, Nat.le_of_ble_eq_true rfl⟩) hN hE hL (rcv9 hN hT hw.1) rfl rfl hl.1 (Nat.le_of_ble_eq_true rfl) dX8_cut_2 (show 0 + 1 ≤ ((336 * sumN C 16 + 137000 - PotN LN) / 35) by omega) (show 0 + 6 ≤ (336 * sumN C 16 + 137000 - PotN LN) by omega) (fun E9 q9 ce9 H1 locs hL hq h1 h2 h3 => ct_up hnx hlocks h1 h2 h3 (hq.mono (by decide +kernel)) hL (show 0 + 1 ≤ ((336 * sumN C 16 + 137000 - PotN LN) / 35) by omega) (show 0 + 6 ≤ (336 * sumN C 16 + 137000 - PotN LN) by omega)) (fun v9 H1 locs hL hqr5529 => ?_)
  obtain ⟨rfl, hqr5529⟩ := hqr5529
  refine W.eq (g2 := F0 m 5 ls []) rfl ?_
  obtain rfl := hqr5529.symm
  refine W.tight (k := 0) (n := 0) (by rw [hH0]; exact Gr.rf) ?_
  refine lv_aload_n hx hb dX8_cut_5 rfl (lv_at hl 0 rfl) ?_
  refine lv_iload_n hx hb dX8_cut_6 rfl (lv_at hl 2 rfl) ?_
  refine ct_V (As := [.int y]) (rest := []) (b := w) ⟨hx, hb, hml, hown, hts⟩ (c_X8_refuseNoPlayer hlt hT (w := w) hw (x := y)) (cwV 1 hts gX8_cut_X8_refuseNoPlayer rfl rfl rfl hdX8_refuseNoPlayer_v ⟨Nat.le_of_ble_eq_true rfl, Nat.le_of_ble_eq_true rfl⟩) hN hE hL (rcv9 hN hT hw.1) rfl rfl hl.1 (Nat.le_of_ble_eq_true rfl) dX8_cut_7 (show 0 + 1 ≤ ((336 * sumN C 16 + 137000 - PotN LN) / 35) by omega) (show 0 + 6 ≤ (336 * sumN C 16 + 137000 - PotN LN) by omega) (fun E9 q9 ce9 H1 locs hL hq h1 h2 h3 => ct_up hnx hlocks h1 h2 h3 (hq.mono (by decide +kernel)) hL (show 0 + 1 ≤ ((336 * sumN C 16 + 137000 - PotN LN) / 35) by omega) (show 0 + 6 ≤ (336 * sumN C 16 + 137000 - PotN LN) by omega)) (fun v9 H1 locs hL hqr5530 => ?_)
  obtain ⟨rfl, hqr5530⟩ := hqr5530
  refine W.eq (g2 := F0 m 10 ls []) rfl ?_
  obtain rfl := hqr5530.symm
  refine W.tight (k := 0) (n := 0) (by rw [hH0]; exact Gr.rf) ?_
  refine lv_aload_n hx hb dX8_cut_10 rfl (lv_at hl 0 rfl) ?_
  obtain ⟨hb5531, e5531, hat5531, hk5531⟩ := hT.o9 hw.1
  obtain ⟨f5531_0, f5531_1, f5531_2, f5531_3, f5531_4, f5531_5, f5531_6, rfl, t5531_0, t5531_1, t5531_2, t5531_3, rfl, rfl, rfl⟩ := hk5531
  have hP : va_P D vwCl [(w, .inr (8, [.ref (cs 450), .ref (cs 440), .ref (cs 441), .ref f5531_3, .int f5531_4, .int f5531_5, .int f5531_6]))] _ := va_P.cons hat5531 va_P.nil
  refine va_get (D := D) (ci := 8) (v := .ref (cs 440)) (C := RX8) (T := TX8) (N := 7) hx hb hts iX8_cut_8 hown hN.1 hP 0 rfl rfl 1 (by decide) (hts _ mX8_cut_3) (fun _ h9 => h9) rfl dX8_cut_11 ?_
  refine lv_iload_n hx hb dX8_cut_14 rfl (lv_at hl 1 rfl) ?_
  refine lv_iload_n hx hb dX8_cut_15 rfl (lv_at hl 2 rfl) ?_
  refine cv_i (As := [.int x, .int y]) (rest := []) (b := (cs 440)) ⟨hx, hb, hml, hown, hts⟩ (c_X7_delay hT (w := (cs 440)) t5531_1 (x := x) (y := y)) (cwV 2 hts gX8_cut_X7_delay rfl rfl rfl hdX7_delay_v ⟨Nat.le_of_ble_eq_true rfl, Nat.le_of_ble_eq_true rfl⟩) hN hE hL (rcv8 hN hT t5531_1.1) rfl rfl hl.1 (Nat.le_of_ble_eq_true rfl) dX8_cut_16 (Nat.zero_le _) (Nat.zero_le _) (fun r5532 H1 locs hL hqr5532 => ?_)
  obtain ⟨h9, hqr5532⟩ := hqr5532; replace h9 := h9.symm; subst h9
  obtain ⟨n5533, h5534, rfl⟩ := hqr5532
  refine lv_if_ne (tgt := 32) hx hb dX8_cut_19 (by decide) (fun c5535 => ?_) (fun c5535 => ?_)
  · have c5535 : ¬ n5533 = 0 := fun h9 => c5535 ((nI_eq (a := n5533) (b := 0) (by omega) (by omega)).mpr h9)
    refine lv_aload_n hx hb dX8_cut_32 rfl (lv_at hl 0 rfl) ?_
    refine W.know (fun hgb => ?_)
    rw [hH0] at hgb
    refine cv_v (As := []) (rest := []) (b := w) ⟨hx, hb, hml, hown, hts⟩ (c_X8_keepForUndo hT (w := w) hw hR) (cwV 0 hts gX8_cut_X8_keepForUndo rfl rfl rfl hdX8_keepForUndo_v ⟨Nat.le_of_ble_eq_true rfl, Nat.le_of_ble_eq_true rfl⟩) hN hE hL (rcv9 hN hT hw.1) rfl rfl hl.1 (Nat.le_of_ble_eq_true rfl) dX8_cut_33 (show 0 + ((336 * sumN C 16 + 137000 - PotN LN) / 35) ≤ ((336 * sumN C 16 + 137000 - PotN LN) / 35) by omega) (show 0 + (336 * sumN C 16 + 137000 - PotN LN) ≤ (336 * sumN C 16 + 137000 - PotN LN) by omega) (fun H1 locs hL hqr5536 => ?_)
    obtain ⟨κr5536, hxr5536, hT1, hqr5536⟩ := hqr5536
    have hxfr5536 := hxr5536.1
    have hT := hT1
    have hKF : KF κ κr5536 := hxfr5536
    have hKW : KW κ κr5536 := hxr5536
    have hw := (KF.t2 hxfr5536 hw (by decide))
    obtain ⟨L5537, k5538, n5539, r5540, g5541⟩ := hqr5536
    have hR := r5540
    obtain ⟨k5542, n5543, hGP⟩ : ∃ k9 n9, GQ H0 _ LN L5537 k9 n9 := ⟨_, _, GQ.tr (show GQ H0 _ LN LN _ _ from ⟨hgb, hGN⟩) g5541⟩
    refine W.tight (k := k5542) (n := n5543) (by rw [hH0]; exact hGP.1) ?_
    have hGN : 35 * k5542 ≤ n5543 ∧ n5543 + PotN LN ≤ PotN L5537 := hGP.2
    have hgk5542 := hGN.1
    have hgn5543 := hGN.2
    have hsk5542 := hR.pot
    refine lv_aload_n hx hb dX8_cut_36 rfl (lv_at hl 0 rfl) ?_
    obtain ⟨hb5544, e5544, hat5544, hk5544⟩ := hT.o9 hw.1
    obtain ⟨f5544_0, f5544_1, f5544_2, f5544_3, f5544_4, f5544_5, f5544_6, rfl, t5544_0, t5544_1, t5544_2, t5544_3, rfl, rfl, rfl⟩ := hk5544
    have hP : va_P D vwCl [(w, .inr (8, [.ref (cs 450), .ref (cs 440), .ref (cs 441), .ref f5544_3, .int f5544_4, .int f5544_5, .int f5544_6]))] _ := va_P.cons hat5544 va_P.nil
    refine va_get (D := D) (ci := 8) (v := .ref (cs 440)) (C := RX8) (T := TX8) (N := 7) hx hb hts iX8_cut_8 hown hN.1 hP 0 rfl rfl 1 (by decide) (hts _ mX8_cut_3) (fun _ h9 => h9) rfl dX8_cut_37 ?_
    refine lv_iload_n hx hb dX8_cut_40 rfl (lv_at hl 1 rfl) ?_
    refine lv_iload_n hx hb dX8_cut_41 rfl (lv_at hl 2 rfl) ?_
    refine cv_i (As := [.int x, .int y]) (rest := []) (b := (cs 440)) ⟨hx, hb, hml, hown, hts⟩ (c_X7_isCut hT (w := (cs 440)) t5544_1 (x := x) (y := y)) (cwV 2 hts gX8_cut_X7_isCut rfl rfl rfl hdX7_isCut_v ⟨Nat.le_of_ble_eq_true rfl, Nat.le_of_ble_eq_true rfl⟩) hN hE hL (rcv8 hN hT t5544_1.1) rfl rfl hl.1 (Nat.le_of_ble_eq_true rfl) dX8_cut_42 (show k5542 + 0 ≤ ((336 * sumN C 16 + 137000 - PotN LN) / 35) by omega) (show n5543 + 0 ≤ (336 * sumN C 16 + 137000 - PotN LN) by omega) (fun r5545 H1 locs hL hqr5545 => ?_)
    obtain ⟨h9, hqr5545⟩ := hqr5545; replace h9 := h9.symm; subst h9
    rcases hqr5545 with rfl | rfl
    · refine lv_istore (lv' := [(4, .int 0), (0, .ref w), (1, .int x), (2, .int y), (3, .int b_z)]) hx hb dX8_cut_45 hl (by decide) rfl (fun ls hl => ?_)
      refine lv_aload_n hx hb dX8_cut_47 rfl (lv_at hl 1 rfl) ?_
      refine va_get (D := D) (ci := 8) (v := .ref (cs 440)) (C := RX8) (T := TX8) (N := 7) hx hb hts iX8_cut_8 hown hN.1 hP 0 rfl rfl 1 (by decide) (hts _ mX8_cut_3) (fun _ h9 => h9) rfl dX8_cut_48 ?_
      refine lv_iload_n hx hb dX8_cut_51 rfl (lv_at hl 2 rfl) ?_
      refine lv_iload_n hx hb dX8_cut_52 rfl (lv_at hl 3 rfl) ?_
      refine lv_iload_n hx hb dX8_cut_53 rfl (lv_at hl 4 rfl) ?_
      refine cv_v (As := [.int x, .int y, .int b_z]) (rest := []) (b := (cs 440)) ⟨hx, hb, hml, hown, hts⟩ (c_X7_setCut hT (w := (cs 440)) t5544_1 (x := x) (y := y) (z := b_z)) (cwV 3 hts gX8_cut_X7_setCut rfl rfl rfl hdX7_setCut_v ⟨Nat.le_of_ble_eq_true rfl, Nat.le_of_ble_eq_true rfl⟩) hN hE hL (rcv8 hN hT t5544_1.1) rfl rfl hl.1 (Nat.le_of_ble_eq_true rfl) dX8_cut_54 (show k5542 + 0 ≤ ((336 * sumN C 16 + 137000 - PotN LN) / 35) by omega) (show n5543 + 0 ≤ (336 * sumN C 16 + 137000 - PotN LN) by omega) (fun H1 locs hL hqr5546 => ?_)
      obtain ⟨hT1, hF1⟩ := hqr5546
      have hP : va_P D vwCl [(w, .inr (8, [.ref (cs 450), .ref (cs 440), .ref (cs 441), .ref f5544_3, .int f5544_4, .int f5544_5, .int f5544_6]))] _ := hF1.hP (hP.sub [0] rfl) (fa_c ⟨by rw [hw.1]; decide, by rw [hw.2]; first | decide | (simp; done) | (simp [h15a, h15b, h15c]; done) | (simp; omega)⟩ fa_n)
      have hR := hR.fr hT trivial hF1 (by decide)
      have hT := hT1
      refine lv_iload hx hb dX8_cut_57 (lv_at hl 0 rfl) ?_
      refine W.know (fun hg => ?_)
      rw [hH0] at hg
      exact vx_ret (en_i hx hb hr hlocks hL rfl (show k5542 ≤ ((336 * sumN C 16 + 137000 - PotN LN) / 35) by omega) (show n5543 ≤ (336 * sumN C 16 + 137000 - PotN LN) by omega) dX8_cut_59 (⟨_, hKW, hT, C, _, _, _, Nat.le_add_right _ _, hR, ⟨hg, hGN⟩⟩))
    · refine lv_istore (lv' := [(4, .int 1), (0, .ref w), (1, .int x), (2, .int y), (3, .int b_z)]) hx hb dX8_cut_45 hl (by decide) rfl (fun ls hl => ?_)
      refine lv_aload_n hx hb dX8_cut_47 rfl (lv_at hl 1 rfl) ?_
      refine va_get (D := D) (ci := 8) (v := .ref (cs 440)) (C := RX8) (T := TX8) (N := 7) hx hb hts iX8_cut_8 hown hN.1 hP 0 rfl rfl 1 (by decide) (hts _ mX8_cut_3) (fun _ h9 => h9) rfl dX8_cut_48 ?_
      refine lv_iload_n hx hb dX8_cut_51 rfl (lv_at hl 2 rfl) ?_
      refine lv_iload_n hx hb dX8_cut_52 rfl (lv_at hl 3 rfl) ?_
      refine lv_iload_n hx hb dX8_cut_53 rfl (lv_at hl 4 rfl) ?_
      refine cv_v (As := [.int x, .int y, .int b_z]) (rest := []) (b := (cs 440)) ⟨hx, hb, hml, hown, hts⟩ (c_X7_setCut hT (w := (cs 440)) t5544_1 (x := x) (y := y) (z := b_z)) (cwV 3 hts gX8_cut_X7_setCut rfl rfl rfl hdX7_setCut_v ⟨Nat.le_of_ble_eq_true rfl, Nat.le_of_ble_eq_true rfl⟩) hN hE hL (rcv8 hN hT t5544_1.1) rfl rfl hl.1 (Nat.le_of_ble_eq_true rfl) dX8_cut_54 (show k5542 + 0 ≤ ((336 * sumN C 16 + 137000 - PotN LN) / 35) by omega) (show n5543 + 0 ≤ (336 * sumN C 16 + 137000 - PotN LN) by omega) (fun H1 locs hL hqr5547 => ?_)
      obtain ⟨hT1, hF1⟩ := hqr5547
      have hP : va_P D vwCl [(w, .inr (8, [.ref (cs 450), .ref (cs 440), .ref (cs 441), .ref f5544_3, .int f5544_4, .int f5544_5, .int f5544_6]))] _ := hF1.hP (hP.sub [0] rfl) (fa_c ⟨by rw [hw.1]; decide, by rw [hw.2]; first | decide | (simp; done) | (simp [h15a, h15b, h15c]; done) | (simp; omega)⟩ fa_n)
      have hR := hR.fr hT trivial hF1 (by decide)
      have hT := hT1
      refine lv_iload hx hb dX8_cut_57 (lv_at hl 0 rfl) ?_
      refine W.know (fun hg => ?_)
      rw [hH0] at hg
      exact vx_ret (en_i hx hb hr hlocks hL rfl (show k5542 ≤ ((336 * sumN C 16 + 137000 - PotN LN) / 35) by omega) (show n5543 ≤ (336 * sumN C 16 + 137000 - PotN LN) by omega) dX8_cut_59 (⟨_, hKW, hT, C, _, _, _, Nat.le_add_right _ _, hR, ⟨hg, hGN⟩⟩))
  · have c5535 : n5533 = 0 := (nI_eq (a := n5533) (b := 0) (by omega) (by omega)).mp c5535
    exact tx_up (Qu := fun E1 H1 => E1 = "java/lang/IllegalStateException" ∧ H0.size ≤ H1.size ∧ ∀ q : Nat, q < H0.size → H1[q]? = H0[q]?) (tx_g2 (Qo := fun _ _ => False) (E := "java/lang/IllegalStateException") 1 hx hb hlt hown hN (by decide +kernel) (hts _ mX8_cut_1) (hts _ mX8_cut_2) (hN.s 18 rfl) rfl (fun w h => hts w (xgX8_cut_186_1 w h)) xnRX8_186_1 xdRX8_186_1 xoRX8_182_186_1 hE.1 (by rw [hH0]; exact ⟨Nat.le_refl _, fun _ _ _ => rfl, hL⟩) (fun H1 g1 g2 => ⟨rfl, g1, g2⟩) hl hml dX8_cut_22 dX8_cut_25 dX8_cut_26 dX8_cut_28 dX8_cut_31 hnx (Nat.le_of_ble_eq_true rfl) (Nat.le_of_ble_eq_true rfl) (show 0 + 1 ≤ ((336 * sumN C 16 + 137000 - PotN LN) / 35) by omega) (show 0 + 6 ≤ (336 * sumN C 16 + 137000 - PotN LN) by omega) hlocks (Nat.le_refl _) (Nat.le_refl _)) hH0 (show 1 ≤ ((336 * sumN C 16 + 137000 - PotN LN) / 35) by omega) (show 6 ≤ (336 * sumN C 16 + 137000 - PotN LN) by omega) (fun E1 H1 g g3 => ⟨by rw [g.1]; simp, g.2.1, g.2.2, g3⟩)
theorem mX8_lead_1 : (.fieldLink RX8 19 "OneBeat" "now" "LOneBeat$World;" : Cond) ∈ wsX8_lead := List.mem_of_getElem? (i := 1) (by decide +kernel)
theorem iX8_lead_8 : ∀ w ∈ wsX80, w ∈ wsX8_lead := fun w h => List.mem_of_mem_drop (List.mem_of_mem_take ((show wsX80 = (wsX8_lead.drop 88).take 7 by decide +kernel) ▸ h))
theorem iX8_lead_7 : ∀ w ∈ wsX70, w ∈ wsX8_lead := fun w h => List.mem_of_mem_drop (List.mem_of_mem_take ((show wsX70 = (wsX8_lead.drop 95).take 16 by decide +kernel) ▸ h))
theorem hdX7_makeConductor_v : yX7_makeConductor.cls = RX7 ∧ yX7_makeConductor.cls ≠ "java/lang/invoke/MethodHandle" ∧ yX7_makeConductor.cls ≠ "java/lang/invoke/VarHandle" ∧ (parseMethodDescriptor yX7_makeConductor.desc).map (fun d => d.parameters.length) = some 1 := by decide +kernel
set_option maxHeartbeats 4000000 in
set_option maxRecDepth 100000 in
theorem c_X8_lead {l : Launch} (hlt : l.stackTraces = false) {D : va_G} {cs : Nat → ClassId} {B0 T : Nat} {κ : KM} {H0 : Heap} (hT : WT B0 D cs T κ H0) {w : Nat} (hw : T2 κ w 9 13) {C : Nat → Nat} {LN : Nat → Nat → Nat} (hR : RQ D cs κ H0 C LN er) {x : Int32} : KT l yX8_lead wsX8_lead 7 126 ((336 * sumN C 16 + 137000 - PotN LN) / 35) (336 * sumN C 16 + 137000 - PotN LN) D cs B0 H0 [.ref w, .int x] (Qi (fun _ H => ∃ κ1, KW κ κ1 ∧ WT B0 D cs T κ1 H ∧ ∃ C1 LN1 k n, sumN C1 16 ≤ sumN C 16 + 24 ∧ RQ D cs κ1 H C1 LN1 er ∧ GQ H0 H LN LN1 k n)) (TQ ["java/lang/IndexOutOfBoundsException"] H0) := by
  refine KT.of cX8_lead 3 (some .int) (by decide) rfl (Nat.le_of_ble_eq_true rfl) ?_
  intro p e s m below meth c ls hx hb hr hml hown hts hlocks hnx hN hE hH0 hl
  have hown : s.vm.findClass RX8 = some m.cls := hown
  have hl : lv_has ls 3 [(0, .ref w), (1, .int x)] := hl
  have hL : OkL B0 [] := OkL.nil
  have hGN : 35 * 0 ≤ 0 ∧ 0 + PotN LN ≤ PotN LN := ⟨Nat.le_refl _, by omega⟩
  have hs0 := hR.pot
  refine lv_aload_n hx hb dX8_lead_0 rfl (lv_at hl 0 rfl) ?_
  refine lv_iload_n hx hb dX8_lead_1 rfl (lv_at hl 1 rfl) ?_
  refine ct_V (As := [.int x]) (rest := []) (b := w) ⟨hx, hb, hml, hown, hts⟩ (c_X8_refuseNoPlayer hlt hT (w := w) hw (x := x)) (cwV 1 hts gX8_lead_X8_refuseNoPlayer rfl rfl rfl hdX8_refuseNoPlayer_v ⟨Nat.le_of_ble_eq_true rfl, Nat.le_of_ble_eq_true rfl⟩) hN hE hL (rcv9 hN hT hw.1) rfl rfl hl.1 (Nat.le_of_ble_eq_true rfl) dX8_lead_2 (show 0 + 1 ≤ ((336 * sumN C 16 + 137000 - PotN LN) / 35) by omega) (show 0 + 6 ≤ (336 * sumN C 16 + 137000 - PotN LN) by omega) (fun E9 q9 ce9 H1 locs hL hq h1 h2 h3 => ct_up hnx hlocks h1 h2 h3 (hq.mono (by decide +kernel)) hL (show 0 + 1 ≤ ((336 * sumN C 16 + 137000 - PotN LN) / 35) by omega) (show 0 + 6 ≤ (336 * sumN C 16 + 137000 - PotN LN) by omega)) (fun v9 H1 locs hL hqr5548 => ?_)
  obtain ⟨rfl, hqr5548⟩ := hqr5548
  refine W.eq (g2 := F0 m 5 ls []) rfl ?_
  obtain rfl := hqr5548.symm
  refine W.tight (k := 0) (n := 0) (by rw [hH0]; exact Gr.rf) ?_
  refine lv_aload_n hx hb dX8_lead_5 rfl (lv_at hl 0 rfl) ?_
  refine W.know (fun hgb => ?_)
  rw [hH0] at hgb
  refine cv_v (As := []) (rest := []) (b := w) ⟨hx, hb, hml, hown, hts⟩ (c_X8_keepForUndo hT (w := w) hw hR) (cwV 0 hts gX8_lead_X8_keepForUndo rfl rfl rfl hdX8_keepForUndo_v ⟨Nat.le_of_ble_eq_true rfl, Nat.le_of_ble_eq_true rfl⟩) hN hE hL (rcv9 hN hT hw.1) rfl rfl hl.1 (Nat.le_of_ble_eq_true rfl) dX8_lead_6 (show 0 + ((336 * sumN C 16 + 137000 - PotN LN) / 35) ≤ ((336 * sumN C 16 + 137000 - PotN LN) / 35) by omega) (show 0 + (336 * sumN C 16 + 137000 - PotN LN) ≤ (336 * sumN C 16 + 137000 - PotN LN) by omega) (fun H1 locs hL hqr5549 => ?_)
  obtain ⟨κr5549, hxr5549, hT1, hqr5549⟩ := hqr5549
  have hxfr5549 := hxr5549.1
  have hT := hT1
  have hKF : KF κ κr5549 := hxfr5549
  have hKW : KW κ κr5549 := hxr5549
  have hw := (KF.t2 hxfr5549 hw (by decide))
  obtain ⟨L5550, k5551, n5552, r5553, g5554⟩ := hqr5549
  have hR := r5553
  obtain ⟨k5555, n5556, hGP⟩ : ∃ k9 n9, GQ H0 _ LN L5550 k9 n9 := ⟨_, _, GQ.tr (show GQ H0 _ LN LN _ _ from ⟨hgb, hGN⟩) g5554⟩
  refine W.tight (k := k5555) (n := n5556) (by rw [hH0]; exact hGP.1) ?_
  have hGN : 35 * k5555 ≤ n5556 ∧ n5556 + PotN LN ≤ PotN L5550 := hGP.2
  have hgk5555 := hGN.1
  have hgn5556 := hGN.2
  have hsk5555 := hR.pot
  refine lv_aload_n hx hb dX8_lead_9 rfl (lv_at hl 0 rfl) ?_
  obtain ⟨hb5557, e5557, hat5557, hk5557⟩ := hT.o9 hw.1
  obtain ⟨f5557_0, f5557_1, f5557_2, f5557_3, f5557_4, f5557_5, f5557_6, rfl, t5557_0, t5557_1, t5557_2, t5557_3, rfl, rfl, rfl⟩ := hk5557
  have hP : va_P D vwCl [(w, .inr (8, [.ref (cs 450), .ref (cs 440), .ref (cs 441), .ref f5557_3, .int f5557_4, .int f5557_5, .int f5557_6]))] _ := va_P.cons hat5557 va_P.nil
  refine va_get (D := D) (ci := 8) (v := .ref (cs 440)) (C := RX8) (T := TX8) (N := 7) hx hb hts iX8_lead_8 hown hN.1 hP 0 rfl rfl 1 (by decide) (hts _ mX8_lead_1) (fun _ h9 => h9) rfl dX8_lead_10 ?_
  obtain ⟨hb5558, e5558, hat5558, hk5558⟩ := hT.o8 t5557_1.1
  obtain ⟨f5558_0, f5558_1, f5558_2, f5558_3, f5558_4, f5558_5, f5558_6, f5558_7, f5558_8, f5558_9, f5558_10, f5558_11, f5558_12, f5558_13, f5558_14, f5558_15, rfl, t5558_0, c5558_su, t5558_1, t5558_2, t5558_3, t5558_4, t5558_5, c5558_tm, c5558_lt, c5558_ml, c5558_pr, c5558_li⟩ := hk5558
  rw [t5557_1.2] at t5558_1
  rw [t5557_1.2] at t5558_2
  rw [t5557_1.2] at t5558_3
  rw [t5557_1.2] at t5558_4
  rw [t5557_1.2] at t5558_5
  rw [t5557_1.2] at c5558_lt c5558_ml c5558_pr c5558_li
  subst c5558_ml
  subst c5558_pr
  subst c5558_li
  have hP : va_P D vwCl [((cs 440), .inr (7, [.ref f5558_0, .ref f5558_1, .ref (cs (400 + 0)), .ref (cs (420 + 0)), .ref (cs (460 + 0)), .ref f5558_5, .long f5558_6, .int f5558_7, .int f5558_8, .int f5558_9, .int f5558_10, .int f5558_11, .int f5558_12, .int f5558_13, .int f5558_14, .int f5558_15])), (w, .inr (8, [.ref (cs 450), .ref (cs 440), .ref (cs 441), .ref f5557_3, .int f5557_4, .int f5557_5, .int f5557_6]))] _ := va_P.cons hat5558 hP
  refine va_getN (D := D) (ci := 7) (v := .int f5558_8) (C := RX7) (T := TX7) (N := 16) hx hb hts iX8_lead_7 hown hN.1 hP 0 rfl rfl 8 (by decide) (hN.f 49 rfl) (fun _ h9 => h9) rfl dX8_lead_13 ?_
  refine lv_istore_n (lv' := [(2, .int f5558_8), (0, .ref w), (1, .int x)]) hx hb dX8_lead_16 rfl hl (by decide) rfl (fun ls hl => ?_)
  refine lv_aload_n hx hb dX8_lead_17 rfl (lv_at hl 1 rfl) ?_
  refine va_get (D := D) (ci := 8) (v := .ref (cs 440)) (C := RX8) (T := TX8) (N := 7) hx hb hts iX8_lead_8 hown hN.1 hP 1 rfl rfl 1 (by decide) (hts _ mX8_lead_1) (fun _ h9 => h9) rfl dX8_lead_18 ?_
  refine lv_iload_n hx hb dX8_lead_21 rfl (lv_at hl 2 rfl) ?_
  refine cv_v (As := [.int x]) (rest := []) (b := (cs 440)) ⟨hx, hb, hml, hown, hts⟩ (c_X7_makeConductor hT (w := (cs 440)) t5557_1 (x := x)) (cwV 1 hts gX8_lead_X7_makeConductor rfl rfl rfl hdX7_makeConductor_v ⟨Nat.le_of_ble_eq_true rfl, Nat.le_of_ble_eq_true rfl⟩) hN hE hL (rcv8 hN hT t5557_1.1) rfl rfl hl.1 (Nat.le_of_ble_eq_true rfl) dX8_lead_22 (show k5555 + 0 ≤ ((336 * sumN C 16 + 137000 - PotN LN) / 35) by omega) (show n5556 + 0 ≤ (336 * sumN C 16 + 137000 - PotN LN) by omega) (fun H1 locs hL hqr5559 => ?_)
  obtain ⟨hT1, hF1⟩ := hqr5559
  have hP : va_P D vwCl [(w, .inr (8, [.ref (cs 450), .ref (cs 440), .ref (cs 441), .ref f5557_3, .int f5557_4, .int f5557_5, .int f5557_6]))] _ := hF1.hP (hP.sub [1] rfl) (fa_c ⟨by rw [hw.1]; decide, by rw [hw.2]; first | decide | (simp; done) | (simp [h15a, h15b, h15c]; done) | (simp; omega)⟩ fa_n)
  have hR := hR.fr hT trivial hF1 (by decide)
  have hT := hT1
  refine lv_iload_n hx hb dX8_lead_25 rfl (lv_at hl 0 rfl) ?_
  refine W.know (fun hg => ?_)
  rw [hH0] at hg
  exact vx_ret (en_i hx hb hr hlocks hL rfl (show k5555 ≤ ((336 * sumN C 16 + 137000 - PotN LN) / 35) by omega) (show n5556 ≤ (336 * sumN C 16 + 137000 - PotN LN) by omega) dX8_lead_26 (⟨_, hKW, hT, C, _, _, _, Nat.le_add_right _ _, hR, ⟨hg, hGN⟩⟩))
theorem mX8_ask_3 : (.fieldLink RX8 19 "OneBeat" "now" "LOneBeat$World;" : Cond) ∈ wsX8_ask := List.mem_of_getElem? (i := 3) (by decide +kernel)
theorem iX8_ask_8 : ∀ w ∈ wsX80, w ∈ wsX8_ask := fun w h => List.mem_of_mem_drop (List.mem_of_mem_take ((show wsX80 = (wsX8_ask.drop 124).take 7 by decide +kernel) ▸ h))
theorem iX8_ask_3 : ∀ w ∈ wsX30, w ∈ wsX8_ask := fun w h => List.mem_of_mem_drop (List.mem_of_mem_take ((show wsX30 = (wsX8_ask.drop 131).take 10 by decide +kernel) ▸ h))
theorem xgX8_ask_186_1 : ∀ w ∈ (vx_atS RX8 186 "java/lang/IllegalStateException" ["java/lang/RuntimeException", "java/lang/Exception"]).filter goodWord, w ∈ wsX8_ask := fun w h => by unfold wsX8_ask; exact List.mem_cons_of_mem _ (List.mem_append_left _ (List.mem_append_right _ h))
theorem mX8_ask_1 : (.classLink RX8 182 "java/lang/IllegalStateException" : Cond) ∈ wsX8_ask := List.mem_of_getElem? (i := 1) (by decide +kernel)
theorem mX8_ask_2 : (.initialized "java/lang/IllegalStateException" : Cond) ∈ wsX8_ask := List.mem_of_getElem? (i := 2) (by decide +kernel)
theorem iX8_ask_7 : ∀ w ∈ wsX70, w ∈ wsX8_ask := fun w h => List.mem_of_mem_drop (List.mem_of_mem_take ((show wsX70 = (wsX8_ask.drop 141).take 16 by decide +kernel) ▸ h))
theorem hdX7_sendAsk_v : yX7_sendAsk.cls = RX7 ∧ yX7_sendAsk.cls ≠ "java/lang/invoke/MethodHandle" ∧ yX7_sendAsk.cls ≠ "java/lang/invoke/VarHandle" ∧ (parseMethodDescriptor yX7_sendAsk.desc).map (fun d => d.parameters.length) = some 1 := by decide +kernel
set_option maxHeartbeats 4000000 in
set_option maxRecDepth 100000 in
theorem c_X8_ask {l : Launch} (hlt : l.stackTraces = false) {D : va_G} {cs : Nat → ClassId} {B0 T : Nat} {κ : KM} {H0 : Heap} (hT : WT B0 D cs T κ H0) {w : Nat} (hw : T2 κ w 9 13) {C : Nat → Nat} {LN : Nat → Nat → Nat} (hR : RQ D cs κ H0 C LN er) {x : Int32} (hC : sumN C 16 + 24 ≤ 12400) : KT l yX8_ask wsX8_ask 7 134 ((336 * sumN C 16 + 137000 - PotN LN) / 35) (336 * sumN C 16 + 137000 - PotN LN) D cs B0 H0 [.ref w, .int x] (Qi (fun _ H => ∃ κ1, KW κ κ1 ∧ WT B0 D cs T κ1 H ∧ ∃ C1 LN1 k n, sumN C1 16 ≤ sumN C 16 + 24 ∧ RQ D cs κ1 H C1 LN1 er ∧ GQ H0 H LN LN1 k n)) (TQ ["java/lang/IndexOutOfBoundsException", "java/lang/IllegalStateException"] H0) := by
  refine KT.of cX8_ask 2 (some .boolean) (by decide) rfl (Nat.le_of_ble_eq_true rfl) ?_
  intro p e s m below meth c ls hx hb hr hml hown hts hlocks hnx hN hE hH0 hl
  have hown : s.vm.findClass RX8 = some m.cls := hown
  have hl : lv_has ls 2 [(0, .ref w), (1, .int x)] := hl
  have hL : OkL B0 [] := OkL.nil
  have hGN : 35 * 0 ≤ 0 ∧ 0 + PotN LN ≤ PotN LN := ⟨Nat.le_refl _, by omega⟩
  have hs0 := hR.pot
  refine lv_aload_n hx hb dX8_ask_0 rfl (lv_at hl 0 rfl) ?_
  refine lv_iload_n hx hb dX8_ask_1 rfl (lv_at hl 1 rfl) ?_
  refine ct_V (As := [.int x]) (rest := []) (b := w) ⟨hx, hb, hml, hown, hts⟩ (c_X8_refuseNoPlayer hlt hT (w := w) hw (x := x)) (cwV 1 hts gX8_ask_X8_refuseNoPlayer rfl rfl rfl hdX8_refuseNoPlayer_v ⟨Nat.le_of_ble_eq_true rfl, Nat.le_of_ble_eq_true rfl⟩) hN hE hL (rcv9 hN hT hw.1) rfl rfl hl.1 (Nat.le_of_ble_eq_true rfl) dX8_ask_2 (show 0 + 1 ≤ ((336 * sumN C 16 + 137000 - PotN LN) / 35) by omega) (show 0 + 6 ≤ (336 * sumN C 16 + 137000 - PotN LN) by omega) (fun E9 q9 ce9 H1 locs hL hq h1 h2 h3 => ct_up hnx hlocks h1 h2 h3 (hq.mono (by decide +kernel)) hL (show 0 + 1 ≤ ((336 * sumN C 16 + 137000 - PotN LN) / 35) by omega) (show 0 + 6 ≤ (336 * sumN C 16 + 137000 - PotN LN) by omega)) (fun v9 H1 locs hL hqr5560 => ?_)
  obtain ⟨rfl, hqr5560⟩ := hqr5560
  refine W.eq (g2 := F0 m 5 ls []) rfl ?_
  obtain rfl := hqr5560.symm
  refine W.tight (k := 0) (n := 0) (by rw [hH0]; exact Gr.rf) ?_
  refine lv_aload_n hx hb dX8_ask_5 rfl (lv_at hl 0 rfl) ?_
  obtain ⟨hb5561, e5561, hat5561, hk5561⟩ := hT.o9 hw.1
  obtain ⟨f5561_0, f5561_1, f5561_2, f5561_3, f5561_4, f5561_5, f5561_6, rfl, t5561_0, t5561_1, t5561_2, t5561_3, rfl, rfl, rfl⟩ := hk5561
  have hP : va_P D vwCl [(w, .inr (8, [.ref (cs 450), .ref (cs 440), .ref (cs 441), .ref f5561_3, .int f5561_4, .int f5561_5, .int f5561_6]))] _ := va_P.cons hat5561 va_P.nil
  refine va_get (D := D) (ci := 8) (v := .ref (cs 440)) (C := RX8) (T := TX8) (N := 7) hx hb hts iX8_ask_8 hown hN.1 hP 0 rfl rfl 1 (by decide) (hts _ mX8_ask_3) (fun _ h9 => h9) rfl dX8_ask_6 ?_
  refine lv_iload_n hx hb dX8_ask_9 rfl (lv_at hl 1 rfl) ?_
  refine cv_r (As := [.int x]) (rest := []) (b := (cs 440)) ⟨hx, hb, hml, hown, hts⟩ (c_X7_at hT (w := (cs 440)) t5561_1 (x := x)) (cwV 1 hts gX8_ask_X7_at rfl rfl rfl hdX7_at_v ⟨Nat.le_of_ble_eq_true rfl, Nat.le_of_ble_eq_true rfl⟩) hN hE hL (rcv8 hN hT t5561_1.1) rfl rfl hl.1 (Nat.le_of_ble_eq_true rfl) dX8_ask_10 (Nat.zero_le _) (Nat.zero_le _) (fun r5562 H1 locs hL hqr5562 => ?_)
  obtain ⟨h9, hqr5562⟩ := hqr5562; replace h9 := h9.symm; subst h9
  obtain ⟨hb5563, e5563, hat5563, hk5563⟩ := hT.o4 hqr5562.1
  obtain ⟨f5563_0, f5563_1, f5563_2, f5563_3, f5563_4, f5563_5, f5563_6, f5563_7, f5563_8, f5563_9, rfl, c5563_up⟩ := hk5563
  have hP : va_P D vwCl [(r5562, .inr (3, [.int f5563_0, .int f5563_1, .int f5563_2, .int f5563_3, .int f5563_4, .int f5563_5, .int f5563_6, .int f5563_7, .int f5563_8, .int f5563_9])), (w, .inr (8, [.ref (cs 450), .ref (cs 440), .ref (cs 441), .ref f5561_3, .int f5561_4, .int f5561_5, .int f5561_6]))] _ := va_P.cons hat5563 hP
  refine va_getN (D := D) (ci := 3) (v := .int f5563_0) (C := RX3) (T := TX3) (N := 10) hx hb hts iX8_ask_3 hown hN.1 hP 0 rfl rfl 0 (by decide) (hN.f 28 rfl) (fun _ h9 => h9) rfl dX8_ask_13 ?_
  refine lv_if_eq (tgt := 30) hx hb dX8_ask_16 (by decide) (fun c5564 => ?_) (fun c5564 => ?_)
  · exact tx_up (Qu := fun E1 H1 => E1 = "java/lang/IllegalStateException" ∧ H0.size ≤ H1.size ∧ ∀ q : Nat, q < H0.size → H1[q]? = H0[q]?) (tx_g2 (Qo := fun _ _ => False) (E := "java/lang/IllegalStateException") 1 hx hb hlt hown hN (by decide +kernel) (hts _ mX8_ask_1) (hts _ mX8_ask_2) (hN.s 16 rfl) rfl (fun w h => hts w (xgX8_ask_186_1 w h)) xnRX8_186_1 xdRX8_186_1 xoRX8_182_186_1 hE.1 (by rw [hH0]; exact ⟨Nat.le_refl _, fun _ _ _ => rfl, hL⟩) (fun H1 g1 g2 => ⟨rfl, g1, g2⟩) hl hml dX8_ask_30 dX8_ask_33 dX8_ask_34 dX8_ask_36 dX8_ask_39 hnx (Nat.le_of_ble_eq_true rfl) (Nat.le_of_ble_eq_true rfl) (show 0 + 1 ≤ ((336 * sumN C 16 + 137000 - PotN LN) / 35) by omega) (show 0 + 6 ≤ (336 * sumN C 16 + 137000 - PotN LN) by omega) hlocks (Nat.le_refl _) (Nat.le_refl _)) hH0 (show 1 ≤ ((336 * sumN C 16 + 137000 - PotN LN) / 35) by omega) (show 6 ≤ (336 * sumN C 16 + 137000 - PotN LN) by omega) (fun E1 H1 g g3 => ⟨by rw [g.1]; simp, g.2.1, g.2.2, g3⟩)
  · refine lv_iload_n hx hb dX8_ask_19 rfl (lv_at hl 1 rfl) ?_
    refine lv_aload_n hx hb dX8_ask_20 rfl (lv_at hl 0 rfl) ?_
    refine va_get (D := D) (ci := 8) (v := .ref (cs 440)) (C := RX8) (T := TX8) (N := 7) hx hb hts iX8_ask_8 hown hN.1 hP 1 rfl rfl 1 (by decide) (hts _ mX8_ask_3) (fun _ h9 => h9) rfl dX8_ask_21 ?_
    obtain ⟨hb5565, e5565, hat5565, hk5565⟩ := hT.o8 t5561_1.1
    obtain ⟨f5565_0, f5565_1, f5565_2, f5565_3, f5565_4, f5565_5, f5565_6, f5565_7, f5565_8, f5565_9, f5565_10, f5565_11, f5565_12, f5565_13, f5565_14, f5565_15, rfl, t5565_0, c5565_su, t5565_1, t5565_2, t5565_3, t5565_4, t5565_5, c5565_tm, c5565_lt, c5565_ml, c5565_pr, c5565_li⟩ := hk5565
    rw [t5561_1.2] at t5565_1
    rw [t5561_1.2] at t5565_2
    rw [t5561_1.2] at t5565_3
    rw [t5561_1.2] at t5565_4
    rw [t5561_1.2] at t5565_5
    rw [t5561_1.2] at c5565_lt c5565_ml c5565_pr c5565_li
    subst c5565_ml
    subst c5565_pr
    subst c5565_li
    have hP : va_P D vwCl [((cs 440), .inr (7, [.ref f5565_0, .ref f5565_1, .ref (cs (400 + 0)), .ref (cs (420 + 0)), .ref (cs (460 + 0)), .ref f5565_5, .long f5565_6, .int f5565_7, .int f5565_8, .int f5565_9, .int f5565_10, .int f5565_11, .int f5565_12, .int f5565_13, .int f5565_14, .int f5565_15])), (r5562, .inr (3, [.int f5563_0, .int f5563_1, .int f5563_2, .int f5563_3, .int f5563_4, .int f5563_5, .int f5563_6, .int f5563_7, .int f5563_8, .int f5563_9])), (w, .inr (8, [.ref (cs 450), .ref (cs 440), .ref (cs 441), .ref f5561_3, .int f5561_4, .int f5561_5, .int f5561_6]))] _ := va_P.cons hat5565 hP
    refine va_getN (D := D) (ci := 7) (v := .int f5565_8) (C := RX7) (T := TX7) (N := 16) hx hb hts iX8_ask_7 hown hN.1 hP 0 rfl rfl 8 (by decide) (hN.f 49 rfl) (fun _ h9 => h9) rfl dX8_ask_24 ?_
    refine lv_icmp_ne (tgt := 40) hx hb dX8_ask_27 (by decide) (fun c5566 => ?_) (fun c5566 => ?_)
    · refine lv_aload_n hx hb dX8_ask_40 rfl (lv_at hl 0 rfl) ?_
      refine W.know (fun hgb => ?_)
      rw [hH0] at hgb
      refine cv_v (As := []) (rest := []) (b := w) ⟨hx, hb, hml, hown, hts⟩ (c_X8_keepForUndo hT (w := w) hw hR) (cwV 0 hts gX8_ask_X8_keepForUndo rfl rfl rfl hdX8_keepForUndo_v ⟨Nat.le_of_ble_eq_true rfl, Nat.le_of_ble_eq_true rfl⟩) hN hE hL (rcv9 hN hT hw.1) rfl rfl hl.1 (Nat.le_of_ble_eq_true rfl) dX8_ask_41 (show 0 + ((336 * sumN C 16 + 137000 - PotN LN) / 35) ≤ ((336 * sumN C 16 + 137000 - PotN LN) / 35) by omega) (show 0 + (336 * sumN C 16 + 137000 - PotN LN) ≤ (336 * sumN C 16 + 137000 - PotN LN) by omega) (fun H1 locs hL hqr5567 => ?_)
      obtain ⟨κr5567, hxr5567, hT1, hqr5567⟩ := hqr5567
      have hxfr5567 := hxr5567.1
      have hT := hT1
      have hKF : KF κ κr5567 := hxfr5567
      have hKW : KW κ κr5567 := hxr5567
      have hw := (KF.t2 hxfr5567 hw (by decide))
      obtain ⟨L5568, k5569, n5570, r5571, g5572⟩ := hqr5567
      have hR := r5571
      obtain ⟨k5573, n5574, hGP⟩ : ∃ k9 n9, GQ H0 _ LN L5568 k9 n9 := ⟨_, _, GQ.tr (show GQ H0 _ LN LN _ _ from ⟨hgb, hGN⟩) g5572⟩
      refine W.tight (k := k5573) (n := n5574) (by rw [hH0]; exact hGP.1) ?_
      have hGN : 35 * k5573 ≤ n5574 ∧ n5574 + PotN LN ≤ PotN L5568 := hGP.2
      have hgk5573 := hGN.1
      have hgn5574 := hGN.2
      have hsk5573 := hR.pot
      refine lv_aload_n hx hb dX8_ask_44 rfl (lv_at hl 0 rfl) ?_
      obtain ⟨hb5575, e5575, hat5575, hk5575⟩ := hT.o9 hw.1
      obtain ⟨f5575_0, f5575_1, f5575_2, f5575_3, f5575_4, f5575_5, f5575_6, rfl, t5575_0, t5575_1, t5575_2, t5575_3, rfl, rfl, rfl⟩ := hk5575
      have hP : va_P D vwCl [(w, .inr (8, [.ref (cs 450), .ref (cs 440), .ref (cs 441), .ref f5575_3, .int f5575_4, .int f5575_5, .int f5575_6]))] _ := va_P.cons hat5575 va_P.nil
      refine va_get (D := D) (ci := 8) (v := .ref (cs 440)) (C := RX8) (T := TX8) (N := 7) hx hb hts iX8_ask_8 hown hN.1 hP 0 rfl rfl 1 (by decide) (hts _ mX8_ask_3) (fun _ h9 => h9) rfl dX8_ask_45 ?_
      refine lv_iload_n hx hb dX8_ask_48 rfl (lv_at hl 1 rfl) ?_
      refine W.know (fun hgb => ?_)
      rw [hH0] at hgb
      refine cv_i (As := [.int x]) (rest := []) (b := (cs 440)) ⟨hx, hb, hml, hown, hts⟩ (c_X7_sendAsk_dr hT (i := 0) (by omega) hR rfl) (cwV 1 hts gX8_ask_X7_sendAsk rfl rfl rfl hdX7_sendAsk_v ⟨Nat.le_of_ble_eq_true rfl, Nat.le_of_ble_eq_true rfl⟩) hN hE hL (rcv8 hN hT t5575_1.1) rfl rfl hl.1 (Nat.le_of_ble_eq_true rfl) dX8_ask_49 (show k5573 + ((56 * sumN C 16 + 22407 - 2 * sumN (L5568 0) 16) / 35) ≤ ((336 * sumN C 16 + 137000 - PotN LN) / 35) by omega) (show n5574 + (56 * sumN C 16 + 22407 - 2 * sumN (L5568 0) 16) ≤ (336 * sumN C 16 + 137000 - PotN LN) by omega) (fun r5576 H1 locs hL hqr5576 => ?_)
      obtain ⟨κr5576, hxr5576, hT1, hF1, hqr5576⟩ := hqr5576
      have hxfr5576 := hxr5576.1
      have hT := hT1
      have hKF := hKF.tr hxfr5576
      have hKW : KW κ κr5576 := hKW.tr (hxr5576.w (by omega))
      have hw := (KF.t2 hxfr5576 hw (by decide))
      obtain ⟨L5577, k5578, n5579, r5580, g5581, b5582⟩ := hqr5576
      have hR := r5580
      obtain ⟨k5583, n5584, hGP⟩ : ∃ k9 n9, GQ H0 _ LN L5577 k9 n9 := ⟨_, _, GQ.tr (show GQ H0 _ LN L5568 _ _ from ⟨hgb, hGN⟩) g5581⟩
      refine W.tight (k := k5583) (n := n5584) (by rw [hH0]; exact hGP.1) ?_
      have hGN : 35 * k5583 ≤ n5584 ∧ n5584 + PotN LN ≤ PotN L5577 := hGP.2
      have hgk5583 := hGN.1
      have hgn5584 := hGN.2
      have hsk5583 := hR.pot
      refine W.know (fun hg => ?_)
      rw [hH0] at hg
      obtain ⟨C1, hC1, hR1⟩ := hR.rest (by decide) (by decide) (fun i h2 h3 => er_2 h2) hC
      exact vx_ret (en_i hx hb hr hlocks hL (nb b5582) (show k5583 ≤ ((336 * sumN C 16 + 137000 - PotN LN) / 35) by omega) (show n5584 ≤ (336 * sumN C 16 + 137000 - PotN LN) by omega) dX8_ask_52 (⟨_, hKW, hT, C1, _, _, _, hC1, hR1, ⟨hg, hGN⟩⟩))
    · exact tx_up (Qu := fun E1 H1 => E1 = "java/lang/IllegalStateException" ∧ H0.size ≤ H1.size ∧ ∀ q : Nat, q < H0.size → H1[q]? = H0[q]?) (tx_g2 (Qo := fun _ _ => False) (E := "java/lang/IllegalStateException") 1 hx hb hlt hown hN (by decide +kernel) (hts _ mX8_ask_1) (hts _ mX8_ask_2) (hN.s 16 rfl) rfl (fun w h => hts w (xgX8_ask_186_1 w h)) xnRX8_186_1 xdRX8_186_1 xoRX8_182_186_1 hE.1 (by rw [hH0]; exact ⟨Nat.le_refl _, fun _ _ _ => rfl, hL⟩) (fun H1 g1 g2 => ⟨rfl, g1, g2⟩) hl hml dX8_ask_30 dX8_ask_33 dX8_ask_34 dX8_ask_36 dX8_ask_39 hnx (Nat.le_of_ble_eq_true rfl) (Nat.le_of_ble_eq_true rfl) (show 0 + 1 ≤ ((336 * sumN C 16 + 137000 - PotN LN) / 35) by omega) (show 0 + 6 ≤ (336 * sumN C 16 + 137000 - PotN LN) by omega) hlocks (Nat.le_refl _) (Nat.le_refl _)) hH0 (show 1 ≤ ((336 * sumN C 16 + 137000 - PotN LN) / 35) by omega) (show 6 ≤ (336 * sumN C 16 + 137000 - PotN LN) by omega) (fun E1 H1 g g3 => ⟨by rw [g.1]; simp, g.2.1, g.2.2, g3⟩)
theorem xgX8_propose_49_0 : ∀ w ∈ (vx_atS RX8 49 "java/lang/IllegalArgumentException" ["java/lang/RuntimeException", "java/lang/Exception"]).filter goodWord, w ∈ wsX8_propose := fun w h => by unfold wsX8_propose; exact List.mem_cons_of_mem _ (List.mem_append_left _ (List.mem_append_right _ h))
theorem mX8_propose_1 : (.classLink RX8 45 "java/lang/IllegalArgumentException" : Cond) ∈ wsX8_propose := List.mem_of_getElem? (i := 1) (by decide +kernel)
theorem mX8_propose_2 : (.initialized "java/lang/IllegalArgumentException" : Cond) ∈ wsX8_propose := List.mem_of_getElem? (i := 2) (by decide +kernel)
theorem mX8_propose_5 : (.fieldLink RX8 19 "OneBeat" "now" "LOneBeat$World;" : Cond) ∈ wsX8_propose := List.mem_of_getElem? (i := 5) (by decide +kernel)
theorem iX8_propose_8 : ∀ w ∈ wsX80, w ∈ wsX8_propose := fun w h => List.mem_of_mem_drop (List.mem_of_mem_take ((show wsX80 = (wsX8_propose.drop 180).take 7 by decide +kernel) ▸ h))
theorem hdX7_canPropose_v : yX7_canPropose.cls = RX7 ∧ yX7_canPropose.cls ≠ "java/lang/invoke/MethodHandle" ∧ yX7_canPropose.cls ≠ "java/lang/invoke/VarHandle" ∧ (parseMethodDescriptor yX7_canPropose.desc).map (fun d => d.parameters.length) = some 0 := by decide +kernel
theorem xgX8_propose_186_1 : ∀ w ∈ (vx_atS RX8 186 "java/lang/IllegalStateException" ["java/lang/RuntimeException", "java/lang/Exception"]).filter goodWord, w ∈ wsX8_propose := fun w h => by unfold wsX8_propose; exact List.mem_cons_of_mem _ (List.mem_append_right _ h)
theorem mX8_propose_3 : (.classLink RX8 182 "java/lang/IllegalStateException" : Cond) ∈ wsX8_propose := List.mem_of_getElem? (i := 3) (by decide +kernel)
theorem mX8_propose_4 : (.initialized "java/lang/IllegalStateException" : Cond) ∈ wsX8_propose := List.mem_of_getElem? (i := 4) (by decide +kernel)
theorem hdX7_startProposal_v : yX7_startProposal.cls = RX7 ∧ yX7_startProposal.cls ≠ "java/lang/invoke/MethodHandle" ∧ yX7_startProposal.cls ≠ "java/lang/invoke/VarHandle" ∧ (parseMethodDescriptor yX7_startProposal.desc).map (fun d => d.parameters.length) = some 2 := by decide +kernel
theorem iX8_propose_7 : ∀ w ∈ wsX70, w ∈ wsX8_propose := fun w h => List.mem_of_mem_drop (List.mem_of_mem_take ((show wsX70 = (wsX8_propose.drop 187).take 16 by decide +kernel) ▸ h))
theorem iX8_propose_4 : ∀ w ∈ wsX40, w ∈ wsX8_propose := fun w h => List.mem_of_mem_drop (List.mem_of_mem_take ((show wsX40 = (wsX8_propose.drop 203).take 8 by decide +kernel) ▸ h))
set_option maxHeartbeats 4000000 in
set_option maxRecDepth 100000 in
theorem c_X8_propose {l : Launch} (hlt : l.stackTraces = false) {D : va_G} {cs : Nat → ClassId} {B0 T : Nat} {κ : KM} {H0 : Heap} (hT : WT B0 D cs T κ H0) {w : Nat} (hw : T2 κ w 9 13) {C : Nat → Nat} {LN : Nat → Nat → Nat} (hR : RQ D cs κ H0 C LN er) {x : Int32} (hC : sumN C 16 + 24 ≤ 12400) : KT l yX8_propose wsX8_propose 6 177 ((336 * sumN C 16 + 137000 - PotN LN) / 35) (336 * sumN C 16 + 137000 - PotN LN) D cs B0 H0 [.ref w, .int x] (Qi (fun _ H => ∃ κ1, KW κ κ1 ∧ WT B0 D cs T κ1 H ∧ ∃ C1 LN1 k n, sumN C1 16 ≤ sumN C 16 + 24 ∧ RQ D cs κ1 H C1 LN1 er ∧ GQ H0 H LN LN1 k n)) (TQ ["java/lang/IllegalArgumentException", "java/lang/IllegalStateException"] H0) := by
  refine KT.of cX8_propose 2 (some .int) (by decide) rfl (Nat.le_of_ble_eq_true rfl) ?_
  intro p e s m below meth c ls hx hb hr hml hown hts hlocks hnx hN hE hH0 hl
  have hown : s.vm.findClass RX8 = some m.cls := hown
  have hl : lv_has ls 2 [(0, .ref w), (1, .int x)] := hl
  have hL : OkL B0 [] := OkL.nil
  have hGN : 35 * 0 ≤ 0 ∧ 0 + PotN LN ≤ PotN LN := ⟨Nat.le_refl _, by omega⟩
  have hs0 := hR.pot
  refine lv_iload_n hx hb dX8_propose_0 rfl (lv_at hl 1 rfl) ?_
  refine lv_if_lt (tgt := 10) hx hb dX8_propose_1 (by decide) (fun c5585 => ?_) (fun c5585 => ?_)
  · exact tx_up (Qu := fun E1 H1 => E1 = "java/lang/IllegalArgumentException" ∧ H0.size ≤ H1.size ∧ ∀ q : Nat, q < H0.size → H1[q]? = H0[q]?) (tx_g2 (Qo := fun _ _ => False) (E := "java/lang/IllegalArgumentException") 0 hx hb hlt hown hN (by decide +kernel) (hts _ mX8_propose_1) (hts _ mX8_propose_2) (hN.s 14 rfl) rfl (fun w h => hts w (xgX8_propose_49_0 w h)) xnRX8_49_0 xdRX8_49_0 xoRX8_45_49_0 hE.1 (by rw [hH0]; exact ⟨Nat.le_refl _, fun _ _ _ => rfl, hL⟩) (fun H1 g1 g2 => ⟨rfl, g1, g2⟩) hl hml dX8_propose_10 dX8_propose_13 dX8_propose_14 dX8_propose_16 dX8_propose_19 hnx (Nat.le_of_ble_eq_true rfl) (Nat.le_of_ble_eq_true rfl) (show 0 + 1 ≤ ((336 * sumN C 16 + 137000 - PotN LN) / 35) by omega) (show 0 + 6 ≤ (336 * sumN C 16 + 137000 - PotN LN) by omega) hlocks (Nat.le_refl _) (Nat.le_refl _)) hH0 (show 1 ≤ ((336 * sumN C 16 + 137000 - PotN LN) / 35) by omega) (show 6 ≤ (336 * sumN C 16 + 137000 - PotN LN) by omega) (fun E1 H1 g g3 => ⟨by rw [g.1]; simp, g.2.1, g.2.2, g3⟩)
  · refine lv_iload_n hx hb dX8_propose_4 rfl (lv_at hl 1 rfl) ?_
    refine lv_bipush (v := 99) hx hb dX8_propose_5 (by decide) ?_
    refine lv_icmp_le (tgt := 20) hx hb dX8_propose_7 (by decide) (fun c5586 => ?_) (fun c5586 => ?_)
    · refine lv_aload_n hx hb dX8_propose_20 rfl (lv_at hl 0 rfl) ?_
      obtain ⟨hb5587, e5587, hat5587, hk5587⟩ := hT.o9 hw.1
      obtain ⟨f5587_0, f5587_1, f5587_2, f5587_3, f5587_4, f5587_5, f5587_6, rfl, t5587_0, t5587_1, t5587_2, t5587_3, rfl, rfl, rfl⟩ := hk5587
      have hP : va_P D vwCl [(w, .inr (8, [.ref (cs 450), .ref (cs 440), .ref (cs 441), .ref f5587_3, .int f5587_4, .int f5587_5, .int f5587_6]))] _ := va_P.cons hat5587 va_P.nil
      refine va_get (D := D) (ci := 8) (v := .ref (cs 440)) (C := RX8) (T := TX8) (N := 7) hx hb hts iX8_propose_8 hown hN.1 hP 0 rfl rfl 1 (by decide) (hts _ mX8_propose_5) (fun _ h9 => h9) rfl dX8_propose_21 ?_
      refine cv_i (As := []) (rest := []) (b := (cs 440)) ⟨hx, hb, hml, hown, hts⟩ (c_X7_canPropose hT (w := (cs 440)) t5587_1) (cwV 0 hts gX8_propose_X7_canPropose rfl rfl rfl hdX7_canPropose_v ⟨Nat.le_of_ble_eq_true rfl, Nat.le_of_ble_eq_true rfl⟩) hN hE hL (rcv8 hN hT t5587_1.1) rfl rfl hl.1 (Nat.le_of_ble_eq_true rfl) dX8_propose_24 (Nat.zero_le _) (Nat.zero_le _) (fun r5588 H1 locs hL hqr5588 => ?_)
      obtain ⟨h9, hqr5588⟩ := hqr5588; replace h9 := h9.symm; subst h9
      rcases hqr5588 with rfl | rfl
      · refine lv_if_ne (tgt := 40) hx hb dX8_propose_27 (by decide) (fun c9 => absurd (by decide) c9) (fun _ => ?_)
        exact tx_up (Qu := fun E1 H1 => E1 = "java/lang/IllegalStateException" ∧ H0.size ≤ H1.size ∧ ∀ q : Nat, q < H0.size → H1[q]? = H0[q]?) (tx_g2 (Qo := fun _ _ => False) (E := "java/lang/IllegalStateException") 1 hx hb hlt hown hN (by decide +kernel) (hts _ mX8_propose_3) (hts _ mX8_propose_4) (hN.s 15 rfl) rfl (fun w h => hts w (xgX8_propose_186_1 w h)) xnRX8_186_1 xdRX8_186_1 xoRX8_182_186_1 hE.1 (by rw [hH0]; exact ⟨Nat.le_refl _, fun _ _ _ => rfl, hL⟩) (fun H1 g1 g2 => ⟨rfl, g1, g2⟩) hl hml dX8_propose_30 dX8_propose_33 dX8_propose_34 dX8_propose_36 dX8_propose_39 hnx (Nat.le_of_ble_eq_true rfl) (Nat.le_of_ble_eq_true rfl) (show 0 + 1 ≤ ((336 * sumN C 16 + 137000 - PotN LN) / 35) by omega) (show 0 + 6 ≤ (336 * sumN C 16 + 137000 - PotN LN) by omega) hlocks (Nat.le_refl _) (Nat.le_refl _)) hH0 (show 1 ≤ ((336 * sumN C 16 + 137000 - PotN LN) / 35) by omega) (show 6 ≤ (336 * sumN C 16 + 137000 - PotN LN) by omega) (fun E1 H1 g g3 => ⟨by rw [g.1]; simp, g.2.1, g.2.2, g3⟩)
      · refine lv_if_ne (tgt := 40) hx hb dX8_propose_27 (by decide) (fun _ => ?_) (fun c9 => absurd c9 (by decide))
        refine lv_aload_n hx hb dX8_propose_40 rfl (lv_at hl 0 rfl) ?_
        refine W.know (fun hgb => ?_)
        rw [hH0] at hgb
        refine cv_v (As := []) (rest := []) (b := w) ⟨hx, hb, hml, hown, hts⟩ (c_X8_keepForUndo hT (w := w) hw hR) (cwV 0 hts gX8_propose_X8_keepForUndo rfl rfl rfl hdX8_keepForUndo_v ⟨Nat.le_of_ble_eq_true rfl, Nat.le_of_ble_eq_true rfl⟩) hN hE hL (rcv9 hN hT hw.1) rfl rfl hl.1 (Nat.le_of_ble_eq_true rfl) dX8_propose_41 (show 0 + ((336 * sumN C 16 + 137000 - PotN LN) / 35) ≤ ((336 * sumN C 16 + 137000 - PotN LN) / 35) by omega) (show 0 + (336 * sumN C 16 + 137000 - PotN LN) ≤ (336 * sumN C 16 + 137000 - PotN LN) by omega) (fun H1 locs hL hqr5589 => ?_)
        obtain ⟨κr5589, hxr5589, hT1, hqr5589⟩ := hqr5589
        have hxfr5589 := hxr5589.1
        have hT := hT1
        have hKF : KF κ κr5589 := hxfr5589
        have hKW : KW κ κr5589 := hxr5589
        have hw := (KF.t2 hxfr5589 hw (by decide))
        obtain ⟨L5590, k5591, n5592, r5593, g5594⟩ := hqr5589
        have hR := r5593
        obtain ⟨k5595, n5596, hGP⟩ : ∃ k9 n9, GQ H0 _ LN L5590 k9 n9 := ⟨_, _, GQ.tr (show GQ H0 _ LN LN _ _ from ⟨hgb, hGN⟩) g5594⟩
        refine W.tight (k := k5595) (n := n5596) (by rw [hH0]; exact hGP.1) ?_
        have hGN : 35 * k5595 ≤ n5596 ∧ n5596 + PotN LN ≤ PotN L5590 := hGP.2
        have hgk5595 := hGN.1
        have hgn5596 := hGN.2
        have hsk5595 := hR.pot
        refine lv_aload_n hx hb dX8_propose_44 rfl (lv_at hl 0 rfl) ?_
        obtain ⟨hb5597, e5597, hat5597, hk5597⟩ := hT.o9 hw.1
        obtain ⟨f5597_0, f5597_1, f5597_2, f5597_3, f5597_4, f5597_5, f5597_6, rfl, t5597_0, t5597_1, t5597_2, t5597_3, rfl, rfl, rfl⟩ := hk5597
        have hP : va_P D vwCl [(w, .inr (8, [.ref (cs 450), .ref (cs 440), .ref (cs 441), .ref f5597_3, .int f5597_4, .int f5597_5, .int f5597_6]))] _ := va_P.cons hat5597 va_P.nil
        refine va_get (D := D) (ci := 8) (v := .ref (cs 440)) (C := RX8) (T := TX8) (N := 7) hx hb hts iX8_propose_8 hown hN.1 hP 0 rfl rfl 1 (by decide) (hts _ mX8_propose_5) (fun _ h9 => h9) rfl dX8_propose_45 ?_
        refine lv_iload_n hx hb dX8_propose_48 rfl (lv_at hl 1 rfl) ?_
        refine lv_aload_n hx hb dX8_propose_49 rfl (lv_at hl 0 rfl) ?_
        refine va_get (D := D) (ci := 8) (v := .ref (cs 440)) (C := RX8) (T := TX8) (N := 7) hx hb hts iX8_propose_8 hown hN.1 hP 0 rfl rfl 1 (by decide) (hts _ mX8_propose_5) (fun _ h9 => h9) rfl dX8_propose_50 ?_
        refine lv_iload_n hx hb dX8_propose_53 rfl (lv_at hl 1 rfl) ?_
        refine cv_i (As := [.int x]) (rest := [.int x, .ref (cs 440)]) (b := (cs 440)) ⟨hx, hb, hml, hown, hts⟩ (c_X7_margin hT (w := (cs 440)) t5597_1 (x := x)) (cwV 1 hts gX8_propose_X7_margin rfl rfl rfl hdX7_margin_v ⟨Nat.le_of_ble_eq_true rfl, Nat.le_of_ble_eq_true rfl⟩) hN hE hL (rcv8 hN hT t5597_1.1) rfl rfl hl.1 (Nat.le_of_ble_eq_true rfl) dX8_propose_54 (show k5595 + 0 ≤ ((336 * sumN C 16 + 137000 - PotN LN) / 35) by omega) (show n5596 + 0 ≤ (336 * sumN C 16 + 137000 - PotN LN) by omega) (fun r5598 H1 locs hL hqr5598 => ?_)
        obtain ⟨hT1, hF1⟩ := hqr5598
        have hP : va_P D vwCl [(w, .inr (8, [.ref (cs 450), .ref (cs 440), .ref (cs 441), .ref f5597_3, .int f5597_4, .int f5597_5, .int f5597_6]))] _ := hF1.hP (hP.sub [0] rfl) (fa_c ⟨by rw [hw.1]; decide, by rw [hw.2]; first | decide | (simp; done) | (simp [h15a, h15b, h15c]; done) | (simp; omega)⟩ fa_n)
        have hR := hR.fr hT trivial hF1 (by decide)
        have hT := hT1
        refine W.know (fun hgb => ?_)
        rw [hH0] at hgb
        refine cv_v (As := [.int x, .int r5598]) (rest := []) (b := (cs 440)) ⟨hx, hb, hml, hown, hts⟩ (c_X7_startProposal_dr hT (i := 0) (by omega) hR rfl) (cwV 2 hts gX8_propose_X7_startProposal rfl rfl rfl hdX7_startProposal_v ⟨Nat.le_of_ble_eq_true rfl, Nat.le_of_ble_eq_true rfl⟩) hN hE hL (rcv8 hN hT t5597_1.1) rfl rfl hl.1 (Nat.le_of_ble_eq_true rfl) dX8_propose_57 (show k5595 + ((56 * sumN C 16 + 22407 - 2 * sumN (L5590 0) 16) / 35) ≤ ((336 * sumN C 16 + 137000 - PotN LN) / 35) by omega) (show n5596 + (56 * sumN C 16 + 22407 - 2 * sumN (L5590 0) 16) ≤ (336 * sumN C 16 + 137000 - PotN LN) by omega) (fun H1 locs hL hqr5599 => ?_)
        obtain ⟨κr5599, hxr5599, hT1, hF1, hqr5599⟩ := hqr5599
        have hxfr5599 := hxr5599.1
        have hT := hT1
        have hKF := hKF.tr hxfr5599
        have hKW : KW κ κr5599 := hKW.tr (hxr5599.w (by omega))
        have hw := (KF.t2 hxfr5599 hw (by decide))
        obtain ⟨L5600, k5601, n5602, r5603, g5604⟩ := hqr5599
        have hR := r5603
        obtain ⟨k5605, n5606, hGP⟩ : ∃ k9 n9, GQ H0 _ LN L5600 k9 n9 := ⟨_, _, GQ.tr (show GQ H0 _ LN L5590 _ _ from ⟨hgb, hGN⟩) g5604⟩
        refine W.tight (k := k5605) (n := n5606) (by rw [hH0]; exact hGP.1) ?_
        have hGN : 35 * k5605 ≤ n5606 ∧ n5606 + PotN LN ≤ PotN L5600 := hGP.2
        have hgk5605 := hGN.1
        have hgn5606 := hGN.2
        have hsk5605 := hR.pot
        refine lv_aload_n hx hb dX8_propose_60 rfl (lv_at hl 0 rfl) ?_
        obtain ⟨hb5607, e5607, hat5607, hk5607⟩ := hT.o9 hw.1
        obtain ⟨f5607_0, f5607_1, f5607_2, f5607_3, f5607_4, f5607_5, f5607_6, rfl, t5607_0, t5607_1, t5607_2, t5607_3, rfl, rfl, rfl⟩ := hk5607
        have hP : va_P D vwCl [(w, .inr (8, [.ref (cs 450), .ref (cs 440), .ref (cs 441), .ref f5607_3, .int f5607_4, .int f5607_5, .int f5607_6]))] _ := va_P.cons hat5607 va_P.nil
        refine va_get (D := D) (ci := 8) (v := .ref (cs 440)) (C := RX8) (T := TX8) (N := 7) hx hb hts iX8_propose_8 hown hN.1 hP 0 rfl rfl 1 (by decide) (hts _ mX8_propose_5) (fun _ h9 => h9) rfl dX8_propose_61 ?_
        obtain ⟨hb5608, e5608, hat5608, hk5608⟩ := hT.o8 t5607_1.1
        obtain ⟨f5608_0, f5608_1, f5608_2, f5608_3, f5608_4, f5608_5, f5608_6, f5608_7, f5608_8, f5608_9, f5608_10, f5608_11, f5608_12, f5608_13, f5608_14, f5608_15, rfl, t5608_0, c5608_su, t5608_1, t5608_2, t5608_3, t5608_4, t5608_5, c5608_tm, c5608_lt, c5608_ml, c5608_pr, c5608_li⟩ := hk5608
        rw [t5607_1.2] at t5608_1
        rw [t5607_1.2] at t5608_2
        rw [t5607_1.2] at t5608_3
        rw [t5607_1.2] at t5608_4
        rw [t5607_1.2] at t5608_5
        rw [t5607_1.2] at c5608_lt c5608_ml c5608_pr c5608_li
        subst c5608_ml
        subst c5608_pr
        subst c5608_li
        have hP : va_P D vwCl [((cs 440), .inr (7, [.ref f5608_0, .ref f5608_1, .ref (cs (400 + 0)), .ref (cs (420 + 0)), .ref (cs (460 + 0)), .ref f5608_5, .long f5608_6, .int f5608_7, .int f5608_8, .int f5608_9, .int f5608_10, .int f5608_11, .int f5608_12, .int f5608_13, .int f5608_14, .int f5608_15])), (w, .inr (8, [.ref (cs 450), .ref (cs 440), .ref (cs 441), .ref f5607_3, .int f5607_4, .int f5607_5, .int f5607_6]))] _ := va_P.cons hat5608 hP
        refine va_getN (D := D) (ci := 7) (v := .ref (cs (420 + 0))) (C := RX7) (T := TX7) (N := 16) hx hb hts iX8_propose_7 hown hN.1 hP 0 rfl rfl 3 (by decide) (hN.f 48 rfl) (fun _ h9 => h9) rfl dX8_propose_64 ?_
        obtain ⟨hb5609, e5609, hat5609, hk5609⟩ := hT.o5 t5608_3.1
        obtain ⟨f5609_0, f5609_1, f5609_2, f5609_3, f5609_4, f5609_5, f5609_6, f5609_7, rfl, c5609⟩ := hk5609
        have hP : va_P D vwCl [((cs (420 + 0)), .inr (4, [.int f5609_0, .int f5609_1, .int f5609_2, .int f5609_3, .int f5609_4, .int f5609_5, .int f5609_6, .int f5609_7])), ((cs 440), .inr (7, [.ref f5608_0, .ref f5608_1, .ref (cs (400 + 0)), .ref (cs (420 + 0)), .ref (cs (460 + 0)), .ref f5608_5, .long f5608_6, .int f5608_7, .int f5608_8, .int f5608_9, .int f5608_10, .int f5608_11, .int f5608_12, .int f5608_13, .int f5608_14, .int f5608_15])), (w, .inr (8, [.ref (cs 450), .ref (cs 440), .ref (cs 441), .ref f5607_3, .int f5607_4, .int f5607_5, .int f5607_6]))] _ := va_P.cons hat5609 hP
        refine va_getN (D := D) (ci := 4) (v := .int f5609_1) (C := RX4) (T := TX4) (N := 8) hx hb hts iX8_propose_4 hown hN.1 hP 0 rfl rfl 1 (by decide) (hN.f 6 rfl) (fun _ h9 => h9) rfl dX8_propose_67 ?_
        refine W.know (fun hg => ?_)
        rw [hH0] at hg
        obtain ⟨C1, hC1, hR1⟩ := hR.rest (by decide) (by decide) (fun i h2 h3 => er_2 h2) hC
        exact vx_ret (en_i hx hb hr hlocks hL rfl (show k5605 ≤ ((336 * sumN C 16 + 137000 - PotN LN) / 35) by omega) (show n5606 ≤ (336 * sumN C 16 + 137000 - PotN LN) by omega) dX8_propose_70 (⟨_, hKW, hT, C1, _, _, _, hC1, hR1, ⟨hg, hGN⟩⟩))
    · exact tx_up (Qu := fun E1 H1 => E1 = "java/lang/IllegalArgumentException" ∧ H0.size ≤ H1.size ∧ ∀ q : Nat, q < H0.size → H1[q]? = H0[q]?) (tx_g2 (Qo := fun _ _ => False) (E := "java/lang/IllegalArgumentException") 0 hx hb hlt hown hN (by decide +kernel) (hts _ mX8_propose_1) (hts _ mX8_propose_2) (hN.s 14 rfl) rfl (fun w h => hts w (xgX8_propose_49_0 w h)) xnRX8_49_0 xdRX8_49_0 xoRX8_45_49_0 hE.1 (by rw [hH0]; exact ⟨Nat.le_refl _, fun _ _ _ => rfl, hL⟩) (fun H1 g1 g2 => ⟨rfl, g1, g2⟩) hl hml dX8_propose_10 dX8_propose_13 dX8_propose_14 dX8_propose_16 dX8_propose_19 hnx (Nat.le_of_ble_eq_true rfl) (Nat.le_of_ble_eq_true rfl) (show 0 + 1 ≤ ((336 * sumN C 16 + 137000 - PotN LN) / 35) by omega) (show 0 + 6 ≤ (336 * sumN C 16 + 137000 - PotN LN) by omega) hlocks (Nat.le_refl _) (Nat.le_refl _)) hH0 (show 1 ≤ ((336 * sumN C 16 + 137000 - PotN LN) / 35) by omega) (show 6 ≤ (336 * sumN C 16 + 137000 - PotN LN) by omega) (fun E1 H1 g g3 => ⟨by rw [g.1]; simp, g.2.1, g.2.2, g3⟩)
theorem xgX8_pass_49_0 : ∀ w ∈ (vx_atS RX8 49 "java/lang/IllegalArgumentException" ["java/lang/RuntimeException", "java/lang/Exception"]).filter goodWord, w ∈ wsX8_pass := fun w h => by unfold wsX8_pass; exact List.mem_cons_of_mem _ (List.mem_append_right _ h)
theorem mX8_pass_1 : (.classLink RX8 45 "java/lang/IllegalArgumentException" : Cond) ∈ wsX8_pass := List.mem_of_getElem? (i := 1) (by decide +kernel)
theorem mX8_pass_2 : (.initialized "java/lang/IllegalArgumentException" : Cond) ∈ wsX8_pass := List.mem_of_getElem? (i := 2) (by decide +kernel)
theorem mX8_pass_3 : (.fieldLink RX8 19 "OneBeat" "now" "LOneBeat$World;" : Cond) ∈ wsX8_pass := List.mem_of_getElem? (i := 3) (by decide +kernel)
theorem iX8_pass_8 : ∀ w ∈ wsX80, w ∈ wsX8_pass := fun w h => List.mem_of_mem_drop (List.mem_of_mem_take ((show wsX80 = (wsX8_pass.drop 179).take 7 by decide +kernel) ▸ h))
theorem iX8_pass_7 : ∀ w ∈ wsX70, w ∈ wsX8_pass := fun w h => List.mem_of_mem_drop (List.mem_of_mem_take ((show wsX70 = (wsX8_pass.drop 186).take 16 by decide +kernel) ▸ h))
set_option maxHeartbeats 4000000 in
set_option maxRecDepth 100000 in
theorem c_X8_pass {l : Launch} (hlt : l.stackTraces = false) {D : va_G} {cs : Nat → ClassId} {B0 T : Nat} {κ : KM} {H0 : Heap} (hT : WT B0 D cs T κ H0) {w : Nat} (hw : T2 κ w 9 13) {C : Nat → Nat} {LN : Nat → Nat → Nat} (hR : RQ D cs κ H0 C LN er) {x : Int32} (hC : sumN C 16 + 24 ≤ 12400) : KT l yX8_pass wsX8_pass 6 178 ((336 * sumN C 16 + 137000 - PotN LN) / 35) (336 * sumN C 16 + 137000 - PotN LN) D cs B0 H0 [.ref w, .int x] (Qi (fun _ H => ∃ κ1, KW κ κ1 ∧ WT B0 D cs T κ1 H ∧ ∃ C1 LN1 k n, sumN C1 16 ≤ sumN C 16 + 24 ∧ RQ D cs κ1 H C1 LN1 er ∧ GQ H0 H LN LN1 k n)) (TQ ["java/lang/IllegalArgumentException"] H0) := by
  refine KT.of cX8_pass 4 (some .int) (by decide) rfl (Nat.le_of_ble_eq_true rfl) ?_
  intro p e s m below meth c ls hx hb hr hml hown hts hlocks hnx hN hE hH0 hl
  have hown : s.vm.findClass RX8 = some m.cls := hown
  have hl : lv_has ls 4 [(0, .ref w), (1, .int x)] := hl
  have hL : OkL B0 [] := OkL.nil
  have hGN : 35 * 0 ≤ 0 ∧ 0 + PotN LN ≤ PotN LN := ⟨Nat.le_refl _, by omega⟩
  have hs0 := hR.pot
  refine lv_iload_n hx hb dX8_pass_0 rfl (lv_at hl 1 rfl) ?_
  refine lv_iconst (v := 1) hx hb dX8_pass_1 (by decide) ?_
  refine lv_icmp_lt (tgt := 11) hx hb dX8_pass_2 (by decide) (fun c5610 => ?_) (fun c5610 => ?_)
  · exact tx_up (Qu := fun E1 H1 => E1 = "java/lang/IllegalArgumentException" ∧ H0.size ≤ H1.size ∧ ∀ q : Nat, q < H0.size → H1[q]? = H0[q]?) (tx_g2 (Qo := fun _ _ => False) (E := "java/lang/IllegalArgumentException") 0 hx hb hlt hown hN (by decide +kernel) (hts _ mX8_pass_1) (hts _ mX8_pass_2) (hN.s 17 rfl) rfl (fun w h => hts w (xgX8_pass_49_0 w h)) xnRX8_49_0 xdRX8_49_0 xoRX8_45_49_0 hE.1 (by rw [hH0]; exact ⟨Nat.le_refl _, fun _ _ _ => rfl, hL⟩) (fun H1 g1 g2 => ⟨rfl, g1, g2⟩) hl hml dX8_pass_11 dX8_pass_14 dX8_pass_15 dX8_pass_17 dX8_pass_20 hnx (Nat.le_of_ble_eq_true rfl) (Nat.le_of_ble_eq_true rfl) (show 0 + 1 ≤ ((336 * sumN C 16 + 137000 - PotN LN) / 35) by omega) (show 0 + 6 ≤ (336 * sumN C 16 + 137000 - PotN LN) by omega) hlocks (Nat.le_refl _) (Nat.le_refl _)) hH0 (show 1 ≤ ((336 * sumN C 16 + 137000 - PotN LN) / 35) by omega) (show 6 ≤ (336 * sumN C 16 + 137000 - PotN LN) by omega) (fun E1 H1 g g3 => ⟨by rw [g.1]; simp, g.2.1, g.2.2, g3⟩)
  · refine lv_iload_n hx hb dX8_pass_5 rfl (lv_at hl 1 rfl) ?_
    refine lv_bipush (v := 50) hx hb dX8_pass_6 (by decide) ?_
    refine lv_icmp_le (tgt := 21) hx hb dX8_pass_8 (by decide) (fun c5611 => ?_) (fun c5611 => ?_)
    · obtain ⟨nx, hx1, hx2, hx3⟩ := rng (lo := 1) (hi := 50) (by decide) (by decide) c5610 (Int32.not_lt.mpr c5611)
      subst hx3
      have hl : lv_has ls 4 [(0, .ref w), (1, .int (nI nx))] := hl
      refine lv_aload_n hx hb dX8_pass_21 rfl (lv_at hl 0 rfl) ?_
      refine W.know (fun hgb => ?_)
      rw [hH0] at hgb
      refine cv_v (As := []) (rest := []) (b := w) ⟨hx, hb, hml, hown, hts⟩ (c_X8_keepForUndo hT (w := w) hw hR) (cwV 0 hts gX8_pass_X8_keepForUndo rfl rfl rfl hdX8_keepForUndo_v ⟨Nat.le_of_ble_eq_true rfl, Nat.le_of_ble_eq_true rfl⟩) hN hE hL (rcv9 hN hT hw.1) rfl rfl hl.1 (Nat.le_of_ble_eq_true rfl) dX8_pass_22 (show 0 + ((336 * sumN C 16 + 137000 - PotN LN) / 35) ≤ ((336 * sumN C 16 + 137000 - PotN LN) / 35) by omega) (show 0 + (336 * sumN C 16 + 137000 - PotN LN) ≤ (336 * sumN C 16 + 137000 - PotN LN) by omega) (fun H1 locs hL hqr5612 => ?_)
      obtain ⟨κr5612, hxr5612, hT1, hqr5612⟩ := hqr5612
      have hxfr5612 := hxr5612.1
      have hT := hT1
      have hKF : KF κ κr5612 := hxfr5612
      have hKW : KW κ κr5612 := hxr5612
      have hw := (KF.t2 hxfr5612 hw (by decide))
      obtain ⟨L5613, k5614, n5615, r5616, g5617⟩ := hqr5612
      have hR := r5616
      obtain ⟨k5618, n5619, hGP⟩ : ∃ k9 n9, GQ H0 _ LN L5613 k9 n9 := ⟨_, _, GQ.tr (show GQ H0 _ LN LN _ _ from ⟨hgb, hGN⟩) g5617⟩
      refine W.tight (k := k5618) (n := n5619) (by rw [hH0]; exact hGP.1) ?_
      have hGN : 35 * k5618 ≤ n5619 ∧ n5619 + PotN LN ≤ PotN L5613 := hGP.2
      have hgk5618 := hGN.1
      have hgn5619 := hGN.2
      have hsk5618 := hR.pot
      refine lv_aload_n hx hb dX8_pass_25 rfl (lv_at hl 0 rfl) ?_
      obtain ⟨hb5620, e5620, hat5620, hk5620⟩ := hT.o9 hw.1
      obtain ⟨f5620_0, f5620_1, f5620_2, f5620_3, f5620_4, f5620_5, f5620_6, rfl, t5620_0, t5620_1, t5620_2, t5620_3, rfl, rfl, rfl⟩ := hk5620
      have hP : va_P D vwCl [(w, .inr (8, [.ref (cs 450), .ref (cs 440), .ref (cs 441), .ref f5620_3, .int f5620_4, .int f5620_5, .int f5620_6]))] _ := va_P.cons hat5620 va_P.nil
      refine va_get (D := D) (ci := 8) (v := .ref (cs 440)) (C := RX8) (T := TX8) (N := 7) hx hb hts iX8_pass_8 hown hN.1 hP 0 rfl rfl 1 (by decide) (hts _ mX8_pass_3) (fun _ h9 => h9) rfl dX8_pass_26 ?_
      obtain ⟨hb5621, e5621, hat5621, hk5621⟩ := hT.o8 t5620_1.1
      obtain ⟨f5621_0, f5621_1, f5621_2, f5621_3, f5621_4, f5621_5, f5621_6, f5621_7, f5621_8, f5621_9, f5621_10, f5621_11, f5621_12, f5621_13, f5621_14, f5621_15, rfl, t5621_0, c5621_su, t5621_1, t5621_2, t5621_3, t5621_4, t5621_5, c5621_tm, c5621_lt, c5621_ml, c5621_pr, c5621_li⟩ := hk5621
      rw [t5620_1.2] at t5621_1
      rw [t5620_1.2] at t5621_2
      rw [t5620_1.2] at t5621_3
      rw [t5620_1.2] at t5621_4
      rw [t5620_1.2] at t5621_5
      rw [t5620_1.2] at c5621_lt c5621_ml c5621_pr c5621_li
      subst c5621_ml
      subst c5621_pr
      subst c5621_li
      have hP : va_P D vwCl [((cs 440), .inr (7, [.ref f5621_0, .ref f5621_1, .ref (cs (400 + 0)), .ref (cs (420 + 0)), .ref (cs (460 + 0)), .ref f5621_5, .long f5621_6, .int f5621_7, .int f5621_8, .int f5621_9, .int f5621_10, .int f5621_11, .int f5621_12, .int f5621_13, .int f5621_14, .int f5621_15])), (w, .inr (8, [.ref (cs 450), .ref (cs 440), .ref (cs 441), .ref f5620_3, .int f5620_4, .int f5620_5, .int f5620_6]))] _ := va_P.cons hat5621 hP
      refine va_getN (D := D) (ci := 7) (v := .int f5621_14) (C := RX7) (T := TX7) (N := 16) hx hb hts iX8_pass_7 hown hN.1 hP 0 rfl rfl 14 (by decide) (hN.f 51 rfl) (fun _ h9 => h9) rfl dX8_pass_29 ?_
      refine lv_istore_n (lv' := [(2, .int f5621_14), (0, .ref w), (1, .int (nI nx))]) hx hb dX8_pass_32 rfl hl (by decide) rfl (fun ls hl => ?_)
      refine lv_iconst (v := 0) hx hb dX8_pass_33 (by decide) ?_
      refine lv_istore_n (lv' := [(3, .int 0), (2, .int f5621_14), (0, .ref w), (1, .int (nI nx))]) hx hb dX8_pass_34 rfl hl (by decide) rfl (fun ls hl => ?_)
      refine W.know (fun hgb => ?_)
      rw [hH0] at hgb
      refine W.widen (k := ((336 * sumN C 16 + 137000 - PotN LN) / 35)) (n := (336 * sumN C 16 + 137000 - PotN LN)) (show k5618 ≤ ((336 * sumN C 16 + 137000 - PotN LN) / 35) by omega) (show n5619 ≤ (336 * sumN C 16 + 137000 - PotN LN) by omega) ?_
      refine lp_m (α := Nat × KM × (Nat → Nat → Nat) × Nat × Nat × Int32) (nL := 4) (fun a9 => 50 - a9.1) (fun a9 H9 l9 => (a9.1 ≤ 50) ∧ (KW κ a9.2.1) ∧ (T2 a9.2.1 w 9 13) ∧ (RQ D cs a9.2.1 H9 C a9.2.2.1 (up9 er 0 8)) ∧ (Gr H0 H9 a9.2.2.2.1 a9.2.2.2.2.1) ∧ (35 * a9.2.2.2.1 ≤ a9.2.2.2.2.1 ∧ a9.2.2.2.2.1 + PotN LN ≤ PotN a9.2.2.1) ∧ (WT B0 D cs T a9.2.1 H9) ∧ (OkL B0 l9)) (fun a9 => [(3, .int (nI a9.1)), (0, .ref w), (1, .int (nI nx)), (2, .int a9.2.2.2.2.2)]) ?_ (0, κr5612, L5613, k5618, n5619, f5621_14) _ _ _ ⟨(by show (0) ≤ 50; omega), hKW, hw, (hR.m8 0), hgb, hGN, hT, hL⟩ (lv_sub hl [0, 2, 3, 1] rfl)
      rintro ⟨k, κ9, LN9, k9, n9, y⟩ H locs ls ih5622 ⟨hk, hKW, hw, hR, hGR, hGN, hT, hL⟩ hl
      have hl : lv_has ls 4 [(3, .int (nI k)), (0, .ref w), (1, .int (nI nx)), (2, .int y)] := hl
      have hk : k ≤ 50 := hk
      have hKW : KW κ κ9 := hKW
      have hw : T2 κ9 w 9 13 := hw
      have hR : RQ D cs κ9 H C LN9 (up9 er 0 8) := hR
      have hGR : Gr H0 H k9 n9 := hGR
      have hGN : 35 * k9 ≤ n9 ∧ n9 + PotN LN ≤ PotN LN9 := hGN
      have hT : WT B0 D cs T κ9 _ := hT
      have hKF := hKW.1
      refine W.tight (k := k9) (n := n9) (by rw [hH0]; exact hGR) ?_
      have hg1 := hGN.1
      have hg2 := hGN.2
      have hs9 := hR.pot
      refine lv_iload_n hx hb dX8_pass_35 rfl (lv_at hl 0 rfl) ?_
      refine lv_iload_n hx hb dX8_pass_36 rfl (lv_at hl 2 rfl) ?_
      refine lv_icmp_ge (tgt := 53) hx hb dX8_pass_37 (by decide) (fun c5623 => ?_) (fun c5623 => ?_)
      · have c5623 : nx ≤ k := (nI_leI (a := nx) (b := k) (by omega) (by omega)).mp c5623
        refine lv_aload_n hx hb dX8_pass_53 rfl (lv_at hl 1 rfl) ?_
        obtain ⟨hb5624, e5624, hat5624, hk5624⟩ := hT.o9 hw.1
        obtain ⟨f5624_0, f5624_1, f5624_2, f5624_3, f5624_4, f5624_5, f5624_6, rfl, t5624_0, t5624_1, t5624_2, t5624_3, rfl, rfl, rfl⟩ := hk5624
        have hP : va_P D vwCl [(w, .inr (8, [.ref (cs 450), .ref (cs 440), .ref (cs 441), .ref f5624_3, .int f5624_4, .int f5624_5, .int f5624_6]))] _ := va_P.cons hat5624 va_P.nil
        refine va_get (D := D) (ci := 8) (v := .ref (cs 440)) (C := RX8) (T := TX8) (N := 7) hx hb hts iX8_pass_8 hown hN.1 hP 0 rfl rfl 1 (by decide) (hts _ mX8_pass_3) (fun _ h9 => h9) rfl dX8_pass_54 ?_
        obtain ⟨hb5625, e5625, hat5625, hk5625⟩ := hT.o8 t5624_1.1
        obtain ⟨f5625_0, f5625_1, f5625_2, f5625_3, f5625_4, f5625_5, f5625_6, f5625_7, f5625_8, f5625_9, f5625_10, f5625_11, f5625_12, f5625_13, f5625_14, f5625_15, rfl, t5625_0, c5625_su, t5625_1, t5625_2, t5625_3, t5625_4, t5625_5, c5625_tm, c5625_lt, c5625_ml, c5625_pr, c5625_li⟩ := hk5625
        rw [t5624_1.2] at t5625_1
        rw [t5624_1.2] at t5625_2
        rw [t5624_1.2] at t5625_3
        rw [t5624_1.2] at t5625_4
        rw [t5624_1.2] at t5625_5
        rw [t5624_1.2] at c5625_lt c5625_ml c5625_pr c5625_li
        subst c5625_ml
        subst c5625_pr
        subst c5625_li
        have hP : va_P D vwCl [((cs 440), .inr (7, [.ref f5625_0, .ref f5625_1, .ref (cs (400 + 0)), .ref (cs (420 + 0)), .ref (cs (460 + 0)), .ref f5625_5, .long f5625_6, .int f5625_7, .int f5625_8, .int f5625_9, .int f5625_10, .int f5625_11, .int f5625_12, .int f5625_13, .int f5625_14, .int f5625_15])), (w, .inr (8, [.ref (cs 450), .ref (cs 440), .ref (cs 441), .ref f5624_3, .int f5624_4, .int f5624_5, .int f5624_6]))] _ := va_P.cons hat5625 hP
        refine va_getN (D := D) (ci := 7) (v := .int f5625_14) (C := RX7) (T := TX7) (N := 16) hx hb hts iX8_pass_7 hown hN.1 hP 0 rfl rfl 14 (by decide) (hN.f 51 rfl) (fun _ h9 => h9) rfl dX8_pass_57 ?_
        refine lv_iload_n hx hb dX8_pass_60 rfl (lv_at hl 3 rfl) ?_
        refine lv_isub hx hb dX8_pass_61 ?_
        refine gn_i (fun x5626 => ?_)
        refine W.know (fun hg => ?_)
        rw [hH0] at hg
        obtain ⟨C1, hC1, hR1⟩ := hR.rest (by decide) (by decide) (fun i h2 h3 => er_2 h2) hC
        exact vx_ret (en_i hx hb hr hlocks hL rfl (show k9 ≤ ((336 * sumN C 16 + 137000 - PotN LN) / 35) by omega) (show n9 ≤ (336 * sumN C 16 + 137000 - PotN LN) by omega) dX8_pass_62 (⟨_, hKW, hT, C1, _, _, _, hC1, hR1, ⟨hg, hGN⟩⟩))
      · have c5623 : ¬ nx ≤ k := fun h9 => c5623 ((nI_leI (a := nx) (b := k) (by omega) (by omega)).mpr h9)
        refine lv_aload_n hx hb dX8_pass_40 rfl (lv_at hl 1 rfl) ?_
        obtain ⟨hb5627, e5627, hat5627, hk5627⟩ := hT.o9 hw.1
        obtain ⟨f5627_0, f5627_1, f5627_2, f5627_3, f5627_4, f5627_5, f5627_6, rfl, t5627_0, t5627_1, t5627_2, t5627_3, rfl, rfl, rfl⟩ := hk5627
        have hP : va_P D vwCl [(w, .inr (8, [.ref (cs 450), .ref (cs 440), .ref (cs 441), .ref f5627_3, .int f5627_4, .int f5627_5, .int f5627_6]))] _ := va_P.cons hat5627 va_P.nil
        refine va_get (D := D) (ci := 8) (v := .ref (cs 440)) (C := RX8) (T := TX8) (N := 7) hx hb hts iX8_pass_8 hown hN.1 hP 0 rfl rfl 1 (by decide) (hts _ mX8_pass_3) (fun _ h9 => h9) rfl dX8_pass_41 ?_
        refine W.know (fun hgb => ?_)
        rw [hH0] at hgb
        refine cv_v (As := []) (rest := []) (b := (cs 440)) ⟨hx, hb, hml, hown, hts⟩ (c_X7_tick_dr hT (i := 0) (by omega) hR (by decide)) (cwV 0 hts gX8_pass_X7_tick rfl rfl rfl hdX7_tick_v ⟨Nat.le_of_ble_eq_true rfl, Nat.le_of_ble_eq_true rfl⟩) hN hE hL (rcv8 hN hT t5627_1.1) rfl rfl hl.1 (Nat.le_of_ble_eq_true rfl) dX8_pass_44 (show k9 + ((56 * sumN C 16 + 22407 - 2 * sumN (LN9 0) 16) / 35) ≤ ((336 * sumN C 16 + 137000 - PotN LN) / 35) by omega) (show n9 + (56 * sumN C 16 + 22407 - 2 * sumN (LN9 0) 16) ≤ (336 * sumN C 16 + 137000 - PotN LN) by omega) (fun H1 locs hL hqr5628 => ?_)
        obtain ⟨κr5628, hxr5628, hT1, hF1, hqr5628⟩ := hqr5628
        have hxfr5628 := hxr5628.1
        have hT := hT1
        have hKF := hKF.tr hxfr5628
        have hKW : KW κ κr5628 := hKW.tr (hxr5628.w (by omega))
        have hw := (KF.t2 hxfr5628 hw (by decide))
        obtain ⟨L5629, k5630, n5631, r5632, g5633⟩ := hqr5628
        have hR := r5632
        obtain ⟨k5634, n5635, hGP⟩ : ∃ k9 n9, GQ H0 _ LN L5629 k9 n9 := ⟨_, _, GQ.tr (show GQ H0 _ LN LN9 _ _ from ⟨hgb, hGN⟩) g5633⟩
        refine W.tight (k := k5634) (n := n5635) (by rw [hH0]; exact hGP.1) ?_
        have hGN : 35 * k5634 ≤ n5635 ∧ n5635 + PotN LN ≤ PotN L5629 := hGP.2
        have hgk5634 := hGN.1
        have hgn5635 := hGN.2
        have hsk5634 := hR.pot
        refine lv_iinc (v := (nI (k + 1))) (lv' := [(3, .int (nI (k + 1))), (0, .ref w), (1, .int (nI nx)), (2, .int y)]) hx hb dX8_pass_47 hl (k := 0) rfl (nI_add _ 1) (by decide) rfl (fun ls hl => ?_)
        refine lv_goto (tgt := 35) hx hb dX8_pass_50 (by decide) ?_
        refine W.know (fun hgb => ?_)
        rw [hH0] at hgb
        refine W.widen (k := ((336 * sumN C 16 + 137000 - PotN LN) / 35)) (n := (336 * sumN C 16 + 137000 - PotN LN)) (show k5634 ≤ ((336 * sumN C 16 + 137000 - PotN LN) / 35) by omega) (show n5635 ≤ (336 * sumN C 16 + 137000 - PotN LN) by omega) ?_
        exact ih5622 ((k + 1), κr5628, L5629, k5634, n5635, y) _ _ _ (by show 50 - ((k + 1)) < 50 - k; omega) ⟨(by show ((k + 1)) ≤ 50; omega), hKW, hw, (hR.ce up_8), hgb, hGN, hT, hL⟩ (lv_sub hl [0, 1, 2, 3] rfl)
    · exact tx_up (Qu := fun E1 H1 => E1 = "java/lang/IllegalArgumentException" ∧ H0.size ≤ H1.size ∧ ∀ q : Nat, q < H0.size → H1[q]? = H0[q]?) (tx_g2 (Qo := fun _ _ => False) (E := "java/lang/IllegalArgumentException") 0 hx hb hlt hown hN (by decide +kernel) (hts _ mX8_pass_1) (hts _ mX8_pass_2) (hN.s 17 rfl) rfl (fun w h => hts w (xgX8_pass_49_0 w h)) xnRX8_49_0 xdRX8_49_0 xoRX8_45_49_0 hE.1 (by rw [hH0]; exact ⟨Nat.le_refl _, fun _ _ _ => rfl, hL⟩) (fun H1 g1 g2 => ⟨rfl, g1, g2⟩) hl hml dX8_pass_11 dX8_pass_14 dX8_pass_15 dX8_pass_17 dX8_pass_20 hnx (Nat.le_of_ble_eq_true rfl) (Nat.le_of_ble_eq_true rfl) (show 0 + 1 ≤ ((336 * sumN C 16 + 137000 - PotN LN) / 35) by omega) (show 0 + 6 ≤ (336 * sumN C 16 + 137000 - PotN LN) by omega) hlocks (Nat.le_refl _) (Nat.le_refl _)) hH0 (show 1 ≤ ((336 * sumN C 16 + 137000 - PotN LN) / 35) by omega) (show 6 ≤ (336 * sumN C 16 + 137000 - PotN LN) by omega) (fun E1 H1 g g3 => ⟨by rw [g.1]; simp, g.2.1, g.2.2, g3⟩)
theorem mX8_foretold_1 : (.fieldLink RX8 23 "OneBeat" "trial" "LOneBeat$World;" : Cond) ∈ wsX8_foretold := List.mem_of_getElem? (i := 1) (by decide +kernel)
theorem iX8_foretold_8 : ∀ w ∈ wsX80, w ∈ wsX8_foretold := fun w h => List.mem_of_mem_drop (List.mem_of_mem_take ((show wsX80 = (wsX8_foretold.drop 197).take 7 by decide +kernel) ▸ h))
theorem mX8_foretold_2 : (.fieldLink RX8 19 "OneBeat" "now" "LOneBeat$World;" : Cond) ∈ wsX8_foretold := List.mem_of_getElem? (i := 2) (by decide +kernel)
theorem hdX7_runOn_v : yX7_runOn.cls = RX7 ∧ yX7_runOn.cls ≠ "java/lang/invoke/MethodHandle" ∧ yX7_runOn.cls ≠ "java/lang/invoke/VarHandle" ∧ (parseMethodDescriptor yX7_runOn.desc).map (fun d => d.parameters.length) = some 1 := by decide +kernel
theorem iX8_foretold_7 : ∀ w ∈ wsX70, w ∈ wsX8_foretold := fun w h => List.mem_of_mem_drop (List.mem_of_mem_take ((show wsX70 = (wsX8_foretold.drop 204).take 16 by decide +kernel) ▸ h))
theorem sw_0_3 {x : Int32} (h : ¬ (x.toInt < (0 : Int) ∨ (3 : Int) < x.toInt)) : x = 0 ∨ x = 1 ∨ x = 2 ∨ x = 3 := by
  have h2 : x.toInt = (0 : Int) ∨ x.toInt = (1 : Int) ∨ x.toInt = (2 : Int) ∨ x.toInt = (3 : Int) := by omega
  rcases h2 with h2 | h2 | h2 | h2
  · exact Or.inl (Int32.toInt_inj.mp (h2.trans (by decide)))
  · exact Or.inr (Or.inl (Int32.toInt_inj.mp (h2.trans (by decide))))
  · exact Or.inr (Or.inr (Or.inl (Int32.toInt_inj.mp (h2.trans (by decide)))))
  · exact Or.inr (Or.inr (Or.inr ((Int32.toInt_inj.mp (h2.trans (by decide))))))
theorem iX8_foretold_4 : ∀ w ∈ wsX40, w ∈ wsX8_foretold := fun w h => List.mem_of_mem_drop (List.mem_of_mem_take ((show wsX40 = (wsX8_foretold.drop 220).take 8 by decide +kernel) ▸ h))
set_option maxHeartbeats 4000000 in
set_option maxRecDepth 100000 in
theorem c_X8_foretold {l : Launch} (hlt : l.stackTraces = false) {D : va_G} {cs : Nat → ClassId} {B0 T : Nat} {κ : KM} {H0 : Heap} (hT : WT B0 D cs T κ H0) {w : Nat} (hw : T2 κ w 9 13) {C : Nat → Nat} {LN : Nat → Nat → Nat} (hR : RQ D cs κ H0 C LN er) {x : Int32} (hC : sumN C 16 + 24 ≤ 12400) : KT l yX8_foretold wsX8_foretold 7 201 ((336 * sumN C 16 + 137000 - PotN LN) / 35) (336 * sumN C 16 + 137000 - PotN LN) D cs B0 H0 [.ref w, .int x] (Qi (fun _ H => ∃ κ1, KW κ κ1 ∧ WT B0 D cs T κ1 H ∧ ∃ C1 LN1 k n, sumN C1 16 ≤ sumN C 16 + 24 ∧ RQ D cs κ1 H C1 LN1 er ∧ GQ H0 H LN LN1 k n)) (TQ ["java/lang/IllegalArgumentException"] H0) := by
  refine KT.of cX8_foretold 3 (some .int) (by decide) rfl (Nat.le_of_ble_eq_true rfl) ?_
  intro p e s m below meth c ls hx hb hr hml hown hts hlocks hnx hN hE hH0 hl
  have hown : s.vm.findClass RX8 = some m.cls := hown
  have hl : lv_has ls 3 [(0, .ref w), (1, .int x)] := hl
  have hL : OkL B0 [] := OkL.nil
  have hGN : 35 * 0 ≤ 0 ∧ 0 + PotN LN ≤ PotN LN := ⟨Nat.le_refl _, by omega⟩
  have hs0 := hR.pot
  refine lv_aload_n hx hb dX8_foretold_0 rfl (lv_at hl 0 rfl) ?_
  refine lv_iload_n hx hb dX8_foretold_1 rfl (lv_at hl 1 rfl) ?_
  refine lv_iconst (v := 4) hx hb dX8_foretold_2 (by decide) ?_
  refine ct_V (As := [.int x, .int 4]) (rest := []) (b := w) ⟨hx, hb, hml, hown, hts⟩ (c_X8_refuseWhatOutside hlt hT (w := w) hw (x := x) (y := 4)) (cwV 2 hts gX8_foretold_X8_refuseWhatOutside rfl rfl rfl hdX8_refuseWhatOutside_v ⟨Nat.le_of_ble_eq_true rfl, Nat.le_of_ble_eq_true rfl⟩) hN hE hL (rcv9 hN hT hw.1) rfl rfl hl.1 (Nat.le_of_ble_eq_true rfl) dX8_foretold_3 (show 0 + 1 ≤ ((336 * sumN C 16 + 137000 - PotN LN) / 35) by omega) (show 0 + 6 ≤ (336 * sumN C 16 + 137000 - PotN LN) by omega) (fun E9 q9 ce9 H1 locs hL hq h1 h2 h3 => ct_up hnx hlocks h1 h2 h3 (hq.mono (by decide +kernel)) hL (show 0 + 1 ≤ ((336 * sumN C 16 + 137000 - PotN LN) / 35) by omega) (show 0 + 6 ≤ (336 * sumN C 16 + 137000 - PotN LN) by omega)) (fun v9 H1 locs hL hqr5636 => ?_)
  obtain ⟨rfl, hqr5636⟩ := hqr5636
  refine W.eq (g2 := F0 m 6 ls []) rfl ?_
  obtain rfl := hqr5636.symm
  refine W.tight (k := 0) (n := 0) (by rw [hH0]; exact Gr.rf) ?_
  refine lv_aload_n hx hb dX8_foretold_6 rfl (lv_at hl 0 rfl) ?_
  obtain ⟨hb5637, e5637, hat5637, hk5637⟩ := hT.o9 hw.1
  obtain ⟨f5637_0, f5637_1, f5637_2, f5637_3, f5637_4, f5637_5, f5637_6, rfl, t5637_0, t5637_1, t5637_2, t5637_3, rfl, rfl, rfl⟩ := hk5637
  have hP : va_P D vwCl [(w, .inr (8, [.ref (cs 450), .ref (cs 440), .ref (cs 441), .ref f5637_3, .int f5637_4, .int f5637_5, .int f5637_6]))] _ := va_P.cons hat5637 va_P.nil
  refine va_get (D := D) (ci := 8) (v := .ref (cs 441)) (C := RX8) (T := TX8) (N := 7) hx hb hts iX8_foretold_8 hown hN.1 hP 0 rfl rfl 2 (by decide) (hts _ mX8_foretold_1) (fun _ h9 => h9) rfl dX8_foretold_7 ?_
  refine lv_aload_n hx hb dX8_foretold_10 rfl (lv_at hl 0 rfl) ?_
  refine va_get (D := D) (ci := 8) (v := .ref (cs 440)) (C := RX8) (T := TX8) (N := 7) hx hb hts iX8_foretold_8 hown hN.1 hP 0 rfl rfl 1 (by decide) (hts _ mX8_foretold_2) (fun _ h9 => h9) rfl dX8_foretold_11 ?_
  refine W.know (fun hgb => ?_)
  rw [hH0] at hgb
  refine cv_v (As := [.ref (cs 440)]) (rest := []) (b := (cs 441)) ⟨hx, hb, hml, hown, hts⟩ (c_X7_copyFrom_dr hT (i := 1) (by omega) hR (j := 0) (by omega) (by decide) (by decide)) (cwV 1 hts gX8_foretold_X7_copyFrom rfl rfl rfl hdX7_copyFrom_v ⟨Nat.le_of_ble_eq_true rfl, Nat.le_of_ble_eq_true rfl⟩) hN hE hL (rcv8 hN hT t5637_2.1) rfl rfl hl.1 (Nat.le_of_ble_eq_true rfl) dX8_foretold_14 (show 0 + ((56 * sumN C 16 + 22407 - 2 * sumN (LN 1) 16) / 35) ≤ ((336 * sumN C 16 + 137000 - PotN LN) / 35) by omega) (show 0 + (56 * sumN C 16 + 22407 - 2 * sumN (LN 1) 16) ≤ (336 * sumN C 16 + 137000 - PotN LN) by omega) (fun H1 locs hL hqr5638 => ?_)
  obtain ⟨κr5638, hxr5638, hT1, hF1, hqr5638⟩ := hqr5638
  have hxfr5638 := hxr5638.1
  have hT := hT1
  have hKF : KF κ κr5638 := hxfr5638
  have hKW : KW κ κr5638 := (hxr5638.w (by omega))
  have hw := (KF.t2 hxfr5638 hw (by decide))
  obtain ⟨L5639, k5640, n5641, r5642, g5643⟩ := hqr5638
  have hR := r5642
  obtain ⟨k5644, n5645, hGP⟩ : ∃ k9 n9, GQ H0 _ LN L5639 k9 n9 := ⟨_, _, GQ.tr (show GQ H0 _ LN LN _ _ from ⟨hgb, hGN⟩) g5643⟩
  refine W.tight (k := k5644) (n := n5645) (by rw [hH0]; exact hGP.1) ?_
  have hGN : 35 * k5644 ≤ n5645 ∧ n5645 + PotN LN ≤ PotN L5639 := hGP.2
  have hgk5644 := hGN.1
  have hgn5645 := hGN.2
  have hsk5644 := hR.pot
  refine lv_aload_n hx hb dX8_foretold_17 rfl (lv_at hl 0 rfl) ?_
  obtain ⟨hb5646, e5646, hat5646, hk5646⟩ := hT.o9 hw.1
  obtain ⟨f5646_0, f5646_1, f5646_2, f5646_3, f5646_4, f5646_5, f5646_6, rfl, t5646_0, t5646_1, t5646_2, t5646_3, rfl, rfl, rfl⟩ := hk5646
  have hP : va_P D vwCl [(w, .inr (8, [.ref (cs 450), .ref (cs 440), .ref (cs 441), .ref f5646_3, .int f5646_4, .int f5646_5, .int f5646_6]))] _ := va_P.cons hat5646 va_P.nil
  refine va_get (D := D) (ci := 8) (v := .ref (cs 441)) (C := RX8) (T := TX8) (N := 7) hx hb hts iX8_foretold_8 hown hN.1 hP 0 rfl rfl 2 (by decide) (hts _ mX8_foretold_1) (fun _ h9 => h9) rfl dX8_foretold_18 ?_
  refine lv_iconst (v := 0) hx hb dX8_foretold_21 (by decide) ?_
  refine W.know (fun hgb => ?_)
  rw [hH0] at hgb
  refine cv_i (As := [.int 0]) (rest := []) (b := (cs 441)) ⟨hx, hb, hml, hown, hts⟩ (c_X7_runOn_dr hT (i := 1) (by omega) hR (Or.inl rfl) (by decide)) (cwV 1 hts gX8_foretold_X7_runOn rfl rfl rfl hdX7_runOn_v ⟨Nat.le_of_ble_eq_true rfl, Nat.le_of_ble_eq_true rfl⟩) hN hE hL (rcv8 hN hT t5646_2.1) rfl rfl hl.1 (Nat.le_of_ble_eq_true rfl) dX8_foretold_22 (show k5644 + ((56 * sumN C 16 + 22407 - 2 * sumN (L5639 1) 16) / 35) ≤ ((336 * sumN C 16 + 137000 - PotN LN) / 35) by omega) (show n5645 + (56 * sumN C 16 + 22407 - 2 * sumN (L5639 1) 16) ≤ (336 * sumN C 16 + 137000 - PotN LN) by omega) (fun r5647 H1 locs hL hqr5647 => ?_)
  obtain ⟨κr5647, hxr5647, hT1, hF1, hqr5647⟩ := hqr5647
  have hxfr5647 := hxr5647.1
  have hT := hT1
  have hKF := hKF.tr hxfr5647
  have hKW : KW κ κr5647 := hKW.tr (hxr5647.w (by omega))
  have hw := (KF.t2 hxfr5647 hw (by decide))
  obtain ⟨L5648, k5649, n5650, r5651, g5652⟩ := hqr5647
  have hR := r5651
  obtain ⟨k5653, n5654, hGP⟩ : ∃ k9 n9, GQ H0 _ LN L5648 k9 n9 := ⟨_, _, GQ.tr (show GQ H0 _ LN L5639 _ _ from ⟨hgb, hGN⟩) g5652⟩
  refine W.tight (k := k5653) (n := n5654) (by rw [hH0]; exact hGP.1) ?_
  have hGN : 35 * k5653 ≤ n5654 ∧ n5654 + PotN LN ≤ PotN L5648 := hGP.2
  have hgk5653 := hGN.1
  have hgn5654 := hGN.2
  have hsk5653 := hR.pot
  refine lv_istore_n (lv' := [(2, .int r5647), (0, .ref w), (1, .int x)]) hx hb dX8_foretold_25 rfl hl (by decide) rfl (fun ls hl => ?_)
  refine lv_iload_n hx hb dX8_foretold_26 rfl (lv_at hl 2 rfl) ?_
  by_cases c5655 : (x : Int32).toInt < (0 : Int) ∨ (3 : Int) < (x : Int32).toInt
  · refine lv_tableOut (tgt := 102) hx hb dX8_foretold_27 c5655 (by decide) ?_
    refine lv_aload_n hx hb dX8_foretold_102 rfl (lv_at hl 1 rfl) ?_
    obtain ⟨hb5656, e5656, hat5656, hk5656⟩ := hT.o9 hw.1
    obtain ⟨f5656_0, f5656_1, f5656_2, f5656_3, f5656_4, f5656_5, f5656_6, rfl, t5656_0, t5656_1, t5656_2, t5656_3, rfl, rfl, rfl⟩ := hk5656
    have hP : va_P D vwCl [(w, .inr (8, [.ref (cs 450), .ref (cs 440), .ref (cs 441), .ref f5656_3, .int f5656_4, .int f5656_5, .int f5656_6]))] _ := va_P.cons hat5656 va_P.nil
    refine va_get (D := D) (ci := 8) (v := .ref (cs 441)) (C := RX8) (T := TX8) (N := 7) hx hb hts iX8_foretold_8 hown hN.1 hP 0 rfl rfl 2 (by decide) (hts _ mX8_foretold_1) (fun _ h9 => h9) rfl dX8_foretold_103 ?_
    obtain ⟨hb5657, e5657, hat5657, hk5657⟩ := hT.o8 t5656_2.1
    obtain ⟨f5657_0, f5657_1, f5657_2, f5657_3, f5657_4, f5657_5, f5657_6, f5657_7, f5657_8, f5657_9, f5657_10, f5657_11, f5657_12, f5657_13, f5657_14, f5657_15, rfl, t5657_0, c5657_su, t5657_1, t5657_2, t5657_3, t5657_4, t5657_5, c5657_tm, c5657_lt, c5657_ml, c5657_pr, c5657_li⟩ := hk5657
    rw [t5656_2.2] at t5657_1
    rw [t5656_2.2] at t5657_2
    rw [t5656_2.2] at t5657_3
    rw [t5656_2.2] at t5657_4
    rw [t5656_2.2] at t5657_5
    rw [t5656_2.2] at c5657_lt c5657_ml c5657_pr c5657_li
    subst c5657_ml
    subst c5657_pr
    subst c5657_li
    have hP : va_P D vwCl [((cs 441), .inr (7, [.ref f5657_0, .ref f5657_1, .ref (cs (400 + 1)), .ref (cs (420 + 1)), .ref (cs (460 + 1)), .ref f5657_5, .long f5657_6, .int f5657_7, .int f5657_8, .int f5657_9, .int f5657_10, .int f5657_11, .int f5657_12, .int f5657_13, .int f5657_14, .int f5657_15])), (w, .inr (8, [.ref (cs 450), .ref (cs 440), .ref (cs 441), .ref f5656_3, .int f5656_4, .int f5656_5, .int f5656_6]))] _ := va_P.cons hat5657 hP
    refine va_getN (D := D) (ci := 7) (v := .int f5657_15) (C := RX7) (T := TX7) (N := 16) hx hb hts iX8_foretold_7 hown hN.1 hP 0 rfl rfl 15 (by decide) (hN.f 52 rfl) (fun _ h9 => h9) rfl dX8_foretold_106 ?_
    refine lv_aload_n hx hb dX8_foretold_109 rfl (lv_at hl 1 rfl) ?_
    refine va_get (D := D) (ci := 8) (v := .ref (cs 440)) (C := RX8) (T := TX8) (N := 7) hx hb hts iX8_foretold_8 hown hN.1 hP 1 rfl rfl 1 (by decide) (hts _ mX8_foretold_2) (fun _ h9 => h9) rfl dX8_foretold_110 ?_
    obtain ⟨hb5658, e5658, hat5658, hk5658⟩ := hT.o8 t5656_1.1
    obtain ⟨f5658_0, f5658_1, f5658_2, f5658_3, f5658_4, f5658_5, f5658_6, f5658_7, f5658_8, f5658_9, f5658_10, f5658_11, f5658_12, f5658_13, f5658_14, f5658_15, rfl, t5658_0, c5658_su, t5658_1, t5658_2, t5658_3, t5658_4, t5658_5, c5658_tm, c5658_lt, c5658_ml, c5658_pr, c5658_li⟩ := hk5658
    rw [t5656_1.2] at t5658_1
    rw [t5656_1.2] at t5658_2
    rw [t5656_1.2] at t5658_3
    rw [t5656_1.2] at t5658_4
    rw [t5656_1.2] at t5658_5
    rw [t5656_1.2] at c5658_lt c5658_ml c5658_pr c5658_li
    subst c5658_ml
    subst c5658_pr
    subst c5658_li
    have hP : va_P D vwCl [((cs 440), .inr (7, [.ref f5658_0, .ref f5658_1, .ref (cs (400 + 0)), .ref (cs (420 + 0)), .ref (cs (460 + 0)), .ref f5658_5, .long f5658_6, .int f5658_7, .int f5658_8, .int f5658_9, .int f5658_10, .int f5658_11, .int f5658_12, .int f5658_13, .int f5658_14, .int f5658_15])), ((cs 441), .inr (7, [.ref f5657_0, .ref f5657_1, .ref (cs (400 + 1)), .ref (cs (420 + 1)), .ref (cs (460 + 1)), .ref f5657_5, .long f5657_6, .int f5657_7, .int f5657_8, .int f5657_9, .int f5657_10, .int f5657_11, .int f5657_12, .int f5657_13, .int f5657_14, .int f5657_15])), (w, .inr (8, [.ref (cs 450), .ref (cs 440), .ref (cs 441), .ref f5656_3, .int f5656_4, .int f5656_5, .int f5656_6]))] _ := va_P.cons hat5658 hP
    refine va_getN (D := D) (ci := 7) (v := .int f5658_15) (C := RX7) (T := TX7) (N := 16) hx hb hts iX8_foretold_7 hown hN.1 hP 0 rfl rfl 15 (by decide) (hN.f 52 rfl) (fun _ h9 => h9) rfl dX8_foretold_113 ?_
    refine lv_isub hx hb dX8_foretold_116 ?_
    refine gn_i (fun x5659 => ?_)
    refine W.know (fun hg => ?_)
    rw [hH0] at hg
    obtain ⟨C1, hC1, hR1⟩ := hR.rest (by decide) (by decide) fo_z hC
    exact vx_ret (en_i hx hb hr hlocks hL rfl (show k5653 ≤ ((336 * sumN C 16 + 137000 - PotN LN) / 35) by omega) (show n5654 ≤ (336 * sumN C 16 + 137000 - PotN LN) by omega) dX8_foretold_117 (⟨_, hKW, hT, C1, _, _, _, hC1, hR1, ⟨hg, hGN⟩⟩))
  · rcases sw_0_3 c5655 with rfl | rfl | rfl | rfl
    · refine lv_tableIn (tgt := 56) (off := 29) hx hb dX8_foretold_27 (by decide) (by decide) (by decide) (by decide) ?_
      refine lv_iload_n hx hb dX8_foretold_56 rfl (lv_at hl 0 rfl) ?_
      refine W.know (fun hg => ?_)
      rw [hH0] at hg
      obtain ⟨C1, hC1, hR1⟩ := hR.rest (by decide) (by decide) fo_z hC
      exact vx_ret (en_i hx hb hr hlocks hL rfl (show k5653 ≤ ((336 * sumN C 16 + 137000 - PotN LN) / 35) by omega) (show n5654 ≤ (336 * sumN C 16 + 137000 - PotN LN) by omega) dX8_foretold_57 (⟨_, hKW, hT, C1, _, _, _, hC1, hR1, ⟨hg, hGN⟩⟩))
    · refine lv_tableIn (tgt := 58) (off := 31) hx hb dX8_foretold_27 (by decide) (by decide) (by decide) (by decide) ?_
      refine lv_aload_n hx hb dX8_foretold_58 rfl (lv_at hl 1 rfl) ?_
      obtain ⟨hb5660, e5660, hat5660, hk5660⟩ := hT.o9 hw.1
      obtain ⟨f5660_0, f5660_1, f5660_2, f5660_3, f5660_4, f5660_5, f5660_6, rfl, t5660_0, t5660_1, t5660_2, t5660_3, rfl, rfl, rfl⟩ := hk5660
      have hP : va_P D vwCl [(w, .inr (8, [.ref (cs 450), .ref (cs 440), .ref (cs 441), .ref f5660_3, .int f5660_4, .int f5660_5, .int f5660_6]))] _ := va_P.cons hat5660 va_P.nil
      refine va_get (D := D) (ci := 8) (v := .ref (cs 441)) (C := RX8) (T := TX8) (N := 7) hx hb hts iX8_foretold_8 hown hN.1 hP 0 rfl rfl 2 (by decide) (hts _ mX8_foretold_1) (fun _ h9 => h9) rfl dX8_foretold_59 ?_
      obtain ⟨hb5661, e5661, hat5661, hk5661⟩ := hT.o8 t5660_2.1
      obtain ⟨f5661_0, f5661_1, f5661_2, f5661_3, f5661_4, f5661_5, f5661_6, f5661_7, f5661_8, f5661_9, f5661_10, f5661_11, f5661_12, f5661_13, f5661_14, f5661_15, rfl, t5661_0, c5661_su, t5661_1, t5661_2, t5661_3, t5661_4, t5661_5, c5661_tm, c5661_lt, c5661_ml, c5661_pr, c5661_li⟩ := hk5661
      rw [t5660_2.2] at t5661_1
      rw [t5660_2.2] at t5661_2
      rw [t5660_2.2] at t5661_3
      rw [t5660_2.2] at t5661_4
      rw [t5660_2.2] at t5661_5
      rw [t5660_2.2] at c5661_lt c5661_ml c5661_pr c5661_li
      subst c5661_ml
      subst c5661_pr
      subst c5661_li
      have hP : va_P D vwCl [((cs 441), .inr (7, [.ref f5661_0, .ref f5661_1, .ref (cs (400 + 1)), .ref (cs (420 + 1)), .ref (cs (460 + 1)), .ref f5661_5, .long f5661_6, .int f5661_7, .int f5661_8, .int f5661_9, .int f5661_10, .int f5661_11, .int f5661_12, .int f5661_13, .int f5661_14, .int f5661_15])), (w, .inr (8, [.ref (cs 450), .ref (cs 440), .ref (cs 441), .ref f5660_3, .int f5660_4, .int f5660_5, .int f5660_6]))] _ := va_P.cons hat5661 hP
      refine va_getN (D := D) (ci := 7) (v := .int f5661_11) (C := RX7) (T := TX7) (N := 16) hx hb hts iX8_foretold_7 hown hN.1 hP 0 rfl rfl 11 (by decide) (hN.f 50 rfl) (fun _ h9 => h9) rfl dX8_foretold_62 ?_
      refine lv_if_ne (tgt := 72) hx hb dX8_foretold_65 (by decide) (fun c5662 => ?_) (fun c5662 => ?_)
      · refine lv_aload_n hx hb dX8_foretold_72 rfl (lv_at hl 1 rfl) ?_
        refine va_get (D := D) (ci := 8) (v := .ref (cs 441)) (C := RX8) (T := TX8) (N := 7) hx hb hts iX8_foretold_8 hown hN.1 hP 1 rfl rfl 2 (by decide) (hts _ mX8_foretold_1) (fun _ h9 => h9) rfl dX8_foretold_73 ?_
        refine va_getN (D := D) (ci := 7) (v := .ref (cs (420 + 1))) (C := RX7) (T := TX7) (N := 16) hx hb hts iX8_foretold_7 hown hN.1 hP 0 rfl rfl 3 (by decide) (hN.f 48 rfl) (fun _ h9 => h9) rfl dX8_foretold_76 ?_
        obtain ⟨hb5663, e5663, hat5663, hk5663⟩ := hT.o5 t5661_3.1
        obtain ⟨f5663_0, f5663_1, f5663_2, f5663_3, f5663_4, f5663_5, f5663_6, f5663_7, rfl, c5663⟩ := hk5663
        have hP : va_P D vwCl [((cs (420 + 1)), .inr (4, [.int f5663_0, .int f5663_1, .int f5663_2, .int f5663_3, .int f5663_4, .int f5663_5, .int f5663_6, .int f5663_7])), ((cs 441), .inr (7, [.ref f5661_0, .ref f5661_1, .ref (cs (400 + 1)), .ref (cs (420 + 1)), .ref (cs (460 + 1)), .ref f5661_5, .long f5661_6, .int f5661_7, .int f5661_8, .int f5661_9, .int f5661_10, .int f5661_11, .int f5661_12, .int f5661_13, .int f5661_14, .int f5661_15])), (w, .inr (8, [.ref (cs 450), .ref (cs 440), .ref (cs 441), .ref f5660_3, .int f5660_4, .int f5660_5, .int f5660_6]))] _ := va_P.cons hat5663 hP
        refine va_getN (D := D) (ci := 4) (v := .int f5663_5) (C := RX4) (T := TX4) (N := 8) hx hb hts iX8_foretold_4 hown hN.1 hP 0 rfl rfl 5 (by decide) (hN.f 11 rfl) (fun _ h9 => h9) rfl dX8_foretold_79 ?_
        refine W.know (fun hg => ?_)
        rw [hH0] at hg
        obtain ⟨C1, hC1, hR1⟩ := hR.rest (by decide) (by decide) fo_z hC
        exact vx_ret (en_i hx hb hr hlocks hL rfl (show k5653 ≤ ((336 * sumN C 16 + 137000 - PotN LN) / 35) by omega) (show n5654 ≤ (336 * sumN C 16 + 137000 - PotN LN) by omega) dX8_foretold_82 (⟨_, hKW, hT, C1, _, _, _, hC1, hR1, ⟨hg, hGN⟩⟩))
      · refine lv_iconst (v := (-1)) hx hb dX8_foretold_68 (by decide) ?_
        refine lv_goto (tgt := 82) hx hb dX8_foretold_69 (by decide) ?_
        refine W.know (fun hg => ?_)
        rw [hH0] at hg
        obtain ⟨C1, hC1, hR1⟩ := hR.rest (by decide) (by decide) fo_z hC
        exact vx_ret (en_i hx hb hr hlocks hL rfl (show k5653 ≤ ((336 * sumN C 16 + 137000 - PotN LN) / 35) by omega) (show n5654 ≤ (336 * sumN C 16 + 137000 - PotN LN) by omega) dX8_foretold_82 (⟨_, hKW, hT, C1, _, _, _, hC1, hR1, ⟨hg, hGN⟩⟩))
    · refine lv_tableIn (tgt := 83) (off := 56) hx hb dX8_foretold_27 (by decide) (by decide) (by decide) (by decide) ?_
      refine lv_aload_n hx hb dX8_foretold_83 rfl (lv_at hl 1 rfl) ?_
      obtain ⟨hb5664, e5664, hat5664, hk5664⟩ := hT.o9 hw.1
      obtain ⟨f5664_0, f5664_1, f5664_2, f5664_3, f5664_4, f5664_5, f5664_6, rfl, t5664_0, t5664_1, t5664_2, t5664_3, rfl, rfl, rfl⟩ := hk5664
      have hP : va_P D vwCl [(w, .inr (8, [.ref (cs 450), .ref (cs 440), .ref (cs 441), .ref f5664_3, .int f5664_4, .int f5664_5, .int f5664_6]))] _ := va_P.cons hat5664 va_P.nil
      refine va_get (D := D) (ci := 8) (v := .ref (cs 441)) (C := RX8) (T := TX8) (N := 7) hx hb hts iX8_foretold_8 hown hN.1 hP 0 rfl rfl 2 (by decide) (hts _ mX8_foretold_1) (fun _ h9 => h9) rfl dX8_foretold_84 ?_
      obtain ⟨hb5665, e5665, hat5665, hk5665⟩ := hT.o8 t5664_2.1
      obtain ⟨f5665_0, f5665_1, f5665_2, f5665_3, f5665_4, f5665_5, f5665_6, f5665_7, f5665_8, f5665_9, f5665_10, f5665_11, f5665_12, f5665_13, f5665_14, f5665_15, rfl, t5665_0, c5665_su, t5665_1, t5665_2, t5665_3, t5665_4, t5665_5, c5665_tm, c5665_lt, c5665_ml, c5665_pr, c5665_li⟩ := hk5665
      rw [t5664_2.2] at t5665_1
      rw [t5664_2.2] at t5665_2
      rw [t5664_2.2] at t5665_3
      rw [t5664_2.2] at t5665_4
      rw [t5664_2.2] at t5665_5
      rw [t5664_2.2] at c5665_lt c5665_ml c5665_pr c5665_li
      subst c5665_ml
      subst c5665_pr
      subst c5665_li
      have hP : va_P D vwCl [((cs 441), .inr (7, [.ref f5665_0, .ref f5665_1, .ref (cs (400 + 1)), .ref (cs (420 + 1)), .ref (cs (460 + 1)), .ref f5665_5, .long f5665_6, .int f5665_7, .int f5665_8, .int f5665_9, .int f5665_10, .int f5665_11, .int f5665_12, .int f5665_13, .int f5665_14, .int f5665_15])), (w, .inr (8, [.ref (cs 450), .ref (cs 440), .ref (cs 441), .ref f5664_3, .int f5664_4, .int f5664_5, .int f5664_6]))] _ := va_P.cons hat5665 hP
      refine va_getN (D := D) (ci := 7) (v := .ref (cs (420 + 1))) (C := RX7) (T := TX7) (N := 16) hx hb hts iX8_foretold_7 hown hN.1 hP 0 rfl rfl 3 (by decide) (hN.f 48 rfl) (fun _ h9 => h9) rfl dX8_foretold_87 ?_
      refine cv_i (As := []) (rest := []) (b := (cs (420 + 1))) ⟨hx, hb, hml, hown, hts⟩ (c_X4_spreadOfChanges hT (w := (cs (420 + 1))) t5665_3) (cwV 0 hts gX8_foretold_X4_spreadOfChanges rfl rfl rfl hdX4_spreadOfChanges_v ⟨Nat.le_of_ble_eq_true rfl, Nat.le_of_ble_eq_true rfl⟩) hN hE hL (rcv5 hN hT t5665_3.1) rfl rfl hl.1 (Nat.le_of_ble_eq_true rfl) dX8_foretold_90 (show k5653 + 0 ≤ ((336 * sumN C 16 + 137000 - PotN LN) / 35) by omega) (show n5654 + 0 ≤ (336 * sumN C 16 + 137000 - PotN LN) by omega) (fun r5666 H1 locs hL hqr5666 => ?_)
      obtain rfl := hqr5666.symm
      refine W.know (fun hg => ?_)
      rw [hH0] at hg
      obtain ⟨C1, hC1, hR1⟩ := hR.rest (by decide) (by decide) fo_z hC
      exact vx_ret (en_i hx hb hr hlocks hL rfl (show k5653 ≤ ((336 * sumN C 16 + 137000 - PotN LN) / 35) by omega) (show n5654 ≤ (336 * sumN C 16 + 137000 - PotN LN) by omega) dX8_foretold_93 (⟨_, hKW, hT, C1, _, _, _, hC1, hR1, ⟨hg, hGN⟩⟩))
    · refine lv_tableIn (tgt := 94) (off := 67) hx hb dX8_foretold_27 (by decide) (by decide) (by decide) (by decide) ?_
      refine lv_aload_n hx hb dX8_foretold_94 rfl (lv_at hl 1 rfl) ?_
      obtain ⟨hb5667, e5667, hat5667, hk5667⟩ := hT.o9 hw.1
      obtain ⟨f5667_0, f5667_1, f5667_2, f5667_3, f5667_4, f5667_5, f5667_6, rfl, t5667_0, t5667_1, t5667_2, t5667_3, rfl, rfl, rfl⟩ := hk5667
      have hP : va_P D vwCl [(w, .inr (8, [.ref (cs 450), .ref (cs 440), .ref (cs 441), .ref f5667_3, .int f5667_4, .int f5667_5, .int f5667_6]))] _ := va_P.cons hat5667 va_P.nil
      refine va_get (D := D) (ci := 8) (v := .ref (cs 441)) (C := RX8) (T := TX8) (N := 7) hx hb hts iX8_foretold_8 hown hN.1 hP 0 rfl rfl 2 (by decide) (hts _ mX8_foretold_1) (fun _ h9 => h9) rfl dX8_foretold_95 ?_
      refine cv_i (As := []) (rest := []) (b := (cs 441)) ⟨hx, hb, hml, hown, hts⟩ (c_X7_countSongs hT (w := (cs 441)) t5667_2) (cwV 0 hts gX8_foretold_X7_countSongs rfl rfl rfl hdX7_countSongs_v ⟨Nat.le_of_ble_eq_true rfl, Nat.le_of_ble_eq_true rfl⟩) hN hE hL (rcv8 hN hT t5667_2.1) rfl rfl hl.1 (Nat.le_of_ble_eq_true rfl) dX8_foretold_98 (show k5653 + 0 ≤ ((336 * sumN C 16 + 137000 - PotN LN) / 35) by omega) (show n5654 + 0 ≤ (336 * sumN C 16 + 137000 - PotN LN) by omega) (fun r5668 H1 locs hL hqr5668 => ?_)
      obtain rfl := hqr5668.symm
      refine W.know (fun hg => ?_)
      rw [hH0] at hg
      obtain ⟨C1, hC1, hR1⟩ := hR.rest (by decide) (by decide) fo_z hC
      exact vx_ret (en_i hx hb hr hlocks hL rfl (show k5653 ≤ ((336 * sumN C 16 + 137000 - PotN LN) / 35) by omega) (show n5654 ≤ (336 * sumN C 16 + 137000 - PotN LN) by omega) dX8_foretold_101 (⟨_, hKW, hT, C1, _, _, _, hC1, hR1, ⟨hg, hGN⟩⟩))
theorem mX8_safest_1 : (.fieldLink RX8 19 "OneBeat" "now" "LOneBeat$World;" : Cond) ∈ wsX8_safest := List.mem_of_getElem? (i := 1) (by decide +kernel)
theorem iX8_safest_8 : ∀ w ∈ wsX80, w ∈ wsX8_safest := fun w h => List.mem_of_mem_drop (List.mem_of_mem_take ((show wsX80 = (wsX8_safest.drop 190).take 7 by decide +kernel) ▸ h))
theorem mX8_safest_2 : (.fieldLink RX8 23 "OneBeat" "trial" "LOneBeat$World;" : Cond) ∈ wsX8_safest := List.mem_of_getElem? (i := 2) (by decide +kernel)
theorem iX8_safest_7 : ∀ w ∈ wsX70, w ∈ wsX8_safest := fun w h => List.mem_of_mem_drop (List.mem_of_mem_take ((show wsX70 = (wsX8_safest.drop 197).take 16 by decide +kernel) ▸ h))
theorem iX8_safest_4 : ∀ w ∈ wsX40, w ∈ wsX8_safest := fun w h => List.mem_of_mem_drop (List.mem_of_mem_take ((show wsX40 = (wsX8_safest.drop 213).take 8 by decide +kernel) ▸ h))
set_option maxHeartbeats 4000000 in
set_option maxRecDepth 100000 in
theorem c_X8_safest {l : Launch} {D : va_G} {cs : Nat → ClassId} {B0 T : Nat} {κ : KM} {H0 : Heap} (hT : WT B0 D cs T κ H0) {w : Nat} (hw : T2 κ w 9 13) {C : Nat → Nat} {LN : Nat → Nat → Nat} (hR : RQ D cs κ H0 C LN er) : KC l yX8_safest wsX8_safest 7 201 ((336 * sumN C 16 + 137000 - PotN LN) / 35) (336 * sumN C 16 + 137000 - PotN LN) D cs B0 H0 [.ref w] (Qi (fun _ H => ∃ κ1, KW κ κ1 ∧ WT B0 D cs T κ1 H ∧ ∃ C1 LN1 k n, sumN C1 16 ≤ sumN C 16 + 24 ∧ RQ D cs κ1 H C1 LN1 er ∧ GQ H0 H LN LN1 k n)) := by
  refine KC.of cX8_safest 2 (some .int) (by decide) rfl (Nat.le_of_ble_eq_true rfl) ?_
  intro p e s m below meth c ls hx hb hr hml hown hts hlocks hin hN hE hH0 hl
  have hown : s.vm.findClass RX8 = some m.cls := hown
  have hl : lv_has ls 2 [(0, .ref w)] := hl
  have hL : OkL B0 [] := OkL.nil
  have hGN : 35 * 0 ≤ 0 ∧ 0 + PotN LN ≤ PotN LN := ⟨Nat.le_refl _, by omega⟩
  have hs0 := hR.pot
  refine lv_aload_n hx hb dX8_safest_0 rfl (lv_at hl 0 rfl) ?_
  obtain ⟨hb5669, e5669, hat5669, hk5669⟩ := hT.o9 hw.1
  obtain ⟨f5669_0, f5669_1, f5669_2, f5669_3, f5669_4, f5669_5, f5669_6, rfl, t5669_0, t5669_1, t5669_2, t5669_3, rfl, rfl, rfl⟩ := hk5669
  have hP : va_P D vwCl [(w, .inr (8, [.ref (cs 450), .ref (cs 440), .ref (cs 441), .ref f5669_3, .int f5669_4, .int f5669_5, .int f5669_6]))] _ := va_P.cons hat5669 va_P.nil
  refine va_get (D := D) (ci := 8) (v := .ref (cs 440)) (C := RX8) (T := TX8) (N := 7) hx hb hts iX8_safest_8 hown hN.1 hP 0 rfl rfl 1 (by decide) (hts _ mX8_safest_1) (fun _ h9 => h9) rfl dX8_safest_1 ?_
  refine cv_i (As := []) (rest := []) (b := (cs 440)) ⟨hx, hb, hml, hown, hts⟩ (c_X7_canPropose hT (w := (cs 440)) t5669_1) (cwV 0 hts gX8_safest_X7_canPropose rfl rfl rfl hdX7_canPropose_v ⟨Nat.le_of_ble_eq_true rfl, Nat.le_of_ble_eq_true rfl⟩) hN hE hL (rcv8 hN hT t5669_1.1) rfl rfl hl.1 (Nat.le_of_ble_eq_true rfl) dX8_safest_4 (Nat.zero_le _) (Nat.zero_le _) (fun r5670 H1 locs hL hqr5670 => ?_)
  obtain ⟨h9, hqr5670⟩ := hqr5670; replace h9 := h9.symm; subst h9
  rcases hqr5670 with rfl | rfl
  · refine lv_if_ne (tgt := 12) hx hb dX8_safest_7 (by decide) (fun c9 => absurd (by decide) c9) (fun _ => ?_)
    refine lv_iconst (v := (-1)) hx hb dX8_safest_10 (by decide) ?_
    refine W.know (fun hg => ?_)
    rw [hH0] at hg
    exact en_i hx hb hr hlocks hL rfl (Nat.zero_le _) (Nat.zero_le _) dX8_safest_11 (⟨κ, KW.rf, hT, C, LN, 0, 0, Nat.le_add_right _ _, hR, ⟨hg, hGN⟩⟩)
  · refine lv_if_ne (tgt := 12) hx hb dX8_safest_7 (by decide) (fun _ => ?_) (fun c9 => absurd c9 (by decide))
    refine lv_iconst (v := 1) hx hb dX8_safest_12 (by decide) ?_
    refine lv_istore_n (lv' := [(1, .int 1), (0, .ref w)]) hx hb dX8_safest_13 rfl hl (by decide) rfl (fun ls hl => ?_)
    refine W.know (fun hgb => ?_)
    rw [hH0] at hgb
    refine W.widen (k := ((336 * sumN C 16 + 137000 - PotN LN) / 35)) (n := (336 * sumN C 16 + 137000 - PotN LN)) (Nat.zero_le _) (Nat.zero_le _) ?_
    refine lp_m (α := Nat × KM × (Nat → Nat → Nat) × Nat × Nat) (nL := 2) (fun a9 => 61 - a9.1) (fun a9 H9 l9 => (a9.1 ≤ 61) ∧ (KW κ a9.2.1) ∧ (T2 a9.2.1 w 9 13) ∧ (RQ D cs a9.2.1 H9 C a9.2.2.1 er) ∧ (Gr H0 H9 a9.2.2.2.1 a9.2.2.2.2) ∧ (35 * a9.2.2.2.1 ≤ a9.2.2.2.2 ∧ a9.2.2.2.2 + PotN LN ≤ PotN a9.2.2.1) ∧ (WT B0 D cs T a9.2.1 H9) ∧ (OkL B0 l9)) (fun a9 => [(1, .int (nI a9.1)), (0, .ref w)]) ?_ (1, κ, LN, 0, 0) _ _ _ ⟨(by show (1) ≤ 61; omega), KW.rf, hw, hR, hgb, hGN, hT, hL⟩ (lv_sub hl [0, 1] rfl)
    rintro ⟨k, κ9, LN9, k9, n9⟩ H locs ls ih5671 ⟨hk, hKW, hw, hR, hGR, hGN, hT, hL⟩ hl
    have hl : lv_has ls 2 [(1, .int (nI k)), (0, .ref w)] := hl
    have hk : k ≤ 61 := hk
    have hKW : KW κ κ9 := hKW
    have hw : T2 κ9 w 9 13 := hw
    have hR : RQ D cs κ9 H C LN9 er := hR
    have hGR : Gr H0 H k9 n9 := hGR
    have hGN : 35 * k9 ≤ n9 ∧ n9 + PotN LN ≤ PotN LN9 := hGN
    have hT : WT B0 D cs T κ9 _ := hT
    have hKF := hKW.1
    refine W.tight (k := k9) (n := n9) (by rw [hH0]; exact hGR) ?_
    have hg1 := hGN.1
    have hg2 := hGN.2
    have hs9 := hR.pot
    refine lv_iload_n hx hb dX8_safest_14 rfl (lv_at hl 0 rfl) ?_
    refine lv_bipush (v := 60) hx hb dX8_safest_15 (by decide) ?_
    refine lv_icmp_gt (tgt := 88) hx hb dX8_safest_17 (by decide) (fun c5672 => ?_) (fun c5672 => ?_)
    · have c5672 : 60 < k := (nI_ltI (a := 60) (b := k) (by omega) (by omega)).mp c5672
      refine lv_iconst (v := (-1)) hx hb dX8_safest_88 (by decide) ?_
      refine W.know (fun hg => ?_)
      rw [hH0] at hg
      exact en_i hx hb hr hlocks hL rfl (show k9 ≤ ((336 * sumN C 16 + 137000 - PotN LN) / 35) by omega) (show n9 ≤ (336 * sumN C 16 + 137000 - PotN LN) by omega) dX8_safest_89 (⟨_, hKW, hT, C, _, _, _, Nat.le_add_right _ _, hR, ⟨hg, hGN⟩⟩)
    · have c5672 : ¬ 60 < k := fun h9 => c5672 ((nI_ltI (a := 60) (b := k) (by omega) (by omega)).mpr h9)
      refine lv_aload_n hx hb dX8_safest_20 rfl (lv_at hl 1 rfl) ?_
      obtain ⟨hb5673, e5673, hat5673, hk5673⟩ := hT.o9 hw.1
      obtain ⟨f5673_0, f5673_1, f5673_2, f5673_3, f5673_4, f5673_5, f5673_6, rfl, t5673_0, t5673_1, t5673_2, t5673_3, rfl, rfl, rfl⟩ := hk5673
      have hP : va_P D vwCl [(w, .inr (8, [.ref (cs 450), .ref (cs 440), .ref (cs 441), .ref f5673_3, .int f5673_4, .int f5673_5, .int f5673_6]))] _ := va_P.cons hat5673 va_P.nil
      refine va_get (D := D) (ci := 8) (v := .ref (cs 441)) (C := RX8) (T := TX8) (N := 7) hx hb hts iX8_safest_8 hown hN.1 hP 0 rfl rfl 2 (by decide) (hts _ mX8_safest_2) (fun _ h9 => h9) rfl dX8_safest_21 ?_
      refine lv_aload_n hx hb dX8_safest_24 rfl (lv_at hl 1 rfl) ?_
      refine va_get (D := D) (ci := 8) (v := .ref (cs 440)) (C := RX8) (T := TX8) (N := 7) hx hb hts iX8_safest_8 hown hN.1 hP 0 rfl rfl 1 (by decide) (hts _ mX8_safest_1) (fun _ h9 => h9) rfl dX8_safest_25 ?_
      refine W.know (fun hgb => ?_)
      rw [hH0] at hgb
      refine cv_v (As := [.ref (cs 440)]) (rest := []) (b := (cs 441)) ⟨hx, hb, hml, hown, hts⟩ (c_X7_copyFrom_dr hT (i := 1) (by omega) hR (j := 0) (by omega) (by decide) (by decide)) (cwV 1 hts gX8_safest_X7_copyFrom rfl rfl rfl hdX7_copyFrom_v ⟨Nat.le_of_ble_eq_true rfl, Nat.le_of_ble_eq_true rfl⟩) hN hE hL (rcv8 hN hT t5673_2.1) rfl rfl hl.1 (Nat.le_of_ble_eq_true rfl) dX8_safest_28 (show k9 + ((56 * sumN C 16 + 22407 - 2 * sumN (LN9 1) 16) / 35) ≤ ((336 * sumN C 16 + 137000 - PotN LN) / 35) by omega) (show n9 + (56 * sumN C 16 + 22407 - 2 * sumN (LN9 1) 16) ≤ (336 * sumN C 16 + 137000 - PotN LN) by omega) (fun H1 locs hL hqr5674 => ?_)
      obtain ⟨κr5674, hxr5674, hT1, hF1, hqr5674⟩ := hqr5674
      have hxfr5674 := hxr5674.1
      have hT := hT1
      have hKF := hKF.tr hxfr5674
      have hKW : KW κ κr5674 := hKW.tr (hxr5674.w (by omega))
      have hw := (KF.t2 hxfr5674 hw (by decide))
      obtain ⟨L5675, k5676, n5677, r5678, g5679⟩ := hqr5674
      have hR := r5678
      obtain ⟨k5680, n5681, hGP⟩ : ∃ k9 n9, GQ H0 _ LN L5675 k9 n9 := ⟨_, _, GQ.tr (show GQ H0 _ LN LN9 _ _ from ⟨hgb, hGN⟩) g5679⟩
      refine W.tight (k := k5680) (n := n5681) (by rw [hH0]; exact hGP.1) ?_
      have hGN : 35 * k5680 ≤ n5681 ∧ n5681 + PotN LN ≤ PotN L5675 := hGP.2
      have hgk5680 := hGN.1
      have hgn5681 := hGN.2
      have hsk5680 := hR.pot
      refine lv_aload_n hx hb dX8_safest_31 rfl (lv_at hl 1 rfl) ?_
      obtain ⟨hb5682, e5682, hat5682, hk5682⟩ := hT.o9 hw.1
      obtain ⟨f5682_0, f5682_1, f5682_2, f5682_3, f5682_4, f5682_5, f5682_6, rfl, t5682_0, t5682_1, t5682_2, t5682_3, rfl, rfl, rfl⟩ := hk5682
      have hP : va_P D vwCl [(w, .inr (8, [.ref (cs 450), .ref (cs 440), .ref (cs 441), .ref f5682_3, .int f5682_4, .int f5682_5, .int f5682_6]))] _ := va_P.cons hat5682 va_P.nil
      refine va_get (D := D) (ci := 8) (v := .ref (cs 441)) (C := RX8) (T := TX8) (N := 7) hx hb hts iX8_safest_8 hown hN.1 hP 0 rfl rfl 2 (by decide) (hts _ mX8_safest_2) (fun _ h9 => h9) rfl dX8_safest_32 ?_
      refine lv_iconst (v := 1) hx hb dX8_safest_35 (by decide) ?_
      refine lv_iload_n hx hb dX8_safest_36 rfl (lv_at hl 0 rfl) ?_
      refine W.know (fun hgb => ?_)
      rw [hH0] at hgb
      refine cv_v (As := [.int 1, .int (nI k)]) (rest := []) (b := (cs 441)) ⟨hx, hb, hml, hown, hts⟩ (c_X7_startProposal_dr hT (i := 1) (by omega) hR rfl) (cwV 2 hts gX8_safest_X7_startProposal rfl rfl rfl hdX7_startProposal_v ⟨Nat.le_of_ble_eq_true rfl, Nat.le_of_ble_eq_true rfl⟩) hN hE hL (rcv8 hN hT t5682_2.1) rfl rfl hl.1 (Nat.le_of_ble_eq_true rfl) dX8_safest_37 (show k5680 + ((56 * sumN C 16 + 22407 - 2 * sumN (L5675 1) 16) / 35) ≤ ((336 * sumN C 16 + 137000 - PotN LN) / 35) by omega) (show n5681 + (56 * sumN C 16 + 22407 - 2 * sumN (L5675 1) 16) ≤ (336 * sumN C 16 + 137000 - PotN LN) by omega) (fun H1 locs hL hqr5683 => ?_)
      obtain ⟨κr5683, hxr5683, hT1, hF1, hqr5683⟩ := hqr5683
      have hxfr5683 := hxr5683.1
      have hT := hT1
      have hKF := hKF.tr hxfr5683
      have hKW : KW κ κr5683 := hKW.tr (hxr5683.w (by omega))
      have hw := (KF.t2 hxfr5683 hw (by decide))
      obtain ⟨L5684, k5685, n5686, r5687, g5688⟩ := hqr5683
      have hR := r5687
      obtain ⟨k5689, n5690, hGP⟩ : ∃ k9 n9, GQ H0 _ LN L5684 k9 n9 := ⟨_, _, GQ.tr (show GQ H0 _ LN L5675 _ _ from ⟨hgb, hGN⟩) g5688⟩
      refine W.tight (k := k5689) (n := n5690) (by rw [hH0]; exact hGP.1) ?_
      have hGN : 35 * k5689 ≤ n5690 ∧ n5690 + PotN LN ≤ PotN L5684 := hGP.2
      have hgk5689 := hGN.1
      have hgn5690 := hGN.2
      have hsk5689 := hR.pot
      refine lv_aload_n hx hb dX8_safest_40 rfl (lv_at hl 1 rfl) ?_
      obtain ⟨hb5691, e5691, hat5691, hk5691⟩ := hT.o9 hw.1
      obtain ⟨f5691_0, f5691_1, f5691_2, f5691_3, f5691_4, f5691_5, f5691_6, rfl, t5691_0, t5691_1, t5691_2, t5691_3, rfl, rfl, rfl⟩ := hk5691
      have hP : va_P D vwCl [(w, .inr (8, [.ref (cs 450), .ref (cs 440), .ref (cs 441), .ref f5691_3, .int f5691_4, .int f5691_5, .int f5691_6]))] _ := va_P.cons hat5691 va_P.nil
      refine va_get (D := D) (ci := 8) (v := .ref (cs 441)) (C := RX8) (T := TX8) (N := 7) hx hb hts iX8_safest_8 hown hN.1 hP 0 rfl rfl 2 (by decide) (hts _ mX8_safest_2) (fun _ h9 => h9) rfl dX8_safest_41 ?_
      refine lv_iconst (v := 1) hx hb dX8_safest_44 (by decide) ?_
      refine W.know (fun hgb => ?_)
      rw [hH0] at hgb
      refine cv_i (As := [.int 1]) (rest := []) (b := (cs 441)) ⟨hx, hb, hml, hown, hts⟩ (c_X7_runOn_dr hT (i := 1) (by omega) hR (Or.inr rfl) (by decide)) (cwV 1 hts gX8_safest_X7_runOn rfl rfl rfl hdX7_runOn_v ⟨Nat.le_of_ble_eq_true rfl, Nat.le_of_ble_eq_true rfl⟩) hN hE hL (rcv8 hN hT t5691_2.1) rfl rfl hl.1 (Nat.le_of_ble_eq_true rfl) dX8_safest_45 (show k5689 + ((56 * sumN C 16 + 22407 - 2 * sumN (L5684 1) 16) / 35) ≤ ((336 * sumN C 16 + 137000 - PotN LN) / 35) by omega) (show n5690 + (56 * sumN C 16 + 22407 - 2 * sumN (L5684 1) 16) ≤ (336 * sumN C 16 + 137000 - PotN LN) by omega) (fun r5692 H1 locs hL hqr5692 => ?_)
      obtain ⟨κr5692, hxr5692, hT1, hF1, hqr5692⟩ := hqr5692
      have hxfr5692 := hxr5692.1
      have hT := hT1
      have hKF := hKF.tr hxfr5692
      have hKW : KW κ κr5692 := hKW.tr (hxr5692.w (by omega))
      have hw := (KF.t2 hxfr5692 hw (by decide))
      obtain ⟨L5693, k5694, n5695, r5696, g5697⟩ := hqr5692
      have hR := r5696
      obtain ⟨k5698, n5699, hGP⟩ : ∃ k9 n9, GQ H0 _ LN L5693 k9 n9 := ⟨_, _, GQ.tr (show GQ H0 _ LN L5684 _ _ from ⟨hgb, hGN⟩) g5697⟩
      refine W.tight (k := k5698) (n := n5699) (by rw [hH0]; exact hGP.1) ?_
      have hGN : 35 * k5698 ≤ n5699 ∧ n5699 + PotN LN ≤ PotN L5693 := hGP.2
      have hgk5698 := hGN.1
      have hgn5699 := hGN.2
      have hsk5698 := hR.pot
      refine lv_pop hx hb dX8_safest_48 rfl ?_
      refine lv_aload_n hx hb dX8_safest_49 rfl (lv_at hl 1 rfl) ?_
      obtain ⟨hb5700, e5700, hat5700, hk5700⟩ := hT.o9 hw.1
      obtain ⟨f5700_0, f5700_1, f5700_2, f5700_3, f5700_4, f5700_5, f5700_6, rfl, t5700_0, t5700_1, t5700_2, t5700_3, rfl, rfl, rfl⟩ := hk5700
      have hP : va_P D vwCl [(w, .inr (8, [.ref (cs 450), .ref (cs 440), .ref (cs 441), .ref f5700_3, .int f5700_4, .int f5700_5, .int f5700_6]))] _ := va_P.cons hat5700 va_P.nil
      refine va_get (D := D) (ci := 8) (v := .ref (cs 441)) (C := RX8) (T := TX8) (N := 7) hx hb hts iX8_safest_8 hown hN.1 hP 0 rfl rfl 2 (by decide) (hts _ mX8_safest_2) (fun _ h9 => h9) rfl dX8_safest_50 ?_
      obtain ⟨hb5701, e5701, hat5701, hk5701⟩ := hT.o8 t5700_2.1
      obtain ⟨f5701_0, f5701_1, f5701_2, f5701_3, f5701_4, f5701_5, f5701_6, f5701_7, f5701_8, f5701_9, f5701_10, f5701_11, f5701_12, f5701_13, f5701_14, f5701_15, rfl, t5701_0, c5701_su, t5701_1, t5701_2, t5701_3, t5701_4, t5701_5, c5701_tm, c5701_lt, c5701_ml, c5701_pr, c5701_li⟩ := hk5701
      rw [t5700_2.2] at t5701_1
      rw [t5700_2.2] at t5701_2
      rw [t5700_2.2] at t5701_3
      rw [t5700_2.2] at t5701_4
      rw [t5700_2.2] at t5701_5
      rw [t5700_2.2] at c5701_lt c5701_ml c5701_pr c5701_li
      subst c5701_ml
      subst c5701_pr
      subst c5701_li
      have hP : va_P D vwCl [((cs 441), .inr (7, [.ref f5701_0, .ref f5701_1, .ref (cs (400 + 1)), .ref (cs (420 + 1)), .ref (cs (460 + 1)), .ref f5701_5, .long f5701_6, .int f5701_7, .int f5701_8, .int f5701_9, .int f5701_10, .int f5701_11, .int f5701_12, .int f5701_13, .int f5701_14, .int f5701_15])), (w, .inr (8, [.ref (cs 450), .ref (cs 440), .ref (cs 441), .ref f5700_3, .int f5700_4, .int f5700_5, .int f5700_6]))] _ := va_P.cons hat5701 hP
      refine va_getN (D := D) (ci := 7) (v := .ref (cs (420 + 1))) (C := RX7) (T := TX7) (N := 16) hx hb hts iX8_safest_7 hown hN.1 hP 0 rfl rfl 3 (by decide) (hN.f 48 rfl) (fun _ h9 => h9) rfl dX8_safest_53 ?_
      obtain ⟨hb5702, e5702, hat5702, hk5702⟩ := hT.o5 t5701_3.1
      obtain ⟨f5702_0, f5702_1, f5702_2, f5702_3, f5702_4, f5702_5, f5702_6, f5702_7, rfl, c5702⟩ := hk5702
      have hP : va_P D vwCl [((cs (420 + 1)), .inr (4, [.int f5702_0, .int f5702_1, .int f5702_2, .int f5702_3, .int f5702_4, .int f5702_5, .int f5702_6, .int f5702_7])), ((cs 441), .inr (7, [.ref f5701_0, .ref f5701_1, .ref (cs (400 + 1)), .ref (cs (420 + 1)), .ref (cs (460 + 1)), .ref f5701_5, .long f5701_6, .int f5701_7, .int f5701_8, .int f5701_9, .int f5701_10, .int f5701_11, .int f5701_12, .int f5701_13, .int f5701_14, .int f5701_15])), (w, .inr (8, [.ref (cs 450), .ref (cs 440), .ref (cs 441), .ref f5700_3, .int f5700_4, .int f5700_5, .int f5700_6]))] _ := va_P.cons hat5702 hP
      refine va_getN (D := D) (ci := 4) (v := .int f5702_5) (C := RX4) (T := TX4) (N := 8) hx hb hts iX8_safest_4 hown hN.1 hP 0 rfl rfl 5 (by decide) (hN.f 11 rfl) (fun _ h9 => h9) rfl dX8_safest_56 ?_
      refine lv_iconst (v := 1) hx hb dX8_safest_59 (by decide) ?_
      refine lv_icmp_ne (tgt := 82) hx hb dX8_safest_60 (by decide) (fun c5703 => ?_) (fun c5703 => ?_)
      · refine lv_iinc (v := (nI (k + 1))) (lv' := [(1, .int (nI (k + 1))), (0, .ref w)]) hx hb dX8_safest_82 hl (k := 0) rfl (nI_add _ 1) (by decide) rfl (fun ls hl => ?_)
        refine lv_goto (tgt := 14) hx hb dX8_safest_85 (by decide) ?_
        refine W.know (fun hgb => ?_)
        rw [hH0] at hgb
        refine W.widen (k := ((336 * sumN C 16 + 137000 - PotN LN) / 35)) (n := (336 * sumN C 16 + 137000 - PotN LN)) (show k5698 ≤ ((336 * sumN C 16 + 137000 - PotN LN) / 35) by omega) (show n5699 ≤ (336 * sumN C 16 + 137000 - PotN LN) by omega) ?_
        exact ih5671 ((k + 1), κr5692, L5693, k5698, n5699) _ _ _ (by show 61 - ((k + 1)) < 61 - k; omega) ⟨(by show ((k + 1)) ≤ 61; omega), hKW, hw, (hR.ce sf_e), hgb, hGN, hT, hL⟩ (lv_sub hl [0, 1] rfl)
      · refine lv_aload_n hx hb dX8_safest_63 rfl (lv_at hl 1 rfl) ?_
        refine va_get (D := D) (ci := 8) (v := .ref (cs 441)) (C := RX8) (T := TX8) (N := 7) hx hb hts iX8_safest_8 hown hN.1 hP 2 rfl rfl 2 (by decide) (hts _ mX8_safest_2) (fun _ h9 => h9) rfl dX8_safest_64 ?_
        refine va_getN (D := D) (ci := 7) (v := .int f5701_15) (C := RX7) (T := TX7) (N := 16) hx hb hts iX8_safest_7 hown hN.1 hP 1 rfl rfl 15 (by decide) (hN.f 52 rfl) (fun _ h9 => h9) rfl dX8_safest_67 ?_
        refine lv_aload_n hx hb dX8_safest_70 rfl (lv_at hl 1 rfl) ?_
        refine va_get (D := D) (ci := 8) (v := .ref (cs 440)) (C := RX8) (T := TX8) (N := 7) hx hb hts iX8_safest_8 hown hN.1 hP 2 rfl rfl 1 (by decide) (hts _ mX8_safest_1) (fun _ h9 => h9) rfl dX8_safest_71 ?_
        obtain ⟨hb5704, e5704, hat5704, hk5704⟩ := hT.o8 t5700_1.1
        obtain ⟨f5704_0, f5704_1, f5704_2, f5704_3, f5704_4, f5704_5, f5704_6, f5704_7, f5704_8, f5704_9, f5704_10, f5704_11, f5704_12, f5704_13, f5704_14, f5704_15, rfl, t5704_0, c5704_su, t5704_1, t5704_2, t5704_3, t5704_4, t5704_5, c5704_tm, c5704_lt, c5704_ml, c5704_pr, c5704_li⟩ := hk5704
        rw [t5700_1.2] at t5704_1
        rw [t5700_1.2] at t5704_2
        rw [t5700_1.2] at t5704_3
        rw [t5700_1.2] at t5704_4
        rw [t5700_1.2] at t5704_5
        rw [t5700_1.2] at c5704_lt c5704_ml c5704_pr c5704_li
        subst c5704_ml
        subst c5704_pr
        subst c5704_li
        have hP : va_P D vwCl [((cs 440), .inr (7, [.ref f5704_0, .ref f5704_1, .ref (cs (400 + 0)), .ref (cs (420 + 0)), .ref (cs (460 + 0)), .ref f5704_5, .long f5704_6, .int f5704_7, .int f5704_8, .int f5704_9, .int f5704_10, .int f5704_11, .int f5704_12, .int f5704_13, .int f5704_14, .int f5704_15])), ((cs (420 + 1)), .inr (4, [.int f5702_0, .int f5702_1, .int f5702_2, .int f5702_3, .int f5702_4, .int f5702_5, .int f5702_6, .int f5702_7])), ((cs 441), .inr (7, [.ref f5701_0, .ref f5701_1, .ref (cs (400 + 1)), .ref (cs (420 + 1)), .ref (cs (460 + 1)), .ref f5701_5, .long f5701_6, .int f5701_7, .int f5701_8, .int f5701_9, .int f5701_10, .int f5701_11, .int f5701_12, .int f5701_13, .int f5701_14, .int f5701_15])), (w, .inr (8, [.ref (cs 450), .ref (cs 440), .ref (cs 441), .ref f5700_3, .int f5700_4, .int f5700_5, .int f5700_6]))] _ := va_P.cons hat5704 hP
        refine va_getN (D := D) (ci := 7) (v := .int f5704_15) (C := RX7) (T := TX7) (N := 16) hx hb hts iX8_safest_7 hown hN.1 hP 0 rfl rfl 15 (by decide) (hN.f 52 rfl) (fun _ h9 => h9) rfl dX8_safest_74 ?_
        refine lv_icmp_ne (tgt := 82) hx hb dX8_safest_77 (by decide) (fun c5705 => ?_) (fun c5705 => ?_)
        · refine lv_iinc (v := (nI (k + 1))) (lv' := [(1, .int (nI (k + 1))), (0, .ref w)]) hx hb dX8_safest_82 hl (k := 0) rfl (nI_add _ 1) (by decide) rfl (fun ls hl => ?_)
          refine lv_goto (tgt := 14) hx hb dX8_safest_85 (by decide) ?_
          refine W.know (fun hgb => ?_)
          rw [hH0] at hgb
          refine W.widen (k := ((336 * sumN C 16 + 137000 - PotN LN) / 35)) (n := (336 * sumN C 16 + 137000 - PotN LN)) (show k5698 ≤ ((336 * sumN C 16 + 137000 - PotN LN) / 35) by omega) (show n5699 ≤ (336 * sumN C 16 + 137000 - PotN LN) by omega) ?_
          exact ih5671 ((k + 1), κr5692, L5693, k5698, n5699) _ _ _ (by show 61 - ((k + 1)) < 61 - k; omega) ⟨(by show ((k + 1)) ≤ 61; omega), hKW, hw, (hR.ce sf_e), hgb, hGN, hT, hL⟩ (lv_sub hl [0, 1] rfl)
        · refine lv_iload_n hx hb dX8_safest_80 rfl (lv_at hl 0 rfl) ?_
          refine W.know (fun hg => ?_)
          rw [hH0] at hg
          exact en_i hx hb hr hlocks hL rfl (show k5698 ≤ ((336 * sumN C 16 + 137000 - PotN LN) / 35) by omega) (show n5699 ≤ (336 * sumN C 16 + 137000 - PotN LN) by omega) dX8_safest_81 (⟨_, hKW, hT, C, _, _, _, Nat.le_add_right _ _, hR.ce sf_e, ⟨hg, hGN⟩⟩)
theorem mX8_meanError_1 : (.fieldLink RX8 19 "OneBeat" "now" "LOneBeat$World;" : Cond) ∈ wsX8_meanError := List.mem_of_getElem? (i := 1) (by decide +kernel)
theorem iX8_meanError_8 : ∀ w ∈ wsX80, w ∈ wsX8_meanError := fun w h => List.mem_of_mem_drop (List.mem_of_mem_take ((show wsX80 = (wsX8_meanError.drop 39).take 7 by decide +kernel) ▸ h))
theorem iX8_meanError_7 : ∀ w ∈ wsX70, w ∈ wsX8_meanError := fun w h => List.mem_of_mem_drop (List.mem_of_mem_take ((show wsX70 = (wsX8_meanError.drop 46).take 16 by decide +kernel) ▸ h))
theorem iX8_meanError_6 : ∀ w ∈ wsX60, w ∈ wsX8_meanError := fun w h => List.mem_of_mem_drop (List.mem_of_mem_take ((show wsX60 = (wsX8_meanError.drop 62).take 8 by decide +kernel) ▸ h))
theorem iX8_meanError_3 : ∀ w ∈ wsX30, w ∈ wsX8_meanError := fun w h => List.mem_of_mem_drop (List.mem_of_mem_take ((show wsX30 = (wsX8_meanError.drop 70).take 10 by decide +kernel) ▸ h))
theorem mX8_meanError_2 : (.methodLink RX8 172 Lib.Math.abs.name : Cond) ∈ wsX8_meanError := List.mem_of_getElem? (i := 2) (by decide +kernel)
theorem mX8_meanError_3 : (.static Lib.Math.abs.name : Cond) ∈ wsX8_meanError := List.mem_of_getElem? (i := 3) (by decide +kernel)
theorem mX8_meanError_4 : (.initialized "java/lang/Math" : Cond) ∈ wsX8_meanError := List.mem_of_getElem? (i := 4) (by decide +kernel)
theorem mX8_meanError_5 : (.code Lib.Math.abs.name Lib.Math.abs.code 1 (some .int) : Cond) ∈ wsX8_meanError := List.mem_of_getElem? (i := 5) (by decide +kernel)
set_option maxHeartbeats 4000000 in
set_option maxRecDepth 100000 in
theorem c_X8_meanError {l : Launch} {D : va_G} {cs : Nat → ClassId} {B0 T : Nat} {κ : KM} {H0 : Heap} (hT : WT B0 D cs T κ H0) {w : Nat} (hw : T2 κ w 9 13) {C : Nat → Nat} {LN : Nat → Nat → Nat} (hR : RQ D cs κ H0 C LN er) : KC l yX8_meanError wsX8_meanError 4 85 ((336 * sumN C 16 + 137000 - PotN LN) / 35) (336 * sumN C 16 + 137000 - PotN LN) D cs B0 H0 [.ref w] (Qd (fun _ H => ∃ κ1, KW κ κ1 ∧ WT B0 D cs T κ1 H ∧ ∃ C1 LN1 k n, sumN C1 16 ≤ sumN C 16 + 24 ∧ RQ D cs κ1 H C1 LN1 er ∧ GQ H0 H LN LN1 k n)) := by
  refine KC.of cX8_meanError 4 (some .double) (by decide) rfl (Nat.le_of_ble_eq_true rfl) ?_
  intro p e s m below meth c ls hx hb hr hml hown hts hlocks hin hN hE hH0 hl
  have hown : s.vm.findClass RX8 = some m.cls := hown
  have hl : lv_has ls 4 [(0, .ref w)] := hl
  have hL : OkL B0 [] := OkL.nil
  have hGN : 35 * 0 ≤ 0 ∧ 0 + PotN LN ≤ PotN LN := ⟨Nat.le_refl _, by omega⟩
  have hs0 := hR.pot
  refine lv_lconst (v := 0) hx hb dX8_meanError_0 (by decide) ?_
  refine lv_lstore_n (lv' := [(1, .long 0), (0, .ref w)]) hx hb dX8_meanError_1 rfl hl (by decide) rfl (fun ls hl => ?_)
  refine lv_iconst (v := 0) hx hb dX8_meanError_2 (by decide) ?_
  refine lv_istore_n (lv' := [(3, .int 0), (1, .long 0), (0, .ref w)]) hx hb dX8_meanError_3 rfl hl (by decide) rfl (fun ls hl => ?_)
  refine lp_m (α := Nat × Int64) (nL := 4) (fun a9 => 8 - a9.1) (fun a9 H9 l9 => (a9.1 ≤ 8) ∧ (RQ D cs κ H9 C LN er) ∧ (WT B0 D cs T κ H9) ∧ (OkL B0 l9)) (fun a9 => [(3, .int (nI a9.1)), (1, .long a9.2), (0, .ref w)]) ?_ (0, 0) _ _ _ ⟨(by show (0) ≤ 8; omega), hR, hT, hL⟩ (lv_sub hl [0, 1, 2] rfl)
  rintro ⟨p, y⟩ H locs ls ih5706 ⟨hp, hR, hT, hL⟩ hl
  have hl : lv_has ls 4 [(3, .int (nI p)), (1, .long y), (0, .ref w)] := hl
  have hp : p ≤ 8 := hp
  have hR : RQ D cs κ H C LN er := hR
  refine lv_iload_n hx hb dX8_meanError_4 rfl (lv_at hl 0 rfl) ?_
  refine lv_aload_n hx hb dX8_meanError_5 rfl (lv_at hl 2 rfl) ?_
  obtain ⟨hb5707, e5707, hat5707, hk5707⟩ := hT.o9 hw.1
  obtain ⟨f5707_0, f5707_1, f5707_2, f5707_3, f5707_4, f5707_5, f5707_6, rfl, t5707_0, t5707_1, t5707_2, t5707_3, rfl, rfl, rfl⟩ := hk5707
  have hP : va_P D vwCl [(w, .inr (8, [.ref (cs 450), .ref (cs 440), .ref (cs 441), .ref f5707_3, .int f5707_4, .int f5707_5, .int f5707_6]))] _ := va_P.cons hat5707 va_P.nil
  refine va_get (D := D) (ci := 8) (v := .ref (cs 440)) (C := RX8) (T := TX8) (N := 7) hx hb hts iX8_meanError_8 hown hN.1 hP 0 rfl rfl 1 (by decide) (hts _ mX8_meanError_1) (fun _ h9 => h9) rfl dX8_meanError_6 ?_
  obtain ⟨hb5708, e5708, hat5708, hk5708⟩ := hT.o8 t5707_1.1
  obtain ⟨f5708_0, f5708_1, f5708_2, f5708_3, f5708_4, f5708_5, f5708_6, f5708_7, f5708_8, f5708_9, f5708_10, f5708_11, f5708_12, f5708_13, f5708_14, f5708_15, rfl, t5708_0, c5708_su, t5708_1, t5708_2, t5708_3, t5708_4, t5708_5, c5708_tm, c5708_lt, c5708_ml, c5708_pr, c5708_li⟩ := hk5708
  rw [t5707_1.2] at t5708_1
  rw [t5707_1.2] at t5708_2
  rw [t5707_1.2] at t5708_3
  rw [t5707_1.2] at t5708_4
  rw [t5707_1.2] at t5708_5
  rw [t5707_1.2] at c5708_lt c5708_ml c5708_pr c5708_li
  subst c5708_ml
  subst c5708_pr
  subst c5708_li
  have hP : va_P D vwCl [((cs 440), .inr (7, [.ref f5708_0, .ref f5708_1, .ref (cs (400 + 0)), .ref (cs (420 + 0)), .ref (cs (460 + 0)), .ref f5708_5, .long f5708_6, .int f5708_7, .int f5708_8, .int f5708_9, .int f5708_10, .int f5708_11, .int f5708_12, .int f5708_13, .int f5708_14, .int f5708_15])), (w, .inr (8, [.ref (cs 450), .ref (cs 440), .ref (cs 441), .ref f5707_3, .int f5707_4, .int f5707_5, .int f5707_6]))] _ := va_P.cons hat5708 hP
  refine va_getN (D := D) (ci := 7) (v := .ref f5708_0) (C := RX7) (T := TX7) (N := 16) hx hb hts iX8_meanError_7 hown hN.1 hP 0 rfl rfl 0 (by decide) (hN.f 46 rfl) (fun _ h9 => h9) rfl dX8_meanError_9 ?_
  obtain ⟨hb5709, e5709, hat5709, hk5709⟩ := hT.o7 t5708_0.1
  obtain ⟨f5709_0, f5709_1, f5709_2, f5709_3, f5709_4, f5709_5, f5709_6, f5709_7, rfl, c5709_0, c5709_3, c5709_mg, t5709_4, t5709_5, t5709_6, t5709_7⟩ := hk5709
  rw [t5708_0.2] at t5709_4
  rw [t5708_0.2] at t5709_5
  rw [t5708_0.2] at t5709_6
  rw [t5708_0.2] at t5709_7
  have hP : va_P D vwCl [(f5708_0, .inr (6, [.int (nI f5709_0), .int f5709_1, .int f5709_2, f5709_3, .ref f5709_4, .ref f5709_5, .ref f5709_6, .ref f5709_7])), ((cs 440), .inr (7, [.ref f5708_0, .ref f5708_1, .ref (cs (400 + 0)), .ref (cs (420 + 0)), .ref (cs (460 + 0)), .ref f5708_5, .long f5708_6, .int f5708_7, .int f5708_8, .int f5708_9, .int f5708_10, .int f5708_11, .int f5708_12, .int f5708_13, .int f5708_14, .int f5708_15])), (w, .inr (8, [.ref (cs 450), .ref (cs 440), .ref (cs 441), .ref f5707_3, .int f5707_4, .int f5707_5, .int f5707_6]))] _ := va_P.cons hat5709 hP
  refine va_getN (D := D) (ci := 6) (v := .int (nI f5709_0)) (C := RX6) (T := TX6) (N := 8) hx hb hts iX8_meanError_6 hown hN.1 hP 0 rfl rfl 0 (by decide) (hN.f 37 rfl) (fun _ h9 => h9) rfl dX8_meanError_12 ?_
  refine lv_icmp_ge (tgt := 53) hx hb dX8_meanError_15 (by decide) (fun c5710 => ?_) (fun c5710 => ?_)
  · have c5710 : f5709_0 ≤ p := (nI_leI (a := f5709_0) (b := p) (by omega) (by omega)).mp c5710
    refine lv_aload_n hx hb dX8_meanError_53 rfl (lv_at hl 2 rfl) ?_
    refine va_get (D := D) (ci := 8) (v := .ref (cs 440)) (C := RX8) (T := TX8) (N := 7) hx hb hts iX8_meanError_8 hown hN.1 hP 2 rfl rfl 1 (by decide) (hts _ mX8_meanError_1) (fun _ h9 => h9) rfl dX8_meanError_54 ?_
    refine cv_i (As := []) (rest := []) (b := (cs 440)) ⟨hx, hb, hml, hown, hts⟩ (c_X7_countUp hT (w := (cs 440)) t5707_1) (cwV 0 hts gX8_meanError_X7_countUp rfl rfl rfl hdX7_countUp_v ⟨Nat.le_of_ble_eq_true rfl, Nat.le_of_ble_eq_true rfl⟩) hN hE hL (rcv8 hN hT t5707_1.1) rfl rfl hl.1 (Nat.le_of_ble_eq_true rfl) dX8_meanError_57 (Nat.zero_le _) (Nat.zero_le _) (fun r5711 H1 locs hL hqr5711 => ?_)
    obtain rfl := hqr5711.symm
    refine lv_istore_n (lv' := [(3, .int r5711), (1, .long y), (0, .ref w)]) hx hb dX8_meanError_60 rfl hl (by decide) rfl (fun ls hl => ?_)
    refine lv_iload_n hx hb dX8_meanError_61 rfl (lv_at hl 0 rfl) ?_
    refine lv_if_ne (tgt := 69) hx hb dX8_meanError_62 (by decide) (fun c5712 => ?_) (fun c5712 => ?_)
    · refine lv_lload_n hx hb dX8_meanError_69 rfl (lv_at hl 1 rfl) ?_
      refine lv_l2d hx hb dX8_meanError_70 ?_
      refine lv_iload_n hx hb dX8_meanError_71 rfl (lv_at hl 0 rfl) ?_
      refine lv_i2d hx hb dX8_meanError_72 ?_
      refine lv_ddiv hx hb dX8_meanError_73 (dd_l y c5712) ?_
      refine gn_d (fun z5713 => ?_)
      refine W.know (fun hg => ?_)
      rw [hH0] at hg
      exact en_d hx hb hr hlocks hL (Nat.zero_le _) (Nat.zero_le _) dX8_meanError_74 (⟨κ, KW.rf, hT, C, LN, 0, 0, Nat.le_add_right _ _, hR, ⟨hg, hGN⟩⟩)
    · refine lv_dconst0 hx hb dX8_meanError_65 ?_
      refine gn_d (fun z5714 => ?_)
      refine lv_goto (tgt := 74) hx hb dX8_meanError_66 (by decide) ?_
      refine W.know (fun hg => ?_)
      rw [hH0] at hg
      exact en_d hx hb hr hlocks hL (Nat.zero_le _) (Nat.zero_le _) dX8_meanError_74 (⟨κ, KW.rf, hT, C, LN, 0, 0, Nat.le_add_right _ _, hR, ⟨hg, hGN⟩⟩)
  · have c5710 : ¬ f5709_0 ≤ p := fun h9 => c5710 ((nI_leI (a := f5709_0) (b := p) (by omega) (by omega)).mpr h9)
    refine lv_aload_n hx hb dX8_meanError_18 rfl (lv_at hl 2 rfl) ?_
    refine va_get (D := D) (ci := 8) (v := .ref (cs 440)) (C := RX8) (T := TX8) (N := 7) hx hb hts iX8_meanError_8 hown hN.1 hP 2 rfl rfl 1 (by decide) (hts _ mX8_meanError_1) (fun _ h9 => h9) rfl dX8_meanError_19 ?_
    refine lv_iload_n hx hb dX8_meanError_22 rfl (lv_at hl 0 rfl) ?_
    refine cv_r (As := [.int (nI p)]) (rest := []) (b := (cs 440)) ⟨hx, hb, hml, hown, hts⟩ (c_X7_at hT (w := (cs 440)) t5707_1 (x := (nI p))) (cwV 1 hts gX8_meanError_X7_at rfl rfl rfl hdX7_at_v ⟨Nat.le_of_ble_eq_true rfl, Nat.le_of_ble_eq_true rfl⟩) hN hE hL (rcv8 hN hT t5707_1.1) rfl rfl hl.1 (Nat.le_of_ble_eq_true rfl) dX8_meanError_23 (Nat.zero_le _) (Nat.zero_le _) (fun r5715 H1 locs hL hqr5715 => ?_)
    obtain ⟨h9, hqr5715⟩ := hqr5715; replace h9 := h9.symm; subst h9
    obtain ⟨hb5716, e5716, hat5716, hk5716⟩ := hT.o4 hqr5715.1
    obtain ⟨f5716_0, f5716_1, f5716_2, f5716_3, f5716_4, f5716_5, f5716_6, f5716_7, f5716_8, f5716_9, rfl, c5716_up⟩ := hk5716
    have hP : va_P D vwCl [(r5715, .inr (3, [.int f5716_0, .int f5716_1, .int f5716_2, .int f5716_3, .int f5716_4, .int f5716_5, .int f5716_6, .int f5716_7, .int f5716_8, .int f5716_9])), (f5708_0, .inr (6, [.int (nI f5709_0), .int f5709_1, .int f5709_2, f5709_3, .ref f5709_4, .ref f5709_5, .ref f5709_6, .ref f5709_7])), ((cs 440), .inr (7, [.ref f5708_0, .ref f5708_1, .ref (cs (400 + 0)), .ref (cs (420 + 0)), .ref (cs (460 + 0)), .ref f5708_5, .long f5708_6, .int f5708_7, .int f5708_8, .int f5708_9, .int f5708_10, .int f5708_11, .int f5708_12, .int f5708_13, .int f5708_14, .int f5708_15])), (w, .inr (8, [.ref (cs 450), .ref (cs 440), .ref (cs 441), .ref f5707_3, .int f5707_4, .int f5707_5, .int f5707_6]))] _ := va_P.cons hat5716 hP
    refine va_getN (D := D) (ci := 3) (v := .int f5716_0) (C := RX3) (T := TX3) (N := 10) hx hb hts iX8_meanError_3 hown hN.1 hP 0 rfl rfl 0 (by decide) (hN.f 28 rfl) (fun _ h9 => h9) rfl dX8_meanError_26 ?_
    refine lv_if_eq (tgt := 47) hx hb dX8_meanError_29 (by decide) (fun c5717 => ?_) (fun c5717 => ?_)
    · refine lv_iinc (v := (nI (p + 1))) (lv' := [(3, .int (nI (p + 1))), (1, .long y), (0, .ref w)]) hx hb dX8_meanError_47 hl (k := 0) rfl (nI_add _ 1) (by decide) rfl (fun ls hl => ?_)
      refine lv_goto (tgt := 4) hx hb dX8_meanError_50 (by decide) ?_
      exact ih5706 ((p + 1), y) _ _ _ (by show 8 - ((p + 1)) < 8 - p; omega) ⟨(by show ((p + 1)) ≤ 8; omega), hR, hT, hL⟩ (lv_sub hl [0, 1, 2] rfl)
    · refine lv_lload_n hx hb dX8_meanError_32 rfl (lv_at hl 1 rfl) ?_
      refine lv_aload_n hx hb dX8_meanError_33 rfl (lv_at hl 2 rfl) ?_
      refine va_get (D := D) (ci := 8) (v := .ref (cs 440)) (C := RX8) (T := TX8) (N := 7) hx hb hts iX8_meanError_8 hown hN.1 hP 3 rfl rfl 1 (by decide) (hts _ mX8_meanError_1) (fun _ h9 => h9) rfl dX8_meanError_34 ?_
      refine lv_iload_n hx hb dX8_meanError_37 rfl (lv_at hl 0 rfl) ?_
      refine cv_i (As := [.int (nI p)]) (rest := [.long y]) (b := (cs 440)) ⟨hx, hb, hml, hown, hts⟩ (c_X7_error hT (w := (cs 440)) t5707_1 (x := (nI p))) (cwV 1 hts gX8_meanError_X7_error rfl rfl rfl hdX7_error_v ⟨Nat.le_of_ble_eq_true rfl, Nat.le_of_ble_eq_true rfl⟩) hN hE hL (rcv8 hN hT t5707_1.1) rfl rfl hl.1 (Nat.le_of_ble_eq_true rfl) dX8_meanError_38 (Nat.zero_le _) (Nat.zero_le _) (fun r5718 H1 locs hL hqr5718 => ?_)
      obtain rfl := hqr5718.symm
      refine va_mabs hx hb (hml.trans hl.1.symm) hown (hts _ mX8_meanError_2) (hts _ mX8_meanError_3) (hts _ mX8_meanError_4) (hts _ mX8_meanError_5) (Nat.le_of_ble_eq_true rfl) (Nat.le_of_ble_eq_true rfl) (Nat.zero_le _) (Nat.zero_le _) dX8_meanError_41 ?_
      refine gn_i (fun x5719 => ?_)
      refine lv_i2l hx hb dX8_meanError_44 rfl ?_
      refine gn_l (fun y5720 => ?_)
      refine lv_ladd hx hb dX8_meanError_45 ?_
      refine gn_l (fun y5721 => ?_)
      refine lv_lstore_n (lv' := [(1, .long y5721), (3, .int (nI p)), (0, .ref w)]) hx hb dX8_meanError_46 rfl hl (by decide) rfl (fun ls hl => ?_)
      refine lv_iinc (v := (nI (p + 1))) (lv' := [(3, .int (nI (p + 1))), (1, .long y5721), (0, .ref w)]) hx hb dX8_meanError_47 hl (k := 1) rfl (nI_add _ 1) (by decide) rfl (fun ls hl => ?_)
      refine lv_goto (tgt := 4) hx hb dX8_meanError_50 (by decide) ?_
      exact ih5706 ((p + 1), y5721) _ _ _ (by show 8 - ((p + 1)) < 8 - p; omega) ⟨(by show ((p + 1)) ≤ 8; omega), hR, hT, hL⟩ (lv_sub hl [0, 1, 2] rfl)
theorem mX8_checksum_2 : (.fieldLink RX8 19 "OneBeat" "now" "LOneBeat$World;" : Cond) ∈ wsX8_checksum := List.mem_of_getElem? (i := 2) (by decide +kernel)
theorem iX8_checksum_8 : ∀ w ∈ wsX80, w ∈ wsX8_checksum := fun w h => List.mem_of_mem_drop (List.mem_of_mem_take ((show wsX80 = (wsX8_checksum.drop 156).take 7 by decide +kernel) ▸ h))
theorem iX8_checksum_7 : ∀ w ∈ wsX70, w ∈ wsX8_checksum := fun w h => List.mem_of_mem_drop (List.mem_of_mem_take ((show wsX70 = (wsX8_checksum.drop 163).take 16 by decide +kernel) ▸ h))
theorem iX8_checksum_6 : ∀ w ∈ wsX60, w ∈ wsX8_checksum := fun w h => List.mem_of_mem_drop (List.mem_of_mem_take ((show wsX60 = (wsX8_checksum.drop 179).take 8 by decide +kernel) ▸ h))
theorem iX8_checksum_2 : ∀ w ∈ wsX20, w ∈ wsX8_checksum := fun w h => List.mem_of_mem_drop (List.mem_of_mem_take ((show wsX20 = (wsX8_checksum.drop 187).take 3 by decide +kernel) ▸ h))
theorem mX8_checksum_1 : (.constantLong RX8 228 (31) : Cond) ∈ wsX8_checksum := List.mem_of_getElem? (i := 1) (by decide +kernel)
