set_option maxHeartbeats 4000000 in
set_option maxRecDepth 100000 in
theorem c_X7_startProposal {l : Launch} {D : va_G} {cs : Nat → ClassId} {B0 T : Nat} {κ : KM} {H0 : Heap} (hT : WT B0 D cs T κ H0) {w i : Nat} (hw : T2 κ w 8 i) {x y : Int32} {C cn ln : Nat → Nat} {rw9 : Nat → Nat → Int32} {dl : Nat → Int32} {su tm : Nat} (hsu : (κ w).2.2.1 = su) (htm : (κ w).2.2.2 = tm) (hMW : MW D cs H0 i su tm C cn ln rw9 dl) (hz : EE C dl cn rw9 0 0 ≤ 0) : KC l yX7_startProposal wsX7_startProposal 5 155 ((56 * sumN C 16 + 22407 - 2 * sumN ln 16) / 35) (56 * sumN C 16 + 22407 - 2 * sumN ln 16) D cs B0 H0 [.ref w, .int x, .int y] (Qv (fun H => ∃ κ1, KU i κ κ1 ∧ WT B0 D cs T κ1 H ∧ Fr B0 [i, i + 20] κ H0 H ∧ ∃ cn1 ln1 rw1 k n, MW D cs H i su tm C cn1 ln1 rw1 dl ∧ GP H0 H ln ln1 k n ∧ (κ1 w).2.2.1 = su ∧ (κ1 w).2.2.2 = tm ∧ EL C dl cn1 rw1 0 0 (κ1 (cs (420 + i))).2.2.1 24)) := by
  refine KC.of cX7_startProposal 3 none (by decide) rfl (Nat.le_of_ble_eq_true rfl) ?_
  intro p e s m below meth c ls hx hb hr hml hown hts hlocks hin hN hE hH0 hl
  have hown : s.vm.findClass RX7 = some m.cls := hown
  have hl : lv_has ls 3 [(0, .ref w), (1, .int x), (2, .int y)] := hl
  have hL : OkL B0 [] := OkL.nil
  have hF : Fr B0 [i, i + 20] κ H0 H0 := Fr.rf
  obtain ⟨hmk, hpr, hli, -, hi10⟩ := hT.ml hw
  have ht16 := hMW.2.2.2
  have h15a : ¬ 15 = i := by omega
  have h15b : ¬ 15 = i + 20 := by omega
  have h15c : ¬ 15 = i + 40 := by omega
  have hGN : GN ln ln 0 0 := GN.rf
  have hs0 := hMW.2.2.1.sum
  refine lv_aload_n hx hb dX7_startProposal_0 rfl (lv_at hl 0 rfl) ?_
  obtain ⟨hb5346, e5346, hat5346, hk5346⟩ := hT.o8 hw.1
  obtain ⟨f5346_0, f5346_1, f5346_2, f5346_3, f5346_4, f5346_5, f5346_6, f5346_7, f5346_8, f5346_9, f5346_10, f5346_11, f5346_12, f5346_13, f5346_14, f5346_15, rfl, t5346_0, c5346_su, t5346_1, t5346_2, t5346_3, t5346_4, t5346_5, c5346_tm, c5346_lt, c5346_ml, c5346_pr, c5346_li⟩ := hk5346
  rw [hw.2] at t5346_1
  rw [hw.2] at t5346_2
  rw [hw.2] at t5346_3
  rw [hw.2] at t5346_4
  rw [hw.2] at t5346_5
  rw [hw.2] at c5346_lt c5346_ml c5346_pr c5346_li
  subst c5346_ml
  subst c5346_pr
  subst c5346_li
  have esu5346 := (c5346_su.trans hsu).symm
  subst esu5346
  have ctm5346 : f5346_7 &&& 15 = nI tm := by rw [c5346_tm, htm]
  have hP : va_P D vwCl [(w, .inr (7, [.ref su, .ref f5346_1, .ref (cs (400 + i)), .ref (cs (420 + i)), .ref (cs (460 + i)), .ref f5346_5, .long f5346_6, .int f5346_7, .int f5346_8, .int f5346_9, .int f5346_10, .int f5346_11, .int f5346_12, .int f5346_13, .int f5346_14, .int f5346_15]))] _ := va_P.cons hat5346 va_P.nil
  refine va_get (D := D) (ci := 7) (v := .ref (cs (420 + i))) (C := RX7) (T := TX7) (N := 16) hx hb hts iX7_startProposal_7 hown hN.1 hP 0 rfl rfl 3 (by decide) (hts _ mX7_startProposal_1) (fun _ h9 => h9) rfl dX7_startProposal_1 ?_
  refine lv_iload_n hx hb dX7_startProposal_4 rfl (lv_at hl 1 rfl) ?_
  refine lv_aload_n hx hb dX7_startProposal_5 rfl (lv_at hl 0 rfl) ?_
  refine lv_aload_n hx hb dX7_startProposal_6 rfl (lv_at hl 0 rfl) ?_
  refine va_get (D := D) (ci := 7) (v := .int f5346_8) (C := RX7) (T := TX7) (N := 16) hx hb hts iX7_startProposal_7 hown hN.1 hP 0 rfl rfl 8 (by decide) (hts _ mX7_startProposal_2) (fun _ h9 => h9) rfl dX7_startProposal_7 ?_
  refine cv_i (As := [.int f5346_8]) (rest := [.int x, .ref (cs (420 + i))]) (b := w) ⟨hx, hb, hml, hown, hts⟩ (c_X7_clock hT (w := w) hw (x := f5346_8)) (cwV 1 hts gX7_startProposal_X7_clock rfl rfl rfl hdX7_clock_v ⟨Nat.le_of_ble_eq_true rfl, Nat.le_of_ble_eq_true rfl⟩) hN hE hL (rcv8 hN hT hw.1) rfl rfl hl.1 (Nat.le_of_ble_eq_true rfl) dX7_startProposal_10 (Nat.zero_le _) (Nat.zero_le _) (fun r5347 H1 locs hL hqr5347 => ?_)
  obtain rfl := hqr5347.symm
  refine lv_iload_n hx hb dX7_startProposal_13 rfl (lv_at hl 2 rfl) ?_
  refine lv_iadd hx hb dX7_startProposal_14 ?_
  refine gn_i (fun x5348 => ?_)
  refine lv_aload_n hx hb dX7_startProposal_15 rfl (lv_at hl 0 rfl) ?_
  refine va_get (D := D) (ci := 7) (v := .int f5346_7) (C := RX7) (T := TX7) (N := 16) hx hb hts iX7_startProposal_7 hown hN.1 hP 0 rfl rfl 7 (by decide) (hts _ mX7_startProposal_3) (fun _ h9 => h9) rfl dX7_startProposal_16 ?_
  refine lv_aload_n hx hb dX7_startProposal_19 rfl (lv_at hl 0 rfl) ?_
  refine va_get (D := D) (ci := 7) (v := .ref su) (C := RX7) (T := TX7) (N := 16) hx hb hts iX7_startProposal_7 hown hN.1 hP 0 rfl rfl 0 (by decide) (hts _ mX7_startProposal_4) (fun _ h9 => h9) rfl dX7_startProposal_20 ?_
  obtain ⟨hb5349, e5349, hat5349, hk5349⟩ := hT.o7 t5346_0.1
  obtain ⟨f5349_0, f5349_1, f5349_2, f5349_3, f5349_4, f5349_5, f5349_6, f5349_7, rfl, c5349_0, c5349_3, c5349_mg, t5349_4, t5349_5, t5349_6, t5349_7⟩ := hk5349
  rw [t5346_0.2] at t5349_4
  rw [t5346_0.2] at t5349_5
  rw [t5346_0.2] at t5349_6
  rw [t5346_0.2] at t5349_7
  have hP : va_P D vwCl [(su, .inr (6, [.int (nI f5349_0), .int f5349_1, .int f5349_2, f5349_3, .ref f5349_4, .ref f5349_5, .ref f5349_6, .ref f5349_7])), (w, .inr (7, [.ref su, .ref f5346_1, .ref (cs (400 + i)), .ref (cs (420 + i)), .ref (cs (460 + i)), .ref f5346_5, .long f5346_6, .int f5346_7, .int f5346_8, .int f5346_9, .int f5346_10, .int f5346_11, .int f5346_12, .int f5346_13, .int f5346_14, .int f5346_15]))] _ := va_P.cons hat5349 hP
  refine va_getN (D := D) (ci := 6) (v := .int f5349_2) (C := RX6) (T := TX6) (N := 8) hx hb hts iX7_startProposal_6 hown hN.1 hP 0 rfl rfl 2 (by decide) (hN.f 43 rfl) (fun _ h9 => h9) rfl dX7_startProposal_23 ?_
  refine lv_iadd hx hb dX7_startProposal_26 ?_
  refine gn_i (fun x5350 => ?_)
  refine lv_aload_n hx hb dX7_startProposal_27 rfl (lv_at hl 0 rfl) ?_
  refine va_get (D := D) (ci := 7) (v := .int f5346_8) (C := RX7) (T := TX7) (N := 16) hx hb hts iX7_startProposal_7 hown hN.1 hP 1 rfl rfl 8 (by decide) (hts _ mX7_startProposal_2) (fun _ h9 => h9) rfl dX7_startProposal_28 ?_
  refine cv_v (As := [.int x, .int x5348, .int x5350, .int f5346_8]) (rest := []) (b := (cs (420 + i))) ⟨hx, hb, hml, hown, hts⟩ (c_X4_start hT (w := (cs (420 + i))) t5346_3 (x := x) (y := x5348) (z := x5350) (u := f5346_8)) (cwV 4 hts gX7_startProposal_X4_start rfl rfl rfl hdX4_start_v ⟨Nat.le_of_ble_eq_true rfl, Nat.le_of_ble_eq_true rfl⟩) hN hE hL (rcv5 hN hT t5346_3.1) rfl rfl hl.1 (Nat.le_of_ble_eq_true rfl) dX7_startProposal_31 (Nat.zero_le _) (Nat.zero_le _) (fun H1 locs hL hqr5351 => ?_)
  obtain ⟨hT1, hF1⟩ := hqr5351
  have hMW := hMW.fr hT hw hsu hF1 (by first | (simp; done) | (simp [h15a, h15b, h15c]; done) | (simp; omega) | omega) (by first | (simp; done) | (simp [h15a, h15b, h15c]; done) | (simp; omega) | omega)
  have hF := hF.tr (hF1.mono (by simp))
  have hT := hT1
  obtain ⟨κ5352, hκ5352⟩ : ∃ κq : KM, κq = (kp κ (cs (420 + i)) 0 (κ (cs (420 + i))).2.2.2) := ⟨_, rfl⟩
  rw [← hκ5352] at hT
  have hxf5352 : KF κ κ5352 := by rw [hκ5352]; exact KF.kp
  have hKF : KF κ κ5352 := hxf5352
  have hKU : KU i κ κ5352 := (show KU i κ κ5352 by rw [hκ5352]; exact KU.kp t5346_3)
  have hkw9 : κ5352 w = κ w := by rw [hκ5352]; exact kp_n (by first | exact ne_c hw.1 t5346_3.1 (by decide) | exact ne_o hw.2 t5346_3.2 (by first | assumption | exact (fun e9 => hij e9.symm) | omega))
  rw [← hkw9] at hsu htm
  have hw := (KF.t2 hxf5352 hw (by decide))
  have hpr := (KF.t2 hxf5352 hpr (by decide))
  have hmk := (KF.t2 hxf5352 hmk (by decide))
  have hli := (KF.t2 hxf5352 hli (by decide))
  have hkpa : (κ5352 (cs (420 + i))).2.2.1 = 0 := by rw [hκ5352, kp_a]
  refine lv_aload_n hx hb dX7_startProposal_34 rfl (lv_at hl 0 rfl) ?_
  refine lv_dup hx hb dX7_startProposal_35 rfl ?_
  obtain ⟨hb5353, e5353, hat5353, hk5353⟩ := hT.o8 hw.1
  obtain ⟨f5353_0, f5353_1, f5353_2, f5353_3, f5353_4, f5353_5, f5353_6, f5353_7, f5353_8, f5353_9, f5353_10, f5353_11, f5353_12, f5353_13, f5353_14, f5353_15, rfl, t5353_0, c5353_su, t5353_1, t5353_2, t5353_3, t5353_4, t5353_5, c5353_tm, c5353_lt, c5353_ml, c5353_pr, c5353_li⟩ := hk5353
  rw [hw.2] at t5353_1
  rw [hw.2] at t5353_2
  rw [hw.2] at t5353_3
  rw [hw.2] at t5353_4
  rw [hw.2] at t5353_5
  rw [hw.2] at c5353_lt c5353_ml c5353_pr c5353_li
  subst c5353_ml
  subst c5353_pr
  subst c5353_li
  have esu5353 := (c5353_su.trans hsu).symm
  subst esu5353
  have ctm5353 : f5353_7 &&& 15 = nI tm := by rw [c5353_tm, htm]
  have hP : va_P D vwCl [(w, .inr (7, [.ref su, .ref f5353_1, .ref (cs (400 + i)), .ref (cs (420 + i)), .ref (cs (460 + i)), .ref f5353_5, .long f5353_6, .int f5353_7, .int f5353_8, .int f5353_9, .int f5353_10, .int f5353_11, .int f5353_12, .int f5353_13, .int f5353_14, .int f5353_15]))] _ := va_P.cons hat5353 va_P.nil
  refine va_get (D := D) (ci := 7) (v := .int f5353_11) (C := RX7) (T := TX7) (N := 16) hx hb hts iX7_startProposal_7 hown hN.1 hP 0 rfl rfl 11 (by decide) (hts _ mX7_startProposal_5) (fun _ h9 => h9) rfl dX7_startProposal_36 ?_
  refine lv_iconst (v := 1) hx hb dX7_startProposal_39 (by decide) ?_
  refine lv_iadd hx hb dX7_startProposal_40 ?_
  refine gn_i (fun x5354 => ?_)
  have hB : Bx B0 D _ [(w, .inr (7, [.ref su, .ref f5353_1, .ref (cs (400 + i)), .ref (cs (420 + i)), .ref (cs (460 + i)), .ref f5353_5, .long f5353_6, .int f5353_7, .int f5353_8, .int f5353_9, .int f5353_10, .int f5353_11, .int f5353_12, .int f5353_13, .int f5353_14, .int f5353_15]))] [] _ _ := Bx.of (fun a => (κ5352 a).1) hL hP (fa_c hb5353 fa_n) (by simp only [List.map_cons, List.map_nil, hw.1]; decide)
  refine b_put (D := D) (ci := 7) (v := .int x5354) (ty := .int) (C := RX7) (T := TX7) (N := 16) hx hb hts iX7_startProposal_7 tyX7 tyX7_ok nmX7 hown hN hB 0 rfl rfl 11 (by decide) (hts _ mX7_startProposal_5) (fun _ h9 => h9) rfl (by decide +kernel) rfl rfl (Nat.le_of_ble_eq_true rfl) (.inl rfl) dX7_startProposal_41 (fun H locs hB => ?_)
  have hB : Bx B0 D _ [(w, .inr (7, [.ref su, .ref f5353_1, .ref (cs (400 + i)), .ref (cs (420 + i)), .ref (cs (460 + i)), .ref f5353_5, .long f5353_6, .int f5353_7, .int f5353_8, .int f5353_9, .int f5353_10, .int x5354, .int f5353_12, .int f5353_13, .int f5353_14, .int f5353_15]))] [w] _ _ := hB
  refine lv_aload_n hx hb dX7_startProposal_44 rfl (lv_at hl 0 rfl) ?_
  refine lv_aload_n hx hb dX7_startProposal_45 rfl (lv_at hl 0 rfl) ?_
  refine va_get (D := D) (ci := 7) (v := .int f5353_8) (C := RX7) (T := TX7) (N := 16) hx hb hts iX7_startProposal_7 hown hN.1 hB.1 0 rfl rfl 8 (by decide) (hts _ mX7_startProposal_2) (fun _ h9 => h9) rfl dX7_startProposal_46 ?_
  have hMW := hMW.fr hT hw hsu (Fr.close (S := [i]) Fr.rf hB (fa_c (by simp [hw.2]) fa_n)) (by first | (simp; done) | (simp [h15a, h15b, h15c]; done) | (simp; omega) | omega) (by first | (simp; done) | (simp [h15a, h15b, h15c]; done) | (simp; omega) | omega)
  have hT : WT B0 D cs T κ5352 _ := hT.close hB ⟨⟨0, _, rfl, ok_8 hw.1 ⟨_, _, _, _, _, _, _, _, _, _, _, _, _, _, _, _, rfl, t5353_0, c5353_su, ⟨t5353_1.1, by rw [hw.2]; exact t5353_1.2⟩, ⟨t5353_2.1, by rw [hw.2]; exact t5353_2.2⟩, ⟨t5353_3.1, by rw [hw.2]; exact t5353_3.2⟩, ⟨t5353_4.1, by rw [hw.2]; exact t5353_4.2⟩, ⟨t5353_5.1, by rw [hw.2]; exact t5353_5.2⟩, c5353_tm, (by rw [hw.2]; omega), (by first | rw [hw.2] | (dsimp only; rw [hw.2])), (by first | rw [hw.2] | (dsimp only; rw [hw.2])), (by first | rw [hw.2] | (dsimp only; rw [hw.2]))⟩⟩, trivial⟩
  have hF : Fr B0 [i, i + 20] κ H0 _ := hF.closeN hB (fa_c (fun h9 => by rw [← (hKF _ h9).2, hw.2]; simp) fa_n)
  have hL : OkL B0 _ := hB.2.2.2.2.2
  have hP : va_P D vwCl [(w, .inr (7, [.ref su, .ref f5353_1, .ref (cs (400 + i)), .ref (cs (420 + i)), .ref (cs (460 + i)), .ref f5353_5, .long f5353_6, .int f5353_7, .int f5353_8, .int f5353_9, .int f5353_10, .int x5354, .int f5353_12, .int f5353_13, .int f5353_14, .int f5353_15]))] _ := hB.1
  refine cv_r (As := [.int f5353_8]) (rest := []) (b := w) ⟨hx, hb, hml, hown, hts⟩ (c_X7_at hT (w := w) hw (x := f5353_8)) (cwV 1 hts gX7_startProposal_X7_at rfl rfl rfl hdX7_at_v ⟨Nat.le_of_ble_eq_true rfl, Nat.le_of_ble_eq_true rfl⟩) hN hE hL (rcv8 hN hT hw.1) rfl rfl hl.1 (Nat.le_of_ble_eq_true rfl) dX7_startProposal_49 (Nat.zero_le _) (Nat.zero_le _) (fun r5355 H1 locs hL hqr5355 => ?_)
  obtain ⟨h9, hqr5355⟩ := hqr5355; replace h9 := h9.symm; subst h9
  refine lv_aload_n hx hb dX7_startProposal_52 rfl (lv_at hl 0 rfl) ?_
  refine va_get (D := D) (ci := 7) (v := .int x5354) (C := RX7) (T := TX7) (N := 16) hx hb hts iX7_startProposal_7 hown hN.1 hP 0 rfl rfl 11 (by decide) (hts _ mX7_startProposal_5) (fun _ h9 => h9) rfl dX7_startProposal_53 ?_
  refine lv_iconst (v := 1) hx hb dX7_startProposal_56 (by decide) ?_
  refine lv_isub hx hb dX7_startProposal_57 ?_
  refine gn_i (fun x5356 => ?_)
  refine lv_iload_n hx hb dX7_startProposal_58 rfl (lv_at hl 1 rfl) ?_
  refine lv_aload_n hx hb dX7_startProposal_59 rfl (lv_at hl 0 rfl) ?_
  refine va_get (D := D) (ci := 7) (v := .ref (cs (420 + i))) (C := RX7) (T := TX7) (N := 16) hx hb hts iX7_startProposal_7 hown hN.1 hP 0 rfl rfl 3 (by decide) (hts _ mX7_startProposal_1) (fun _ h9 => h9) rfl dX7_startProposal_60 ?_
  obtain ⟨hb5357, e5357, hat5357, hk5357⟩ := hT.o5 t5353_3.1
  obtain ⟨f5357_0, f5357_1, f5357_2, f5357_3, f5357_4, f5357_5, f5357_6, f5357_7, rfl, c5357⟩ := hk5357
  have hP : va_P D vwCl [((cs (420 + i)), .inr (4, [.int f5357_0, .int f5357_1, .int f5357_2, .int f5357_3, .int f5357_4, .int f5357_5, .int f5357_6, .int f5357_7])), (w, .inr (7, [.ref su, .ref f5353_1, .ref (cs (400 + i)), .ref (cs (420 + i)), .ref (cs (460 + i)), .ref f5353_5, .long f5353_6, .int f5353_7, .int f5353_8, .int f5353_9, .int f5353_10, .int x5354, .int f5353_12, .int f5353_13, .int f5353_14, .int f5353_15]))] _ := va_P.cons hat5357 hP
  refine va_getN (D := D) (ci := 4) (v := .int f5357_1) (C := RX4) (T := TX4) (N := 8) hx hb hts iX7_startProposal_4 hown hN.1 hP 0 rfl rfl 1 (by decide) (hN.f 7 rfl) (fun _ h9 => h9) rfl dX7_startProposal_63 ?_
  refine lv_iconst (v := 1) hx hb dX7_startProposal_66 (by decide) ?_
  refine cv_v (As := [.int x5356, .int x, .int f5357_1, .int 1]) (rest := []) (b := r5355) ⟨hx, hb, hml, hown, hts⟩ (c_X3_takePlan hT (w := r5355) hqr5355 (x := x5356) (y := x) (z := f5357_1) (u := 1)) (cwV 4 hts gX7_startProposal_X3_takePlan rfl rfl rfl hdX3_takePlan_v ⟨Nat.le_of_ble_eq_true rfl, Nat.le_of_ble_eq_true rfl⟩) hN hE hL (rcv4 hN hT hqr5355.1) rfl rfl hl.1 (Nat.le_of_ble_eq_true rfl) dX7_startProposal_67 (Nat.zero_le _) (Nat.zero_le _) (fun H1 locs hL hqr5358 => ?_)
  obtain ⟨hT1, hF1⟩ := hqr5358
  have hMW := hMW.fr hT hw hsu hF1 (by first | (simp; done) | (simp [h15a, h15b, h15c]; done) | (simp; omega) | omega) (by first | (simp; done) | (simp [h15a, h15b, h15c]; done) | (simp; omega) | omega)
  have hF := hF.tr ((hF1.kf hKF).mono (by simp))
  have hT := hT1
  refine lv_aload_n hx hb dX7_startProposal_70 rfl (lv_at hl 0 rfl) ?_
  refine lv_iconst (v := 2) hx hb dX7_startProposal_71 (by decide) ?_
  refine W.know (fun hgb => ?_)
  rw [hH0] at hgb
  refine cv_v (As := [.int 2]) (rest := []) (b := w) ⟨hx, hb, hml, hown, hts⟩ (c_X7_sendToOthers_d2 hT (w := w) hw (x := 2) hsu htm hMW (q0 := 0) (pl := 0) (by omega)) (cwV 1 hts gX7_startProposal_X7_sendToOthers rfl rfl rfl hdX7_sendToOthers_v ⟨Nat.le_of_ble_eq_true rfl, Nat.le_of_ble_eq_true rfl⟩) hN hE hL (rcv8 hN hT hw.1) rfl rfl hl.1 (Nat.le_of_ble_eq_true rfl) dX7_startProposal_72 (show 0 + ((56 * sumN C 16 + 22407 - 2 * sumN ln 16) / 35) ≤ ((56 * sumN C 16 + 22407 - 2 * sumN ln 16) / 35) by omega) (show 0 + (56 * sumN C 16 + 22407 - 2 * sumN ln 16) ≤ (56 * sumN C 16 + 22407 - 2 * sumN ln 16) by omega) (fun H1 locs hL hqr5359 => ?_)
  obtain ⟨κr5359, hxr5359, hT1, hF1, hqr5359⟩ := hqr5359
  have hTo := hT
  have hwo := hw
  have hsuo := hsu
  have hF9 := hF1
  have hF := hF.tr ((hF1.kf hKF).mono (by simp))
  have hT := hT1
  have hKF := hKF.tr hxr5359.f
  have hKU : KU i κ κr5359 := hKU.tr (KX.u (i := i) hxr5359)
  have hkw9 : κr5359 w = κ5352 w := hxr5359 w (by rw [hw.1]; decide)
  rw [← hkw9] at hsu htm
  have hko9 : κr5359 (cs (420 + i)) = κ5352 (cs (420 + i)) := hxr5359 _ (by rw [hpr.1]; decide)
  have hw := (hxr5359.f.t2 hw (by decide))
  have hpr := (hxr5359.f.t2 hpr (by decide))
  have hmk := (hxr5359.f.t2 hmk (by decide))
  have hli := (hxr5359.f.t2 hli (by decide))
  obtain ⟨c5360, l5361, w5362, k5363, n5364, m5365, g5366, e5367, o5368⟩ := hqr5359
  have hMW := m5365
  obtain ⟨k5369, n5370, hGP⟩ : ∃ k9 n9, GP H0 _ ln l5361 k9 n9 := ⟨_, _, GP.tr (show GP H0 _ ln ln _ _ from ⟨hgb, hGN⟩) g5366⟩
  refine W.tight (k := k5369) (n := n5370) (by rw [hH0]; exact hGP.1) ?_
  have hGN : GN ln l5361 k5369 n5370 := hGP.2
  have hgk5369 := hGN.1
  have hgn5370 := hGN.2
  have hsk5369 := hMW.2.2.1.sum
  have hEO : EL C dl c5360 w5362 0 0 (κr5359 (cs (420 + i))).2.2.1 24 := EL.any9 (by have := e5367; omega)
  have hb24 : 24 ≤ 24 := Nat.le_refl _
  refine lv_aload_n hx hb dX7_startProposal_75 rfl (lv_at hl 0 rfl) ?_
  refine W.know (fun hgb => ?_)
  rw [hH0] at hgb
  refine cv_v (As := []) (rest := []) (b := w) ⟨hx, hb, hml, hown, hts⟩ (c_X7_commitIfVoted hT (w := w) hw hsu htm hMW hEO hb24) (cwV 0 hts gX7_startProposal_X7_commitIfVoted rfl rfl rfl hdX7_commitIfVoted_v ⟨Nat.le_of_ble_eq_true rfl, Nat.le_of_ble_eq_true rfl⟩) hN hE hL (rcv8 hN hT hw.1) rfl rfl hl.1 (Nat.le_of_ble_eq_true rfl) dX7_startProposal_76 (show k5369 + ((56 * sumN C 16 + 22407 - 2 * sumN l5361 16) / 35) ≤ ((56 * sumN C 16 + 22407 - 2 * sumN ln 16) / 35) by omega) (show n5370 + (56 * sumN C 16 + 22407 - 2 * sumN l5361 16) ≤ (56 * sumN C 16 + 22407 - 2 * sumN ln 16) by omega) (fun H1 locs hL hqr5371 => ?_)
  obtain ⟨κr5371, hxr5371, hT1, hF1, hqr5371⟩ := hqr5371
  have hxfr5371 := hxr5371.1
  have hTo := hT
  have hwo := hw
  have hsuo := hsu
  have hF9 := hF1
  have hF := hF.tr ((hF1.kf hKF).mono (by simp))
  have hT := hT1
  have hKF := hKF.tr hxfr5371
  have hKU : KU i κ κr5371 := hKU.tr hxr5371
  have hw := (KF.t2 hxfr5371 hw (by decide))
  have hpr := (KF.t2 hxfr5371 hpr (by decide))
  have hmk := (KF.t2 hxfr5371 hmk (by decide))
  have hli := (KF.t2 hxfr5371 hli (by decide))
  obtain ⟨c5372, l5373, w5374, k5375, n5376, m5377, g5378, q5379, e5380, o5381⟩ := hqr5371
  have hMW := m5377
  obtain ⟨k5382, n5383, hGP⟩ : ∃ k9 n9, GP H0 _ ln l5373 k9 n9 := ⟨_, _, GP.tr (show GP H0 _ ln l5361 _ _ from ⟨hgb, hGN⟩) g5378⟩
  refine W.tight (k := k5382) (n := n5383) (by rw [hH0]; exact hGP.1) ?_
  have hGN : GN ln l5373 k5382 n5383 := hGP.2
  have hgk5382 := hGN.1
  have hgn5383 := hGN.2
  have hsk5382 := hMW.2.2.1.sum
  rw [← q5379] at hsu htm
  have hEO := e5380
  refine W.know (fun hg => ?_)
  rw [hH0] at hg
  exact en_v hx hb hr hlocks hL (show k5382 ≤ ((56 * sumN C 16 + 22407 - 2 * sumN ln 16) / 35) by omega) (show n5383 ≤ (56 * sumN C 16 + 22407 - 2 * sumN ln 16) by omega) dX7_startProposal_79 (⟨_, hKU, hT, hF, _, _, _, _, _, hMW, ⟨hg, hGN⟩, hsu, htm, hEO⟩)
theorem mX7_sendAsk_1 : (.fieldLink RX7 68 "OneBeat$World" "conductor" "I" : Cond) ∈ wsX7_sendAsk := List.mem_of_getElem? (i := 1) (by decide +kernel)
theorem iX7_sendAsk_7 : ∀ w ∈ wsX70, w ∈ wsX7_sendAsk := fun w h => List.mem_of_mem_drop (List.mem_of_mem_take ((show wsX70 = (wsX7_sendAsk.drop 55).take 16 by decide +kernel) ▸ h))
set_option maxHeartbeats 4000000 in
set_option maxRecDepth 100000 in
theorem c_X7_sendAsk {l : Launch} {D : va_G} {cs : Nat → ClassId} {B0 T : Nat} {κ : KM} {H0 : Heap} (hT : WT B0 D cs T κ H0) {w i : Nat} (hw : T2 κ w 8 i) {x : Int32} {C cn ln : Nat → Nat} {rw9 : Nat → Nat → Int32} {dl : Nat → Int32} {su tm : Nat} (hsu : (κ w).2.2.1 = su) (htm : (κ w).2.2.2 = tm) (hMW : MW D cs H0 i su tm C cn ln rw9 dl) {b : Nat} (hbo : EL C dl cn rw9 0 0 (κ (cs (420 + i))).2.2.1 b) (hb24 : b + 2 ≤ 24) : KC l yX7_sendAsk wsX7_sendAsk 3 113 ((56 * sumN C 16 + 22407 - 2 * sumN ln 16) / 35) (56 * sumN C 16 + 22407 - 2 * sumN ln 16) D cs B0 H0 [.ref w, .int x] (Qi (fun r H => ∃ κ1, KX κ κ1 ∧ WT B0 D cs T κ1 H ∧ Fr B0 [i, i + 20] κ H0 H ∧ ∃ cn1 ln1 rw1 k n, MW D cs H i su tm C cn1 ln1 rw1 dl ∧ GP H0 H ln ln1 k n ∧ EL C dl cn1 rw1 0 0 (κ1 (cs (420 + i))).2.2.1 (b + 2) ∧ (r = 0 ∨ r = 1))) := by
  refine KC.of cX7_sendAsk 2 (some .boolean) (by decide) rfl (Nat.le_of_ble_eq_true rfl) ?_
  intro p e s m below meth c ls hx hb hr hml hown hts hlocks hin hN hE hH0 hl
  have hown : s.vm.findClass RX7 = some m.cls := hown
  have hl : lv_has ls 2 [(0, .ref w), (1, .int x)] := hl
  have hL : OkL B0 [] := OkL.nil
  have hF : Fr B0 [i, i + 20] κ H0 H0 := Fr.rf
  obtain ⟨hmk, hpr, hli, -, hi10⟩ := hT.ml hw
  have ht16 := hMW.2.2.2
  have h15a : ¬ 15 = i := by omega
  have h15b : ¬ 15 = i + 20 := by omega
  have h15c : ¬ 15 = i + 40 := by omega
  have hGN : GN ln ln 0 0 := GN.rf
  have hs0 := hMW.2.2.1.sum
  have hop9 := hbo
  refine lv_aload_n hx hb dX7_sendAsk_0 rfl (lv_at hl 0 rfl) ?_
  refine lv_iconst (v := 0) hx hb dX7_sendAsk_1 (by decide) ?_
  refine lv_iload_n hx hb dX7_sendAsk_2 rfl (lv_at hl 1 rfl) ?_
  refine lv_aload_n hx hb dX7_sendAsk_3 rfl (lv_at hl 0 rfl) ?_
  obtain ⟨hb5384, e5384, hat5384, hk5384⟩ := hT.o8 hw.1
  obtain ⟨f5384_0, f5384_1, f5384_2, f5384_3, f5384_4, f5384_5, f5384_6, f5384_7, f5384_8, f5384_9, f5384_10, f5384_11, f5384_12, f5384_13, f5384_14, f5384_15, rfl, t5384_0, c5384_su, t5384_1, t5384_2, t5384_3, t5384_4, t5384_5, c5384_tm, c5384_lt, c5384_ml, c5384_pr, c5384_li⟩ := hk5384
  rw [hw.2] at t5384_1
  rw [hw.2] at t5384_2
  rw [hw.2] at t5384_3
  rw [hw.2] at t5384_4
  rw [hw.2] at t5384_5
  rw [hw.2] at c5384_lt c5384_ml c5384_pr c5384_li
  subst c5384_ml
  subst c5384_pr
  subst c5384_li
  have esu5384 := (c5384_su.trans hsu).symm
  subst esu5384
  have ctm5384 : f5384_7 &&& 15 = nI tm := by rw [c5384_tm, htm]
  have hP : va_P D vwCl [(w, .inr (7, [.ref su, .ref f5384_1, .ref (cs (400 + i)), .ref (cs (420 + i)), .ref (cs (460 + i)), .ref f5384_5, .long f5384_6, .int f5384_7, .int f5384_8, .int f5384_9, .int f5384_10, .int f5384_11, .int f5384_12, .int f5384_13, .int f5384_14, .int f5384_15]))] _ := va_P.cons hat5384 va_P.nil
  refine va_get (D := D) (ci := 7) (v := .int f5384_8) (C := RX7) (T := TX7) (N := 16) hx hb hts iX7_sendAsk_7 hown hN.1 hP 0 rfl rfl 8 (by decide) (hts _ mX7_sendAsk_1) (fun _ h9 => h9) rfl dX7_sendAsk_4 ?_
  refine lv_iconst (v := (-1)) hx hb dX7_sendAsk_7 (by decide) ?_
  refine lv_aload_n hx hb dX7_sendAsk_8 rfl (lv_at hl 0 rfl) ?_
  refine lv_iload_n hx hb dX7_sendAsk_9 rfl (lv_at hl 1 rfl) ?_
  refine cv_i (As := [.int x]) (rest := [.int (-1), .int f5384_8, .int x, .int 0, .ref w]) (b := w) ⟨hx, hb, hml, hown, hts⟩ (c_X7_clock hT (w := w) hw (x := x)) (cwV 1 hts gX7_sendAsk_X7_clock rfl rfl rfl hdX7_clock_v ⟨Nat.le_of_ble_eq_true rfl, Nat.le_of_ble_eq_true rfl⟩) hN hE hL (rcv8 hN hT hw.1) rfl rfl hl.1 (Nat.le_of_ble_eq_true rfl) dX7_sendAsk_10 (Nat.zero_le _) (Nat.zero_le _) (fun r5385 H1 locs hL hqr5385 => ?_)
  obtain rfl := hqr5385.symm
  refine lv_iconst (v := 0) hx hb dX7_sendAsk_13 (by decide) ?_
  have hM9 : ∀ j, j < 16 → 2 * ln j + 7 ≤ 2 * sumN ln 16 + 7 := fun j hj => by have := sumN_at (f := ln) hj; omega
  have hcn := EE_cb (Nat.le_trans hbo.le9 (by omega))
  refine W.know (fun hgb => ?_)
  rw [hH0] at hgb
  refine cv_i (As := [.int 0, .int x, .int f5384_8, .int (-1), .int r5385, .int 0]) (rest := []) (b := w) ⟨hx, hb, hml, hown, hts⟩ (c_X7_send hT (w := w) hw (x := 0) (y := x) (z := f5384_8) (u := (-1)) (v := r5385) (t := 0) hsu htm hMW hcn hM9) (cwV 6 hts gX7_sendAsk_X7_send rfl rfl rfl hdX7_send_v ⟨Nat.le_of_ble_eq_true rfl, Nat.le_of_ble_eq_true rfl⟩) hN hE hL (rcv8 hN hT hw.1) rfl rfl hl.1 (Nat.le_of_ble_eq_true rfl) dX7_sendAsk_14 (show 0 + 1 ≤ ((56 * sumN C 16 + 22407 - 2 * sumN ln 16) / 35) by omega) (show 0 + (2 * sumN ln 16 + 7) ≤ (56 * sumN C 16 + 22407 - 2 * sumN ln 16) by omega) (fun r5386 H1 locs hL hqr5386 => ?_)
  obtain ⟨κr5386, hxr5386, hT1, hF1, hqr5386⟩ := hqr5386
  have hTo := hT
  have hwo := hw
  have hsuo := hsu
  have hF9 := hF1
  have hF := hF.tr (hF1.mono (by simp))
  have hT := hT1
  have hKF : KF κ κr5386 := hxr5386.f
  have hKX : KX κ κr5386 := hxr5386
  have hkw9 : κr5386 w = κ w := hxr5386 w (by rw [hw.1]; decide)
  rw [← hkw9] at hsu htm
  have hko9 : κr5386 (cs (420 + i)) = κ (cs (420 + i)) := hxr5386 _ (by rw [hpr.1]; decide)
  rw [← hko9] at hop9
  have hw := (hxr5386.f.t2 hw (by decide))
  have hpr := (hxr5386.f.t2 hpr (by decide))
  have hmk := (hxr5386.f.t2 hmk (by decide))
  have hli := (hxr5386.f.t2 hli (by decide))
  obtain ⟨c5387, l5388, w5389, k5390, n5391, m5392, g5393, s5394, b5395⟩ := hqr5386
  have hMW := m5392
  obtain ⟨k5396, n5397, hGP⟩ : ∃ k9 n9, GP H0 _ ln l5388 k9 n9 := ⟨_, _, GP.tr (show GP H0 _ ln ln _ _ from ⟨hgb, hGN⟩) g5393⟩
  refine W.tight (k := k5396) (n := n5397) (by rw [hH0]; exact hGP.1) ?_
  have hGN : GN ln l5388 k5396 n5397 := hGP.2
  have hgk5396 := hGN.1
  have hgn5397 := hGN.2
  have hsk5396 := hMW.2.2.1.sum
  have hE1 := s5394.e2 (C := C) (dl := dl) (q0 := 0) (pl := 0) (Nat.mod_lt _ (by decide))
  refine W.know (fun hg => ?_)
  rw [hH0] at hg
  exact en_i hx hb hr hlocks hL (nb b5395) (show k5396 ≤ ((56 * sumN C 16 + 22407 - 2 * sumN ln 16) / 35) by omega) (show n5397 ≤ (56 * sumN C 16 + 22407 - 2 * sumN ln 16) by omega) dX7_sendAsk_17 (⟨_, hKX, hT, hF, _, _, _, _, _, hMW, ⟨hg, hGN⟩, hop9.ad hE1, b5395⟩)
theorem mX7_copyFrom_1 : (.fieldLink RX7 52 "OneBeat$World" "setup" "LOneBeat$Setup;" : Cond) ∈ wsX7_copyFrom := List.mem_of_getElem? (i := 1) (by decide +kernel)
theorem iX7_copyFrom_7 : ∀ w ∈ wsX70, w ∈ wsX7_copyFrom := fun w h => List.mem_of_mem_drop (List.mem_of_mem_take ((show wsX70 = (wsX7_copyFrom.drop 65).take 16 by decide +kernel) ▸ h))
theorem mX7_copyFrom_2 : (.fieldLink RX7 11 "OneBeat$World" "players" "[LOneBeat$Player;" : Cond) ∈ wsX7_copyFrom := List.mem_of_getElem? (i := 2) (by decide +kernel)
theorem mX7_copyFrom_3 : (.fieldLink RX7 20 "OneBeat$World" "mail" "LOneBeat$Mail;" : Cond) ∈ wsX7_copyFrom := List.mem_of_getElem? (i := 3) (by decide +kernel)
theorem hdX2_copyFrom_v : yX2_copyFrom.cls = RX2 ∧ yX2_copyFrom.cls ≠ "java/lang/invoke/MethodHandle" ∧ yX2_copyFrom.cls ≠ "java/lang/invoke/VarHandle" ∧ (parseMethodDescriptor yX2_copyFrom.desc).map (fun d => d.parameters.length) = some 1 := by decide +kernel
theorem mX7_copyFrom_4 : (.fieldLink RX7 27 "OneBeat$World" "latest" "LOneBeat$Proposal;" : Cond) ∈ wsX7_copyFrom := List.mem_of_getElem? (i := 4) (by decide +kernel)
theorem hdX4_copyFrom_v : yX4_copyFrom.cls = RX4 ∧ yX4_copyFrom.cls ≠ "java/lang/invoke/MethodHandle" ∧ yX4_copyFrom.cls ≠ "java/lang/invoke/VarHandle" ∧ (parseMethodDescriptor yX4_copyFrom.desc).map (fun d => d.parameters.length) = some 1 := by decide +kernel
theorem mX7_copyFrom_5 : (.fieldLink RX7 60 "OneBeat$World" "cuts" "J" : Cond) ∈ wsX7_copyFrom := List.mem_of_getElem? (i := 5) (by decide +kernel)
theorem mX7_copyFrom_6 : (.fieldLink RX7 64 "OneBeat$World" "time" "I" : Cond) ∈ wsX7_copyFrom := List.mem_of_getElem? (i := 6) (by decide +kernel)
theorem mX7_copyFrom_7 : (.fieldLink RX7 68 "OneBeat$World" "conductor" "I" : Cond) ∈ wsX7_copyFrom := List.mem_of_getElem? (i := 7) (by decide +kernel)
theorem mX7_copyFrom_8 : (.fieldLink RX7 71 "OneBeat$World" "sent" "I" : Cond) ∈ wsX7_copyFrom := List.mem_of_getElem? (i := 8) (by decide +kernel)
theorem mX7_copyFrom_9 : (.fieldLink RX7 74 "OneBeat$World" "lost" "I" : Cond) ∈ wsX7_copyFrom := List.mem_of_getElem? (i := 9) (by decide +kernel)
theorem mX7_copyFrom_10 : (.fieldLink RX7 77 "OneBeat$World" "made" "I" : Cond) ∈ wsX7_copyFrom := List.mem_of_getElem? (i := 10) (by decide +kernel)
theorem mX7_copyFrom_11 : (.fieldLink RX7 80 "OneBeat$World" "committed" "I" : Cond) ∈ wsX7_copyFrom := List.mem_of_getElem? (i := 11) (by decide +kernel)
theorem mX7_copyFrom_12 : (.fieldLink RX7 83 "OneBeat$World" "givenUp" "I" : Cond) ∈ wsX7_copyFrom := List.mem_of_getElem? (i := 12) (by decide +kernel)
theorem mX7_copyFrom_13 : (.fieldLink RX7 86 "OneBeat$World" "changes" "I" : Cond) ∈ wsX7_copyFrom := List.mem_of_getElem? (i := 13) (by decide +kernel)
theorem mX7_copyFrom_14 : (.fieldLink RX7 89 "OneBeat$World" "late" "I" : Cond) ∈ wsX7_copyFrom := List.mem_of_getElem? (i := 14) (by decide +kernel)
theorem hdX3_copyFrom_v : yX3_copyFrom.cls = RX3 ∧ yX3_copyFrom.cls ≠ "java/lang/invoke/MethodHandle" ∧ yX3_copyFrom.cls ≠ "java/lang/invoke/VarHandle" ∧ (parseMethodDescriptor yX3_copyFrom.desc).map (fun d => d.parameters.length) = some 1 := by decide +kernel
set_option maxHeartbeats 4000000 in
set_option maxRecDepth 100000 in
theorem c_X7_copyFrom {l : Launch} {D : va_G} {cs : Nat → ClassId} {B0 T : Nat} {κ : KM} {H0 : Heap} (hT : WT B0 D cs T κ H0) {w v i j : Nat} (hw : T2 κ w 8 i) (hv : T2 κ v 8 j) (hij : ¬ j = i) {C cn lv cw ln : Nat → Nat} {rw9 rww : Nat → Nat → Int32} {dl : Nat → Int32} {su tm : Nat} (hsu : (κ v).2.2.1 = su) (htm : (κ v).2.2.2 = tm) (hMW : MW D cs H0 j su tm C cn lv rw9 dl) (hcn : ∀ q, q < 16 → cn q ≤ C q + 24) (hML : MB D cs H0 (cs (400 + i)) cw ln rww) (hLL : LC C cw ln) : KC l yX7_copyFrom wsX7_copyFrom 2 84 ((56 * sumN C 16 + 22407 - 2 * sumN ln 16) / 35) (56 * sumN C 16 + 22407 - 2 * sumN ln 16) D cs B0 H0 [.ref w, .ref v] (Qv (fun H => ∃ κ1, KU i κ κ1 ∧ WT B0 D cs T κ1 H ∧ Fr B0 [i, i + 20] κ H0 H ∧ ∃ ln1 rw1 k n, MW D cs H i su tm C cn ln1 rw1 dl ∧ GP H0 H ln ln1 k n ∧ (κ1 w).2.2.1 = su ∧ (κ1 w).2.2.2 = tm ∧ (κ1 (cs (420 + i))).2.2.1 = (κ (cs (420 + j))).2.2.1 ∧ ∀ q, q < 16 → ∀ r, r < 7 * cn q → rw1 q r = rw9 q r)) := by
  refine KC.of cX7_copyFrom 3 none (by decide) rfl (Nat.le_of_ble_eq_true rfl) ?_
  intro p e s m below meth c ls hx hb hr hml hown hts hlocks hin hN hE hH0 hl
  have hown : s.vm.findClass RX7 = some m.cls := hown
  have hl : lv_has ls 3 [(0, .ref w), (1, .ref v)] := hl
  have hL : OkL B0 [] := OkL.nil
  have hF : Fr B0 [i, i + 20] κ H0 H0 := Fr.rf
  obtain ⟨hmk, hpr, hli, -, hi10⟩ := hT.ml hw
  obtain ⟨hmkv, hprv, hliv, -, hj10⟩ := hT.ml hv
  have h15a : ¬ 15 = i := by omega
  have h15b : ¬ 15 = i + 20 := by omega
  have h20a : ¬ j + 20 = i := by omega
  have hks : (κ w).2.2.1 = (κ w).2.2.1 := rfl
  have hGN : GN ln ln 0 0 := GN.rf
  have hs0 := hLL.sum
  have hprv0 := hprv
  refine lv_aload_n hx hb dX7_copyFrom_0 rfl (lv_at hl 0 rfl) ?_
  refine lv_aload_n hx hb dX7_copyFrom_1 rfl (lv_at hl 1 rfl) ?_
  obtain ⟨hb5398, e5398, hat5398, hk5398⟩ := hT.o8 hv.1
  obtain ⟨f5398_0, f5398_1, f5398_2, f5398_3, f5398_4, f5398_5, f5398_6, f5398_7, f5398_8, f5398_9, f5398_10, f5398_11, f5398_12, f5398_13, f5398_14, f5398_15, rfl, t5398_0, c5398_su, t5398_1, t5398_2, t5398_3, t5398_4, t5398_5, c5398_tm, c5398_lt, c5398_ml, c5398_pr, c5398_li⟩ := hk5398
  rw [hv.2] at t5398_1
  rw [hv.2] at t5398_2
  rw [hv.2] at t5398_3
  rw [hv.2] at t5398_4
  rw [hv.2] at t5398_5
  rw [hv.2] at c5398_lt c5398_ml c5398_pr c5398_li
  subst c5398_ml
  subst c5398_pr
  subst c5398_li
  have esu5398 := (c5398_su.trans hsu).symm
  subst esu5398
  have ctm5398 : f5398_7 &&& 15 = nI tm := by rw [c5398_tm, htm]
  have hP : va_P D vwCl [(v, .inr (7, [.ref su, .ref f5398_1, .ref (cs (400 + j)), .ref (cs (420 + j)), .ref (cs (460 + j)), .ref f5398_5, .long f5398_6, .int f5398_7, .int f5398_8, .int f5398_9, .int f5398_10, .int f5398_11, .int f5398_12, .int f5398_13, .int f5398_14, .int f5398_15]))] _ := va_P.cons hat5398 va_P.nil
  refine va_get (D := D) (ci := 7) (v := .ref su) (C := RX7) (T := TX7) (N := 16) hx hb hts iX7_copyFrom_7 hown hN.1 hP 0 rfl rfl 0 (by decide) (hts _ mX7_copyFrom_1) (fun _ h9 => h9) rfl dX7_copyFrom_2 ?_
  obtain ⟨hb5399, e5399, hat5399, hk5399⟩ := hT.o8 hw.1
  obtain ⟨f5399_0, f5399_1, f5399_2, f5399_3, f5399_4, f5399_5, f5399_6, f5399_7, f5399_8, f5399_9, f5399_10, f5399_11, f5399_12, f5399_13, f5399_14, f5399_15, rfl, t5399_0, c5399_su, t5399_1, t5399_2, t5399_3, t5399_4, t5399_5, c5399_tm, c5399_lt, c5399_ml, c5399_pr, c5399_li⟩ := hk5399
  rw [hw.2] at t5399_1
  rw [hw.2] at t5399_2
  rw [hw.2] at t5399_3
  rw [hw.2] at t5399_4
  rw [hw.2] at t5399_5
  rw [hw.2] at c5399_lt c5399_ml c5399_pr c5399_li
  subst c5399_ml
  subst c5399_pr
  subst c5399_li
  have hP : va_P D vwCl [(w, .inr (7, [.ref f5399_0, .ref f5399_1, .ref (cs (400 + i)), .ref (cs (420 + i)), .ref (cs (460 + i)), .ref f5399_5, .long f5399_6, .int f5399_7, .int f5399_8, .int f5399_9, .int f5399_10, .int f5399_11, .int f5399_12, .int f5399_13, .int f5399_14, .int f5399_15])), (v, .inr (7, [.ref su, .ref f5398_1, .ref (cs (400 + j)), .ref (cs (420 + j)), .ref (cs (460 + j)), .ref f5398_5, .long f5398_6, .int f5398_7, .int f5398_8, .int f5398_9, .int f5398_10, .int f5398_11, .int f5398_12, .int f5398_13, .int f5398_14, .int f5398_15]))] _ := va_P.cons hat5399 hP
  have hP : va_P D vwCl [(w, .inr (7, [.ref f5399_0, .ref f5399_1, .ref (cs (400 + i)), .ref (cs (420 + i)), .ref (cs (460 + i)), .ref f5399_5, .long f5399_6, .int f5399_7, .int f5399_8, .int f5399_9, .int f5399_10, .int f5399_11, .int f5399_12, .int f5399_13, .int f5399_14, .int f5399_15]))] _ := hP.sub [0] rfl
  have hB : Bx B0 D _ [(w, .inr (7, [.ref f5399_0, .ref f5399_1, .ref (cs (400 + i)), .ref (cs (420 + i)), .ref (cs (460 + i)), .ref f5399_5, .long f5399_6, .int f5399_7, .int f5399_8, .int f5399_9, .int f5399_10, .int f5399_11, .int f5399_12, .int f5399_13, .int f5399_14, .int f5399_15]))] [] _ _ := Bx.of (fun a => (κ a).1) hL hP (fa_c hb5399 fa_n) (by simp only [List.map_cons, List.map_nil, hw.1]; decide)
  refine b_put (D := D) (ci := 7) (v := .ref su) (ty := .object "OneBeat$Setup") (C := RX7) (T := TX7) (N := 16) hx hb hts iX7_copyFrom_7 tyX7 tyX7_ok nmX7 hown hN hB 0 rfl rfl 0 (by decide) (hts _ mX7_copyFrom_1) (fun _ h9 => h9) rfl (by decide +kernel) rfl rfl (Nat.le_of_ble_eq_true rfl) (.inl rfl) dX7_copyFrom_5 (fun H locs hB => ?_)
  have hB : Bx B0 D _ [(w, .inr (7, [.ref su, .ref f5399_1, .ref (cs (400 + i)), .ref (cs (420 + i)), .ref (cs (460 + i)), .ref f5399_5, .long f5399_6, .int f5399_7, .int f5399_8, .int f5399_9, .int f5399_10, .int f5399_11, .int f5399_12, .int f5399_13, .int f5399_14, .int f5399_15]))] [w] _ _ := hB
  refine lv_iconst (v := 0) hx hb dX7_copyFrom_8 (by decide) ?_
  refine lv_istore_n (lv' := [(2, .int 0), (0, .ref w), (1, .ref v)]) hx hb dX7_copyFrom_9 rfl hl (by decide) rfl (fun ls hl => ?_)
  have hMW := hMW.fr hT hv hsu (Fr.close (S := [i]) Fr.rf hB (fa_c (by simp [hw.2]) fa_n)) (by first | (simp; done) | (simp [hij, h15a, h15b, h20a]; done) | (simp; omega)) (by first | (simp; done) | (simp [hij, h15a, h15b, h20a]; done) | (simp; omega))
  have hML := hML.fr hT hmk (Fr.close (S := [i]) Fr.rf hB (fa_c (by simp [hw.2]) fa_n)) (by first | (simp; done) | (simp [hij, h15a, h15b, h20a]; done) | (simp; omega))
  have hF : Fr B0 [i, i + 20] κ H0 _ := hF.close hB (fa_c (by simp [hw.2]) fa_n)
  have hT : WT B0 D cs T (kp κ w su (κ w).2.2.2) _ := hT.closeK w su (κ w).2.2.2 hB (by rw [hw.1]; decide) (by rw [hw.1]; decide) (List.mem_of_getElem? (i := 0) rfl) ⟨⟨0, _, rfl, kp_ok (ok_8 (k := ((κ w).1, (κ w).2.1, _, _)) hw.1 ⟨_, _, _, _, _, _, _, _, _, _, _, _, _, _, _, _, rfl, (t2kp t5398_0), rfl, ⟨(t2kp t5399_1).1, by rw [hw.2]; exact (t2kp t5399_1).2⟩, ⟨(t2kp t5399_2).1, by rw [hw.2]; exact (t2kp t5399_2).2⟩, ⟨(t2kp t5399_3).1, by rw [hw.2]; exact (t2kp t5399_3).2⟩, ⟨(t2kp t5399_4).1, by rw [hw.2]; exact (t2kp t5399_4).2⟩, ⟨(t2kp t5399_5).1, by rw [hw.2]; exact (t2kp t5399_5).2⟩, c5399_tm, (by rw [hw.2]; omega), (by first | rw [hw.2] | (dsimp only; rw [hw.2])), (by first | rw [hw.2] | (dsimp only; rw [hw.2])), (by first | rw [hw.2] | (dsimp only; rw [hw.2]))⟩)⟩, trivial⟩
  have hL : OkL B0 _ := hB.2.2.2.2.2
  have hP : va_P D vwCl [(w, .inr (7, [.ref su, .ref f5399_1, .ref (cs (400 + i)), .ref (cs (420 + i)), .ref (cs (460 + i)), .ref f5399_5, .long f5399_6, .int f5399_7, .int f5399_8, .int f5399_9, .int f5399_10, .int f5399_11, .int f5399_12, .int f5399_13, .int f5399_14, .int f5399_15]))] _ := hB.1
  obtain ⟨κ5400, hκ5400⟩ : ∃ κq : KM, κq = (kp κ w su (κ w).2.2.2) := ⟨_, rfl⟩
  have hxf5400 : KF κ κ5400 := by rw [hκ5400]; exact KF.kp
  rw [← hκ5400] at hT
  have hKF : KF κ κ5400 := hxf5400
  have hks : (κ5400 w).2.2.1 = su := by rw [hκ5400, kp_a]
  have hKU : KU i κ κ5400 := (show KU i κ κ5400 by rw [hκ5400]; exact KU.kp hw)
  have hkw9 : κ5400 v = κ v := by rw [hκ5400]; exact kp_n (by first | exact ne_c hv.1 hw.1 (by decide) | exact ne_o hv.2 hw.2 (by first | assumption | exact (fun e9 => hij e9.symm) | omega))
  rw [← hkw9] at hsu htm
  have hw := (KF.t2 hxf5400 hw (by decide))
  have hv := (KF.t2 hxf5400 hv (by decide))
  have hpr := (KF.t2 hxf5400 hpr (by decide))
  have hmk := (KF.t2 hxf5400 hmk (by decide))
  have hli := (KF.t2 hxf5400 hli (by decide))
  have hprv := (KF.t2 hxf5400 hprv (by decide))
  have hmkv := (KF.t2 hxf5400 hmkv (by decide))
  refine lp_m (α := Nat) (nL := 3) (fun a9 => 8 - a9) (fun a9 H9 l9 => (a9 ≤ 8) ∧ (MW D cs H9 j su tm C cn lv rw9 dl) ∧ (MB D cs H9 (cs (400 + i)) cw ln rww) ∧ (WT B0 D cs T κ5400 H9) ∧ (Fr B0 [i, i + 20] κ H0 H9) ∧ (OkL B0 l9)) (fun a9 => [(2, .int (nI a9)), (0, .ref w), (1, .ref v)]) ?_ 0 _ _ _ ⟨(by show (0) ≤ 8; omega), hMW, hML, hT, hF, hL⟩ (lv_sub hl [0, 1, 2] rfl)
  rintro p H locs ls ih5401 ⟨hp, hMW, hML, hT, hF, hL⟩ hl
  have hl : lv_has ls 3 [(2, .int (nI p)), (0, .ref w), (1, .ref v)] := hl
  have hp : p ≤ 8 := hp
  have hMW : MW D cs H j su tm C cn lv rw9 dl := hMW
  have hML : MB D cs H (cs (400 + i)) cw ln rww := hML
  refine lv_iload_n hx hb dX7_copyFrom_10 rfl (lv_at hl 0 rfl) ?_
  refine lv_aload_n hx hb dX7_copyFrom_11 rfl (lv_at hl 1 rfl) ?_
  obtain ⟨hb5402, e5402, hat5402, hk5402⟩ := hT.o8 hw.1
  obtain ⟨f5402_0, f5402_1, f5402_2, f5402_3, f5402_4, f5402_5, f5402_6, f5402_7, f5402_8, f5402_9, f5402_10, f5402_11, f5402_12, f5402_13, f5402_14, f5402_15, rfl, t5402_0, c5402_su, t5402_1, t5402_2, t5402_3, t5402_4, t5402_5, c5402_tm, c5402_lt, c5402_ml, c5402_pr, c5402_li⟩ := hk5402
  rw [hw.2] at t5402_1
  rw [hw.2] at t5402_2
  rw [hw.2] at t5402_3
  rw [hw.2] at t5402_4
  rw [hw.2] at t5402_5
  rw [hw.2] at c5402_lt c5402_ml c5402_pr c5402_li
  subst c5402_ml
  subst c5402_pr
  subst c5402_li
  have hP : va_P D vwCl [(w, .inr (7, [.ref f5402_0, .ref f5402_1, .ref (cs (400 + i)), .ref (cs (420 + i)), .ref (cs (460 + i)), .ref f5402_5, .long f5402_6, .int f5402_7, .int f5402_8, .int f5402_9, .int f5402_10, .int f5402_11, .int f5402_12, .int f5402_13, .int f5402_14, .int f5402_15]))] _ := va_P.cons hat5402 va_P.nil
  refine va_get (D := D) (ci := 7) (v := .ref f5402_1) (C := RX7) (T := TX7) (N := 16) hx hb hts iX7_copyFrom_7 hown hN.1 hP 0 rfl rfl 1 (by decide) (hts _ mX7_copyFrom_2) (fun _ h9 => h9) rfl dX7_copyFrom_12 ?_
  obtain ⟨hb5403, e5403, hat5403, hk5403⟩ := hT.o11 t5402_1.1
  obtain ⟨g5403, rfl, q5403⟩ := hk5403
  rw [t5402_1.2] at q5403
  have hP : va_P D vwCl [(f5402_1, .inl (cs 4, 8, .inr (.inr (.inr (.inr g5403))))), (w, .inr (7, [.ref f5402_0, .ref f5402_1, .ref (cs (400 + i)), .ref (cs (420 + i)), .ref (cs (460 + i)), .ref f5402_5, .long f5402_6, .int f5402_7, .int f5402_8, .int f5402_9, .int f5402_10, .int f5402_11, .int f5402_12, .int f5402_13, .int f5402_14, .int f5402_15]))] _ := va_P.cons hat5403 hP
  refine va_alen (v := 8) hx hb hN.1 hP 0 4 rfl rfl rfl dX7_copyFrom_15 ?_
  refine lv_icmp_ge (tgt := 39) hx hb dX7_copyFrom_16 (by decide) (fun c5404 => ?_) (fun c5404 => ?_)
  · have c5404 : 8 ≤ p := (nI_leI (a := 8) (b := p) (by omega) (by omega)).mp c5404
    refine lv_aload_n hx hb dX7_copyFrom_39 rfl (lv_at hl 1 rfl) ?_
    refine va_get (D := D) (ci := 7) (v := .ref (cs (400 + i))) (C := RX7) (T := TX7) (N := 16) hx hb hts iX7_copyFrom_7 hown hN.1 hP 1 rfl rfl 2 (by decide) (hts _ mX7_copyFrom_3) (fun _ h9 => h9) rfl dX7_copyFrom_40 ?_
    refine lv_aload_n hx hb dX7_copyFrom_43 rfl (lv_at hl 2 rfl) ?_
    obtain ⟨hb5405, e5405, hat5405, hk5405⟩ := hT.o8 hv.1
    obtain ⟨f5405_0, f5405_1, f5405_2, f5405_3, f5405_4, f5405_5, f5405_6, f5405_7, f5405_8, f5405_9, f5405_10, f5405_11, f5405_12, f5405_13, f5405_14, f5405_15, rfl, t5405_0, c5405_su, t5405_1, t5405_2, t5405_3, t5405_4, t5405_5, c5405_tm, c5405_lt, c5405_ml, c5405_pr, c5405_li⟩ := hk5405
    rw [hv.2] at t5405_1
    rw [hv.2] at t5405_2
    rw [hv.2] at t5405_3
    rw [hv.2] at t5405_4
    rw [hv.2] at t5405_5
    rw [hv.2] at c5405_lt c5405_ml c5405_pr c5405_li
    subst c5405_ml
    subst c5405_pr
    subst c5405_li
    have esu5405 := (c5405_su.trans hsu).symm
    subst esu5405
    have ctm5405 : f5405_7 &&& 15 = nI tm := by rw [c5405_tm, htm]
    have hP : va_P D vwCl [(v, .inr (7, [.ref su, .ref f5405_1, .ref (cs (400 + j)), .ref (cs (420 + j)), .ref (cs (460 + j)), .ref f5405_5, .long f5405_6, .int f5405_7, .int f5405_8, .int f5405_9, .int f5405_10, .int f5405_11, .int f5405_12, .int f5405_13, .int f5405_14, .int f5405_15])), (f5402_1, .inl (cs 4, 8, .inr (.inr (.inr (.inr g5403))))), (w, .inr (7, [.ref f5402_0, .ref f5402_1, .ref (cs (400 + i)), .ref (cs (420 + i)), .ref (cs (460 + i)), .ref f5402_5, .long f5402_6, .int f5402_7, .int f5402_8, .int f5402_9, .int f5402_10, .int f5402_11, .int f5402_12, .int f5402_13, .int f5402_14, .int f5402_15]))] _ := va_P.cons hat5405 hP
    refine va_get (D := D) (ci := 7) (v := .ref (cs (400 + j))) (C := RX7) (T := TX7) (N := 16) hx hb hts iX7_copyFrom_7 hown hN.1 hP 0 rfl rfl 2 (by decide) (hts _ mX7_copyFrom_3) (fun _ h9 => h9) rfl dX7_copyFrom_44 ?_
    refine W.know (fun hgb => ?_)
    rw [hH0] at hgb
    refine cv_v (As := [.ref (cs (400 + j))]) (rest := []) (b := (cs (400 + i))) ⟨hx, hb, hml, hown, hts⟩ (c_X2_copyFrom_dc hT (w := (cs (400 + i))) t5402_2 (v := (cs (400 + j))) t5405_2 (fun e9 => hij (Nat.add_right_cancel e9)) hMW.1 hMW.2.2.1 hcn hML hLL) (cwV 1 hts gX7_copyFrom_X2_copyFrom rfl rfl rfl hdX2_copyFrom_v ⟨Nat.le_of_ble_eq_true rfl, Nat.le_of_ble_eq_true rfl⟩) hN hE hL (rcv3 hN hT t5402_2.1) rfl rfl hl.1 (Nat.le_of_ble_eq_true rfl) dX7_copyFrom_47 (show 0 + ((56 * sumN C 16 + 22407 - 2 * sumN ln 16) / 35) ≤ ((56 * sumN C 16 + 22407 - 2 * sumN ln 16) / 35) by omega) (show 0 + (56 * sumN C 16 + 22407 - 2 * sumN ln 16) ≤ (56 * sumN C 16 + 22407 - 2 * sumN ln 16) by omega) (fun H1 locs hL hqr5406 => ?_)
    obtain ⟨κr5406, hxr5406, hT1, hF1, hqr5406⟩ := hqr5406
    have hMW := hMW.fr hT hv hsu hF1 (by first | (simp; done) | (simp [hij, h15a, h15b, h20a]; done) | (simp; omega)) (by first | (simp; done) | (simp [hij, h15a, h15b, h20a]; done) | (simp; omega))
    have hF := hF.tr ((hF1.kf hKF).mono (by simp))
    have hT := hT1
    have hKF := hKF.tr hxr5406.f
    have hkt9 : κr5406 w = κ5400 w := hxr5406 w (by rw [hw.1]; decide)
    rw [← hkt9] at hks
    have hKU : KU i κ κr5406 := hKU.tr (KX.u (i := i) hxr5406)
    have hkw9 : κr5406 v = κ5400 v := hxr5406 v (by rw [hv.1]; decide)
    rw [← hkw9] at hsu htm
    have hko9 : κr5406 (cs (420 + i)) = κ5400 (cs (420 + i)) := hxr5406 _ (by rw [hpr.1]; decide)
    have hw := (hxr5406.f.t2 hw (by decide))
    have hv := (hxr5406.f.t2 hv (by decide))
    have hpr := (hxr5406.f.t2 hpr (by decide))
    have hmk := (hxr5406.f.t2 hmk (by decide))
    have hli := (hxr5406.f.t2 hli (by decide))
    have hprv := (hxr5406.f.t2 hprv (by decide))
    have hmkv := (hxr5406.f.t2 hmkv (by decide))
    obtain ⟨l5407, w5408, k5409, n5410, m5411, L5412, g5413, r5414⟩ := hqr5406
    have hMB := m5411
    have hLB := L5412
    have hrr := r5414
    obtain ⟨k5415, n5416, hGP⟩ : ∃ k9 n9, GP H0 _ ln l5407 k9 n9 := ⟨_, _, GP.tr (show GP H0 _ ln ln _ _ from ⟨hgb, hGN⟩) g5413⟩
    refine W.tight (k := k5415) (n := n5416) (by rw [hH0]; exact hGP.1) ?_
    have hGN : GN ln l5407 k5415 n5416 := hGP.2
    have hgk5415 := hGN.1
    have hgn5416 := hGN.2
    have hsk5415 := hLB.sum
    refine lv_aload_n hx hb dX7_copyFrom_50 rfl (lv_at hl 1 rfl) ?_
    obtain ⟨hb5417, e5417, hat5417, hk5417⟩ := hT.o8 hw.1
    obtain ⟨f5417_0, f5417_1, f5417_2, f5417_3, f5417_4, f5417_5, f5417_6, f5417_7, f5417_8, f5417_9, f5417_10, f5417_11, f5417_12, f5417_13, f5417_14, f5417_15, rfl, t5417_0, c5417_su, t5417_1, t5417_2, t5417_3, t5417_4, t5417_5, c5417_tm, c5417_lt, c5417_ml, c5417_pr, c5417_li⟩ := hk5417
    rw [hw.2] at t5417_1
    rw [hw.2] at t5417_2
    rw [hw.2] at t5417_3
    rw [hw.2] at t5417_4
    rw [hw.2] at t5417_5
    rw [hw.2] at c5417_lt c5417_ml c5417_pr c5417_li
    subst c5417_ml
    subst c5417_pr
    subst c5417_li
    have hP : va_P D vwCl [(w, .inr (7, [.ref f5417_0, .ref f5417_1, .ref (cs (400 + i)), .ref (cs (420 + i)), .ref (cs (460 + i)), .ref f5417_5, .long f5417_6, .int f5417_7, .int f5417_8, .int f5417_9, .int f5417_10, .int f5417_11, .int f5417_12, .int f5417_13, .int f5417_14, .int f5417_15]))] _ := va_P.cons hat5417 va_P.nil
    refine va_get (D := D) (ci := 7) (v := .ref (cs (420 + i))) (C := RX7) (T := TX7) (N := 16) hx hb hts iX7_copyFrom_7 hown hN.1 hP 0 rfl rfl 3 (by decide) (hts _ mX7_copyFrom_4) (fun _ h9 => h9) rfl dX7_copyFrom_51 ?_
    have hpj : (κr5406 (cs (420 + j))).2.2.1 = (κ (cs (420 + j))).2.2.1 := congrArg (fun q9 => q9.2.2.1) (hKU.2 (cs (420 + j)) (by rw [hprv0.1]; decide) (by rw [hprv0.2]; exact hij))
    refine lv_aload_n hx hb dX7_copyFrom_54 rfl (lv_at hl 2 rfl) ?_
    obtain ⟨hb5418, e5418, hat5418, hk5418⟩ := hT.o8 hv.1
    obtain ⟨f5418_0, f5418_1, f5418_2, f5418_3, f5418_4, f5418_5, f5418_6, f5418_7, f5418_8, f5418_9, f5418_10, f5418_11, f5418_12, f5418_13, f5418_14, f5418_15, rfl, t5418_0, c5418_su, t5418_1, t5418_2, t5418_3, t5418_4, t5418_5, c5418_tm, c5418_lt, c5418_ml, c5418_pr, c5418_li⟩ := hk5418
    rw [hv.2] at t5418_1
    rw [hv.2] at t5418_2
    rw [hv.2] at t5418_3
    rw [hv.2] at t5418_4
    rw [hv.2] at t5418_5
    rw [hv.2] at c5418_lt c5418_ml c5418_pr c5418_li
    subst c5418_ml
    subst c5418_pr
    subst c5418_li
    have esu5418 := (c5418_su.trans hsu).symm
    subst esu5418
    have ctm5418 : f5418_7 &&& 15 = nI tm := by rw [c5418_tm, htm]
    have hP : va_P D vwCl [(v, .inr (7, [.ref su, .ref f5418_1, .ref (cs (400 + j)), .ref (cs (420 + j)), .ref (cs (460 + j)), .ref f5418_5, .long f5418_6, .int f5418_7, .int f5418_8, .int f5418_9, .int f5418_10, .int f5418_11, .int f5418_12, .int f5418_13, .int f5418_14, .int f5418_15])), (w, .inr (7, [.ref f5417_0, .ref f5417_1, .ref (cs (400 + i)), .ref (cs (420 + i)), .ref (cs (460 + i)), .ref f5417_5, .long f5417_6, .int f5417_7, .int f5417_8, .int f5417_9, .int f5417_10, .int f5417_11, .int f5417_12, .int f5417_13, .int f5417_14, .int f5417_15]))] _ := va_P.cons hat5418 hP
    refine va_get (D := D) (ci := 7) (v := .ref (cs (420 + j))) (C := RX7) (T := TX7) (N := 16) hx hb hts iX7_copyFrom_7 hown hN.1 hP 0 rfl rfl 3 (by decide) (hts _ mX7_copyFrom_4) (fun _ h9 => h9) rfl dX7_copyFrom_55 ?_
    refine cv_v (As := [.ref (cs (420 + j))]) (rest := []) (b := (cs (420 + i))) ⟨hx, hb, hml, hown, hts⟩ (c_X4_copyFrom hT (w := (cs (420 + i))) t5417_3 (v := (cs (420 + j))) t5418_3 ((fun e9 => hij e9.symm))) (cwV 1 hts gX7_copyFrom_X4_copyFrom rfl rfl rfl hdX4_copyFrom_v ⟨Nat.le_of_ble_eq_true rfl, Nat.le_of_ble_eq_true rfl⟩) hN hE hL (rcv5 hN hT t5417_3.1) rfl rfl hl.1 (Nat.le_of_ble_eq_true rfl) dX7_copyFrom_58 (show k5415 + 0 ≤ ((56 * sumN C 16 + 22407 - 2 * sumN ln 16) / 35) by omega) (show n5416 + 0 ≤ (56 * sumN C 16 + 22407 - 2 * sumN ln 16) by omega) (fun H1 locs hL hqr5419 => ?_)
    obtain ⟨hT1, hF1⟩ := hqr5419
    have hMW := hMW.fr hT hv hsu hF1 (by first | (simp; done) | (simp [hij, h15a, h15b, h20a]; done) | (simp; omega)) (by first | (simp; done) | (simp [hij, h15a, h15b, h20a]; done) | (simp; omega))
    have hMB := hMB.fr hT hmk hF1 (by first | (simp; done) | (simp [hij, h15a, h15b, h20a]; done) | (simp; omega))
    have hF := hF.tr ((hF1.kf hKF).mono (by simp))
    have hT := hT1
    obtain ⟨κ5420, hκ5420⟩ : ∃ κq : KM, κq = (kp κr5406 (cs (420 + i)) (κr5406 (cs (420 + j))).2.2.1 (κr5406 (cs (420 + i))).2.2.2) := ⟨_, rfl⟩
    rw [← hκ5420] at hT
    have hxf5420 : KF κr5406 κ5420 := by rw [hκ5420]; exact KF.kp
    have hKF := hKF.tr hxf5420
    have hkt9 : κ5420 w = κr5406 w := by rw [hκ5420]; exact kp_n (ne_c hw.1 t5417_3.1 (by decide))
    rw [← hkt9] at hks
    have hKU : KU i κ κ5420 := hKU.tr (show KU i κr5406 κ5420 by rw [hκ5420]; exact KU.kp t5417_3)
    have hkw9 : κ5420 v = κr5406 v := by rw [hκ5420]; exact kp_n (by first | exact ne_c hv.1 t5417_3.1 (by decide) | exact ne_o hv.2 t5417_3.2 (by first | assumption | exact (fun e9 => hij e9.symm) | omega))
    rw [← hkw9] at hsu htm
    have hw := (KF.t2 hxf5420 hw (by decide))
    have hv := (KF.t2 hxf5420 hv (by decide))
    have hpr := (KF.t2 hxf5420 hpr (by decide))
    have hmk := (KF.t2 hxf5420 hmk (by decide))
    have hli := (KF.t2 hxf5420 hli (by decide))
    have hprv := (KF.t2 hxf5420 hprv (by decide))
    have hmkv := (KF.t2 hxf5420 hmkv (by decide))
    have hkpa : (κ5420 (cs (420 + i))).2.2.1 = (κr5406 (cs (420 + j))).2.2.1 := by rw [hκ5420, kp_a]
    rw [hpj] at hkpa
    refine lv_aload_n hx hb dX7_copyFrom_61 rfl (lv_at hl 1 rfl) ?_
    refine lv_aload_n hx hb dX7_copyFrom_62 rfl (lv_at hl 2 rfl) ?_
    obtain ⟨hb5421, e5421, hat5421, hk5421⟩ := hT.o8 hv.1
    obtain ⟨f5421_0, f5421_1, f5421_2, f5421_3, f5421_4, f5421_5, f5421_6, f5421_7, f5421_8, f5421_9, f5421_10, f5421_11, f5421_12, f5421_13, f5421_14, f5421_15, rfl, t5421_0, c5421_su, t5421_1, t5421_2, t5421_3, t5421_4, t5421_5, c5421_tm, c5421_lt, c5421_ml, c5421_pr, c5421_li⟩ := hk5421
    rw [hv.2] at t5421_1
    rw [hv.2] at t5421_2
    rw [hv.2] at t5421_3
    rw [hv.2] at t5421_4
    rw [hv.2] at t5421_5
    rw [hv.2] at c5421_lt c5421_ml c5421_pr c5421_li
    subst c5421_ml
    subst c5421_pr
    subst c5421_li
    have esu5421 := (c5421_su.trans hsu).symm
    subst esu5421
    have ctm5421 : f5421_7 &&& 15 = nI tm := by rw [c5421_tm, htm]
    have hP : va_P D vwCl [(v, .inr (7, [.ref su, .ref f5421_1, .ref (cs (400 + j)), .ref (cs (420 + j)), .ref (cs (460 + j)), .ref f5421_5, .long f5421_6, .int f5421_7, .int f5421_8, .int f5421_9, .int f5421_10, .int f5421_11, .int f5421_12, .int f5421_13, .int f5421_14, .int f5421_15]))] _ := va_P.cons hat5421 va_P.nil
    refine va_get (D := D) (ci := 7) (v := .long f5421_6) (C := RX7) (T := TX7) (N := 16) hx hb hts iX7_copyFrom_7 hown hN.1 hP 0 rfl rfl 6 (by decide) (hts _ mX7_copyFrom_5) (fun _ h9 => h9) rfl dX7_copyFrom_63 ?_
    obtain ⟨hb5422, e5422, hat5422, hk5422⟩ := hT.o8 hw.1
    obtain ⟨f5422_0, f5422_1, f5422_2, f5422_3, f5422_4, f5422_5, f5422_6, f5422_7, f5422_8, f5422_9, f5422_10, f5422_11, f5422_12, f5422_13, f5422_14, f5422_15, rfl, t5422_0, c5422_su, t5422_1, t5422_2, t5422_3, t5422_4, t5422_5, c5422_tm, c5422_lt, c5422_ml, c5422_pr, c5422_li⟩ := hk5422
    rw [hw.2] at t5422_1
    rw [hw.2] at t5422_2
    rw [hw.2] at t5422_3
    rw [hw.2] at t5422_4
    rw [hw.2] at t5422_5
    rw [hw.2] at c5422_lt c5422_ml c5422_pr c5422_li
    subst c5422_ml
    subst c5422_pr
    subst c5422_li
    have hP : va_P D vwCl [(w, .inr (7, [.ref f5422_0, .ref f5422_1, .ref (cs (400 + i)), .ref (cs (420 + i)), .ref (cs (460 + i)), .ref f5422_5, .long f5422_6, .int f5422_7, .int f5422_8, .int f5422_9, .int f5422_10, .int f5422_11, .int f5422_12, .int f5422_13, .int f5422_14, .int f5422_15])), (v, .inr (7, [.ref su, .ref f5421_1, .ref (cs (400 + j)), .ref (cs (420 + j)), .ref (cs (460 + j)), .ref f5421_5, .long f5421_6, .int f5421_7, .int f5421_8, .int f5421_9, .int f5421_10, .int f5421_11, .int f5421_12, .int f5421_13, .int f5421_14, .int f5421_15]))] _ := va_P.cons hat5422 hP
    have hP : va_P D vwCl [(w, .inr (7, [.ref f5422_0, .ref f5422_1, .ref (cs (400 + i)), .ref (cs (420 + i)), .ref (cs (460 + i)), .ref f5422_5, .long f5422_6, .int f5422_7, .int f5422_8, .int f5422_9, .int f5422_10, .int f5422_11, .int f5422_12, .int f5422_13, .int f5422_14, .int f5422_15]))] _ := hP.sub [0] rfl
    have hB : Bx B0 D _ [(w, .inr (7, [.ref f5422_0, .ref f5422_1, .ref (cs (400 + i)), .ref (cs (420 + i)), .ref (cs (460 + i)), .ref f5422_5, .long f5422_6, .int f5422_7, .int f5422_8, .int f5422_9, .int f5422_10, .int f5422_11, .int f5422_12, .int f5422_13, .int f5422_14, .int f5422_15]))] [] _ _ := Bx.of (fun a => (κ5420 a).1) hL hP (fa_c hb5422 fa_n) (by simp only [List.map_cons, List.map_nil, hw.1]; decide)
    refine b_put (D := D) (ci := 7) (v := .long f5421_6) (ty := .long) (C := RX7) (T := TX7) (N := 16) hx hb hts iX7_copyFrom_7 tyX7 tyX7_ok nmX7 hown hN hB 0 rfl rfl 6 (by decide) (hts _ mX7_copyFrom_5) (fun _ h9 => h9) rfl (by decide +kernel) rfl rfl (Nat.le_of_ble_eq_true rfl) (.inl rfl) dX7_copyFrom_66 (fun H locs hB => ?_)
    have hB : Bx B0 D _ [(w, .inr (7, [.ref f5422_0, .ref f5422_1, .ref (cs (400 + i)), .ref (cs (420 + i)), .ref (cs (460 + i)), .ref f5422_5, .long f5421_6, .int f5422_7, .int f5422_8, .int f5422_9, .int f5422_10, .int f5422_11, .int f5422_12, .int f5422_13, .int f5422_14, .int f5422_15]))] [w] _ _ := hB
    refine lv_aload_n hx hb dX7_copyFrom_69 rfl (lv_at hl 1 rfl) ?_
    refine lv_aload_n hx hb dX7_copyFrom_70 rfl (lv_at hl 2 rfl) ?_
    obtain ⟨hb5423, e5423, hat5423, hk5423⟩ := hT.o8 hv.1
    obtain ⟨f5423_0, f5423_1, f5423_2, f5423_3, f5423_4, f5423_5, f5423_6, f5423_7, f5423_8, f5423_9, f5423_10, f5423_11, f5423_12, f5423_13, f5423_14, f5423_15, rfl, t5423_0, c5423_su, t5423_1, t5423_2, t5423_3, t5423_4, t5423_5, c5423_tm, c5423_lt, c5423_ml, c5423_pr, c5423_li⟩ := hk5423
    rw [hv.2] at t5423_1
    rw [hv.2] at t5423_2
    rw [hv.2] at t5423_3
    rw [hv.2] at t5423_4
    rw [hv.2] at t5423_5
    rw [hv.2] at c5423_lt c5423_ml c5423_pr c5423_li
    subst c5423_ml
    subst c5423_pr
    subst c5423_li
    have esu5423 := (c5423_su.trans hsu).symm
    subst esu5423
    have ctm5423 : f5423_7 &&& 15 = nI tm := by rw [c5423_tm, htm]
    have hB : Bx B0 D _ [(w, .inr (7, [.ref f5422_0, .ref f5422_1, .ref (cs (400 + i)), .ref (cs (420 + i)), .ref (cs (460 + i)), .ref f5422_5, .long f5421_6, .int f5422_7, .int f5422_8, .int f5422_9, .int f5422_10, .int f5422_11, .int f5422_12, .int f5422_13, .int f5422_14, .int f5422_15])), (v, .inr (7, [.ref su, .ref f5423_1, .ref (cs (400 + j)), .ref (cs (420 + j)), .ref (cs (460 + j)), .ref f5423_5, .long f5423_6, .int f5423_7, .int f5423_8, .int f5423_9, .int f5423_10, .int f5423_11, .int f5423_12, .int f5423_13, .int f5423_14, .int f5423_15]))] [w] _ _ := hB.more hat5423 hb5423 (fa_c (ne_o hw.2 hv.2 (by first | decide | assumption | exact (fun e9 => hij e9.symm) | omega)) fa_n) (fa_c (ne_o hw.2 hv.2 (by first | decide | assumption | exact (fun e9 => hij e9.symm) | omega)) fa_n)
    refine va_get (D := D) (ci := 7) (v := .int f5423_7) (C := RX7) (T := TX7) (N := 16) hx hb hts iX7_copyFrom_7 hown hN.1 hB.1 1 rfl rfl 7 (by decide) (hts _ mX7_copyFrom_6) (fun _ h9 => h9) rfl dX7_copyFrom_71 ?_
    refine b_put (D := D) (ci := 7) (v := .int f5423_7) (ty := .int) (C := RX7) (T := TX7) (N := 16) hx hb hts iX7_copyFrom_7 tyX7 tyX7_ok nmX7 hown hN hB 0 rfl rfl 7 (by decide) (hts _ mX7_copyFrom_6) (fun _ h9 => h9) rfl (by decide +kernel) rfl rfl (Nat.le_of_ble_eq_true rfl) (.inr ⟨rfl, List.mem_of_getElem? (i := 0) rfl⟩) dX7_copyFrom_74 (fun H locs hB => ?_)
    have hB : Bx B0 D _ [(w, .inr (7, [.ref f5422_0, .ref f5422_1, .ref (cs (400 + i)), .ref (cs (420 + i)), .ref (cs (460 + i)), .ref f5422_5, .long f5421_6, .int f5423_7, .int f5422_8, .int f5422_9, .int f5422_10, .int f5422_11, .int f5422_12, .int f5422_13, .int f5422_14, .int f5422_15])), (v, .inr (7, [.ref su, .ref f5423_1, .ref (cs (400 + j)), .ref (cs (420 + j)), .ref (cs (460 + j)), .ref f5423_5, .long f5423_6, .int f5423_7, .int f5423_8, .int f5423_9, .int f5423_10, .int f5423_11, .int f5423_12, .int f5423_13, .int f5423_14, .int f5423_15]))] [w] _ _ := hB
    refine lv_aload_n hx hb dX7_copyFrom_77 rfl (lv_at hl 1 rfl) ?_
    refine lv_aload_n hx hb dX7_copyFrom_78 rfl (lv_at hl 2 rfl) ?_
    refine va_get (D := D) (ci := 7) (v := .int f5423_8) (C := RX7) (T := TX7) (N := 16) hx hb hts iX7_copyFrom_7 hown hN.1 hB.1 1 rfl rfl 8 (by decide) (hts _ mX7_copyFrom_7) (fun _ h9 => h9) rfl dX7_copyFrom_79 ?_
    refine b_put (D := D) (ci := 7) (v := .int f5423_8) (ty := .int) (C := RX7) (T := TX7) (N := 16) hx hb hts iX7_copyFrom_7 tyX7 tyX7_ok nmX7 hown hN hB 0 rfl rfl 8 (by decide) (hts _ mX7_copyFrom_7) (fun _ h9 => h9) rfl (by decide +kernel) rfl rfl (Nat.le_of_ble_eq_true rfl) (.inr ⟨rfl, List.mem_of_getElem? (i := 0) rfl⟩) dX7_copyFrom_82 (fun H locs hB => ?_)
    have hB : Bx B0 D _ [(w, .inr (7, [.ref f5422_0, .ref f5422_1, .ref (cs (400 + i)), .ref (cs (420 + i)), .ref (cs (460 + i)), .ref f5422_5, .long f5421_6, .int f5423_7, .int f5423_8, .int f5422_9, .int f5422_10, .int f5422_11, .int f5422_12, .int f5422_13, .int f5422_14, .int f5422_15])), (v, .inr (7, [.ref su, .ref f5423_1, .ref (cs (400 + j)), .ref (cs (420 + j)), .ref (cs (460 + j)), .ref f5423_5, .long f5423_6, .int f5423_7, .int f5423_8, .int f5423_9, .int f5423_10, .int f5423_11, .int f5423_12, .int f5423_13, .int f5423_14, .int f5423_15]))] [w] _ _ := hB
    refine lv_aload_n hx hb dX7_copyFrom_85 rfl (lv_at hl 1 rfl) ?_
    refine lv_aload_n hx hb dX7_copyFrom_86 rfl (lv_at hl 2 rfl) ?_
    refine va_get (D := D) (ci := 7) (v := .int f5423_9) (C := RX7) (T := TX7) (N := 16) hx hb hts iX7_copyFrom_7 hown hN.1 hB.1 1 rfl rfl 9 (by decide) (hts _ mX7_copyFrom_8) (fun _ h9 => h9) rfl dX7_copyFrom_87 ?_
    refine b_put (D := D) (ci := 7) (v := .int f5423_9) (ty := .int) (C := RX7) (T := TX7) (N := 16) hx hb hts iX7_copyFrom_7 tyX7 tyX7_ok nmX7 hown hN hB 0 rfl rfl 9 (by decide) (hts _ mX7_copyFrom_8) (fun _ h9 => h9) rfl (by decide +kernel) rfl rfl (Nat.le_of_ble_eq_true rfl) (.inr ⟨rfl, List.mem_of_getElem? (i := 0) rfl⟩) dX7_copyFrom_90 (fun H locs hB => ?_)
    have hB : Bx B0 D _ [(w, .inr (7, [.ref f5422_0, .ref f5422_1, .ref (cs (400 + i)), .ref (cs (420 + i)), .ref (cs (460 + i)), .ref f5422_5, .long f5421_6, .int f5423_7, .int f5423_8, .int f5423_9, .int f5422_10, .int f5422_11, .int f5422_12, .int f5422_13, .int f5422_14, .int f5422_15])), (v, .inr (7, [.ref su, .ref f5423_1, .ref (cs (400 + j)), .ref (cs (420 + j)), .ref (cs (460 + j)), .ref f5423_5, .long f5423_6, .int f5423_7, .int f5423_8, .int f5423_9, .int f5423_10, .int f5423_11, .int f5423_12, .int f5423_13, .int f5423_14, .int f5423_15]))] [w] _ _ := hB
    refine lv_aload_n hx hb dX7_copyFrom_93 rfl (lv_at hl 1 rfl) ?_
    refine lv_aload_n hx hb dX7_copyFrom_94 rfl (lv_at hl 2 rfl) ?_
    refine va_get (D := D) (ci := 7) (v := .int f5423_10) (C := RX7) (T := TX7) (N := 16) hx hb hts iX7_copyFrom_7 hown hN.1 hB.1 1 rfl rfl 10 (by decide) (hts _ mX7_copyFrom_9) (fun _ h9 => h9) rfl dX7_copyFrom_95 ?_
    refine b_put (D := D) (ci := 7) (v := .int f5423_10) (ty := .int) (C := RX7) (T := TX7) (N := 16) hx hb hts iX7_copyFrom_7 tyX7 tyX7_ok nmX7 hown hN hB 0 rfl rfl 10 (by decide) (hts _ mX7_copyFrom_9) (fun _ h9 => h9) rfl (by decide +kernel) rfl rfl (Nat.le_of_ble_eq_true rfl) (.inr ⟨rfl, List.mem_of_getElem? (i := 0) rfl⟩) dX7_copyFrom_98 (fun H locs hB => ?_)
    have hB : Bx B0 D _ [(w, .inr (7, [.ref f5422_0, .ref f5422_1, .ref (cs (400 + i)), .ref (cs (420 + i)), .ref (cs (460 + i)), .ref f5422_5, .long f5421_6, .int f5423_7, .int f5423_8, .int f5423_9, .int f5423_10, .int f5422_11, .int f5422_12, .int f5422_13, .int f5422_14, .int f5422_15])), (v, .inr (7, [.ref su, .ref f5423_1, .ref (cs (400 + j)), .ref (cs (420 + j)), .ref (cs (460 + j)), .ref f5423_5, .long f5423_6, .int f5423_7, .int f5423_8, .int f5423_9, .int f5423_10, .int f5423_11, .int f5423_12, .int f5423_13, .int f5423_14, .int f5423_15]))] [w] _ _ := hB
    refine lv_aload_n hx hb dX7_copyFrom_101 rfl (lv_at hl 1 rfl) ?_
    refine lv_aload_n hx hb dX7_copyFrom_102 rfl (lv_at hl 2 rfl) ?_
    refine va_get (D := D) (ci := 7) (v := .int f5423_11) (C := RX7) (T := TX7) (N := 16) hx hb hts iX7_copyFrom_7 hown hN.1 hB.1 1 rfl rfl 11 (by decide) (hts _ mX7_copyFrom_10) (fun _ h9 => h9) rfl dX7_copyFrom_103 ?_
    refine b_put (D := D) (ci := 7) (v := .int f5423_11) (ty := .int) (C := RX7) (T := TX7) (N := 16) hx hb hts iX7_copyFrom_7 tyX7 tyX7_ok nmX7 hown hN hB 0 rfl rfl 11 (by decide) (hts _ mX7_copyFrom_10) (fun _ h9 => h9) rfl (by decide +kernel) rfl rfl (Nat.le_of_ble_eq_true rfl) (.inr ⟨rfl, List.mem_of_getElem? (i := 0) rfl⟩) dX7_copyFrom_106 (fun H locs hB => ?_)
    have hB : Bx B0 D _ [(w, .inr (7, [.ref f5422_0, .ref f5422_1, .ref (cs (400 + i)), .ref (cs (420 + i)), .ref (cs (460 + i)), .ref f5422_5, .long f5421_6, .int f5423_7, .int f5423_8, .int f5423_9, .int f5423_10, .int f5423_11, .int f5422_12, .int f5422_13, .int f5422_14, .int f5422_15])), (v, .inr (7, [.ref su, .ref f5423_1, .ref (cs (400 + j)), .ref (cs (420 + j)), .ref (cs (460 + j)), .ref f5423_5, .long f5423_6, .int f5423_7, .int f5423_8, .int f5423_9, .int f5423_10, .int f5423_11, .int f5423_12, .int f5423_13, .int f5423_14, .int f5423_15]))] [w] _ _ := hB
    refine lv_aload_n hx hb dX7_copyFrom_109 rfl (lv_at hl 1 rfl) ?_
    refine lv_aload_n hx hb dX7_copyFrom_110 rfl (lv_at hl 2 rfl) ?_
    refine va_get (D := D) (ci := 7) (v := .int f5423_12) (C := RX7) (T := TX7) (N := 16) hx hb hts iX7_copyFrom_7 hown hN.1 hB.1 1 rfl rfl 12 (by decide) (hts _ mX7_copyFrom_11) (fun _ h9 => h9) rfl dX7_copyFrom_111 ?_
    refine b_put (D := D) (ci := 7) (v := .int f5423_12) (ty := .int) (C := RX7) (T := TX7) (N := 16) hx hb hts iX7_copyFrom_7 tyX7 tyX7_ok nmX7 hown hN hB 0 rfl rfl 12 (by decide) (hts _ mX7_copyFrom_11) (fun _ h9 => h9) rfl (by decide +kernel) rfl rfl (Nat.le_of_ble_eq_true rfl) (.inr ⟨rfl, List.mem_of_getElem? (i := 0) rfl⟩) dX7_copyFrom_114 (fun H locs hB => ?_)
    have hB : Bx B0 D _ [(w, .inr (7, [.ref f5422_0, .ref f5422_1, .ref (cs (400 + i)), .ref (cs (420 + i)), .ref (cs (460 + i)), .ref f5422_5, .long f5421_6, .int f5423_7, .int f5423_8, .int f5423_9, .int f5423_10, .int f5423_11, .int f5423_12, .int f5422_13, .int f5422_14, .int f5422_15])), (v, .inr (7, [.ref su, .ref f5423_1, .ref (cs (400 + j)), .ref (cs (420 + j)), .ref (cs (460 + j)), .ref f5423_5, .long f5423_6, .int f5423_7, .int f5423_8, .int f5423_9, .int f5423_10, .int f5423_11, .int f5423_12, .int f5423_13, .int f5423_14, .int f5423_15]))] [w] _ _ := hB
    refine lv_aload_n hx hb dX7_copyFrom_117 rfl (lv_at hl 1 rfl) ?_
    refine lv_aload_n hx hb dX7_copyFrom_118 rfl (lv_at hl 2 rfl) ?_
    refine va_get (D := D) (ci := 7) (v := .int f5423_13) (C := RX7) (T := TX7) (N := 16) hx hb hts iX7_copyFrom_7 hown hN.1 hB.1 1 rfl rfl 13 (by decide) (hts _ mX7_copyFrom_12) (fun _ h9 => h9) rfl dX7_copyFrom_119 ?_
    refine b_put (D := D) (ci := 7) (v := .int f5423_13) (ty := .int) (C := RX7) (T := TX7) (N := 16) hx hb hts iX7_copyFrom_7 tyX7 tyX7_ok nmX7 hown hN hB 0 rfl rfl 13 (by decide) (hts _ mX7_copyFrom_12) (fun _ h9 => h9) rfl (by decide +kernel) rfl rfl (Nat.le_of_ble_eq_true rfl) (.inr ⟨rfl, List.mem_of_getElem? (i := 0) rfl⟩) dX7_copyFrom_122 (fun H locs hB => ?_)
    have hB : Bx B0 D _ [(w, .inr (7, [.ref f5422_0, .ref f5422_1, .ref (cs (400 + i)), .ref (cs (420 + i)), .ref (cs (460 + i)), .ref f5422_5, .long f5421_6, .int f5423_7, .int f5423_8, .int f5423_9, .int f5423_10, .int f5423_11, .int f5423_12, .int f5423_13, .int f5422_14, .int f5422_15])), (v, .inr (7, [.ref su, .ref f5423_1, .ref (cs (400 + j)), .ref (cs (420 + j)), .ref (cs (460 + j)), .ref f5423_5, .long f5423_6, .int f5423_7, .int f5423_8, .int f5423_9, .int f5423_10, .int f5423_11, .int f5423_12, .int f5423_13, .int f5423_14, .int f5423_15]))] [w] _ _ := hB
    refine lv_aload_n hx hb dX7_copyFrom_125 rfl (lv_at hl 1 rfl) ?_
    refine lv_aload_n hx hb dX7_copyFrom_126 rfl (lv_at hl 2 rfl) ?_
    refine va_get (D := D) (ci := 7) (v := .int f5423_14) (C := RX7) (T := TX7) (N := 16) hx hb hts iX7_copyFrom_7 hown hN.1 hB.1 1 rfl rfl 14 (by decide) (hts _ mX7_copyFrom_13) (fun _ h9 => h9) rfl dX7_copyFrom_127 ?_
    refine b_put (D := D) (ci := 7) (v := .int f5423_14) (ty := .int) (C := RX7) (T := TX7) (N := 16) hx hb hts iX7_copyFrom_7 tyX7 tyX7_ok nmX7 hown hN hB 0 rfl rfl 14 (by decide) (hts _ mX7_copyFrom_13) (fun _ h9 => h9) rfl (by decide +kernel) rfl rfl (Nat.le_of_ble_eq_true rfl) (.inr ⟨rfl, List.mem_of_getElem? (i := 0) rfl⟩) dX7_copyFrom_130 (fun H locs hB => ?_)
    have hB : Bx B0 D _ [(w, .inr (7, [.ref f5422_0, .ref f5422_1, .ref (cs (400 + i)), .ref (cs (420 + i)), .ref (cs (460 + i)), .ref f5422_5, .long f5421_6, .int f5423_7, .int f5423_8, .int f5423_9, .int f5423_10, .int f5423_11, .int f5423_12, .int f5423_13, .int f5423_14, .int f5422_15])), (v, .inr (7, [.ref su, .ref f5423_1, .ref (cs (400 + j)), .ref (cs (420 + j)), .ref (cs (460 + j)), .ref f5423_5, .long f5423_6, .int f5423_7, .int f5423_8, .int f5423_9, .int f5423_10, .int f5423_11, .int f5423_12, .int f5423_13, .int f5423_14, .int f5423_15]))] [w] _ _ := hB
    refine lv_aload_n hx hb dX7_copyFrom_133 rfl (lv_at hl 1 rfl) ?_
    refine lv_aload_n hx hb dX7_copyFrom_134 rfl (lv_at hl 2 rfl) ?_
    refine va_get (D := D) (ci := 7) (v := .int f5423_15) (C := RX7) (T := TX7) (N := 16) hx hb hts iX7_copyFrom_7 hown hN.1 hB.1 1 rfl rfl 15 (by decide) (hts _ mX7_copyFrom_14) (fun _ h9 => h9) rfl dX7_copyFrom_135 ?_
    refine b_put (D := D) (ci := 7) (v := .int f5423_15) (ty := .int) (C := RX7) (T := TX7) (N := 16) hx hb hts iX7_copyFrom_7 tyX7 tyX7_ok nmX7 hown hN hB 0 rfl rfl 15 (by decide) (hts _ mX7_copyFrom_14) (fun _ h9 => h9) rfl (by decide +kernel) rfl rfl (Nat.le_of_ble_eq_true rfl) (.inr ⟨rfl, List.mem_of_getElem? (i := 0) rfl⟩) dX7_copyFrom_138 (fun H locs hB => ?_)
    have hB : Bx B0 D _ [(w, .inr (7, [.ref f5422_0, .ref f5422_1, .ref (cs (400 + i)), .ref (cs (420 + i)), .ref (cs (460 + i)), .ref f5422_5, .long f5421_6, .int f5423_7, .int f5423_8, .int f5423_9, .int f5423_10, .int f5423_11, .int f5423_12, .int f5423_13, .int f5423_14, .int f5423_15])), (v, .inr (7, [.ref su, .ref f5423_1, .ref (cs (400 + j)), .ref (cs (420 + j)), .ref (cs (460 + j)), .ref f5423_5, .long f5423_6, .int f5423_7, .int f5423_8, .int f5423_9, .int f5423_10, .int f5423_11, .int f5423_12, .int f5423_13, .int f5423_14, .int f5423_15]))] [w] _ _ := hB
    have hMW := hMW.fr hT hv hsu (Fr.close (S := [i]) Fr.rf hB (fa_c (by simp [hw.2]) fa_n)) (by first | (simp; done) | (simp [hij, h15a, h15b, h20a]; done) | (simp; omega)) (by first | (simp; done) | (simp [hij, h15a, h15b, h20a]; done) | (simp; omega))
    have hMB := hMB.fr hT hmk (Fr.close (S := [i]) Fr.rf hB (fa_c (by simp [hw.2]) fa_n)) (by first | (simp; done) | (simp [hij, h15a, h15b, h20a]; done) | (simp; omega))
    have hF : Fr B0 [i, i + 20] κ H0 _ := hF.closeN hB (fa_c (fun h9 => by rw [← (hKF _ h9).2, hw.2]; simp) fa_n)
    have hT : WT B0 D cs T (kp κ5420 w (κ5420 w).2.2.1 tm) _ := hT.closeK w (κ5420 w).2.2.1 tm hB (by rw [hw.1]; decide) (by rw [hw.1]; decide) (List.mem_of_getElem? (i := 0) rfl) ⟨⟨0, _, rfl, kp_ok (ok_8 (k := ((κ5420 w).1, (κ5420 w).2.1, _, _)) hw.1 ⟨_, _, _, _, _, _, _, _, _, _, _, _, _, _, _, _, rfl, (t2kp t5422_0), c5422_su, ⟨(t2kp t5422_1).1, by rw [hw.2]; exact (t2kp t5422_1).2⟩, ⟨(t2kp t5422_2).1, by rw [hw.2]; exact (t2kp t5422_2).2⟩, ⟨(t2kp t5422_3).1, by rw [hw.2]; exact (t2kp t5422_3).2⟩, ⟨(t2kp t5422_4).1, by rw [hw.2]; exact (t2kp t5422_4).2⟩, ⟨(t2kp t5422_5).1, by rw [hw.2]; exact (t2kp t5422_5).2⟩, ctm5423, (by rw [hw.2]; omega), (by first | rw [hw.2] | (dsimp only; rw [hw.2])), (by first | rw [hw.2] | (dsimp only; rw [hw.2])), (by first | rw [hw.2] | (dsimp only; rw [hw.2]))⟩)⟩, trivial⟩
    have hL : OkL B0 _ := hB.2.2.2.2.2
    have hP : va_P D vwCl [(w, .inr (7, [.ref f5422_0, .ref f5422_1, .ref (cs (400 + i)), .ref (cs (420 + i)), .ref (cs (460 + i)), .ref f5422_5, .long f5421_6, .int f5423_7, .int f5423_8, .int f5423_9, .int f5423_10, .int f5423_11, .int f5423_12, .int f5423_13, .int f5423_14, .int f5423_15])), (v, .inr (7, [.ref su, .ref f5423_1, .ref (cs (400 + j)), .ref (cs (420 + j)), .ref (cs (460 + j)), .ref f5423_5, .long f5423_6, .int f5423_7, .int f5423_8, .int f5423_9, .int f5423_10, .int f5423_11, .int f5423_12, .int f5423_13, .int f5423_14, .int f5423_15]))] _ := hB.1
    obtain ⟨κ5424, hκ5424⟩ : ∃ κq : KM, κq = (kp κ5420 w (κ5420 w).2.2.1 tm) := ⟨_, rfl⟩
    have hxf5424 : KF κ5420 κ5424 := by rw [hκ5424]; exact KF.kp
    rw [← hκ5424] at hT
    have hKF := hKF.tr hxf5424
    have hks : (κ5424 w).2.2.1 = su := by rw [hκ5424, kp_a]; exact hks
    have hkt : (κ5424 w).2.2.2 = tm := by rw [hκ5424, kp_a]
    have hkpa : (κ5424 (cs (420 + i))).2.2.1 = _ := (congrArg (fun q9 => q9.2.2.1) (show κ5424 (cs (420 + i)) = κ5420 (cs (420 + i)) by rw [hκ5424]; exact kp_n (ne_c hpr.1 hw.1 (by decide)))).trans hkpa
    have hKU : KU i κ κ5424 := hKU.tr (show KU i κ5420 κ5424 by rw [hκ5424]; exact KU.kp hw)
    have hkw9 : κ5424 v = κ5420 v := by rw [hκ5424]; exact kp_n (by first | exact ne_c hv.1 hw.1 (by decide) | exact ne_o hv.2 hw.2 (by first | assumption | exact (fun e9 => hij e9.symm) | omega))
    rw [← hkw9] at hsu htm
    have hw := (KF.t2 hxf5424 hw (by decide))
    have hv := (KF.t2 hxf5424 hv (by decide))
    have hpr := (KF.t2 hxf5424 hpr (by decide))
    have hmk := (KF.t2 hxf5424 hmk (by decide))
    have hli := (KF.t2 hxf5424 hli (by decide))
    have hprv := (KF.t2 hxf5424 hprv (by decide))
    have hmkv := (KF.t2 hxf5424 hmkv (by decide))
    refine W.know (fun hg => ?_)
    rw [hH0] at hg
    exact en_v hx hb hr hlocks hL (show k5415 ≤ ((56 * sumN C 16 + 22407 - 2 * sumN ln 16) / 35) by omega) (show n5416 ≤ (56 * sumN C 16 + 22407 - 2 * sumN ln 16) by omega) dX7_copyFrom_141 (⟨_, hKU, hT, hF, _, _, _, _, ⟨hMB, hMW.2.1, hLB, hMW.2.2.2⟩, ⟨hg, hGN⟩, hks, hkt, hkpa, hrr⟩)
  · have c5404 : ¬ 8 ≤ p := fun h9 => c5404 ((nI_leI (a := 8) (b := p) (by omega) (by omega)).mpr h9)
    refine lv_aload_n hx hb dX7_copyFrom_19 rfl (lv_at hl 1 rfl) ?_
    refine va_get (D := D) (ci := 7) (v := .ref f5402_1) (C := RX7) (T := TX7) (N := 16) hx hb hts iX7_copyFrom_7 hown hN.1 hP 1 rfl rfl 1 (by decide) (hts _ mX7_copyFrom_2) (fun _ h9 => h9) rfl dX7_copyFrom_20 ?_
    refine lv_iload_n hx hb dX7_copyFrom_23 rfl (lv_at hl 0 rfl) ?_
    obtain ⟨a5425, ea5425, ta5425⟩ := q5403 (p) (by omega)
    refine ld_p (v := .ref a5425) hx hb hN hP 0 rfl (vp_in_nI (n := p) (N := 8) (by omega) (by omega)) (by rw [(show ((nI p) : Int32).toNatClampNeg = p from nI_clamp (n := p) (by omega)), ea5425]; rfl) dX7_copyFrom_24 ?_
    refine lv_aload_n hx hb dX7_copyFrom_25 rfl (lv_at hl 2 rfl) ?_
    refine lv_iload_n hx hb dX7_copyFrom_26 rfl (lv_at hl 0 rfl) ?_
    refine cv_r (As := [.int (nI p)]) (rest := [.ref a5425]) (b := v) ⟨hx, hb, hml, hown, hts⟩ (c_X7_at hT (w := v) hv (x := (nI p))) (cwV 1 hts gX7_copyFrom_X7_at rfl rfl rfl hdX7_at_v ⟨Nat.le_of_ble_eq_true rfl, Nat.le_of_ble_eq_true rfl⟩) hN hE hL (rcv8 hN hT hv.1) rfl rfl hl.1 (Nat.le_of_ble_eq_true rfl) dX7_copyFrom_27 (Nat.zero_le _) (Nat.zero_le _) (fun r5426 H1 locs hL hqr5426 => ?_)
    obtain ⟨h9, hqr5426⟩ := hqr5426; replace h9 := h9.symm; subst h9
    refine cv_v (As := [.ref r5426]) (rest := []) (b := a5425) ⟨hx, hb, hml, hown, hts⟩ (c_X3_copyFrom hT (w := a5425) ta5425 (v := r5426) hqr5426 ((fun e9 => hij e9.symm))) (cwV 1 hts gX7_copyFrom_X3_copyFrom rfl rfl rfl hdX3_copyFrom_v ⟨Nat.le_of_ble_eq_true rfl, Nat.le_of_ble_eq_true rfl⟩) hN hE hL (rcv4 hN hT ta5425.1) rfl rfl hl.1 (Nat.le_of_ble_eq_true rfl) dX7_copyFrom_30 (Nat.zero_le _) (Nat.zero_le _) (fun H1 locs hL hqr5427 => ?_)
    obtain ⟨hT1, hF1⟩ := hqr5427
    have hMW := hMW.fr hT hv hsu hF1 (by first | (simp; done) | (simp [hij, h15a, h15b, h20a]; done) | (simp; omega)) (by first | (simp; done) | (simp [hij, h15a, h15b, h20a]; done) | (simp; omega))
    have hML := hML.fr hT hmk hF1 (by first | (simp; done) | (simp [hij, h15a, h15b, h20a]; done) | (simp; omega))
    have hF := hF.tr ((hF1.kf hKF).mono (by simp))
    have hT := hT1
    refine lv_iinc (v := (nI (p + 1))) (lv' := [(2, .int (nI (p + 1))), (0, .ref w), (1, .ref v)]) hx hb dX7_copyFrom_33 hl (k := 0) rfl (nI_add _ 1) (by decide) rfl (fun ls hl => ?_)
    refine lv_goto (tgt := 10) hx hb dX7_copyFrom_36 (by decide) ?_
    exact ih5401 (p + 1) _ _ _ (by show 8 - ((p + 1)) < 8 - p; omega) ⟨(by show ((p + 1)) ≤ 8; omega), hMW, hML, hT, hF, hL⟩ (lv_sub hl [0, 1, 2] rfl)
theorem mX7_begin_1 : (.fieldLink RX7 52 "OneBeat$World" "setup" "LOneBeat$Setup;" : Cond) ∈ wsX7_begin := List.mem_of_getElem? (i := 1) (by decide +kernel)
theorem iX7_begin_7 : ∀ w ∈ wsX70, w ∈ wsX7_begin := fun w h => List.mem_of_mem_drop (List.mem_of_mem_take ((show wsX70 = (wsX7_begin.drop 50).take 16 by decide +kernel) ▸ h))
theorem mX7_begin_2 : (.fieldLink RX7 11 "OneBeat$World" "players" "[LOneBeat$Player;" : Cond) ∈ wsX7_begin := List.mem_of_getElem? (i := 2) (by decide +kernel)
theorem mX7_begin_3 : (.fieldLink RX7 20 "OneBeat$World" "mail" "LOneBeat$Mail;" : Cond) ∈ wsX7_begin := List.mem_of_getElem? (i := 3) (by decide +kernel)
theorem hdX2_begin_v : yX2_begin.cls = RX2 ∧ yX2_begin.cls ≠ "java/lang/invoke/MethodHandle" ∧ yX2_begin.cls ≠ "java/lang/invoke/VarHandle" ∧ (parseMethodDescriptor yX2_begin.desc).map (fun d => d.parameters.length) = some 0 := by decide +kernel
theorem mX7_begin_4 : (.fieldLink RX7 27 "OneBeat$World" "latest" "LOneBeat$Proposal;" : Cond) ∈ wsX7_begin := List.mem_of_getElem? (i := 4) (by decide +kernel)
theorem hdX4_begin_v : yX4_begin.cls = RX4 ∧ yX4_begin.cls ≠ "java/lang/invoke/MethodHandle" ∧ yX4_begin.cls ≠ "java/lang/invoke/VarHandle" ∧ (parseMethodDescriptor yX4_begin.desc).map (fun d => d.parameters.length) = some 0 := by decide +kernel
theorem mX7_begin_5 : (.fieldLink RX7 60 "OneBeat$World" "cuts" "J" : Cond) ∈ wsX7_begin := List.mem_of_getElem? (i := 5) (by decide +kernel)
theorem mX7_begin_6 : (.fieldLink RX7 64 "OneBeat$World" "time" "I" : Cond) ∈ wsX7_begin := List.mem_of_getElem? (i := 6) (by decide +kernel)
theorem mX7_begin_7 : (.fieldLink RX7 68 "OneBeat$World" "conductor" "I" : Cond) ∈ wsX7_begin := List.mem_of_getElem? (i := 7) (by decide +kernel)
theorem mX7_begin_8 : (.fieldLink RX7 71 "OneBeat$World" "sent" "I" : Cond) ∈ wsX7_begin := List.mem_of_getElem? (i := 8) (by decide +kernel)
theorem mX7_begin_9 : (.fieldLink RX7 74 "OneBeat$World" "lost" "I" : Cond) ∈ wsX7_begin := List.mem_of_getElem? (i := 9) (by decide +kernel)
theorem mX7_begin_10 : (.fieldLink RX7 77 "OneBeat$World" "made" "I" : Cond) ∈ wsX7_begin := List.mem_of_getElem? (i := 10) (by decide +kernel)
theorem mX7_begin_11 : (.fieldLink RX7 80 "OneBeat$World" "committed" "I" : Cond) ∈ wsX7_begin := List.mem_of_getElem? (i := 11) (by decide +kernel)
theorem mX7_begin_12 : (.fieldLink RX7 83 "OneBeat$World" "givenUp" "I" : Cond) ∈ wsX7_begin := List.mem_of_getElem? (i := 12) (by decide +kernel)
theorem mX7_begin_13 : (.fieldLink RX7 86 "OneBeat$World" "changes" "I" : Cond) ∈ wsX7_begin := List.mem_of_getElem? (i := 13) (by decide +kernel)
theorem mX7_begin_14 : (.fieldLink RX7 89 "OneBeat$World" "late" "I" : Cond) ∈ wsX7_begin := List.mem_of_getElem? (i := 14) (by decide +kernel)
theorem hdX3_begin_v : yX3_begin.cls = RX3 ∧ yX3_begin.cls ≠ "java/lang/invoke/MethodHandle" ∧ yX3_begin.cls ≠ "java/lang/invoke/VarHandle" ∧ (parseMethodDescriptor yX3_begin.desc).map (fun d => d.parameters.length) = some 0 := by decide +kernel
set_option maxHeartbeats 4000000 in
set_option maxRecDepth 100000 in
theorem c_X7_begin {l : Launch} {D : va_G} {cs : Nat → ClassId} {B0 T : Nat} {κ : KM} {H0 : Heap} (hT : WT B0 D cs T κ H0) {w x i : Nat} (hw : T2 κ w 8 i) (hx7 : T2 κ x 7 15) {C cw ln : Nat → Nat} {rww : Nat → Nat → Int32} {dl : Nat → Int32} (hDl : Dly D cs H0 x dl) (hML : MB D cs H0 (cs (400 + i)) cw ln rww) (hLL : LC C cw ln) (hcw : ∀ q, q < 16 → cw q ≤ C q + 24) : KC l yX7_begin wsX7_begin 2 43 0 0 D cs B0 H0 [.ref w, .ref x] (Qv (fun H => ∃ κ1, KU i κ κ1 ∧ WT B0 D cs T κ1 H ∧ Fr B0 [i, i + 20] κ H0 H ∧ MW D cs H i x 0 C (fun _ => 0) ln rww dl ∧ (κ1 w).2.2.1 = x ∧ (κ1 w).2.2.2 = 0 ∧ (κ1 (cs (420 + i))).2.2.1 = 1)) := by
  refine KC.of cX7_begin 3 none (by decide) rfl (Nat.le_of_ble_eq_true rfl) ?_
  intro p e s m below meth c ls hx hb hr hml hown hts hlocks hin hN hE hH0 hl
  have hown : s.vm.findClass RX7 = some m.cls := hown
  have hl : lv_has ls 3 [(0, .ref w), (1, .ref x)] := hl
  have hL : OkL B0 [] := OkL.nil
  have hF : Fr B0 [i, i + 20] κ H0 H0 := Fr.rf
  obtain ⟨hmk, hpr, hli, -, hi10⟩ := hT.ml hw
  have h15a : ¬ 15 = i := by omega
  have h15b : ¬ 15 = i + 20 := by omega
  have hks : (κ w).2.2.1 = (κ w).2.2.1 := rfl
  refine lv_aload_n hx hb dX7_begin_0 rfl (lv_at hl 0 rfl) ?_
  refine lv_aload_n hx hb dX7_begin_1 rfl (lv_at hl 1 rfl) ?_
  obtain ⟨hb5428, e5428, hat5428, hk5428⟩ := hT.o8 hw.1
  obtain ⟨f5428_0, f5428_1, f5428_2, f5428_3, f5428_4, f5428_5, f5428_6, f5428_7, f5428_8, f5428_9, f5428_10, f5428_11, f5428_12, f5428_13, f5428_14, f5428_15, rfl, t5428_0, c5428_su, t5428_1, t5428_2, t5428_3, t5428_4, t5428_5, c5428_tm, c5428_lt, c5428_ml, c5428_pr, c5428_li⟩ := hk5428
  rw [hw.2] at t5428_1
  rw [hw.2] at t5428_2
  rw [hw.2] at t5428_3
  rw [hw.2] at t5428_4
  rw [hw.2] at t5428_5
  rw [hw.2] at c5428_lt c5428_ml c5428_pr c5428_li
  subst c5428_ml
  subst c5428_pr
  subst c5428_li
  have hP : va_P D vwCl [(w, .inr (7, [.ref f5428_0, .ref f5428_1, .ref (cs (400 + i)), .ref (cs (420 + i)), .ref (cs (460 + i)), .ref f5428_5, .long f5428_6, .int f5428_7, .int f5428_8, .int f5428_9, .int f5428_10, .int f5428_11, .int f5428_12, .int f5428_13, .int f5428_14, .int f5428_15]))] _ := va_P.cons hat5428 va_P.nil
  have hB : Bx B0 D _ [(w, .inr (7, [.ref f5428_0, .ref f5428_1, .ref (cs (400 + i)), .ref (cs (420 + i)), .ref (cs (460 + i)), .ref f5428_5, .long f5428_6, .int f5428_7, .int f5428_8, .int f5428_9, .int f5428_10, .int f5428_11, .int f5428_12, .int f5428_13, .int f5428_14, .int f5428_15]))] [] _ _ := Bx.of (fun a => (κ a).1) hL hP (fa_c hb5428 fa_n) (by simp only [List.map_cons, List.map_nil, hw.1]; decide)
  refine b_put (D := D) (ci := 7) (v := .ref x) (ty := .object "OneBeat$Setup") (C := RX7) (T := TX7) (N := 16) hx hb hts iX7_begin_7 tyX7 tyX7_ok nmX7 hown hN hB 0 rfl rfl 0 (by decide) (hts _ mX7_begin_1) (fun _ h9 => h9) rfl (by decide +kernel) rfl rfl (Nat.le_of_ble_eq_true rfl) (.inl rfl) dX7_begin_2 (fun H locs hB => ?_)
  have hB : Bx B0 D _ [(w, .inr (7, [.ref x, .ref f5428_1, .ref (cs (400 + i)), .ref (cs (420 + i)), .ref (cs (460 + i)), .ref f5428_5, .long f5428_6, .int f5428_7, .int f5428_8, .int f5428_9, .int f5428_10, .int f5428_11, .int f5428_12, .int f5428_13, .int f5428_14, .int f5428_15]))] [w] _ _ := hB
  refine lv_iconst (v := 0) hx hb dX7_begin_5 (by decide) ?_
  refine lv_istore_n (lv' := [(2, .int 0), (0, .ref w), (1, .ref x)]) hx hb dX7_begin_6 rfl hl (by decide) rfl (fun ls hl => ?_)
  have hML := hML.fr hT hmk (Fr.close (S := [i]) Fr.rf hB (fa_c (by simp [hw.2]) fa_n)) (by first | (simp; done) | (simp [h15a, h15b]; done) | (simp; omega))
  have hDl := hDl.fr hT hx7 (Fr.close (S := [i]) Fr.rf hB (fa_c (by simp [hw.2]) fa_n)) (by first | (simp; done) | (simp [h15a, h15b]; done) | (simp; omega))
  have hF : Fr B0 [i, i + 20] κ H0 _ := hF.close hB (fa_c (by simp [hw.2]) fa_n)
  have hT : WT B0 D cs T (kp κ w x (κ w).2.2.2) _ := hT.closeK w x (κ w).2.2.2 hB (by rw [hw.1]; decide) (by rw [hw.1]; decide) (List.mem_of_getElem? (i := 0) rfl) ⟨⟨0, _, rfl, kp_ok (ok_8 (k := ((κ w).1, (κ w).2.1, _, _)) hw.1 ⟨_, _, _, _, _, _, _, _, _, _, _, _, _, _, _, _, rfl, (t2kp hx7), rfl, ⟨(t2kp t5428_1).1, by rw [hw.2]; exact (t2kp t5428_1).2⟩, ⟨(t2kp t5428_2).1, by rw [hw.2]; exact (t2kp t5428_2).2⟩, ⟨(t2kp t5428_3).1, by rw [hw.2]; exact (t2kp t5428_3).2⟩, ⟨(t2kp t5428_4).1, by rw [hw.2]; exact (t2kp t5428_4).2⟩, ⟨(t2kp t5428_5).1, by rw [hw.2]; exact (t2kp t5428_5).2⟩, c5428_tm, (by rw [hw.2]; omega), (by first | rw [hw.2] | (dsimp only; rw [hw.2])), (by first | rw [hw.2] | (dsimp only; rw [hw.2])), (by first | rw [hw.2] | (dsimp only; rw [hw.2]))⟩)⟩, trivial⟩
  have hL : OkL B0 _ := hB.2.2.2.2.2
  have hP : va_P D vwCl [(w, .inr (7, [.ref x, .ref f5428_1, .ref (cs (400 + i)), .ref (cs (420 + i)), .ref (cs (460 + i)), .ref f5428_5, .long f5428_6, .int f5428_7, .int f5428_8, .int f5428_9, .int f5428_10, .int f5428_11, .int f5428_12, .int f5428_13, .int f5428_14, .int f5428_15]))] _ := hB.1
  obtain ⟨κ5429, hκ5429⟩ : ∃ κq : KM, κq = (kp κ w x (κ w).2.2.2) := ⟨_, rfl⟩
  have hxf5429 : KF κ κ5429 := by rw [hκ5429]; exact KF.kp
  rw [← hκ5429] at hT
  have hKF : KF κ κ5429 := hxf5429
  have hks : (κ5429 w).2.2.1 = x := by rw [hκ5429, kp_a]
  have hKU : KU i κ κ5429 := (show KU i κ κ5429 by rw [hκ5429]; exact KU.kp hw)
  have hw := (KF.t2 hxf5429 hw (by decide))
  have hx7 := (KF.t2 hxf5429 hx7 (by decide))
  have hpr := (KF.t2 hxf5429 hpr (by decide))
  have hmk := (KF.t2 hxf5429 hmk (by decide))
  have hli := (KF.t2 hxf5429 hli (by decide))
  refine lp_m (α := Nat) (nL := 3) (fun a9 => 8 - a9) (fun a9 H9 l9 => (a9 ≤ 8) ∧ (MB D cs H9 (cs (400 + i)) cw ln rww) ∧ (Dly D cs H9 x dl) ∧ (WT B0 D cs T κ5429 H9) ∧ (Fr B0 [i, i + 20] κ H0 H9) ∧ (OkL B0 l9)) (fun a9 => [(2, .int (nI a9)), (0, .ref w)]) ?_ 0 _ _ _ ⟨(by show (0) ≤ 8; omega), hML, hDl, hT, hF, hL⟩ (lv_sub hl [0, 1] rfl)
  rintro p H locs ls ih5430 ⟨hp, hML, hDl, hT, hF, hL⟩ hl
  have hl : lv_has ls 3 [(2, .int (nI p)), (0, .ref w)] := hl
  have hp : p ≤ 8 := hp
  have hML : MB D cs H (cs (400 + i)) cw ln rww := hML
  have hDl : Dly D cs H x dl := hDl
  refine lv_iload_n hx hb dX7_begin_7 rfl (lv_at hl 0 rfl) ?_
  refine lv_aload_n hx hb dX7_begin_8 rfl (lv_at hl 1 rfl) ?_
  obtain ⟨hb5431, e5431, hat5431, hk5431⟩ := hT.o8 hw.1
  obtain ⟨f5431_0, f5431_1, f5431_2, f5431_3, f5431_4, f5431_5, f5431_6, f5431_7, f5431_8, f5431_9, f5431_10, f5431_11, f5431_12, f5431_13, f5431_14, f5431_15, rfl, t5431_0, c5431_su, t5431_1, t5431_2, t5431_3, t5431_4, t5431_5, c5431_tm, c5431_lt, c5431_ml, c5431_pr, c5431_li⟩ := hk5431
  rw [hw.2] at t5431_1
  rw [hw.2] at t5431_2
  rw [hw.2] at t5431_3
  rw [hw.2] at t5431_4
  rw [hw.2] at t5431_5
  rw [hw.2] at c5431_lt c5431_ml c5431_pr c5431_li
  subst c5431_ml
  subst c5431_pr
  subst c5431_li
  have hP : va_P D vwCl [(w, .inr (7, [.ref f5431_0, .ref f5431_1, .ref (cs (400 + i)), .ref (cs (420 + i)), .ref (cs (460 + i)), .ref f5431_5, .long f5431_6, .int f5431_7, .int f5431_8, .int f5431_9, .int f5431_10, .int f5431_11, .int f5431_12, .int f5431_13, .int f5431_14, .int f5431_15]))] _ := va_P.cons hat5431 va_P.nil
  refine va_get (D := D) (ci := 7) (v := .ref f5431_1) (C := RX7) (T := TX7) (N := 16) hx hb hts iX7_begin_7 hown hN.1 hP 0 rfl rfl 1 (by decide) (hts _ mX7_begin_2) (fun _ h9 => h9) rfl dX7_begin_9 ?_
  obtain ⟨hb5432, e5432, hat5432, hk5432⟩ := hT.o11 t5431_1.1
  obtain ⟨g5432, rfl, q5432⟩ := hk5432
  rw [t5431_1.2] at q5432
  have hP : va_P D vwCl [(f5431_1, .inl (cs 4, 8, .inr (.inr (.inr (.inr g5432))))), (w, .inr (7, [.ref f5431_0, .ref f5431_1, .ref (cs (400 + i)), .ref (cs (420 + i)), .ref (cs (460 + i)), .ref f5431_5, .long f5431_6, .int f5431_7, .int f5431_8, .int f5431_9, .int f5431_10, .int f5431_11, .int f5431_12, .int f5431_13, .int f5431_14, .int f5431_15]))] _ := va_P.cons hat5432 hP
  refine va_alen (v := 8) hx hb hN.1 hP 0 4 rfl rfl rfl dX7_begin_12 ?_
  refine lv_icmp_ge (tgt := 31) hx hb dX7_begin_13 (by decide) (fun c5433 => ?_) (fun c5433 => ?_)
  · have c5433 : 8 ≤ p := (nI_leI (a := 8) (b := p) (by omega) (by omega)).mp c5433
    refine lv_aload_n hx hb dX7_begin_31 rfl (lv_at hl 1 rfl) ?_
    refine va_get (D := D) (ci := 7) (v := .ref (cs (400 + i))) (C := RX7) (T := TX7) (N := 16) hx hb hts iX7_begin_7 hown hN.1 hP 1 rfl rfl 2 (by decide) (hts _ mX7_begin_3) (fun _ h9 => h9) rfl dX7_begin_32 ?_
    refine cv_v (As := []) (rest := []) (b := (cs (400 + i))) ⟨hx, hb, hml, hown, hts⟩ (c_X2_begin_dc hT (w := (cs (400 + i))) t5431_2 hML hLL hcw) (cwV 0 hts gX7_begin_X2_begin rfl rfl rfl hdX2_begin_v ⟨Nat.le_of_ble_eq_true rfl, Nat.le_of_ble_eq_true rfl⟩) hN hE hL (rcv3 hN hT t5431_2.1) rfl rfl hl.1 (Nat.le_of_ble_eq_true rfl) dX7_begin_35 (Nat.zero_le _) (Nat.zero_le _) (fun H1 locs hL hqr5434 => ?_)
    obtain ⟨hT1, hF1, hqr5434⟩ := hqr5434
    have hP : va_P D vwCl [(f5431_1, .inl (cs 4, 8, .inr (.inr (.inr (.inr g5432))))), (w, .inr (7, [.ref f5431_0, .ref f5431_1, .ref (cs (400 + i)), .ref (cs (420 + i)), .ref (cs (460 + i)), .ref f5431_5, .long f5431_6, .int f5431_7, .int f5431_8, .int f5431_9, .int f5431_10, .int f5431_11, .int f5431_12, .int f5431_13, .int f5431_14, .int f5431_15]))] _ := hF1.hP (hP.sub [0, 1] rfl) (fa_c ⟨by rw [t5431_1.1]; decide, by rw [t5431_1.2]; first | decide | (simp; done) | (simp [h15a, h15b, h15c]; done) | (simp; omega)⟩ (fa_c ⟨by rw [hw.1]; decide, by rw [hw.2]; first | decide | (simp; done) | (simp [h15a, h15b, h15c]; done) | (simp; omega)⟩ fa_n))
    have hDl := hDl.fr hT hx7 hF1 (by first | (simp; done) | (simp [h15a, h15b]; done) | (simp; omega))
    have hF := hF.tr ((hF1.kf hKF).mono (by simp))
    have hT := hT1
    have m5435 := hqr5434
    have hMB := m5435
    refine lv_aload_n hx hb dX7_begin_38 rfl (lv_at hl 1 rfl) ?_
    refine va_get (D := D) (ci := 7) (v := .ref (cs (420 + i))) (C := RX7) (T := TX7) (N := 16) hx hb hts iX7_begin_7 hown hN.1 hP 1 rfl rfl 3 (by decide) (hts _ mX7_begin_4) (fun _ h9 => h9) rfl dX7_begin_39 ?_
    refine cv_v (As := []) (rest := []) (b := (cs (420 + i))) ⟨hx, hb, hml, hown, hts⟩ (c_X4_begin hT (w := (cs (420 + i))) t5431_3) (cwV 0 hts gX7_begin_X4_begin rfl rfl rfl hdX4_begin_v ⟨Nat.le_of_ble_eq_true rfl, Nat.le_of_ble_eq_true rfl⟩) hN hE hL (rcv5 hN hT t5431_3.1) rfl rfl hl.1 (Nat.le_of_ble_eq_true rfl) dX7_begin_42 (Nat.zero_le _) (Nat.zero_le _) (fun H1 locs hL hqr5436 => ?_)
    obtain ⟨hT1, hF1⟩ := hqr5436
    have hMB := hMB.fr hT hmk hF1 (by first | (simp; done) | (simp [h15a, h15b]; done) | (simp; omega))
    have hDl := hDl.fr hT hx7 hF1 (by first | (simp; done) | (simp [h15a, h15b]; done) | (simp; omega))
    have hF := hF.tr ((hF1.kf hKF).mono (by simp))
    have hT := hT1
    obtain ⟨κ5437, hκ5437⟩ : ∃ κq : KM, κq = (kp κ5429 (cs (420 + i)) 1 (κ5429 (cs (420 + i))).2.2.2) := ⟨_, rfl⟩
    rw [← hκ5437] at hT
    have hxf5437 : KF κ5429 κ5437 := by rw [hκ5437]; exact KF.kp
    have hKF := hKF.tr hxf5437
    have hkt9 : κ5437 w = κ5429 w := by rw [hκ5437]; exact kp_n (ne_c hw.1 t5431_3.1 (by decide))
    rw [← hkt9] at hks
    have hKU : KU i κ κ5437 := hKU.tr (show KU i κ5429 κ5437 by rw [hκ5437]; exact KU.kp t5431_3)
    have hw := (KF.t2 hxf5437 hw (by decide))
    have hpr := (KF.t2 hxf5437 hpr (by decide))
    have hmk := (KF.t2 hxf5437 hmk (by decide))
    have hli := (KF.t2 hxf5437 hli (by decide))
    have hx7 := (KF.t2 hxf5437 hx7 (by decide))
    have hkpa : (κ5437 (cs (420 + i))).2.2.1 = 1 := by rw [hκ5437, kp_a]
    refine lv_aload_n hx hb dX7_begin_45 rfl (lv_at hl 1 rfl) ?_
    refine lv_lconst (v := 0) hx hb dX7_begin_46 (by decide) ?_
    obtain ⟨hb5438, e5438, hat5438, hk5438⟩ := hT.o8 hw.1
    obtain ⟨f5438_0, f5438_1, f5438_2, f5438_3, f5438_4, f5438_5, f5438_6, f5438_7, f5438_8, f5438_9, f5438_10, f5438_11, f5438_12, f5438_13, f5438_14, f5438_15, rfl, t5438_0, c5438_su, t5438_1, t5438_2, t5438_3, t5438_4, t5438_5, c5438_tm, c5438_lt, c5438_ml, c5438_pr, c5438_li⟩ := hk5438
    rw [hw.2] at t5438_1
    rw [hw.2] at t5438_2
    rw [hw.2] at t5438_3
    rw [hw.2] at t5438_4
    rw [hw.2] at t5438_5
    rw [hw.2] at c5438_lt c5438_ml c5438_pr c5438_li
    subst c5438_ml
    subst c5438_pr
    subst c5438_li
    have hP : va_P D vwCl [(w, .inr (7, [.ref f5438_0, .ref f5438_1, .ref (cs (400 + i)), .ref (cs (420 + i)), .ref (cs (460 + i)), .ref f5438_5, .long f5438_6, .int f5438_7, .int f5438_8, .int f5438_9, .int f5438_10, .int f5438_11, .int f5438_12, .int f5438_13, .int f5438_14, .int f5438_15]))] _ := va_P.cons hat5438 va_P.nil
    have hB : Bx B0 D _ [(w, .inr (7, [.ref f5438_0, .ref f5438_1, .ref (cs (400 + i)), .ref (cs (420 + i)), .ref (cs (460 + i)), .ref f5438_5, .long f5438_6, .int f5438_7, .int f5438_8, .int f5438_9, .int f5438_10, .int f5438_11, .int f5438_12, .int f5438_13, .int f5438_14, .int f5438_15]))] [] _ _ := Bx.of (fun a => (κ5437 a).1) hL hP (fa_c hb5438 fa_n) (by simp only [List.map_cons, List.map_nil, hw.1]; decide)
    refine b_put (D := D) (ci := 7) (v := .long 0) (ty := .long) (C := RX7) (T := TX7) (N := 16) hx hb hts iX7_begin_7 tyX7 tyX7_ok nmX7 hown hN hB 0 rfl rfl 6 (by decide) (hts _ mX7_begin_5) (fun _ h9 => h9) rfl (by decide +kernel) rfl rfl (Nat.le_of_ble_eq_true rfl) (.inl rfl) dX7_begin_47 (fun H locs hB => ?_)
    have hB : Bx B0 D _ [(w, .inr (7, [.ref f5438_0, .ref f5438_1, .ref (cs (400 + i)), .ref (cs (420 + i)), .ref (cs (460 + i)), .ref f5438_5, .long 0, .int f5438_7, .int f5438_8, .int f5438_9, .int f5438_10, .int f5438_11, .int f5438_12, .int f5438_13, .int f5438_14, .int f5438_15]))] [w] _ _ := hB
    refine lv_aload_n hx hb dX7_begin_50 rfl (lv_at hl 1 rfl) ?_
    refine lv_iconst (v := 0) hx hb dX7_begin_51 (by decide) ?_
    refine b_put (D := D) (ci := 7) (v := .int 0) (ty := .int) (C := RX7) (T := TX7) (N := 16) hx hb hts iX7_begin_7 tyX7 tyX7_ok nmX7 hown hN hB 0 rfl rfl 7 (by decide) (hts _ mX7_begin_6) (fun _ h9 => h9) rfl (by decide +kernel) rfl rfl (Nat.le_of_ble_eq_true rfl) (.inr ⟨rfl, List.mem_of_getElem? (i := 0) rfl⟩) dX7_begin_52 (fun H locs hB => ?_)
    have hB : Bx B0 D _ [(w, .inr (7, [.ref f5438_0, .ref f5438_1, .ref (cs (400 + i)), .ref (cs (420 + i)), .ref (cs (460 + i)), .ref f5438_5, .long 0, .int 0, .int f5438_8, .int f5438_9, .int f5438_10, .int f5438_11, .int f5438_12, .int f5438_13, .int f5438_14, .int f5438_15]))] [w] _ _ := hB
    refine lv_aload_n hx hb dX7_begin_55 rfl (lv_at hl 1 rfl) ?_
    refine lv_iconst (v := 0) hx hb dX7_begin_56 (by decide) ?_
    refine b_put (D := D) (ci := 7) (v := .int 0) (ty := .int) (C := RX7) (T := TX7) (N := 16) hx hb hts iX7_begin_7 tyX7 tyX7_ok nmX7 hown hN hB 0 rfl rfl 8 (by decide) (hts _ mX7_begin_7) (fun _ h9 => h9) rfl (by decide +kernel) rfl rfl (Nat.le_of_ble_eq_true rfl) (.inr ⟨rfl, List.mem_of_getElem? (i := 0) rfl⟩) dX7_begin_57 (fun H locs hB => ?_)
    have hB : Bx B0 D _ [(w, .inr (7, [.ref f5438_0, .ref f5438_1, .ref (cs (400 + i)), .ref (cs (420 + i)), .ref (cs (460 + i)), .ref f5438_5, .long 0, .int 0, .int 0, .int f5438_9, .int f5438_10, .int f5438_11, .int f5438_12, .int f5438_13, .int f5438_14, .int f5438_15]))] [w] _ _ := hB
    refine lv_aload_n hx hb dX7_begin_60 rfl (lv_at hl 1 rfl) ?_
    refine lv_iconst (v := 0) hx hb dX7_begin_61 (by decide) ?_
    refine b_put (D := D) (ci := 7) (v := .int 0) (ty := .int) (C := RX7) (T := TX7) (N := 16) hx hb hts iX7_begin_7 tyX7 tyX7_ok nmX7 hown hN hB 0 rfl rfl 9 (by decide) (hts _ mX7_begin_8) (fun _ h9 => h9) rfl (by decide +kernel) rfl rfl (Nat.le_of_ble_eq_true rfl) (.inr ⟨rfl, List.mem_of_getElem? (i := 0) rfl⟩) dX7_begin_62 (fun H locs hB => ?_)
    have hB : Bx B0 D _ [(w, .inr (7, [.ref f5438_0, .ref f5438_1, .ref (cs (400 + i)), .ref (cs (420 + i)), .ref (cs (460 + i)), .ref f5438_5, .long 0, .int 0, .int 0, .int 0, .int f5438_10, .int f5438_11, .int f5438_12, .int f5438_13, .int f5438_14, .int f5438_15]))] [w] _ _ := hB
    refine lv_aload_n hx hb dX7_begin_65 rfl (lv_at hl 1 rfl) ?_
    refine lv_iconst (v := 0) hx hb dX7_begin_66 (by decide) ?_
    refine b_put (D := D) (ci := 7) (v := .int 0) (ty := .int) (C := RX7) (T := TX7) (N := 16) hx hb hts iX7_begin_7 tyX7 tyX7_ok nmX7 hown hN hB 0 rfl rfl 10 (by decide) (hts _ mX7_begin_9) (fun _ h9 => h9) rfl (by decide +kernel) rfl rfl (Nat.le_of_ble_eq_true rfl) (.inr ⟨rfl, List.mem_of_getElem? (i := 0) rfl⟩) dX7_begin_67 (fun H locs hB => ?_)
    have hB : Bx B0 D _ [(w, .inr (7, [.ref f5438_0, .ref f5438_1, .ref (cs (400 + i)), .ref (cs (420 + i)), .ref (cs (460 + i)), .ref f5438_5, .long 0, .int 0, .int 0, .int 0, .int 0, .int f5438_11, .int f5438_12, .int f5438_13, .int f5438_14, .int f5438_15]))] [w] _ _ := hB
    refine lv_aload_n hx hb dX7_begin_70 rfl (lv_at hl 1 rfl) ?_
    refine lv_iconst (v := 0) hx hb dX7_begin_71 (by decide) ?_
    refine b_put (D := D) (ci := 7) (v := .int 0) (ty := .int) (C := RX7) (T := TX7) (N := 16) hx hb hts iX7_begin_7 tyX7 tyX7_ok nmX7 hown hN hB 0 rfl rfl 11 (by decide) (hts _ mX7_begin_10) (fun _ h9 => h9) rfl (by decide +kernel) rfl rfl (Nat.le_of_ble_eq_true rfl) (.inr ⟨rfl, List.mem_of_getElem? (i := 0) rfl⟩) dX7_begin_72 (fun H locs hB => ?_)
    have hB : Bx B0 D _ [(w, .inr (7, [.ref f5438_0, .ref f5438_1, .ref (cs (400 + i)), .ref (cs (420 + i)), .ref (cs (460 + i)), .ref f5438_5, .long 0, .int 0, .int 0, .int 0, .int 0, .int 0, .int f5438_12, .int f5438_13, .int f5438_14, .int f5438_15]))] [w] _ _ := hB
    refine lv_aload_n hx hb dX7_begin_75 rfl (lv_at hl 1 rfl) ?_
    refine lv_iconst (v := 0) hx hb dX7_begin_76 (by decide) ?_
    refine b_put (D := D) (ci := 7) (v := .int 0) (ty := .int) (C := RX7) (T := TX7) (N := 16) hx hb hts iX7_begin_7 tyX7 tyX7_ok nmX7 hown hN hB 0 rfl rfl 12 (by decide) (hts _ mX7_begin_11) (fun _ h9 => h9) rfl (by decide +kernel) rfl rfl (Nat.le_of_ble_eq_true rfl) (.inr ⟨rfl, List.mem_of_getElem? (i := 0) rfl⟩) dX7_begin_77 (fun H locs hB => ?_)
    have hB : Bx B0 D _ [(w, .inr (7, [.ref f5438_0, .ref f5438_1, .ref (cs (400 + i)), .ref (cs (420 + i)), .ref (cs (460 + i)), .ref f5438_5, .long 0, .int 0, .int 0, .int 0, .int 0, .int 0, .int 0, .int f5438_13, .int f5438_14, .int f5438_15]))] [w] _ _ := hB
    refine lv_aload_n hx hb dX7_begin_80 rfl (lv_at hl 1 rfl) ?_
    refine lv_iconst (v := 0) hx hb dX7_begin_81 (by decide) ?_
    refine b_put (D := D) (ci := 7) (v := .int 0) (ty := .int) (C := RX7) (T := TX7) (N := 16) hx hb hts iX7_begin_7 tyX7 tyX7_ok nmX7 hown hN hB 0 rfl rfl 13 (by decide) (hts _ mX7_begin_12) (fun _ h9 => h9) rfl (by decide +kernel) rfl rfl (Nat.le_of_ble_eq_true rfl) (.inr ⟨rfl, List.mem_of_getElem? (i := 0) rfl⟩) dX7_begin_82 (fun H locs hB => ?_)
    have hB : Bx B0 D _ [(w, .inr (7, [.ref f5438_0, .ref f5438_1, .ref (cs (400 + i)), .ref (cs (420 + i)), .ref (cs (460 + i)), .ref f5438_5, .long 0, .int 0, .int 0, .int 0, .int 0, .int 0, .int 0, .int 0, .int f5438_14, .int f5438_15]))] [w] _ _ := hB
    refine lv_aload_n hx hb dX7_begin_85 rfl (lv_at hl 1 rfl) ?_
    refine lv_iconst (v := 0) hx hb dX7_begin_86 (by decide) ?_
    refine b_put (D := D) (ci := 7) (v := .int 0) (ty := .int) (C := RX7) (T := TX7) (N := 16) hx hb hts iX7_begin_7 tyX7 tyX7_ok nmX7 hown hN hB 0 rfl rfl 14 (by decide) (hts _ mX7_begin_13) (fun _ h9 => h9) rfl (by decide +kernel) rfl rfl (Nat.le_of_ble_eq_true rfl) (.inr ⟨rfl, List.mem_of_getElem? (i := 0) rfl⟩) dX7_begin_87 (fun H locs hB => ?_)
    have hB : Bx B0 D _ [(w, .inr (7, [.ref f5438_0, .ref f5438_1, .ref (cs (400 + i)), .ref (cs (420 + i)), .ref (cs (460 + i)), .ref f5438_5, .long 0, .int 0, .int 0, .int 0, .int 0, .int 0, .int 0, .int 0, .int 0, .int f5438_15]))] [w] _ _ := hB
    refine lv_aload_n hx hb dX7_begin_90 rfl (lv_at hl 1 rfl) ?_
    refine lv_iconst (v := 0) hx hb dX7_begin_91 (by decide) ?_
    refine b_put (D := D) (ci := 7) (v := .int 0) (ty := .int) (C := RX7) (T := TX7) (N := 16) hx hb hts iX7_begin_7 tyX7 tyX7_ok nmX7 hown hN hB 0 rfl rfl 15 (by decide) (hts _ mX7_begin_14) (fun _ h9 => h9) rfl (by decide +kernel) rfl rfl (Nat.le_of_ble_eq_true rfl) (.inr ⟨rfl, List.mem_of_getElem? (i := 0) rfl⟩) dX7_begin_92 (fun H locs hB => ?_)
    have hB : Bx B0 D _ [(w, .inr (7, [.ref f5438_0, .ref f5438_1, .ref (cs (400 + i)), .ref (cs (420 + i)), .ref (cs (460 + i)), .ref f5438_5, .long 0, .int 0, .int 0, .int 0, .int 0, .int 0, .int 0, .int 0, .int 0, .int 0]))] [w] _ _ := hB
    have hMB := hMB.fr hT hmk (Fr.close (S := [i]) Fr.rf hB (fa_c (by simp [hw.2]) fa_n)) (by first | (simp; done) | (simp [h15a, h15b]; done) | (simp; omega))
    have hDl := hDl.fr hT hx7 (Fr.close (S := [i]) Fr.rf hB (fa_c (by simp [hw.2]) fa_n)) (by first | (simp; done) | (simp [h15a, h15b]; done) | (simp; omega))
    have hF : Fr B0 [i, i + 20] κ H0 _ := hF.closeN hB (fa_c (fun h9 => by rw [← (hKF _ h9).2, hw.2]; simp) fa_n)
    have hT : WT B0 D cs T (kp κ5437 w (κ5437 w).2.2.1 0) _ := hT.closeK w (κ5437 w).2.2.1 0 hB (by rw [hw.1]; decide) (by rw [hw.1]; decide) (List.mem_of_getElem? (i := 0) rfl) ⟨⟨0, _, rfl, kp_ok (ok_8 (k := ((κ5437 w).1, (κ5437 w).2.1, _, _)) hw.1 ⟨_, _, _, _, _, _, _, _, _, _, _, _, _, _, _, _, rfl, (t2kp t5438_0), c5438_su, ⟨(t2kp t5438_1).1, by rw [hw.2]; exact (t2kp t5438_1).2⟩, ⟨(t2kp t5438_2).1, by rw [hw.2]; exact (t2kp t5438_2).2⟩, ⟨(t2kp t5438_3).1, by rw [hw.2]; exact (t2kp t5438_3).2⟩, ⟨(t2kp t5438_4).1, by rw [hw.2]; exact (t2kp t5438_4).2⟩, ⟨(t2kp t5438_5).1, by rw [hw.2]; exact (t2kp t5438_5).2⟩, (show (0 : Int32) &&& 15 = nI 0 by decide), (by rw [hw.2]; omega), (by first | rw [hw.2] | (dsimp only; rw [hw.2])), (by first | rw [hw.2] | (dsimp only; rw [hw.2])), (by first | rw [hw.2] | (dsimp only; rw [hw.2]))⟩)⟩, trivial⟩
    have hL : OkL B0 _ := hB.2.2.2.2.2
    have hP : va_P D vwCl [(w, .inr (7, [.ref f5438_0, .ref f5438_1, .ref (cs (400 + i)), .ref (cs (420 + i)), .ref (cs (460 + i)), .ref f5438_5, .long 0, .int 0, .int 0, .int 0, .int 0, .int 0, .int 0, .int 0, .int 0, .int 0]))] _ := hB.1
    obtain ⟨κ5439, hκ5439⟩ : ∃ κq : KM, κq = (kp κ5437 w (κ5437 w).2.2.1 0) := ⟨_, rfl⟩
    have hxf5439 : KF κ5437 κ5439 := by rw [hκ5439]; exact KF.kp
    rw [← hκ5439] at hT
    have hKF := hKF.tr hxf5439
    have hks : (κ5439 w).2.2.1 = x := by rw [hκ5439, kp_a]; exact hks
    have hkt : (κ5439 w).2.2.2 = 0 := by rw [hκ5439, kp_a]
    have hkpa : (κ5439 (cs (420 + i))).2.2.1 = _ := (congrArg (fun q9 => q9.2.2.1) (show κ5439 (cs (420 + i)) = κ5437 (cs (420 + i)) by rw [hκ5439]; exact kp_n (ne_c hpr.1 hw.1 (by decide)))).trans hkpa
    have hKU : KU i κ κ5439 := hKU.tr (show KU i κ5437 κ5439 by rw [hκ5439]; exact KU.kp hw)
    have hw := (KF.t2 hxf5439 hw (by decide))
    have hpr := (KF.t2 hxf5439 hpr (by decide))
    have hmk := (KF.t2 hxf5439 hmk (by decide))
    have hli := (KF.t2 hxf5439 hli (by decide))
    have hx7 := (KF.t2 hxf5439 hx7 (by decide))
    exact en_v hx hb hr hlocks hL (Nat.zero_le _) (Nat.zero_le _) dX7_begin_95 (⟨_, hKU, hT, hF, ⟨hMB, hDl, hLL.zero, by decide⟩, hks, hkt, hkpa⟩)
  · have c5433 : ¬ 8 ≤ p := fun h9 => c5433 ((nI_leI (a := 8) (b := p) (by omega) (by omega)).mpr h9)
    refine lv_aload_n hx hb dX7_begin_16 rfl (lv_at hl 1 rfl) ?_
    refine va_get (D := D) (ci := 7) (v := .ref f5431_1) (C := RX7) (T := TX7) (N := 16) hx hb hts iX7_begin_7 hown hN.1 hP 1 rfl rfl 1 (by decide) (hts _ mX7_begin_2) (fun _ h9 => h9) rfl dX7_begin_17 ?_
    refine lv_iload_n hx hb dX7_begin_20 rfl (lv_at hl 0 rfl) ?_
    obtain ⟨a5440, ea5440, ta5440⟩ := q5432 (p) (by omega)
    refine ld_p (v := .ref a5440) hx hb hN hP 0 rfl (vp_in_nI (n := p) (N := 8) (by omega) (by omega)) (by rw [(show ((nI p) : Int32).toNatClampNeg = p from nI_clamp (n := p) (by omega)), ea5440]; rfl) dX7_begin_21 ?_
    refine cv_v (As := []) (rest := []) (b := a5440) ⟨hx, hb, hml, hown, hts⟩ (c_X3_begin hT (w := a5440) ta5440) (cwV 0 hts gX7_begin_X3_begin rfl rfl rfl hdX3_begin_v ⟨Nat.le_of_ble_eq_true rfl, Nat.le_of_ble_eq_true rfl⟩) hN hE hL (rcv4 hN hT ta5440.1) rfl rfl hl.1 (Nat.le_of_ble_eq_true rfl) dX7_begin_22 (Nat.zero_le _) (Nat.zero_le _) (fun H1 locs hL hqr5441 => ?_)
    obtain ⟨hT1, hF1⟩ := hqr5441
    have hML := hML.fr hT hmk hF1 (by first | (simp; done) | (simp [h15a, h15b]; done) | (simp; omega))
    have hDl := hDl.fr hT hx7 hF1 (by first | (simp; done) | (simp [h15a, h15b]; done) | (simp; omega))
    have hF := hF.tr ((hF1.kf hKF).mono (by simp))
    have hT := hT1
    refine lv_iinc (v := (nI (p + 1))) (lv' := [(2, .int (nI (p + 1))), (0, .ref w)]) hx hb dX7_begin_25 hl (k := 0) rfl (nI_add _ 1) (by decide) rfl (fun ls hl => ?_)
    refine lv_goto (tgt := 7) hx hb dX7_begin_28 (by decide) ?_
    exact ih5430 (p + 1) _ _ _ (by show 8 - ((p + 1)) < 8 - p; omega) ⟨(by show ((p + 1)) ≤ 8; omega), hML, hDl, hT, hF, hL⟩ (lv_sub hl [0, 1] rfl)
