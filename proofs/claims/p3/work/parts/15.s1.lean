set_option maxHeartbeats 4000000 in
set_option maxRecDepth 100000 in
theorem c_X5_readPatience {l : Launch} {D : va_G} {cs : Nat → ClassId} {B0 T : Nat} {κ : KM} {H0 : Heap} (hT : WT B0 D cs T κ H0) {w : Nat} (hw : T2 κ w 6 10) (hs0 : ¬ (κ w).2.2.2 = 0) (hsu : T2 κ (κ w).2.2.2 7 11) : KC l yX5_readPatience wsX5_readPatience 2 44 0 0 D cs B0 H0 [.ref w] (Qi (fun r H => WT B0 D cs T κ H ∧ Fr B0 [10, 11] κ H0 H ∧ (r = 0 ∨ r = 1))) := by
  refine KC.of cX5_readPatience 1 (some .boolean) (by decide) rfl (Nat.le_of_ble_eq_true rfl) ?_
  intro p e s m below meth c ls hx hb hr hml hown hts hlocks hin hN hE hH0 hl
  have hown : s.vm.findClass RX5 = some m.cls := hown
  have hl : lv_has ls 1 [(0, .ref w)] := hl
  have hL : OkL B0 [] := OkL.nil
  have hF : Fr B0 [10, 11] κ H0 H0 := Fr.rf
  refine lv_aload_n hx hb dX5_readPatience_0 rfl (lv_at hl 0 rfl) ?_
  refine cv_v (As := []) (rest := []) (b := w) ⟨hx, hb, hml, hown, hts⟩ (c_X5_step hT (w := w) hw) (cwV 0 hts gX5_readPatience_X5_step rfl rfl rfl hdX5_step_v ⟨Nat.le_of_ble_eq_true rfl, Nat.le_of_ble_eq_true rfl⟩) hN hE hL (rcv6 hN hT hw.1) rfl rfl hl.1 (Nat.le_of_ble_eq_true rfl) dX5_readPatience_1 (Nat.zero_le _) (Nat.zero_le _) (fun H1 locs hL hqr1534 => ?_)
  obtain ⟨hT1, hF1, hqr1534⟩ := hqr1534
  have hF := hF.tr (hF1.mono (by simp))
  have hT := hT1
  have f1535 := hqr1534
  refine lv_aload_n hx hb dX5_readPatience_4 rfl (lv_at hl 0 rfl) ?_
  refine lv_iconst (v := 1) hx hb dX5_readPatience_5 (by decide) ?_
  refine lv_sipush (v := 200) hx hb dX5_readPatience_6 (by decide) ?_
  refine cv_i (As := [.int 1, .int 200]) (rest := []) (b := w) ⟨hx, hb, hml, hown, hts⟩ (c_X5_takeNumber hT (w := w) hw (x := 1) (y := 200)) (cwV 2 hts gX5_readPatience_X5_takeNumber rfl rfl rfl hdX5_takeNumber_v ⟨Nat.le_of_ble_eq_true rfl, Nat.le_of_ble_eq_true rfl⟩) hN hE hL (rcv6 hN hT hw.1) rfl rfl hl.1 (Nat.le_of_ble_eq_true rfl) dX5_readPatience_9 (Nat.zero_le _) (Nat.zero_le _) (fun r1536 H1 locs hL hqr1536 => ?_)
  obtain ⟨hT1, hF1, hqr1536⟩ := hqr1536
  have hF := hF.tr (hF1.mono (by simp))
  have hT := hT1
  rcases hqr1536 with rfl | ⟨rfl, v1537, l1538, g1539, f1540⟩
  · refine lv_if_ne (tgt := 17) hx hb dX5_readPatience_12 (by decide) (fun c9 => absurd (by decide) c9) (fun _ => ?_)
    refine lv_iconst (v := 0) hx hb dX5_readPatience_15 (by decide) ?_
    exact en_i hx hb hr hlocks hL rfl (Nat.zero_le _) (Nat.zero_le _) dX5_readPatience_16 (⟨hT, hF, Or.inl rfl⟩)
  · obtain ⟨n1541, hn1541a, hn1541b, rfl⟩ := rng (x := v1537) (lo := 1) (hi := 200) (by decide) (by decide) l1538 g1539
    refine lv_if_ne (tgt := 17) hx hb dX5_readPatience_12 (by decide) (fun _ => ?_) (fun c9 => absurd c9 (by decide))
    refine lv_aload_n hx hb dX5_readPatience_17 rfl (lv_at hl 0 rfl) ?_
    obtain ⟨hb1542, e1542, hat1542, hk1542⟩ := hT.o6 hw.1
    obtain ⟨f1542_0, f1542_2, f1542_3, f1542_4, f1542_5, f1542_6, f1542_7, f1542_8, f1542_9, f1542_10, f1542_11, f1542_12, f1542_13, rfl, c1542_1, c1542_2, c1542_3, c1542_5, c1542_10, t1542_0, t1542_9, c1542_11, c1542_p2⟩ := hk1542
    obtain rfl : f1542_11 = .ref (κ w).2.2.2 := c1542_p2.resolve_left hs0
    obtain rfl : f1542_7 = nI n1541 := Value.int.inj (f1540.eq hat1542 rfl (by decide) rfl)
    have hP : va_P D vwCl [(w, .inr (5, [.ref f1542_0, .int (nI ((κ w).2.2.1)), .int (nI f1542_2), .int (nI f1542_3), .int f1542_4, .int (nI f1542_5), .int f1542_6, .int (nI n1541), .int f1542_8, .ref f1542_9, .int (nI f1542_10), .ref (κ w).2.2.2, .int f1542_12, .int f1542_13]))] _ := va_P.cons hat1542 va_P.nil
    refine va_get (D := D) (ci := 5) (v := .ref (κ w).2.2.2) (C := RX5) (T := TX5) (N := 14) hx hb hts iX5_readPatience_5 hown hN.1 hP 0 rfl rfl 11 (by decide) (hts _ mX5_readPatience_1) (fun _ h9 => h9) rfl dX5_readPatience_18 ?_
    refine lv_aload_n hx hb dX5_readPatience_21 rfl (lv_at hl 0 rfl) ?_
    refine va_get (D := D) (ci := 5) (v := .int (nI n1541)) (C := RX5) (T := TX5) (N := 14) hx hb hts iX5_readPatience_5 hown hN.1 hP 0 rfl rfl 7 (by decide) (hts _ mX5_readPatience_2) (fun _ h9 => h9) rfl dX5_readPatience_22 ?_
    obtain ⟨hb1543, e1543, hat1543, hk1543⟩ := hT.o7 hsu.1
    obtain ⟨f1543_0, f1543_1, f1543_2, f1543_3, f1543_4, f1543_5, f1543_6, f1543_7, rfl, c1543_0, c1543_3, c1543_mg, t1543_4, t1543_5, t1543_6, t1543_7⟩ := hk1543
    rw [hsu.2] at t1543_4
    rw [hsu.2] at t1543_5
    rw [hsu.2] at t1543_6
    rw [hsu.2] at t1543_7
    have hP : va_P D vwCl [((κ w).2.2.2, .inr (6, [.int (nI f1543_0), .int f1543_1, .int f1543_2, f1543_3, .ref f1543_4, .ref f1543_5, .ref f1543_6, .ref f1543_7])), (w, .inr (5, [.ref f1542_0, .int (nI ((κ w).2.2.1)), .int (nI f1542_2), .int (nI f1542_3), .int f1542_4, .int (nI f1542_5), .int f1542_6, .int (nI n1541), .int f1542_8, .ref f1542_9, .int (nI f1542_10), .ref (κ w).2.2.2, .int f1542_12, .int f1542_13]))] _ := va_P.cons hat1543 hP
    have hB : Bx B0 D _ [((κ w).2.2.2, .inr (6, [.int (nI f1543_0), .int f1543_1, .int f1543_2, f1543_3, .ref f1543_4, .ref f1543_5, .ref f1543_6, .ref f1543_7])), (w, .inr (5, [.ref f1542_0, .int (nI ((κ w).2.2.1)), .int (nI f1542_2), .int (nI f1542_3), .int f1542_4, .int (nI f1542_5), .int f1542_6, .int (nI n1541), .int f1542_8, .ref f1542_9, .int (nI f1542_10), .ref (κ w).2.2.2, .int f1542_12, .int f1542_13]))] [] _ _ := Bx.of (fun a => (κ a).1) hL hP (fa_c hb1543 (fa_c hb1542 fa_n)) (by simp only [List.map_cons, List.map_nil, hsu.1, hw.1]; decide)
    refine b_putN (D := D) (ci := 6) (v := .int (nI n1541)) (ty := .int) (C := RX6) (T := TX6) (N := 8) hx hb hts iX5_readPatience_6 tyX6 tyX6_ok nmX6 hown hN hB 0 rfl rfl 2 (by decide) (hN.f 42 rfl) (fun _ h9 => h9) rfl (by decide +kernel) rfl rfl (Nat.le_of_ble_eq_true rfl) (.inl rfl) dX5_readPatience_25 (fun H locs hB => ?_)
    have hB : Bx B0 D _ [((κ w).2.2.2, .inr (6, [.int (nI f1543_0), .int f1543_1, .int (nI n1541), f1543_3, .ref f1543_4, .ref f1543_5, .ref f1543_6, .ref f1543_7])), (w, .inr (5, [.ref f1542_0, .int (nI ((κ w).2.2.1)), .int (nI f1542_2), .int (nI f1542_3), .int f1542_4, .int (nI f1542_5), .int f1542_6, .int (nI n1541), .int f1542_8, .ref f1542_9, .int (nI f1542_10), .ref (κ w).2.2.2, .int f1542_12, .int f1542_13]))] [(κ w).2.2.2] _ _ := hB
    refine lv_iconst (v := 1) hx hb dX5_readPatience_28 (by decide) ?_
    have hT : WT B0 D cs T κ _ := hT.close hB ⟨⟨0, _, rfl, ok_7 hsu.1 ⟨_, _, _, _, _, _, _, _, rfl, (by omega), c1543_3, c1543_mg, ⟨t1543_4.1, by rw [hsu.2]; exact t1543_4.2⟩, ⟨t1543_5.1, by rw [hsu.2]; exact t1543_5.2⟩, ⟨t1543_6.1, by rw [hsu.2]; exact t1543_6.2⟩, ⟨t1543_7.1, by rw [hsu.2]; exact t1543_7.2⟩⟩⟩, trivial⟩
    have hF : Fr B0 [10, 11] κ H0 _ := hF.close hB (fa_c (by simp [hsu.2]) fa_n)
    have hL : OkL B0 _ := hB.2.2.2.2.2
    have hP : va_P D vwCl [((κ w).2.2.2, .inr (6, [.int (nI f1543_0), .int f1543_1, .int (nI n1541), f1543_3, .ref f1543_4, .ref f1543_5, .ref f1543_6, .ref f1543_7])), (w, .inr (5, [.ref f1542_0, .int (nI ((κ w).2.2.1)), .int (nI f1542_2), .int (nI f1542_3), .int f1542_4, .int (nI f1542_5), .int f1542_6, .int (nI n1541), .int f1542_8, .ref f1542_9, .int (nI f1542_10), .ref (κ w).2.2.2, .int f1542_12, .int f1542_13]))] _ := hB.1
    exact en_i hx hb hr hlocks hL rfl (Nat.zero_le _) (Nat.zero_le _) dX5_readPatience_29 (⟨hT, hF, Or.inr rfl⟩)
theorem mX5_readClock_1 : (.fieldLink RX5 65 "OneBeat$Reader" "setup" "LOneBeat$Setup;" : Cond) ∈ wsX5_readClock := List.mem_of_getElem? (i := 1) (by decide +kernel)
theorem iX5_readClock_5 : ∀ w ∈ wsX50, w ∈ wsX5_readClock := fun w h => List.mem_of_mem_drop (List.mem_of_mem_take ((show wsX50 = (wsX5_readClock.drop 46).take 14 by decide +kernel) ▸ h))
theorem iX5_readClock_6 : ∀ w ∈ wsX60, w ∈ wsX5_readClock := fun w h => List.mem_of_mem_drop (List.mem_of_mem_take ((show wsX60 = (wsX5_readClock.drop 60).take 8 by decide +kernel) ▸ h))
theorem mX5_readClock_2 : (.fieldLink RX5 59 "OneBeat$Reader" "taken" "I" : Cond) ∈ wsX5_readClock := List.mem_of_getElem? (i := 2) (by decide +kernel)
theorem hdX6_hasClock_v : yX6_hasClock.cls = RX6 ∧ yX6_hasClock.cls ≠ "java/lang/invoke/MethodHandle" ∧ yX6_hasClock.cls ≠ "java/lang/invoke/VarHandle" ∧ (parseMethodDescriptor yX6_hasClock.desc).map (fun d => d.parameters.length) = some 1 := by decide +kernel
theorem hdX5_takeSigned_v : yX5_takeSigned.cls = RX5 ∧ yX5_takeSigned.cls ≠ "java/lang/invoke/MethodHandle" ∧ yX5_takeSigned.cls ≠ "java/lang/invoke/VarHandle" ∧ (parseMethodDescriptor yX5_takeSigned.desc).map (fun d => d.parameters.length) = some 1 := by decide +kernel
theorem hdX6_setClock_v : yX6_setClock.cls = RX6 ∧ yX6_setClock.cls ≠ "java/lang/invoke/MethodHandle" ∧ yX6_setClock.cls ≠ "java/lang/invoke/VarHandle" ∧ (parseMethodDescriptor yX6_setClock.desc).map (fun d => d.parameters.length) = some 3 := by decide +kernel
theorem mX5_readClock_3 : (.fieldLink RX5 135 "OneBeat$Reader" "takenAt" "I" : Cond) ∈ wsX5_readClock := List.mem_of_getElem? (i := 3) (by decide +kernel)
set_option maxHeartbeats 4000000 in
set_option maxRecDepth 100000 in
theorem c_X5_readClock {l : Launch} {D : va_G} {cs : Nat → ClassId} {B0 T : Nat} {κ : KM} {H0 : Heap} (hT : WT B0 D cs T κ H0) {w : Nat} (hw : T2 κ w 6 10) (hs0 : ¬ (κ w).2.2.2 = 0) (hsu : T2 κ (κ w).2.2.2 7 11) : KC l yX5_readClock wsX5_readClock 2 45 0 0 D cs B0 H0 [.ref w] (Qi (fun r H => WT B0 D cs T κ H ∧ Fr B0 [10, 11] κ H0 H ∧ (r = 0 ∨ r = 1))) := by
  refine KC.of cX5_readClock 3 (some .boolean) (by decide) rfl (Nat.le_of_ble_eq_true rfl) ?_
  intro p e s m below meth c ls hx hb hr hml hown hts hlocks hin hN hE hH0 hl
  have hown : s.vm.findClass RX5 = some m.cls := hown
  have hl : lv_has ls 3 [(0, .ref w)] := hl
  have hL : OkL B0 [] := OkL.nil
  have hF : Fr B0 [10, 11] κ H0 H0 := Fr.rf
  refine lv_aload_n hx hb dX5_readClock_0 rfl (lv_at hl 0 rfl) ?_
  refine cv_v (As := []) (rest := []) (b := w) ⟨hx, hb, hml, hown, hts⟩ (c_X5_step hT (w := w) hw) (cwV 0 hts gX5_readClock_X5_step rfl rfl rfl hdX5_step_v ⟨Nat.le_of_ble_eq_true rfl, Nat.le_of_ble_eq_true rfl⟩) hN hE hL (rcv6 hN hT hw.1) rfl rfl hl.1 (Nat.le_of_ble_eq_true rfl) dX5_readClock_1 (Nat.zero_le _) (Nat.zero_le _) (fun H1 locs hL hqr1544 => ?_)
  obtain ⟨hT1, hF1, hqr1544⟩ := hqr1544
  have hF := hF.tr (hF1.mono (by simp))
  have hT := hT1
  have f1545 := hqr1544
  refine lv_aload_n hx hb dX5_readClock_4 rfl (lv_at hl 0 rfl) ?_
  refine lv_iconst (v := 0) hx hb dX5_readClock_5 (by decide) ?_
  refine lv_aload_n hx hb dX5_readClock_6 rfl (lv_at hl 0 rfl) ?_
  obtain ⟨hb1546, e1546, hat1546, hk1546⟩ := hT.o6 hw.1
  obtain ⟨f1546_0, f1546_2, f1546_3, f1546_4, f1546_5, f1546_6, f1546_7, f1546_8, f1546_9, f1546_10, f1546_11, f1546_12, f1546_13, rfl, c1546_1, c1546_2, c1546_3, c1546_5, c1546_10, t1546_0, t1546_9, c1546_11, c1546_p2⟩ := hk1546
  obtain rfl : f1546_11 = .ref (κ w).2.2.2 := c1546_p2.resolve_left hs0
  have hP : va_P D vwCl [(w, .inr (5, [.ref f1546_0, .int (nI ((κ w).2.2.1)), .int (nI f1546_2), .int (nI f1546_3), .int f1546_4, .int (nI f1546_5), .int f1546_6, .int f1546_7, .int f1546_8, .ref f1546_9, .int (nI f1546_10), .ref (κ w).2.2.2, .int f1546_12, .int f1546_13]))] _ := va_P.cons hat1546 va_P.nil
  refine va_get (D := D) (ci := 5) (v := .ref (κ w).2.2.2) (C := RX5) (T := TX5) (N := 14) hx hb hts iX5_readClock_5 hown hN.1 hP 0 rfl rfl 11 (by decide) (hts _ mX5_readClock_1) (fun _ h9 => h9) rfl dX5_readClock_7 ?_
  obtain ⟨hb1547, e1547, hat1547, hk1547⟩ := hT.o7 hsu.1
  obtain ⟨f1547_0, f1547_1, f1547_2, f1547_3, f1547_4, f1547_5, f1547_6, f1547_7, rfl, c1547_0, c1547_3, c1547_mg, t1547_4, t1547_5, t1547_6, t1547_7⟩ := hk1547
  rw [hsu.2] at t1547_4
  rw [hsu.2] at t1547_5
  rw [hsu.2] at t1547_6
  rw [hsu.2] at t1547_7
  have hP : va_P D vwCl [((κ w).2.2.2, .inr (6, [.int (nI f1547_0), .int f1547_1, .int f1547_2, f1547_3, .ref f1547_4, .ref f1547_5, .ref f1547_6, .ref f1547_7])), (w, .inr (5, [.ref f1546_0, .int (nI ((κ w).2.2.1)), .int (nI f1546_2), .int (nI f1546_3), .int f1546_4, .int (nI f1546_5), .int f1546_6, .int f1546_7, .int f1546_8, .ref f1546_9, .int (nI f1546_10), .ref (κ w).2.2.2, .int f1546_12, .int f1546_13]))] _ := va_P.cons hat1547 hP
  refine va_getN (D := D) (ci := 6) (v := .int (nI f1547_0)) (C := RX6) (T := TX6) (N := 8) hx hb hts iX5_readClock_6 hown hN.1 hP 0 rfl rfl 0 (by decide) (hN.f 38 rfl) (fun _ h9 => h9) rfl dX5_readClock_10 ?_
  refine lv_iconst (v := 1) hx hb dX5_readClock_13 (by decide) ?_
  refine lv_isub hx hb dX5_readClock_14 ?_
  refine gn_i (fun x1548 => ?_)
  refine cv_i (As := [.int 0, .int x1548]) (rest := []) (b := w) ⟨hx, hb, hml, hown, hts⟩ (c_X5_takeNumber hT (w := w) hw (x := 0) (y := x1548)) (cwV 2 hts gX5_readClock_X5_takeNumber rfl rfl rfl hdX5_takeNumber_v ⟨Nat.le_of_ble_eq_true rfl, Nat.le_of_ble_eq_true rfl⟩) hN hE hL (rcv6 hN hT hw.1) rfl rfl hl.1 (Nat.le_of_ble_eq_true rfl) dX5_readClock_15 (Nat.zero_le _) (Nat.zero_le _) (fun r1549 H1 locs hL hqr1549 => ?_)
  obtain ⟨hT1, hF1, hqr1549⟩ := hqr1549
  have hP : va_P D vwCl [((κ w).2.2.2, .inr (6, [.int (nI f1547_0), .int f1547_1, .int f1547_2, f1547_3, .ref f1547_4, .ref f1547_5, .ref f1547_6, .ref f1547_7]))] _ := hF1.hP (hP.sub [0] rfl) (fa_c ⟨by rw [hsu.1]; decide, by rw [hsu.2]; first | decide | (simp; done) | (simp [h15a, h15b, h15c]; done) | (simp; omega)⟩ fa_n)
  have hF := hF.tr (hF1.mono (by simp))
  have hT := hT1
  rcases hqr1549 with rfl | ⟨rfl, v1550, l1551, g1552, f1553⟩
  · refine lv_if_ne (tgt := 23) hx hb dX5_readClock_18 (by decide) (fun c9 => absurd (by decide) c9) (fun _ => ?_)
    refine lv_iconst (v := 0) hx hb dX5_readClock_21 (by decide) ?_
    exact en_i hx hb hr hlocks hL rfl (Nat.zero_le _) (Nat.zero_le _) dX5_readClock_22 (⟨hT, hF, Or.inl rfl⟩)
  · refine lv_if_ne (tgt := 23) hx hb dX5_readClock_18 (by decide) (fun _ => ?_) (fun c9 => absurd c9 (by decide))
    refine lv_aload_n hx hb dX5_readClock_23 rfl (lv_at hl 0 rfl) ?_
    obtain ⟨hb1554, e1554, hat1554, hk1554⟩ := hT.o6 hw.1
    obtain ⟨f1554_0, f1554_2, f1554_3, f1554_4, f1554_5, f1554_6, f1554_7, f1554_8, f1554_9, f1554_10, f1554_11, f1554_12, f1554_13, rfl, c1554_1, c1554_2, c1554_3, c1554_5, c1554_10, t1554_0, t1554_9, c1554_11, c1554_p2⟩ := hk1554
    obtain rfl : f1554_11 = .ref (κ w).2.2.2 := c1554_p2.resolve_left hs0
    have hP : va_P D vwCl [(w, .inr (5, [.ref f1554_0, .int (nI ((κ w).2.2.1)), .int (nI f1554_2), .int (nI f1554_3), .int f1554_4, .int (nI f1554_5), .int f1554_6, .int f1554_7, .int f1554_8, .ref f1554_9, .int (nI f1554_10), .ref (κ w).2.2.2, .int f1554_12, .int f1554_13])), ((κ w).2.2.2, .inr (6, [.int (nI f1547_0), .int f1547_1, .int f1547_2, f1547_3, .ref f1547_4, .ref f1547_5, .ref f1547_6, .ref f1547_7]))] _ := va_P.cons hat1554 hP
    refine va_get (D := D) (ci := 5) (v := .int f1554_7) (C := RX5) (T := TX5) (N := 14) hx hb hts iX5_readClock_5 hown hN.1 hP 0 rfl rfl 7 (by decide) (hts _ mX5_readClock_2) (fun _ h9 => h9) rfl dX5_readClock_24 ?_
    refine lv_istore_n (lv' := [(1, .int f1554_7), (0, .ref w)]) hx hb dX5_readClock_27 rfl hl (by decide) rfl (fun ls hl => ?_)
    refine lv_aload_n hx hb dX5_readClock_28 rfl (lv_at hl 1 rfl) ?_
    refine va_get (D := D) (ci := 5) (v := .ref (κ w).2.2.2) (C := RX5) (T := TX5) (N := 14) hx hb hts iX5_readClock_5 hown hN.1 hP 0 rfl rfl 11 (by decide) (hts _ mX5_readClock_1) (fun _ h9 => h9) rfl dX5_readClock_29 ?_
    refine lv_iload_n hx hb dX5_readClock_32 rfl (lv_at hl 0 rfl) ?_
    refine cv_i (As := [.int f1554_7]) (rest := []) (b := (κ w).2.2.2) ⟨hx, hb, hml, hown, hts⟩ (c_X6_hasClock hT (w := (κ w).2.2.2) hsu (x := f1554_7)) (cwV 1 hts gX5_readClock_X6_hasClock rfl rfl rfl hdX6_hasClock_v ⟨Nat.le_of_ble_eq_true rfl, Nat.le_of_ble_eq_true rfl⟩) hN hE hL (rcv7 hN hT hsu.1) rfl rfl hl.1 (Nat.le_of_ble_eq_true rfl) dX5_readClock_33 (Nat.zero_le _) (Nat.zero_le _) (fun r1555 H1 locs hL hqr1555 => ?_)
    obtain ⟨h9, hqr1555⟩ := hqr1555; replace h9 := h9.symm; subst h9
    rcases hqr1555 with rfl | rfl
    · refine lv_if_eq (tgt := 50) hx hb dX5_readClock_36 (by decide) (fun _ => ?_) (fun c9 => absurd (by decide) c9)
      refine lv_aload_n hx hb dX5_readClock_50 rfl (lv_at hl 1 rfl) ?_
      refine lv_sipush (v := 999) hx hb dX5_readClock_51 (by decide) ?_
      refine cv_i (As := [.int 999]) (rest := []) (b := w) ⟨hx, hb, hml, hown, hts⟩ (c_X5_takeSigned hT (w := w) hw (x := 999)) (cwV 1 hts gX5_readClock_X5_takeSigned rfl rfl rfl hdX5_takeSigned_v ⟨Nat.le_of_ble_eq_true rfl, Nat.le_of_ble_eq_true rfl⟩) hN hE hL (rcv6 hN hT hw.1) rfl rfl hl.1 (Nat.le_of_ble_eq_true rfl) dX5_readClock_54 (Nat.zero_le _) (Nat.zero_le _) (fun r1556 H1 locs hL hqr1556 => ?_)
      obtain ⟨hT1, hF1, hqr1556⟩ := hqr1556
      have hP : va_P D vwCl [((κ w).2.2.2, .inr (6, [.int (nI f1547_0), .int f1547_1, .int f1547_2, f1547_3, .ref f1547_4, .ref f1547_5, .ref f1547_6, .ref f1547_7]))] _ := hF1.hP (hP.sub [1] rfl) (fa_c ⟨by rw [hsu.1]; decide, by rw [hsu.2]; first | decide | (simp; done) | (simp [h15a, h15b, h15c]; done) | (simp; omega)⟩ fa_n)
      have hF := hF.tr (hF1.mono (by simp))
      have hT := hT1
      rcases hqr1556 with rfl | rfl
      · refine lv_if_ne (tgt := 62) hx hb dX5_readClock_57 (by decide) (fun c9 => absurd (by decide) c9) (fun _ => ?_)
        refine lv_iconst (v := 0) hx hb dX5_readClock_60 (by decide) ?_
        exact en_i hx hb hr hlocks hL rfl (Nat.zero_le _) (Nat.zero_le _) dX5_readClock_61 (⟨hT, hF, Or.inl rfl⟩)
      · refine lv_if_ne (tgt := 62) hx hb dX5_readClock_57 (by decide) (fun _ => ?_) (fun c9 => absurd c9 (by decide))
        refine lv_aload_n hx hb dX5_readClock_62 rfl (lv_at hl 1 rfl) ?_
        obtain ⟨hb1557, e1557, hat1557, hk1557⟩ := hT.o6 hw.1
        obtain ⟨f1557_0, f1557_2, f1557_3, f1557_4, f1557_5, f1557_6, f1557_7, f1557_8, f1557_9, f1557_10, f1557_11, f1557_12, f1557_13, rfl, c1557_1, c1557_2, c1557_3, c1557_5, c1557_10, t1557_0, t1557_9, c1557_11, c1557_p2⟩ := hk1557
        obtain rfl : f1557_11 = .ref (κ w).2.2.2 := c1557_p2.resolve_left hs0
        have hP : va_P D vwCl [(w, .inr (5, [.ref f1557_0, .int (nI ((κ w).2.2.1)), .int (nI f1557_2), .int (nI f1557_3), .int f1557_4, .int (nI f1557_5), .int f1557_6, .int f1557_7, .int f1557_8, .ref f1557_9, .int (nI f1557_10), .ref (κ w).2.2.2, .int f1557_12, .int f1557_13])), ((κ w).2.2.2, .inr (6, [.int (nI f1547_0), .int f1547_1, .int f1547_2, f1547_3, .ref f1547_4, .ref f1547_5, .ref f1547_6, .ref f1547_7]))] _ := va_P.cons hat1557 hP
        refine va_get (D := D) (ci := 5) (v := .int f1557_7) (C := RX5) (T := TX5) (N := 14) hx hb hts iX5_readClock_5 hown hN.1 hP 0 rfl rfl 7 (by decide) (hts _ mX5_readClock_2) (fun _ h9 => h9) rfl dX5_readClock_63 ?_
        refine lv_istore_n (lv' := [(2, .int f1557_7), (1, .int f1554_7), (0, .ref w)]) hx hb dX5_readClock_66 rfl hl (by decide) rfl (fun ls hl => ?_)
        refine lv_aload_n hx hb dX5_readClock_67 rfl (lv_at hl 2 rfl) ?_
        refine lv_bipush (v := 50) hx hb dX5_readClock_68 (by decide) ?_
        refine cv_i (As := [.int 50]) (rest := []) (b := w) ⟨hx, hb, hml, hown, hts⟩ (c_X5_takeSigned hT (w := w) hw (x := 50)) (cwV 1 hts gX5_readClock_X5_takeSigned rfl rfl rfl hdX5_takeSigned_v ⟨Nat.le_of_ble_eq_true rfl, Nat.le_of_ble_eq_true rfl⟩) hN hE hL (rcv6 hN hT hw.1) rfl rfl hl.1 (Nat.le_of_ble_eq_true rfl) dX5_readClock_70 (Nat.zero_le _) (Nat.zero_le _) (fun r1558 H1 locs hL hqr1558 => ?_)
        obtain ⟨hT1, hF1, hqr1558⟩ := hqr1558
        have hP : va_P D vwCl [((κ w).2.2.2, .inr (6, [.int (nI f1547_0), .int f1547_1, .int f1547_2, f1547_3, .ref f1547_4, .ref f1547_5, .ref f1547_6, .ref f1547_7]))] _ := hF1.hP (hP.sub [1] rfl) (fa_c ⟨by rw [hsu.1]; decide, by rw [hsu.2]; first | decide | (simp; done) | (simp [h15a, h15b, h15c]; done) | (simp; omega)⟩ fa_n)
        have hF := hF.tr (hF1.mono (by simp))
        have hT := hT1
        rcases hqr1558 with rfl | rfl
        · refine lv_if_ne (tgt := 78) hx hb dX5_readClock_73 (by decide) (fun c9 => absurd (by decide) c9) (fun _ => ?_)
          refine lv_iconst (v := 0) hx hb dX5_readClock_76 (by decide) ?_
          exact en_i hx hb hr hlocks hL rfl (Nat.zero_le _) (Nat.zero_le _) dX5_readClock_77 (⟨hT, hF, Or.inl rfl⟩)
        · refine lv_if_ne (tgt := 78) hx hb dX5_readClock_73 (by decide) (fun _ => ?_) (fun c9 => absurd c9 (by decide))
          refine lv_aload_n hx hb dX5_readClock_78 rfl (lv_at hl 2 rfl) ?_
          obtain ⟨hb1559, e1559, hat1559, hk1559⟩ := hT.o6 hw.1
          obtain ⟨f1559_0, f1559_2, f1559_3, f1559_4, f1559_5, f1559_6, f1559_7, f1559_8, f1559_9, f1559_10, f1559_11, f1559_12, f1559_13, rfl, c1559_1, c1559_2, c1559_3, c1559_5, c1559_10, t1559_0, t1559_9, c1559_11, c1559_p2⟩ := hk1559
          obtain rfl : f1559_11 = .ref (κ w).2.2.2 := c1559_p2.resolve_left hs0
          have hP : va_P D vwCl [(w, .inr (5, [.ref f1559_0, .int (nI ((κ w).2.2.1)), .int (nI f1559_2), .int (nI f1559_3), .int f1559_4, .int (nI f1559_5), .int f1559_6, .int f1559_7, .int f1559_8, .ref f1559_9, .int (nI f1559_10), .ref (κ w).2.2.2, .int f1559_12, .int f1559_13])), ((κ w).2.2.2, .inr (6, [.int (nI f1547_0), .int f1547_1, .int f1547_2, f1547_3, .ref f1547_4, .ref f1547_5, .ref f1547_6, .ref f1547_7]))] _ := va_P.cons hat1559 hP
          refine va_get (D := D) (ci := 5) (v := .ref (κ w).2.2.2) (C := RX5) (T := TX5) (N := 14) hx hb hts iX5_readClock_5 hown hN.1 hP 0 rfl rfl 11 (by decide) (hts _ mX5_readClock_1) (fun _ h9 => h9) rfl dX5_readClock_79 ?_
          refine lv_iload_n hx hb dX5_readClock_82 rfl (lv_at hl 1 rfl) ?_
          refine lv_iload_n hx hb dX5_readClock_83 rfl (lv_at hl 0 rfl) ?_
          refine lv_aload_n hx hb dX5_readClock_84 rfl (lv_at hl 2 rfl) ?_
          refine va_get (D := D) (ci := 5) (v := .int f1559_7) (C := RX5) (T := TX5) (N := 14) hx hb hts iX5_readClock_5 hown hN.1 hP 0 rfl rfl 7 (by decide) (hts _ mX5_readClock_2) (fun _ h9 => h9) rfl dX5_readClock_85 ?_
          refine cv_v (As := [.int f1554_7, .int f1557_7, .int f1559_7]) (rest := []) (b := (κ w).2.2.2) ⟨hx, hb, hml, hown, hts⟩ (c_X6_setClock hT (w := (κ w).2.2.2) hsu (x := f1554_7) (y := f1557_7) (z := f1559_7)) (cwV 3 hts gX5_readClock_X6_setClock rfl rfl rfl hdX6_setClock_v ⟨Nat.le_of_ble_eq_true rfl, Nat.le_of_ble_eq_true rfl⟩) hN hE hL (rcv7 hN hT hsu.1) rfl rfl hl.1 (Nat.le_of_ble_eq_true rfl) dX5_readClock_88 (Nat.zero_le _) (Nat.zero_le _) (fun H1 locs hL hqr1560 => ?_)
          obtain ⟨hT1, hF1⟩ := hqr1560
          have hP : va_P D vwCl [(w, .inr (5, [.ref f1559_0, .int (nI ((κ w).2.2.1)), .int (nI f1559_2), .int (nI f1559_3), .int f1559_4, .int (nI f1559_5), .int f1559_6, .int f1559_7, .int f1559_8, .ref f1559_9, .int (nI f1559_10), .ref (κ w).2.2.2, .int f1559_12, .int f1559_13]))] _ := hF1.hP (hP.sub [0] rfl) (fa_c ⟨by rw [hw.1]; decide, by rw [hw.2]; first | decide | (simp; done) | (simp [h15a, h15b, h15c]; done) | (simp; omega)⟩ fa_n)
          have hF := hF.tr (hF1.mono (by simp))
          have hT := hT1
          refine lv_iconst (v := 1) hx hb dX5_readClock_91 (by decide) ?_
          exact en_i hx hb hr hlocks hL rfl (Nat.zero_le _) (Nat.zero_le _) dX5_readClock_92 (⟨hT, hF, Or.inr rfl⟩)
    · refine lv_if_eq (tgt := 50) hx hb dX5_readClock_36 (by decide) (fun c9 => absurd c9 (by decide)) (fun _ => ?_)
      refine lv_aload_n hx hb dX5_readClock_39 rfl (lv_at hl 1 rfl) ?_
      refine lv_bipush (v := (-4)) hx hb dX5_readClock_40 (by decide) ?_
      refine lv_aload_n hx hb dX5_readClock_42 rfl (lv_at hl 1 rfl) ?_
      refine va_get (D := D) (ci := 5) (v := .int f1554_8) (C := RX5) (T := TX5) (N := 14) hx hb hts iX5_readClock_5 hown hN.1 hP 0 rfl rfl 8 (by decide) (hts _ mX5_readClock_3) (fun _ h9 => h9) rfl dX5_readClock_43 ?_
      refine cv_i (As := [.int (-4), .int f1554_8]) (rest := []) (b := w) ⟨hx, hb, hml, hown, hts⟩ (c_X5_fail hT (w := w) hw (x := (-4)) (y := f1554_8)) (cwV 2 hts gX5_readClock_X5_fail rfl rfl rfl hdX5_fail_v ⟨Nat.le_of_ble_eq_true rfl, Nat.le_of_ble_eq_true rfl⟩) hN hE hL (rcv6 hN hT hw.1) rfl rfl hl.1 (Nat.le_of_ble_eq_true rfl) dX5_readClock_46 (Nat.zero_le _) (Nat.zero_le _) (fun r1561 H1 locs hL hqr1561 => ?_)
      obtain ⟨hT1, hF1, hqr1561⟩ := hqr1561
      have hP : va_P D vwCl [((κ w).2.2.2, .inr (6, [.int (nI f1547_0), .int f1547_1, .int f1547_2, f1547_3, .ref f1547_4, .ref f1547_5, .ref f1547_6, .ref f1547_7]))] _ := hF1.hP (hP.sub [1] rfl) (fa_c ⟨by rw [hsu.1]; decide, by rw [hsu.2]; first | decide | (simp; done) | (simp [h15a, h15b, h15c]; done) | (simp; omega)⟩ fa_n)
      have hF := hF.tr (hF1.mono (by simp))
      have hT := hT1
      obtain rfl := hqr1561
      exact en_i hx hb hr hlocks hL rfl (Nat.zero_le _) (Nat.zero_le _) dX5_readClock_49 (⟨hT, hF, Or.inl rfl⟩)
theorem mX5_readLink_1 : (.fieldLink RX5 65 "OneBeat$Reader" "setup" "LOneBeat$Setup;" : Cond) ∈ wsX5_readLink := List.mem_of_getElem? (i := 1) (by decide +kernel)
theorem iX5_readLink_5 : ∀ w ∈ wsX50, w ∈ wsX5_readLink := fun w h => List.mem_of_mem_drop (List.mem_of_mem_take ((show wsX50 = (wsX5_readLink.drop 39).take 14 by decide +kernel) ▸ h))
theorem iX5_readLink_6 : ∀ w ∈ wsX60, w ∈ wsX5_readLink := fun w h => List.mem_of_mem_drop (List.mem_of_mem_take ((show wsX60 = (wsX5_readLink.drop 53).take 8 by decide +kernel) ▸ h))
theorem mX5_readLink_2 : (.fieldLink RX5 59 "OneBeat$Reader" "taken" "I" : Cond) ∈ wsX5_readLink := List.mem_of_getElem? (i := 2) (by decide +kernel)
theorem mX5_readLink_3 : (.fieldLink RX5 135 "OneBeat$Reader" "takenAt" "I" : Cond) ∈ wsX5_readLink := List.mem_of_getElem? (i := 3) (by decide +kernel)
theorem hdX6_setDelay_v : yX6_setDelay.cls = RX6 ∧ yX6_setDelay.cls ≠ "java/lang/invoke/MethodHandle" ∧ yX6_setDelay.cls ≠ "java/lang/invoke/VarHandle" ∧ (parseMethodDescriptor yX6_setDelay.desc).map (fun d => d.parameters.length) = some 3 := by decide +kernel
set_option maxHeartbeats 4000000 in
set_option maxRecDepth 100000 in
theorem c_X5_readLink {l : Launch} {D : va_G} {cs : Nat → ClassId} {B0 T : Nat} {κ : KM} {H0 : Heap} (hT : WT B0 D cs T κ H0) {w : Nat} (hw : T2 κ w 6 10) (hs0 : ¬ (κ w).2.2.2 = 0) (hsu : T2 κ (κ w).2.2.2 7 11) : KC l yX5_readLink wsX5_readLink 2 44 0 0 D cs B0 H0 [.ref w] (Qi (fun r H => WT B0 D cs T κ H ∧ Fr B0 [10, 11] κ H0 H ∧ (r = 0 ∨ r = 1))) := by
  refine KC.of cX5_readLink 4 (some .boolean) (by decide) rfl (Nat.le_of_ble_eq_true rfl) ?_
  intro p e s m below meth c ls hx hb hr hml hown hts hlocks hin hN hE hH0 hl
  have hown : s.vm.findClass RX5 = some m.cls := hown
  have hl : lv_has ls 4 [(0, .ref w)] := hl
  have hL : OkL B0 [] := OkL.nil
  have hF : Fr B0 [10, 11] κ H0 H0 := Fr.rf
  refine lv_aload_n hx hb dX5_readLink_0 rfl (lv_at hl 0 rfl) ?_
  refine cv_v (As := []) (rest := []) (b := w) ⟨hx, hb, hml, hown, hts⟩ (c_X5_step hT (w := w) hw) (cwV 0 hts gX5_readLink_X5_step rfl rfl rfl hdX5_step_v ⟨Nat.le_of_ble_eq_true rfl, Nat.le_of_ble_eq_true rfl⟩) hN hE hL (rcv6 hN hT hw.1) rfl rfl hl.1 (Nat.le_of_ble_eq_true rfl) dX5_readLink_1 (Nat.zero_le _) (Nat.zero_le _) (fun H1 locs hL hqr1562 => ?_)
  obtain ⟨hT1, hF1, hqr1562⟩ := hqr1562
  have hF := hF.tr (hF1.mono (by simp))
  have hT := hT1
  have f1563 := hqr1562
  refine lv_aload_n hx hb dX5_readLink_4 rfl (lv_at hl 0 rfl) ?_
  refine lv_iconst (v := 0) hx hb dX5_readLink_5 (by decide) ?_
  refine lv_aload_n hx hb dX5_readLink_6 rfl (lv_at hl 0 rfl) ?_
  obtain ⟨hb1564, e1564, hat1564, hk1564⟩ := hT.o6 hw.1
  obtain ⟨f1564_0, f1564_2, f1564_3, f1564_4, f1564_5, f1564_6, f1564_7, f1564_8, f1564_9, f1564_10, f1564_11, f1564_12, f1564_13, rfl, c1564_1, c1564_2, c1564_3, c1564_5, c1564_10, t1564_0, t1564_9, c1564_11, c1564_p2⟩ := hk1564
  obtain rfl : f1564_11 = .ref (κ w).2.2.2 := c1564_p2.resolve_left hs0
  have hP : va_P D vwCl [(w, .inr (5, [.ref f1564_0, .int (nI ((κ w).2.2.1)), .int (nI f1564_2), .int (nI f1564_3), .int f1564_4, .int (nI f1564_5), .int f1564_6, .int f1564_7, .int f1564_8, .ref f1564_9, .int (nI f1564_10), .ref (κ w).2.2.2, .int f1564_12, .int f1564_13]))] _ := va_P.cons hat1564 va_P.nil
  refine va_get (D := D) (ci := 5) (v := .ref (κ w).2.2.2) (C := RX5) (T := TX5) (N := 14) hx hb hts iX5_readLink_5 hown hN.1 hP 0 rfl rfl 11 (by decide) (hts _ mX5_readLink_1) (fun _ h9 => h9) rfl dX5_readLink_7 ?_
  obtain ⟨hb1565, e1565, hat1565, hk1565⟩ := hT.o7 hsu.1
  obtain ⟨f1565_0, f1565_1, f1565_2, f1565_3, f1565_4, f1565_5, f1565_6, f1565_7, rfl, c1565_0, c1565_3, c1565_mg, t1565_4, t1565_5, t1565_6, t1565_7⟩ := hk1565
  rw [hsu.2] at t1565_4
  rw [hsu.2] at t1565_5
  rw [hsu.2] at t1565_6
  rw [hsu.2] at t1565_7
  have hP : va_P D vwCl [((κ w).2.2.2, .inr (6, [.int (nI f1565_0), .int f1565_1, .int f1565_2, f1565_3, .ref f1565_4, .ref f1565_5, .ref f1565_6, .ref f1565_7])), (w, .inr (5, [.ref f1564_0, .int (nI ((κ w).2.2.1)), .int (nI f1564_2), .int (nI f1564_3), .int f1564_4, .int (nI f1564_5), .int f1564_6, .int f1564_7, .int f1564_8, .ref f1564_9, .int (nI f1564_10), .ref (κ w).2.2.2, .int f1564_12, .int f1564_13]))] _ := va_P.cons hat1565 hP
  refine va_getN (D := D) (ci := 6) (v := .int (nI f1565_0)) (C := RX6) (T := TX6) (N := 8) hx hb hts iX5_readLink_6 hown hN.1 hP 0 rfl rfl 0 (by decide) (hN.f 38 rfl) (fun _ h9 => h9) rfl dX5_readLink_10 ?_
  refine lv_iconst (v := 1) hx hb dX5_readLink_13 (by decide) ?_
  refine lv_isub hx hb dX5_readLink_14 ?_
  refine gn_i (fun x1566 => ?_)
  refine cv_i (As := [.int 0, .int x1566]) (rest := []) (b := w) ⟨hx, hb, hml, hown, hts⟩ (c_X5_takeNumber hT (w := w) hw (x := 0) (y := x1566)) (cwV 2 hts gX5_readLink_X5_takeNumber rfl rfl rfl hdX5_takeNumber_v ⟨Nat.le_of_ble_eq_true rfl, Nat.le_of_ble_eq_true rfl⟩) hN hE hL (rcv6 hN hT hw.1) rfl rfl hl.1 (Nat.le_of_ble_eq_true rfl) dX5_readLink_15 (Nat.zero_le _) (Nat.zero_le _) (fun r1567 H1 locs hL hqr1567 => ?_)
  obtain ⟨hT1, hF1, hqr1567⟩ := hqr1567
  have hP : va_P D vwCl [((κ w).2.2.2, .inr (6, [.int (nI f1565_0), .int f1565_1, .int f1565_2, f1565_3, .ref f1565_4, .ref f1565_5, .ref f1565_6, .ref f1565_7]))] _ := hF1.hP (hP.sub [0] rfl) (fa_c ⟨by rw [hsu.1]; decide, by rw [hsu.2]; first | decide | (simp; done) | (simp [h15a, h15b, h15c]; done) | (simp; omega)⟩ fa_n)
  have hF := hF.tr (hF1.mono (by simp))
  have hT := hT1
  rcases hqr1567 with rfl | ⟨rfl, v1568, l1569, g1570, f1571⟩
  · refine lv_if_ne (tgt := 23) hx hb dX5_readLink_18 (by decide) (fun c9 => absurd (by decide) c9) (fun _ => ?_)
    refine lv_iconst (v := 0) hx hb dX5_readLink_21 (by decide) ?_
    exact en_i hx hb hr hlocks hL rfl (Nat.zero_le _) (Nat.zero_le _) dX5_readLink_22 (⟨hT, hF, Or.inl rfl⟩)
  · refine lv_if_ne (tgt := 23) hx hb dX5_readLink_18 (by decide) (fun _ => ?_) (fun c9 => absurd c9 (by decide))
    refine lv_aload_n hx hb dX5_readLink_23 rfl (lv_at hl 0 rfl) ?_
    obtain ⟨hb1572, e1572, hat1572, hk1572⟩ := hT.o6 hw.1
    obtain ⟨f1572_0, f1572_2, f1572_3, f1572_4, f1572_5, f1572_6, f1572_7, f1572_8, f1572_9, f1572_10, f1572_11, f1572_12, f1572_13, rfl, c1572_1, c1572_2, c1572_3, c1572_5, c1572_10, t1572_0, t1572_9, c1572_11, c1572_p2⟩ := hk1572
    obtain rfl : f1572_11 = .ref (κ w).2.2.2 := c1572_p2.resolve_left hs0
    have hP : va_P D vwCl [(w, .inr (5, [.ref f1572_0, .int (nI ((κ w).2.2.1)), .int (nI f1572_2), .int (nI f1572_3), .int f1572_4, .int (nI f1572_5), .int f1572_6, .int f1572_7, .int f1572_8, .ref f1572_9, .int (nI f1572_10), .ref (κ w).2.2.2, .int f1572_12, .int f1572_13])), ((κ w).2.2.2, .inr (6, [.int (nI f1565_0), .int f1565_1, .int f1565_2, f1565_3, .ref f1565_4, .ref f1565_5, .ref f1565_6, .ref f1565_7]))] _ := va_P.cons hat1572 hP
    refine va_get (D := D) (ci := 5) (v := .int f1572_7) (C := RX5) (T := TX5) (N := 14) hx hb hts iX5_readLink_5 hown hN.1 hP 0 rfl rfl 7 (by decide) (hts _ mX5_readLink_2) (fun _ h9 => h9) rfl dX5_readLink_24 ?_
    refine lv_istore_n (lv' := [(1, .int f1572_7), (0, .ref w)]) hx hb dX5_readLink_27 rfl hl (by decide) rfl (fun ls hl => ?_)
    refine lv_aload_n hx hb dX5_readLink_28 rfl (lv_at hl 1 rfl) ?_
    refine lv_iconst (v := 0) hx hb dX5_readLink_29 (by decide) ?_
    refine lv_aload_n hx hb dX5_readLink_30 rfl (lv_at hl 1 rfl) ?_
    refine va_get (D := D) (ci := 5) (v := .ref (κ w).2.2.2) (C := RX5) (T := TX5) (N := 14) hx hb hts iX5_readLink_5 hown hN.1 hP 0 rfl rfl 11 (by decide) (hts _ mX5_readLink_1) (fun _ h9 => h9) rfl dX5_readLink_31 ?_
    refine va_getN (D := D) (ci := 6) (v := .int (nI f1565_0)) (C := RX6) (T := TX6) (N := 8) hx hb hts iX5_readLink_6 hown hN.1 hP 1 rfl rfl 0 (by decide) (hN.f 38 rfl) (fun _ h9 => h9) rfl dX5_readLink_34 ?_
    refine lv_iconst (v := 1) hx hb dX5_readLink_37 (by decide) ?_
    refine lv_isub hx hb dX5_readLink_38 ?_
    refine gn_i (fun x1573 => ?_)
    refine cv_i (As := [.int 0, .int x1573]) (rest := []) (b := w) ⟨hx, hb, hml, hown, hts⟩ (c_X5_takeNumber hT (w := w) hw (x := 0) (y := x1573)) (cwV 2 hts gX5_readLink_X5_takeNumber rfl rfl rfl hdX5_takeNumber_v ⟨Nat.le_of_ble_eq_true rfl, Nat.le_of_ble_eq_true rfl⟩) hN hE hL (rcv6 hN hT hw.1) rfl rfl hl.1 (Nat.le_of_ble_eq_true rfl) dX5_readLink_39 (Nat.zero_le _) (Nat.zero_le _) (fun r1574 H1 locs hL hqr1574 => ?_)
    obtain ⟨hT1, hF1, hqr1574⟩ := hqr1574
    have hP : va_P D vwCl [((κ w).2.2.2, .inr (6, [.int (nI f1565_0), .int f1565_1, .int f1565_2, f1565_3, .ref f1565_4, .ref f1565_5, .ref f1565_6, .ref f1565_7]))] _ := hF1.hP (hP.sub [1] rfl) (fa_c ⟨by rw [hsu.1]; decide, by rw [hsu.2]; first | decide | (simp; done) | (simp [h15a, h15b, h15c]; done) | (simp; omega)⟩ fa_n)
    have hF := hF.tr (hF1.mono (by simp))
    have hT := hT1
    rcases hqr1574 with rfl | ⟨rfl, v1575, l1576, g1577, f1578⟩
    · refine lv_if_ne (tgt := 47) hx hb dX5_readLink_42 (by decide) (fun c9 => absurd (by decide) c9) (fun _ => ?_)
      refine lv_iconst (v := 0) hx hb dX5_readLink_45 (by decide) ?_
      exact en_i hx hb hr hlocks hL rfl (Nat.zero_le _) (Nat.zero_le _) dX5_readLink_46 (⟨hT, hF, Or.inl rfl⟩)
    · refine lv_if_ne (tgt := 47) hx hb dX5_readLink_42 (by decide) (fun _ => ?_) (fun c9 => absurd c9 (by decide))
      refine lv_aload_n hx hb dX5_readLink_47 rfl (lv_at hl 1 rfl) ?_
      obtain ⟨hb1579, e1579, hat1579, hk1579⟩ := hT.o6 hw.1
      obtain ⟨f1579_0, f1579_2, f1579_3, f1579_4, f1579_5, f1579_6, f1579_7, f1579_8, f1579_9, f1579_10, f1579_11, f1579_12, f1579_13, rfl, c1579_1, c1579_2, c1579_3, c1579_5, c1579_10, t1579_0, t1579_9, c1579_11, c1579_p2⟩ := hk1579
      obtain rfl : f1579_11 = .ref (κ w).2.2.2 := c1579_p2.resolve_left hs0
      have hP : va_P D vwCl [(w, .inr (5, [.ref f1579_0, .int (nI ((κ w).2.2.1)), .int (nI f1579_2), .int (nI f1579_3), .int f1579_4, .int (nI f1579_5), .int f1579_6, .int f1579_7, .int f1579_8, .ref f1579_9, .int (nI f1579_10), .ref (κ w).2.2.2, .int f1579_12, .int f1579_13])), ((κ w).2.2.2, .inr (6, [.int (nI f1565_0), .int f1565_1, .int f1565_2, f1565_3, .ref f1565_4, .ref f1565_5, .ref f1565_6, .ref f1565_7]))] _ := va_P.cons hat1579 hP
      refine va_get (D := D) (ci := 5) (v := .int f1579_7) (C := RX5) (T := TX5) (N := 14) hx hb hts iX5_readLink_5 hown hN.1 hP 0 rfl rfl 7 (by decide) (hts _ mX5_readLink_2) (fun _ h9 => h9) rfl dX5_readLink_48 ?_
      refine lv_istore_n (lv' := [(2, .int f1579_7), (1, .int f1572_7), (0, .ref w)]) hx hb dX5_readLink_51 rfl hl (by decide) rfl (fun ls hl => ?_)
      refine lv_iload_n hx hb dX5_readLink_52 rfl (lv_at hl 1 rfl) ?_
      refine lv_iload_n hx hb dX5_readLink_53 rfl (lv_at hl 0 rfl) ?_
      refine lv_icmp_eq (tgt := 69) hx hb dX5_readLink_54 (by decide) (fun c1580 => ?_) (fun c1580 => ?_)
      · refine lv_aload_n hx hb dX5_readLink_69 rfl (lv_at hl 2 rfl) ?_
        refine lv_bipush (v := (-4)) hx hb dX5_readLink_70 (by decide) ?_
        refine lv_aload_n hx hb dX5_readLink_72 rfl (lv_at hl 2 rfl) ?_
        refine va_get (D := D) (ci := 5) (v := .int f1579_8) (C := RX5) (T := TX5) (N := 14) hx hb hts iX5_readLink_5 hown hN.1 hP 0 rfl rfl 8 (by decide) (hts _ mX5_readLink_3) (fun _ h9 => h9) rfl dX5_readLink_73 ?_
        refine cv_i (As := [.int (-4), .int f1579_8]) (rest := []) (b := w) ⟨hx, hb, hml, hown, hts⟩ (c_X5_fail hT (w := w) hw (x := (-4)) (y := f1579_8)) (cwV 2 hts gX5_readLink_X5_fail rfl rfl rfl hdX5_fail_v ⟨Nat.le_of_ble_eq_true rfl, Nat.le_of_ble_eq_true rfl⟩) hN hE hL (rcv6 hN hT hw.1) rfl rfl hl.1 (Nat.le_of_ble_eq_true rfl) dX5_readLink_76 (Nat.zero_le _) (Nat.zero_le _) (fun r1581 H1 locs hL hqr1581 => ?_)
        obtain ⟨hT1, hF1, hqr1581⟩ := hqr1581
        have hP : va_P D vwCl [((κ w).2.2.2, .inr (6, [.int (nI f1565_0), .int f1565_1, .int f1565_2, f1565_3, .ref f1565_4, .ref f1565_5, .ref f1565_6, .ref f1565_7]))] _ := hF1.hP (hP.sub [1] rfl) (fa_c ⟨by rw [hsu.1]; decide, by rw [hsu.2]; first | decide | (simp; done) | (simp [h15a, h15b, h15c]; done) | (simp; omega)⟩ fa_n)
        have hF := hF.tr (hF1.mono (by simp))
        have hT := hT1
        obtain rfl := hqr1581
        exact en_i hx hb hr hlocks hL rfl (Nat.zero_le _) (Nat.zero_le _) dX5_readLink_79 (⟨hT, hF, Or.inl rfl⟩)
      · refine lv_aload_n hx hb dX5_readLink_57 rfl (lv_at hl 2 rfl) ?_
        refine va_get (D := D) (ci := 5) (v := .ref (κ w).2.2.2) (C := RX5) (T := TX5) (N := 14) hx hb hts iX5_readLink_5 hown hN.1 hP 0 rfl rfl 11 (by decide) (hts _ mX5_readLink_1) (fun _ h9 => h9) rfl dX5_readLink_58 ?_
        refine lv_iload_n hx hb dX5_readLink_61 rfl (lv_at hl 1 rfl) ?_
        refine lv_iload_n hx hb dX5_readLink_62 rfl (lv_at hl 0 rfl) ?_
        refine cv_i (As := [.int f1572_7, .int f1579_7]) (rest := []) (b := (κ w).2.2.2) ⟨hx, hb, hml, hown, hts⟩ (c_X6_delayOf hT (w := (κ w).2.2.2) hsu (x := f1572_7) (y := f1579_7)) (cwV 2 hts gX5_readLink_X6_delayOf rfl rfl rfl hdX6_delayOf_v ⟨Nat.le_of_ble_eq_true rfl, Nat.le_of_ble_eq_true rfl⟩) hN hE hL (rcv7 hN hT hsu.1) rfl rfl hl.1 (Nat.le_of_ble_eq_true rfl) dX5_readLink_63 (Nat.zero_le _) (Nat.zero_le _) (fun r1582 H1 locs hL hqr1582 => ?_)
        obtain ⟨h9, hqr1582⟩ := hqr1582; replace h9 := h9.symm; subst h9
        obtain ⟨f1583, d1584, n1585, h1586, rfl, e1587⟩ := hqr1582
        refine lv_if_eq (tgt := 80) hx hb dX5_readLink_66 (by decide) (fun c1588 => ?_) (fun c1588 => ?_)
        · have c1588 : n1585 = 0 := (nI_eq (a := n1585) (b := 0) (by omega) (by omega)).mp c1588
          refine lv_aload_n hx hb dX5_readLink_80 rfl (lv_at hl 2 rfl) ?_
          refine lv_iconst (v := 1) hx hb dX5_readLink_81 (by decide) ?_
          refine lv_bipush (v := 9) hx hb dX5_readLink_82 (by decide) ?_
          refine cv_i (As := [.int 1, .int 9]) (rest := []) (b := w) ⟨hx, hb, hml, hown, hts⟩ (c_X5_takeNumber hT (w := w) hw (x := 1) (y := 9)) (cwV 2 hts gX5_readLink_X5_takeNumber rfl rfl rfl hdX5_takeNumber_v ⟨Nat.le_of_ble_eq_true rfl, Nat.le_of_ble_eq_true rfl⟩) hN hE hL (rcv6 hN hT hw.1) rfl rfl hl.1 (Nat.le_of_ble_eq_true rfl) dX5_readLink_84 (Nat.zero_le _) (Nat.zero_le _) (fun r1589 H1 locs hL hqr1589 => ?_)
          obtain ⟨hT1, hF1, hqr1589⟩ := hqr1589
          have hP : va_P D vwCl [((κ w).2.2.2, .inr (6, [.int (nI f1565_0), .int f1565_1, .int f1565_2, f1565_3, .ref f1565_4, .ref f1565_5, .ref f1565_6, .ref f1565_7]))] _ := hF1.hP (hP.sub [1] rfl) (fa_c ⟨by rw [hsu.1]; decide, by rw [hsu.2]; first | decide | (simp; done) | (simp [h15a, h15b, h15c]; done) | (simp; omega)⟩ fa_n)
          have hF := hF.tr (hF1.mono (by simp))
          have hT := hT1
          rcases hqr1589 with rfl | ⟨rfl, v1590, l1591, g1592, f1593⟩
          · refine lv_if_ne (tgt := 92) hx hb dX5_readLink_87 (by decide) (fun c9 => absurd (by decide) c9) (fun _ => ?_)
            refine lv_iconst (v := 0) hx hb dX5_readLink_90 (by decide) ?_
            exact en_i hx hb hr hlocks hL rfl (Nat.zero_le _) (Nat.zero_le _) dX5_readLink_91 (⟨hT, hF, Or.inl rfl⟩)
          · obtain ⟨n1594, hn1594a, hn1594b, rfl⟩ := rng (x := v1590) (lo := 1) (hi := 9) (by decide) (by decide) l1591 g1592
            refine lv_if_ne (tgt := 92) hx hb dX5_readLink_87 (by decide) (fun _ => ?_) (fun c9 => absurd c9 (by decide))
            refine lv_aload_n hx hb dX5_readLink_92 rfl (lv_at hl 2 rfl) ?_
            obtain ⟨hb1595, e1595, hat1595, hk1595⟩ := hT.o6 hw.1
            obtain ⟨f1595_0, f1595_2, f1595_3, f1595_4, f1595_5, f1595_6, f1595_7, f1595_8, f1595_9, f1595_10, f1595_11, f1595_12, f1595_13, rfl, c1595_1, c1595_2, c1595_3, c1595_5, c1595_10, t1595_0, t1595_9, c1595_11, c1595_p2⟩ := hk1595
            obtain rfl : f1595_11 = .ref (κ w).2.2.2 := c1595_p2.resolve_left hs0
            obtain rfl : f1595_7 = nI n1594 := Value.int.inj (f1593.eq hat1595 rfl (by decide) rfl)
            have hP : va_P D vwCl [(w, .inr (5, [.ref f1595_0, .int (nI ((κ w).2.2.1)), .int (nI f1595_2), .int (nI f1595_3), .int f1595_4, .int (nI f1595_5), .int f1595_6, .int (nI n1594), .int f1595_8, .ref f1595_9, .int (nI f1595_10), .ref (κ w).2.2.2, .int f1595_12, .int f1595_13])), ((κ w).2.2.2, .inr (6, [.int (nI f1565_0), .int f1565_1, .int f1565_2, f1565_3, .ref f1565_4, .ref f1565_5, .ref f1565_6, .ref f1565_7]))] _ := va_P.cons hat1595 hP
            refine va_get (D := D) (ci := 5) (v := .int (nI n1594)) (C := RX5) (T := TX5) (N := 14) hx hb hts iX5_readLink_5 hown hN.1 hP 0 rfl rfl 7 (by decide) (hts _ mX5_readLink_2) (fun _ h9 => h9) rfl dX5_readLink_93 ?_
            refine lv_istore_n (lv' := [(3, .int (nI n1594)), (2, .int f1579_7), (1, .int f1572_7), (0, .ref w)]) hx hb dX5_readLink_96 rfl hl (by decide) rfl (fun ls hl => ?_)
            refine lv_aload_n hx hb dX5_readLink_97 rfl (lv_at hl 3 rfl) ?_
            refine lv_iconst (v := 1) hx hb dX5_readLink_98 (by decide) ?_
            refine lv_bipush (v := 9) hx hb dX5_readLink_99 (by decide) ?_
            refine cv_i (As := [.int 1, .int 9]) (rest := []) (b := w) ⟨hx, hb, hml, hown, hts⟩ (c_X5_takeNumber hT (w := w) hw (x := 1) (y := 9)) (cwV 2 hts gX5_readLink_X5_takeNumber rfl rfl rfl hdX5_takeNumber_v ⟨Nat.le_of_ble_eq_true rfl, Nat.le_of_ble_eq_true rfl⟩) hN hE hL (rcv6 hN hT hw.1) rfl rfl hl.1 (Nat.le_of_ble_eq_true rfl) dX5_readLink_101 (Nat.zero_le _) (Nat.zero_le _) (fun r1596 H1 locs hL hqr1596 => ?_)
            obtain ⟨hT1, hF1, hqr1596⟩ := hqr1596
            have hP : va_P D vwCl [((κ w).2.2.2, .inr (6, [.int (nI f1565_0), .int f1565_1, .int f1565_2, f1565_3, .ref f1565_4, .ref f1565_5, .ref f1565_6, .ref f1565_7]))] _ := hF1.hP (hP.sub [1] rfl) (fa_c ⟨by rw [hsu.1]; decide, by rw [hsu.2]; first | decide | (simp; done) | (simp [h15a, h15b, h15c]; done) | (simp; omega)⟩ fa_n)
            have hF := hF.tr (hF1.mono (by simp))
            have hT := hT1
            rcases hqr1596 with rfl | ⟨rfl, v1597, l1598, g1599, f1600⟩
            · refine lv_if_ne (tgt := 109) hx hb dX5_readLink_104 (by decide) (fun c9 => absurd (by decide) c9) (fun _ => ?_)
              refine lv_iconst (v := 0) hx hb dX5_readLink_107 (by decide) ?_
              exact en_i hx hb hr hlocks hL rfl (Nat.zero_le _) (Nat.zero_le _) dX5_readLink_108 (⟨hT, hF, Or.inl rfl⟩)
            · obtain ⟨n1601, hn1601a, hn1601b, rfl⟩ := rng (x := v1597) (lo := 1) (hi := 9) (by decide) (by decide) l1598 g1599
              refine lv_if_ne (tgt := 109) hx hb dX5_readLink_104 (by decide) (fun _ => ?_) (fun c9 => absurd c9 (by decide))
              refine lv_aload_n hx hb dX5_readLink_109 rfl (lv_at hl 3 rfl) ?_
              obtain ⟨hb1602, e1602, hat1602, hk1602⟩ := hT.o6 hw.1
              obtain ⟨f1602_0, f1602_2, f1602_3, f1602_4, f1602_5, f1602_6, f1602_7, f1602_8, f1602_9, f1602_10, f1602_11, f1602_12, f1602_13, rfl, c1602_1, c1602_2, c1602_3, c1602_5, c1602_10, t1602_0, t1602_9, c1602_11, c1602_p2⟩ := hk1602
              obtain rfl : f1602_11 = .ref (κ w).2.2.2 := c1602_p2.resolve_left hs0
              obtain rfl : f1602_7 = nI n1601 := Value.int.inj (f1600.eq hat1602 rfl (by decide) rfl)
              have hP : va_P D vwCl [(w, .inr (5, [.ref f1602_0, .int (nI ((κ w).2.2.1)), .int (nI f1602_2), .int (nI f1602_3), .int f1602_4, .int (nI f1602_5), .int f1602_6, .int (nI n1601), .int f1602_8, .ref f1602_9, .int (nI f1602_10), .ref (κ w).2.2.2, .int f1602_12, .int f1602_13])), ((κ w).2.2.2, .inr (6, [.int (nI f1565_0), .int f1565_1, .int f1565_2, f1565_3, .ref f1565_4, .ref f1565_5, .ref f1565_6, .ref f1565_7]))] _ := va_P.cons hat1602 hP
              refine va_get (D := D) (ci := 5) (v := .ref (κ w).2.2.2) (C := RX5) (T := TX5) (N := 14) hx hb hts iX5_readLink_5 hown hN.1 hP 0 rfl rfl 11 (by decide) (hts _ mX5_readLink_1) (fun _ h9 => h9) rfl dX5_readLink_110 ?_
              refine lv_iload_n hx hb dX5_readLink_113 rfl (lv_at hl 2 rfl) ?_
              refine lv_iload_n hx hb dX5_readLink_114 rfl (lv_at hl 1 rfl) ?_
              refine lv_iload_n hx hb dX5_readLink_115 rfl (lv_at hl 0 rfl) ?_
              refine cv_v (As := [.int f1572_7, .int f1579_7, .int (nI n1594)]) (rest := []) (b := (κ w).2.2.2) ⟨hx, hb, hml, hown, hts⟩ (c_X6_setDelay hT (w := (κ w).2.2.2) hsu (x := f1572_7) (y := f1579_7) (n := n1594) (by first | omega | decide | assumption)) (cwV 3 hts gX5_readLink_X6_setDelay rfl rfl rfl hdX6_setDelay_v ⟨Nat.le_of_ble_eq_true rfl, Nat.le_of_ble_eq_true rfl⟩) hN hE hL (rcv7 hN hT hsu.1) rfl rfl hl.1 (Nat.le_of_ble_eq_true rfl) dX5_readLink_116 (Nat.zero_le _) (Nat.zero_le _) (fun H1 locs hL hqr1603 => ?_)
              obtain ⟨hT1, hF1⟩ := hqr1603
              have hP : va_P D vwCl [(w, .inr (5, [.ref f1602_0, .int (nI ((κ w).2.2.1)), .int (nI f1602_2), .int (nI f1602_3), .int f1602_4, .int (nI f1602_5), .int f1602_6, .int (nI n1601), .int f1602_8, .ref f1602_9, .int (nI f1602_10), .ref (κ w).2.2.2, .int f1602_12, .int f1602_13]))] _ := hF1.hP (hP.sub [0] rfl) (fa_c ⟨by rw [hw.1]; decide, by rw [hw.2]; first | decide | (simp; done) | (simp [h15a, h15b, h15c]; done) | (simp; omega)⟩ fa_n)
              have hF := hF.tr (hF1.mono (by simp))
              have hT := hT1
              refine lv_aload_n hx hb dX5_readLink_119 rfl (lv_at hl 3 rfl) ?_
              refine va_get (D := D) (ci := 5) (v := .ref (κ w).2.2.2) (C := RX5) (T := TX5) (N := 14) hx hb hts iX5_readLink_5 hown hN.1 hP 0 rfl rfl 11 (by decide) (hts _ mX5_readLink_1) (fun _ h9 => h9) rfl dX5_readLink_120 ?_
              refine lv_iload_n hx hb dX5_readLink_123 rfl (lv_at hl 1 rfl) ?_
              refine lv_iload_n hx hb dX5_readLink_124 rfl (lv_at hl 2 rfl) ?_
              refine lv_aload_n hx hb dX5_readLink_125 rfl (lv_at hl 3 rfl) ?_
              refine va_get (D := D) (ci := 5) (v := .int (nI n1601)) (C := RX5) (T := TX5) (N := 14) hx hb hts iX5_readLink_5 hown hN.1 hP 0 rfl rfl 7 (by decide) (hts _ mX5_readLink_2) (fun _ h9 => h9) rfl dX5_readLink_126 ?_
              refine cv_v (As := [.int f1579_7, .int f1572_7, .int (nI n1601)]) (rest := []) (b := (κ w).2.2.2) ⟨hx, hb, hml, hown, hts⟩ (c_X6_setDelay hT (w := (κ w).2.2.2) hsu (x := f1579_7) (y := f1572_7) (n := n1601) (by first | omega | decide | assumption)) (cwV 3 hts gX5_readLink_X6_setDelay rfl rfl rfl hdX6_setDelay_v ⟨Nat.le_of_ble_eq_true rfl, Nat.le_of_ble_eq_true rfl⟩) hN hE hL (rcv7 hN hT hsu.1) rfl rfl hl.1 (Nat.le_of_ble_eq_true rfl) dX5_readLink_129 (Nat.zero_le _) (Nat.zero_le _) (fun H1 locs hL hqr1604 => ?_)
              obtain ⟨hT1, hF1⟩ := hqr1604
              have hP : va_P D vwCl [(w, .inr (5, [.ref f1602_0, .int (nI ((κ w).2.2.1)), .int (nI f1602_2), .int (nI f1602_3), .int f1602_4, .int (nI f1602_5), .int f1602_6, .int (nI n1601), .int f1602_8, .ref f1602_9, .int (nI f1602_10), .ref (κ w).2.2.2, .int f1602_12, .int f1602_13]))] _ := hF1.hP (hP.sub [0] rfl) (fa_c ⟨by rw [hw.1]; decide, by rw [hw.2]; first | decide | (simp; done) | (simp [h15a, h15b, h15c]; done) | (simp; omega)⟩ fa_n)
              have hF := hF.tr (hF1.mono (by simp))
              have hT := hT1
              refine lv_iconst (v := 1) hx hb dX5_readLink_132 (by decide) ?_
              exact en_i hx hb hr hlocks hL rfl (Nat.zero_le _) (Nat.zero_le _) dX5_readLink_133 (⟨hT, hF, Or.inr rfl⟩)
        · have c1588 : ¬ n1585 = 0 := fun h9 => c1588 ((nI_eq (a := n1585) (b := 0) (by omega) (by omega)).mpr h9)
          refine lv_aload_n hx hb dX5_readLink_69 rfl (lv_at hl 2 rfl) ?_
          refine lv_bipush (v := (-4)) hx hb dX5_readLink_70 (by decide) ?_
          refine lv_aload_n hx hb dX5_readLink_72 rfl (lv_at hl 2 rfl) ?_
          refine va_get (D := D) (ci := 5) (v := .int f1579_8) (C := RX5) (T := TX5) (N := 14) hx hb hts iX5_readLink_5 hown hN.1 hP 0 rfl rfl 8 (by decide) (hts _ mX5_readLink_3) (fun _ h9 => h9) rfl dX5_readLink_73 ?_
          refine cv_i (As := [.int (-4), .int f1579_8]) (rest := []) (b := w) ⟨hx, hb, hml, hown, hts⟩ (c_X5_fail hT (w := w) hw (x := (-4)) (y := f1579_8)) (cwV 2 hts gX5_readLink_X5_fail rfl rfl rfl hdX5_fail_v ⟨Nat.le_of_ble_eq_true rfl, Nat.le_of_ble_eq_true rfl⟩) hN hE hL (rcv6 hN hT hw.1) rfl rfl hl.1 (Nat.le_of_ble_eq_true rfl) dX5_readLink_76 (Nat.zero_le _) (Nat.zero_le _) (fun r1605 H1 locs hL hqr1605 => ?_)
          obtain ⟨hT1, hF1, hqr1605⟩ := hqr1605
          have hP : va_P D vwCl [((κ w).2.2.2, .inr (6, [.int (nI f1565_0), .int f1565_1, .int f1565_2, f1565_3, .ref f1565_4, .ref f1565_5, .ref f1565_6, .ref f1565_7]))] _ := hF1.hP (hP.sub [1] rfl) (fa_c ⟨by rw [hsu.1]; decide, by rw [hsu.2]; first | decide | (simp; done) | (simp [h15a, h15b, h15c]; done) | (simp; omega)⟩ fa_n)
          have hF := hF.tr (hF1.mono (by simp))
          have hT := hT1
          obtain rfl := hqr1605
          exact en_i hx hb hr hlocks hL rfl (Nat.zero_le _) (Nat.zero_le _) dX5_readLink_79 (⟨hT, hF, Or.inl rfl⟩)
theorem mX5_readFactor_1 : (.fieldLink RX5 73 "OneBeat$Reader" "kind" "I" : Cond) ∈ wsX5_readFactor := List.mem_of_getElem? (i := 1) (by decide +kernel)
theorem iX5_readFactor_5 : ∀ w ∈ wsX50, w ∈ wsX5_readFactor := fun w h => List.mem_of_mem_drop (List.mem_of_mem_take ((show wsX50 = (wsX5_readFactor.drop 107).take 14 by decide +kernel) ▸ h))
theorem hdX5_codeOfWord_v : yX5_codeOfWord.cls = RX5 ∧ yX5_codeOfWord.cls ≠ "java/lang/invoke/MethodHandle" ∧ yX5_codeOfWord.cls ≠ "java/lang/invoke/VarHandle" ∧ (parseMethodDescriptor yX5_codeOfWord.desc).map (fun d => d.parameters.length) = some 0 := by decide +kernel
theorem hdX5_putCode_v : yX5_putCode.cls = RX5 ∧ yX5_putCode.cls ≠ "java/lang/invoke/MethodHandle" ∧ yX5_putCode.cls ≠ "java/lang/invoke/VarHandle" ∧ (parseMethodDescriptor yX5_putCode.desc).map (fun d => d.parameters.length) = some 1 := by decide +kernel
theorem mX5_readFactor_3 : (.fieldLink RX5 124 "OneBeat$Reader" "start" "I" : Cond) ∈ wsX5_readFactor := List.mem_of_getElem? (i := 3) (by decide +kernel)
theorem mX5_readFactor_2 : (.fieldLink RX5 59 "OneBeat$Reader" "taken" "I" : Cond) ∈ wsX5_readFactor := List.mem_of_getElem? (i := 2) (by decide +kernel)
set_option maxHeartbeats 4000000 in
set_option maxRecDepth 100000 in
theorem c_X5_readFactor_d4 {l : Launch} {D : va_G} {cs : Nat → ClassId} {B0 T : Nat} {κ : KM} {H0 : Heap} (hT : WT B0 D cs T κ H0) {w : Nat} (hw : T2 κ w 6 10) : KC l yX5_readFactor wsX5_readFactor 6 127 0 0 D cs B0 H0 [.ref w, .int 4] (Qi (fun r H => WT B0 D cs T κ H ∧ Fr B0 [10] κ H0 H ∧ (r = 0 ∨ r = 1))) := by
  refine KC.of cX5_readFactor 3 (some .boolean) (by decide) rfl (Nat.le_of_ble_eq_true rfl) ?_
  intro p e s m below meth c ls hx hb hr hml hown hts hlocks hin hN hE hH0 hl
  have hown : s.vm.findClass RX5 = some m.cls := hown
  have hl : lv_has ls 3 [(0, .ref w), (1, .int 4)] := hl
  have hL : OkL B0 [] := OkL.nil
  have hF : Fr B0 [10] κ H0 H0 := Fr.rf
  refine lv_aload_n hx hb dX5_readFactor_0 rfl (lv_at hl 0 rfl) ?_
  obtain ⟨hb1606, e1606, hat1606, hk1606⟩ := hT.o6 hw.1
  obtain ⟨f1606_0, f1606_2, f1606_3, f1606_4, f1606_5, f1606_6, f1606_7, f1606_8, f1606_9, f1606_10, f1606_11, f1606_12, f1606_13, rfl, c1606_1, c1606_2, c1606_3, c1606_5, c1606_10, t1606_0, t1606_9, c1606_11, c1606_p2⟩ := hk1606
  have hP : va_P D vwCl [(w, .inr (5, [.ref f1606_0, .int (nI ((κ w).2.2.1)), .int (nI f1606_2), .int (nI f1606_3), .int f1606_4, .int (nI f1606_5), .int f1606_6, .int f1606_7, .int f1606_8, .ref f1606_9, .int (nI f1606_10), f1606_11, .int f1606_12, .int f1606_13]))] _ := va_P.cons hat1606 va_P.nil
  refine va_get (D := D) (ci := 5) (v := .int f1606_4) (C := RX5) (T := TX5) (N := 14) hx hb hts iX5_readFactor_5 hown hN.1 hP 0 rfl rfl 4 (by decide) (hts _ mX5_readFactor_1) (fun _ h9 => h9) rfl dX5_readFactor_1 ?_
  refine lv_iconst (v := 1) hx hb dX5_readFactor_4 (by decide) ?_
  refine lv_icmp_ne (tgt := 31) hx hb dX5_readFactor_5 (by decide) (fun c1607 => ?_) (fun c1607 => ?_)
  · refine lv_aload_n hx hb dX5_readFactor_31 rfl (lv_at hl 0 rfl) ?_
    refine lv_bipush (v := 40) hx hb dX5_readFactor_32 (by decide) ?_
    refine cv_i (As := [.int 40]) (rest := []) (b := w) ⟨hx, hb, hml, hown, hts⟩ (c_X5_isMark hT (w := w) hw (x := 40)) (cwV 1 hts gX5_readFactor_X5_isMark rfl rfl rfl hdX5_isMark_v ⟨Nat.le_of_ble_eq_true rfl, Nat.le_of_ble_eq_true rfl⟩) hN hE hL (rcv6 hN hT hw.1) rfl rfl hl.1 (Nat.le_of_ble_eq_true rfl) dX5_readFactor_34 (Nat.zero_le _) (Nat.zero_le _) (fun r1608 H1 locs hL hqr1608 => ?_)
    obtain ⟨h9, hqr1608⟩ := hqr1608; replace h9 := h9.symm; subst h9
    rcases hqr1608 with rfl | rfl
    · refine lv_if_eq (tgt := 85) hx hb dX5_readFactor_37 (by decide) (fun _ => ?_) (fun c9 => absurd (by decide) c9)
      refine lv_aload_n hx hb dX5_readFactor_85 rfl (lv_at hl 0 rfl) ?_
      refine cv_i (As := []) (rest := []) (b := w) ⟨hx, hb, hml, hown, hts⟩ (c_X5_codeOfWord hT (w := w) hw) (cwV 0 hts gX5_readFactor_X5_codeOfWord rfl rfl rfl hdX5_codeOfWord_v ⟨Nat.le_of_ble_eq_true rfl, Nat.le_of_ble_eq_true rfl⟩) hN hE hL (rcv6 hN hT hw.1) rfl rfl hl.1 (Nat.le_of_ble_eq_true rfl) dX5_readFactor_86 (Nat.zero_le _) (Nat.zero_le _) (fun r1609 H1 locs hL hqr1609 => ?_)
      obtain rfl := hqr1609.symm
      refine lv_istore_n (lv' := [(2, .int r1609), (0, .ref w), (1, .int 4)]) hx hb dX5_readFactor_89 rfl hl (by decide) rfl (fun ls hl => ?_)
      refine lv_iload_n hx hb dX5_readFactor_90 rfl (lv_at hl 0 rfl) ?_
      refine lv_if_ne (tgt := 105) hx hb dX5_readFactor_91 (by decide) (fun c1610 => ?_) (fun c1610 => ?_)
      · refine lv_aload_n hx hb dX5_readFactor_105 rfl (lv_at hl 1 rfl) ?_
        refine lv_iload_n hx hb dX5_readFactor_106 rfl (lv_at hl 0 rfl) ?_
        refine cv_v (As := [.int r1609]) (rest := []) (b := w) ⟨hx, hb, hml, hown, hts⟩ (c_X5_putCode hT (w := w) hw (x := r1609)) (cwV 1 hts gX5_readFactor_X5_putCode rfl rfl rfl hdX5_putCode_v ⟨Nat.le_of_ble_eq_true rfl, Nat.le_of_ble_eq_true rfl⟩) hN hE hL (rcv6 hN hT hw.1) rfl rfl hl.1 (Nat.le_of_ble_eq_true rfl) dX5_readFactor_107 (Nat.zero_le _) (Nat.zero_le _) (fun H1 locs hL hqr1611 => ?_)
        obtain ⟨hT1, hF1⟩ := hqr1611
        have hF := hF.tr (hF1.mono (by simp))
        have hT := hT1
        refine lv_aload_n hx hb dX5_readFactor_110 rfl (lv_at hl 1 rfl) ?_
        refine cv_v (As := []) (rest := []) (b := w) ⟨hx, hb, hml, hown, hts⟩ (c_X5_step hT (w := w) hw) (cwV 0 hts gX5_readFactor_X5_step rfl rfl rfl hdX5_step_v ⟨Nat.le_of_ble_eq_true rfl, Nat.le_of_ble_eq_true rfl⟩) hN hE hL (rcv6 hN hT hw.1) rfl rfl hl.1 (Nat.le_of_ble_eq_true rfl) dX5_readFactor_111 (Nat.zero_le _) (Nat.zero_le _) (fun H1 locs hL hqr1612 => ?_)
        obtain ⟨hT1, hF1, hqr1612⟩ := hqr1612
        have hF := hF.tr (hF1.mono (by simp))
        have hT := hT1
        have f1613 := hqr1612
        refine lv_iconst (v := 1) hx hb dX5_readFactor_114 (by decide) ?_
        exact en_i hx hb hr hlocks hL rfl (Nat.zero_le _) (Nat.zero_le _) dX5_readFactor_115 (⟨hT, hF, Or.inr rfl⟩)
      · refine lv_aload_n hx hb dX5_readFactor_94 rfl (lv_at hl 1 rfl) ?_
        refine lv_bipush (v := (-2)) hx hb dX5_readFactor_95 (by decide) ?_
        refine lv_aload_n hx hb dX5_readFactor_97 rfl (lv_at hl 1 rfl) ?_
        refine va_get (D := D) (ci := 5) (v := .int (nI f1606_5)) (C := RX5) (T := TX5) (N := 14) hx hb hts iX5_readFactor_5 hown hN.1 hP 0 rfl rfl 5 (by decide) (hts _ mX5_readFactor_3) (fun _ h9 => h9) rfl dX5_readFactor_98 ?_
        refine cv_i (As := [.int (-2), .int (nI f1606_5)]) (rest := []) (b := w) ⟨hx, hb, hml, hown, hts⟩ (c_X5_fail hT (w := w) hw (x := (-2)) (y := (nI f1606_5))) (cwV 2 hts gX5_readFactor_X5_fail rfl rfl rfl hdX5_fail_v ⟨Nat.le_of_ble_eq_true rfl, Nat.le_of_ble_eq_true rfl⟩) hN hE hL (rcv6 hN hT hw.1) rfl rfl hl.1 (Nat.le_of_ble_eq_true rfl) dX5_readFactor_101 (Nat.zero_le _) (Nat.zero_le _) (fun r1614 H1 locs hL hqr1614 => ?_)
        obtain ⟨hT1, hF1, hqr1614⟩ := hqr1614
        have hF := hF.tr (hF1.mono (by simp))
        have hT := hT1
        obtain rfl := hqr1614
        exact en_i hx hb hr hlocks hL rfl (Nat.zero_le _) (Nat.zero_le _) dX5_readFactor_104 (⟨hT, hF, Or.inl rfl⟩)
    · refine lv_if_eq (tgt := 85) hx hb dX5_readFactor_37 (by decide) (fun c9 => absurd c9 (by decide)) (fun _ => ?_)
      refine lv_iload_n hx hb dX5_readFactor_40 rfl (lv_at hl 1 rfl) ?_
      refine lv_iconst (v := 4) hx hb dX5_readFactor_41 (by decide) ?_
      refine lv_icmp_lt (tgt := 56) hx hb dX5_readFactor_42 (by decide) (fun c9 => absurd c9 (by decide)) (fun _ => ?_)
      refine lv_aload_n hx hb dX5_readFactor_45 rfl (lv_at hl 0 rfl) ?_
      refine lv_bipush (v := (-5)) hx hb dX5_readFactor_46 (by decide) ?_
      refine lv_aload_n hx hb dX5_readFactor_48 rfl (lv_at hl 0 rfl) ?_
      refine va_get (D := D) (ci := 5) (v := .int (nI f1606_5)) (C := RX5) (T := TX5) (N := 14) hx hb hts iX5_readFactor_5 hown hN.1 hP 0 rfl rfl 5 (by decide) (hts _ mX5_readFactor_3) (fun _ h9 => h9) rfl dX5_readFactor_49 ?_
      refine cv_i (As := [.int (-5), .int (nI f1606_5)]) (rest := []) (b := w) ⟨hx, hb, hml, hown, hts⟩ (c_X5_fail hT (w := w) hw (x := (-5)) (y := (nI f1606_5))) (cwV 2 hts gX5_readFactor_X5_fail rfl rfl rfl hdX5_fail_v ⟨Nat.le_of_ble_eq_true rfl, Nat.le_of_ble_eq_true rfl⟩) hN hE hL (rcv6 hN hT hw.1) rfl rfl hl.1 (Nat.le_of_ble_eq_true rfl) dX5_readFactor_52 (Nat.zero_le _) (Nat.zero_le _) (fun r1615 H1 locs hL hqr1615 => ?_)
      obtain ⟨hT1, hF1, hqr1615⟩ := hqr1615
      have hF := hF.tr (hF1.mono (by simp))
      have hT := hT1
      obtain rfl := hqr1615
      exact en_i hx hb hr hlocks hL rfl (Nat.zero_le _) (Nat.zero_le _) dX5_readFactor_55 (⟨hT, hF, Or.inl rfl⟩)
  · refine lv_aload_n hx hb dX5_readFactor_8 rfl (lv_at hl 0 rfl) ?_
    refine lv_iconst (v := 0) hx hb dX5_readFactor_9 (by decide) ?_
    refine lv_sipush (v := 9999) hx hb dX5_readFactor_10 (by decide) ?_
    refine cv_i (As := [.int 0, .int 9999]) (rest := []) (b := w) ⟨hx, hb, hml, hown, hts⟩ (c_X5_takeNumber hT (w := w) hw (x := 0) (y := 9999)) (cwV 2 hts gX5_readFactor_X5_takeNumber rfl rfl rfl hdX5_takeNumber_v ⟨Nat.le_of_ble_eq_true rfl, Nat.le_of_ble_eq_true rfl⟩) hN hE hL (rcv6 hN hT hw.1) rfl rfl hl.1 (Nat.le_of_ble_eq_true rfl) dX5_readFactor_13 (Nat.zero_le _) (Nat.zero_le _) (fun r1616 H1 locs hL hqr1616 => ?_)
    obtain ⟨hT1, hF1, hqr1616⟩ := hqr1616
    have hF := hF.tr (hF1.mono (by simp))
    have hT := hT1
    rcases hqr1616 with rfl | ⟨rfl, v1617, l1618, g1619, f1620⟩
    · refine lv_if_ne (tgt := 21) hx hb dX5_readFactor_16 (by decide) (fun c9 => absurd (by decide) c9) (fun _ => ?_)
      refine lv_iconst (v := 0) hx hb dX5_readFactor_19 (by decide) ?_
      exact en_i hx hb hr hlocks hL rfl (Nat.zero_le _) (Nat.zero_le _) dX5_readFactor_20 (⟨hT, hF, Or.inl rfl⟩)
    · obtain ⟨n1621, hn1621a, hn1621b, rfl⟩ := rng (x := v1617) (lo := 0) (hi := 9999) (by decide) (by decide) l1618 g1619
      refine lv_if_ne (tgt := 21) hx hb dX5_readFactor_16 (by decide) (fun _ => ?_) (fun c9 => absurd c9 (by decide))
      refine lv_aload_n hx hb dX5_readFactor_21 rfl (lv_at hl 0 rfl) ?_
      refine lv_aload_n hx hb dX5_readFactor_22 rfl (lv_at hl 0 rfl) ?_
      obtain ⟨hb1622, e1622, hat1622, hk1622⟩ := hT.o6 hw.1
      obtain ⟨f1622_0, f1622_2, f1622_3, f1622_4, f1622_5, f1622_6, f1622_7, f1622_8, f1622_9, f1622_10, f1622_11, f1622_12, f1622_13, rfl, c1622_1, c1622_2, c1622_3, c1622_5, c1622_10, t1622_0, t1622_9, c1622_11, c1622_p2⟩ := hk1622
      obtain rfl : f1622_7 = nI n1621 := Value.int.inj (f1620.eq hat1622 rfl (by decide) rfl)
      have hP : va_P D vwCl [(w, .inr (5, [.ref f1622_0, .int (nI ((κ w).2.2.1)), .int (nI f1622_2), .int (nI f1622_3), .int f1622_4, .int (nI f1622_5), .int f1622_6, .int (nI n1621), .int f1622_8, .ref f1622_9, .int (nI f1622_10), f1622_11, .int f1622_12, .int f1622_13]))] _ := va_P.cons hat1622 va_P.nil
      refine va_get (D := D) (ci := 5) (v := .int (nI n1621)) (C := RX5) (T := TX5) (N := 14) hx hb hts iX5_readFactor_5 hown hN.1 hP 0 rfl rfl 7 (by decide) (hts _ mX5_readFactor_2) (fun _ h9 => h9) rfl dX5_readFactor_23 ?_
      refine cv_v (As := [.int (nI n1621)]) (rest := []) (b := w) ⟨hx, hb, hml, hown, hts⟩ (c_X5_putCode hT (w := w) hw (x := (nI n1621))) (cwV 1 hts gX5_readFactor_X5_putCode rfl rfl rfl hdX5_putCode_v ⟨Nat.le_of_ble_eq_true rfl, Nat.le_of_ble_eq_true rfl⟩) hN hE hL (rcv6 hN hT hw.1) rfl rfl hl.1 (Nat.le_of_ble_eq_true rfl) dX5_readFactor_26 (Nat.zero_le _) (Nat.zero_le _) (fun H1 locs hL hqr1623 => ?_)
      obtain ⟨hT1, hF1⟩ := hqr1623
      have hF := hF.tr (hF1.mono (by simp))
      have hT := hT1
      refine lv_iconst (v := 1) hx hb dX5_readFactor_29 (by decide) ?_
      exact en_i hx hb hr hlocks hL rfl (Nat.zero_le _) (Nat.zero_le _) dX5_readFactor_30 (⟨hT, hF, Or.inr rfl⟩)
theorem hdX5_readFactor_v : yX5_readFactor.cls = RX5 ∧ yX5_readFactor.cls ≠ "java/lang/invoke/MethodHandle" ∧ yX5_readFactor.cls ≠ "java/lang/invoke/VarHandle" ∧ (parseMethodDescriptor yX5_readFactor.desc).map (fun d => d.parameters.length) = some 1 := by decide +kernel
set_option maxHeartbeats 4000000 in
set_option maxRecDepth 100000 in
theorem c_X5_readTerm_d4 {l : Launch} {D : va_G} {cs : Nat → ClassId} {B0 T : Nat} {κ : KM} {H0 : Heap} (hT : WT B0 D cs T κ H0) {w : Nat} (hw : T2 κ w 6 10) : KC l yX5_readTerm wsX5_readTerm 7 149 0 0 D cs B0 H0 [.ref w, .int 4] (Qi (fun r H => WT B0 D cs T κ H ∧ Fr B0 [10] κ H0 H ∧ (r = 0 ∨ r = 1))) := by
  refine KC.of cX5_readTerm 4 (some .boolean) (by decide) rfl (Nat.le_of_ble_eq_true rfl) ?_
  intro p e s m below meth c ls hx hb hr hml hown hts hlocks hin hN hE hH0 hl
  have hown : s.vm.findClass RX5 = some m.cls := hown
  have hl : lv_has ls 4 [(0, .ref w), (1, .int 4)] := hl
  have hL : OkL B0 [] := OkL.nil
  have hF : Fr B0 [10] κ H0 H0 := Fr.rf
  refine lv_aload_n hx hb dX5_readTerm_0 rfl (lv_at hl 0 rfl) ?_
  refine lv_iload_n hx hb dX5_readTerm_1 rfl (lv_at hl 1 rfl) ?_
  refine cv_i (As := [.int 4]) (rest := []) (b := w) ⟨hx, hb, hml, hown, hts⟩ (c_X5_readFactor_d4 hT (w := w) hw) (cwV 1 hts gX5_readTerm_X5_readFactor rfl rfl rfl hdX5_readFactor_v ⟨Nat.le_of_ble_eq_true rfl, Nat.le_of_ble_eq_true rfl⟩) hN hE hL (rcv6 hN hT hw.1) rfl rfl hl.1 (Nat.le_of_ble_eq_true rfl) dX5_readTerm_2 (Nat.zero_le _) (Nat.zero_le _) (fun r1624 H1 locs hL hqr1624 => ?_)
  obtain ⟨hT1, hF1, hqr1624⟩ := hqr1624
  have hF := hF.tr (hF1.mono (by simp))
  have hT := hT1
  rcases hqr1624 with rfl | rfl
  · refine lv_if_ne (tgt := 10) hx hb dX5_readTerm_5 (by decide) (fun c9 => absurd (by decide) c9) (fun _ => ?_)
    refine lv_iconst (v := 0) hx hb dX5_readTerm_8 (by decide) ?_
    exact en_i hx hb hr hlocks hL rfl (Nat.zero_le _) (Nat.zero_le _) dX5_readTerm_9 (⟨hT, hF, Or.inl rfl⟩)
  · refine lv_if_ne (tgt := 10) hx hb dX5_readTerm_5 (by decide) (fun _ => ?_) (fun c9 => absurd c9 (by decide))
    refine lv_iconst (v := 0) hx hb dX5_readTerm_10 (by decide) ?_
    refine lv_istore_n (lv' := [(2, .int 0), (0, .ref w), (1, .int 4)]) hx hb dX5_readTerm_11 rfl hl (by decide) rfl (fun ls hl => ?_)
    refine lp_m (α := Nat) (nL := 4) (fun a9 => 600 - a9) (fun a9 H9 l9 => (a9 ≤ 600) ∧ (WT B0 D cs T κ H9) ∧ (Fr B0 [10] κ H0 H9) ∧ (OkL B0 l9)) (fun a9 => [(2, .int (nI a9)), (0, .ref w), (1, .int 4)]) ?_ 0 _ _ _ ⟨(by show (0) ≤ 600; omega), hT, hF, hL⟩ (lv_sub hl [0, 1, 2] rfl)
    rintro k H locs ls ih1625 ⟨hk, hT, hF, hL⟩ hl
    have hl : lv_has ls 4 [(2, .int (nI k)), (0, .ref w), (1, .int 4)] := hl
    have hk : k ≤ 600 := hk
    refine lv_iload_n hx hb dX5_readTerm_12 rfl (lv_at hl 0 rfl) ?_
    refine lv_sipush (v := 600) hx hb dX5_readTerm_13 (by decide) ?_
    refine lv_icmp_ge (tgt := 79) hx hb dX5_readTerm_16 (by decide) (fun c1626 => ?_) (fun c1626 => ?_)
    · have c1626 : 600 ≤ k := (nI_leI (a := 600) (b := k) (by omega) (by omega)).mp c1626
      refine lv_iconst (v := 1) hx hb dX5_readTerm_79 (by decide) ?_
      exact en_i hx hb hr hlocks hL rfl (Nat.zero_le _) (Nat.zero_le _) dX5_readTerm_80 (⟨hT, hF, Or.inr rfl⟩)
    · have c1626 : ¬ 600 ≤ k := fun h9 => c1626 ((nI_leI (a := 600) (b := k) (by omega) (by omega)).mpr h9)
      refine lv_aload_n hx hb dX5_readTerm_19 rfl (lv_at hl 1 rfl) ?_
      refine lv_bipush (v := 42) hx hb dX5_readTerm_20 (by decide) ?_
      refine cv_i (As := [.int 42]) (rest := []) (b := w) ⟨hx, hb, hml, hown, hts⟩ (c_X5_isMark hT (w := w) hw (x := 42)) (cwV 1 hts gX5_readTerm_X5_isMark rfl rfl rfl hdX5_isMark_v ⟨Nat.le_of_ble_eq_true rfl, Nat.le_of_ble_eq_true rfl⟩) hN hE hL (rcv6 hN hT hw.1) rfl rfl hl.1 (Nat.le_of_ble_eq_true rfl) dX5_readTerm_22 (Nat.zero_le _) (Nat.zero_le _) (fun r1627 H1 locs hL hqr1627 => ?_)
      obtain ⟨h9, hqr1627⟩ := hqr1627; replace h9 := h9.symm; subst h9
      rcases hqr1627 with rfl | rfl
      · refine lv_if_ne (tgt := 37) hx hb dX5_readTerm_25 (by decide) (fun c9 => absurd (by decide) c9) (fun _ => ?_)
        refine lv_aload_n hx hb dX5_readTerm_28 rfl (lv_at hl 1 rfl) ?_
        refine lv_bipush (v := 47) hx hb dX5_readTerm_29 (by decide) ?_
        refine cv_i (As := [.int 47]) (rest := []) (b := w) ⟨hx, hb, hml, hown, hts⟩ (c_X5_isMark hT (w := w) hw (x := 47)) (cwV 1 hts gX5_readTerm_X5_isMark rfl rfl rfl hdX5_isMark_v ⟨Nat.le_of_ble_eq_true rfl, Nat.le_of_ble_eq_true rfl⟩) hN hE hL (rcv6 hN hT hw.1) rfl rfl hl.1 (Nat.le_of_ble_eq_true rfl) dX5_readTerm_31 (Nat.zero_le _) (Nat.zero_le _) (fun r1628 H1 locs hL hqr1628 => ?_)
        obtain ⟨h9, hqr1628⟩ := hqr1628; replace h9 := h9.symm; subst h9
        rcases hqr1628 with rfl | rfl
        · refine lv_if_eq (tgt := 79) hx hb dX5_readTerm_34 (by decide) (fun _ => ?_) (fun c9 => absurd (by decide) c9)
          refine lv_iconst (v := 1) hx hb dX5_readTerm_79 (by decide) ?_
          exact en_i hx hb hr hlocks hL rfl (Nat.zero_le _) (Nat.zero_le _) dX5_readTerm_80 (⟨hT, hF, Or.inr rfl⟩)
        · refine lv_if_eq (tgt := 79) hx hb dX5_readTerm_34 (by decide) (fun c9 => absurd c9 (by decide)) (fun _ => ?_)
          refine lv_aload_n hx hb dX5_readTerm_37 rfl (lv_at hl 1 rfl) ?_
          refine lv_bipush (v := 42) hx hb dX5_readTerm_38 (by decide) ?_
          refine cv_i (As := [.int 42]) (rest := []) (b := w) ⟨hx, hb, hml, hown, hts⟩ (c_X5_isMark hT (w := w) hw (x := 42)) (cwV 1 hts gX5_readTerm_X5_isMark rfl rfl rfl hdX5_isMark_v ⟨Nat.le_of_ble_eq_true rfl, Nat.le_of_ble_eq_true rfl⟩) hN hE hL (rcv6 hN hT hw.1) rfl rfl hl.1 (Nat.le_of_ble_eq_true rfl) dX5_readTerm_40 (Nat.zero_le _) (Nat.zero_le _) (fun r1629 H1 locs hL hqr1629 => ?_)
          obtain ⟨h9, hqr1629⟩ := hqr1629; replace h9 := h9.symm; subst h9
          rcases hqr1629 with rfl | rfl
          · refine lv_if_eq (tgt := 51) hx hb dX5_readTerm_43 (by decide) (fun _ => ?_) (fun c9 => absurd (by decide) c9)
            refine lv_bipush (v := (-8)) hx hb dX5_readTerm_51 (by decide) ?_
            refine lv_istore_n (lv' := [(3, .int (-8)), (2, .int (nI k)), (0, .ref w), (1, .int 4)]) hx hb dX5_readTerm_53 rfl hl (by decide) rfl (fun ls hl => ?_)
            refine lv_aload_n hx hb dX5_readTerm_54 rfl (lv_at hl 2 rfl) ?_
            refine cv_v (As := []) (rest := []) (b := w) ⟨hx, hb, hml, hown, hts⟩ (c_X5_step hT (w := w) hw) (cwV 0 hts gX5_readTerm_X5_step rfl rfl rfl hdX5_step_v ⟨Nat.le_of_ble_eq_true rfl, Nat.le_of_ble_eq_true rfl⟩) hN hE hL (rcv6 hN hT hw.1) rfl rfl hl.1 (Nat.le_of_ble_eq_true rfl) dX5_readTerm_55 (Nat.zero_le _) (Nat.zero_le _) (fun H1 locs hL hqr1630 => ?_)
            obtain ⟨hT1, hF1, hqr1630⟩ := hqr1630
            have hF := hF.tr (hF1.mono (by simp))
            have hT := hT1
            have f1631 := hqr1630
            refine lv_aload_n hx hb dX5_readTerm_58 rfl (lv_at hl 2 rfl) ?_
            refine lv_iload_n hx hb dX5_readTerm_59 rfl (lv_at hl 3 rfl) ?_
            refine cv_i (As := [.int 4]) (rest := []) (b := w) ⟨hx, hb, hml, hown, hts⟩ (c_X5_readFactor_d4 hT (w := w) hw) (cwV 1 hts gX5_readTerm_X5_readFactor rfl rfl rfl hdX5_readFactor_v ⟨Nat.le_of_ble_eq_true rfl, Nat.le_of_ble_eq_true rfl⟩) hN hE hL (rcv6 hN hT hw.1) rfl rfl hl.1 (Nat.le_of_ble_eq_true rfl) dX5_readTerm_60 (Nat.zero_le _) (Nat.zero_le _) (fun r1632 H1 locs hL hqr1632 => ?_)
            obtain ⟨hT1, hF1, hqr1632⟩ := hqr1632
            have hF := hF.tr (hF1.mono (by simp))
            have hT := hT1
            rcases hqr1632 with rfl | rfl
            · refine lv_if_ne (tgt := 68) hx hb dX5_readTerm_63 (by decide) (fun c9 => absurd (by decide) c9) (fun _ => ?_)
              refine lv_iconst (v := 0) hx hb dX5_readTerm_66 (by decide) ?_
              exact en_i hx hb hr hlocks hL rfl (Nat.zero_le _) (Nat.zero_le _) dX5_readTerm_67 (⟨hT, hF, Or.inl rfl⟩)
            · refine lv_if_ne (tgt := 68) hx hb dX5_readTerm_63 (by decide) (fun _ => ?_) (fun c9 => absurd c9 (by decide))
              refine lv_aload_n hx hb dX5_readTerm_68 rfl (lv_at hl 2 rfl) ?_
              refine lv_iload_n hx hb dX5_readTerm_69 rfl (lv_at hl 0 rfl) ?_
              refine cv_v (As := [.int (-8)]) (rest := []) (b := w) ⟨hx, hb, hml, hown, hts⟩ (c_X5_putCode hT (w := w) hw (x := (-8))) (cwV 1 hts gX5_readTerm_X5_putCode rfl rfl rfl hdX5_putCode_v ⟨Nat.le_of_ble_eq_true rfl, Nat.le_of_ble_eq_true rfl⟩) hN hE hL (rcv6 hN hT hw.1) rfl rfl hl.1 (Nat.le_of_ble_eq_true rfl) dX5_readTerm_70 (Nat.zero_le _) (Nat.zero_le _) (fun H1 locs hL hqr1633 => ?_)
              obtain ⟨hT1, hF1⟩ := hqr1633
              have hF := hF.tr (hF1.mono (by simp))
              have hT := hT1
              refine lv_iinc (v := (nI (k + 1))) (lv' := [(2, .int (nI (k + 1))), (3, .int (-8)), (0, .ref w), (1, .int 4)]) hx hb dX5_readTerm_73 hl (k := 1) rfl (nI_add _ 1) (by decide) rfl (fun ls hl => ?_)
              refine lv_goto (tgt := 12) hx hb dX5_readTerm_76 (by decide) ?_
              exact ih1625 (k + 1) _ _ _ (by show 600 - ((k + 1)) < 600 - k; omega) ⟨(by show ((k + 1)) ≤ 600; omega), hT, hF, hL⟩ (lv_sub hl [0, 2, 3] rfl)
          · refine lv_if_eq (tgt := 51) hx hb dX5_readTerm_43 (by decide) (fun c9 => absurd c9 (by decide)) (fun _ => ?_)
            refine lv_bipush (v := (-7)) hx hb dX5_readTerm_46 (by decide) ?_
            refine lv_goto (tgt := 53) hx hb dX5_readTerm_48 (by decide) ?_
            refine lv_istore_n (lv' := [(3, .int (-7)), (2, .int (nI k)), (0, .ref w), (1, .int 4)]) hx hb dX5_readTerm_53 rfl hl (by decide) rfl (fun ls hl => ?_)
            refine lv_aload_n hx hb dX5_readTerm_54 rfl (lv_at hl 2 rfl) ?_
            refine cv_v (As := []) (rest := []) (b := w) ⟨hx, hb, hml, hown, hts⟩ (c_X5_step hT (w := w) hw) (cwV 0 hts gX5_readTerm_X5_step rfl rfl rfl hdX5_step_v ⟨Nat.le_of_ble_eq_true rfl, Nat.le_of_ble_eq_true rfl⟩) hN hE hL (rcv6 hN hT hw.1) rfl rfl hl.1 (Nat.le_of_ble_eq_true rfl) dX5_readTerm_55 (Nat.zero_le _) (Nat.zero_le _) (fun H1 locs hL hqr1634 => ?_)
            obtain ⟨hT1, hF1, hqr1634⟩ := hqr1634
            have hF := hF.tr (hF1.mono (by simp))
            have hT := hT1
            have f1635 := hqr1634
            refine lv_aload_n hx hb dX5_readTerm_58 rfl (lv_at hl 2 rfl) ?_
            refine lv_iload_n hx hb dX5_readTerm_59 rfl (lv_at hl 3 rfl) ?_
            refine cv_i (As := [.int 4]) (rest := []) (b := w) ⟨hx, hb, hml, hown, hts⟩ (c_X5_readFactor_d4 hT (w := w) hw) (cwV 1 hts gX5_readTerm_X5_readFactor rfl rfl rfl hdX5_readFactor_v ⟨Nat.le_of_ble_eq_true rfl, Nat.le_of_ble_eq_true rfl⟩) hN hE hL (rcv6 hN hT hw.1) rfl rfl hl.1 (Nat.le_of_ble_eq_true rfl) dX5_readTerm_60 (Nat.zero_le _) (Nat.zero_le _) (fun r1636 H1 locs hL hqr1636 => ?_)
            obtain ⟨hT1, hF1, hqr1636⟩ := hqr1636
            have hF := hF.tr (hF1.mono (by simp))
            have hT := hT1
            rcases hqr1636 with rfl | rfl
            · refine lv_if_ne (tgt := 68) hx hb dX5_readTerm_63 (by decide) (fun c9 => absurd (by decide) c9) (fun _ => ?_)
              refine lv_iconst (v := 0) hx hb dX5_readTerm_66 (by decide) ?_
              exact en_i hx hb hr hlocks hL rfl (Nat.zero_le _) (Nat.zero_le _) dX5_readTerm_67 (⟨hT, hF, Or.inl rfl⟩)
            · refine lv_if_ne (tgt := 68) hx hb dX5_readTerm_63 (by decide) (fun _ => ?_) (fun c9 => absurd c9 (by decide))
              refine lv_aload_n hx hb dX5_readTerm_68 rfl (lv_at hl 2 rfl) ?_
              refine lv_iload_n hx hb dX5_readTerm_69 rfl (lv_at hl 0 rfl) ?_
              refine cv_v (As := [.int (-7)]) (rest := []) (b := w) ⟨hx, hb, hml, hown, hts⟩ (c_X5_putCode hT (w := w) hw (x := (-7))) (cwV 1 hts gX5_readTerm_X5_putCode rfl rfl rfl hdX5_putCode_v ⟨Nat.le_of_ble_eq_true rfl, Nat.le_of_ble_eq_true rfl⟩) hN hE hL (rcv6 hN hT hw.1) rfl rfl hl.1 (Nat.le_of_ble_eq_true rfl) dX5_readTerm_70 (Nat.zero_le _) (Nat.zero_le _) (fun H1 locs hL hqr1637 => ?_)
              obtain ⟨hT1, hF1⟩ := hqr1637
              have hF := hF.tr (hF1.mono (by simp))
              have hT := hT1
              refine lv_iinc (v := (nI (k + 1))) (lv' := [(2, .int (nI (k + 1))), (3, .int (-7)), (0, .ref w), (1, .int 4)]) hx hb dX5_readTerm_73 hl (k := 1) rfl (nI_add _ 1) (by decide) rfl (fun ls hl => ?_)
              refine lv_goto (tgt := 12) hx hb dX5_readTerm_76 (by decide) ?_
              exact ih1625 (k + 1) _ _ _ (by show 600 - ((k + 1)) < 600 - k; omega) ⟨(by show ((k + 1)) ≤ 600; omega), hT, hF, hL⟩ (lv_sub hl [0, 2, 3] rfl)
      · refine lv_if_ne (tgt := 37) hx hb dX5_readTerm_25 (by decide) (fun _ => ?_) (fun c9 => absurd c9 (by decide))
        refine lv_aload_n hx hb dX5_readTerm_37 rfl (lv_at hl 1 rfl) ?_
        refine lv_bipush (v := 42) hx hb dX5_readTerm_38 (by decide) ?_
        refine cv_i (As := [.int 42]) (rest := []) (b := w) ⟨hx, hb, hml, hown, hts⟩ (c_X5_isMark hT (w := w) hw (x := 42)) (cwV 1 hts gX5_readTerm_X5_isMark rfl rfl rfl hdX5_isMark_v ⟨Nat.le_of_ble_eq_true rfl, Nat.le_of_ble_eq_true rfl⟩) hN hE hL (rcv6 hN hT hw.1) rfl rfl hl.1 (Nat.le_of_ble_eq_true rfl) dX5_readTerm_40 (Nat.zero_le _) (Nat.zero_le _) (fun r1638 H1 locs hL hqr1638 => ?_)
        obtain ⟨h9, hqr1638⟩ := hqr1638; replace h9 := h9.symm; subst h9
        rcases hqr1638 with rfl | rfl
        · refine lv_if_eq (tgt := 51) hx hb dX5_readTerm_43 (by decide) (fun _ => ?_) (fun c9 => absurd (by decide) c9)
          refine lv_bipush (v := (-8)) hx hb dX5_readTerm_51 (by decide) ?_
          refine lv_istore_n (lv' := [(3, .int (-8)), (2, .int (nI k)), (0, .ref w), (1, .int 4)]) hx hb dX5_readTerm_53 rfl hl (by decide) rfl (fun ls hl => ?_)
          refine lv_aload_n hx hb dX5_readTerm_54 rfl (lv_at hl 2 rfl) ?_
          refine cv_v (As := []) (rest := []) (b := w) ⟨hx, hb, hml, hown, hts⟩ (c_X5_step hT (w := w) hw) (cwV 0 hts gX5_readTerm_X5_step rfl rfl rfl hdX5_step_v ⟨Nat.le_of_ble_eq_true rfl, Nat.le_of_ble_eq_true rfl⟩) hN hE hL (rcv6 hN hT hw.1) rfl rfl hl.1 (Nat.le_of_ble_eq_true rfl) dX5_readTerm_55 (Nat.zero_le _) (Nat.zero_le _) (fun H1 locs hL hqr1639 => ?_)
          obtain ⟨hT1, hF1, hqr1639⟩ := hqr1639
          have hF := hF.tr (hF1.mono (by simp))
          have hT := hT1
          have f1640 := hqr1639
          refine lv_aload_n hx hb dX5_readTerm_58 rfl (lv_at hl 2 rfl) ?_
          refine lv_iload_n hx hb dX5_readTerm_59 rfl (lv_at hl 3 rfl) ?_
          refine cv_i (As := [.int 4]) (rest := []) (b := w) ⟨hx, hb, hml, hown, hts⟩ (c_X5_readFactor_d4 hT (w := w) hw) (cwV 1 hts gX5_readTerm_X5_readFactor rfl rfl rfl hdX5_readFactor_v ⟨Nat.le_of_ble_eq_true rfl, Nat.le_of_ble_eq_true rfl⟩) hN hE hL (rcv6 hN hT hw.1) rfl rfl hl.1 (Nat.le_of_ble_eq_true rfl) dX5_readTerm_60 (Nat.zero_le _) (Nat.zero_le _) (fun r1641 H1 locs hL hqr1641 => ?_)
          obtain ⟨hT1, hF1, hqr1641⟩ := hqr1641
          have hF := hF.tr (hF1.mono (by simp))
          have hT := hT1
          rcases hqr1641 with rfl | rfl
          · refine lv_if_ne (tgt := 68) hx hb dX5_readTerm_63 (by decide) (fun c9 => absurd (by decide) c9) (fun _ => ?_)
            refine lv_iconst (v := 0) hx hb dX5_readTerm_66 (by decide) ?_
            exact en_i hx hb hr hlocks hL rfl (Nat.zero_le _) (Nat.zero_le _) dX5_readTerm_67 (⟨hT, hF, Or.inl rfl⟩)
          · refine lv_if_ne (tgt := 68) hx hb dX5_readTerm_63 (by decide) (fun _ => ?_) (fun c9 => absurd c9 (by decide))
            refine lv_aload_n hx hb dX5_readTerm_68 rfl (lv_at hl 2 rfl) ?_
            refine lv_iload_n hx hb dX5_readTerm_69 rfl (lv_at hl 0 rfl) ?_
            refine cv_v (As := [.int (-8)]) (rest := []) (b := w) ⟨hx, hb, hml, hown, hts⟩ (c_X5_putCode hT (w := w) hw (x := (-8))) (cwV 1 hts gX5_readTerm_X5_putCode rfl rfl rfl hdX5_putCode_v ⟨Nat.le_of_ble_eq_true rfl, Nat.le_of_ble_eq_true rfl⟩) hN hE hL (rcv6 hN hT hw.1) rfl rfl hl.1 (Nat.le_of_ble_eq_true rfl) dX5_readTerm_70 (Nat.zero_le _) (Nat.zero_le _) (fun H1 locs hL hqr1642 => ?_)
            obtain ⟨hT1, hF1⟩ := hqr1642
            have hF := hF.tr (hF1.mono (by simp))
            have hT := hT1
            refine lv_iinc (v := (nI (k + 1))) (lv' := [(2, .int (nI (k + 1))), (3, .int (-8)), (0, .ref w), (1, .int 4)]) hx hb dX5_readTerm_73 hl (k := 1) rfl (nI_add _ 1) (by decide) rfl (fun ls hl => ?_)
            refine lv_goto (tgt := 12) hx hb dX5_readTerm_76 (by decide) ?_
            exact ih1625 (k + 1) _ _ _ (by show 600 - ((k + 1)) < 600 - k; omega) ⟨(by show ((k + 1)) ≤ 600; omega), hT, hF, hL⟩ (lv_sub hl [0, 2, 3] rfl)
        · refine lv_if_eq (tgt := 51) hx hb dX5_readTerm_43 (by decide) (fun c9 => absurd c9 (by decide)) (fun _ => ?_)
          refine lv_bipush (v := (-7)) hx hb dX5_readTerm_46 (by decide) ?_
          refine lv_goto (tgt := 53) hx hb dX5_readTerm_48 (by decide) ?_
          refine lv_istore_n (lv' := [(3, .int (-7)), (2, .int (nI k)), (0, .ref w), (1, .int 4)]) hx hb dX5_readTerm_53 rfl hl (by decide) rfl (fun ls hl => ?_)
          refine lv_aload_n hx hb dX5_readTerm_54 rfl (lv_at hl 2 rfl) ?_
          refine cv_v (As := []) (rest := []) (b := w) ⟨hx, hb, hml, hown, hts⟩ (c_X5_step hT (w := w) hw) (cwV 0 hts gX5_readTerm_X5_step rfl rfl rfl hdX5_step_v ⟨Nat.le_of_ble_eq_true rfl, Nat.le_of_ble_eq_true rfl⟩) hN hE hL (rcv6 hN hT hw.1) rfl rfl hl.1 (Nat.le_of_ble_eq_true rfl) dX5_readTerm_55 (Nat.zero_le _) (Nat.zero_le _) (fun H1 locs hL hqr1643 => ?_)
          obtain ⟨hT1, hF1, hqr1643⟩ := hqr1643
          have hF := hF.tr (hF1.mono (by simp))
          have hT := hT1
          have f1644 := hqr1643
          refine lv_aload_n hx hb dX5_readTerm_58 rfl (lv_at hl 2 rfl) ?_
          refine lv_iload_n hx hb dX5_readTerm_59 rfl (lv_at hl 3 rfl) ?_
          refine cv_i (As := [.int 4]) (rest := []) (b := w) ⟨hx, hb, hml, hown, hts⟩ (c_X5_readFactor_d4 hT (w := w) hw) (cwV 1 hts gX5_readTerm_X5_readFactor rfl rfl rfl hdX5_readFactor_v ⟨Nat.le_of_ble_eq_true rfl, Nat.le_of_ble_eq_true rfl⟩) hN hE hL (rcv6 hN hT hw.1) rfl rfl hl.1 (Nat.le_of_ble_eq_true rfl) dX5_readTerm_60 (Nat.zero_le _) (Nat.zero_le _) (fun r1645 H1 locs hL hqr1645 => ?_)
          obtain ⟨hT1, hF1, hqr1645⟩ := hqr1645
          have hF := hF.tr (hF1.mono (by simp))
          have hT := hT1
          rcases hqr1645 with rfl | rfl
          · refine lv_if_ne (tgt := 68) hx hb dX5_readTerm_63 (by decide) (fun c9 => absurd (by decide) c9) (fun _ => ?_)
            refine lv_iconst (v := 0) hx hb dX5_readTerm_66 (by decide) ?_
            exact en_i hx hb hr hlocks hL rfl (Nat.zero_le _) (Nat.zero_le _) dX5_readTerm_67 (⟨hT, hF, Or.inl rfl⟩)
          · refine lv_if_ne (tgt := 68) hx hb dX5_readTerm_63 (by decide) (fun _ => ?_) (fun c9 => absurd c9 (by decide))
            refine lv_aload_n hx hb dX5_readTerm_68 rfl (lv_at hl 2 rfl) ?_
            refine lv_iload_n hx hb dX5_readTerm_69 rfl (lv_at hl 0 rfl) ?_
            refine cv_v (As := [.int (-7)]) (rest := []) (b := w) ⟨hx, hb, hml, hown, hts⟩ (c_X5_putCode hT (w := w) hw (x := (-7))) (cwV 1 hts gX5_readTerm_X5_putCode rfl rfl rfl hdX5_putCode_v ⟨Nat.le_of_ble_eq_true rfl, Nat.le_of_ble_eq_true rfl⟩) hN hE hL (rcv6 hN hT hw.1) rfl rfl hl.1 (Nat.le_of_ble_eq_true rfl) dX5_readTerm_70 (Nat.zero_le _) (Nat.zero_le _) (fun H1 locs hL hqr1646 => ?_)
            obtain ⟨hT1, hF1⟩ := hqr1646
            have hF := hF.tr (hF1.mono (by simp))
            have hT := hT1
            refine lv_iinc (v := (nI (k + 1))) (lv' := [(2, .int (nI (k + 1))), (3, .int (-7)), (0, .ref w), (1, .int 4)]) hx hb dX5_readTerm_73 hl (k := 1) rfl (nI_add _ 1) (by decide) rfl (fun ls hl => ?_)
            refine lv_goto (tgt := 12) hx hb dX5_readTerm_76 (by decide) ?_
            exact ih1625 (k + 1) _ _ _ (by show 600 - ((k + 1)) < 600 - k; omega) ⟨(by show ((k + 1)) ≤ 600; omega), hT, hF, hL⟩ (lv_sub hl [0, 2, 3] rfl)
theorem hdX5_readTerm_v : yX5_readTerm.cls = RX5 ∧ yX5_readTerm.cls ≠ "java/lang/invoke/MethodHandle" ∧ yX5_readTerm.cls ≠ "java/lang/invoke/VarHandle" ∧ (parseMethodDescriptor yX5_readTerm.desc).map (fun d => d.parameters.length) = some 1 := by decide +kernel
set_option maxHeartbeats 4000000 in
set_option maxRecDepth 100000 in
theorem c_X5_readSum_d4 {l : Launch} {D : va_G} {cs : Nat → ClassId} {B0 T : Nat} {κ : KM} {H0 : Heap} (hT : WT B0 D cs T κ H0) {w : Nat} (hw : T2 κ w 6 10) : KC l yX5_readSum wsX5_readSum 8 172 0 0 D cs B0 H0 [.ref w, .int 4] (Qi (fun r H => WT B0 D cs T κ H ∧ Fr B0 [10] κ H0 H ∧ (r = 0 ∨ r = 1))) := by
  refine KC.of cX5_readSum 4 (some .boolean) (by decide) rfl (Nat.le_of_ble_eq_true rfl) ?_
  intro p e s m below meth c ls hx hb hr hml hown hts hlocks hin hN hE hH0 hl
  have hown : s.vm.findClass RX5 = some m.cls := hown
  have hl : lv_has ls 4 [(0, .ref w), (1, .int 4)] := hl
  have hL : OkL B0 [] := OkL.nil
  have hF : Fr B0 [10] κ H0 H0 := Fr.rf
  refine lv_aload_n hx hb dX5_readSum_0 rfl (lv_at hl 0 rfl) ?_
  refine lv_iload_n hx hb dX5_readSum_1 rfl (lv_at hl 1 rfl) ?_
  refine cv_i (As := [.int 4]) (rest := []) (b := w) ⟨hx, hb, hml, hown, hts⟩ (c_X5_readTerm_d4 hT (w := w) hw) (cwV 1 hts gX5_readSum_X5_readTerm rfl rfl rfl hdX5_readTerm_v ⟨Nat.le_of_ble_eq_true rfl, Nat.le_of_ble_eq_true rfl⟩) hN hE hL (rcv6 hN hT hw.1) rfl rfl hl.1 (Nat.le_of_ble_eq_true rfl) dX5_readSum_2 (Nat.zero_le _) (Nat.zero_le _) (fun r1647 H1 locs hL hqr1647 => ?_)
  obtain ⟨hT1, hF1, hqr1647⟩ := hqr1647
  have hF := hF.tr (hF1.mono (by simp))
  have hT := hT1
  rcases hqr1647 with rfl | rfl
  · refine lv_if_ne (tgt := 10) hx hb dX5_readSum_5 (by decide) (fun c9 => absurd (by decide) c9) (fun _ => ?_)
    refine lv_iconst (v := 0) hx hb dX5_readSum_8 (by decide) ?_
    exact en_i hx hb hr hlocks hL rfl (Nat.zero_le _) (Nat.zero_le _) dX5_readSum_9 (⟨hT, hF, Or.inl rfl⟩)
  · refine lv_if_ne (tgt := 10) hx hb dX5_readSum_5 (by decide) (fun _ => ?_) (fun c9 => absurd c9 (by decide))
    refine lv_iconst (v := 0) hx hb dX5_readSum_10 (by decide) ?_
    refine lv_istore_n (lv' := [(2, .int 0), (0, .ref w), (1, .int 4)]) hx hb dX5_readSum_11 rfl hl (by decide) rfl (fun ls hl => ?_)
    refine lp_m (α := Nat) (nL := 4) (fun a9 => 600 - a9) (fun a9 H9 l9 => (a9 ≤ 600) ∧ (WT B0 D cs T κ H9) ∧ (Fr B0 [10] κ H0 H9) ∧ (OkL B0 l9)) (fun a9 => [(2, .int (nI a9)), (0, .ref w), (1, .int 4)]) ?_ 0 _ _ _ ⟨(by show (0) ≤ 600; omega), hT, hF, hL⟩ (lv_sub hl [0, 1, 2] rfl)
    rintro k H locs ls ih1648 ⟨hk, hT, hF, hL⟩ hl
    have hl : lv_has ls 4 [(2, .int (nI k)), (0, .ref w), (1, .int 4)] := hl
    have hk : k ≤ 600 := hk
    refine lv_iload_n hx hb dX5_readSum_12 rfl (lv_at hl 0 rfl) ?_
    refine lv_sipush (v := 600) hx hb dX5_readSum_13 (by decide) ?_
    refine lv_icmp_ge (tgt := 79) hx hb dX5_readSum_16 (by decide) (fun c1649 => ?_) (fun c1649 => ?_)
    · have c1649 : 600 ≤ k := (nI_leI (a := 600) (b := k) (by omega) (by omega)).mp c1649
      refine lv_iconst (v := 1) hx hb dX5_readSum_79 (by decide) ?_
      exact en_i hx hb hr hlocks hL rfl (Nat.zero_le _) (Nat.zero_le _) dX5_readSum_80 (⟨hT, hF, Or.inr rfl⟩)
    · have c1649 : ¬ 600 ≤ k := fun h9 => c1649 ((nI_leI (a := 600) (b := k) (by omega) (by omega)).mpr h9)
      refine lv_aload_n hx hb dX5_readSum_19 rfl (lv_at hl 1 rfl) ?_
      refine lv_bipush (v := 43) hx hb dX5_readSum_20 (by decide) ?_
      refine cv_i (As := [.int 43]) (rest := []) (b := w) ⟨hx, hb, hml, hown, hts⟩ (c_X5_isMark hT (w := w) hw (x := 43)) (cwV 1 hts gX5_readSum_X5_isMark rfl rfl rfl hdX5_isMark_v ⟨Nat.le_of_ble_eq_true rfl, Nat.le_of_ble_eq_true rfl⟩) hN hE hL (rcv6 hN hT hw.1) rfl rfl hl.1 (Nat.le_of_ble_eq_true rfl) dX5_readSum_22 (Nat.zero_le _) (Nat.zero_le _) (fun r1650 H1 locs hL hqr1650 => ?_)
      obtain ⟨h9, hqr1650⟩ := hqr1650; replace h9 := h9.symm; subst h9
      rcases hqr1650 with rfl | rfl
      · refine lv_if_ne (tgt := 37) hx hb dX5_readSum_25 (by decide) (fun c9 => absurd (by decide) c9) (fun _ => ?_)
        refine lv_aload_n hx hb dX5_readSum_28 rfl (lv_at hl 1 rfl) ?_
        refine lv_bipush (v := 45) hx hb dX5_readSum_29 (by decide) ?_
        refine cv_i (As := [.int 45]) (rest := []) (b := w) ⟨hx, hb, hml, hown, hts⟩ (c_X5_isMark hT (w := w) hw (x := 45)) (cwV 1 hts gX5_readSum_X5_isMark rfl rfl rfl hdX5_isMark_v ⟨Nat.le_of_ble_eq_true rfl, Nat.le_of_ble_eq_true rfl⟩) hN hE hL (rcv6 hN hT hw.1) rfl rfl hl.1 (Nat.le_of_ble_eq_true rfl) dX5_readSum_31 (Nat.zero_le _) (Nat.zero_le _) (fun r1651 H1 locs hL hqr1651 => ?_)
        obtain ⟨h9, hqr1651⟩ := hqr1651; replace h9 := h9.symm; subst h9
        rcases hqr1651 with rfl | rfl
        · refine lv_if_eq (tgt := 79) hx hb dX5_readSum_34 (by decide) (fun _ => ?_) (fun c9 => absurd (by decide) c9)
          refine lv_iconst (v := 1) hx hb dX5_readSum_79 (by decide) ?_
          exact en_i hx hb hr hlocks hL rfl (Nat.zero_le _) (Nat.zero_le _) dX5_readSum_80 (⟨hT, hF, Or.inr rfl⟩)
        · refine lv_if_eq (tgt := 79) hx hb dX5_readSum_34 (by decide) (fun c9 => absurd c9 (by decide)) (fun _ => ?_)
          refine lv_aload_n hx hb dX5_readSum_37 rfl (lv_at hl 1 rfl) ?_
          refine lv_bipush (v := 43) hx hb dX5_readSum_38 (by decide) ?_
          refine cv_i (As := [.int 43]) (rest := []) (b := w) ⟨hx, hb, hml, hown, hts⟩ (c_X5_isMark hT (w := w) hw (x := 43)) (cwV 1 hts gX5_readSum_X5_isMark rfl rfl rfl hdX5_isMark_v ⟨Nat.le_of_ble_eq_true rfl, Nat.le_of_ble_eq_true rfl⟩) hN hE hL (rcv6 hN hT hw.1) rfl rfl hl.1 (Nat.le_of_ble_eq_true rfl) dX5_readSum_40 (Nat.zero_le _) (Nat.zero_le _) (fun r1652 H1 locs hL hqr1652 => ?_)
          obtain ⟨h9, hqr1652⟩ := hqr1652; replace h9 := h9.symm; subst h9
          rcases hqr1652 with rfl | rfl
          · refine lv_if_eq (tgt := 51) hx hb dX5_readSum_43 (by decide) (fun _ => ?_) (fun c9 => absurd (by decide) c9)
            refine lv_bipush (v := (-6)) hx hb dX5_readSum_51 (by decide) ?_
            refine lv_istore_n (lv' := [(3, .int (-6)), (2, .int (nI k)), (0, .ref w), (1, .int 4)]) hx hb dX5_readSum_53 rfl hl (by decide) rfl (fun ls hl => ?_)
            refine lv_aload_n hx hb dX5_readSum_54 rfl (lv_at hl 2 rfl) ?_
            refine cv_v (As := []) (rest := []) (b := w) ⟨hx, hb, hml, hown, hts⟩ (c_X5_step hT (w := w) hw) (cwV 0 hts gX5_readSum_X5_step rfl rfl rfl hdX5_step_v ⟨Nat.le_of_ble_eq_true rfl, Nat.le_of_ble_eq_true rfl⟩) hN hE hL (rcv6 hN hT hw.1) rfl rfl hl.1 (Nat.le_of_ble_eq_true rfl) dX5_readSum_55 (Nat.zero_le _) (Nat.zero_le _) (fun H1 locs hL hqr1653 => ?_)
            obtain ⟨hT1, hF1, hqr1653⟩ := hqr1653
            have hF := hF.tr (hF1.mono (by simp))
            have hT := hT1
            have f1654 := hqr1653
            refine lv_aload_n hx hb dX5_readSum_58 rfl (lv_at hl 2 rfl) ?_
            refine lv_iload_n hx hb dX5_readSum_59 rfl (lv_at hl 3 rfl) ?_
            refine cv_i (As := [.int 4]) (rest := []) (b := w) ⟨hx, hb, hml, hown, hts⟩ (c_X5_readTerm_d4 hT (w := w) hw) (cwV 1 hts gX5_readSum_X5_readTerm rfl rfl rfl hdX5_readTerm_v ⟨Nat.le_of_ble_eq_true rfl, Nat.le_of_ble_eq_true rfl⟩) hN hE hL (rcv6 hN hT hw.1) rfl rfl hl.1 (Nat.le_of_ble_eq_true rfl) dX5_readSum_60 (Nat.zero_le _) (Nat.zero_le _) (fun r1655 H1 locs hL hqr1655 => ?_)
            obtain ⟨hT1, hF1, hqr1655⟩ := hqr1655
            have hF := hF.tr (hF1.mono (by simp))
            have hT := hT1
            rcases hqr1655 with rfl | rfl
            · refine lv_if_ne (tgt := 68) hx hb dX5_readSum_63 (by decide) (fun c9 => absurd (by decide) c9) (fun _ => ?_)
              refine lv_iconst (v := 0) hx hb dX5_readSum_66 (by decide) ?_
              exact en_i hx hb hr hlocks hL rfl (Nat.zero_le _) (Nat.zero_le _) dX5_readSum_67 (⟨hT, hF, Or.inl rfl⟩)
            · refine lv_if_ne (tgt := 68) hx hb dX5_readSum_63 (by decide) (fun _ => ?_) (fun c9 => absurd c9 (by decide))
              refine lv_aload_n hx hb dX5_readSum_68 rfl (lv_at hl 2 rfl) ?_
              refine lv_iload_n hx hb dX5_readSum_69 rfl (lv_at hl 0 rfl) ?_
              refine cv_v (As := [.int (-6)]) (rest := []) (b := w) ⟨hx, hb, hml, hown, hts⟩ (c_X5_putCode hT (w := w) hw (x := (-6))) (cwV 1 hts gX5_readSum_X5_putCode rfl rfl rfl hdX5_putCode_v ⟨Nat.le_of_ble_eq_true rfl, Nat.le_of_ble_eq_true rfl⟩) hN hE hL (rcv6 hN hT hw.1) rfl rfl hl.1 (Nat.le_of_ble_eq_true rfl) dX5_readSum_70 (Nat.zero_le _) (Nat.zero_le _) (fun H1 locs hL hqr1656 => ?_)
              obtain ⟨hT1, hF1⟩ := hqr1656
              have hF := hF.tr (hF1.mono (by simp))
              have hT := hT1
              refine lv_iinc (v := (nI (k + 1))) (lv' := [(2, .int (nI (k + 1))), (3, .int (-6)), (0, .ref w), (1, .int 4)]) hx hb dX5_readSum_73 hl (k := 1) rfl (nI_add _ 1) (by decide) rfl (fun ls hl => ?_)
              refine lv_goto (tgt := 12) hx hb dX5_readSum_76 (by decide) ?_
              exact ih1648 (k + 1) _ _ _ (by show 600 - ((k + 1)) < 600 - k; omega) ⟨(by show ((k + 1)) ≤ 600; omega), hT, hF, hL⟩ (lv_sub hl [0, 2, 3] rfl)
          · refine lv_if_eq (tgt := 51) hx hb dX5_readSum_43 (by decide) (fun c9 => absurd c9 (by decide)) (fun _ => ?_)
            refine lv_bipush (v := (-5)) hx hb dX5_readSum_46 (by decide) ?_
            refine lv_goto (tgt := 53) hx hb dX5_readSum_48 (by decide) ?_
            refine lv_istore_n (lv' := [(3, .int (-5)), (2, .int (nI k)), (0, .ref w), (1, .int 4)]) hx hb dX5_readSum_53 rfl hl (by decide) rfl (fun ls hl => ?_)
            refine lv_aload_n hx hb dX5_readSum_54 rfl (lv_at hl 2 rfl) ?_
            refine cv_v (As := []) (rest := []) (b := w) ⟨hx, hb, hml, hown, hts⟩ (c_X5_step hT (w := w) hw) (cwV 0 hts gX5_readSum_X5_step rfl rfl rfl hdX5_step_v ⟨Nat.le_of_ble_eq_true rfl, Nat.le_of_ble_eq_true rfl⟩) hN hE hL (rcv6 hN hT hw.1) rfl rfl hl.1 (Nat.le_of_ble_eq_true rfl) dX5_readSum_55 (Nat.zero_le _) (Nat.zero_le _) (fun H1 locs hL hqr1657 => ?_)
            obtain ⟨hT1, hF1, hqr1657⟩ := hqr1657
            have hF := hF.tr (hF1.mono (by simp))
            have hT := hT1
            have f1658 := hqr1657
            refine lv_aload_n hx hb dX5_readSum_58 rfl (lv_at hl 2 rfl) ?_
            refine lv_iload_n hx hb dX5_readSum_59 rfl (lv_at hl 3 rfl) ?_
            refine cv_i (As := [.int 4]) (rest := []) (b := w) ⟨hx, hb, hml, hown, hts⟩ (c_X5_readTerm_d4 hT (w := w) hw) (cwV 1 hts gX5_readSum_X5_readTerm rfl rfl rfl hdX5_readTerm_v ⟨Nat.le_of_ble_eq_true rfl, Nat.le_of_ble_eq_true rfl⟩) hN hE hL (rcv6 hN hT hw.1) rfl rfl hl.1 (Nat.le_of_ble_eq_true rfl) dX5_readSum_60 (Nat.zero_le _) (Nat.zero_le _) (fun r1659 H1 locs hL hqr1659 => ?_)
            obtain ⟨hT1, hF1, hqr1659⟩ := hqr1659
            have hF := hF.tr (hF1.mono (by simp))
            have hT := hT1
            rcases hqr1659 with rfl | rfl
            · refine lv_if_ne (tgt := 68) hx hb dX5_readSum_63 (by decide) (fun c9 => absurd (by decide) c9) (fun _ => ?_)
              refine lv_iconst (v := 0) hx hb dX5_readSum_66 (by decide) ?_
              exact en_i hx hb hr hlocks hL rfl (Nat.zero_le _) (Nat.zero_le _) dX5_readSum_67 (⟨hT, hF, Or.inl rfl⟩)
            · refine lv_if_ne (tgt := 68) hx hb dX5_readSum_63 (by decide) (fun _ => ?_) (fun c9 => absurd c9 (by decide))
              refine lv_aload_n hx hb dX5_readSum_68 rfl (lv_at hl 2 rfl) ?_
              refine lv_iload_n hx hb dX5_readSum_69 rfl (lv_at hl 0 rfl) ?_
              refine cv_v (As := [.int (-5)]) (rest := []) (b := w) ⟨hx, hb, hml, hown, hts⟩ (c_X5_putCode hT (w := w) hw (x := (-5))) (cwV 1 hts gX5_readSum_X5_putCode rfl rfl rfl hdX5_putCode_v ⟨Nat.le_of_ble_eq_true rfl, Nat.le_of_ble_eq_true rfl⟩) hN hE hL (rcv6 hN hT hw.1) rfl rfl hl.1 (Nat.le_of_ble_eq_true rfl) dX5_readSum_70 (Nat.zero_le _) (Nat.zero_le _) (fun H1 locs hL hqr1660 => ?_)
              obtain ⟨hT1, hF1⟩ := hqr1660
              have hF := hF.tr (hF1.mono (by simp))
              have hT := hT1
              refine lv_iinc (v := (nI (k + 1))) (lv' := [(2, .int (nI (k + 1))), (3, .int (-5)), (0, .ref w), (1, .int 4)]) hx hb dX5_readSum_73 hl (k := 1) rfl (nI_add _ 1) (by decide) rfl (fun ls hl => ?_)
              refine lv_goto (tgt := 12) hx hb dX5_readSum_76 (by decide) ?_
              exact ih1648 (k + 1) _ _ _ (by show 600 - ((k + 1)) < 600 - k; omega) ⟨(by show ((k + 1)) ≤ 600; omega), hT, hF, hL⟩ (lv_sub hl [0, 2, 3] rfl)
      · refine lv_if_ne (tgt := 37) hx hb dX5_readSum_25 (by decide) (fun _ => ?_) (fun c9 => absurd c9 (by decide))
        refine lv_aload_n hx hb dX5_readSum_37 rfl (lv_at hl 1 rfl) ?_
        refine lv_bipush (v := 43) hx hb dX5_readSum_38 (by decide) ?_
        refine cv_i (As := [.int 43]) (rest := []) (b := w) ⟨hx, hb, hml, hown, hts⟩ (c_X5_isMark hT (w := w) hw (x := 43)) (cwV 1 hts gX5_readSum_X5_isMark rfl rfl rfl hdX5_isMark_v ⟨Nat.le_of_ble_eq_true rfl, Nat.le_of_ble_eq_true rfl⟩) hN hE hL (rcv6 hN hT hw.1) rfl rfl hl.1 (Nat.le_of_ble_eq_true rfl) dX5_readSum_40 (Nat.zero_le _) (Nat.zero_le _) (fun r1661 H1 locs hL hqr1661 => ?_)
        obtain ⟨h9, hqr1661⟩ := hqr1661; replace h9 := h9.symm; subst h9
        rcases hqr1661 with rfl | rfl
        · refine lv_if_eq (tgt := 51) hx hb dX5_readSum_43 (by decide) (fun _ => ?_) (fun c9 => absurd (by decide) c9)
          refine lv_bipush (v := (-6)) hx hb dX5_readSum_51 (by decide) ?_
          refine lv_istore_n (lv' := [(3, .int (-6)), (2, .int (nI k)), (0, .ref w), (1, .int 4)]) hx hb dX5_readSum_53 rfl hl (by decide) rfl (fun ls hl => ?_)
          refine lv_aload_n hx hb dX5_readSum_54 rfl (lv_at hl 2 rfl) ?_
          refine cv_v (As := []) (rest := []) (b := w) ⟨hx, hb, hml, hown, hts⟩ (c_X5_step hT (w := w) hw) (cwV 0 hts gX5_readSum_X5_step rfl rfl rfl hdX5_step_v ⟨Nat.le_of_ble_eq_true rfl, Nat.le_of_ble_eq_true rfl⟩) hN hE hL (rcv6 hN hT hw.1) rfl rfl hl.1 (Nat.le_of_ble_eq_true rfl) dX5_readSum_55 (Nat.zero_le _) (Nat.zero_le _) (fun H1 locs hL hqr1662 => ?_)
          obtain ⟨hT1, hF1, hqr1662⟩ := hqr1662
          have hF := hF.tr (hF1.mono (by simp))
          have hT := hT1
          have f1663 := hqr1662
          refine lv_aload_n hx hb dX5_readSum_58 rfl (lv_at hl 2 rfl) ?_
          refine lv_iload_n hx hb dX5_readSum_59 rfl (lv_at hl 3 rfl) ?_
          refine cv_i (As := [.int 4]) (rest := []) (b := w) ⟨hx, hb, hml, hown, hts⟩ (c_X5_readTerm_d4 hT (w := w) hw) (cwV 1 hts gX5_readSum_X5_readTerm rfl rfl rfl hdX5_readTerm_v ⟨Nat.le_of_ble_eq_true rfl, Nat.le_of_ble_eq_true rfl⟩) hN hE hL (rcv6 hN hT hw.1) rfl rfl hl.1 (Nat.le_of_ble_eq_true rfl) dX5_readSum_60 (Nat.zero_le _) (Nat.zero_le _) (fun r1664 H1 locs hL hqr1664 => ?_)
          obtain ⟨hT1, hF1, hqr1664⟩ := hqr1664
          have hF := hF.tr (hF1.mono (by simp))
          have hT := hT1
          rcases hqr1664 with rfl | rfl
          · refine lv_if_ne (tgt := 68) hx hb dX5_readSum_63 (by decide) (fun c9 => absurd (by decide) c9) (fun _ => ?_)
            refine lv_iconst (v := 0) hx hb dX5_readSum_66 (by decide) ?_
            exact en_i hx hb hr hlocks hL rfl (Nat.zero_le _) (Nat.zero_le _) dX5_readSum_67 (⟨hT, hF, Or.inl rfl⟩)
          · refine lv_if_ne (tgt := 68) hx hb dX5_readSum_63 (by decide) (fun _ => ?_) (fun c9 => absurd c9 (by decide))
            refine lv_aload_n hx hb dX5_readSum_68 rfl (lv_at hl 2 rfl) ?_
            refine lv_iload_n hx hb dX5_readSum_69 rfl (lv_at hl 0 rfl) ?_
            refine cv_v (As := [.int (-6)]) (rest := []) (b := w) ⟨hx, hb, hml, hown, hts⟩ (c_X5_putCode hT (w := w) hw (x := (-6))) (cwV 1 hts gX5_readSum_X5_putCode rfl rfl rfl hdX5_putCode_v ⟨Nat.le_of_ble_eq_true rfl, Nat.le_of_ble_eq_true rfl⟩) hN hE hL (rcv6 hN hT hw.1) rfl rfl hl.1 (Nat.le_of_ble_eq_true rfl) dX5_readSum_70 (Nat.zero_le _) (Nat.zero_le _) (fun H1 locs hL hqr1665 => ?_)
            obtain ⟨hT1, hF1⟩ := hqr1665
            have hF := hF.tr (hF1.mono (by simp))
            have hT := hT1
            refine lv_iinc (v := (nI (k + 1))) (lv' := [(2, .int (nI (k + 1))), (3, .int (-6)), (0, .ref w), (1, .int 4)]) hx hb dX5_readSum_73 hl (k := 1) rfl (nI_add _ 1) (by decide) rfl (fun ls hl => ?_)
            refine lv_goto (tgt := 12) hx hb dX5_readSum_76 (by decide) ?_
            exact ih1648 (k + 1) _ _ _ (by show 600 - ((k + 1)) < 600 - k; omega) ⟨(by show ((k + 1)) ≤ 600; omega), hT, hF, hL⟩ (lv_sub hl [0, 2, 3] rfl)
        · refine lv_if_eq (tgt := 51) hx hb dX5_readSum_43 (by decide) (fun c9 => absurd c9 (by decide)) (fun _ => ?_)
          refine lv_bipush (v := (-5)) hx hb dX5_readSum_46 (by decide) ?_
          refine lv_goto (tgt := 53) hx hb dX5_readSum_48 (by decide) ?_
          refine lv_istore_n (lv' := [(3, .int (-5)), (2, .int (nI k)), (0, .ref w), (1, .int 4)]) hx hb dX5_readSum_53 rfl hl (by decide) rfl (fun ls hl => ?_)
          refine lv_aload_n hx hb dX5_readSum_54 rfl (lv_at hl 2 rfl) ?_
          refine cv_v (As := []) (rest := []) (b := w) ⟨hx, hb, hml, hown, hts⟩ (c_X5_step hT (w := w) hw) (cwV 0 hts gX5_readSum_X5_step rfl rfl rfl hdX5_step_v ⟨Nat.le_of_ble_eq_true rfl, Nat.le_of_ble_eq_true rfl⟩) hN hE hL (rcv6 hN hT hw.1) rfl rfl hl.1 (Nat.le_of_ble_eq_true rfl) dX5_readSum_55 (Nat.zero_le _) (Nat.zero_le _) (fun H1 locs hL hqr1666 => ?_)
          obtain ⟨hT1, hF1, hqr1666⟩ := hqr1666
          have hF := hF.tr (hF1.mono (by simp))
          have hT := hT1
          have f1667 := hqr1666
          refine lv_aload_n hx hb dX5_readSum_58 rfl (lv_at hl 2 rfl) ?_
          refine lv_iload_n hx hb dX5_readSum_59 rfl (lv_at hl 3 rfl) ?_
          refine cv_i (As := [.int 4]) (rest := []) (b := w) ⟨hx, hb, hml, hown, hts⟩ (c_X5_readTerm_d4 hT (w := w) hw) (cwV 1 hts gX5_readSum_X5_readTerm rfl rfl rfl hdX5_readTerm_v ⟨Nat.le_of_ble_eq_true rfl, Nat.le_of_ble_eq_true rfl⟩) hN hE hL (rcv6 hN hT hw.1) rfl rfl hl.1 (Nat.le_of_ble_eq_true rfl) dX5_readSum_60 (Nat.zero_le _) (Nat.zero_le _) (fun r1668 H1 locs hL hqr1668 => ?_)
          obtain ⟨hT1, hF1, hqr1668⟩ := hqr1668
          have hF := hF.tr (hF1.mono (by simp))
          have hT := hT1
          rcases hqr1668 with rfl | rfl
          · refine lv_if_ne (tgt := 68) hx hb dX5_readSum_63 (by decide) (fun c9 => absurd (by decide) c9) (fun _ => ?_)
            refine lv_iconst (v := 0) hx hb dX5_readSum_66 (by decide) ?_
            exact en_i hx hb hr hlocks hL rfl (Nat.zero_le _) (Nat.zero_le _) dX5_readSum_67 (⟨hT, hF, Or.inl rfl⟩)
          · refine lv_if_ne (tgt := 68) hx hb dX5_readSum_63 (by decide) (fun _ => ?_) (fun c9 => absurd c9 (by decide))
            refine lv_aload_n hx hb dX5_readSum_68 rfl (lv_at hl 2 rfl) ?_
            refine lv_iload_n hx hb dX5_readSum_69 rfl (lv_at hl 0 rfl) ?_
            refine cv_v (As := [.int (-5)]) (rest := []) (b := w) ⟨hx, hb, hml, hown, hts⟩ (c_X5_putCode hT (w := w) hw (x := (-5))) (cwV 1 hts gX5_readSum_X5_putCode rfl rfl rfl hdX5_putCode_v ⟨Nat.le_of_ble_eq_true rfl, Nat.le_of_ble_eq_true rfl⟩) hN hE hL (rcv6 hN hT hw.1) rfl rfl hl.1 (Nat.le_of_ble_eq_true rfl) dX5_readSum_70 (Nat.zero_le _) (Nat.zero_le _) (fun H1 locs hL hqr1669 => ?_)
            obtain ⟨hT1, hF1⟩ := hqr1669
            have hF := hF.tr (hF1.mono (by simp))
            have hT := hT1
            refine lv_iinc (v := (nI (k + 1))) (lv' := [(2, .int (nI (k + 1))), (3, .int (-5)), (0, .ref w), (1, .int 4)]) hx hb dX5_readSum_73 hl (k := 1) rfl (nI_add _ 1) (by decide) rfl (fun ls hl => ?_)
            refine lv_goto (tgt := 12) hx hb dX5_readSum_76 (by decide) ?_
            exact ih1648 (k + 1) _ _ _ (by show 600 - ((k + 1)) < 600 - k; omega) ⟨(by show ((k + 1)) ≤ 600; omega), hT, hF, hL⟩ (lv_sub hl [0, 2, 3] rfl)
theorem hdX5_readSum_v : yX5_readSum.cls = RX5 ∧ yX5_readSum.cls ≠ "java/lang/invoke/MethodHandle" ∧ yX5_readSum.cls ≠ "java/lang/invoke/VarHandle" ∧ (parseMethodDescriptor yX5_readSum.desc).map (fun d => d.parameters.length) = some 1 := by decide +kernel
theorem hdX5_takeMark_v : yX5_takeMark.cls = RX5 ∧ yX5_takeMark.cls ≠ "java/lang/invoke/MethodHandle" ∧ yX5_takeMark.cls ≠ "java/lang/invoke/VarHandle" ∧ (parseMethodDescriptor yX5_takeMark.desc).map (fun d => d.parameters.length) = some 1 := by decide +kernel
set_option maxHeartbeats 4000000 in
set_option maxRecDepth 100000 in
theorem c_X5_readFactor_d3 {l : Launch} {D : va_G} {cs : Nat → ClassId} {B0 T : Nat} {κ : KM} {H0 : Heap} (hT : WT B0 D cs T κ H0) {w : Nat} (hw : T2 κ w 6 10) : KC l yX5_readFactor wsX5_readFactor 9 195 0 0 D cs B0 H0 [.ref w, .int 3] (Qi (fun r H => WT B0 D cs T κ H ∧ Fr B0 [10] κ H0 H ∧ (r = 0 ∨ r = 1))) := by
  refine KC.of cX5_readFactor 3 (some .boolean) (by decide) rfl (Nat.le_of_ble_eq_true rfl) ?_
  intro p e s m below meth c ls hx hb hr hml hown hts hlocks hin hN hE hH0 hl
  have hown : s.vm.findClass RX5 = some m.cls := hown
  have hl : lv_has ls 3 [(0, .ref w), (1, .int 3)] := hl
  have hL : OkL B0 [] := OkL.nil
  have hF : Fr B0 [10] κ H0 H0 := Fr.rf
  refine lv_aload_n hx hb dX5_readFactor_0 rfl (lv_at hl 0 rfl) ?_
  obtain ⟨hb1670, e1670, hat1670, hk1670⟩ := hT.o6 hw.1
  obtain ⟨f1670_0, f1670_2, f1670_3, f1670_4, f1670_5, f1670_6, f1670_7, f1670_8, f1670_9, f1670_10, f1670_11, f1670_12, f1670_13, rfl, c1670_1, c1670_2, c1670_3, c1670_5, c1670_10, t1670_0, t1670_9, c1670_11, c1670_p2⟩ := hk1670
  have hP : va_P D vwCl [(w, .inr (5, [.ref f1670_0, .int (nI ((κ w).2.2.1)), .int (nI f1670_2), .int (nI f1670_3), .int f1670_4, .int (nI f1670_5), .int f1670_6, .int f1670_7, .int f1670_8, .ref f1670_9, .int (nI f1670_10), f1670_11, .int f1670_12, .int f1670_13]))] _ := va_P.cons hat1670 va_P.nil
  refine va_get (D := D) (ci := 5) (v := .int f1670_4) (C := RX5) (T := TX5) (N := 14) hx hb hts iX5_readFactor_5 hown hN.1 hP 0 rfl rfl 4 (by decide) (hts _ mX5_readFactor_1) (fun _ h9 => h9) rfl dX5_readFactor_1 ?_
  refine lv_iconst (v := 1) hx hb dX5_readFactor_4 (by decide) ?_
  refine lv_icmp_ne (tgt := 31) hx hb dX5_readFactor_5 (by decide) (fun c1671 => ?_) (fun c1671 => ?_)
  · refine lv_aload_n hx hb dX5_readFactor_31 rfl (lv_at hl 0 rfl) ?_
    refine lv_bipush (v := 40) hx hb dX5_readFactor_32 (by decide) ?_
    refine cv_i (As := [.int 40]) (rest := []) (b := w) ⟨hx, hb, hml, hown, hts⟩ (c_X5_isMark hT (w := w) hw (x := 40)) (cwV 1 hts gX5_readFactor_X5_isMark rfl rfl rfl hdX5_isMark_v ⟨Nat.le_of_ble_eq_true rfl, Nat.le_of_ble_eq_true rfl⟩) hN hE hL (rcv6 hN hT hw.1) rfl rfl hl.1 (Nat.le_of_ble_eq_true rfl) dX5_readFactor_34 (Nat.zero_le _) (Nat.zero_le _) (fun r1672 H1 locs hL hqr1672 => ?_)
    obtain ⟨h9, hqr1672⟩ := hqr1672; replace h9 := h9.symm; subst h9
    rcases hqr1672 with rfl | rfl
    · refine lv_if_eq (tgt := 85) hx hb dX5_readFactor_37 (by decide) (fun _ => ?_) (fun c9 => absurd (by decide) c9)
      refine lv_aload_n hx hb dX5_readFactor_85 rfl (lv_at hl 0 rfl) ?_
      refine cv_i (As := []) (rest := []) (b := w) ⟨hx, hb, hml, hown, hts⟩ (c_X5_codeOfWord hT (w := w) hw) (cwV 0 hts gX5_readFactor_X5_codeOfWord rfl rfl rfl hdX5_codeOfWord_v ⟨Nat.le_of_ble_eq_true rfl, Nat.le_of_ble_eq_true rfl⟩) hN hE hL (rcv6 hN hT hw.1) rfl rfl hl.1 (Nat.le_of_ble_eq_true rfl) dX5_readFactor_86 (Nat.zero_le _) (Nat.zero_le _) (fun r1673 H1 locs hL hqr1673 => ?_)
      obtain rfl := hqr1673.symm
      refine lv_istore_n (lv' := [(2, .int r1673), (0, .ref w), (1, .int 3)]) hx hb dX5_readFactor_89 rfl hl (by decide) rfl (fun ls hl => ?_)
      refine lv_iload_n hx hb dX5_readFactor_90 rfl (lv_at hl 0 rfl) ?_
      refine lv_if_ne (tgt := 105) hx hb dX5_readFactor_91 (by decide) (fun c1674 => ?_) (fun c1674 => ?_)
      · refine lv_aload_n hx hb dX5_readFactor_105 rfl (lv_at hl 1 rfl) ?_
        refine lv_iload_n hx hb dX5_readFactor_106 rfl (lv_at hl 0 rfl) ?_
        refine cv_v (As := [.int r1673]) (rest := []) (b := w) ⟨hx, hb, hml, hown, hts⟩ (c_X5_putCode hT (w := w) hw (x := r1673)) (cwV 1 hts gX5_readFactor_X5_putCode rfl rfl rfl hdX5_putCode_v ⟨Nat.le_of_ble_eq_true rfl, Nat.le_of_ble_eq_true rfl⟩) hN hE hL (rcv6 hN hT hw.1) rfl rfl hl.1 (Nat.le_of_ble_eq_true rfl) dX5_readFactor_107 (Nat.zero_le _) (Nat.zero_le _) (fun H1 locs hL hqr1675 => ?_)
        obtain ⟨hT1, hF1⟩ := hqr1675
        have hF := hF.tr (hF1.mono (by simp))
        have hT := hT1
        refine lv_aload_n hx hb dX5_readFactor_110 rfl (lv_at hl 1 rfl) ?_
        refine cv_v (As := []) (rest := []) (b := w) ⟨hx, hb, hml, hown, hts⟩ (c_X5_step hT (w := w) hw) (cwV 0 hts gX5_readFactor_X5_step rfl rfl rfl hdX5_step_v ⟨Nat.le_of_ble_eq_true rfl, Nat.le_of_ble_eq_true rfl⟩) hN hE hL (rcv6 hN hT hw.1) rfl rfl hl.1 (Nat.le_of_ble_eq_true rfl) dX5_readFactor_111 (Nat.zero_le _) (Nat.zero_le _) (fun H1 locs hL hqr1676 => ?_)
        obtain ⟨hT1, hF1, hqr1676⟩ := hqr1676
        have hF := hF.tr (hF1.mono (by simp))
        have hT := hT1
        have f1677 := hqr1676
        refine lv_iconst (v := 1) hx hb dX5_readFactor_114 (by decide) ?_
        exact en_i hx hb hr hlocks hL rfl (Nat.zero_le _) (Nat.zero_le _) dX5_readFactor_115 (⟨hT, hF, Or.inr rfl⟩)
      · refine lv_aload_n hx hb dX5_readFactor_94 rfl (lv_at hl 1 rfl) ?_
        refine lv_bipush (v := (-2)) hx hb dX5_readFactor_95 (by decide) ?_
        refine lv_aload_n hx hb dX5_readFactor_97 rfl (lv_at hl 1 rfl) ?_
        refine va_get (D := D) (ci := 5) (v := .int (nI f1670_5)) (C := RX5) (T := TX5) (N := 14) hx hb hts iX5_readFactor_5 hown hN.1 hP 0 rfl rfl 5 (by decide) (hts _ mX5_readFactor_3) (fun _ h9 => h9) rfl dX5_readFactor_98 ?_
        refine cv_i (As := [.int (-2), .int (nI f1670_5)]) (rest := []) (b := w) ⟨hx, hb, hml, hown, hts⟩ (c_X5_fail hT (w := w) hw (x := (-2)) (y := (nI f1670_5))) (cwV 2 hts gX5_readFactor_X5_fail rfl rfl rfl hdX5_fail_v ⟨Nat.le_of_ble_eq_true rfl, Nat.le_of_ble_eq_true rfl⟩) hN hE hL (rcv6 hN hT hw.1) rfl rfl hl.1 (Nat.le_of_ble_eq_true rfl) dX5_readFactor_101 (Nat.zero_le _) (Nat.zero_le _) (fun r1678 H1 locs hL hqr1678 => ?_)
        obtain ⟨hT1, hF1, hqr1678⟩ := hqr1678
        have hF := hF.tr (hF1.mono (by simp))
        have hT := hT1
        obtain rfl := hqr1678
        exact en_i hx hb hr hlocks hL rfl (Nat.zero_le _) (Nat.zero_le _) dX5_readFactor_104 (⟨hT, hF, Or.inl rfl⟩)
    · refine lv_if_eq (tgt := 85) hx hb dX5_readFactor_37 (by decide) (fun c9 => absurd c9 (by decide)) (fun _ => ?_)
      refine lv_iload_n hx hb dX5_readFactor_40 rfl (lv_at hl 1 rfl) ?_
      refine lv_iconst (v := 4) hx hb dX5_readFactor_41 (by decide) ?_
      refine lv_icmp_lt (tgt := 56) hx hb dX5_readFactor_42 (by decide) (fun _ => ?_) (fun c9 => absurd (by decide) c9)
      refine lv_aload_n hx hb dX5_readFactor_56 rfl (lv_at hl 0 rfl) ?_
      refine cv_v (As := []) (rest := []) (b := w) ⟨hx, hb, hml, hown, hts⟩ (c_X5_step hT (w := w) hw) (cwV 0 hts gX5_readFactor_X5_step rfl rfl rfl hdX5_step_v ⟨Nat.le_of_ble_eq_true rfl, Nat.le_of_ble_eq_true rfl⟩) hN hE hL (rcv6 hN hT hw.1) rfl rfl hl.1 (Nat.le_of_ble_eq_true rfl) dX5_readFactor_57 (Nat.zero_le _) (Nat.zero_le _) (fun H1 locs hL hqr1679 => ?_)
      obtain ⟨hT1, hF1, hqr1679⟩ := hqr1679
      have hF := hF.tr (hF1.mono (by simp))
      have hT := hT1
      have f1680 := hqr1679
      refine lv_aload_n hx hb dX5_readFactor_60 rfl (lv_at hl 0 rfl) ?_
      refine lv_iload_n hx hb dX5_readFactor_61 rfl (lv_at hl 1 rfl) ?_
      refine lv_iconst (v := 1) hx hb dX5_readFactor_62 (by decide) ?_
      refine lv_iadd hx hb dX5_readFactor_63 ?_
      refine tp_i 4 (by decide) ?_
      refine cv_i (As := [.int 4]) (rest := []) (b := w) ⟨hx, hb, hml, hown, hts⟩ (c_X5_readSum_d4 hT (w := w) hw) (cwV 1 hts gX5_readFactor_X5_readSum rfl rfl rfl hdX5_readSum_v ⟨Nat.le_of_ble_eq_true rfl, Nat.le_of_ble_eq_true rfl⟩) hN hE hL (rcv6 hN hT hw.1) rfl rfl hl.1 (Nat.le_of_ble_eq_true rfl) dX5_readFactor_64 (Nat.zero_le _) (Nat.zero_le _) (fun r1681 H1 locs hL hqr1681 => ?_)
      obtain ⟨hT1, hF1, hqr1681⟩ := hqr1681
      have hF := hF.tr (hF1.mono (by simp))
      have hT := hT1
      rcases hqr1681 with rfl | rfl
      · refine lv_if_eq (tgt := 83) hx hb dX5_readFactor_67 (by decide) (fun _ => ?_) (fun c9 => absurd (by decide) c9)
        refine lv_iconst (v := 0) hx hb dX5_readFactor_83 (by decide) ?_
        exact en_i hx hb hr hlocks hL rfl (Nat.zero_le _) (Nat.zero_le _) dX5_readFactor_84 (⟨hT, hF, Or.inl rfl⟩)
      · refine lv_if_eq (tgt := 83) hx hb dX5_readFactor_67 (by decide) (fun c9 => absurd c9 (by decide)) (fun _ => ?_)
        refine lv_aload_n hx hb dX5_readFactor_70 rfl (lv_at hl 0 rfl) ?_
        refine lv_bipush (v := 41) hx hb dX5_readFactor_71 (by decide) ?_
        refine cv_i (As := [.int 41]) (rest := []) (b := w) ⟨hx, hb, hml, hown, hts⟩ (c_X5_takeMark hT (w := w) hw (x := 41)) (cwV 1 hts gX5_readFactor_X5_takeMark rfl rfl rfl hdX5_takeMark_v ⟨Nat.le_of_ble_eq_true rfl, Nat.le_of_ble_eq_true rfl⟩) hN hE hL (rcv6 hN hT hw.1) rfl rfl hl.1 (Nat.le_of_ble_eq_true rfl) dX5_readFactor_73 (Nat.zero_le _) (Nat.zero_le _) (fun r1682 H1 locs hL hqr1682 => ?_)
        obtain ⟨hT1, hF1, hqr1682⟩ := hqr1682
        have hF := hF.tr (hF1.mono (by simp))
        have hT := hT1
        rcases hqr1682 with rfl | rfl
        · refine lv_if_eq (tgt := 83) hx hb dX5_readFactor_76 (by decide) (fun _ => ?_) (fun c9 => absurd (by decide) c9)
          refine lv_iconst (v := 0) hx hb dX5_readFactor_83 (by decide) ?_
          exact en_i hx hb hr hlocks hL rfl (Nat.zero_le _) (Nat.zero_le _) dX5_readFactor_84 (⟨hT, hF, Or.inl rfl⟩)
        · refine lv_if_eq (tgt := 83) hx hb dX5_readFactor_76 (by decide) (fun c9 => absurd c9 (by decide)) (fun _ => ?_)
          refine lv_iconst (v := 1) hx hb dX5_readFactor_79 (by decide) ?_
          refine lv_goto (tgt := 84) hx hb dX5_readFactor_80 (by decide) ?_
          exact en_i hx hb hr hlocks hL rfl (Nat.zero_le _) (Nat.zero_le _) dX5_readFactor_84 (⟨hT, hF, Or.inr rfl⟩)
  · refine lv_aload_n hx hb dX5_readFactor_8 rfl (lv_at hl 0 rfl) ?_
    refine lv_iconst (v := 0) hx hb dX5_readFactor_9 (by decide) ?_
    refine lv_sipush (v := 9999) hx hb dX5_readFactor_10 (by decide) ?_
    refine cv_i (As := [.int 0, .int 9999]) (rest := []) (b := w) ⟨hx, hb, hml, hown, hts⟩ (c_X5_takeNumber hT (w := w) hw (x := 0) (y := 9999)) (cwV 2 hts gX5_readFactor_X5_takeNumber rfl rfl rfl hdX5_takeNumber_v ⟨Nat.le_of_ble_eq_true rfl, Nat.le_of_ble_eq_true rfl⟩) hN hE hL (rcv6 hN hT hw.1) rfl rfl hl.1 (Nat.le_of_ble_eq_true rfl) dX5_readFactor_13 (Nat.zero_le _) (Nat.zero_le _) (fun r1683 H1 locs hL hqr1683 => ?_)
    obtain ⟨hT1, hF1, hqr1683⟩ := hqr1683
    have hF := hF.tr (hF1.mono (by simp))
    have hT := hT1
    rcases hqr1683 with rfl | ⟨rfl, v1684, l1685, g1686, f1687⟩
    · refine lv_if_ne (tgt := 21) hx hb dX5_readFactor_16 (by decide) (fun c9 => absurd (by decide) c9) (fun _ => ?_)
      refine lv_iconst (v := 0) hx hb dX5_readFactor_19 (by decide) ?_
      exact en_i hx hb hr hlocks hL rfl (Nat.zero_le _) (Nat.zero_le _) dX5_readFactor_20 (⟨hT, hF, Or.inl rfl⟩)
    · obtain ⟨n1688, hn1688a, hn1688b, rfl⟩ := rng (x := v1684) (lo := 0) (hi := 9999) (by decide) (by decide) l1685 g1686
      refine lv_if_ne (tgt := 21) hx hb dX5_readFactor_16 (by decide) (fun _ => ?_) (fun c9 => absurd c9 (by decide))
      refine lv_aload_n hx hb dX5_readFactor_21 rfl (lv_at hl 0 rfl) ?_
      refine lv_aload_n hx hb dX5_readFactor_22 rfl (lv_at hl 0 rfl) ?_
      obtain ⟨hb1689, e1689, hat1689, hk1689⟩ := hT.o6 hw.1
      obtain ⟨f1689_0, f1689_2, f1689_3, f1689_4, f1689_5, f1689_6, f1689_7, f1689_8, f1689_9, f1689_10, f1689_11, f1689_12, f1689_13, rfl, c1689_1, c1689_2, c1689_3, c1689_5, c1689_10, t1689_0, t1689_9, c1689_11, c1689_p2⟩ := hk1689
      obtain rfl : f1689_7 = nI n1688 := Value.int.inj (f1687.eq hat1689 rfl (by decide) rfl)
      have hP : va_P D vwCl [(w, .inr (5, [.ref f1689_0, .int (nI ((κ w).2.2.1)), .int (nI f1689_2), .int (nI f1689_3), .int f1689_4, .int (nI f1689_5), .int f1689_6, .int (nI n1688), .int f1689_8, .ref f1689_9, .int (nI f1689_10), f1689_11, .int f1689_12, .int f1689_13]))] _ := va_P.cons hat1689 va_P.nil
      refine va_get (D := D) (ci := 5) (v := .int (nI n1688)) (C := RX5) (T := TX5) (N := 14) hx hb hts iX5_readFactor_5 hown hN.1 hP 0 rfl rfl 7 (by decide) (hts _ mX5_readFactor_2) (fun _ h9 => h9) rfl dX5_readFactor_23 ?_
      refine cv_v (As := [.int (nI n1688)]) (rest := []) (b := w) ⟨hx, hb, hml, hown, hts⟩ (c_X5_putCode hT (w := w) hw (x := (nI n1688))) (cwV 1 hts gX5_readFactor_X5_putCode rfl rfl rfl hdX5_putCode_v ⟨Nat.le_of_ble_eq_true rfl, Nat.le_of_ble_eq_true rfl⟩) hN hE hL (rcv6 hN hT hw.1) rfl rfl hl.1 (Nat.le_of_ble_eq_true rfl) dX5_readFactor_26 (Nat.zero_le _) (Nat.zero_le _) (fun H1 locs hL hqr1690 => ?_)
      obtain ⟨hT1, hF1⟩ := hqr1690
      have hF := hF.tr (hF1.mono (by simp))
      have hT := hT1
      refine lv_iconst (v := 1) hx hb dX5_readFactor_29 (by decide) ?_
      exact en_i hx hb hr hlocks hL rfl (Nat.zero_le _) (Nat.zero_le _) dX5_readFactor_30 (⟨hT, hF, Or.inr rfl⟩)
set_option maxHeartbeats 4000000 in
set_option maxRecDepth 100000 in
theorem c_X5_readTerm_d3 {l : Launch} {D : va_G} {cs : Nat → ClassId} {B0 T : Nat} {κ : KM} {H0 : Heap} (hT : WT B0 D cs T κ H0) {w : Nat} (hw : T2 κ w 6 10) : KC l yX5_readTerm wsX5_readTerm 10 217 0 0 D cs B0 H0 [.ref w, .int 3] (Qi (fun r H => WT B0 D cs T κ H ∧ Fr B0 [10] κ H0 H ∧ (r = 0 ∨ r = 1))) := by
  refine KC.of cX5_readTerm 4 (some .boolean) (by decide) rfl (Nat.le_of_ble_eq_true rfl) ?_
  intro p e s m below meth c ls hx hb hr hml hown hts hlocks hin hN hE hH0 hl
  have hown : s.vm.findClass RX5 = some m.cls := hown
  have hl : lv_has ls 4 [(0, .ref w), (1, .int 3)] := hl
  have hL : OkL B0 [] := OkL.nil
  have hF : Fr B0 [10] κ H0 H0 := Fr.rf
  refine lv_aload_n hx hb dX5_readTerm_0 rfl (lv_at hl 0 rfl) ?_
  refine lv_iload_n hx hb dX5_readTerm_1 rfl (lv_at hl 1 rfl) ?_
  refine cv_i (As := [.int 3]) (rest := []) (b := w) ⟨hx, hb, hml, hown, hts⟩ (c_X5_readFactor_d3 hT (w := w) hw) (cwV 1 hts gX5_readTerm_X5_readFactor rfl rfl rfl hdX5_readFactor_v ⟨Nat.le_of_ble_eq_true rfl, Nat.le_of_ble_eq_true rfl⟩) hN hE hL (rcv6 hN hT hw.1) rfl rfl hl.1 (Nat.le_of_ble_eq_true rfl) dX5_readTerm_2 (Nat.zero_le _) (Nat.zero_le _) (fun r1691 H1 locs hL hqr1691 => ?_)
  obtain ⟨hT1, hF1, hqr1691⟩ := hqr1691
  have hF := hF.tr (hF1.mono (by simp))
  have hT := hT1
  rcases hqr1691 with rfl | rfl
  · refine lv_if_ne (tgt := 10) hx hb dX5_readTerm_5 (by decide) (fun c9 => absurd (by decide) c9) (fun _ => ?_)
    refine lv_iconst (v := 0) hx hb dX5_readTerm_8 (by decide) ?_
    exact en_i hx hb hr hlocks hL rfl (Nat.zero_le _) (Nat.zero_le _) dX5_readTerm_9 (⟨hT, hF, Or.inl rfl⟩)
  · refine lv_if_ne (tgt := 10) hx hb dX5_readTerm_5 (by decide) (fun _ => ?_) (fun c9 => absurd c9 (by decide))
    refine lv_iconst (v := 0) hx hb dX5_readTerm_10 (by decide) ?_
    refine lv_istore_n (lv' := [(2, .int 0), (0, .ref w), (1, .int 3)]) hx hb dX5_readTerm_11 rfl hl (by decide) rfl (fun ls hl => ?_)
    refine lp_m (α := Nat) (nL := 4) (fun a9 => 600 - a9) (fun a9 H9 l9 => (a9 ≤ 600) ∧ (WT B0 D cs T κ H9) ∧ (Fr B0 [10] κ H0 H9) ∧ (OkL B0 l9)) (fun a9 => [(2, .int (nI a9)), (0, .ref w), (1, .int 3)]) ?_ 0 _ _ _ ⟨(by show (0) ≤ 600; omega), hT, hF, hL⟩ (lv_sub hl [0, 1, 2] rfl)
    rintro k H locs ls ih1692 ⟨hk, hT, hF, hL⟩ hl
    have hl : lv_has ls 4 [(2, .int (nI k)), (0, .ref w), (1, .int 3)] := hl
    have hk : k ≤ 600 := hk
    refine lv_iload_n hx hb dX5_readTerm_12 rfl (lv_at hl 0 rfl) ?_
    refine lv_sipush (v := 600) hx hb dX5_readTerm_13 (by decide) ?_
    refine lv_icmp_ge (tgt := 79) hx hb dX5_readTerm_16 (by decide) (fun c1693 => ?_) (fun c1693 => ?_)
    · have c1693 : 600 ≤ k := (nI_leI (a := 600) (b := k) (by omega) (by omega)).mp c1693
      refine lv_iconst (v := 1) hx hb dX5_readTerm_79 (by decide) ?_
      exact en_i hx hb hr hlocks hL rfl (Nat.zero_le _) (Nat.zero_le _) dX5_readTerm_80 (⟨hT, hF, Or.inr rfl⟩)
    · have c1693 : ¬ 600 ≤ k := fun h9 => c1693 ((nI_leI (a := 600) (b := k) (by omega) (by omega)).mpr h9)
      refine lv_aload_n hx hb dX5_readTerm_19 rfl (lv_at hl 1 rfl) ?_
      refine lv_bipush (v := 42) hx hb dX5_readTerm_20 (by decide) ?_
      refine cv_i (As := [.int 42]) (rest := []) (b := w) ⟨hx, hb, hml, hown, hts⟩ (c_X5_isMark hT (w := w) hw (x := 42)) (cwV 1 hts gX5_readTerm_X5_isMark rfl rfl rfl hdX5_isMark_v ⟨Nat.le_of_ble_eq_true rfl, Nat.le_of_ble_eq_true rfl⟩) hN hE hL (rcv6 hN hT hw.1) rfl rfl hl.1 (Nat.le_of_ble_eq_true rfl) dX5_readTerm_22 (Nat.zero_le _) (Nat.zero_le _) (fun r1694 H1 locs hL hqr1694 => ?_)
      obtain ⟨h9, hqr1694⟩ := hqr1694; replace h9 := h9.symm; subst h9
      rcases hqr1694 with rfl | rfl
      · refine lv_if_ne (tgt := 37) hx hb dX5_readTerm_25 (by decide) (fun c9 => absurd (by decide) c9) (fun _ => ?_)
        refine lv_aload_n hx hb dX5_readTerm_28 rfl (lv_at hl 1 rfl) ?_
        refine lv_bipush (v := 47) hx hb dX5_readTerm_29 (by decide) ?_
        refine cv_i (As := [.int 47]) (rest := []) (b := w) ⟨hx, hb, hml, hown, hts⟩ (c_X5_isMark hT (w := w) hw (x := 47)) (cwV 1 hts gX5_readTerm_X5_isMark rfl rfl rfl hdX5_isMark_v ⟨Nat.le_of_ble_eq_true rfl, Nat.le_of_ble_eq_true rfl⟩) hN hE hL (rcv6 hN hT hw.1) rfl rfl hl.1 (Nat.le_of_ble_eq_true rfl) dX5_readTerm_31 (Nat.zero_le _) (Nat.zero_le _) (fun r1695 H1 locs hL hqr1695 => ?_)
        obtain ⟨h9, hqr1695⟩ := hqr1695; replace h9 := h9.symm; subst h9
        rcases hqr1695 with rfl | rfl
        · refine lv_if_eq (tgt := 79) hx hb dX5_readTerm_34 (by decide) (fun _ => ?_) (fun c9 => absurd (by decide) c9)
          refine lv_iconst (v := 1) hx hb dX5_readTerm_79 (by decide) ?_
          exact en_i hx hb hr hlocks hL rfl (Nat.zero_le _) (Nat.zero_le _) dX5_readTerm_80 (⟨hT, hF, Or.inr rfl⟩)
        · refine lv_if_eq (tgt := 79) hx hb dX5_readTerm_34 (by decide) (fun c9 => absurd c9 (by decide)) (fun _ => ?_)
          refine lv_aload_n hx hb dX5_readTerm_37 rfl (lv_at hl 1 rfl) ?_
          refine lv_bipush (v := 42) hx hb dX5_readTerm_38 (by decide) ?_
          refine cv_i (As := [.int 42]) (rest := []) (b := w) ⟨hx, hb, hml, hown, hts⟩ (c_X5_isMark hT (w := w) hw (x := 42)) (cwV 1 hts gX5_readTerm_X5_isMark rfl rfl rfl hdX5_isMark_v ⟨Nat.le_of_ble_eq_true rfl, Nat.le_of_ble_eq_true rfl⟩) hN hE hL (rcv6 hN hT hw.1) rfl rfl hl.1 (Nat.le_of_ble_eq_true rfl) dX5_readTerm_40 (Nat.zero_le _) (Nat.zero_le _) (fun r1696 H1 locs hL hqr1696 => ?_)
          obtain ⟨h9, hqr1696⟩ := hqr1696; replace h9 := h9.symm; subst h9
          rcases hqr1696 with rfl | rfl
          · refine lv_if_eq (tgt := 51) hx hb dX5_readTerm_43 (by decide) (fun _ => ?_) (fun c9 => absurd (by decide) c9)
            refine lv_bipush (v := (-8)) hx hb dX5_readTerm_51 (by decide) ?_
            refine lv_istore_n (lv' := [(3, .int (-8)), (2, .int (nI k)), (0, .ref w), (1, .int 3)]) hx hb dX5_readTerm_53 rfl hl (by decide) rfl (fun ls hl => ?_)
            refine lv_aload_n hx hb dX5_readTerm_54 rfl (lv_at hl 2 rfl) ?_
            refine cv_v (As := []) (rest := []) (b := w) ⟨hx, hb, hml, hown, hts⟩ (c_X5_step hT (w := w) hw) (cwV 0 hts gX5_readTerm_X5_step rfl rfl rfl hdX5_step_v ⟨Nat.le_of_ble_eq_true rfl, Nat.le_of_ble_eq_true rfl⟩) hN hE hL (rcv6 hN hT hw.1) rfl rfl hl.1 (Nat.le_of_ble_eq_true rfl) dX5_readTerm_55 (Nat.zero_le _) (Nat.zero_le _) (fun H1 locs hL hqr1697 => ?_)
            obtain ⟨hT1, hF1, hqr1697⟩ := hqr1697
            have hF := hF.tr (hF1.mono (by simp))
            have hT := hT1
            have f1698 := hqr1697
            refine lv_aload_n hx hb dX5_readTerm_58 rfl (lv_at hl 2 rfl) ?_
            refine lv_iload_n hx hb dX5_readTerm_59 rfl (lv_at hl 3 rfl) ?_
            refine cv_i (As := [.int 3]) (rest := []) (b := w) ⟨hx, hb, hml, hown, hts⟩ (c_X5_readFactor_d3 hT (w := w) hw) (cwV 1 hts gX5_readTerm_X5_readFactor rfl rfl rfl hdX5_readFactor_v ⟨Nat.le_of_ble_eq_true rfl, Nat.le_of_ble_eq_true rfl⟩) hN hE hL (rcv6 hN hT hw.1) rfl rfl hl.1 (Nat.le_of_ble_eq_true rfl) dX5_readTerm_60 (Nat.zero_le _) (Nat.zero_le _) (fun r1699 H1 locs hL hqr1699 => ?_)
            obtain ⟨hT1, hF1, hqr1699⟩ := hqr1699
            have hF := hF.tr (hF1.mono (by simp))
            have hT := hT1
            rcases hqr1699 with rfl | rfl
            · refine lv_if_ne (tgt := 68) hx hb dX5_readTerm_63 (by decide) (fun c9 => absurd (by decide) c9) (fun _ => ?_)
              refine lv_iconst (v := 0) hx hb dX5_readTerm_66 (by decide) ?_
              exact en_i hx hb hr hlocks hL rfl (Nat.zero_le _) (Nat.zero_le _) dX5_readTerm_67 (⟨hT, hF, Or.inl rfl⟩)
            · refine lv_if_ne (tgt := 68) hx hb dX5_readTerm_63 (by decide) (fun _ => ?_) (fun c9 => absurd c9 (by decide))
              refine lv_aload_n hx hb dX5_readTerm_68 rfl (lv_at hl 2 rfl) ?_
              refine lv_iload_n hx hb dX5_readTerm_69 rfl (lv_at hl 0 rfl) ?_
              refine cv_v (As := [.int (-8)]) (rest := []) (b := w) ⟨hx, hb, hml, hown, hts⟩ (c_X5_putCode hT (w := w) hw (x := (-8))) (cwV 1 hts gX5_readTerm_X5_putCode rfl rfl rfl hdX5_putCode_v ⟨Nat.le_of_ble_eq_true rfl, Nat.le_of_ble_eq_true rfl⟩) hN hE hL (rcv6 hN hT hw.1) rfl rfl hl.1 (Nat.le_of_ble_eq_true rfl) dX5_readTerm_70 (Nat.zero_le _) (Nat.zero_le _) (fun H1 locs hL hqr1700 => ?_)
              obtain ⟨hT1, hF1⟩ := hqr1700
              have hF := hF.tr (hF1.mono (by simp))
              have hT := hT1
              refine lv_iinc (v := (nI (k + 1))) (lv' := [(2, .int (nI (k + 1))), (3, .int (-8)), (0, .ref w), (1, .int 3)]) hx hb dX5_readTerm_73 hl (k := 1) rfl (nI_add _ 1) (by decide) rfl (fun ls hl => ?_)
              refine lv_goto (tgt := 12) hx hb dX5_readTerm_76 (by decide) ?_
              exact ih1692 (k + 1) _ _ _ (by show 600 - ((k + 1)) < 600 - k; omega) ⟨(by show ((k + 1)) ≤ 600; omega), hT, hF, hL⟩ (lv_sub hl [0, 2, 3] rfl)
          · refine lv_if_eq (tgt := 51) hx hb dX5_readTerm_43 (by decide) (fun c9 => absurd c9 (by decide)) (fun _ => ?_)
            refine lv_bipush (v := (-7)) hx hb dX5_readTerm_46 (by decide) ?_
            refine lv_goto (tgt := 53) hx hb dX5_readTerm_48 (by decide) ?_
            refine lv_istore_n (lv' := [(3, .int (-7)), (2, .int (nI k)), (0, .ref w), (1, .int 3)]) hx hb dX5_readTerm_53 rfl hl (by decide) rfl (fun ls hl => ?_)
            refine lv_aload_n hx hb dX5_readTerm_54 rfl (lv_at hl 2 rfl) ?_
            refine cv_v (As := []) (rest := []) (b := w) ⟨hx, hb, hml, hown, hts⟩ (c_X5_step hT (w := w) hw) (cwV 0 hts gX5_readTerm_X5_step rfl rfl rfl hdX5_step_v ⟨Nat.le_of_ble_eq_true rfl, Nat.le_of_ble_eq_true rfl⟩) hN hE hL (rcv6 hN hT hw.1) rfl rfl hl.1 (Nat.le_of_ble_eq_true rfl) dX5_readTerm_55 (Nat.zero_le _) (Nat.zero_le _) (fun H1 locs hL hqr1701 => ?_)
            obtain ⟨hT1, hF1, hqr1701⟩ := hqr1701
            have hF := hF.tr (hF1.mono (by simp))
            have hT := hT1
            have f1702 := hqr1701
            refine lv_aload_n hx hb dX5_readTerm_58 rfl (lv_at hl 2 rfl) ?_
            refine lv_iload_n hx hb dX5_readTerm_59 rfl (lv_at hl 3 rfl) ?_
            refine cv_i (As := [.int 3]) (rest := []) (b := w) ⟨hx, hb, hml, hown, hts⟩ (c_X5_readFactor_d3 hT (w := w) hw) (cwV 1 hts gX5_readTerm_X5_readFactor rfl rfl rfl hdX5_readFactor_v ⟨Nat.le_of_ble_eq_true rfl, Nat.le_of_ble_eq_true rfl⟩) hN hE hL (rcv6 hN hT hw.1) rfl rfl hl.1 (Nat.le_of_ble_eq_true rfl) dX5_readTerm_60 (Nat.zero_le _) (Nat.zero_le _) (fun r1703 H1 locs hL hqr1703 => ?_)
            obtain ⟨hT1, hF1, hqr1703⟩ := hqr1703
            have hF := hF.tr (hF1.mono (by simp))
            have hT := hT1
            rcases hqr1703 with rfl | rfl
            · refine lv_if_ne (tgt := 68) hx hb dX5_readTerm_63 (by decide) (fun c9 => absurd (by decide) c9) (fun _ => ?_)
              refine lv_iconst (v := 0) hx hb dX5_readTerm_66 (by decide) ?_
              exact en_i hx hb hr hlocks hL rfl (Nat.zero_le _) (Nat.zero_le _) dX5_readTerm_67 (⟨hT, hF, Or.inl rfl⟩)
            · refine lv_if_ne (tgt := 68) hx hb dX5_readTerm_63 (by decide) (fun _ => ?_) (fun c9 => absurd c9 (by decide))
              refine lv_aload_n hx hb dX5_readTerm_68 rfl (lv_at hl 2 rfl) ?_
              refine lv_iload_n hx hb dX5_readTerm_69 rfl (lv_at hl 0 rfl) ?_
              refine cv_v (As := [.int (-7)]) (rest := []) (b := w) ⟨hx, hb, hml, hown, hts⟩ (c_X5_putCode hT (w := w) hw (x := (-7))) (cwV 1 hts gX5_readTerm_X5_putCode rfl rfl rfl hdX5_putCode_v ⟨Nat.le_of_ble_eq_true rfl, Nat.le_of_ble_eq_true rfl⟩) hN hE hL (rcv6 hN hT hw.1) rfl rfl hl.1 (Nat.le_of_ble_eq_true rfl) dX5_readTerm_70 (Nat.zero_le _) (Nat.zero_le _) (fun H1 locs hL hqr1704 => ?_)
              obtain ⟨hT1, hF1⟩ := hqr1704
              have hF := hF.tr (hF1.mono (by simp))
              have hT := hT1
              refine lv_iinc (v := (nI (k + 1))) (lv' := [(2, .int (nI (k + 1))), (3, .int (-7)), (0, .ref w), (1, .int 3)]) hx hb dX5_readTerm_73 hl (k := 1) rfl (nI_add _ 1) (by decide) rfl (fun ls hl => ?_)
              refine lv_goto (tgt := 12) hx hb dX5_readTerm_76 (by decide) ?_
              exact ih1692 (k + 1) _ _ _ (by show 600 - ((k + 1)) < 600 - k; omega) ⟨(by show ((k + 1)) ≤ 600; omega), hT, hF, hL⟩ (lv_sub hl [0, 2, 3] rfl)
      · refine lv_if_ne (tgt := 37) hx hb dX5_readTerm_25 (by decide) (fun _ => ?_) (fun c9 => absurd c9 (by decide))
        refine lv_aload_n hx hb dX5_readTerm_37 rfl (lv_at hl 1 rfl) ?_
        refine lv_bipush (v := 42) hx hb dX5_readTerm_38 (by decide) ?_
        refine cv_i (As := [.int 42]) (rest := []) (b := w) ⟨hx, hb, hml, hown, hts⟩ (c_X5_isMark hT (w := w) hw (x := 42)) (cwV 1 hts gX5_readTerm_X5_isMark rfl rfl rfl hdX5_isMark_v ⟨Nat.le_of_ble_eq_true rfl, Nat.le_of_ble_eq_true rfl⟩) hN hE hL (rcv6 hN hT hw.1) rfl rfl hl.1 (Nat.le_of_ble_eq_true rfl) dX5_readTerm_40 (Nat.zero_le _) (Nat.zero_le _) (fun r1705 H1 locs hL hqr1705 => ?_)
        obtain ⟨h9, hqr1705⟩ := hqr1705; replace h9 := h9.symm; subst h9
        rcases hqr1705 with rfl | rfl
        · refine lv_if_eq (tgt := 51) hx hb dX5_readTerm_43 (by decide) (fun _ => ?_) (fun c9 => absurd (by decide) c9)
          refine lv_bipush (v := (-8)) hx hb dX5_readTerm_51 (by decide) ?_
          refine lv_istore_n (lv' := [(3, .int (-8)), (2, .int (nI k)), (0, .ref w), (1, .int 3)]) hx hb dX5_readTerm_53 rfl hl (by decide) rfl (fun ls hl => ?_)
          refine lv_aload_n hx hb dX5_readTerm_54 rfl (lv_at hl 2 rfl) ?_
          refine cv_v (As := []) (rest := []) (b := w) ⟨hx, hb, hml, hown, hts⟩ (c_X5_step hT (w := w) hw) (cwV 0 hts gX5_readTerm_X5_step rfl rfl rfl hdX5_step_v ⟨Nat.le_of_ble_eq_true rfl, Nat.le_of_ble_eq_true rfl⟩) hN hE hL (rcv6 hN hT hw.1) rfl rfl hl.1 (Nat.le_of_ble_eq_true rfl) dX5_readTerm_55 (Nat.zero_le _) (Nat.zero_le _) (fun H1 locs hL hqr1706 => ?_)
          obtain ⟨hT1, hF1, hqr1706⟩ := hqr1706
          have hF := hF.tr (hF1.mono (by simp))
          have hT := hT1
          have f1707 := hqr1706
          refine lv_aload_n hx hb dX5_readTerm_58 rfl (lv_at hl 2 rfl) ?_
          refine lv_iload_n hx hb dX5_readTerm_59 rfl (lv_at hl 3 rfl) ?_
          refine cv_i (As := [.int 3]) (rest := []) (b := w) ⟨hx, hb, hml, hown, hts⟩ (c_X5_readFactor_d3 hT (w := w) hw) (cwV 1 hts gX5_readTerm_X5_readFactor rfl rfl rfl hdX5_readFactor_v ⟨Nat.le_of_ble_eq_true rfl, Nat.le_of_ble_eq_true rfl⟩) hN hE hL (rcv6 hN hT hw.1) rfl rfl hl.1 (Nat.le_of_ble_eq_true rfl) dX5_readTerm_60 (Nat.zero_le _) (Nat.zero_le _) (fun r1708 H1 locs hL hqr1708 => ?_)
          obtain ⟨hT1, hF1, hqr1708⟩ := hqr1708
          have hF := hF.tr (hF1.mono (by simp))
          have hT := hT1
          rcases hqr1708 with rfl | rfl
          · refine lv_if_ne (tgt := 68) hx hb dX5_readTerm_63 (by decide) (fun c9 => absurd (by decide) c9) (fun _ => ?_)
            refine lv_iconst (v := 0) hx hb dX5_readTerm_66 (by decide) ?_
            exact en_i hx hb hr hlocks hL rfl (Nat.zero_le _) (Nat.zero_le _) dX5_readTerm_67 (⟨hT, hF, Or.inl rfl⟩)
          · refine lv_if_ne (tgt := 68) hx hb dX5_readTerm_63 (by decide) (fun _ => ?_) (fun c9 => absurd c9 (by decide))
            refine lv_aload_n hx hb dX5_readTerm_68 rfl (lv_at hl 2 rfl) ?_
            refine lv_iload_n hx hb dX5_readTerm_69 rfl (lv_at hl 0 rfl) ?_
            refine cv_v (As := [.int (-8)]) (rest := []) (b := w) ⟨hx, hb, hml, hown, hts⟩ (c_X5_putCode hT (w := w) hw (x := (-8))) (cwV 1 hts gX5_readTerm_X5_putCode rfl rfl rfl hdX5_putCode_v ⟨Nat.le_of_ble_eq_true rfl, Nat.le_of_ble_eq_true rfl⟩) hN hE hL (rcv6 hN hT hw.1) rfl rfl hl.1 (Nat.le_of_ble_eq_true rfl) dX5_readTerm_70 (Nat.zero_le _) (Nat.zero_le _) (fun H1 locs hL hqr1709 => ?_)
            obtain ⟨hT1, hF1⟩ := hqr1709
            have hF := hF.tr (hF1.mono (by simp))
            have hT := hT1
            refine lv_iinc (v := (nI (k + 1))) (lv' := [(2, .int (nI (k + 1))), (3, .int (-8)), (0, .ref w), (1, .int 3)]) hx hb dX5_readTerm_73 hl (k := 1) rfl (nI_add _ 1) (by decide) rfl (fun ls hl => ?_)
            refine lv_goto (tgt := 12) hx hb dX5_readTerm_76 (by decide) ?_
            exact ih1692 (k + 1) _ _ _ (by show 600 - ((k + 1)) < 600 - k; omega) ⟨(by show ((k + 1)) ≤ 600; omega), hT, hF, hL⟩ (lv_sub hl [0, 2, 3] rfl)
        · refine lv_if_eq (tgt := 51) hx hb dX5_readTerm_43 (by decide) (fun c9 => absurd c9 (by decide)) (fun _ => ?_)
          refine lv_bipush (v := (-7)) hx hb dX5_readTerm_46 (by decide) ?_
          refine lv_goto (tgt := 53) hx hb dX5_readTerm_48 (by decide) ?_
          refine lv_istore_n (lv' := [(3, .int (-7)), (2, .int (nI k)), (0, .ref w), (1, .int 3)]) hx hb dX5_readTerm_53 rfl hl (by decide) rfl (fun ls hl => ?_)
          refine lv_aload_n hx hb dX5_readTerm_54 rfl (lv_at hl 2 rfl) ?_
          refine cv_v (As := []) (rest := []) (b := w) ⟨hx, hb, hml, hown, hts⟩ (c_X5_step hT (w := w) hw) (cwV 0 hts gX5_readTerm_X5_step rfl rfl rfl hdX5_step_v ⟨Nat.le_of_ble_eq_true rfl, Nat.le_of_ble_eq_true rfl⟩) hN hE hL (rcv6 hN hT hw.1) rfl rfl hl.1 (Nat.le_of_ble_eq_true rfl) dX5_readTerm_55 (Nat.zero_le _) (Nat.zero_le _) (fun H1 locs hL hqr1710 => ?_)
          obtain ⟨hT1, hF1, hqr1710⟩ := hqr1710
          have hF := hF.tr (hF1.mono (by simp))
          have hT := hT1
          have f1711 := hqr1710
          refine lv_aload_n hx hb dX5_readTerm_58 rfl (lv_at hl 2 rfl) ?_
          refine lv_iload_n hx hb dX5_readTerm_59 rfl (lv_at hl 3 rfl) ?_
          refine cv_i (As := [.int 3]) (rest := []) (b := w) ⟨hx, hb, hml, hown, hts⟩ (c_X5_readFactor_d3 hT (w := w) hw) (cwV 1 hts gX5_readTerm_X5_readFactor rfl rfl rfl hdX5_readFactor_v ⟨Nat.le_of_ble_eq_true rfl, Nat.le_of_ble_eq_true rfl⟩) hN hE hL (rcv6 hN hT hw.1) rfl rfl hl.1 (Nat.le_of_ble_eq_true rfl) dX5_readTerm_60 (Nat.zero_le _) (Nat.zero_le _) (fun r1712 H1 locs hL hqr1712 => ?_)
          obtain ⟨hT1, hF1, hqr1712⟩ := hqr1712
          have hF := hF.tr (hF1.mono (by simp))
          have hT := hT1
          rcases hqr1712 with rfl | rfl
          · refine lv_if_ne (tgt := 68) hx hb dX5_readTerm_63 (by decide) (fun c9 => absurd (by decide) c9) (fun _ => ?_)
            refine lv_iconst (v := 0) hx hb dX5_readTerm_66 (by decide) ?_
            exact en_i hx hb hr hlocks hL rfl (Nat.zero_le _) (Nat.zero_le _) dX5_readTerm_67 (⟨hT, hF, Or.inl rfl⟩)
          · refine lv_if_ne (tgt := 68) hx hb dX5_readTerm_63 (by decide) (fun _ => ?_) (fun c9 => absurd c9 (by decide))
            refine lv_aload_n hx hb dX5_readTerm_68 rfl (lv_at hl 2 rfl) ?_
            refine lv_iload_n hx hb dX5_readTerm_69 rfl (lv_at hl 0 rfl) ?_
            refine cv_v (As := [.int (-7)]) (rest := []) (b := w) ⟨hx, hb, hml, hown, hts⟩ (c_X5_putCode hT (w := w) hw (x := (-7))) (cwV 1 hts gX5_readTerm_X5_putCode rfl rfl rfl hdX5_putCode_v ⟨Nat.le_of_ble_eq_true rfl, Nat.le_of_ble_eq_true rfl⟩) hN hE hL (rcv6 hN hT hw.1) rfl rfl hl.1 (Nat.le_of_ble_eq_true rfl) dX5_readTerm_70 (Nat.zero_le _) (Nat.zero_le _) (fun H1 locs hL hqr1713 => ?_)
            obtain ⟨hT1, hF1⟩ := hqr1713
            have hF := hF.tr (hF1.mono (by simp))
            have hT := hT1
            refine lv_iinc (v := (nI (k + 1))) (lv' := [(2, .int (nI (k + 1))), (3, .int (-7)), (0, .ref w), (1, .int 3)]) hx hb dX5_readTerm_73 hl (k := 1) rfl (nI_add _ 1) (by decide) rfl (fun ls hl => ?_)
            refine lv_goto (tgt := 12) hx hb dX5_readTerm_76 (by decide) ?_
            exact ih1692 (k + 1) _ _ _ (by show 600 - ((k + 1)) < 600 - k; omega) ⟨(by show ((k + 1)) ≤ 600; omega), hT, hF, hL⟩ (lv_sub hl [0, 2, 3] rfl)
set_option maxHeartbeats 4000000 in
set_option maxRecDepth 100000 in
theorem c_X5_readSum_d3 {l : Launch} {D : va_G} {cs : Nat → ClassId} {B0 T : Nat} {κ : KM} {H0 : Heap} (hT : WT B0 D cs T κ H0) {w : Nat} (hw : T2 κ w 6 10) : KC l yX5_readSum wsX5_readSum 11 240 0 0 D cs B0 H0 [.ref w, .int 3] (Qi (fun r H => WT B0 D cs T κ H ∧ Fr B0 [10] κ H0 H ∧ (r = 0 ∨ r = 1))) := by
  refine KC.of cX5_readSum 4 (some .boolean) (by decide) rfl (Nat.le_of_ble_eq_true rfl) ?_
  intro p e s m below meth c ls hx hb hr hml hown hts hlocks hin hN hE hH0 hl
  have hown : s.vm.findClass RX5 = some m.cls := hown
  have hl : lv_has ls 4 [(0, .ref w), (1, .int 3)] := hl
  have hL : OkL B0 [] := OkL.nil
  have hF : Fr B0 [10] κ H0 H0 := Fr.rf
  refine lv_aload_n hx hb dX5_readSum_0 rfl (lv_at hl 0 rfl) ?_
  refine lv_iload_n hx hb dX5_readSum_1 rfl (lv_at hl 1 rfl) ?_
  refine cv_i (As := [.int 3]) (rest := []) (b := w) ⟨hx, hb, hml, hown, hts⟩ (c_X5_readTerm_d3 hT (w := w) hw) (cwV 1 hts gX5_readSum_X5_readTerm rfl rfl rfl hdX5_readTerm_v ⟨Nat.le_of_ble_eq_true rfl, Nat.le_of_ble_eq_true rfl⟩) hN hE hL (rcv6 hN hT hw.1) rfl rfl hl.1 (Nat.le_of_ble_eq_true rfl) dX5_readSum_2 (Nat.zero_le _) (Nat.zero_le _) (fun r1714 H1 locs hL hqr1714 => ?_)
  obtain ⟨hT1, hF1, hqr1714⟩ := hqr1714
  have hF := hF.tr (hF1.mono (by simp))
  have hT := hT1
  rcases hqr1714 with rfl | rfl
  · refine lv_if_ne (tgt := 10) hx hb dX5_readSum_5 (by decide) (fun c9 => absurd (by decide) c9) (fun _ => ?_)
    refine lv_iconst (v := 0) hx hb dX5_readSum_8 (by decide) ?_
    exact en_i hx hb hr hlocks hL rfl (Nat.zero_le _) (Nat.zero_le _) dX5_readSum_9 (⟨hT, hF, Or.inl rfl⟩)
  · refine lv_if_ne (tgt := 10) hx hb dX5_readSum_5 (by decide) (fun _ => ?_) (fun c9 => absurd c9 (by decide))
    refine lv_iconst (v := 0) hx hb dX5_readSum_10 (by decide) ?_
    refine lv_istore_n (lv' := [(2, .int 0), (0, .ref w), (1, .int 3)]) hx hb dX5_readSum_11 rfl hl (by decide) rfl (fun ls hl => ?_)
    refine lp_m (α := Nat) (nL := 4) (fun a9 => 600 - a9) (fun a9 H9 l9 => (a9 ≤ 600) ∧ (WT B0 D cs T κ H9) ∧ (Fr B0 [10] κ H0 H9) ∧ (OkL B0 l9)) (fun a9 => [(2, .int (nI a9)), (0, .ref w), (1, .int 3)]) ?_ 0 _ _ _ ⟨(by show (0) ≤ 600; omega), hT, hF, hL⟩ (lv_sub hl [0, 1, 2] rfl)
    rintro k H locs ls ih1715 ⟨hk, hT, hF, hL⟩ hl
    have hl : lv_has ls 4 [(2, .int (nI k)), (0, .ref w), (1, .int 3)] := hl
    have hk : k ≤ 600 := hk
    refine lv_iload_n hx hb dX5_readSum_12 rfl (lv_at hl 0 rfl) ?_
    refine lv_sipush (v := 600) hx hb dX5_readSum_13 (by decide) ?_
    refine lv_icmp_ge (tgt := 79) hx hb dX5_readSum_16 (by decide) (fun c1716 => ?_) (fun c1716 => ?_)
    · have c1716 : 600 ≤ k := (nI_leI (a := 600) (b := k) (by omega) (by omega)).mp c1716
      refine lv_iconst (v := 1) hx hb dX5_readSum_79 (by decide) ?_
      exact en_i hx hb hr hlocks hL rfl (Nat.zero_le _) (Nat.zero_le _) dX5_readSum_80 (⟨hT, hF, Or.inr rfl⟩)
    · have c1716 : ¬ 600 ≤ k := fun h9 => c1716 ((nI_leI (a := 600) (b := k) (by omega) (by omega)).mpr h9)
      refine lv_aload_n hx hb dX5_readSum_19 rfl (lv_at hl 1 rfl) ?_
      refine lv_bipush (v := 43) hx hb dX5_readSum_20 (by decide) ?_
      refine cv_i (As := [.int 43]) (rest := []) (b := w) ⟨hx, hb, hml, hown, hts⟩ (c_X5_isMark hT (w := w) hw (x := 43)) (cwV 1 hts gX5_readSum_X5_isMark rfl rfl rfl hdX5_isMark_v ⟨Nat.le_of_ble_eq_true rfl, Nat.le_of_ble_eq_true rfl⟩) hN hE hL (rcv6 hN hT hw.1) rfl rfl hl.1 (Nat.le_of_ble_eq_true rfl) dX5_readSum_22 (Nat.zero_le _) (Nat.zero_le _) (fun r1717 H1 locs hL hqr1717 => ?_)
      obtain ⟨h9, hqr1717⟩ := hqr1717; replace h9 := h9.symm; subst h9
      rcases hqr1717 with rfl | rfl
      · refine lv_if_ne (tgt := 37) hx hb dX5_readSum_25 (by decide) (fun c9 => absurd (by decide) c9) (fun _ => ?_)
        refine lv_aload_n hx hb dX5_readSum_28 rfl (lv_at hl 1 rfl) ?_
        refine lv_bipush (v := 45) hx hb dX5_readSum_29 (by decide) ?_
        refine cv_i (As := [.int 45]) (rest := []) (b := w) ⟨hx, hb, hml, hown, hts⟩ (c_X5_isMark hT (w := w) hw (x := 45)) (cwV 1 hts gX5_readSum_X5_isMark rfl rfl rfl hdX5_isMark_v ⟨Nat.le_of_ble_eq_true rfl, Nat.le_of_ble_eq_true rfl⟩) hN hE hL (rcv6 hN hT hw.1) rfl rfl hl.1 (Nat.le_of_ble_eq_true rfl) dX5_readSum_31 (Nat.zero_le _) (Nat.zero_le _) (fun r1718 H1 locs hL hqr1718 => ?_)
        obtain ⟨h9, hqr1718⟩ := hqr1718; replace h9 := h9.symm; subst h9
        rcases hqr1718 with rfl | rfl
        · refine lv_if_eq (tgt := 79) hx hb dX5_readSum_34 (by decide) (fun _ => ?_) (fun c9 => absurd (by decide) c9)
          refine lv_iconst (v := 1) hx hb dX5_readSum_79 (by decide) ?_
          exact en_i hx hb hr hlocks hL rfl (Nat.zero_le _) (Nat.zero_le _) dX5_readSum_80 (⟨hT, hF, Or.inr rfl⟩)
        · refine lv_if_eq (tgt := 79) hx hb dX5_readSum_34 (by decide) (fun c9 => absurd c9 (by decide)) (fun _ => ?_)
          refine lv_aload_n hx hb dX5_readSum_37 rfl (lv_at hl 1 rfl) ?_
          refine lv_bipush (v := 43) hx hb dX5_readSum_38 (by decide) ?_
          refine cv_i (As := [.int 43]) (rest := []) (b := w) ⟨hx, hb, hml, hown, hts⟩ (c_X5_isMark hT (w := w) hw (x := 43)) (cwV 1 hts gX5_readSum_X5_isMark rfl rfl rfl hdX5_isMark_v ⟨Nat.le_of_ble_eq_true rfl, Nat.le_of_ble_eq_true rfl⟩) hN hE hL (rcv6 hN hT hw.1) rfl rfl hl.1 (Nat.le_of_ble_eq_true rfl) dX5_readSum_40 (Nat.zero_le _) (Nat.zero_le _) (fun r1719 H1 locs hL hqr1719 => ?_)
          obtain ⟨h9, hqr1719⟩ := hqr1719; replace h9 := h9.symm; subst h9
          rcases hqr1719 with rfl | rfl
          · refine lv_if_eq (tgt := 51) hx hb dX5_readSum_43 (by decide) (fun _ => ?_) (fun c9 => absurd (by decide) c9)
            refine lv_bipush (v := (-6)) hx hb dX5_readSum_51 (by decide) ?_
            refine lv_istore_n (lv' := [(3, .int (-6)), (2, .int (nI k)), (0, .ref w), (1, .int 3)]) hx hb dX5_readSum_53 rfl hl (by decide) rfl (fun ls hl => ?_)
            refine lv_aload_n hx hb dX5_readSum_54 rfl (lv_at hl 2 rfl) ?_
            refine cv_v (As := []) (rest := []) (b := w) ⟨hx, hb, hml, hown, hts⟩ (c_X5_step hT (w := w) hw) (cwV 0 hts gX5_readSum_X5_step rfl rfl rfl hdX5_step_v ⟨Nat.le_of_ble_eq_true rfl, Nat.le_of_ble_eq_true rfl⟩) hN hE hL (rcv6 hN hT hw.1) rfl rfl hl.1 (Nat.le_of_ble_eq_true rfl) dX5_readSum_55 (Nat.zero_le _) (Nat.zero_le _) (fun H1 locs hL hqr1720 => ?_)
            obtain ⟨hT1, hF1, hqr1720⟩ := hqr1720
            have hF := hF.tr (hF1.mono (by simp))
            have hT := hT1
            have f1721 := hqr1720
            refine lv_aload_n hx hb dX5_readSum_58 rfl (lv_at hl 2 rfl) ?_
            refine lv_iload_n hx hb dX5_readSum_59 rfl (lv_at hl 3 rfl) ?_
            refine cv_i (As := [.int 3]) (rest := []) (b := w) ⟨hx, hb, hml, hown, hts⟩ (c_X5_readTerm_d3 hT (w := w) hw) (cwV 1 hts gX5_readSum_X5_readTerm rfl rfl rfl hdX5_readTerm_v ⟨Nat.le_of_ble_eq_true rfl, Nat.le_of_ble_eq_true rfl⟩) hN hE hL (rcv6 hN hT hw.1) rfl rfl hl.1 (Nat.le_of_ble_eq_true rfl) dX5_readSum_60 (Nat.zero_le _) (Nat.zero_le _) (fun r1722 H1 locs hL hqr1722 => ?_)
            obtain ⟨hT1, hF1, hqr1722⟩ := hqr1722
            have hF := hF.tr (hF1.mono (by simp))
            have hT := hT1
            rcases hqr1722 with rfl | rfl
            · refine lv_if_ne (tgt := 68) hx hb dX5_readSum_63 (by decide) (fun c9 => absurd (by decide) c9) (fun _ => ?_)
              refine lv_iconst (v := 0) hx hb dX5_readSum_66 (by decide) ?_
              exact en_i hx hb hr hlocks hL rfl (Nat.zero_le _) (Nat.zero_le _) dX5_readSum_67 (⟨hT, hF, Or.inl rfl⟩)
            · refine lv_if_ne (tgt := 68) hx hb dX5_readSum_63 (by decide) (fun _ => ?_) (fun c9 => absurd c9 (by decide))
              refine lv_aload_n hx hb dX5_readSum_68 rfl (lv_at hl 2 rfl) ?_
              refine lv_iload_n hx hb dX5_readSum_69 rfl (lv_at hl 0 rfl) ?_
              refine cv_v (As := [.int (-6)]) (rest := []) (b := w) ⟨hx, hb, hml, hown, hts⟩ (c_X5_putCode hT (w := w) hw (x := (-6))) (cwV 1 hts gX5_readSum_X5_putCode rfl rfl rfl hdX5_putCode_v ⟨Nat.le_of_ble_eq_true rfl, Nat.le_of_ble_eq_true rfl⟩) hN hE hL (rcv6 hN hT hw.1) rfl rfl hl.1 (Nat.le_of_ble_eq_true rfl) dX5_readSum_70 (Nat.zero_le _) (Nat.zero_le _) (fun H1 locs hL hqr1723 => ?_)
              obtain ⟨hT1, hF1⟩ := hqr1723
              have hF := hF.tr (hF1.mono (by simp))
              have hT := hT1
              refine lv_iinc (v := (nI (k + 1))) (lv' := [(2, .int (nI (k + 1))), (3, .int (-6)), (0, .ref w), (1, .int 3)]) hx hb dX5_readSum_73 hl (k := 1) rfl (nI_add _ 1) (by decide) rfl (fun ls hl => ?_)
              refine lv_goto (tgt := 12) hx hb dX5_readSum_76 (by decide) ?_
              exact ih1715 (k + 1) _ _ _ (by show 600 - ((k + 1)) < 600 - k; omega) ⟨(by show ((k + 1)) ≤ 600; omega), hT, hF, hL⟩ (lv_sub hl [0, 2, 3] rfl)
          · refine lv_if_eq (tgt := 51) hx hb dX5_readSum_43 (by decide) (fun c9 => absurd c9 (by decide)) (fun _ => ?_)
            refine lv_bipush (v := (-5)) hx hb dX5_readSum_46 (by decide) ?_
            refine lv_goto (tgt := 53) hx hb dX5_readSum_48 (by decide) ?_
            refine lv_istore_n (lv' := [(3, .int (-5)), (2, .int (nI k)), (0, .ref w), (1, .int 3)]) hx hb dX5_readSum_53 rfl hl (by decide) rfl (fun ls hl => ?_)
            refine lv_aload_n hx hb dX5_readSum_54 rfl (lv_at hl 2 rfl) ?_
            refine cv_v (As := []) (rest := []) (b := w) ⟨hx, hb, hml, hown, hts⟩ (c_X5_step hT (w := w) hw) (cwV 0 hts gX5_readSum_X5_step rfl rfl rfl hdX5_step_v ⟨Nat.le_of_ble_eq_true rfl, Nat.le_of_ble_eq_true rfl⟩) hN hE hL (rcv6 hN hT hw.1) rfl rfl hl.1 (Nat.le_of_ble_eq_true rfl) dX5_readSum_55 (Nat.zero_le _) (Nat.zero_le _) (fun H1 locs hL hqr1724 => ?_)
            obtain ⟨hT1, hF1, hqr1724⟩ := hqr1724
            have hF := hF.tr (hF1.mono (by simp))
            have hT := hT1
            have f1725 := hqr1724
            refine lv_aload_n hx hb dX5_readSum_58 rfl (lv_at hl 2 rfl) ?_
            refine lv_iload_n hx hb dX5_readSum_59 rfl (lv_at hl 3 rfl) ?_
            refine cv_i (As := [.int 3]) (rest := []) (b := w) ⟨hx, hb, hml, hown, hts⟩ (c_X5_readTerm_d3 hT (w := w) hw) (cwV 1 hts gX5_readSum_X5_readTerm rfl rfl rfl hdX5_readTerm_v ⟨Nat.le_of_ble_eq_true rfl, Nat.le_of_ble_eq_true rfl⟩) hN hE hL (rcv6 hN hT hw.1) rfl rfl hl.1 (Nat.le_of_ble_eq_true rfl) dX5_readSum_60 (Nat.zero_le _) (Nat.zero_le _) (fun r1726 H1 locs hL hqr1726 => ?_)
            obtain ⟨hT1, hF1, hqr1726⟩ := hqr1726
            have hF := hF.tr (hF1.mono (by simp))
            have hT := hT1
            rcases hqr1726 with rfl | rfl
            · refine lv_if_ne (tgt := 68) hx hb dX5_readSum_63 (by decide) (fun c9 => absurd (by decide) c9) (fun _ => ?_)
              refine lv_iconst (v := 0) hx hb dX5_readSum_66 (by decide) ?_
              exact en_i hx hb hr hlocks hL rfl (Nat.zero_le _) (Nat.zero_le _) dX5_readSum_67 (⟨hT, hF, Or.inl rfl⟩)
            · refine lv_if_ne (tgt := 68) hx hb dX5_readSum_63 (by decide) (fun _ => ?_) (fun c9 => absurd c9 (by decide))
              refine lv_aload_n hx hb dX5_readSum_68 rfl (lv_at hl 2 rfl) ?_
              refine lv_iload_n hx hb dX5_readSum_69 rfl (lv_at hl 0 rfl) ?_
              refine cv_v (As := [.int (-5)]) (rest := []) (b := w) ⟨hx, hb, hml, hown, hts⟩ (c_X5_putCode hT (w := w) hw (x := (-5))) (cwV 1 hts gX5_readSum_X5_putCode rfl rfl rfl hdX5_putCode_v ⟨Nat.le_of_ble_eq_true rfl, Nat.le_of_ble_eq_true rfl⟩) hN hE hL (rcv6 hN hT hw.1) rfl rfl hl.1 (Nat.le_of_ble_eq_true rfl) dX5_readSum_70 (Nat.zero_le _) (Nat.zero_le _) (fun H1 locs hL hqr1727 => ?_)
              obtain ⟨hT1, hF1⟩ := hqr1727
              have hF := hF.tr (hF1.mono (by simp))
              have hT := hT1
              refine lv_iinc (v := (nI (k + 1))) (lv' := [(2, .int (nI (k + 1))), (3, .int (-5)), (0, .ref w), (1, .int 3)]) hx hb dX5_readSum_73 hl (k := 1) rfl (nI_add _ 1) (by decide) rfl (fun ls hl => ?_)
              refine lv_goto (tgt := 12) hx hb dX5_readSum_76 (by decide) ?_
              exact ih1715 (k + 1) _ _ _ (by show 600 - ((k + 1)) < 600 - k; omega) ⟨(by show ((k + 1)) ≤ 600; omega), hT, hF, hL⟩ (lv_sub hl [0, 2, 3] rfl)
      · refine lv_if_ne (tgt := 37) hx hb dX5_readSum_25 (by decide) (fun _ => ?_) (fun c9 => absurd c9 (by decide))
        refine lv_aload_n hx hb dX5_readSum_37 rfl (lv_at hl 1 rfl) ?_
        refine lv_bipush (v := 43) hx hb dX5_readSum_38 (by decide) ?_
        refine cv_i (As := [.int 43]) (rest := []) (b := w) ⟨hx, hb, hml, hown, hts⟩ (c_X5_isMark hT (w := w) hw (x := 43)) (cwV 1 hts gX5_readSum_X5_isMark rfl rfl rfl hdX5_isMark_v ⟨Nat.le_of_ble_eq_true rfl, Nat.le_of_ble_eq_true rfl⟩) hN hE hL (rcv6 hN hT hw.1) rfl rfl hl.1 (Nat.le_of_ble_eq_true rfl) dX5_readSum_40 (Nat.zero_le _) (Nat.zero_le _) (fun r1728 H1 locs hL hqr1728 => ?_)
        obtain ⟨h9, hqr1728⟩ := hqr1728; replace h9 := h9.symm; subst h9
        rcases hqr1728 with rfl | rfl
        · refine lv_if_eq (tgt := 51) hx hb dX5_readSum_43 (by decide) (fun _ => ?_) (fun c9 => absurd (by decide) c9)
          refine lv_bipush (v := (-6)) hx hb dX5_readSum_51 (by decide) ?_
          refine lv_istore_n (lv' := [(3, .int (-6)), (2, .int (nI k)), (0, .ref w), (1, .int 3)]) hx hb dX5_readSum_53 rfl hl (by decide) rfl (fun ls hl => ?_)
          refine lv_aload_n hx hb dX5_readSum_54 rfl (lv_at hl 2 rfl) ?_
          refine cv_v (As := []) (rest := []) (b := w) ⟨hx, hb, hml, hown, hts⟩ (c_X5_step hT (w := w) hw) (cwV 0 hts gX5_readSum_X5_step rfl rfl rfl hdX5_step_v ⟨Nat.le_of_ble_eq_true rfl, Nat.le_of_ble_eq_true rfl⟩) hN hE hL (rcv6 hN hT hw.1) rfl rfl hl.1 (Nat.le_of_ble_eq_true rfl) dX5_readSum_55 (Nat.zero_le _) (Nat.zero_le _) (fun H1 locs hL hqr1729 => ?_)
          obtain ⟨hT1, hF1, hqr1729⟩ := hqr1729
          have hF := hF.tr (hF1.mono (by simp))
          have hT := hT1
          have f1730 := hqr1729
          refine lv_aload_n hx hb dX5_readSum_58 rfl (lv_at hl 2 rfl) ?_
          refine lv_iload_n hx hb dX5_readSum_59 rfl (lv_at hl 3 rfl) ?_
          refine cv_i (As := [.int 3]) (rest := []) (b := w) ⟨hx, hb, hml, hown, hts⟩ (c_X5_readTerm_d3 hT (w := w) hw) (cwV 1 hts gX5_readSum_X5_readTerm rfl rfl rfl hdX5_readTerm_v ⟨Nat.le_of_ble_eq_true rfl, Nat.le_of_ble_eq_true rfl⟩) hN hE hL (rcv6 hN hT hw.1) rfl rfl hl.1 (Nat.le_of_ble_eq_true rfl) dX5_readSum_60 (Nat.zero_le _) (Nat.zero_le _) (fun r1731 H1 locs hL hqr1731 => ?_)
          obtain ⟨hT1, hF1, hqr1731⟩ := hqr1731
          have hF := hF.tr (hF1.mono (by simp))
          have hT := hT1
          rcases hqr1731 with rfl | rfl
          · refine lv_if_ne (tgt := 68) hx hb dX5_readSum_63 (by decide) (fun c9 => absurd (by decide) c9) (fun _ => ?_)
            refine lv_iconst (v := 0) hx hb dX5_readSum_66 (by decide) ?_
            exact en_i hx hb hr hlocks hL rfl (Nat.zero_le _) (Nat.zero_le _) dX5_readSum_67 (⟨hT, hF, Or.inl rfl⟩)
          · refine lv_if_ne (tgt := 68) hx hb dX5_readSum_63 (by decide) (fun _ => ?_) (fun c9 => absurd c9 (by decide))
            refine lv_aload_n hx hb dX5_readSum_68 rfl (lv_at hl 2 rfl) ?_
            refine lv_iload_n hx hb dX5_readSum_69 rfl (lv_at hl 0 rfl) ?_
            refine cv_v (As := [.int (-6)]) (rest := []) (b := w) ⟨hx, hb, hml, hown, hts⟩ (c_X5_putCode hT (w := w) hw (x := (-6))) (cwV 1 hts gX5_readSum_X5_putCode rfl rfl rfl hdX5_putCode_v ⟨Nat.le_of_ble_eq_true rfl, Nat.le_of_ble_eq_true rfl⟩) hN hE hL (rcv6 hN hT hw.1) rfl rfl hl.1 (Nat.le_of_ble_eq_true rfl) dX5_readSum_70 (Nat.zero_le _) (Nat.zero_le _) (fun H1 locs hL hqr1732 => ?_)
            obtain ⟨hT1, hF1⟩ := hqr1732
            have hF := hF.tr (hF1.mono (by simp))
            have hT := hT1
            refine lv_iinc (v := (nI (k + 1))) (lv' := [(2, .int (nI (k + 1))), (3, .int (-6)), (0, .ref w), (1, .int 3)]) hx hb dX5_readSum_73 hl (k := 1) rfl (nI_add _ 1) (by decide) rfl (fun ls hl => ?_)
            refine lv_goto (tgt := 12) hx hb dX5_readSum_76 (by decide) ?_
            exact ih1715 (k + 1) _ _ _ (by show 600 - ((k + 1)) < 600 - k; omega) ⟨(by show ((k + 1)) ≤ 600; omega), hT, hF, hL⟩ (lv_sub hl [0, 2, 3] rfl)
        · refine lv_if_eq (tgt := 51) hx hb dX5_readSum_43 (by decide) (fun c9 => absurd c9 (by decide)) (fun _ => ?_)
          refine lv_bipush (v := (-5)) hx hb dX5_readSum_46 (by decide) ?_
          refine lv_goto (tgt := 53) hx hb dX5_readSum_48 (by decide) ?_
          refine lv_istore_n (lv' := [(3, .int (-5)), (2, .int (nI k)), (0, .ref w), (1, .int 3)]) hx hb dX5_readSum_53 rfl hl (by decide) rfl (fun ls hl => ?_)
          refine lv_aload_n hx hb dX5_readSum_54 rfl (lv_at hl 2 rfl) ?_
          refine cv_v (As := []) (rest := []) (b := w) ⟨hx, hb, hml, hown, hts⟩ (c_X5_step hT (w := w) hw) (cwV 0 hts gX5_readSum_X5_step rfl rfl rfl hdX5_step_v ⟨Nat.le_of_ble_eq_true rfl, Nat.le_of_ble_eq_true rfl⟩) hN hE hL (rcv6 hN hT hw.1) rfl rfl hl.1 (Nat.le_of_ble_eq_true rfl) dX5_readSum_55 (Nat.zero_le _) (Nat.zero_le _) (fun H1 locs hL hqr1733 => ?_)
          obtain ⟨hT1, hF1, hqr1733⟩ := hqr1733
          have hF := hF.tr (hF1.mono (by simp))
          have hT := hT1
          have f1734 := hqr1733
          refine lv_aload_n hx hb dX5_readSum_58 rfl (lv_at hl 2 rfl) ?_
          refine lv_iload_n hx hb dX5_readSum_59 rfl (lv_at hl 3 rfl) ?_
          refine cv_i (As := [.int 3]) (rest := []) (b := w) ⟨hx, hb, hml, hown, hts⟩ (c_X5_readTerm_d3 hT (w := w) hw) (cwV 1 hts gX5_readSum_X5_readTerm rfl rfl rfl hdX5_readTerm_v ⟨Nat.le_of_ble_eq_true rfl, Nat.le_of_ble_eq_true rfl⟩) hN hE hL (rcv6 hN hT hw.1) rfl rfl hl.1 (Nat.le_of_ble_eq_true rfl) dX5_readSum_60 (Nat.zero_le _) (Nat.zero_le _) (fun r1735 H1 locs hL hqr1735 => ?_)
          obtain ⟨hT1, hF1, hqr1735⟩ := hqr1735
          have hF := hF.tr (hF1.mono (by simp))
          have hT := hT1
          rcases hqr1735 with rfl | rfl
          · refine lv_if_ne (tgt := 68) hx hb dX5_readSum_63 (by decide) (fun c9 => absurd (by decide) c9) (fun _ => ?_)
            refine lv_iconst (v := 0) hx hb dX5_readSum_66 (by decide) ?_
            exact en_i hx hb hr hlocks hL rfl (Nat.zero_le _) (Nat.zero_le _) dX5_readSum_67 (⟨hT, hF, Or.inl rfl⟩)
          · refine lv_if_ne (tgt := 68) hx hb dX5_readSum_63 (by decide) (fun _ => ?_) (fun c9 => absurd c9 (by decide))
            refine lv_aload_n hx hb dX5_readSum_68 rfl (lv_at hl 2 rfl) ?_
            refine lv_iload_n hx hb dX5_readSum_69 rfl (lv_at hl 0 rfl) ?_
            refine cv_v (As := [.int (-5)]) (rest := []) (b := w) ⟨hx, hb, hml, hown, hts⟩ (c_X5_putCode hT (w := w) hw (x := (-5))) (cwV 1 hts gX5_readSum_X5_putCode rfl rfl rfl hdX5_putCode_v ⟨Nat.le_of_ble_eq_true rfl, Nat.le_of_ble_eq_true rfl⟩) hN hE hL (rcv6 hN hT hw.1) rfl rfl hl.1 (Nat.le_of_ble_eq_true rfl) dX5_readSum_70 (Nat.zero_le _) (Nat.zero_le _) (fun H1 locs hL hqr1736 => ?_)
            obtain ⟨hT1, hF1⟩ := hqr1736
            have hF := hF.tr (hF1.mono (by simp))
            have hT := hT1
            refine lv_iinc (v := (nI (k + 1))) (lv' := [(2, .int (nI (k + 1))), (3, .int (-5)), (0, .ref w), (1, .int 3)]) hx hb dX5_readSum_73 hl (k := 1) rfl (nI_add _ 1) (by decide) rfl (fun ls hl => ?_)
            refine lv_goto (tgt := 12) hx hb dX5_readSum_76 (by decide) ?_
            exact ih1715 (k + 1) _ _ _ (by show 600 - ((k + 1)) < 600 - k; omega) ⟨(by show ((k + 1)) ≤ 600; omega), hT, hF, hL⟩ (lv_sub hl [0, 2, 3] rfl)
set_option maxHeartbeats 4000000 in
set_option maxRecDepth 100000 in
theorem c_X5_readFactor_d2 {l : Launch} {D : va_G} {cs : Nat → ClassId} {B0 T : Nat} {κ : KM} {H0 : Heap} (hT : WT B0 D cs T κ H0) {w : Nat} (hw : T2 κ w 6 10) : KC l yX5_readFactor wsX5_readFactor 12 263 0 0 D cs B0 H0 [.ref w, .int 2] (Qi (fun r H => WT B0 D cs T κ H ∧ Fr B0 [10] κ H0 H ∧ (r = 0 ∨ r = 1))) := by
  refine KC.of cX5_readFactor 3 (some .boolean) (by decide) rfl (Nat.le_of_ble_eq_true rfl) ?_
  intro p e s m below meth c ls hx hb hr hml hown hts hlocks hin hN hE hH0 hl
  have hown : s.vm.findClass RX5 = some m.cls := hown
  have hl : lv_has ls 3 [(0, .ref w), (1, .int 2)] := hl
  have hL : OkL B0 [] := OkL.nil
  have hF : Fr B0 [10] κ H0 H0 := Fr.rf
  refine lv_aload_n hx hb dX5_readFactor_0 rfl (lv_at hl 0 rfl) ?_
  obtain ⟨hb1737, e1737, hat1737, hk1737⟩ := hT.o6 hw.1
  obtain ⟨f1737_0, f1737_2, f1737_3, f1737_4, f1737_5, f1737_6, f1737_7, f1737_8, f1737_9, f1737_10, f1737_11, f1737_12, f1737_13, rfl, c1737_1, c1737_2, c1737_3, c1737_5, c1737_10, t1737_0, t1737_9, c1737_11, c1737_p2⟩ := hk1737
  have hP : va_P D vwCl [(w, .inr (5, [.ref f1737_0, .int (nI ((κ w).2.2.1)), .int (nI f1737_2), .int (nI f1737_3), .int f1737_4, .int (nI f1737_5), .int f1737_6, .int f1737_7, .int f1737_8, .ref f1737_9, .int (nI f1737_10), f1737_11, .int f1737_12, .int f1737_13]))] _ := va_P.cons hat1737 va_P.nil
  refine va_get (D := D) (ci := 5) (v := .int f1737_4) (C := RX5) (T := TX5) (N := 14) hx hb hts iX5_readFactor_5 hown hN.1 hP 0 rfl rfl 4 (by decide) (hts _ mX5_readFactor_1) (fun _ h9 => h9) rfl dX5_readFactor_1 ?_
  refine lv_iconst (v := 1) hx hb dX5_readFactor_4 (by decide) ?_
  refine lv_icmp_ne (tgt := 31) hx hb dX5_readFactor_5 (by decide) (fun c1738 => ?_) (fun c1738 => ?_)
  · refine lv_aload_n hx hb dX5_readFactor_31 rfl (lv_at hl 0 rfl) ?_
    refine lv_bipush (v := 40) hx hb dX5_readFactor_32 (by decide) ?_
    refine cv_i (As := [.int 40]) (rest := []) (b := w) ⟨hx, hb, hml, hown, hts⟩ (c_X5_isMark hT (w := w) hw (x := 40)) (cwV 1 hts gX5_readFactor_X5_isMark rfl rfl rfl hdX5_isMark_v ⟨Nat.le_of_ble_eq_true rfl, Nat.le_of_ble_eq_true rfl⟩) hN hE hL (rcv6 hN hT hw.1) rfl rfl hl.1 (Nat.le_of_ble_eq_true rfl) dX5_readFactor_34 (Nat.zero_le _) (Nat.zero_le _) (fun r1739 H1 locs hL hqr1739 => ?_)
    obtain ⟨h9, hqr1739⟩ := hqr1739; replace h9 := h9.symm; subst h9
    rcases hqr1739 with rfl | rfl
    · refine lv_if_eq (tgt := 85) hx hb dX5_readFactor_37 (by decide) (fun _ => ?_) (fun c9 => absurd (by decide) c9)
      refine lv_aload_n hx hb dX5_readFactor_85 rfl (lv_at hl 0 rfl) ?_
      refine cv_i (As := []) (rest := []) (b := w) ⟨hx, hb, hml, hown, hts⟩ (c_X5_codeOfWord hT (w := w) hw) (cwV 0 hts gX5_readFactor_X5_codeOfWord rfl rfl rfl hdX5_codeOfWord_v ⟨Nat.le_of_ble_eq_true rfl, Nat.le_of_ble_eq_true rfl⟩) hN hE hL (rcv6 hN hT hw.1) rfl rfl hl.1 (Nat.le_of_ble_eq_true rfl) dX5_readFactor_86 (Nat.zero_le _) (Nat.zero_le _) (fun r1740 H1 locs hL hqr1740 => ?_)
      obtain rfl := hqr1740.symm
      refine lv_istore_n (lv' := [(2, .int r1740), (0, .ref w), (1, .int 2)]) hx hb dX5_readFactor_89 rfl hl (by decide) rfl (fun ls hl => ?_)
      refine lv_iload_n hx hb dX5_readFactor_90 rfl (lv_at hl 0 rfl) ?_
      refine lv_if_ne (tgt := 105) hx hb dX5_readFactor_91 (by decide) (fun c1741 => ?_) (fun c1741 => ?_)
      · refine lv_aload_n hx hb dX5_readFactor_105 rfl (lv_at hl 1 rfl) ?_
        refine lv_iload_n hx hb dX5_readFactor_106 rfl (lv_at hl 0 rfl) ?_
        refine cv_v (As := [.int r1740]) (rest := []) (b := w) ⟨hx, hb, hml, hown, hts⟩ (c_X5_putCode hT (w := w) hw (x := r1740)) (cwV 1 hts gX5_readFactor_X5_putCode rfl rfl rfl hdX5_putCode_v ⟨Nat.le_of_ble_eq_true rfl, Nat.le_of_ble_eq_true rfl⟩) hN hE hL (rcv6 hN hT hw.1) rfl rfl hl.1 (Nat.le_of_ble_eq_true rfl) dX5_readFactor_107 (Nat.zero_le _) (Nat.zero_le _) (fun H1 locs hL hqr1742 => ?_)
        obtain ⟨hT1, hF1⟩ := hqr1742
        have hF := hF.tr (hF1.mono (by simp))
        have hT := hT1
        refine lv_aload_n hx hb dX5_readFactor_110 rfl (lv_at hl 1 rfl) ?_
        refine cv_v (As := []) (rest := []) (b := w) ⟨hx, hb, hml, hown, hts⟩ (c_X5_step hT (w := w) hw) (cwV 0 hts gX5_readFactor_X5_step rfl rfl rfl hdX5_step_v ⟨Nat.le_of_ble_eq_true rfl, Nat.le_of_ble_eq_true rfl⟩) hN hE hL (rcv6 hN hT hw.1) rfl rfl hl.1 (Nat.le_of_ble_eq_true rfl) dX5_readFactor_111 (Nat.zero_le _) (Nat.zero_le _) (fun H1 locs hL hqr1743 => ?_)
        obtain ⟨hT1, hF1, hqr1743⟩ := hqr1743
        have hF := hF.tr (hF1.mono (by simp))
        have hT := hT1
        have f1744 := hqr1743
        refine lv_iconst (v := 1) hx hb dX5_readFactor_114 (by decide) ?_
        exact en_i hx hb hr hlocks hL rfl (Nat.zero_le _) (Nat.zero_le _) dX5_readFactor_115 (⟨hT, hF, Or.inr rfl⟩)
      · refine lv_aload_n hx hb dX5_readFactor_94 rfl (lv_at hl 1 rfl) ?_
        refine lv_bipush (v := (-2)) hx hb dX5_readFactor_95 (by decide) ?_
        refine lv_aload_n hx hb dX5_readFactor_97 rfl (lv_at hl 1 rfl) ?_
        refine va_get (D := D) (ci := 5) (v := .int (nI f1737_5)) (C := RX5) (T := TX5) (N := 14) hx hb hts iX5_readFactor_5 hown hN.1 hP 0 rfl rfl 5 (by decide) (hts _ mX5_readFactor_3) (fun _ h9 => h9) rfl dX5_readFactor_98 ?_
        refine cv_i (As := [.int (-2), .int (nI f1737_5)]) (rest := []) (b := w) ⟨hx, hb, hml, hown, hts⟩ (c_X5_fail hT (w := w) hw (x := (-2)) (y := (nI f1737_5))) (cwV 2 hts gX5_readFactor_X5_fail rfl rfl rfl hdX5_fail_v ⟨Nat.le_of_ble_eq_true rfl, Nat.le_of_ble_eq_true rfl⟩) hN hE hL (rcv6 hN hT hw.1) rfl rfl hl.1 (Nat.le_of_ble_eq_true rfl) dX5_readFactor_101 (Nat.zero_le _) (Nat.zero_le _) (fun r1745 H1 locs hL hqr1745 => ?_)
        obtain ⟨hT1, hF1, hqr1745⟩ := hqr1745
        have hF := hF.tr (hF1.mono (by simp))
        have hT := hT1
        obtain rfl := hqr1745
        exact en_i hx hb hr hlocks hL rfl (Nat.zero_le _) (Nat.zero_le _) dX5_readFactor_104 (⟨hT, hF, Or.inl rfl⟩)
    · refine lv_if_eq (tgt := 85) hx hb dX5_readFactor_37 (by decide) (fun c9 => absurd c9 (by decide)) (fun _ => ?_)
      refine lv_iload_n hx hb dX5_readFactor_40 rfl (lv_at hl 1 rfl) ?_
      refine lv_iconst (v := 4) hx hb dX5_readFactor_41 (by decide) ?_
      refine lv_icmp_lt (tgt := 56) hx hb dX5_readFactor_42 (by decide) (fun _ => ?_) (fun c9 => absurd (by decide) c9)
      refine lv_aload_n hx hb dX5_readFactor_56 rfl (lv_at hl 0 rfl) ?_
      refine cv_v (As := []) (rest := []) (b := w) ⟨hx, hb, hml, hown, hts⟩ (c_X5_step hT (w := w) hw) (cwV 0 hts gX5_readFactor_X5_step rfl rfl rfl hdX5_step_v ⟨Nat.le_of_ble_eq_true rfl, Nat.le_of_ble_eq_true rfl⟩) hN hE hL (rcv6 hN hT hw.1) rfl rfl hl.1 (Nat.le_of_ble_eq_true rfl) dX5_readFactor_57 (Nat.zero_le _) (Nat.zero_le _) (fun H1 locs hL hqr1746 => ?_)
      obtain ⟨hT1, hF1, hqr1746⟩ := hqr1746
      have hF := hF.tr (hF1.mono (by simp))
      have hT := hT1
      have f1747 := hqr1746
      refine lv_aload_n hx hb dX5_readFactor_60 rfl (lv_at hl 0 rfl) ?_
      refine lv_iload_n hx hb dX5_readFactor_61 rfl (lv_at hl 1 rfl) ?_
      refine lv_iconst (v := 1) hx hb dX5_readFactor_62 (by decide) ?_
      refine lv_iadd hx hb dX5_readFactor_63 ?_
      refine tp_i 3 (by decide) ?_
      refine cv_i (As := [.int 3]) (rest := []) (b := w) ⟨hx, hb, hml, hown, hts⟩ (c_X5_readSum_d3 hT (w := w) hw) (cwV 1 hts gX5_readFactor_X5_readSum rfl rfl rfl hdX5_readSum_v ⟨Nat.le_of_ble_eq_true rfl, Nat.le_of_ble_eq_true rfl⟩) hN hE hL (rcv6 hN hT hw.1) rfl rfl hl.1 (Nat.le_of_ble_eq_true rfl) dX5_readFactor_64 (Nat.zero_le _) (Nat.zero_le _) (fun r1748 H1 locs hL hqr1748 => ?_)
      obtain ⟨hT1, hF1, hqr1748⟩ := hqr1748
      have hF := hF.tr (hF1.mono (by simp))
      have hT := hT1
      rcases hqr1748 with rfl | rfl
      · refine lv_if_eq (tgt := 83) hx hb dX5_readFactor_67 (by decide) (fun _ => ?_) (fun c9 => absurd (by decide) c9)
        refine lv_iconst (v := 0) hx hb dX5_readFactor_83 (by decide) ?_
        exact en_i hx hb hr hlocks hL rfl (Nat.zero_le _) (Nat.zero_le _) dX5_readFactor_84 (⟨hT, hF, Or.inl rfl⟩)
      · refine lv_if_eq (tgt := 83) hx hb dX5_readFactor_67 (by decide) (fun c9 => absurd c9 (by decide)) (fun _ => ?_)
        refine lv_aload_n hx hb dX5_readFactor_70 rfl (lv_at hl 0 rfl) ?_
        refine lv_bipush (v := 41) hx hb dX5_readFactor_71 (by decide) ?_
        refine cv_i (As := [.int 41]) (rest := []) (b := w) ⟨hx, hb, hml, hown, hts⟩ (c_X5_takeMark hT (w := w) hw (x := 41)) (cwV 1 hts gX5_readFactor_X5_takeMark rfl rfl rfl hdX5_takeMark_v ⟨Nat.le_of_ble_eq_true rfl, Nat.le_of_ble_eq_true rfl⟩) hN hE hL (rcv6 hN hT hw.1) rfl rfl hl.1 (Nat.le_of_ble_eq_true rfl) dX5_readFactor_73 (Nat.zero_le _) (Nat.zero_le _) (fun r1749 H1 locs hL hqr1749 => ?_)
        obtain ⟨hT1, hF1, hqr1749⟩ := hqr1749
        have hF := hF.tr (hF1.mono (by simp))
        have hT := hT1
        rcases hqr1749 with rfl | rfl
        · refine lv_if_eq (tgt := 83) hx hb dX5_readFactor_76 (by decide) (fun _ => ?_) (fun c9 => absurd (by decide) c9)
          refine lv_iconst (v := 0) hx hb dX5_readFactor_83 (by decide) ?_
          exact en_i hx hb hr hlocks hL rfl (Nat.zero_le _) (Nat.zero_le _) dX5_readFactor_84 (⟨hT, hF, Or.inl rfl⟩)
        · refine lv_if_eq (tgt := 83) hx hb dX5_readFactor_76 (by decide) (fun c9 => absurd c9 (by decide)) (fun _ => ?_)
          refine lv_iconst (v := 1) hx hb dX5_readFactor_79 (by decide) ?_
          refine lv_goto (tgt := 84) hx hb dX5_readFactor_80 (by decide) ?_
          exact en_i hx hb hr hlocks hL rfl (Nat.zero_le _) (Nat.zero_le _) dX5_readFactor_84 (⟨hT, hF, Or.inr rfl⟩)
  · refine lv_aload_n hx hb dX5_readFactor_8 rfl (lv_at hl 0 rfl) ?_
    refine lv_iconst (v := 0) hx hb dX5_readFactor_9 (by decide) ?_
    refine lv_sipush (v := 9999) hx hb dX5_readFactor_10 (by decide) ?_
    refine cv_i (As := [.int 0, .int 9999]) (rest := []) (b := w) ⟨hx, hb, hml, hown, hts⟩ (c_X5_takeNumber hT (w := w) hw (x := 0) (y := 9999)) (cwV 2 hts gX5_readFactor_X5_takeNumber rfl rfl rfl hdX5_takeNumber_v ⟨Nat.le_of_ble_eq_true rfl, Nat.le_of_ble_eq_true rfl⟩) hN hE hL (rcv6 hN hT hw.1) rfl rfl hl.1 (Nat.le_of_ble_eq_true rfl) dX5_readFactor_13 (Nat.zero_le _) (Nat.zero_le _) (fun r1750 H1 locs hL hqr1750 => ?_)
    obtain ⟨hT1, hF1, hqr1750⟩ := hqr1750
    have hF := hF.tr (hF1.mono (by simp))
    have hT := hT1
    rcases hqr1750 with rfl | ⟨rfl, v1751, l1752, g1753, f1754⟩
    · refine lv_if_ne (tgt := 21) hx hb dX5_readFactor_16 (by decide) (fun c9 => absurd (by decide) c9) (fun _ => ?_)
      refine lv_iconst (v := 0) hx hb dX5_readFactor_19 (by decide) ?_
      exact en_i hx hb hr hlocks hL rfl (Nat.zero_le _) (Nat.zero_le _) dX5_readFactor_20 (⟨hT, hF, Or.inl rfl⟩)
    · obtain ⟨n1755, hn1755a, hn1755b, rfl⟩ := rng (x := v1751) (lo := 0) (hi := 9999) (by decide) (by decide) l1752 g1753
      refine lv_if_ne (tgt := 21) hx hb dX5_readFactor_16 (by decide) (fun _ => ?_) (fun c9 => absurd c9 (by decide))
      refine lv_aload_n hx hb dX5_readFactor_21 rfl (lv_at hl 0 rfl) ?_
      refine lv_aload_n hx hb dX5_readFactor_22 rfl (lv_at hl 0 rfl) ?_
      obtain ⟨hb1756, e1756, hat1756, hk1756⟩ := hT.o6 hw.1
      obtain ⟨f1756_0, f1756_2, f1756_3, f1756_4, f1756_5, f1756_6, f1756_7, f1756_8, f1756_9, f1756_10, f1756_11, f1756_12, f1756_13, rfl, c1756_1, c1756_2, c1756_3, c1756_5, c1756_10, t1756_0, t1756_9, c1756_11, c1756_p2⟩ := hk1756
      obtain rfl : f1756_7 = nI n1755 := Value.int.inj (f1754.eq hat1756 rfl (by decide) rfl)
      have hP : va_P D vwCl [(w, .inr (5, [.ref f1756_0, .int (nI ((κ w).2.2.1)), .int (nI f1756_2), .int (nI f1756_3), .int f1756_4, .int (nI f1756_5), .int f1756_6, .int (nI n1755), .int f1756_8, .ref f1756_9, .int (nI f1756_10), f1756_11, .int f1756_12, .int f1756_13]))] _ := va_P.cons hat1756 va_P.nil
      refine va_get (D := D) (ci := 5) (v := .int (nI n1755)) (C := RX5) (T := TX5) (N := 14) hx hb hts iX5_readFactor_5 hown hN.1 hP 0 rfl rfl 7 (by decide) (hts _ mX5_readFactor_2) (fun _ h9 => h9) rfl dX5_readFactor_23 ?_
      refine cv_v (As := [.int (nI n1755)]) (rest := []) (b := w) ⟨hx, hb, hml, hown, hts⟩ (c_X5_putCode hT (w := w) hw (x := (nI n1755))) (cwV 1 hts gX5_readFactor_X5_putCode rfl rfl rfl hdX5_putCode_v ⟨Nat.le_of_ble_eq_true rfl, Nat.le_of_ble_eq_true rfl⟩) hN hE hL (rcv6 hN hT hw.1) rfl rfl hl.1 (Nat.le_of_ble_eq_true rfl) dX5_readFactor_26 (Nat.zero_le _) (Nat.zero_le _) (fun H1 locs hL hqr1757 => ?_)
      obtain ⟨hT1, hF1⟩ := hqr1757
      have hF := hF.tr (hF1.mono (by simp))
      have hT := hT1
      refine lv_iconst (v := 1) hx hb dX5_readFactor_29 (by decide) ?_
      exact en_i hx hb hr hlocks hL rfl (Nat.zero_le _) (Nat.zero_le _) dX5_readFactor_30 (⟨hT, hF, Or.inr rfl⟩)
set_option maxHeartbeats 4000000 in
set_option maxRecDepth 100000 in
theorem c_X5_readTerm_d2 {l : Launch} {D : va_G} {cs : Nat → ClassId} {B0 T : Nat} {κ : KM} {H0 : Heap} (hT : WT B0 D cs T κ H0) {w : Nat} (hw : T2 κ w 6 10) : KC l yX5_readTerm wsX5_readTerm 13 285 0 0 D cs B0 H0 [.ref w, .int 2] (Qi (fun r H => WT B0 D cs T κ H ∧ Fr B0 [10] κ H0 H ∧ (r = 0 ∨ r = 1))) := by
  refine KC.of cX5_readTerm 4 (some .boolean) (by decide) rfl (Nat.le_of_ble_eq_true rfl) ?_
  intro p e s m below meth c ls hx hb hr hml hown hts hlocks hin hN hE hH0 hl
  have hown : s.vm.findClass RX5 = some m.cls := hown
  have hl : lv_has ls 4 [(0, .ref w), (1, .int 2)] := hl
  have hL : OkL B0 [] := OkL.nil
  have hF : Fr B0 [10] κ H0 H0 := Fr.rf
  refine lv_aload_n hx hb dX5_readTerm_0 rfl (lv_at hl 0 rfl) ?_
  refine lv_iload_n hx hb dX5_readTerm_1 rfl (lv_at hl 1 rfl) ?_
  refine cv_i (As := [.int 2]) (rest := []) (b := w) ⟨hx, hb, hml, hown, hts⟩ (c_X5_readFactor_d2 hT (w := w) hw) (cwV 1 hts gX5_readTerm_X5_readFactor rfl rfl rfl hdX5_readFactor_v ⟨Nat.le_of_ble_eq_true rfl, Nat.le_of_ble_eq_true rfl⟩) hN hE hL (rcv6 hN hT hw.1) rfl rfl hl.1 (Nat.le_of_ble_eq_true rfl) dX5_readTerm_2 (Nat.zero_le _) (Nat.zero_le _) (fun r1758 H1 locs hL hqr1758 => ?_)
  obtain ⟨hT1, hF1, hqr1758⟩ := hqr1758
  have hF := hF.tr (hF1.mono (by simp))
  have hT := hT1
  rcases hqr1758 with rfl | rfl
  · refine lv_if_ne (tgt := 10) hx hb dX5_readTerm_5 (by decide) (fun c9 => absurd (by decide) c9) (fun _ => ?_)
    refine lv_iconst (v := 0) hx hb dX5_readTerm_8 (by decide) ?_
    exact en_i hx hb hr hlocks hL rfl (Nat.zero_le _) (Nat.zero_le _) dX5_readTerm_9 (⟨hT, hF, Or.inl rfl⟩)
  · refine lv_if_ne (tgt := 10) hx hb dX5_readTerm_5 (by decide) (fun _ => ?_) (fun c9 => absurd c9 (by decide))
    refine lv_iconst (v := 0) hx hb dX5_readTerm_10 (by decide) ?_
    refine lv_istore_n (lv' := [(2, .int 0), (0, .ref w), (1, .int 2)]) hx hb dX5_readTerm_11 rfl hl (by decide) rfl (fun ls hl => ?_)
    refine lp_m (α := Nat) (nL := 4) (fun a9 => 600 - a9) (fun a9 H9 l9 => (a9 ≤ 600) ∧ (WT B0 D cs T κ H9) ∧ (Fr B0 [10] κ H0 H9) ∧ (OkL B0 l9)) (fun a9 => [(2, .int (nI a9)), (0, .ref w), (1, .int 2)]) ?_ 0 _ _ _ ⟨(by show (0) ≤ 600; omega), hT, hF, hL⟩ (lv_sub hl [0, 1, 2] rfl)
    rintro k H locs ls ih1759 ⟨hk, hT, hF, hL⟩ hl
    have hl : lv_has ls 4 [(2, .int (nI k)), (0, .ref w), (1, .int 2)] := hl
    have hk : k ≤ 600 := hk
    refine lv_iload_n hx hb dX5_readTerm_12 rfl (lv_at hl 0 rfl) ?_
    refine lv_sipush (v := 600) hx hb dX5_readTerm_13 (by decide) ?_
    refine lv_icmp_ge (tgt := 79) hx hb dX5_readTerm_16 (by decide) (fun c1760 => ?_) (fun c1760 => ?_)
    · have c1760 : 600 ≤ k := (nI_leI (a := 600) (b := k) (by omega) (by omega)).mp c1760
      refine lv_iconst (v := 1) hx hb dX5_readTerm_79 (by decide) ?_
      exact en_i hx hb hr hlocks hL rfl (Nat.zero_le _) (Nat.zero_le _) dX5_readTerm_80 (⟨hT, hF, Or.inr rfl⟩)
    · have c1760 : ¬ 600 ≤ k := fun h9 => c1760 ((nI_leI (a := 600) (b := k) (by omega) (by omega)).mpr h9)
      refine lv_aload_n hx hb dX5_readTerm_19 rfl (lv_at hl 1 rfl) ?_
      refine lv_bipush (v := 42) hx hb dX5_readTerm_20 (by decide) ?_
      refine cv_i (As := [.int 42]) (rest := []) (b := w) ⟨hx, hb, hml, hown, hts⟩ (c_X5_isMark hT (w := w) hw (x := 42)) (cwV 1 hts gX5_readTerm_X5_isMark rfl rfl rfl hdX5_isMark_v ⟨Nat.le_of_ble_eq_true rfl, Nat.le_of_ble_eq_true rfl⟩) hN hE hL (rcv6 hN hT hw.1) rfl rfl hl.1 (Nat.le_of_ble_eq_true rfl) dX5_readTerm_22 (Nat.zero_le _) (Nat.zero_le _) (fun r1761 H1 locs hL hqr1761 => ?_)
      obtain ⟨h9, hqr1761⟩ := hqr1761; replace h9 := h9.symm; subst h9
      rcases hqr1761 with rfl | rfl
      · refine lv_if_ne (tgt := 37) hx hb dX5_readTerm_25 (by decide) (fun c9 => absurd (by decide) c9) (fun _ => ?_)
        refine lv_aload_n hx hb dX5_readTerm_28 rfl (lv_at hl 1 rfl) ?_
        refine lv_bipush (v := 47) hx hb dX5_readTerm_29 (by decide) ?_
        refine cv_i (As := [.int 47]) (rest := []) (b := w) ⟨hx, hb, hml, hown, hts⟩ (c_X5_isMark hT (w := w) hw (x := 47)) (cwV 1 hts gX5_readTerm_X5_isMark rfl rfl rfl hdX5_isMark_v ⟨Nat.le_of_ble_eq_true rfl, Nat.le_of_ble_eq_true rfl⟩) hN hE hL (rcv6 hN hT hw.1) rfl rfl hl.1 (Nat.le_of_ble_eq_true rfl) dX5_readTerm_31 (Nat.zero_le _) (Nat.zero_le _) (fun r1762 H1 locs hL hqr1762 => ?_)
        obtain ⟨h9, hqr1762⟩ := hqr1762; replace h9 := h9.symm; subst h9
        rcases hqr1762 with rfl | rfl
        · refine lv_if_eq (tgt := 79) hx hb dX5_readTerm_34 (by decide) (fun _ => ?_) (fun c9 => absurd (by decide) c9)
          refine lv_iconst (v := 1) hx hb dX5_readTerm_79 (by decide) ?_
          exact en_i hx hb hr hlocks hL rfl (Nat.zero_le _) (Nat.zero_le _) dX5_readTerm_80 (⟨hT, hF, Or.inr rfl⟩)
        · refine lv_if_eq (tgt := 79) hx hb dX5_readTerm_34 (by decide) (fun c9 => absurd c9 (by decide)) (fun _ => ?_)
          refine lv_aload_n hx hb dX5_readTerm_37 rfl (lv_at hl 1 rfl) ?_
          refine lv_bipush (v := 42) hx hb dX5_readTerm_38 (by decide) ?_
          refine cv_i (As := [.int 42]) (rest := []) (b := w) ⟨hx, hb, hml, hown, hts⟩ (c_X5_isMark hT (w := w) hw (x := 42)) (cwV 1 hts gX5_readTerm_X5_isMark rfl rfl rfl hdX5_isMark_v ⟨Nat.le_of_ble_eq_true rfl, Nat.le_of_ble_eq_true rfl⟩) hN hE hL (rcv6 hN hT hw.1) rfl rfl hl.1 (Nat.le_of_ble_eq_true rfl) dX5_readTerm_40 (Nat.zero_le _) (Nat.zero_le _) (fun r1763 H1 locs hL hqr1763 => ?_)
          obtain ⟨h9, hqr1763⟩ := hqr1763; replace h9 := h9.symm; subst h9
          rcases hqr1763 with rfl | rfl
          · refine lv_if_eq (tgt := 51) hx hb dX5_readTerm_43 (by decide) (fun _ => ?_) (fun c9 => absurd (by decide) c9)
            refine lv_bipush (v := (-8)) hx hb dX5_readTerm_51 (by decide) ?_
            refine lv_istore_n (lv' := [(3, .int (-8)), (2, .int (nI k)), (0, .ref w), (1, .int 2)]) hx hb dX5_readTerm_53 rfl hl (by decide) rfl (fun ls hl => ?_)
            refine lv_aload_n hx hb dX5_readTerm_54 rfl (lv_at hl 2 rfl) ?_
            refine cv_v (As := []) (rest := []) (b := w) ⟨hx, hb, hml, hown, hts⟩ (c_X5_step hT (w := w) hw) (cwV 0 hts gX5_readTerm_X5_step rfl rfl rfl hdX5_step_v ⟨Nat.le_of_ble_eq_true rfl, Nat.le_of_ble_eq_true rfl⟩) hN hE hL (rcv6 hN hT hw.1) rfl rfl hl.1 (Nat.le_of_ble_eq_true rfl) dX5_readTerm_55 (Nat.zero_le _) (Nat.zero_le _) (fun H1 locs hL hqr1764 => ?_)
            obtain ⟨hT1, hF1, hqr1764⟩ := hqr1764
            have hF := hF.tr (hF1.mono (by simp))
            have hT := hT1
            have f1765 := hqr1764
            refine lv_aload_n hx hb dX5_readTerm_58 rfl (lv_at hl 2 rfl) ?_
            refine lv_iload_n hx hb dX5_readTerm_59 rfl (lv_at hl 3 rfl) ?_
            refine cv_i (As := [.int 2]) (rest := []) (b := w) ⟨hx, hb, hml, hown, hts⟩ (c_X5_readFactor_d2 hT (w := w) hw) (cwV 1 hts gX5_readTerm_X5_readFactor rfl rfl rfl hdX5_readFactor_v ⟨Nat.le_of_ble_eq_true rfl, Nat.le_of_ble_eq_true rfl⟩) hN hE hL (rcv6 hN hT hw.1) rfl rfl hl.1 (Nat.le_of_ble_eq_true rfl) dX5_readTerm_60 (Nat.zero_le _) (Nat.zero_le _) (fun r1766 H1 locs hL hqr1766 => ?_)
            obtain ⟨hT1, hF1, hqr1766⟩ := hqr1766
            have hF := hF.tr (hF1.mono (by simp))
            have hT := hT1
            rcases hqr1766 with rfl | rfl
            · refine lv_if_ne (tgt := 68) hx hb dX5_readTerm_63 (by decide) (fun c9 => absurd (by decide) c9) (fun _ => ?_)
              refine lv_iconst (v := 0) hx hb dX5_readTerm_66 (by decide) ?_
              exact en_i hx hb hr hlocks hL rfl (Nat.zero_le _) (Nat.zero_le _) dX5_readTerm_67 (⟨hT, hF, Or.inl rfl⟩)
            · refine lv_if_ne (tgt := 68) hx hb dX5_readTerm_63 (by decide) (fun _ => ?_) (fun c9 => absurd c9 (by decide))
              refine lv_aload_n hx hb dX5_readTerm_68 rfl (lv_at hl 2 rfl) ?_
              refine lv_iload_n hx hb dX5_readTerm_69 rfl (lv_at hl 0 rfl) ?_
              refine cv_v (As := [.int (-8)]) (rest := []) (b := w) ⟨hx, hb, hml, hown, hts⟩ (c_X5_putCode hT (w := w) hw (x := (-8))) (cwV 1 hts gX5_readTerm_X5_putCode rfl rfl rfl hdX5_putCode_v ⟨Nat.le_of_ble_eq_true rfl, Nat.le_of_ble_eq_true rfl⟩) hN hE hL (rcv6 hN hT hw.1) rfl rfl hl.1 (Nat.le_of_ble_eq_true rfl) dX5_readTerm_70 (Nat.zero_le _) (Nat.zero_le _) (fun H1 locs hL hqr1767 => ?_)
              obtain ⟨hT1, hF1⟩ := hqr1767
              have hF := hF.tr (hF1.mono (by simp))
              have hT := hT1
              refine lv_iinc (v := (nI (k + 1))) (lv' := [(2, .int (nI (k + 1))), (3, .int (-8)), (0, .ref w), (1, .int 2)]) hx hb dX5_readTerm_73 hl (k := 1) rfl (nI_add _ 1) (by decide) rfl (fun ls hl => ?_)
              refine lv_goto (tgt := 12) hx hb dX5_readTerm_76 (by decide) ?_
              exact ih1759 (k + 1) _ _ _ (by show 600 - ((k + 1)) < 600 - k; omega) ⟨(by show ((k + 1)) ≤ 600; omega), hT, hF, hL⟩ (lv_sub hl [0, 2, 3] rfl)
          · refine lv_if_eq (tgt := 51) hx hb dX5_readTerm_43 (by decide) (fun c9 => absurd c9 (by decide)) (fun _ => ?_)
            refine lv_bipush (v := (-7)) hx hb dX5_readTerm_46 (by decide) ?_
            refine lv_goto (tgt := 53) hx hb dX5_readTerm_48 (by decide) ?_
            refine lv_istore_n (lv' := [(3, .int (-7)), (2, .int (nI k)), (0, .ref w), (1, .int 2)]) hx hb dX5_readTerm_53 rfl hl (by decide) rfl (fun ls hl => ?_)
            refine lv_aload_n hx hb dX5_readTerm_54 rfl (lv_at hl 2 rfl) ?_
            refine cv_v (As := []) (rest := []) (b := w) ⟨hx, hb, hml, hown, hts⟩ (c_X5_step hT (w := w) hw) (cwV 0 hts gX5_readTerm_X5_step rfl rfl rfl hdX5_step_v ⟨Nat.le_of_ble_eq_true rfl, Nat.le_of_ble_eq_true rfl⟩) hN hE hL (rcv6 hN hT hw.1) rfl rfl hl.1 (Nat.le_of_ble_eq_true rfl) dX5_readTerm_55 (Nat.zero_le _) (Nat.zero_le _) (fun H1 locs hL hqr1768 => ?_)
            obtain ⟨hT1, hF1, hqr1768⟩ := hqr1768
            have hF := hF.tr (hF1.mono (by simp))
            have hT := hT1
            have f1769 := hqr1768
            refine lv_aload_n hx hb dX5_readTerm_58 rfl (lv_at hl 2 rfl) ?_
            refine lv_iload_n hx hb dX5_readTerm_59 rfl (lv_at hl 3 rfl) ?_
            refine cv_i (As := [.int 2]) (rest := []) (b := w) ⟨hx, hb, hml, hown, hts⟩ (c_X5_readFactor_d2 hT (w := w) hw) (cwV 1 hts gX5_readTerm_X5_readFactor rfl rfl rfl hdX5_readFactor_v ⟨Nat.le_of_ble_eq_true rfl, Nat.le_of_ble_eq_true rfl⟩) hN hE hL (rcv6 hN hT hw.1) rfl rfl hl.1 (Nat.le_of_ble_eq_true rfl) dX5_readTerm_60 (Nat.zero_le _) (Nat.zero_le _) (fun r1770 H1 locs hL hqr1770 => ?_)
            obtain ⟨hT1, hF1, hqr1770⟩ := hqr1770
            have hF := hF.tr (hF1.mono (by simp))
            have hT := hT1
            rcases hqr1770 with rfl | rfl
            · refine lv_if_ne (tgt := 68) hx hb dX5_readTerm_63 (by decide) (fun c9 => absurd (by decide) c9) (fun _ => ?_)
              refine lv_iconst (v := 0) hx hb dX5_readTerm_66 (by decide) ?_
              exact en_i hx hb hr hlocks hL rfl (Nat.zero_le _) (Nat.zero_le _) dX5_readTerm_67 (⟨hT, hF, Or.inl rfl⟩)
            · refine lv_if_ne (tgt := 68) hx hb dX5_readTerm_63 (by decide) (fun _ => ?_) (fun c9 => absurd c9 (by decide))
              refine lv_aload_n hx hb dX5_readTerm_68 rfl (lv_at hl 2 rfl) ?_
              refine lv_iload_n hx hb dX5_readTerm_69 rfl (lv_at hl 0 rfl) ?_
              refine cv_v (As := [.int (-7)]) (rest := []) (b := w) ⟨hx, hb, hml, hown, hts⟩ (c_X5_putCode hT (w := w) hw (x := (-7))) (cwV 1 hts gX5_readTerm_X5_putCode rfl rfl rfl hdX5_putCode_v ⟨Nat.le_of_ble_eq_true rfl, Nat.le_of_ble_eq_true rfl⟩) hN hE hL (rcv6 hN hT hw.1) rfl rfl hl.1 (Nat.le_of_ble_eq_true rfl) dX5_readTerm_70 (Nat.zero_le _) (Nat.zero_le _) (fun H1 locs hL hqr1771 => ?_)
              obtain ⟨hT1, hF1⟩ := hqr1771
              have hF := hF.tr (hF1.mono (by simp))
              have hT := hT1
              refine lv_iinc (v := (nI (k + 1))) (lv' := [(2, .int (nI (k + 1))), (3, .int (-7)), (0, .ref w), (1, .int 2)]) hx hb dX5_readTerm_73 hl (k := 1) rfl (nI_add _ 1) (by decide) rfl (fun ls hl => ?_)
              refine lv_goto (tgt := 12) hx hb dX5_readTerm_76 (by decide) ?_
              exact ih1759 (k + 1) _ _ _ (by show 600 - ((k + 1)) < 600 - k; omega) ⟨(by show ((k + 1)) ≤ 600; omega), hT, hF, hL⟩ (lv_sub hl [0, 2, 3] rfl)
      · refine lv_if_ne (tgt := 37) hx hb dX5_readTerm_25 (by decide) (fun _ => ?_) (fun c9 => absurd c9 (by decide))
        refine lv_aload_n hx hb dX5_readTerm_37 rfl (lv_at hl 1 rfl) ?_
        refine lv_bipush (v := 42) hx hb dX5_readTerm_38 (by decide) ?_
        refine cv_i (As := [.int 42]) (rest := []) (b := w) ⟨hx, hb, hml, hown, hts⟩ (c_X5_isMark hT (w := w) hw (x := 42)) (cwV 1 hts gX5_readTerm_X5_isMark rfl rfl rfl hdX5_isMark_v ⟨Nat.le_of_ble_eq_true rfl, Nat.le_of_ble_eq_true rfl⟩) hN hE hL (rcv6 hN hT hw.1) rfl rfl hl.1 (Nat.le_of_ble_eq_true rfl) dX5_readTerm_40 (Nat.zero_le _) (Nat.zero_le _) (fun r1772 H1 locs hL hqr1772 => ?_)
        obtain ⟨h9, hqr1772⟩ := hqr1772; replace h9 := h9.symm; subst h9
        rcases hqr1772 with rfl | rfl
        · refine lv_if_eq (tgt := 51) hx hb dX5_readTerm_43 (by decide) (fun _ => ?_) (fun c9 => absurd (by decide) c9)
          refine lv_bipush (v := (-8)) hx hb dX5_readTerm_51 (by decide) ?_
          refine lv_istore_n (lv' := [(3, .int (-8)), (2, .int (nI k)), (0, .ref w), (1, .int 2)]) hx hb dX5_readTerm_53 rfl hl (by decide) rfl (fun ls hl => ?_)
          refine lv_aload_n hx hb dX5_readTerm_54 rfl (lv_at hl 2 rfl) ?_
          refine cv_v (As := []) (rest := []) (b := w) ⟨hx, hb, hml, hown, hts⟩ (c_X5_step hT (w := w) hw) (cwV 0 hts gX5_readTerm_X5_step rfl rfl rfl hdX5_step_v ⟨Nat.le_of_ble_eq_true rfl, Nat.le_of_ble_eq_true rfl⟩) hN hE hL (rcv6 hN hT hw.1) rfl rfl hl.1 (Nat.le_of_ble_eq_true rfl) dX5_readTerm_55 (Nat.zero_le _) (Nat.zero_le _) (fun H1 locs hL hqr1773 => ?_)
          obtain ⟨hT1, hF1, hqr1773⟩ := hqr1773
          have hF := hF.tr (hF1.mono (by simp))
          have hT := hT1
          have f1774 := hqr1773
          refine lv_aload_n hx hb dX5_readTerm_58 rfl (lv_at hl 2 rfl) ?_
          refine lv_iload_n hx hb dX5_readTerm_59 rfl (lv_at hl 3 rfl) ?_
          refine cv_i (As := [.int 2]) (rest := []) (b := w) ⟨hx, hb, hml, hown, hts⟩ (c_X5_readFactor_d2 hT (w := w) hw) (cwV 1 hts gX5_readTerm_X5_readFactor rfl rfl rfl hdX5_readFactor_v ⟨Nat.le_of_ble_eq_true rfl, Nat.le_of_ble_eq_true rfl⟩) hN hE hL (rcv6 hN hT hw.1) rfl rfl hl.1 (Nat.le_of_ble_eq_true rfl) dX5_readTerm_60 (Nat.zero_le _) (Nat.zero_le _) (fun r1775 H1 locs hL hqr1775 => ?_)
          obtain ⟨hT1, hF1, hqr1775⟩ := hqr1775
          have hF := hF.tr (hF1.mono (by simp))
          have hT := hT1
          rcases hqr1775 with rfl | rfl
          · refine lv_if_ne (tgt := 68) hx hb dX5_readTerm_63 (by decide) (fun c9 => absurd (by decide) c9) (fun _ => ?_)
            refine lv_iconst (v := 0) hx hb dX5_readTerm_66 (by decide) ?_
            exact en_i hx hb hr hlocks hL rfl (Nat.zero_le _) (Nat.zero_le _) dX5_readTerm_67 (⟨hT, hF, Or.inl rfl⟩)
          · refine lv_if_ne (tgt := 68) hx hb dX5_readTerm_63 (by decide) (fun _ => ?_) (fun c9 => absurd c9 (by decide))
            refine lv_aload_n hx hb dX5_readTerm_68 rfl (lv_at hl 2 rfl) ?_
            refine lv_iload_n hx hb dX5_readTerm_69 rfl (lv_at hl 0 rfl) ?_
            refine cv_v (As := [.int (-8)]) (rest := []) (b := w) ⟨hx, hb, hml, hown, hts⟩ (c_X5_putCode hT (w := w) hw (x := (-8))) (cwV 1 hts gX5_readTerm_X5_putCode rfl rfl rfl hdX5_putCode_v ⟨Nat.le_of_ble_eq_true rfl, Nat.le_of_ble_eq_true rfl⟩) hN hE hL (rcv6 hN hT hw.1) rfl rfl hl.1 (Nat.le_of_ble_eq_true rfl) dX5_readTerm_70 (Nat.zero_le _) (Nat.zero_le _) (fun H1 locs hL hqr1776 => ?_)
            obtain ⟨hT1, hF1⟩ := hqr1776
            have hF := hF.tr (hF1.mono (by simp))
            have hT := hT1
            refine lv_iinc (v := (nI (k + 1))) (lv' := [(2, .int (nI (k + 1))), (3, .int (-8)), (0, .ref w), (1, .int 2)]) hx hb dX5_readTerm_73 hl (k := 1) rfl (nI_add _ 1) (by decide) rfl (fun ls hl => ?_)
            refine lv_goto (tgt := 12) hx hb dX5_readTerm_76 (by decide) ?_
            exact ih1759 (k + 1) _ _ _ (by show 600 - ((k + 1)) < 600 - k; omega) ⟨(by show ((k + 1)) ≤ 600; omega), hT, hF, hL⟩ (lv_sub hl [0, 2, 3] rfl)
        · refine lv_if_eq (tgt := 51) hx hb dX5_readTerm_43 (by decide) (fun c9 => absurd c9 (by decide)) (fun _ => ?_)
          refine lv_bipush (v := (-7)) hx hb dX5_readTerm_46 (by decide) ?_
          refine lv_goto (tgt := 53) hx hb dX5_readTerm_48 (by decide) ?_
          refine lv_istore_n (lv' := [(3, .int (-7)), (2, .int (nI k)), (0, .ref w), (1, .int 2)]) hx hb dX5_readTerm_53 rfl hl (by decide) rfl (fun ls hl => ?_)
          refine lv_aload_n hx hb dX5_readTerm_54 rfl (lv_at hl 2 rfl) ?_
          refine cv_v (As := []) (rest := []) (b := w) ⟨hx, hb, hml, hown, hts⟩ (c_X5_step hT (w := w) hw) (cwV 0 hts gX5_readTerm_X5_step rfl rfl rfl hdX5_step_v ⟨Nat.le_of_ble_eq_true rfl, Nat.le_of_ble_eq_true rfl⟩) hN hE hL (rcv6 hN hT hw.1) rfl rfl hl.1 (Nat.le_of_ble_eq_true rfl) dX5_readTerm_55 (Nat.zero_le _) (Nat.zero_le _) (fun H1 locs hL hqr1777 => ?_)
          obtain ⟨hT1, hF1, hqr1777⟩ := hqr1777
          have hF := hF.tr (hF1.mono (by simp))
          have hT := hT1
          have f1778 := hqr1777
          refine lv_aload_n hx hb dX5_readTerm_58 rfl (lv_at hl 2 rfl) ?_
          refine lv_iload_n hx hb dX5_readTerm_59 rfl (lv_at hl 3 rfl) ?_
          refine cv_i (As := [.int 2]) (rest := []) (b := w) ⟨hx, hb, hml, hown, hts⟩ (c_X5_readFactor_d2 hT (w := w) hw) (cwV 1 hts gX5_readTerm_X5_readFactor rfl rfl rfl hdX5_readFactor_v ⟨Nat.le_of_ble_eq_true rfl, Nat.le_of_ble_eq_true rfl⟩) hN hE hL (rcv6 hN hT hw.1) rfl rfl hl.1 (Nat.le_of_ble_eq_true rfl) dX5_readTerm_60 (Nat.zero_le _) (Nat.zero_le _) (fun r1779 H1 locs hL hqr1779 => ?_)
          obtain ⟨hT1, hF1, hqr1779⟩ := hqr1779
          have hF := hF.tr (hF1.mono (by simp))
          have hT := hT1
          rcases hqr1779 with rfl | rfl
          · refine lv_if_ne (tgt := 68) hx hb dX5_readTerm_63 (by decide) (fun c9 => absurd (by decide) c9) (fun _ => ?_)
            refine lv_iconst (v := 0) hx hb dX5_readTerm_66 (by decide) ?_
            exact en_i hx hb hr hlocks hL rfl (Nat.zero_le _) (Nat.zero_le _) dX5_readTerm_67 (⟨hT, hF, Or.inl rfl⟩)
          · refine lv_if_ne (tgt := 68) hx hb dX5_readTerm_63 (by decide) (fun _ => ?_) (fun c9 => absurd c9 (by decide))
            refine lv_aload_n hx hb dX5_readTerm_68 rfl (lv_at hl 2 rfl) ?_
            refine lv_iload_n hx hb dX5_readTerm_69 rfl (lv_at hl 0 rfl) ?_
            refine cv_v (As := [.int (-7)]) (rest := []) (b := w) ⟨hx, hb, hml, hown, hts⟩ (c_X5_putCode hT (w := w) hw (x := (-7))) (cwV 1 hts gX5_readTerm_X5_putCode rfl rfl rfl hdX5_putCode_v ⟨Nat.le_of_ble_eq_true rfl, Nat.le_of_ble_eq_true rfl⟩) hN hE hL (rcv6 hN hT hw.1) rfl rfl hl.1 (Nat.le_of_ble_eq_true rfl) dX5_readTerm_70 (Nat.zero_le _) (Nat.zero_le _) (fun H1 locs hL hqr1780 => ?_)
            obtain ⟨hT1, hF1⟩ := hqr1780
            have hF := hF.tr (hF1.mono (by simp))
            have hT := hT1
            refine lv_iinc (v := (nI (k + 1))) (lv' := [(2, .int (nI (k + 1))), (3, .int (-7)), (0, .ref w), (1, .int 2)]) hx hb dX5_readTerm_73 hl (k := 1) rfl (nI_add _ 1) (by decide) rfl (fun ls hl => ?_)
            refine lv_goto (tgt := 12) hx hb dX5_readTerm_76 (by decide) ?_
            exact ih1759 (k + 1) _ _ _ (by show 600 - ((k + 1)) < 600 - k; omega) ⟨(by show ((k + 1)) ≤ 600; omega), hT, hF, hL⟩ (lv_sub hl [0, 2, 3] rfl)
set_option maxHeartbeats 4000000 in
set_option maxRecDepth 100000 in
theorem c_X5_readSum_d2 {l : Launch} {D : va_G} {cs : Nat → ClassId} {B0 T : Nat} {κ : KM} {H0 : Heap} (hT : WT B0 D cs T κ H0) {w : Nat} (hw : T2 κ w 6 10) : KC l yX5_readSum wsX5_readSum 14 308 0 0 D cs B0 H0 [.ref w, .int 2] (Qi (fun r H => WT B0 D cs T κ H ∧ Fr B0 [10] κ H0 H ∧ (r = 0 ∨ r = 1))) := by
  refine KC.of cX5_readSum 4 (some .boolean) (by decide) rfl (Nat.le_of_ble_eq_true rfl) ?_
  intro p e s m below meth c ls hx hb hr hml hown hts hlocks hin hN hE hH0 hl
  have hown : s.vm.findClass RX5 = some m.cls := hown
  have hl : lv_has ls 4 [(0, .ref w), (1, .int 2)] := hl
  have hL : OkL B0 [] := OkL.nil
  have hF : Fr B0 [10] κ H0 H0 := Fr.rf
  refine lv_aload_n hx hb dX5_readSum_0 rfl (lv_at hl 0 rfl) ?_
  refine lv_iload_n hx hb dX5_readSum_1 rfl (lv_at hl 1 rfl) ?_
  refine cv_i (As := [.int 2]) (rest := []) (b := w) ⟨hx, hb, hml, hown, hts⟩ (c_X5_readTerm_d2 hT (w := w) hw) (cwV 1 hts gX5_readSum_X5_readTerm rfl rfl rfl hdX5_readTerm_v ⟨Nat.le_of_ble_eq_true rfl, Nat.le_of_ble_eq_true rfl⟩) hN hE hL (rcv6 hN hT hw.1) rfl rfl hl.1 (Nat.le_of_ble_eq_true rfl) dX5_readSum_2 (Nat.zero_le _) (Nat.zero_le _) (fun r1781 H1 locs hL hqr1781 => ?_)
  obtain ⟨hT1, hF1, hqr1781⟩ := hqr1781
  have hF := hF.tr (hF1.mono (by simp))
  have hT := hT1
  rcases hqr1781 with rfl | rfl
  · refine lv_if_ne (tgt := 10) hx hb dX5_readSum_5 (by decide) (fun c9 => absurd (by decide) c9) (fun _ => ?_)
    refine lv_iconst (v := 0) hx hb dX5_readSum_8 (by decide) ?_
    exact en_i hx hb hr hlocks hL rfl (Nat.zero_le _) (Nat.zero_le _) dX5_readSum_9 (⟨hT, hF, Or.inl rfl⟩)
  · refine lv_if_ne (tgt := 10) hx hb dX5_readSum_5 (by decide) (fun _ => ?_) (fun c9 => absurd c9 (by decide))
    refine lv_iconst (v := 0) hx hb dX5_readSum_10 (by decide) ?_
    refine lv_istore_n (lv' := [(2, .int 0), (0, .ref w), (1, .int 2)]) hx hb dX5_readSum_11 rfl hl (by decide) rfl (fun ls hl => ?_)
    refine lp_m (α := Nat) (nL := 4) (fun a9 => 600 - a9) (fun a9 H9 l9 => (a9 ≤ 600) ∧ (WT B0 D cs T κ H9) ∧ (Fr B0 [10] κ H0 H9) ∧ (OkL B0 l9)) (fun a9 => [(2, .int (nI a9)), (0, .ref w), (1, .int 2)]) ?_ 0 _ _ _ ⟨(by show (0) ≤ 600; omega), hT, hF, hL⟩ (lv_sub hl [0, 1, 2] rfl)
    rintro k H locs ls ih1782 ⟨hk, hT, hF, hL⟩ hl
    have hl : lv_has ls 4 [(2, .int (nI k)), (0, .ref w), (1, .int 2)] := hl
    have hk : k ≤ 600 := hk
    refine lv_iload_n hx hb dX5_readSum_12 rfl (lv_at hl 0 rfl) ?_
    refine lv_sipush (v := 600) hx hb dX5_readSum_13 (by decide) ?_
    refine lv_icmp_ge (tgt := 79) hx hb dX5_readSum_16 (by decide) (fun c1783 => ?_) (fun c1783 => ?_)
    · have c1783 : 600 ≤ k := (nI_leI (a := 600) (b := k) (by omega) (by omega)).mp c1783
      refine lv_iconst (v := 1) hx hb dX5_readSum_79 (by decide) ?_
      exact en_i hx hb hr hlocks hL rfl (Nat.zero_le _) (Nat.zero_le _) dX5_readSum_80 (⟨hT, hF, Or.inr rfl⟩)
    · have c1783 : ¬ 600 ≤ k := fun h9 => c1783 ((nI_leI (a := 600) (b := k) (by omega) (by omega)).mpr h9)
      refine lv_aload_n hx hb dX5_readSum_19 rfl (lv_at hl 1 rfl) ?_
      refine lv_bipush (v := 43) hx hb dX5_readSum_20 (by decide) ?_
      refine cv_i (As := [.int 43]) (rest := []) (b := w) ⟨hx, hb, hml, hown, hts⟩ (c_X5_isMark hT (w := w) hw (x := 43)) (cwV 1 hts gX5_readSum_X5_isMark rfl rfl rfl hdX5_isMark_v ⟨Nat.le_of_ble_eq_true rfl, Nat.le_of_ble_eq_true rfl⟩) hN hE hL (rcv6 hN hT hw.1) rfl rfl hl.1 (Nat.le_of_ble_eq_true rfl) dX5_readSum_22 (Nat.zero_le _) (Nat.zero_le _) (fun r1784 H1 locs hL hqr1784 => ?_)
      obtain ⟨h9, hqr1784⟩ := hqr1784; replace h9 := h9.symm; subst h9
      rcases hqr1784 with rfl | rfl
      · refine lv_if_ne (tgt := 37) hx hb dX5_readSum_25 (by decide) (fun c9 => absurd (by decide) c9) (fun _ => ?_)
        refine lv_aload_n hx hb dX5_readSum_28 rfl (lv_at hl 1 rfl) ?_
        refine lv_bipush (v := 45) hx hb dX5_readSum_29 (by decide) ?_
        refine cv_i (As := [.int 45]) (rest := []) (b := w) ⟨hx, hb, hml, hown, hts⟩ (c_X5_isMark hT (w := w) hw (x := 45)) (cwV 1 hts gX5_readSum_X5_isMark rfl rfl rfl hdX5_isMark_v ⟨Nat.le_of_ble_eq_true rfl, Nat.le_of_ble_eq_true rfl⟩) hN hE hL (rcv6 hN hT hw.1) rfl rfl hl.1 (Nat.le_of_ble_eq_true rfl) dX5_readSum_31 (Nat.zero_le _) (Nat.zero_le _) (fun r1785 H1 locs hL hqr1785 => ?_)
        obtain ⟨h9, hqr1785⟩ := hqr1785; replace h9 := h9.symm; subst h9
        rcases hqr1785 with rfl | rfl
        · refine lv_if_eq (tgt := 79) hx hb dX5_readSum_34 (by decide) (fun _ => ?_) (fun c9 => absurd (by decide) c9)
          refine lv_iconst (v := 1) hx hb dX5_readSum_79 (by decide) ?_
          exact en_i hx hb hr hlocks hL rfl (Nat.zero_le _) (Nat.zero_le _) dX5_readSum_80 (⟨hT, hF, Or.inr rfl⟩)
        · refine lv_if_eq (tgt := 79) hx hb dX5_readSum_34 (by decide) (fun c9 => absurd c9 (by decide)) (fun _ => ?_)
          refine lv_aload_n hx hb dX5_readSum_37 rfl (lv_at hl 1 rfl) ?_
          refine lv_bipush (v := 43) hx hb dX5_readSum_38 (by decide) ?_
          refine cv_i (As := [.int 43]) (rest := []) (b := w) ⟨hx, hb, hml, hown, hts⟩ (c_X5_isMark hT (w := w) hw (x := 43)) (cwV 1 hts gX5_readSum_X5_isMark rfl rfl rfl hdX5_isMark_v ⟨Nat.le_of_ble_eq_true rfl, Nat.le_of_ble_eq_true rfl⟩) hN hE hL (rcv6 hN hT hw.1) rfl rfl hl.1 (Nat.le_of_ble_eq_true rfl) dX5_readSum_40 (Nat.zero_le _) (Nat.zero_le _) (fun r1786 H1 locs hL hqr1786 => ?_)
          obtain ⟨h9, hqr1786⟩ := hqr1786; replace h9 := h9.symm; subst h9
          rcases hqr1786 with rfl | rfl
          · refine lv_if_eq (tgt := 51) hx hb dX5_readSum_43 (by decide) (fun _ => ?_) (fun c9 => absurd (by decide) c9)
            refine lv_bipush (v := (-6)) hx hb dX5_readSum_51 (by decide) ?_
            refine lv_istore_n (lv' := [(3, .int (-6)), (2, .int (nI k)), (0, .ref w), (1, .int 2)]) hx hb dX5_readSum_53 rfl hl (by decide) rfl (fun ls hl => ?_)
            refine lv_aload_n hx hb dX5_readSum_54 rfl (lv_at hl 2 rfl) ?_
            refine cv_v (As := []) (rest := []) (b := w) ⟨hx, hb, hml, hown, hts⟩ (c_X5_step hT (w := w) hw) (cwV 0 hts gX5_readSum_X5_step rfl rfl rfl hdX5_step_v ⟨Nat.le_of_ble_eq_true rfl, Nat.le_of_ble_eq_true rfl⟩) hN hE hL (rcv6 hN hT hw.1) rfl rfl hl.1 (Nat.le_of_ble_eq_true rfl) dX5_readSum_55 (Nat.zero_le _) (Nat.zero_le _) (fun H1 locs hL hqr1787 => ?_)
            obtain ⟨hT1, hF1, hqr1787⟩ := hqr1787
            have hF := hF.tr (hF1.mono (by simp))
            have hT := hT1
            have f1788 := hqr1787
            refine lv_aload_n hx hb dX5_readSum_58 rfl (lv_at hl 2 rfl) ?_
            refine lv_iload_n hx hb dX5_readSum_59 rfl (lv_at hl 3 rfl) ?_
            refine cv_i (As := [.int 2]) (rest := []) (b := w) ⟨hx, hb, hml, hown, hts⟩ (c_X5_readTerm_d2 hT (w := w) hw) (cwV 1 hts gX5_readSum_X5_readTerm rfl rfl rfl hdX5_readTerm_v ⟨Nat.le_of_ble_eq_true rfl, Nat.le_of_ble_eq_true rfl⟩) hN hE hL (rcv6 hN hT hw.1) rfl rfl hl.1 (Nat.le_of_ble_eq_true rfl) dX5_readSum_60 (Nat.zero_le _) (Nat.zero_le _) (fun r1789 H1 locs hL hqr1789 => ?_)
            obtain ⟨hT1, hF1, hqr1789⟩ := hqr1789
            have hF := hF.tr (hF1.mono (by simp))
            have hT := hT1
            rcases hqr1789 with rfl | rfl
            · refine lv_if_ne (tgt := 68) hx hb dX5_readSum_63 (by decide) (fun c9 => absurd (by decide) c9) (fun _ => ?_)
              refine lv_iconst (v := 0) hx hb dX5_readSum_66 (by decide) ?_
              exact en_i hx hb hr hlocks hL rfl (Nat.zero_le _) (Nat.zero_le _) dX5_readSum_67 (⟨hT, hF, Or.inl rfl⟩)
            · refine lv_if_ne (tgt := 68) hx hb dX5_readSum_63 (by decide) (fun _ => ?_) (fun c9 => absurd c9 (by decide))
              refine lv_aload_n hx hb dX5_readSum_68 rfl (lv_at hl 2 rfl) ?_
              refine lv_iload_n hx hb dX5_readSum_69 rfl (lv_at hl 0 rfl) ?_
              refine cv_v (As := [.int (-6)]) (rest := []) (b := w) ⟨hx, hb, hml, hown, hts⟩ (c_X5_putCode hT (w := w) hw (x := (-6))) (cwV 1 hts gX5_readSum_X5_putCode rfl rfl rfl hdX5_putCode_v ⟨Nat.le_of_ble_eq_true rfl, Nat.le_of_ble_eq_true rfl⟩) hN hE hL (rcv6 hN hT hw.1) rfl rfl hl.1 (Nat.le_of_ble_eq_true rfl) dX5_readSum_70 (Nat.zero_le _) (Nat.zero_le _) (fun H1 locs hL hqr1790 => ?_)
              obtain ⟨hT1, hF1⟩ := hqr1790
              have hF := hF.tr (hF1.mono (by simp))
              have hT := hT1
              refine lv_iinc (v := (nI (k + 1))) (lv' := [(2, .int (nI (k + 1))), (3, .int (-6)), (0, .ref w), (1, .int 2)]) hx hb dX5_readSum_73 hl (k := 1) rfl (nI_add _ 1) (by decide) rfl (fun ls hl => ?_)
              refine lv_goto (tgt := 12) hx hb dX5_readSum_76 (by decide) ?_
              exact ih1782 (k + 1) _ _ _ (by show 600 - ((k + 1)) < 600 - k; omega) ⟨(by show ((k + 1)) ≤ 600; omega), hT, hF, hL⟩ (lv_sub hl [0, 2, 3] rfl)
          · refine lv_if_eq (tgt := 51) hx hb dX5_readSum_43 (by decide) (fun c9 => absurd c9 (by decide)) (fun _ => ?_)
            refine lv_bipush (v := (-5)) hx hb dX5_readSum_46 (by decide) ?_
            refine lv_goto (tgt := 53) hx hb dX5_readSum_48 (by decide) ?_
            refine lv_istore_n (lv' := [(3, .int (-5)), (2, .int (nI k)), (0, .ref w), (1, .int 2)]) hx hb dX5_readSum_53 rfl hl (by decide) rfl (fun ls hl => ?_)
            refine lv_aload_n hx hb dX5_readSum_54 rfl (lv_at hl 2 rfl) ?_
            refine cv_v (As := []) (rest := []) (b := w) ⟨hx, hb, hml, hown, hts⟩ (c_X5_step hT (w := w) hw) (cwV 0 hts gX5_readSum_X5_step rfl rfl rfl hdX5_step_v ⟨Nat.le_of_ble_eq_true rfl, Nat.le_of_ble_eq_true rfl⟩) hN hE hL (rcv6 hN hT hw.1) rfl rfl hl.1 (Nat.le_of_ble_eq_true rfl) dX5_readSum_55 (Nat.zero_le _) (Nat.zero_le _) (fun H1 locs hL hqr1791 => ?_)
            obtain ⟨hT1, hF1, hqr1791⟩ := hqr1791
            have hF := hF.tr (hF1.mono (by simp))
            have hT := hT1
            have f1792 := hqr1791
            refine lv_aload_n hx hb dX5_readSum_58 rfl (lv_at hl 2 rfl) ?_
            refine lv_iload_n hx hb dX5_readSum_59 rfl (lv_at hl 3 rfl) ?_
            refine cv_i (As := [.int 2]) (rest := []) (b := w) ⟨hx, hb, hml, hown, hts⟩ (c_X5_readTerm_d2 hT (w := w) hw) (cwV 1 hts gX5_readSum_X5_readTerm rfl rfl rfl hdX5_readTerm_v ⟨Nat.le_of_ble_eq_true rfl, Nat.le_of_ble_eq_true rfl⟩) hN hE hL (rcv6 hN hT hw.1) rfl rfl hl.1 (Nat.le_of_ble_eq_true rfl) dX5_readSum_60 (Nat.zero_le _) (Nat.zero_le _) (fun r1793 H1 locs hL hqr1793 => ?_)
            obtain ⟨hT1, hF1, hqr1793⟩ := hqr1793
            have hF := hF.tr (hF1.mono (by simp))
            have hT := hT1
            rcases hqr1793 with rfl | rfl
            · refine lv_if_ne (tgt := 68) hx hb dX5_readSum_63 (by decide) (fun c9 => absurd (by decide) c9) (fun _ => ?_)
              refine lv_iconst (v := 0) hx hb dX5_readSum_66 (by decide) ?_
              exact en_i hx hb hr hlocks hL rfl (Nat.zero_le _) (Nat.zero_le _) dX5_readSum_67 (⟨hT, hF, Or.inl rfl⟩)
            · refine lv_if_ne (tgt := 68) hx hb dX5_readSum_63 (by decide) (fun _ => ?_) (fun c9 => absurd c9 (by decide))
              refine lv_aload_n hx hb dX5_readSum_68 rfl (lv_at hl 2 rfl) ?_
              refine lv_iload_n hx hb dX5_readSum_69 rfl (lv_at hl 0 rfl) ?_
              refine cv_v (As := [.int (-5)]) (rest := []) (b := w) ⟨hx, hb, hml, hown, hts⟩ (c_X5_putCode hT (w := w) hw (x := (-5))) (cwV 1 hts gX5_readSum_X5_putCode rfl rfl rfl hdX5_putCode_v ⟨Nat.le_of_ble_eq_true rfl, Nat.le_of_ble_eq_true rfl⟩) hN hE hL (rcv6 hN hT hw.1) rfl rfl hl.1 (Nat.le_of_ble_eq_true rfl) dX5_readSum_70 (Nat.zero_le _) (Nat.zero_le _) (fun H1 locs hL hqr1794 => ?_)
              obtain ⟨hT1, hF1⟩ := hqr1794
              have hF := hF.tr (hF1.mono (by simp))
              have hT := hT1
              refine lv_iinc (v := (nI (k + 1))) (lv' := [(2, .int (nI (k + 1))), (3, .int (-5)), (0, .ref w), (1, .int 2)]) hx hb dX5_readSum_73 hl (k := 1) rfl (nI_add _ 1) (by decide) rfl (fun ls hl => ?_)
              refine lv_goto (tgt := 12) hx hb dX5_readSum_76 (by decide) ?_
              exact ih1782 (k + 1) _ _ _ (by show 600 - ((k + 1)) < 600 - k; omega) ⟨(by show ((k + 1)) ≤ 600; omega), hT, hF, hL⟩ (lv_sub hl [0, 2, 3] rfl)
      · refine lv_if_ne (tgt := 37) hx hb dX5_readSum_25 (by decide) (fun _ => ?_) (fun c9 => absurd c9 (by decide))
        refine lv_aload_n hx hb dX5_readSum_37 rfl (lv_at hl 1 rfl) ?_
        refine lv_bipush (v := 43) hx hb dX5_readSum_38 (by decide) ?_
        refine cv_i (As := [.int 43]) (rest := []) (b := w) ⟨hx, hb, hml, hown, hts⟩ (c_X5_isMark hT (w := w) hw (x := 43)) (cwV 1 hts gX5_readSum_X5_isMark rfl rfl rfl hdX5_isMark_v ⟨Nat.le_of_ble_eq_true rfl, Nat.le_of_ble_eq_true rfl⟩) hN hE hL (rcv6 hN hT hw.1) rfl rfl hl.1 (Nat.le_of_ble_eq_true rfl) dX5_readSum_40 (Nat.zero_le _) (Nat.zero_le _) (fun r1795 H1 locs hL hqr1795 => ?_)
        obtain ⟨h9, hqr1795⟩ := hqr1795; replace h9 := h9.symm; subst h9
        rcases hqr1795 with rfl | rfl
        · refine lv_if_eq (tgt := 51) hx hb dX5_readSum_43 (by decide) (fun _ => ?_) (fun c9 => absurd (by decide) c9)
          refine lv_bipush (v := (-6)) hx hb dX5_readSum_51 (by decide) ?_
          refine lv_istore_n (lv' := [(3, .int (-6)), (2, .int (nI k)), (0, .ref w), (1, .int 2)]) hx hb dX5_readSum_53 rfl hl (by decide) rfl (fun ls hl => ?_)
          refine lv_aload_n hx hb dX5_readSum_54 rfl (lv_at hl 2 rfl) ?_
          refine cv_v (As := []) (rest := []) (b := w) ⟨hx, hb, hml, hown, hts⟩ (c_X5_step hT (w := w) hw) (cwV 0 hts gX5_readSum_X5_step rfl rfl rfl hdX5_step_v ⟨Nat.le_of_ble_eq_true rfl, Nat.le_of_ble_eq_true rfl⟩) hN hE hL (rcv6 hN hT hw.1) rfl rfl hl.1 (Nat.le_of_ble_eq_true rfl) dX5_readSum_55 (Nat.zero_le _) (Nat.zero_le _) (fun H1 locs hL hqr1796 => ?_)
          obtain ⟨hT1, hF1, hqr1796⟩ := hqr1796
          have hF := hF.tr (hF1.mono (by simp))
          have hT := hT1
          have f1797 := hqr1796
          refine lv_aload_n hx hb dX5_readSum_58 rfl (lv_at hl 2 rfl) ?_
          refine lv_iload_n hx hb dX5_readSum_59 rfl (lv_at hl 3 rfl) ?_
          refine cv_i (As := [.int 2]) (rest := []) (b := w) ⟨hx, hb, hml, hown, hts⟩ (c_X5_readTerm_d2 hT (w := w) hw) (cwV 1 hts gX5_readSum_X5_readTerm rfl rfl rfl hdX5_readTerm_v ⟨Nat.le_of_ble_eq_true rfl, Nat.le_of_ble_eq_true rfl⟩) hN hE hL (rcv6 hN hT hw.1) rfl rfl hl.1 (Nat.le_of_ble_eq_true rfl) dX5_readSum_60 (Nat.zero_le _) (Nat.zero_le _) (fun r1798 H1 locs hL hqr1798 => ?_)
          obtain ⟨hT1, hF1, hqr1798⟩ := hqr1798
          have hF := hF.tr (hF1.mono (by simp))
          have hT := hT1
          rcases hqr1798 with rfl | rfl
          · refine lv_if_ne (tgt := 68) hx hb dX5_readSum_63 (by decide) (fun c9 => absurd (by decide) c9) (fun _ => ?_)
            refine lv_iconst (v := 0) hx hb dX5_readSum_66 (by decide) ?_
            exact en_i hx hb hr hlocks hL rfl (Nat.zero_le _) (Nat.zero_le _) dX5_readSum_67 (⟨hT, hF, Or.inl rfl⟩)
          · refine lv_if_ne (tgt := 68) hx hb dX5_readSum_63 (by decide) (fun _ => ?_) (fun c9 => absurd c9 (by decide))
            refine lv_aload_n hx hb dX5_readSum_68 rfl (lv_at hl 2 rfl) ?_
            refine lv_iload_n hx hb dX5_readSum_69 rfl (lv_at hl 0 rfl) ?_
            refine cv_v (As := [.int (-6)]) (rest := []) (b := w) ⟨hx, hb, hml, hown, hts⟩ (c_X5_putCode hT (w := w) hw (x := (-6))) (cwV 1 hts gX5_readSum_X5_putCode rfl rfl rfl hdX5_putCode_v ⟨Nat.le_of_ble_eq_true rfl, Nat.le_of_ble_eq_true rfl⟩) hN hE hL (rcv6 hN hT hw.1) rfl rfl hl.1 (Nat.le_of_ble_eq_true rfl) dX5_readSum_70 (Nat.zero_le _) (Nat.zero_le _) (fun H1 locs hL hqr1799 => ?_)
            obtain ⟨hT1, hF1⟩ := hqr1799
            have hF := hF.tr (hF1.mono (by simp))
            have hT := hT1
            refine lv_iinc (v := (nI (k + 1))) (lv' := [(2, .int (nI (k + 1))), (3, .int (-6)), (0, .ref w), (1, .int 2)]) hx hb dX5_readSum_73 hl (k := 1) rfl (nI_add _ 1) (by decide) rfl (fun ls hl => ?_)
            refine lv_goto (tgt := 12) hx hb dX5_readSum_76 (by decide) ?_
            exact ih1782 (k + 1) _ _ _ (by show 600 - ((k + 1)) < 600 - k; omega) ⟨(by show ((k + 1)) ≤ 600; omega), hT, hF, hL⟩ (lv_sub hl [0, 2, 3] rfl)
        · refine lv_if_eq (tgt := 51) hx hb dX5_readSum_43 (by decide) (fun c9 => absurd c9 (by decide)) (fun _ => ?_)
          refine lv_bipush (v := (-5)) hx hb dX5_readSum_46 (by decide) ?_
          refine lv_goto (tgt := 53) hx hb dX5_readSum_48 (by decide) ?_
          refine lv_istore_n (lv' := [(3, .int (-5)), (2, .int (nI k)), (0, .ref w), (1, .int 2)]) hx hb dX5_readSum_53 rfl hl (by decide) rfl (fun ls hl => ?_)
          refine lv_aload_n hx hb dX5_readSum_54 rfl (lv_at hl 2 rfl) ?_
          refine cv_v (As := []) (rest := []) (b := w) ⟨hx, hb, hml, hown, hts⟩ (c_X5_step hT (w := w) hw) (cwV 0 hts gX5_readSum_X5_step rfl rfl rfl hdX5_step_v ⟨Nat.le_of_ble_eq_true rfl, Nat.le_of_ble_eq_true rfl⟩) hN hE hL (rcv6 hN hT hw.1) rfl rfl hl.1 (Nat.le_of_ble_eq_true rfl) dX5_readSum_55 (Nat.zero_le _) (Nat.zero_le _) (fun H1 locs hL hqr1800 => ?_)
          obtain ⟨hT1, hF1, hqr1800⟩ := hqr1800
          have hF := hF.tr (hF1.mono (by simp))
          have hT := hT1
          have f1801 := hqr1800
          refine lv_aload_n hx hb dX5_readSum_58 rfl (lv_at hl 2 rfl) ?_
          refine lv_iload_n hx hb dX5_readSum_59 rfl (lv_at hl 3 rfl) ?_
          refine cv_i (As := [.int 2]) (rest := []) (b := w) ⟨hx, hb, hml, hown, hts⟩ (c_X5_readTerm_d2 hT (w := w) hw) (cwV 1 hts gX5_readSum_X5_readTerm rfl rfl rfl hdX5_readTerm_v ⟨Nat.le_of_ble_eq_true rfl, Nat.le_of_ble_eq_true rfl⟩) hN hE hL (rcv6 hN hT hw.1) rfl rfl hl.1 (Nat.le_of_ble_eq_true rfl) dX5_readSum_60 (Nat.zero_le _) (Nat.zero_le _) (fun r1802 H1 locs hL hqr1802 => ?_)
          obtain ⟨hT1, hF1, hqr1802⟩ := hqr1802
          have hF := hF.tr (hF1.mono (by simp))
          have hT := hT1
          rcases hqr1802 with rfl | rfl
          · refine lv_if_ne (tgt := 68) hx hb dX5_readSum_63 (by decide) (fun c9 => absurd (by decide) c9) (fun _ => ?_)
            refine lv_iconst (v := 0) hx hb dX5_readSum_66 (by decide) ?_
            exact en_i hx hb hr hlocks hL rfl (Nat.zero_le _) (Nat.zero_le _) dX5_readSum_67 (⟨hT, hF, Or.inl rfl⟩)
          · refine lv_if_ne (tgt := 68) hx hb dX5_readSum_63 (by decide) (fun _ => ?_) (fun c9 => absurd c9 (by decide))
            refine lv_aload_n hx hb dX5_readSum_68 rfl (lv_at hl 2 rfl) ?_
            refine lv_iload_n hx hb dX5_readSum_69 rfl (lv_at hl 0 rfl) ?_
            refine cv_v (As := [.int (-5)]) (rest := []) (b := w) ⟨hx, hb, hml, hown, hts⟩ (c_X5_putCode hT (w := w) hw (x := (-5))) (cwV 1 hts gX5_readSum_X5_putCode rfl rfl rfl hdX5_putCode_v ⟨Nat.le_of_ble_eq_true rfl, Nat.le_of_ble_eq_true rfl⟩) hN hE hL (rcv6 hN hT hw.1) rfl rfl hl.1 (Nat.le_of_ble_eq_true rfl) dX5_readSum_70 (Nat.zero_le _) (Nat.zero_le _) (fun H1 locs hL hqr1803 => ?_)
            obtain ⟨hT1, hF1⟩ := hqr1803
            have hF := hF.tr (hF1.mono (by simp))
            have hT := hT1
            refine lv_iinc (v := (nI (k + 1))) (lv' := [(2, .int (nI (k + 1))), (3, .int (-5)), (0, .ref w), (1, .int 2)]) hx hb dX5_readSum_73 hl (k := 1) rfl (nI_add _ 1) (by decide) rfl (fun ls hl => ?_)
            refine lv_goto (tgt := 12) hx hb dX5_readSum_76 (by decide) ?_
            exact ih1782 (k + 1) _ _ _ (by show 600 - ((k + 1)) < 600 - k; omega) ⟨(by show ((k + 1)) ≤ 600; omega), hT, hF, hL⟩ (lv_sub hl [0, 2, 3] rfl)
set_option maxHeartbeats 4000000 in
set_option maxRecDepth 100000 in
theorem c_X5_readFactor_d1 {l : Launch} {D : va_G} {cs : Nat → ClassId} {B0 T : Nat} {κ : KM} {H0 : Heap} (hT : WT B0 D cs T κ H0) {w : Nat} (hw : T2 κ w 6 10) : KC l yX5_readFactor wsX5_readFactor 15 331 0 0 D cs B0 H0 [.ref w, .int 1] (Qi (fun r H => WT B0 D cs T κ H ∧ Fr B0 [10] κ H0 H ∧ (r = 0 ∨ r = 1))) := by
  refine KC.of cX5_readFactor 3 (some .boolean) (by decide) rfl (Nat.le_of_ble_eq_true rfl) ?_
  intro p e s m below meth c ls hx hb hr hml hown hts hlocks hin hN hE hH0 hl
  have hown : s.vm.findClass RX5 = some m.cls := hown
  have hl : lv_has ls 3 [(0, .ref w), (1, .int 1)] := hl
  have hL : OkL B0 [] := OkL.nil
  have hF : Fr B0 [10] κ H0 H0 := Fr.rf
  refine lv_aload_n hx hb dX5_readFactor_0 rfl (lv_at hl 0 rfl) ?_
  obtain ⟨hb1804, e1804, hat1804, hk1804⟩ := hT.o6 hw.1
  obtain ⟨f1804_0, f1804_2, f1804_3, f1804_4, f1804_5, f1804_6, f1804_7, f1804_8, f1804_9, f1804_10, f1804_11, f1804_12, f1804_13, rfl, c1804_1, c1804_2, c1804_3, c1804_5, c1804_10, t1804_0, t1804_9, c1804_11, c1804_p2⟩ := hk1804
  have hP : va_P D vwCl [(w, .inr (5, [.ref f1804_0, .int (nI ((κ w).2.2.1)), .int (nI f1804_2), .int (nI f1804_3), .int f1804_4, .int (nI f1804_5), .int f1804_6, .int f1804_7, .int f1804_8, .ref f1804_9, .int (nI f1804_10), f1804_11, .int f1804_12, .int f1804_13]))] _ := va_P.cons hat1804 va_P.nil
  refine va_get (D := D) (ci := 5) (v := .int f1804_4) (C := RX5) (T := TX5) (N := 14) hx hb hts iX5_readFactor_5 hown hN.1 hP 0 rfl rfl 4 (by decide) (hts _ mX5_readFactor_1) (fun _ h9 => h9) rfl dX5_readFactor_1 ?_
  refine lv_iconst (v := 1) hx hb dX5_readFactor_4 (by decide) ?_
  refine lv_icmp_ne (tgt := 31) hx hb dX5_readFactor_5 (by decide) (fun c1805 => ?_) (fun c1805 => ?_)
  · refine lv_aload_n hx hb dX5_readFactor_31 rfl (lv_at hl 0 rfl) ?_
    refine lv_bipush (v := 40) hx hb dX5_readFactor_32 (by decide) ?_
    refine cv_i (As := [.int 40]) (rest := []) (b := w) ⟨hx, hb, hml, hown, hts⟩ (c_X5_isMark hT (w := w) hw (x := 40)) (cwV 1 hts gX5_readFactor_X5_isMark rfl rfl rfl hdX5_isMark_v ⟨Nat.le_of_ble_eq_true rfl, Nat.le_of_ble_eq_true rfl⟩) hN hE hL (rcv6 hN hT hw.1) rfl rfl hl.1 (Nat.le_of_ble_eq_true rfl) dX5_readFactor_34 (Nat.zero_le _) (Nat.zero_le _) (fun r1806 H1 locs hL hqr1806 => ?_)
    obtain ⟨h9, hqr1806⟩ := hqr1806; replace h9 := h9.symm; subst h9
    rcases hqr1806 with rfl | rfl
    · refine lv_if_eq (tgt := 85) hx hb dX5_readFactor_37 (by decide) (fun _ => ?_) (fun c9 => absurd (by decide) c9)
      refine lv_aload_n hx hb dX5_readFactor_85 rfl (lv_at hl 0 rfl) ?_
      refine cv_i (As := []) (rest := []) (b := w) ⟨hx, hb, hml, hown, hts⟩ (c_X5_codeOfWord hT (w := w) hw) (cwV 0 hts gX5_readFactor_X5_codeOfWord rfl rfl rfl hdX5_codeOfWord_v ⟨Nat.le_of_ble_eq_true rfl, Nat.le_of_ble_eq_true rfl⟩) hN hE hL (rcv6 hN hT hw.1) rfl rfl hl.1 (Nat.le_of_ble_eq_true rfl) dX5_readFactor_86 (Nat.zero_le _) (Nat.zero_le _) (fun r1807 H1 locs hL hqr1807 => ?_)
      obtain rfl := hqr1807.symm
      refine lv_istore_n (lv' := [(2, .int r1807), (0, .ref w), (1, .int 1)]) hx hb dX5_readFactor_89 rfl hl (by decide) rfl (fun ls hl => ?_)
      refine lv_iload_n hx hb dX5_readFactor_90 rfl (lv_at hl 0 rfl) ?_
      refine lv_if_ne (tgt := 105) hx hb dX5_readFactor_91 (by decide) (fun c1808 => ?_) (fun c1808 => ?_)
      · refine lv_aload_n hx hb dX5_readFactor_105 rfl (lv_at hl 1 rfl) ?_
        refine lv_iload_n hx hb dX5_readFactor_106 rfl (lv_at hl 0 rfl) ?_
        refine cv_v (As := [.int r1807]) (rest := []) (b := w) ⟨hx, hb, hml, hown, hts⟩ (c_X5_putCode hT (w := w) hw (x := r1807)) (cwV 1 hts gX5_readFactor_X5_putCode rfl rfl rfl hdX5_putCode_v ⟨Nat.le_of_ble_eq_true rfl, Nat.le_of_ble_eq_true rfl⟩) hN hE hL (rcv6 hN hT hw.1) rfl rfl hl.1 (Nat.le_of_ble_eq_true rfl) dX5_readFactor_107 (Nat.zero_le _) (Nat.zero_le _) (fun H1 locs hL hqr1809 => ?_)
        obtain ⟨hT1, hF1⟩ := hqr1809
        have hF := hF.tr (hF1.mono (by simp))
        have hT := hT1
        refine lv_aload_n hx hb dX5_readFactor_110 rfl (lv_at hl 1 rfl) ?_
        refine cv_v (As := []) (rest := []) (b := w) ⟨hx, hb, hml, hown, hts⟩ (c_X5_step hT (w := w) hw) (cwV 0 hts gX5_readFactor_X5_step rfl rfl rfl hdX5_step_v ⟨Nat.le_of_ble_eq_true rfl, Nat.le_of_ble_eq_true rfl⟩) hN hE hL (rcv6 hN hT hw.1) rfl rfl hl.1 (Nat.le_of_ble_eq_true rfl) dX5_readFactor_111 (Nat.zero_le _) (Nat.zero_le _) (fun H1 locs hL hqr1810 => ?_)
        obtain ⟨hT1, hF1, hqr1810⟩ := hqr1810
        have hF := hF.tr (hF1.mono (by simp))
        have hT := hT1
        have f1811 := hqr1810
        refine lv_iconst (v := 1) hx hb dX5_readFactor_114 (by decide) ?_
        exact en_i hx hb hr hlocks hL rfl (Nat.zero_le _) (Nat.zero_le _) dX5_readFactor_115 (⟨hT, hF, Or.inr rfl⟩)
      · refine lv_aload_n hx hb dX5_readFactor_94 rfl (lv_at hl 1 rfl) ?_
        refine lv_bipush (v := (-2)) hx hb dX5_readFactor_95 (by decide) ?_
        refine lv_aload_n hx hb dX5_readFactor_97 rfl (lv_at hl 1 rfl) ?_
        refine va_get (D := D) (ci := 5) (v := .int (nI f1804_5)) (C := RX5) (T := TX5) (N := 14) hx hb hts iX5_readFactor_5 hown hN.1 hP 0 rfl rfl 5 (by decide) (hts _ mX5_readFactor_3) (fun _ h9 => h9) rfl dX5_readFactor_98 ?_
        refine cv_i (As := [.int (-2), .int (nI f1804_5)]) (rest := []) (b := w) ⟨hx, hb, hml, hown, hts⟩ (c_X5_fail hT (w := w) hw (x := (-2)) (y := (nI f1804_5))) (cwV 2 hts gX5_readFactor_X5_fail rfl rfl rfl hdX5_fail_v ⟨Nat.le_of_ble_eq_true rfl, Nat.le_of_ble_eq_true rfl⟩) hN hE hL (rcv6 hN hT hw.1) rfl rfl hl.1 (Nat.le_of_ble_eq_true rfl) dX5_readFactor_101 (Nat.zero_le _) (Nat.zero_le _) (fun r1812 H1 locs hL hqr1812 => ?_)
        obtain ⟨hT1, hF1, hqr1812⟩ := hqr1812
        have hF := hF.tr (hF1.mono (by simp))
        have hT := hT1
        obtain rfl := hqr1812
        exact en_i hx hb hr hlocks hL rfl (Nat.zero_le _) (Nat.zero_le _) dX5_readFactor_104 (⟨hT, hF, Or.inl rfl⟩)
    · refine lv_if_eq (tgt := 85) hx hb dX5_readFactor_37 (by decide) (fun c9 => absurd c9 (by decide)) (fun _ => ?_)
      refine lv_iload_n hx hb dX5_readFactor_40 rfl (lv_at hl 1 rfl) ?_
      refine lv_iconst (v := 4) hx hb dX5_readFactor_41 (by decide) ?_
      refine lv_icmp_lt (tgt := 56) hx hb dX5_readFactor_42 (by decide) (fun _ => ?_) (fun c9 => absurd (by decide) c9)
      refine lv_aload_n hx hb dX5_readFactor_56 rfl (lv_at hl 0 rfl) ?_
      refine cv_v (As := []) (rest := []) (b := w) ⟨hx, hb, hml, hown, hts⟩ (c_X5_step hT (w := w) hw) (cwV 0 hts gX5_readFactor_X5_step rfl rfl rfl hdX5_step_v ⟨Nat.le_of_ble_eq_true rfl, Nat.le_of_ble_eq_true rfl⟩) hN hE hL (rcv6 hN hT hw.1) rfl rfl hl.1 (Nat.le_of_ble_eq_true rfl) dX5_readFactor_57 (Nat.zero_le _) (Nat.zero_le _) (fun H1 locs hL hqr1813 => ?_)
      obtain ⟨hT1, hF1, hqr1813⟩ := hqr1813
      have hF := hF.tr (hF1.mono (by simp))
      have hT := hT1
      have f1814 := hqr1813
      refine lv_aload_n hx hb dX5_readFactor_60 rfl (lv_at hl 0 rfl) ?_
      refine lv_iload_n hx hb dX5_readFactor_61 rfl (lv_at hl 1 rfl) ?_
      refine lv_iconst (v := 1) hx hb dX5_readFactor_62 (by decide) ?_
      refine lv_iadd hx hb dX5_readFactor_63 ?_
      refine tp_i 2 (by decide) ?_
      refine cv_i (As := [.int 2]) (rest := []) (b := w) ⟨hx, hb, hml, hown, hts⟩ (c_X5_readSum_d2 hT (w := w) hw) (cwV 1 hts gX5_readFactor_X5_readSum rfl rfl rfl hdX5_readSum_v ⟨Nat.le_of_ble_eq_true rfl, Nat.le_of_ble_eq_true rfl⟩) hN hE hL (rcv6 hN hT hw.1) rfl rfl hl.1 (Nat.le_of_ble_eq_true rfl) dX5_readFactor_64 (Nat.zero_le _) (Nat.zero_le _) (fun r1815 H1 locs hL hqr1815 => ?_)
      obtain ⟨hT1, hF1, hqr1815⟩ := hqr1815
      have hF := hF.tr (hF1.mono (by simp))
      have hT := hT1
      rcases hqr1815 with rfl | rfl
      · refine lv_if_eq (tgt := 83) hx hb dX5_readFactor_67 (by decide) (fun _ => ?_) (fun c9 => absurd (by decide) c9)
        refine lv_iconst (v := 0) hx hb dX5_readFactor_83 (by decide) ?_
        exact en_i hx hb hr hlocks hL rfl (Nat.zero_le _) (Nat.zero_le _) dX5_readFactor_84 (⟨hT, hF, Or.inl rfl⟩)
      · refine lv_if_eq (tgt := 83) hx hb dX5_readFactor_67 (by decide) (fun c9 => absurd c9 (by decide)) (fun _ => ?_)
        refine lv_aload_n hx hb dX5_readFactor_70 rfl (lv_at hl 0 rfl) ?_
        refine lv_bipush (v := 41) hx hb dX5_readFactor_71 (by decide) ?_
        refine cv_i (As := [.int 41]) (rest := []) (b := w) ⟨hx, hb, hml, hown, hts⟩ (c_X5_takeMark hT (w := w) hw (x := 41)) (cwV 1 hts gX5_readFactor_X5_takeMark rfl rfl rfl hdX5_takeMark_v ⟨Nat.le_of_ble_eq_true rfl, Nat.le_of_ble_eq_true rfl⟩) hN hE hL (rcv6 hN hT hw.1) rfl rfl hl.1 (Nat.le_of_ble_eq_true rfl) dX5_readFactor_73 (Nat.zero_le _) (Nat.zero_le _) (fun r1816 H1 locs hL hqr1816 => ?_)
        obtain ⟨hT1, hF1, hqr1816⟩ := hqr1816
        have hF := hF.tr (hF1.mono (by simp))
        have hT := hT1
        rcases hqr1816 with rfl | rfl
        · refine lv_if_eq (tgt := 83) hx hb dX5_readFactor_76 (by decide) (fun _ => ?_) (fun c9 => absurd (by decide) c9)
          refine lv_iconst (v := 0) hx hb dX5_readFactor_83 (by decide) ?_
          exact en_i hx hb hr hlocks hL rfl (Nat.zero_le _) (Nat.zero_le _) dX5_readFactor_84 (⟨hT, hF, Or.inl rfl⟩)
        · refine lv_if_eq (tgt := 83) hx hb dX5_readFactor_76 (by decide) (fun c9 => absurd c9 (by decide)) (fun _ => ?_)
          refine lv_iconst (v := 1) hx hb dX5_readFactor_79 (by decide) ?_
          refine lv_goto (tgt := 84) hx hb dX5_readFactor_80 (by decide) ?_
          exact en_i hx hb hr hlocks hL rfl (Nat.zero_le _) (Nat.zero_le _) dX5_readFactor_84 (⟨hT, hF, Or.inr rfl⟩)
  · refine lv_aload_n hx hb dX5_readFactor_8 rfl (lv_at hl 0 rfl) ?_
    refine lv_iconst (v := 0) hx hb dX5_readFactor_9 (by decide) ?_
    refine lv_sipush (v := 9999) hx hb dX5_readFactor_10 (by decide) ?_
    refine cv_i (As := [.int 0, .int 9999]) (rest := []) (b := w) ⟨hx, hb, hml, hown, hts⟩ (c_X5_takeNumber hT (w := w) hw (x := 0) (y := 9999)) (cwV 2 hts gX5_readFactor_X5_takeNumber rfl rfl rfl hdX5_takeNumber_v ⟨Nat.le_of_ble_eq_true rfl, Nat.le_of_ble_eq_true rfl⟩) hN hE hL (rcv6 hN hT hw.1) rfl rfl hl.1 (Nat.le_of_ble_eq_true rfl) dX5_readFactor_13 (Nat.zero_le _) (Nat.zero_le _) (fun r1817 H1 locs hL hqr1817 => ?_)
    obtain ⟨hT1, hF1, hqr1817⟩ := hqr1817
    have hF := hF.tr (hF1.mono (by simp))
    have hT := hT1
    rcases hqr1817 with rfl | ⟨rfl, v1818, l1819, g1820, f1821⟩
    · refine lv_if_ne (tgt := 21) hx hb dX5_readFactor_16 (by decide) (fun c9 => absurd (by decide) c9) (fun _ => ?_)
      refine lv_iconst (v := 0) hx hb dX5_readFactor_19 (by decide) ?_
      exact en_i hx hb hr hlocks hL rfl (Nat.zero_le _) (Nat.zero_le _) dX5_readFactor_20 (⟨hT, hF, Or.inl rfl⟩)
    · obtain ⟨n1822, hn1822a, hn1822b, rfl⟩ := rng (x := v1818) (lo := 0) (hi := 9999) (by decide) (by decide) l1819 g1820
      refine lv_if_ne (tgt := 21) hx hb dX5_readFactor_16 (by decide) (fun _ => ?_) (fun c9 => absurd c9 (by decide))
      refine lv_aload_n hx hb dX5_readFactor_21 rfl (lv_at hl 0 rfl) ?_
      refine lv_aload_n hx hb dX5_readFactor_22 rfl (lv_at hl 0 rfl) ?_
      obtain ⟨hb1823, e1823, hat1823, hk1823⟩ := hT.o6 hw.1
      obtain ⟨f1823_0, f1823_2, f1823_3, f1823_4, f1823_5, f1823_6, f1823_7, f1823_8, f1823_9, f1823_10, f1823_11, f1823_12, f1823_13, rfl, c1823_1, c1823_2, c1823_3, c1823_5, c1823_10, t1823_0, t1823_9, c1823_11, c1823_p2⟩ := hk1823
      obtain rfl : f1823_7 = nI n1822 := Value.int.inj (f1821.eq hat1823 rfl (by decide) rfl)
      have hP : va_P D vwCl [(w, .inr (5, [.ref f1823_0, .int (nI ((κ w).2.2.1)), .int (nI f1823_2), .int (nI f1823_3), .int f1823_4, .int (nI f1823_5), .int f1823_6, .int (nI n1822), .int f1823_8, .ref f1823_9, .int (nI f1823_10), f1823_11, .int f1823_12, .int f1823_13]))] _ := va_P.cons hat1823 va_P.nil
      refine va_get (D := D) (ci := 5) (v := .int (nI n1822)) (C := RX5) (T := TX5) (N := 14) hx hb hts iX5_readFactor_5 hown hN.1 hP 0 rfl rfl 7 (by decide) (hts _ mX5_readFactor_2) (fun _ h9 => h9) rfl dX5_readFactor_23 ?_
      refine cv_v (As := [.int (nI n1822)]) (rest := []) (b := w) ⟨hx, hb, hml, hown, hts⟩ (c_X5_putCode hT (w := w) hw (x := (nI n1822))) (cwV 1 hts gX5_readFactor_X5_putCode rfl rfl rfl hdX5_putCode_v ⟨Nat.le_of_ble_eq_true rfl, Nat.le_of_ble_eq_true rfl⟩) hN hE hL (rcv6 hN hT hw.1) rfl rfl hl.1 (Nat.le_of_ble_eq_true rfl) dX5_readFactor_26 (Nat.zero_le _) (Nat.zero_le _) (fun H1 locs hL hqr1824 => ?_)
      obtain ⟨hT1, hF1⟩ := hqr1824
      have hF := hF.tr (hF1.mono (by simp))
      have hT := hT1
      refine lv_iconst (v := 1) hx hb dX5_readFactor_29 (by decide) ?_
      exact en_i hx hb hr hlocks hL rfl (Nat.zero_le _) (Nat.zero_le _) dX5_readFactor_30 (⟨hT, hF, Or.inr rfl⟩)
set_option maxHeartbeats 4000000 in
set_option maxRecDepth 100000 in
theorem c_X5_readTerm_d1 {l : Launch} {D : va_G} {cs : Nat → ClassId} {B0 T : Nat} {κ : KM} {H0 : Heap} (hT : WT B0 D cs T κ H0) {w : Nat} (hw : T2 κ w 6 10) : KC l yX5_readTerm wsX5_readTerm 16 353 0 0 D cs B0 H0 [.ref w, .int 1] (Qi (fun r H => WT B0 D cs T κ H ∧ Fr B0 [10] κ H0 H ∧ (r = 0 ∨ r = 1))) := by
  refine KC.of cX5_readTerm 4 (some .boolean) (by decide) rfl (Nat.le_of_ble_eq_true rfl) ?_
  intro p e s m below meth c ls hx hb hr hml hown hts hlocks hin hN hE hH0 hl
  have hown : s.vm.findClass RX5 = some m.cls := hown
  have hl : lv_has ls 4 [(0, .ref w), (1, .int 1)] := hl
  have hL : OkL B0 [] := OkL.nil
  have hF : Fr B0 [10] κ H0 H0 := Fr.rf
  refine lv_aload_n hx hb dX5_readTerm_0 rfl (lv_at hl 0 rfl) ?_
  refine lv_iload_n hx hb dX5_readTerm_1 rfl (lv_at hl 1 rfl) ?_
  refine cv_i (As := [.int 1]) (rest := []) (b := w) ⟨hx, hb, hml, hown, hts⟩ (c_X5_readFactor_d1 hT (w := w) hw) (cwV 1 hts gX5_readTerm_X5_readFactor rfl rfl rfl hdX5_readFactor_v ⟨Nat.le_of_ble_eq_true rfl, Nat.le_of_ble_eq_true rfl⟩) hN hE hL (rcv6 hN hT hw.1) rfl rfl hl.1 (Nat.le_of_ble_eq_true rfl) dX5_readTerm_2 (Nat.zero_le _) (Nat.zero_le _) (fun r1825 H1 locs hL hqr1825 => ?_)
  obtain ⟨hT1, hF1, hqr1825⟩ := hqr1825
  have hF := hF.tr (hF1.mono (by simp))
  have hT := hT1
  rcases hqr1825 with rfl | rfl
  · refine lv_if_ne (tgt := 10) hx hb dX5_readTerm_5 (by decide) (fun c9 => absurd (by decide) c9) (fun _ => ?_)
    refine lv_iconst (v := 0) hx hb dX5_readTerm_8 (by decide) ?_
    exact en_i hx hb hr hlocks hL rfl (Nat.zero_le _) (Nat.zero_le _) dX5_readTerm_9 (⟨hT, hF, Or.inl rfl⟩)
  · refine lv_if_ne (tgt := 10) hx hb dX5_readTerm_5 (by decide) (fun _ => ?_) (fun c9 => absurd c9 (by decide))
    refine lv_iconst (v := 0) hx hb dX5_readTerm_10 (by decide) ?_
    refine lv_istore_n (lv' := [(2, .int 0), (0, .ref w), (1, .int 1)]) hx hb dX5_readTerm_11 rfl hl (by decide) rfl (fun ls hl => ?_)
    refine lp_m (α := Nat) (nL := 4) (fun a9 => 600 - a9) (fun a9 H9 l9 => (a9 ≤ 600) ∧ (WT B0 D cs T κ H9) ∧ (Fr B0 [10] κ H0 H9) ∧ (OkL B0 l9)) (fun a9 => [(2, .int (nI a9)), (0, .ref w), (1, .int 1)]) ?_ 0 _ _ _ ⟨(by show (0) ≤ 600; omega), hT, hF, hL⟩ (lv_sub hl [0, 1, 2] rfl)
    rintro k H locs ls ih1826 ⟨hk, hT, hF, hL⟩ hl
    have hl : lv_has ls 4 [(2, .int (nI k)), (0, .ref w), (1, .int 1)] := hl
    have hk : k ≤ 600 := hk
    refine lv_iload_n hx hb dX5_readTerm_12 rfl (lv_at hl 0 rfl) ?_
    refine lv_sipush (v := 600) hx hb dX5_readTerm_13 (by decide) ?_
    refine lv_icmp_ge (tgt := 79) hx hb dX5_readTerm_16 (by decide) (fun c1827 => ?_) (fun c1827 => ?_)
    · have c1827 : 600 ≤ k := (nI_leI (a := 600) (b := k) (by omega) (by omega)).mp c1827
      refine lv_iconst (v := 1) hx hb dX5_readTerm_79 (by decide) ?_
      exact en_i hx hb hr hlocks hL rfl (Nat.zero_le _) (Nat.zero_le _) dX5_readTerm_80 (⟨hT, hF, Or.inr rfl⟩)
    · have c1827 : ¬ 600 ≤ k := fun h9 => c1827 ((nI_leI (a := 600) (b := k) (by omega) (by omega)).mpr h9)
      refine lv_aload_n hx hb dX5_readTerm_19 rfl (lv_at hl 1 rfl) ?_
      refine lv_bipush (v := 42) hx hb dX5_readTerm_20 (by decide) ?_
      refine cv_i (As := [.int 42]) (rest := []) (b := w) ⟨hx, hb, hml, hown, hts⟩ (c_X5_isMark hT (w := w) hw (x := 42)) (cwV 1 hts gX5_readTerm_X5_isMark rfl rfl rfl hdX5_isMark_v ⟨Nat.le_of_ble_eq_true rfl, Nat.le_of_ble_eq_true rfl⟩) hN hE hL (rcv6 hN hT hw.1) rfl rfl hl.1 (Nat.le_of_ble_eq_true rfl) dX5_readTerm_22 (Nat.zero_le _) (Nat.zero_le _) (fun r1828 H1 locs hL hqr1828 => ?_)
      obtain ⟨h9, hqr1828⟩ := hqr1828; replace h9 := h9.symm; subst h9
      rcases hqr1828 with rfl | rfl
      · refine lv_if_ne (tgt := 37) hx hb dX5_readTerm_25 (by decide) (fun c9 => absurd (by decide) c9) (fun _ => ?_)
        refine lv_aload_n hx hb dX5_readTerm_28 rfl (lv_at hl 1 rfl) ?_
        refine lv_bipush (v := 47) hx hb dX5_readTerm_29 (by decide) ?_
        refine cv_i (As := [.int 47]) (rest := []) (b := w) ⟨hx, hb, hml, hown, hts⟩ (c_X5_isMark hT (w := w) hw (x := 47)) (cwV 1 hts gX5_readTerm_X5_isMark rfl rfl rfl hdX5_isMark_v ⟨Nat.le_of_ble_eq_true rfl, Nat.le_of_ble_eq_true rfl⟩) hN hE hL (rcv6 hN hT hw.1) rfl rfl hl.1 (Nat.le_of_ble_eq_true rfl) dX5_readTerm_31 (Nat.zero_le _) (Nat.zero_le _) (fun r1829 H1 locs hL hqr1829 => ?_)
        obtain ⟨h9, hqr1829⟩ := hqr1829; replace h9 := h9.symm; subst h9
        rcases hqr1829 with rfl | rfl
        · refine lv_if_eq (tgt := 79) hx hb dX5_readTerm_34 (by decide) (fun _ => ?_) (fun c9 => absurd (by decide) c9)
          refine lv_iconst (v := 1) hx hb dX5_readTerm_79 (by decide) ?_
          exact en_i hx hb hr hlocks hL rfl (Nat.zero_le _) (Nat.zero_le _) dX5_readTerm_80 (⟨hT, hF, Or.inr rfl⟩)
        · refine lv_if_eq (tgt := 79) hx hb dX5_readTerm_34 (by decide) (fun c9 => absurd c9 (by decide)) (fun _ => ?_)
          refine lv_aload_n hx hb dX5_readTerm_37 rfl (lv_at hl 1 rfl) ?_
          refine lv_bipush (v := 42) hx hb dX5_readTerm_38 (by decide) ?_
          refine cv_i (As := [.int 42]) (rest := []) (b := w) ⟨hx, hb, hml, hown, hts⟩ (c_X5_isMark hT (w := w) hw (x := 42)) (cwV 1 hts gX5_readTerm_X5_isMark rfl rfl rfl hdX5_isMark_v ⟨Nat.le_of_ble_eq_true rfl, Nat.le_of_ble_eq_true rfl⟩) hN hE hL (rcv6 hN hT hw.1) rfl rfl hl.1 (Nat.le_of_ble_eq_true rfl) dX5_readTerm_40 (Nat.zero_le _) (Nat.zero_le _) (fun r1830 H1 locs hL hqr1830 => ?_)
          obtain ⟨h9, hqr1830⟩ := hqr1830; replace h9 := h9.symm; subst h9
          rcases hqr1830 with rfl | rfl
          · refine lv_if_eq (tgt := 51) hx hb dX5_readTerm_43 (by decide) (fun _ => ?_) (fun c9 => absurd (by decide) c9)
            refine lv_bipush (v := (-8)) hx hb dX5_readTerm_51 (by decide) ?_
            refine lv_istore_n (lv' := [(3, .int (-8)), (2, .int (nI k)), (0, .ref w), (1, .int 1)]) hx hb dX5_readTerm_53 rfl hl (by decide) rfl (fun ls hl => ?_)
            refine lv_aload_n hx hb dX5_readTerm_54 rfl (lv_at hl 2 rfl) ?_
            refine cv_v (As := []) (rest := []) (b := w) ⟨hx, hb, hml, hown, hts⟩ (c_X5_step hT (w := w) hw) (cwV 0 hts gX5_readTerm_X5_step rfl rfl rfl hdX5_step_v ⟨Nat.le_of_ble_eq_true rfl, Nat.le_of_ble_eq_true rfl⟩) hN hE hL (rcv6 hN hT hw.1) rfl rfl hl.1 (Nat.le_of_ble_eq_true rfl) dX5_readTerm_55 (Nat.zero_le _) (Nat.zero_le _) (fun H1 locs hL hqr1831 => ?_)
            obtain ⟨hT1, hF1, hqr1831⟩ := hqr1831
            have hF := hF.tr (hF1.mono (by simp))
            have hT := hT1
            have f1832 := hqr1831
            refine lv_aload_n hx hb dX5_readTerm_58 rfl (lv_at hl 2 rfl) ?_
            refine lv_iload_n hx hb dX5_readTerm_59 rfl (lv_at hl 3 rfl) ?_
            refine cv_i (As := [.int 1]) (rest := []) (b := w) ⟨hx, hb, hml, hown, hts⟩ (c_X5_readFactor_d1 hT (w := w) hw) (cwV 1 hts gX5_readTerm_X5_readFactor rfl rfl rfl hdX5_readFactor_v ⟨Nat.le_of_ble_eq_true rfl, Nat.le_of_ble_eq_true rfl⟩) hN hE hL (rcv6 hN hT hw.1) rfl rfl hl.1 (Nat.le_of_ble_eq_true rfl) dX5_readTerm_60 (Nat.zero_le _) (Nat.zero_le _) (fun r1833 H1 locs hL hqr1833 => ?_)
            obtain ⟨hT1, hF1, hqr1833⟩ := hqr1833
            have hF := hF.tr (hF1.mono (by simp))
            have hT := hT1
            rcases hqr1833 with rfl | rfl
            · refine lv_if_ne (tgt := 68) hx hb dX5_readTerm_63 (by decide) (fun c9 => absurd (by decide) c9) (fun _ => ?_)
              refine lv_iconst (v := 0) hx hb dX5_readTerm_66 (by decide) ?_
              exact en_i hx hb hr hlocks hL rfl (Nat.zero_le _) (Nat.zero_le _) dX5_readTerm_67 (⟨hT, hF, Or.inl rfl⟩)
            · refine lv_if_ne (tgt := 68) hx hb dX5_readTerm_63 (by decide) (fun _ => ?_) (fun c9 => absurd c9 (by decide))
              refine lv_aload_n hx hb dX5_readTerm_68 rfl (lv_at hl 2 rfl) ?_
              refine lv_iload_n hx hb dX5_readTerm_69 rfl (lv_at hl 0 rfl) ?_
              refine cv_v (As := [.int (-8)]) (rest := []) (b := w) ⟨hx, hb, hml, hown, hts⟩ (c_X5_putCode hT (w := w) hw (x := (-8))) (cwV 1 hts gX5_readTerm_X5_putCode rfl rfl rfl hdX5_putCode_v ⟨Nat.le_of_ble_eq_true rfl, Nat.le_of_ble_eq_true rfl⟩) hN hE hL (rcv6 hN hT hw.1) rfl rfl hl.1 (Nat.le_of_ble_eq_true rfl) dX5_readTerm_70 (Nat.zero_le _) (Nat.zero_le _) (fun H1 locs hL hqr1834 => ?_)
              obtain ⟨hT1, hF1⟩ := hqr1834
              have hF := hF.tr (hF1.mono (by simp))
              have hT := hT1
              refine lv_iinc (v := (nI (k + 1))) (lv' := [(2, .int (nI (k + 1))), (3, .int (-8)), (0, .ref w), (1, .int 1)]) hx hb dX5_readTerm_73 hl (k := 1) rfl (nI_add _ 1) (by decide) rfl (fun ls hl => ?_)
              refine lv_goto (tgt := 12) hx hb dX5_readTerm_76 (by decide) ?_
              exact ih1826 (k + 1) _ _ _ (by show 600 - ((k + 1)) < 600 - k; omega) ⟨(by show ((k + 1)) ≤ 600; omega), hT, hF, hL⟩ (lv_sub hl [0, 2, 3] rfl)
          · refine lv_if_eq (tgt := 51) hx hb dX5_readTerm_43 (by decide) (fun c9 => absurd c9 (by decide)) (fun _ => ?_)
            refine lv_bipush (v := (-7)) hx hb dX5_readTerm_46 (by decide) ?_
            refine lv_goto (tgt := 53) hx hb dX5_readTerm_48 (by decide) ?_
            refine lv_istore_n (lv' := [(3, .int (-7)), (2, .int (nI k)), (0, .ref w), (1, .int 1)]) hx hb dX5_readTerm_53 rfl hl (by decide) rfl (fun ls hl => ?_)
            refine lv_aload_n hx hb dX5_readTerm_54 rfl (lv_at hl 2 rfl) ?_
            refine cv_v (As := []) (rest := []) (b := w) ⟨hx, hb, hml, hown, hts⟩ (c_X5_step hT (w := w) hw) (cwV 0 hts gX5_readTerm_X5_step rfl rfl rfl hdX5_step_v ⟨Nat.le_of_ble_eq_true rfl, Nat.le_of_ble_eq_true rfl⟩) hN hE hL (rcv6 hN hT hw.1) rfl rfl hl.1 (Nat.le_of_ble_eq_true rfl) dX5_readTerm_55 (Nat.zero_le _) (Nat.zero_le _) (fun H1 locs hL hqr1835 => ?_)
            obtain ⟨hT1, hF1, hqr1835⟩ := hqr1835
            have hF := hF.tr (hF1.mono (by simp))
            have hT := hT1
            have f1836 := hqr1835
            refine lv_aload_n hx hb dX5_readTerm_58 rfl (lv_at hl 2 rfl) ?_
            refine lv_iload_n hx hb dX5_readTerm_59 rfl (lv_at hl 3 rfl) ?_
            refine cv_i (As := [.int 1]) (rest := []) (b := w) ⟨hx, hb, hml, hown, hts⟩ (c_X5_readFactor_d1 hT (w := w) hw) (cwV 1 hts gX5_readTerm_X5_readFactor rfl rfl rfl hdX5_readFactor_v ⟨Nat.le_of_ble_eq_true rfl, Nat.le_of_ble_eq_true rfl⟩) hN hE hL (rcv6 hN hT hw.1) rfl rfl hl.1 (Nat.le_of_ble_eq_true rfl) dX5_readTerm_60 (Nat.zero_le _) (Nat.zero_le _) (fun r1837 H1 locs hL hqr1837 => ?_)
            obtain ⟨hT1, hF1, hqr1837⟩ := hqr1837
            have hF := hF.tr (hF1.mono (by simp))
            have hT := hT1
            rcases hqr1837 with rfl | rfl
            · refine lv_if_ne (tgt := 68) hx hb dX5_readTerm_63 (by decide) (fun c9 => absurd (by decide) c9) (fun _ => ?_)
              refine lv_iconst (v := 0) hx hb dX5_readTerm_66 (by decide) ?_
              exact en_i hx hb hr hlocks hL rfl (Nat.zero_le _) (Nat.zero_le _) dX5_readTerm_67 (⟨hT, hF, Or.inl rfl⟩)
            · refine lv_if_ne (tgt := 68) hx hb dX5_readTerm_63 (by decide) (fun _ => ?_) (fun c9 => absurd c9 (by decide))
              refine lv_aload_n hx hb dX5_readTerm_68 rfl (lv_at hl 2 rfl) ?_
              refine lv_iload_n hx hb dX5_readTerm_69 rfl (lv_at hl 0 rfl) ?_
              refine cv_v (As := [.int (-7)]) (rest := []) (b := w) ⟨hx, hb, hml, hown, hts⟩ (c_X5_putCode hT (w := w) hw (x := (-7))) (cwV 1 hts gX5_readTerm_X5_putCode rfl rfl rfl hdX5_putCode_v ⟨Nat.le_of_ble_eq_true rfl, Nat.le_of_ble_eq_true rfl⟩) hN hE hL (rcv6 hN hT hw.1) rfl rfl hl.1 (Nat.le_of_ble_eq_true rfl) dX5_readTerm_70 (Nat.zero_le _) (Nat.zero_le _) (fun H1 locs hL hqr1838 => ?_)
              obtain ⟨hT1, hF1⟩ := hqr1838
              have hF := hF.tr (hF1.mono (by simp))
              have hT := hT1
              refine lv_iinc (v := (nI (k + 1))) (lv' := [(2, .int (nI (k + 1))), (3, .int (-7)), (0, .ref w), (1, .int 1)]) hx hb dX5_readTerm_73 hl (k := 1) rfl (nI_add _ 1) (by decide) rfl (fun ls hl => ?_)
              refine lv_goto (tgt := 12) hx hb dX5_readTerm_76 (by decide) ?_
              exact ih1826 (k + 1) _ _ _ (by show 600 - ((k + 1)) < 600 - k; omega) ⟨(by show ((k + 1)) ≤ 600; omega), hT, hF, hL⟩ (lv_sub hl [0, 2, 3] rfl)
      · refine lv_if_ne (tgt := 37) hx hb dX5_readTerm_25 (by decide) (fun _ => ?_) (fun c9 => absurd c9 (by decide))
        refine lv_aload_n hx hb dX5_readTerm_37 rfl (lv_at hl 1 rfl) ?_
        refine lv_bipush (v := 42) hx hb dX5_readTerm_38 (by decide) ?_
        refine cv_i (As := [.int 42]) (rest := []) (b := w) ⟨hx, hb, hml, hown, hts⟩ (c_X5_isMark hT (w := w) hw (x := 42)) (cwV 1 hts gX5_readTerm_X5_isMark rfl rfl rfl hdX5_isMark_v ⟨Nat.le_of_ble_eq_true rfl, Nat.le_of_ble_eq_true rfl⟩) hN hE hL (rcv6 hN hT hw.1) rfl rfl hl.1 (Nat.le_of_ble_eq_true rfl) dX5_readTerm_40 (Nat.zero_le _) (Nat.zero_le _) (fun r1839 H1 locs hL hqr1839 => ?_)
        obtain ⟨h9, hqr1839⟩ := hqr1839; replace h9 := h9.symm; subst h9
        rcases hqr1839 with rfl | rfl
        · refine lv_if_eq (tgt := 51) hx hb dX5_readTerm_43 (by decide) (fun _ => ?_) (fun c9 => absurd (by decide) c9)
          refine lv_bipush (v := (-8)) hx hb dX5_readTerm_51 (by decide) ?_
          refine lv_istore_n (lv' := [(3, .int (-8)), (2, .int (nI k)), (0, .ref w), (1, .int 1)]) hx hb dX5_readTerm_53 rfl hl (by decide) rfl (fun ls hl => ?_)
          refine lv_aload_n hx hb dX5_readTerm_54 rfl (lv_at hl 2 rfl) ?_
          refine cv_v (As := []) (rest := []) (b := w) ⟨hx, hb, hml, hown, hts⟩ (c_X5_step hT (w := w) hw) (cwV 0 hts gX5_readTerm_X5_step rfl rfl rfl hdX5_step_v ⟨Nat.le_of_ble_eq_true rfl, Nat.le_of_ble_eq_true rfl⟩) hN hE hL (rcv6 hN hT hw.1) rfl rfl hl.1 (Nat.le_of_ble_eq_true rfl) dX5_readTerm_55 (Nat.zero_le _) (Nat.zero_le _) (fun H1 locs hL hqr1840 => ?_)
          obtain ⟨hT1, hF1, hqr1840⟩ := hqr1840
          have hF := hF.tr (hF1.mono (by simp))
          have hT := hT1
          have f1841 := hqr1840
          refine lv_aload_n hx hb dX5_readTerm_58 rfl (lv_at hl 2 rfl) ?_
          refine lv_iload_n hx hb dX5_readTerm_59 rfl (lv_at hl 3 rfl) ?_
          refine cv_i (As := [.int 1]) (rest := []) (b := w) ⟨hx, hb, hml, hown, hts⟩ (c_X5_readFactor_d1 hT (w := w) hw) (cwV 1 hts gX5_readTerm_X5_readFactor rfl rfl rfl hdX5_readFactor_v ⟨Nat.le_of_ble_eq_true rfl, Nat.le_of_ble_eq_true rfl⟩) hN hE hL (rcv6 hN hT hw.1) rfl rfl hl.1 (Nat.le_of_ble_eq_true rfl) dX5_readTerm_60 (Nat.zero_le _) (Nat.zero_le _) (fun r1842 H1 locs hL hqr1842 => ?_)
          obtain ⟨hT1, hF1, hqr1842⟩ := hqr1842
          have hF := hF.tr (hF1.mono (by simp))
          have hT := hT1
          rcases hqr1842 with rfl | rfl
          · refine lv_if_ne (tgt := 68) hx hb dX5_readTerm_63 (by decide) (fun c9 => absurd (by decide) c9) (fun _ => ?_)
            refine lv_iconst (v := 0) hx hb dX5_readTerm_66 (by decide) ?_
            exact en_i hx hb hr hlocks hL rfl (Nat.zero_le _) (Nat.zero_le _) dX5_readTerm_67 (⟨hT, hF, Or.inl rfl⟩)
          · refine lv_if_ne (tgt := 68) hx hb dX5_readTerm_63 (by decide) (fun _ => ?_) (fun c9 => absurd c9 (by decide))
            refine lv_aload_n hx hb dX5_readTerm_68 rfl (lv_at hl 2 rfl) ?_
            refine lv_iload_n hx hb dX5_readTerm_69 rfl (lv_at hl 0 rfl) ?_
            refine cv_v (As := [.int (-8)]) (rest := []) (b := w) ⟨hx, hb, hml, hown, hts⟩ (c_X5_putCode hT (w := w) hw (x := (-8))) (cwV 1 hts gX5_readTerm_X5_putCode rfl rfl rfl hdX5_putCode_v ⟨Nat.le_of_ble_eq_true rfl, Nat.le_of_ble_eq_true rfl⟩) hN hE hL (rcv6 hN hT hw.1) rfl rfl hl.1 (Nat.le_of_ble_eq_true rfl) dX5_readTerm_70 (Nat.zero_le _) (Nat.zero_le _) (fun H1 locs hL hqr1843 => ?_)
            obtain ⟨hT1, hF1⟩ := hqr1843
            have hF := hF.tr (hF1.mono (by simp))
            have hT := hT1
            refine lv_iinc (v := (nI (k + 1))) (lv' := [(2, .int (nI (k + 1))), (3, .int (-8)), (0, .ref w), (1, .int 1)]) hx hb dX5_readTerm_73 hl (k := 1) rfl (nI_add _ 1) (by decide) rfl (fun ls hl => ?_)
            refine lv_goto (tgt := 12) hx hb dX5_readTerm_76 (by decide) ?_
            exact ih1826 (k + 1) _ _ _ (by show 600 - ((k + 1)) < 600 - k; omega) ⟨(by show ((k + 1)) ≤ 600; omega), hT, hF, hL⟩ (lv_sub hl [0, 2, 3] rfl)
        · refine lv_if_eq (tgt := 51) hx hb dX5_readTerm_43 (by decide) (fun c9 => absurd c9 (by decide)) (fun _ => ?_)
          refine lv_bipush (v := (-7)) hx hb dX5_readTerm_46 (by decide) ?_
          refine lv_goto (tgt := 53) hx hb dX5_readTerm_48 (by decide) ?_
          refine lv_istore_n (lv' := [(3, .int (-7)), (2, .int (nI k)), (0, .ref w), (1, .int 1)]) hx hb dX5_readTerm_53 rfl hl (by decide) rfl (fun ls hl => ?_)
          refine lv_aload_n hx hb dX5_readTerm_54 rfl (lv_at hl 2 rfl) ?_
          refine cv_v (As := []) (rest := []) (b := w) ⟨hx, hb, hml, hown, hts⟩ (c_X5_step hT (w := w) hw) (cwV 0 hts gX5_readTerm_X5_step rfl rfl rfl hdX5_step_v ⟨Nat.le_of_ble_eq_true rfl, Nat.le_of_ble_eq_true rfl⟩) hN hE hL (rcv6 hN hT hw.1) rfl rfl hl.1 (Nat.le_of_ble_eq_true rfl) dX5_readTerm_55 (Nat.zero_le _) (Nat.zero_le _) (fun H1 locs hL hqr1844 => ?_)
          obtain ⟨hT1, hF1, hqr1844⟩ := hqr1844
          have hF := hF.tr (hF1.mono (by simp))
          have hT := hT1
          have f1845 := hqr1844
          refine lv_aload_n hx hb dX5_readTerm_58 rfl (lv_at hl 2 rfl) ?_
          refine lv_iload_n hx hb dX5_readTerm_59 rfl (lv_at hl 3 rfl) ?_
          refine cv_i (As := [.int 1]) (rest := []) (b := w) ⟨hx, hb, hml, hown, hts⟩ (c_X5_readFactor_d1 hT (w := w) hw) (cwV 1 hts gX5_readTerm_X5_readFactor rfl rfl rfl hdX5_readFactor_v ⟨Nat.le_of_ble_eq_true rfl, Nat.le_of_ble_eq_true rfl⟩) hN hE hL (rcv6 hN hT hw.1) rfl rfl hl.1 (Nat.le_of_ble_eq_true rfl) dX5_readTerm_60 (Nat.zero_le _) (Nat.zero_le _) (fun r1846 H1 locs hL hqr1846 => ?_)
          obtain ⟨hT1, hF1, hqr1846⟩ := hqr1846
          have hF := hF.tr (hF1.mono (by simp))
          have hT := hT1
          rcases hqr1846 with rfl | rfl
          · refine lv_if_ne (tgt := 68) hx hb dX5_readTerm_63 (by decide) (fun c9 => absurd (by decide) c9) (fun _ => ?_)
            refine lv_iconst (v := 0) hx hb dX5_readTerm_66 (by decide) ?_
            exact en_i hx hb hr hlocks hL rfl (Nat.zero_le _) (Nat.zero_le _) dX5_readTerm_67 (⟨hT, hF, Or.inl rfl⟩)
          · refine lv_if_ne (tgt := 68) hx hb dX5_readTerm_63 (by decide) (fun _ => ?_) (fun c9 => absurd c9 (by decide))
            refine lv_aload_n hx hb dX5_readTerm_68 rfl (lv_at hl 2 rfl) ?_
            refine lv_iload_n hx hb dX5_readTerm_69 rfl (lv_at hl 0 rfl) ?_
            refine cv_v (As := [.int (-7)]) (rest := []) (b := w) ⟨hx, hb, hml, hown, hts⟩ (c_X5_putCode hT (w := w) hw (x := (-7))) (cwV 1 hts gX5_readTerm_X5_putCode rfl rfl rfl hdX5_putCode_v ⟨Nat.le_of_ble_eq_true rfl, Nat.le_of_ble_eq_true rfl⟩) hN hE hL (rcv6 hN hT hw.1) rfl rfl hl.1 (Nat.le_of_ble_eq_true rfl) dX5_readTerm_70 (Nat.zero_le _) (Nat.zero_le _) (fun H1 locs hL hqr1847 => ?_)
            obtain ⟨hT1, hF1⟩ := hqr1847
            have hF := hF.tr (hF1.mono (by simp))
            have hT := hT1
            refine lv_iinc (v := (nI (k + 1))) (lv' := [(2, .int (nI (k + 1))), (3, .int (-7)), (0, .ref w), (1, .int 1)]) hx hb dX5_readTerm_73 hl (k := 1) rfl (nI_add _ 1) (by decide) rfl (fun ls hl => ?_)
            refine lv_goto (tgt := 12) hx hb dX5_readTerm_76 (by decide) ?_
            exact ih1826 (k + 1) _ _ _ (by show 600 - ((k + 1)) < 600 - k; omega) ⟨(by show ((k + 1)) ≤ 600; omega), hT, hF, hL⟩ (lv_sub hl [0, 2, 3] rfl)
