set_option maxHeartbeats 4000000 in
set_option maxRecDepth 100000 in
theorem c_X5_readPatience {l : Launch} {D : va_G} {cs : Nat → ClassId} {B0 T : Nat} {κ : KM} {H0 : Heap} (hT : WT B0 D cs T κ H0) {w : Nat} (hw : T2 κ w 6 10) (hs0 : ¬ (κ w).2.2.2 = 0) (hsu : T2 κ (κ w).2.2.2 7 11) : KC l yX5_readPatience wsX5_readPatience 2 44 0 0 D cs B0 H0 [.ref w] (Qi (fun r H => WT B0 D cs T κ H ∧ Fr B0 [10, 11] κ H0 H ∧ (r = 0 ∨ r = 1))) := by
  refine KC.of cX5_readPatience 1 (some .boolean) (by decide) rfl (Nat.le_of_ble_eq_true rfl) ?_
  intro p e s m below meth c ls hx hb hr hml hown hts hlocks hin hN hE hH0 hl
  have hown : s.vm.findClass RX5 = some m.cls := hown
  have hl : lv_has ls 1 [(0, .ref w)] := hl
  have hL : OkL B0 [] := OkL.nil
  have hF : Fr B0 [10, 11] κ H0 H0 := Fr.rf
  refine lv_aload_n hx hb dX5_readPatience_0 rfl (lv_at hl 0 rfl) ?_
  refine cv_v (As := []) (rest := []) (b := w) ⟨hx, hb, hml, hown, hts⟩ (c_X5_step hT (w := w) hw) (cwV 0 hts gX5_readPatience_X5_step rfl rfl rfl hdX5_step_v ⟨Nat.le_of_ble_eq_true rfl, Nat.le_of_ble_eq_true rfl⟩) hN hE hL (rcv6 hN hT hw.1) rfl rfl hl.1 (Nat.le_of_ble_eq_true rfl) dX5_readPatience_1 (Nat.zero_le _) (Nat.zero_le _) (fun H1 locs hL hqr1536 => ?_)
  obtain ⟨hT1, hF1, hqr1536⟩ := hqr1536
  have hF := hF.tr (hF1.mono (by simp))
  have hT := hT1
  have f1537 := hqr1536
  refine lv_aload_n hx hb dX5_readPatience_4 rfl (lv_at hl 0 rfl) ?_
  refine lv_iconst (v := 1) hx hb dX5_readPatience_5 (by decide) ?_
  refine lv_sipush (v := 200) hx hb dX5_readPatience_6 (by decide) ?_
  refine cv_i (As := [.int 1, .int 200]) (rest := []) (b := w) ⟨hx, hb, hml, hown, hts⟩ (c_X5_takeNumber hT (w := w) hw (x := 1) (y := 200)) (cwV 2 hts gX5_readPatience_X5_takeNumber rfl rfl rfl hdX5_takeNumber_v ⟨Nat.le_of_ble_eq_true rfl, Nat.le_of_ble_eq_true rfl⟩) hN hE hL (rcv6 hN hT hw.1) rfl rfl hl.1 (Nat.le_of_ble_eq_true rfl) dX5_readPatience_9 (Nat.zero_le _) (Nat.zero_le _) (fun r1538 H1 locs hL hqr1538 => ?_)
  obtain ⟨hT1, hF1, hqr1538⟩ := hqr1538
  have hF := hF.tr (hF1.mono (by simp))
  have hT := hT1
  rcases hqr1538 with rfl | ⟨rfl, v1539, l1540, g1541, f1542⟩
  · refine lv_if_ne (tgt := 17) hx hb dX5_readPatience_12 (by decide) (fun c9 => absurd (by decide) c9) (fun _ => ?_)
    refine lv_iconst (v := 0) hx hb dX5_readPatience_15 (by decide) ?_
    exact en_i hx hb hr hlocks hL rfl (Nat.zero_le _) (Nat.zero_le _) dX5_readPatience_16 (⟨hT, hF, Or.inl rfl⟩)
  · obtain ⟨n1543, hn1543a, hn1543b, rfl⟩ := rng (x := v1539) (lo := 1) (hi := 200) (by decide) (by decide) l1540 g1541
    refine lv_if_ne (tgt := 17) hx hb dX5_readPatience_12 (by decide) (fun _ => ?_) (fun c9 => absurd c9 (by decide))
    refine lv_aload_n hx hb dX5_readPatience_17 rfl (lv_at hl 0 rfl) ?_
    obtain ⟨hb1544, e1544, hat1544, hk1544⟩ := hT.o6 hw.1
    obtain ⟨f1544_0, f1544_2, f1544_3, f1544_4, f1544_5, f1544_6, f1544_7, f1544_8, f1544_9, f1544_10, f1544_11, f1544_12, f1544_13, rfl, c1544_1, c1544_2, c1544_3, c1544_5, c1544_10, t1544_0, t1544_9, c1544_11, c1544_p2⟩ := hk1544
    obtain rfl : f1544_11 = .ref (κ w).2.2.2 := c1544_p2.resolve_left hs0
    obtain rfl : f1544_7 = nI n1543 := Value.int.inj (f1542.eq hat1544 rfl (by decide) rfl)
    have hP : va_P D vwCl [(w, .inr (5, [.ref f1544_0, .int (nI ((κ w).2.2.1)), .int (nI f1544_2), .int (nI f1544_3), .int f1544_4, .int (nI f1544_5), .int f1544_6, .int (nI n1543), .int f1544_8, .ref f1544_9, .int (nI f1544_10), .ref (κ w).2.2.2, .int f1544_12, .int f1544_13]))] _ := va_P.cons hat1544 va_P.nil
    refine va_get (D := D) (ci := 5) (v := .ref (κ w).2.2.2) (C := RX5) (T := TX5) (N := 14) hx hb hts iX5_readPatience_5 hown hN.1 hP 0 rfl rfl 11 (by decide) (hts _ mX5_readPatience_1) (fun _ h9 => h9) rfl dX5_readPatience_18 ?_
    refine lv_aload_n hx hb dX5_readPatience_21 rfl (lv_at hl 0 rfl) ?_
    refine va_get (D := D) (ci := 5) (v := .int (nI n1543)) (C := RX5) (T := TX5) (N := 14) hx hb hts iX5_readPatience_5 hown hN.1 hP 0 rfl rfl 7 (by decide) (hts _ mX5_readPatience_2) (fun _ h9 => h9) rfl dX5_readPatience_22 ?_
    obtain ⟨hb1545, e1545, hat1545, hk1545⟩ := hT.o7 hsu.1
    obtain ⟨f1545_0, f1545_1, f1545_2, f1545_3, f1545_4, f1545_5, f1545_6, f1545_7, rfl, c1545_0, c1545_3, c1545_mg, t1545_4, t1545_5, t1545_6, t1545_7⟩ := hk1545
    rw [hsu.2] at t1545_4
    rw [hsu.2] at t1545_5
    rw [hsu.2] at t1545_6
    rw [hsu.2] at t1545_7
    have hP : va_P D vwCl [((κ w).2.2.2, .inr (6, [.int (nI f1545_0), .int f1545_1, .int f1545_2, f1545_3, .ref f1545_4, .ref f1545_5, .ref f1545_6, .ref f1545_7])), (w, .inr (5, [.ref f1544_0, .int (nI ((κ w).2.2.1)), .int (nI f1544_2), .int (nI f1544_3), .int f1544_4, .int (nI f1544_5), .int f1544_6, .int (nI n1543), .int f1544_8, .ref f1544_9, .int (nI f1544_10), .ref (κ w).2.2.2, .int f1544_12, .int f1544_13]))] _ := va_P.cons hat1545 hP
    have hB : Bx B0 D _ [((κ w).2.2.2, .inr (6, [.int (nI f1545_0), .int f1545_1, .int f1545_2, f1545_3, .ref f1545_4, .ref f1545_5, .ref f1545_6, .ref f1545_7])), (w, .inr (5, [.ref f1544_0, .int (nI ((κ w).2.2.1)), .int (nI f1544_2), .int (nI f1544_3), .int f1544_4, .int (nI f1544_5), .int f1544_6, .int (nI n1543), .int f1544_8, .ref f1544_9, .int (nI f1544_10), .ref (κ w).2.2.2, .int f1544_12, .int f1544_13]))] [] _ _ := Bx.of (fun a => (κ a).1) hL hP (fa_c hb1545 (fa_c hb1544 fa_n)) (by simp only [List.map_cons, List.map_nil, hsu.1, hw.1]; decide)
    refine b_putN (D := D) (ci := 6) (v := .int (nI n1543)) (ty := .int) (C := RX6) (T := TX6) (N := 8) hx hb hts iX5_readPatience_6 tyX6 tyX6_ok nmX6 hown hN hB 0 rfl rfl 2 (by decide) (hN.f 42 rfl) (fun _ h9 => h9) rfl (by decide +kernel) rfl rfl (Nat.le_of_ble_eq_true rfl) (.inl rfl) dX5_readPatience_25 (fun H locs hB => ?_)
    have hB : Bx B0 D _ [((κ w).2.2.2, .inr (6, [.int (nI f1545_0), .int f1545_1, .int (nI n1543), f1545_3, .ref f1545_4, .ref f1545_5, .ref f1545_6, .ref f1545_7])), (w, .inr (5, [.ref f1544_0, .int (nI ((κ w).2.2.1)), .int (nI f1544_2), .int (nI f1544_3), .int f1544_4, .int (nI f1544_5), .int f1544_6, .int (nI n1543), .int f1544_8, .ref f1544_9, .int (nI f1544_10), .ref (κ w).2.2.2, .int f1544_12, .int f1544_13]))] [(κ w).2.2.2] _ _ := hB
    refine lv_iconst (v := 1) hx hb dX5_readPatience_28 (by decide) ?_
    have hT : WT B0 D cs T κ _ := hT.close hB ⟨⟨0, _, rfl, ok_7 hsu.1 ⟨_, _, _, _, _, _, _, _, rfl, (by omega), c1545_3, c1545_mg, ⟨t1545_4.1, by rw [hsu.2]; exact t1545_4.2⟩, ⟨t1545_5.1, by rw [hsu.2]; exact t1545_5.2⟩, ⟨t1545_6.1, by rw [hsu.2]; exact t1545_6.2⟩, ⟨t1545_7.1, by rw [hsu.2]; exact t1545_7.2⟩⟩⟩, trivial⟩
    have hF : Fr B0 [10, 11] κ H0 _ := hF.close hB (fa_c (by simp [hsu.2]) fa_n)
    have hL : OkL B0 _ := hB.2.2.2.2.2
    have hP : va_P D vwCl [((κ w).2.2.2, .inr (6, [.int (nI f1545_0), .int f1545_1, .int (nI n1543), f1545_3, .ref f1545_4, .ref f1545_5, .ref f1545_6, .ref f1545_7])), (w, .inr (5, [.ref f1544_0, .int (nI ((κ w).2.2.1)), .int (nI f1544_2), .int (nI f1544_3), .int f1544_4, .int (nI f1544_5), .int f1544_6, .int (nI n1543), .int f1544_8, .ref f1544_9, .int (nI f1544_10), .ref (κ w).2.2.2, .int f1544_12, .int f1544_13]))] _ := hB.1
    exact en_i hx hb hr hlocks hL rfl (Nat.zero_le _) (Nat.zero_le _) dX5_readPatience_29 (⟨hT, hF, Or.inr rfl⟩)
theorem mX5_readClock_1 : (.fieldLink RX5 65 "OneBeat$Reader" "setup" "LOneBeat$Setup;" : Cond) ∈ wsX5_readClock := List.mem_of_getElem? (i := 1) (by decide +kernel)
theorem iX5_readClock_5 : ∀ w ∈ wsX50, w ∈ wsX5_readClock := fun w h => List.mem_of_mem_drop (List.mem_of_mem_take ((show wsX50 = (wsX5_readClock.drop 46).take 14 by decide +kernel) ▸ h))
theorem iX5_readClock_6 : ∀ w ∈ wsX60, w ∈ wsX5_readClock := fun w h => List.mem_of_mem_drop (List.mem_of_mem_take ((show wsX60 = (wsX5_readClock.drop 60).take 8 by decide +kernel) ▸ h))
theorem mX5_readClock_2 : (.fieldLink RX5 59 "OneBeat$Reader" "taken" "I" : Cond) ∈ wsX5_readClock := List.mem_of_getElem? (i := 2) (by decide +kernel)
theorem hdX6_hasClock_v : yX6_hasClock.cls = RX6 ∧ yX6_hasClock.cls ≠ "java/lang/invoke/MethodHandle" ∧ yX6_hasClock.cls ≠ "java/lang/invoke/VarHandle" ∧ (parseMethodDescriptor yX6_hasClock.desc).map (fun d => d.parameters.length) = some 1 := by decide +kernel
theorem hdX5_takeSigned_v : yX5_takeSigned.cls = RX5 ∧ yX5_takeSigned.cls ≠ "java/lang/invoke/MethodHandle" ∧ yX5_takeSigned.cls ≠ "java/lang/invoke/VarHandle" ∧ (parseMethodDescriptor yX5_takeSigned.desc).map (fun d => d.parameters.length) = some 1 := by decide +kernel
theorem hdX6_setClock_v : yX6_setClock.cls = RX6 ∧ yX6_setClock.cls ≠ "java/lang/invoke/MethodHandle" ∧ yX6_setClock.cls ≠ "java/lang/invoke/VarHandle" ∧ (parseMethodDescriptor yX6_setClock.desc).map (fun d => d.parameters.length) = some 3 := by decide +kernel
theorem mX5_readClock_3 : (.fieldLink RX5 135 "OneBeat$Reader" "takenAt" "I" : Cond) ∈ wsX5_readClock := List.mem_of_getElem? (i := 3) (by decide +kernel)
set_option maxHeartbeats 4000000 in
set_option maxRecDepth 100000 in
theorem c_X5_readClock {l : Launch} {D : va_G} {cs : Nat → ClassId} {B0 T : Nat} {κ : KM} {H0 : Heap} (hT : WT B0 D cs T κ H0) {w : Nat} (hw : T2 κ w 6 10) (hs0 : ¬ (κ w).2.2.2 = 0) (hsu : T2 κ (κ w).2.2.2 7 11) : KC l yX5_readClock wsX5_readClock 2 45 0 0 D cs B0 H0 [.ref w] (Qi (fun r H => WT B0 D cs T κ H ∧ Fr B0 [10, 11] κ H0 H ∧ (r = 0 ∨ r = 1))) := by
  refine KC.of cX5_readClock 3 (some .boolean) (by decide) rfl (Nat.le_of_ble_eq_true rfl) ?_
  intro p e s m below meth c ls hx hb hr hml hown hts hlocks hin hN hE hH0 hl
  have hown : s.vm.findClass RX5 = some m.cls := hown
  have hl : lv_has ls 3 [(0, .ref w)] := hl
  have hL : OkL B0 [] := OkL.nil
  have hF : Fr B0 [10, 11] κ H0 H0 := Fr.rf
  refine lv_aload_n hx hb dX5_readClock_0 rfl (lv_at hl 0 rfl) ?_
  refine cv_v (As := []) (rest := []) (b := w) ⟨hx, hb, hml, hown, hts⟩ (c_X5_step hT (w := w) hw) (cwV 0 hts gX5_readClock_X5_step rfl rfl rfl hdX5_step_v ⟨Nat.le_of_ble_eq_true rfl, Nat.le_of_ble_eq_true rfl⟩) hN hE hL (rcv6 hN hT hw.1) rfl rfl hl.1 (Nat.le_of_ble_eq_true rfl) dX5_readClock_1 (Nat.zero_le _) (Nat.zero_le _) (fun H1 locs hL hqr1546 => ?_)
  obtain ⟨hT1, hF1, hqr1546⟩ := hqr1546
  have hF := hF.tr (hF1.mono (by simp))
  have hT := hT1
  have f1547 := hqr1546
  refine lv_aload_n hx hb dX5_readClock_4 rfl (lv_at hl 0 rfl) ?_
  refine lv_iconst (v := 0) hx hb dX5_readClock_5 (by decide) ?_
  refine lv_aload_n hx hb dX5_readClock_6 rfl (lv_at hl 0 rfl) ?_
  obtain ⟨hb1548, e1548, hat1548, hk1548⟩ := hT.o6 hw.1
  obtain ⟨f1548_0, f1548_2, f1548_3, f1548_4, f1548_5, f1548_6, f1548_7, f1548_8, f1548_9, f1548_10, f1548_11, f1548_12, f1548_13, rfl, c1548_1, c1548_2, c1548_3, c1548_5, c1548_10, t1548_0, t1548_9, c1548_11, c1548_p2⟩ := hk1548
  obtain rfl : f1548_11 = .ref (κ w).2.2.2 := c1548_p2.resolve_left hs0
  have hP : va_P D vwCl [(w, .inr (5, [.ref f1548_0, .int (nI ((κ w).2.2.1)), .int (nI f1548_2), .int (nI f1548_3), .int f1548_4, .int (nI f1548_5), .int f1548_6, .int f1548_7, .int f1548_8, .ref f1548_9, .int (nI f1548_10), .ref (κ w).2.2.2, .int f1548_12, .int f1548_13]))] _ := va_P.cons hat1548 va_P.nil
  refine va_get (D := D) (ci := 5) (v := .ref (κ w).2.2.2) (C := RX5) (T := TX5) (N := 14) hx hb hts iX5_readClock_5 hown hN.1 hP 0 rfl rfl 11 (by decide) (hts _ mX5_readClock_1) (fun _ h9 => h9) rfl dX5_readClock_7 ?_
  obtain ⟨hb1549, e1549, hat1549, hk1549⟩ := hT.o7 hsu.1
  obtain ⟨f1549_0, f1549_1, f1549_2, f1549_3, f1549_4, f1549_5, f1549_6, f1549_7, rfl, c1549_0, c1549_3, c1549_mg, t1549_4, t1549_5, t1549_6, t1549_7⟩ := hk1549
  rw [hsu.2] at t1549_4
  rw [hsu.2] at t1549_5
  rw [hsu.2] at t1549_6
  rw [hsu.2] at t1549_7
  have hP : va_P D vwCl [((κ w).2.2.2, .inr (6, [.int (nI f1549_0), .int f1549_1, .int f1549_2, f1549_3, .ref f1549_4, .ref f1549_5, .ref f1549_6, .ref f1549_7])), (w, .inr (5, [.ref f1548_0, .int (nI ((κ w).2.2.1)), .int (nI f1548_2), .int (nI f1548_3), .int f1548_4, .int (nI f1548_5), .int f1548_6, .int f1548_7, .int f1548_8, .ref f1548_9, .int (nI f1548_10), .ref (κ w).2.2.2, .int f1548_12, .int f1548_13]))] _ := va_P.cons hat1549 hP
  refine va_getN (D := D) (ci := 6) (v := .int (nI f1549_0)) (C := RX6) (T := TX6) (N := 8) hx hb hts iX5_readClock_6 hown hN.1 hP 0 rfl rfl 0 (by decide) (hN.f 38 rfl) (fun _ h9 => h9) rfl dX5_readClock_10 ?_
  refine lv_iconst (v := 1) hx hb dX5_readClock_13 (by decide) ?_
  refine lv_isub hx hb dX5_readClock_14 ?_
  refine gn_i (fun x1550 => ?_)
  refine cv_i (As := [.int 0, .int x1550]) (rest := []) (b := w) ⟨hx, hb, hml, hown, hts⟩ (c_X5_takeNumber hT (w := w) hw (x := 0) (y := x1550)) (cwV 2 hts gX5_readClock_X5_takeNumber rfl rfl rfl hdX5_takeNumber_v ⟨Nat.le_of_ble_eq_true rfl, Nat.le_of_ble_eq_true rfl⟩) hN hE hL (rcv6 hN hT hw.1) rfl rfl hl.1 (Nat.le_of_ble_eq_true rfl) dX5_readClock_15 (Nat.zero_le _) (Nat.zero_le _) (fun r1551 H1 locs hL hqr1551 => ?_)
  obtain ⟨hT1, hF1, hqr1551⟩ := hqr1551
  have hP : va_P D vwCl [((κ w).2.2.2, .inr (6, [.int (nI f1549_0), .int f1549_1, .int f1549_2, f1549_3, .ref f1549_4, .ref f1549_5, .ref f1549_6, .ref f1549_7]))] _ := hF1.hP (hP.sub [0] rfl) (fa_c ⟨by rw [hsu.1]; decide, by rw [hsu.2]; first | decide | (simp; done) | (simp; omega)⟩ fa_n)
  have hF := hF.tr (hF1.mono (by simp))
  have hT := hT1
  rcases hqr1551 with rfl | ⟨rfl, v1552, l1553, g1554, f1555⟩
  · refine lv_if_ne (tgt := 23) hx hb dX5_readClock_18 (by decide) (fun c9 => absurd (by decide) c9) (fun _ => ?_)
    refine lv_iconst (v := 0) hx hb dX5_readClock_21 (by decide) ?_
    exact en_i hx hb hr hlocks hL rfl (Nat.zero_le _) (Nat.zero_le _) dX5_readClock_22 (⟨hT, hF, Or.inl rfl⟩)
  · refine lv_if_ne (tgt := 23) hx hb dX5_readClock_18 (by decide) (fun _ => ?_) (fun c9 => absurd c9 (by decide))
    refine lv_aload_n hx hb dX5_readClock_23 rfl (lv_at hl 0 rfl) ?_
    obtain ⟨hb1556, e1556, hat1556, hk1556⟩ := hT.o6 hw.1
    obtain ⟨f1556_0, f1556_2, f1556_3, f1556_4, f1556_5, f1556_6, f1556_7, f1556_8, f1556_9, f1556_10, f1556_11, f1556_12, f1556_13, rfl, c1556_1, c1556_2, c1556_3, c1556_5, c1556_10, t1556_0, t1556_9, c1556_11, c1556_p2⟩ := hk1556
    obtain rfl : f1556_11 = .ref (κ w).2.2.2 := c1556_p2.resolve_left hs0
    have hP : va_P D vwCl [(w, .inr (5, [.ref f1556_0, .int (nI ((κ w).2.2.1)), .int (nI f1556_2), .int (nI f1556_3), .int f1556_4, .int (nI f1556_5), .int f1556_6, .int f1556_7, .int f1556_8, .ref f1556_9, .int (nI f1556_10), .ref (κ w).2.2.2, .int f1556_12, .int f1556_13])), ((κ w).2.2.2, .inr (6, [.int (nI f1549_0), .int f1549_1, .int f1549_2, f1549_3, .ref f1549_4, .ref f1549_5, .ref f1549_6, .ref f1549_7]))] _ := va_P.cons hat1556 hP
    refine va_get (D := D) (ci := 5) (v := .int f1556_7) (C := RX5) (T := TX5) (N := 14) hx hb hts iX5_readClock_5 hown hN.1 hP 0 rfl rfl 7 (by decide) (hts _ mX5_readClock_2) (fun _ h9 => h9) rfl dX5_readClock_24 ?_
    refine lv_istore_n (lv' := [(1, .int f1556_7), (0, .ref w)]) hx hb dX5_readClock_27 rfl hl (by decide) rfl (fun ls hl => ?_)
    refine lv_aload_n hx hb dX5_readClock_28 rfl (lv_at hl 1 rfl) ?_
    refine va_get (D := D) (ci := 5) (v := .ref (κ w).2.2.2) (C := RX5) (T := TX5) (N := 14) hx hb hts iX5_readClock_5 hown hN.1 hP 0 rfl rfl 11 (by decide) (hts _ mX5_readClock_1) (fun _ h9 => h9) rfl dX5_readClock_29 ?_
    refine lv_iload_n hx hb dX5_readClock_32 rfl (lv_at hl 0 rfl) ?_
    refine cv_i (As := [.int f1556_7]) (rest := []) (b := (κ w).2.2.2) ⟨hx, hb, hml, hown, hts⟩ (c_X6_hasClock hT (w := (κ w).2.2.2) hsu (x := f1556_7)) (cwV 1 hts gX5_readClock_X6_hasClock rfl rfl rfl hdX6_hasClock_v ⟨Nat.le_of_ble_eq_true rfl, Nat.le_of_ble_eq_true rfl⟩) hN hE hL (rcv7 hN hT hsu.1) rfl rfl hl.1 (Nat.le_of_ble_eq_true rfl) dX5_readClock_33 (Nat.zero_le _) (Nat.zero_le _) (fun r1557 H1 locs hL hqr1557 => ?_)
    obtain ⟨h9, hqr1557⟩ := hqr1557; replace h9 := h9.symm; subst h9
    rcases hqr1557 with rfl | rfl
    · refine lv_if_eq (tgt := 50) hx hb dX5_readClock_36 (by decide) (fun _ => ?_) (fun c9 => absurd (by decide) c9)
      refine lv_aload_n hx hb dX5_readClock_50 rfl (lv_at hl 1 rfl) ?_
      refine lv_sipush (v := 999) hx hb dX5_readClock_51 (by decide) ?_
      refine cv_i (As := [.int 999]) (rest := []) (b := w) ⟨hx, hb, hml, hown, hts⟩ (c_X5_takeSigned hT (w := w) hw (x := 999)) (cwV 1 hts gX5_readClock_X5_takeSigned rfl rfl rfl hdX5_takeSigned_v ⟨Nat.le_of_ble_eq_true rfl, Nat.le_of_ble_eq_true rfl⟩) hN hE hL (rcv6 hN hT hw.1) rfl rfl hl.1 (Nat.le_of_ble_eq_true rfl) dX5_readClock_54 (Nat.zero_le _) (Nat.zero_le _) (fun r1558 H1 locs hL hqr1558 => ?_)
      obtain ⟨hT1, hF1, hqr1558⟩ := hqr1558
      have hP : va_P D vwCl [((κ w).2.2.2, .inr (6, [.int (nI f1549_0), .int f1549_1, .int f1549_2, f1549_3, .ref f1549_4, .ref f1549_5, .ref f1549_6, .ref f1549_7]))] _ := hF1.hP (hP.sub [1] rfl) (fa_c ⟨by rw [hsu.1]; decide, by rw [hsu.2]; first | decide | (simp; done) | (simp; omega)⟩ fa_n)
      have hF := hF.tr (hF1.mono (by simp))
      have hT := hT1
      rcases hqr1558 with rfl | rfl
      · refine lv_if_ne (tgt := 62) hx hb dX5_readClock_57 (by decide) (fun c9 => absurd (by decide) c9) (fun _ => ?_)
        refine lv_iconst (v := 0) hx hb dX5_readClock_60 (by decide) ?_
        exact en_i hx hb hr hlocks hL rfl (Nat.zero_le _) (Nat.zero_le _) dX5_readClock_61 (⟨hT, hF, Or.inl rfl⟩)
      · refine lv_if_ne (tgt := 62) hx hb dX5_readClock_57 (by decide) (fun _ => ?_) (fun c9 => absurd c9 (by decide))
        refine lv_aload_n hx hb dX5_readClock_62 rfl (lv_at hl 1 rfl) ?_
        obtain ⟨hb1559, e1559, hat1559, hk1559⟩ := hT.o6 hw.1
        obtain ⟨f1559_0, f1559_2, f1559_3, f1559_4, f1559_5, f1559_6, f1559_7, f1559_8, f1559_9, f1559_10, f1559_11, f1559_12, f1559_13, rfl, c1559_1, c1559_2, c1559_3, c1559_5, c1559_10, t1559_0, t1559_9, c1559_11, c1559_p2⟩ := hk1559
        obtain rfl : f1559_11 = .ref (κ w).2.2.2 := c1559_p2.resolve_left hs0
        have hP : va_P D vwCl [(w, .inr (5, [.ref f1559_0, .int (nI ((κ w).2.2.1)), .int (nI f1559_2), .int (nI f1559_3), .int f1559_4, .int (nI f1559_5), .int f1559_6, .int f1559_7, .int f1559_8, .ref f1559_9, .int (nI f1559_10), .ref (κ w).2.2.2, .int f1559_12, .int f1559_13])), ((κ w).2.2.2, .inr (6, [.int (nI f1549_0), .int f1549_1, .int f1549_2, f1549_3, .ref f1549_4, .ref f1549_5, .ref f1549_6, .ref f1549_7]))] _ := va_P.cons hat1559 hP
        refine va_get (D := D) (ci := 5) (v := .int f1559_7) (C := RX5) (T := TX5) (N := 14) hx hb hts iX5_readClock_5 hown hN.1 hP 0 rfl rfl 7 (by decide) (hts _ mX5_readClock_2) (fun _ h9 => h9) rfl dX5_readClock_63 ?_
        refine lv_istore_n (lv' := [(2, .int f1559_7), (1, .int f1556_7), (0, .ref w)]) hx hb dX5_readClock_66 rfl hl (by decide) rfl (fun ls hl => ?_)
        refine lv_aload_n hx hb dX5_readClock_67 rfl (lv_at hl 2 rfl) ?_
        refine lv_bipush (v := 50) hx hb dX5_readClock_68 (by decide) ?_
        refine cv_i (As := [.int 50]) (rest := []) (b := w) ⟨hx, hb, hml, hown, hts⟩ (c_X5_takeSigned hT (w := w) hw (x := 50)) (cwV 1 hts gX5_readClock_X5_takeSigned rfl rfl rfl hdX5_takeSigned_v ⟨Nat.le_of_ble_eq_true rfl, Nat.le_of_ble_eq_true rfl⟩) hN hE hL (rcv6 hN hT hw.1) rfl rfl hl.1 (Nat.le_of_ble_eq_true rfl) dX5_readClock_70 (Nat.zero_le _) (Nat.zero_le _) (fun r1560 H1 locs hL hqr1560 => ?_)
        obtain ⟨hT1, hF1, hqr1560⟩ := hqr1560
        have hP : va_P D vwCl [((κ w).2.2.2, .inr (6, [.int (nI f1549_0), .int f1549_1, .int f1549_2, f1549_3, .ref f1549_4, .ref f1549_5, .ref f1549_6, .ref f1549_7]))] _ := hF1.hP (hP.sub [1] rfl) (fa_c ⟨by rw [hsu.1]; decide, by rw [hsu.2]; first | decide | (simp; done) | (simp; omega)⟩ fa_n)
        have hF := hF.tr (hF1.mono (by simp))
        have hT := hT1
        rcases hqr1560 with rfl | rfl
        · refine lv_if_ne (tgt := 78) hx hb dX5_readClock_73 (by decide) (fun c9 => absurd (by decide) c9) (fun _ => ?_)
          refine lv_iconst (v := 0) hx hb dX5_readClock_76 (by decide) ?_
          exact en_i hx hb hr hlocks hL rfl (Nat.zero_le _) (Nat.zero_le _) dX5_readClock_77 (⟨hT, hF, Or.inl rfl⟩)
        · refine lv_if_ne (tgt := 78) hx hb dX5_readClock_73 (by decide) (fun _ => ?_) (fun c9 => absurd c9 (by decide))
          refine lv_aload_n hx hb dX5_readClock_78 rfl (lv_at hl 2 rfl) ?_
          obtain ⟨hb1561, e1561, hat1561, hk1561⟩ := hT.o6 hw.1
          obtain ⟨f1561_0, f1561_2, f1561_3, f1561_4, f1561_5, f1561_6, f1561_7, f1561_8, f1561_9, f1561_10, f1561_11, f1561_12, f1561_13, rfl, c1561_1, c1561_2, c1561_3, c1561_5, c1561_10, t1561_0, t1561_9, c1561_11, c1561_p2⟩ := hk1561
          obtain rfl : f1561_11 = .ref (κ w).2.2.2 := c1561_p2.resolve_left hs0
          have hP : va_P D vwCl [(w, .inr (5, [.ref f1561_0, .int (nI ((κ w).2.2.1)), .int (nI f1561_2), .int (nI f1561_3), .int f1561_4, .int (nI f1561_5), .int f1561_6, .int f1561_7, .int f1561_8, .ref f1561_9, .int (nI f1561_10), .ref (κ w).2.2.2, .int f1561_12, .int f1561_13])), ((κ w).2.2.2, .inr (6, [.int (nI f1549_0), .int f1549_1, .int f1549_2, f1549_3, .ref f1549_4, .ref f1549_5, .ref f1549_6, .ref f1549_7]))] _ := va_P.cons hat1561 hP
          refine va_get (D := D) (ci := 5) (v := .ref (κ w).2.2.2) (C := RX5) (T := TX5) (N := 14) hx hb hts iX5_readClock_5 hown hN.1 hP 0 rfl rfl 11 (by decide) (hts _ mX5_readClock_1) (fun _ h9 => h9) rfl dX5_readClock_79 ?_
          refine lv_iload_n hx hb dX5_readClock_82 rfl (lv_at hl 1 rfl) ?_
          refine lv_iload_n hx hb dX5_readClock_83 rfl (lv_at hl 0 rfl) ?_
          refine lv_aload_n hx hb dX5_readClock_84 rfl (lv_at hl 2 rfl) ?_
          refine va_get (D := D) (ci := 5) (v := .int f1561_7) (C := RX5) (T := TX5) (N := 14) hx hb hts iX5_readClock_5 hown hN.1 hP 0 rfl rfl 7 (by decide) (hts _ mX5_readClock_2) (fun _ h9 => h9) rfl dX5_readClock_85 ?_
          refine cv_v (As := [.int f1556_7, .int f1559_7, .int f1561_7]) (rest := []) (b := (κ w).2.2.2) ⟨hx, hb, hml, hown, hts⟩ (c_X6_setClock hT (w := (κ w).2.2.2) hsu (x := f1556_7) (y := f1559_7) (z := f1561_7)) (cwV 3 hts gX5_readClock_X6_setClock rfl rfl rfl hdX6_setClock_v ⟨Nat.le_of_ble_eq_true rfl, Nat.le_of_ble_eq_true rfl⟩) hN hE hL (rcv7 hN hT hsu.1) rfl rfl hl.1 (Nat.le_of_ble_eq_true rfl) dX5_readClock_88 (Nat.zero_le _) (Nat.zero_le _) (fun H1 locs hL hqr1562 => ?_)
          obtain ⟨hT1, hF1⟩ := hqr1562
          have hP : va_P D vwCl [(w, .inr (5, [.ref f1561_0, .int (nI ((κ w).2.2.1)), .int (nI f1561_2), .int (nI f1561_3), .int f1561_4, .int (nI f1561_5), .int f1561_6, .int f1561_7, .int f1561_8, .ref f1561_9, .int (nI f1561_10), .ref (κ w).2.2.2, .int f1561_12, .int f1561_13]))] _ := hF1.hP (hP.sub [0] rfl) (fa_c ⟨by rw [hw.1]; decide, by rw [hw.2]; first | decide | (simp; done) | (simp; omega)⟩ fa_n)
          have hF := hF.tr (hF1.mono (by simp))
          have hT := hT1
          refine lv_iconst (v := 1) hx hb dX5_readClock_91 (by decide) ?_
          exact en_i hx hb hr hlocks hL rfl (Nat.zero_le _) (Nat.zero_le _) dX5_readClock_92 (⟨hT, hF, Or.inr rfl⟩)
    · refine lv_if_eq (tgt := 50) hx hb dX5_readClock_36 (by decide) (fun c9 => absurd c9 (by decide)) (fun _ => ?_)
      refine lv_aload_n hx hb dX5_readClock_39 rfl (lv_at hl 1 rfl) ?_
      refine lv_bipush (v := (-4)) hx hb dX5_readClock_40 (by decide) ?_
      refine lv_aload_n hx hb dX5_readClock_42 rfl (lv_at hl 1 rfl) ?_
      refine va_get (D := D) (ci := 5) (v := .int f1556_8) (C := RX5) (T := TX5) (N := 14) hx hb hts iX5_readClock_5 hown hN.1 hP 0 rfl rfl 8 (by decide) (hts _ mX5_readClock_3) (fun _ h9 => h9) rfl dX5_readClock_43 ?_
      refine cv_i (As := [.int (-4), .int f1556_8]) (rest := []) (b := w) ⟨hx, hb, hml, hown, hts⟩ (c_X5_fail hT (w := w) hw (x := (-4)) (y := f1556_8)) (cwV 2 hts gX5_readClock_X5_fail rfl rfl rfl hdX5_fail_v ⟨Nat.le_of_ble_eq_true rfl, Nat.le_of_ble_eq_true rfl⟩) hN hE hL (rcv6 hN hT hw.1) rfl rfl hl.1 (Nat.le_of_ble_eq_true rfl) dX5_readClock_46 (Nat.zero_le _) (Nat.zero_le _) (fun r1563 H1 locs hL hqr1563 => ?_)
      obtain ⟨hT1, hF1, hqr1563⟩ := hqr1563
      have hP : va_P D vwCl [((κ w).2.2.2, .inr (6, [.int (nI f1549_0), .int f1549_1, .int f1549_2, f1549_3, .ref f1549_4, .ref f1549_5, .ref f1549_6, .ref f1549_7]))] _ := hF1.hP (hP.sub [1] rfl) (fa_c ⟨by rw [hsu.1]; decide, by rw [hsu.2]; first | decide | (simp; done) | (simp; omega)⟩ fa_n)
      have hF := hF.tr (hF1.mono (by simp))
      have hT := hT1
      obtain rfl := hqr1563
      exact en_i hx hb hr hlocks hL rfl (Nat.zero_le _) (Nat.zero_le _) dX5_readClock_49 (⟨hT, hF, Or.inl rfl⟩)
theorem mX5_readLink_1 : (.fieldLink RX5 65 "OneBeat$Reader" "setup" "LOneBeat$Setup;" : Cond) ∈ wsX5_readLink := List.mem_of_getElem? (i := 1) (by decide +kernel)
theorem iX5_readLink_5 : ∀ w ∈ wsX50, w ∈ wsX5_readLink := fun w h => List.mem_of_mem_drop (List.mem_of_mem_take ((show wsX50 = (wsX5_readLink.drop 39).take 14 by decide +kernel) ▸ h))
theorem iX5_readLink_6 : ∀ w ∈ wsX60, w ∈ wsX5_readLink := fun w h => List.mem_of_mem_drop (List.mem_of_mem_take ((show wsX60 = (wsX5_readLink.drop 53).take 8 by decide +kernel) ▸ h))
theorem mX5_readLink_2 : (.fieldLink RX5 59 "OneBeat$Reader" "taken" "I" : Cond) ∈ wsX5_readLink := List.mem_of_getElem? (i := 2) (by decide +kernel)
theorem mX5_readLink_3 : (.fieldLink RX5 135 "OneBeat$Reader" "takenAt" "I" : Cond) ∈ wsX5_readLink := List.mem_of_getElem? (i := 3) (by decide +kernel)
theorem hdX6_setDelay_v : yX6_setDelay.cls = RX6 ∧ yX6_setDelay.cls ≠ "java/lang/invoke/MethodHandle" ∧ yX6_setDelay.cls ≠ "java/lang/invoke/VarHandle" ∧ (parseMethodDescriptor yX6_setDelay.desc).map (fun d => d.parameters.length) = some 3 := by decide +kernel
set_option maxHeartbeats 4000000 in
set_option maxRecDepth 100000 in
theorem c_X5_readLink {l : Launch} {D : va_G} {cs : Nat → ClassId} {B0 T : Nat} {κ : KM} {H0 : Heap} (hT : WT B0 D cs T κ H0) {w : Nat} (hw : T2 κ w 6 10) (hs0 : ¬ (κ w).2.2.2 = 0) (hsu : T2 κ (κ w).2.2.2 7 11) : KC l yX5_readLink wsX5_readLink 2 44 0 0 D cs B0 H0 [.ref w] (Qi (fun r H => WT B0 D cs T κ H ∧ Fr B0 [10, 11] κ H0 H ∧ (r = 0 ∨ r = 1))) := by
  refine KC.of cX5_readLink 4 (some .boolean) (by decide) rfl (Nat.le_of_ble_eq_true rfl) ?_
  intro p e s m below meth c ls hx hb hr hml hown hts hlocks hin hN hE hH0 hl
  have hown : s.vm.findClass RX5 = some m.cls := hown
  have hl : lv_has ls 4 [(0, .ref w)] := hl
  have hL : OkL B0 [] := OkL.nil
  have hF : Fr B0 [10, 11] κ H0 H0 := Fr.rf
  refine lv_aload_n hx hb dX5_readLink_0 rfl (lv_at hl 0 rfl) ?_
  refine cv_v (As := []) (rest := []) (b := w) ⟨hx, hb, hml, hown, hts⟩ (c_X5_step hT (w := w) hw) (cwV 0 hts gX5_readLink_X5_step rfl rfl rfl hdX5_step_v ⟨Nat.le_of_ble_eq_true rfl, Nat.le_of_ble_eq_true rfl⟩) hN hE hL (rcv6 hN hT hw.1) rfl rfl hl.1 (Nat.le_of_ble_eq_true rfl) dX5_readLink_1 (Nat.zero_le _) (Nat.zero_le _) (fun H1 locs hL hqr1564 => ?_)
  obtain ⟨hT1, hF1, hqr1564⟩ := hqr1564
  have hF := hF.tr (hF1.mono (by simp))
  have hT := hT1
  have f1565 := hqr1564
  refine lv_aload_n hx hb dX5_readLink_4 rfl (lv_at hl 0 rfl) ?_
  refine lv_iconst (v := 0) hx hb dX5_readLink_5 (by decide) ?_
  refine lv_aload_n hx hb dX5_readLink_6 rfl (lv_at hl 0 rfl) ?_
  obtain ⟨hb1566, e1566, hat1566, hk1566⟩ := hT.o6 hw.1
  obtain ⟨f1566_0, f1566_2, f1566_3, f1566_4, f1566_5, f1566_6, f1566_7, f1566_8, f1566_9, f1566_10, f1566_11, f1566_12, f1566_13, rfl, c1566_1, c1566_2, c1566_3, c1566_5, c1566_10, t1566_0, t1566_9, c1566_11, c1566_p2⟩ := hk1566
  obtain rfl : f1566_11 = .ref (κ w).2.2.2 := c1566_p2.resolve_left hs0
  have hP : va_P D vwCl [(w, .inr (5, [.ref f1566_0, .int (nI ((κ w).2.2.1)), .int (nI f1566_2), .int (nI f1566_3), .int f1566_4, .int (nI f1566_5), .int f1566_6, .int f1566_7, .int f1566_8, .ref f1566_9, .int (nI f1566_10), .ref (κ w).2.2.2, .int f1566_12, .int f1566_13]))] _ := va_P.cons hat1566 va_P.nil
  refine va_get (D := D) (ci := 5) (v := .ref (κ w).2.2.2) (C := RX5) (T := TX5) (N := 14) hx hb hts iX5_readLink_5 hown hN.1 hP 0 rfl rfl 11 (by decide) (hts _ mX5_readLink_1) (fun _ h9 => h9) rfl dX5_readLink_7 ?_
  obtain ⟨hb1567, e1567, hat1567, hk1567⟩ := hT.o7 hsu.1
  obtain ⟨f1567_0, f1567_1, f1567_2, f1567_3, f1567_4, f1567_5, f1567_6, f1567_7, rfl, c1567_0, c1567_3, c1567_mg, t1567_4, t1567_5, t1567_6, t1567_7⟩ := hk1567
  rw [hsu.2] at t1567_4
  rw [hsu.2] at t1567_5
  rw [hsu.2] at t1567_6
  rw [hsu.2] at t1567_7
  have hP : va_P D vwCl [((κ w).2.2.2, .inr (6, [.int (nI f1567_0), .int f1567_1, .int f1567_2, f1567_3, .ref f1567_4, .ref f1567_5, .ref f1567_6, .ref f1567_7])), (w, .inr (5, [.ref f1566_0, .int (nI ((κ w).2.2.1)), .int (nI f1566_2), .int (nI f1566_3), .int f1566_4, .int (nI f1566_5), .int f1566_6, .int f1566_7, .int f1566_8, .ref f1566_9, .int (nI f1566_10), .ref (κ w).2.2.2, .int f1566_12, .int f1566_13]))] _ := va_P.cons hat1567 hP
  refine va_getN (D := D) (ci := 6) (v := .int (nI f1567_0)) (C := RX6) (T := TX6) (N := 8) hx hb hts iX5_readLink_6 hown hN.1 hP 0 rfl rfl 0 (by decide) (hN.f 38 rfl) (fun _ h9 => h9) rfl dX5_readLink_10 ?_
  refine lv_iconst (v := 1) hx hb dX5_readLink_13 (by decide) ?_
  refine lv_isub hx hb dX5_readLink_14 ?_
  refine gn_i (fun x1568 => ?_)
  refine cv_i (As := [.int 0, .int x1568]) (rest := []) (b := w) ⟨hx, hb, hml, hown, hts⟩ (c_X5_takeNumber hT (w := w) hw (x := 0) (y := x1568)) (cwV 2 hts gX5_readLink_X5_takeNumber rfl rfl rfl hdX5_takeNumber_v ⟨Nat.le_of_ble_eq_true rfl, Nat.le_of_ble_eq_true rfl⟩) hN hE hL (rcv6 hN hT hw.1) rfl rfl hl.1 (Nat.le_of_ble_eq_true rfl) dX5_readLink_15 (Nat.zero_le _) (Nat.zero_le _) (fun r1569 H1 locs hL hqr1569 => ?_)
  obtain ⟨hT1, hF1, hqr1569⟩ := hqr1569
  have hP : va_P D vwCl [((κ w).2.2.2, .inr (6, [.int (nI f1567_0), .int f1567_1, .int f1567_2, f1567_3, .ref f1567_4, .ref f1567_5, .ref f1567_6, .ref f1567_7]))] _ := hF1.hP (hP.sub [0] rfl) (fa_c ⟨by rw [hsu.1]; decide, by rw [hsu.2]; first | decide | (simp; done) | (simp; omega)⟩ fa_n)
  have hF := hF.tr (hF1.mono (by simp))
  have hT := hT1
  rcases hqr1569 with rfl | ⟨rfl, v1570, l1571, g1572, f1573⟩
  · refine lv_if_ne (tgt := 23) hx hb dX5_readLink_18 (by decide) (fun c9 => absurd (by decide) c9) (fun _ => ?_)
    refine lv_iconst (v := 0) hx hb dX5_readLink_21 (by decide) ?_
    exact en_i hx hb hr hlocks hL rfl (Nat.zero_le _) (Nat.zero_le _) dX5_readLink_22 (⟨hT, hF, Or.inl rfl⟩)
  · refine lv_if_ne (tgt := 23) hx hb dX5_readLink_18 (by decide) (fun _ => ?_) (fun c9 => absurd c9 (by decide))
    refine lv_aload_n hx hb dX5_readLink_23 rfl (lv_at hl 0 rfl) ?_
    obtain ⟨hb1574, e1574, hat1574, hk1574⟩ := hT.o6 hw.1
    obtain ⟨f1574_0, f1574_2, f1574_3, f1574_4, f1574_5, f1574_6, f1574_7, f1574_8, f1574_9, f1574_10, f1574_11, f1574_12, f1574_13, rfl, c1574_1, c1574_2, c1574_3, c1574_5, c1574_10, t1574_0, t1574_9, c1574_11, c1574_p2⟩ := hk1574
    obtain rfl : f1574_11 = .ref (κ w).2.2.2 := c1574_p2.resolve_left hs0
    have hP : va_P D vwCl [(w, .inr (5, [.ref f1574_0, .int (nI ((κ w).2.2.1)), .int (nI f1574_2), .int (nI f1574_3), .int f1574_4, .int (nI f1574_5), .int f1574_6, .int f1574_7, .int f1574_8, .ref f1574_9, .int (nI f1574_10), .ref (κ w).2.2.2, .int f1574_12, .int f1574_13])), ((κ w).2.2.2, .inr (6, [.int (nI f1567_0), .int f1567_1, .int f1567_2, f1567_3, .ref f1567_4, .ref f1567_5, .ref f1567_6, .ref f1567_7]))] _ := va_P.cons hat1574 hP
    refine va_get (D := D) (ci := 5) (v := .int f1574_7) (C := RX5) (T := TX5) (N := 14) hx hb hts iX5_readLink_5 hown hN.1 hP 0 rfl rfl 7 (by decide) (hts _ mX5_readLink_2) (fun _ h9 => h9) rfl dX5_readLink_24 ?_
    refine lv_istore_n (lv' := [(1, .int f1574_7), (0, .ref w)]) hx hb dX5_readLink_27 rfl hl (by decide) rfl (fun ls hl => ?_)
    refine lv_aload_n hx hb dX5_readLink_28 rfl (lv_at hl 1 rfl) ?_
    refine lv_iconst (v := 0) hx hb dX5_readLink_29 (by decide) ?_
    refine lv_aload_n hx hb dX5_readLink_30 rfl (lv_at hl 1 rfl) ?_
    refine va_get (D := D) (ci := 5) (v := .ref (κ w).2.2.2) (C := RX5) (T := TX5) (N := 14) hx hb hts iX5_readLink_5 hown hN.1 hP 0 rfl rfl 11 (by decide) (hts _ mX5_readLink_1) (fun _ h9 => h9) rfl dX5_readLink_31 ?_
    refine va_getN (D := D) (ci := 6) (v := .int (nI f1567_0)) (C := RX6) (T := TX6) (N := 8) hx hb hts iX5_readLink_6 hown hN.1 hP 1 rfl rfl 0 (by decide) (hN.f 38 rfl) (fun _ h9 => h9) rfl dX5_readLink_34 ?_
    refine lv_iconst (v := 1) hx hb dX5_readLink_37 (by decide) ?_
    refine lv_isub hx hb dX5_readLink_38 ?_
    refine gn_i (fun x1575 => ?_)
    refine cv_i (As := [.int 0, .int x1575]) (rest := []) (b := w) ⟨hx, hb, hml, hown, hts⟩ (c_X5_takeNumber hT (w := w) hw (x := 0) (y := x1575)) (cwV 2 hts gX5_readLink_X5_takeNumber rfl rfl rfl hdX5_takeNumber_v ⟨Nat.le_of_ble_eq_true rfl, Nat.le_of_ble_eq_true rfl⟩) hN hE hL (rcv6 hN hT hw.1) rfl rfl hl.1 (Nat.le_of_ble_eq_true rfl) dX5_readLink_39 (Nat.zero_le _) (Nat.zero_le _) (fun r1576 H1 locs hL hqr1576 => ?_)
    obtain ⟨hT1, hF1, hqr1576⟩ := hqr1576
    have hP : va_P D vwCl [((κ w).2.2.2, .inr (6, [.int (nI f1567_0), .int f1567_1, .int f1567_2, f1567_3, .ref f1567_4, .ref f1567_5, .ref f1567_6, .ref f1567_7]))] _ := hF1.hP (hP.sub [1] rfl) (fa_c ⟨by rw [hsu.1]; decide, by rw [hsu.2]; first | decide | (simp; done) | (simp; omega)⟩ fa_n)
    have hF := hF.tr (hF1.mono (by simp))
    have hT := hT1
    rcases hqr1576 with rfl | ⟨rfl, v1577, l1578, g1579, f1580⟩
    · refine lv_if_ne (tgt := 47) hx hb dX5_readLink_42 (by decide) (fun c9 => absurd (by decide) c9) (fun _ => ?_)
      refine lv_iconst (v := 0) hx hb dX5_readLink_45 (by decide) ?_
      exact en_i hx hb hr hlocks hL rfl (Nat.zero_le _) (Nat.zero_le _) dX5_readLink_46 (⟨hT, hF, Or.inl rfl⟩)
    · refine lv_if_ne (tgt := 47) hx hb dX5_readLink_42 (by decide) (fun _ => ?_) (fun c9 => absurd c9 (by decide))
      refine lv_aload_n hx hb dX5_readLink_47 rfl (lv_at hl 1 rfl) ?_
      obtain ⟨hb1581, e1581, hat1581, hk1581⟩ := hT.o6 hw.1
      obtain ⟨f1581_0, f1581_2, f1581_3, f1581_4, f1581_5, f1581_6, f1581_7, f1581_8, f1581_9, f1581_10, f1581_11, f1581_12, f1581_13, rfl, c1581_1, c1581_2, c1581_3, c1581_5, c1581_10, t1581_0, t1581_9, c1581_11, c1581_p2⟩ := hk1581
      obtain rfl : f1581_11 = .ref (κ w).2.2.2 := c1581_p2.resolve_left hs0
      have hP : va_P D vwCl [(w, .inr (5, [.ref f1581_0, .int (nI ((κ w).2.2.1)), .int (nI f1581_2), .int (nI f1581_3), .int f1581_4, .int (nI f1581_5), .int f1581_6, .int f1581_7, .int f1581_8, .ref f1581_9, .int (nI f1581_10), .ref (κ w).2.2.2, .int f1581_12, .int f1581_13])), ((κ w).2.2.2, .inr (6, [.int (nI f1567_0), .int f1567_1, .int f1567_2, f1567_3, .ref f1567_4, .ref f1567_5, .ref f1567_6, .ref f1567_7]))] _ := va_P.cons hat1581 hP
      refine va_get (D := D) (ci := 5) (v := .int f1581_7) (C := RX5) (T := TX5) (N := 14) hx hb hts iX5_readLink_5 hown hN.1 hP 0 rfl rfl 7 (by decide) (hts _ mX5_readLink_2) (fun _ h9 => h9) rfl dX5_readLink_48 ?_
      refine lv_istore_n (lv' := [(2, .int f1581_7), (1, .int f1574_7), (0, .ref w)]) hx hb dX5_readLink_51 rfl hl (by decide) rfl (fun ls hl => ?_)
      refine lv_iload_n hx hb dX5_readLink_52 rfl (lv_at hl 1 rfl) ?_
      refine lv_iload_n hx hb dX5_readLink_53 rfl (lv_at hl 0 rfl) ?_
      refine lv_icmp_eq (tgt := 69) hx hb dX5_readLink_54 (by decide) (fun c1582 => ?_) (fun c1582 => ?_)
      · refine lv_aload_n hx hb dX5_readLink_69 rfl (lv_at hl 2 rfl) ?_
        refine lv_bipush (v := (-4)) hx hb dX5_readLink_70 (by decide) ?_
        refine lv_aload_n hx hb dX5_readLink_72 rfl (lv_at hl 2 rfl) ?_
        refine va_get (D := D) (ci := 5) (v := .int f1581_8) (C := RX5) (T := TX5) (N := 14) hx hb hts iX5_readLink_5 hown hN.1 hP 0 rfl rfl 8 (by decide) (hts _ mX5_readLink_3) (fun _ h9 => h9) rfl dX5_readLink_73 ?_
        refine cv_i (As := [.int (-4), .int f1581_8]) (rest := []) (b := w) ⟨hx, hb, hml, hown, hts⟩ (c_X5_fail hT (w := w) hw (x := (-4)) (y := f1581_8)) (cwV 2 hts gX5_readLink_X5_fail rfl rfl rfl hdX5_fail_v ⟨Nat.le_of_ble_eq_true rfl, Nat.le_of_ble_eq_true rfl⟩) hN hE hL (rcv6 hN hT hw.1) rfl rfl hl.1 (Nat.le_of_ble_eq_true rfl) dX5_readLink_76 (Nat.zero_le _) (Nat.zero_le _) (fun r1583 H1 locs hL hqr1583 => ?_)
        obtain ⟨hT1, hF1, hqr1583⟩ := hqr1583
        have hP : va_P D vwCl [((κ w).2.2.2, .inr (6, [.int (nI f1567_0), .int f1567_1, .int f1567_2, f1567_3, .ref f1567_4, .ref f1567_5, .ref f1567_6, .ref f1567_7]))] _ := hF1.hP (hP.sub [1] rfl) (fa_c ⟨by rw [hsu.1]; decide, by rw [hsu.2]; first | decide | (simp; done) | (simp; omega)⟩ fa_n)
        have hF := hF.tr (hF1.mono (by simp))
        have hT := hT1
        obtain rfl := hqr1583
        exact en_i hx hb hr hlocks hL rfl (Nat.zero_le _) (Nat.zero_le _) dX5_readLink_79 (⟨hT, hF, Or.inl rfl⟩)
      · refine lv_aload_n hx hb dX5_readLink_57 rfl (lv_at hl 2 rfl) ?_
        refine va_get (D := D) (ci := 5) (v := .ref (κ w).2.2.2) (C := RX5) (T := TX5) (N := 14) hx hb hts iX5_readLink_5 hown hN.1 hP 0 rfl rfl 11 (by decide) (hts _ mX5_readLink_1) (fun _ h9 => h9) rfl dX5_readLink_58 ?_
        refine lv_iload_n hx hb dX5_readLink_61 rfl (lv_at hl 1 rfl) ?_
        refine lv_iload_n hx hb dX5_readLink_62 rfl (lv_at hl 0 rfl) ?_
        refine cv_i (As := [.int f1574_7, .int f1581_7]) (rest := []) (b := (κ w).2.2.2) ⟨hx, hb, hml, hown, hts⟩ (c_X6_delayOf hT (w := (κ w).2.2.2) hsu (x := f1574_7) (y := f1581_7)) (cwV 2 hts gX5_readLink_X6_delayOf rfl rfl rfl hdX6_delayOf_v ⟨Nat.le_of_ble_eq_true rfl, Nat.le_of_ble_eq_true rfl⟩) hN hE hL (rcv7 hN hT hsu.1) rfl rfl hl.1 (Nat.le_of_ble_eq_true rfl) dX5_readLink_63 (Nat.zero_le _) (Nat.zero_le _) (fun r1584 H1 locs hL hqr1584 => ?_)
        obtain ⟨h9, hqr1584⟩ := hqr1584; replace h9 := h9.symm; subst h9
        obtain ⟨f1585, d1586, n1587, h1588, rfl, e1589⟩ := hqr1584
        refine lv_if_eq (tgt := 80) hx hb dX5_readLink_66 (by decide) (fun c1590 => ?_) (fun c1590 => ?_)
        · have c1590 : n1587 = 0 := (nI_eq (a := n1587) (b := 0) (by omega) (by omega)).mp c1590
          refine lv_aload_n hx hb dX5_readLink_80 rfl (lv_at hl 2 rfl) ?_
          refine lv_iconst (v := 1) hx hb dX5_readLink_81 (by decide) ?_
          refine lv_bipush (v := 9) hx hb dX5_readLink_82 (by decide) ?_
          refine cv_i (As := [.int 1, .int 9]) (rest := []) (b := w) ⟨hx, hb, hml, hown, hts⟩ (c_X5_takeNumber hT (w := w) hw (x := 1) (y := 9)) (cwV 2 hts gX5_readLink_X5_takeNumber rfl rfl rfl hdX5_takeNumber_v ⟨Nat.le_of_ble_eq_true rfl, Nat.le_of_ble_eq_true rfl⟩) hN hE hL (rcv6 hN hT hw.1) rfl rfl hl.1 (Nat.le_of_ble_eq_true rfl) dX5_readLink_84 (Nat.zero_le _) (Nat.zero_le _) (fun r1591 H1 locs hL hqr1591 => ?_)
          obtain ⟨hT1, hF1, hqr1591⟩ := hqr1591
          have hP : va_P D vwCl [((κ w).2.2.2, .inr (6, [.int (nI f1567_0), .int f1567_1, .int f1567_2, f1567_3, .ref f1567_4, .ref f1567_5, .ref f1567_6, .ref f1567_7]))] _ := hF1.hP (hP.sub [1] rfl) (fa_c ⟨by rw [hsu.1]; decide, by rw [hsu.2]; first | decide | (simp; done) | (simp; omega)⟩ fa_n)
          have hF := hF.tr (hF1.mono (by simp))
          have hT := hT1
          rcases hqr1591 with rfl | ⟨rfl, v1592, l1593, g1594, f1595⟩
          · refine lv_if_ne (tgt := 92) hx hb dX5_readLink_87 (by decide) (fun c9 => absurd (by decide) c9) (fun _ => ?_)
            refine lv_iconst (v := 0) hx hb dX5_readLink_90 (by decide) ?_
            exact en_i hx hb hr hlocks hL rfl (Nat.zero_le _) (Nat.zero_le _) dX5_readLink_91 (⟨hT, hF, Or.inl rfl⟩)
          · obtain ⟨n1596, hn1596a, hn1596b, rfl⟩ := rng (x := v1592) (lo := 1) (hi := 9) (by decide) (by decide) l1593 g1594
            refine lv_if_ne (tgt := 92) hx hb dX5_readLink_87 (by decide) (fun _ => ?_) (fun c9 => absurd c9 (by decide))
            refine lv_aload_n hx hb dX5_readLink_92 rfl (lv_at hl 2 rfl) ?_
            obtain ⟨hb1597, e1597, hat1597, hk1597⟩ := hT.o6 hw.1
            obtain ⟨f1597_0, f1597_2, f1597_3, f1597_4, f1597_5, f1597_6, f1597_7, f1597_8, f1597_9, f1597_10, f1597_11, f1597_12, f1597_13, rfl, c1597_1, c1597_2, c1597_3, c1597_5, c1597_10, t1597_0, t1597_9, c1597_11, c1597_p2⟩ := hk1597
            obtain rfl : f1597_11 = .ref (κ w).2.2.2 := c1597_p2.resolve_left hs0
            obtain rfl : f1597_7 = nI n1596 := Value.int.inj (f1595.eq hat1597 rfl (by decide) rfl)
            have hP : va_P D vwCl [(w, .inr (5, [.ref f1597_0, .int (nI ((κ w).2.2.1)), .int (nI f1597_2), .int (nI f1597_3), .int f1597_4, .int (nI f1597_5), .int f1597_6, .int (nI n1596), .int f1597_8, .ref f1597_9, .int (nI f1597_10), .ref (κ w).2.2.2, .int f1597_12, .int f1597_13])), ((κ w).2.2.2, .inr (6, [.int (nI f1567_0), .int f1567_1, .int f1567_2, f1567_3, .ref f1567_4, .ref f1567_5, .ref f1567_6, .ref f1567_7]))] _ := va_P.cons hat1597 hP
            refine va_get (D := D) (ci := 5) (v := .int (nI n1596)) (C := RX5) (T := TX5) (N := 14) hx hb hts iX5_readLink_5 hown hN.1 hP 0 rfl rfl 7 (by decide) (hts _ mX5_readLink_2) (fun _ h9 => h9) rfl dX5_readLink_93 ?_
            refine lv_istore_n (lv' := [(3, .int (nI n1596)), (2, .int f1581_7), (1, .int f1574_7), (0, .ref w)]) hx hb dX5_readLink_96 rfl hl (by decide) rfl (fun ls hl => ?_)
            refine lv_aload_n hx hb dX5_readLink_97 rfl (lv_at hl 3 rfl) ?_
            refine lv_iconst (v := 1) hx hb dX5_readLink_98 (by decide) ?_
            refine lv_bipush (v := 9) hx hb dX5_readLink_99 (by decide) ?_
            refine cv_i (As := [.int 1, .int 9]) (rest := []) (b := w) ⟨hx, hb, hml, hown, hts⟩ (c_X5_takeNumber hT (w := w) hw (x := 1) (y := 9)) (cwV 2 hts gX5_readLink_X5_takeNumber rfl rfl rfl hdX5_takeNumber_v ⟨Nat.le_of_ble_eq_true rfl, Nat.le_of_ble_eq_true rfl⟩) hN hE hL (rcv6 hN hT hw.1) rfl rfl hl.1 (Nat.le_of_ble_eq_true rfl) dX5_readLink_101 (Nat.zero_le _) (Nat.zero_le _) (fun r1598 H1 locs hL hqr1598 => ?_)
            obtain ⟨hT1, hF1, hqr1598⟩ := hqr1598
            have hP : va_P D vwCl [((κ w).2.2.2, .inr (6, [.int (nI f1567_0), .int f1567_1, .int f1567_2, f1567_3, .ref f1567_4, .ref f1567_5, .ref f1567_6, .ref f1567_7]))] _ := hF1.hP (hP.sub [1] rfl) (fa_c ⟨by rw [hsu.1]; decide, by rw [hsu.2]; first | decide | (simp; done) | (simp; omega)⟩ fa_n)
            have hF := hF.tr (hF1.mono (by simp))
            have hT := hT1
            rcases hqr1598 with rfl | ⟨rfl, v1599, l1600, g1601, f1602⟩
            · refine lv_if_ne (tgt := 109) hx hb dX5_readLink_104 (by decide) (fun c9 => absurd (by decide) c9) (fun _ => ?_)
              refine lv_iconst (v := 0) hx hb dX5_readLink_107 (by decide) ?_
              exact en_i hx hb hr hlocks hL rfl (Nat.zero_le _) (Nat.zero_le _) dX5_readLink_108 (⟨hT, hF, Or.inl rfl⟩)
            · obtain ⟨n1603, hn1603a, hn1603b, rfl⟩ := rng (x := v1599) (lo := 1) (hi := 9) (by decide) (by decide) l1600 g1601
              refine lv_if_ne (tgt := 109) hx hb dX5_readLink_104 (by decide) (fun _ => ?_) (fun c9 => absurd c9 (by decide))
              refine lv_aload_n hx hb dX5_readLink_109 rfl (lv_at hl 3 rfl) ?_
              obtain ⟨hb1604, e1604, hat1604, hk1604⟩ := hT.o6 hw.1
              obtain ⟨f1604_0, f1604_2, f1604_3, f1604_4, f1604_5, f1604_6, f1604_7, f1604_8, f1604_9, f1604_10, f1604_11, f1604_12, f1604_13, rfl, c1604_1, c1604_2, c1604_3, c1604_5, c1604_10, t1604_0, t1604_9, c1604_11, c1604_p2⟩ := hk1604
              obtain rfl : f1604_11 = .ref (κ w).2.2.2 := c1604_p2.resolve_left hs0
              obtain rfl : f1604_7 = nI n1603 := Value.int.inj (f1602.eq hat1604 rfl (by decide) rfl)
              have hP : va_P D vwCl [(w, .inr (5, [.ref f1604_0, .int (nI ((κ w).2.2.1)), .int (nI f1604_2), .int (nI f1604_3), .int f1604_4, .int (nI f1604_5), .int f1604_6, .int (nI n1603), .int f1604_8, .ref f1604_9, .int (nI f1604_10), .ref (κ w).2.2.2, .int f1604_12, .int f1604_13])), ((κ w).2.2.2, .inr (6, [.int (nI f1567_0), .int f1567_1, .int f1567_2, f1567_3, .ref f1567_4, .ref f1567_5, .ref f1567_6, .ref f1567_7]))] _ := va_P.cons hat1604 hP
              refine va_get (D := D) (ci := 5) (v := .ref (κ w).2.2.2) (C := RX5) (T := TX5) (N := 14) hx hb hts iX5_readLink_5 hown hN.1 hP 0 rfl rfl 11 (by decide) (hts _ mX5_readLink_1) (fun _ h9 => h9) rfl dX5_readLink_110 ?_
              refine lv_iload_n hx hb dX5_readLink_113 rfl (lv_at hl 2 rfl) ?_
              refine lv_iload_n hx hb dX5_readLink_114 rfl (lv_at hl 1 rfl) ?_
              refine lv_iload_n hx hb dX5_readLink_115 rfl (lv_at hl 0 rfl) ?_
              refine cv_v (As := [.int f1574_7, .int f1581_7, .int (nI n1596)]) (rest := []) (b := (κ w).2.2.2) ⟨hx, hb, hml, hown, hts⟩ (c_X6_setDelay hT (w := (κ w).2.2.2) hsu (x := f1574_7) (y := f1581_7) (n := n1596) (by first | omega | decide | assumption)) (cwV 3 hts gX5_readLink_X6_setDelay rfl rfl rfl hdX6_setDelay_v ⟨Nat.le_of_ble_eq_true rfl, Nat.le_of_ble_eq_true rfl⟩) hN hE hL (rcv7 hN hT hsu.1) rfl rfl hl.1 (Nat.le_of_ble_eq_true rfl) dX5_readLink_116 (Nat.zero_le _) (Nat.zero_le _) (fun H1 locs hL hqr1605 => ?_)
              obtain ⟨hT1, hF1⟩ := hqr1605
              have hP : va_P D vwCl [(w, .inr (5, [.ref f1604_0, .int (nI ((κ w).2.2.1)), .int (nI f1604_2), .int (nI f1604_3), .int f1604_4, .int (nI f1604_5), .int f1604_6, .int (nI n1603), .int f1604_8, .ref f1604_9, .int (nI f1604_10), .ref (κ w).2.2.2, .int f1604_12, .int f1604_13]))] _ := hF1.hP (hP.sub [0] rfl) (fa_c ⟨by rw [hw.1]; decide, by rw [hw.2]; first | decide | (simp; done) | (simp; omega)⟩ fa_n)
              have hF := hF.tr (hF1.mono (by simp))
              have hT := hT1
              refine lv_aload_n hx hb dX5_readLink_119 rfl (lv_at hl 3 rfl) ?_
              refine va_get (D := D) (ci := 5) (v := .ref (κ w).2.2.2) (C := RX5) (T := TX5) (N := 14) hx hb hts iX5_readLink_5 hown hN.1 hP 0 rfl rfl 11 (by decide) (hts _ mX5_readLink_1) (fun _ h9 => h9) rfl dX5_readLink_120 ?_
              refine lv_iload_n hx hb dX5_readLink_123 rfl (lv_at hl 1 rfl) ?_
              refine lv_iload_n hx hb dX5_readLink_124 rfl (lv_at hl 2 rfl) ?_
              refine lv_aload_n hx hb dX5_readLink_125 rfl (lv_at hl 3 rfl) ?_
              refine va_get (D := D) (ci := 5) (v := .int (nI n1603)) (C := RX5) (T := TX5) (N := 14) hx hb hts iX5_readLink_5 hown hN.1 hP 0 rfl rfl 7 (by decide) (hts _ mX5_readLink_2) (fun _ h9 => h9) rfl dX5_readLink_126 ?_
              refine cv_v (As := [.int f1581_7, .int f1574_7, .int (nI n1603)]) (rest := []) (b := (κ w).2.2.2) ⟨hx, hb, hml, hown, hts⟩ (c_X6_setDelay hT (w := (κ w).2.2.2) hsu (x := f1581_7) (y := f1574_7) (n := n1603) (by first | omega | decide | assumption)) (cwV 3 hts gX5_readLink_X6_setDelay rfl rfl rfl hdX6_setDelay_v ⟨Nat.le_of_ble_eq_true rfl, Nat.le_of_ble_eq_true rfl⟩) hN hE hL (rcv7 hN hT hsu.1) rfl rfl hl.1 (Nat.le_of_ble_eq_true rfl) dX5_readLink_129 (Nat.zero_le _) (Nat.zero_le _) (fun H1 locs hL hqr1606 => ?_)
              obtain ⟨hT1, hF1⟩ := hqr1606
              have hP : va_P D vwCl [(w, .inr (5, [.ref f1604_0, .int (nI ((κ w).2.2.1)), .int (nI f1604_2), .int (nI f1604_3), .int f1604_4, .int (nI f1604_5), .int f1604_6, .int (nI n1603), .int f1604_8, .ref f1604_9, .int (nI f1604_10), .ref (κ w).2.2.2, .int f1604_12, .int f1604_13]))] _ := hF1.hP (hP.sub [0] rfl) (fa_c ⟨by rw [hw.1]; decide, by rw [hw.2]; first | decide | (simp; done) | (simp; omega)⟩ fa_n)
              have hF := hF.tr (hF1.mono (by simp))
              have hT := hT1
              refine lv_iconst (v := 1) hx hb dX5_readLink_132 (by decide) ?_
              exact en_i hx hb hr hlocks hL rfl (Nat.zero_le _) (Nat.zero_le _) dX5_readLink_133 (⟨hT, hF, Or.inr rfl⟩)
        · have c1590 : ¬ n1587 = 0 := fun h9 => c1590 ((nI_eq (a := n1587) (b := 0) (by omega) (by omega)).mpr h9)
          refine lv_aload_n hx hb dX5_readLink_69 rfl (lv_at hl 2 rfl) ?_
          refine lv_bipush (v := (-4)) hx hb dX5_readLink_70 (by decide) ?_
          refine lv_aload_n hx hb dX5_readLink_72 rfl (lv_at hl 2 rfl) ?_
          refine va_get (D := D) (ci := 5) (v := .int f1581_8) (C := RX5) (T := TX5) (N := 14) hx hb hts iX5_readLink_5 hown hN.1 hP 0 rfl rfl 8 (by decide) (hts _ mX5_readLink_3) (fun _ h9 => h9) rfl dX5_readLink_73 ?_
          refine cv_i (As := [.int (-4), .int f1581_8]) (rest := []) (b := w) ⟨hx, hb, hml, hown, hts⟩ (c_X5_fail hT (w := w) hw (x := (-4)) (y := f1581_8)) (cwV 2 hts gX5_readLink_X5_fail rfl rfl rfl hdX5_fail_v ⟨Nat.le_of_ble_eq_true rfl, Nat.le_of_ble_eq_true rfl⟩) hN hE hL (rcv6 hN hT hw.1) rfl rfl hl.1 (Nat.le_of_ble_eq_true rfl) dX5_readLink_76 (Nat.zero_le _) (Nat.zero_le _) (fun r1607 H1 locs hL hqr1607 => ?_)
          obtain ⟨hT1, hF1, hqr1607⟩ := hqr1607
          have hP : va_P D vwCl [((κ w).2.2.2, .inr (6, [.int (nI f1567_0), .int f1567_1, .int f1567_2, f1567_3, .ref f1567_4, .ref f1567_5, .ref f1567_6, .ref f1567_7]))] _ := hF1.hP (hP.sub [1] rfl) (fa_c ⟨by rw [hsu.1]; decide, by rw [hsu.2]; first | decide | (simp; done) | (simp; omega)⟩ fa_n)
          have hF := hF.tr (hF1.mono (by simp))
          have hT := hT1
          obtain rfl := hqr1607
          exact en_i hx hb hr hlocks hL rfl (Nat.zero_le _) (Nat.zero_le _) dX5_readLink_79 (⟨hT, hF, Or.inl rfl⟩)
theorem mX5_readFactor_1 : (.fieldLink RX5 73 "OneBeat$Reader" "kind" "I" : Cond) ∈ wsX5_readFactor := List.mem_of_getElem? (i := 1) (by decide +kernel)
theorem iX5_readFactor_5 : ∀ w ∈ wsX50, w ∈ wsX5_readFactor := fun w h => List.mem_of_mem_drop (List.mem_of_mem_take ((show wsX50 = (wsX5_readFactor.drop 107).take 14 by decide +kernel) ▸ h))
theorem hdX5_codeOfWord_v : yX5_codeOfWord.cls = RX5 ∧ yX5_codeOfWord.cls ≠ "java/lang/invoke/MethodHandle" ∧ yX5_codeOfWord.cls ≠ "java/lang/invoke/VarHandle" ∧ (parseMethodDescriptor yX5_codeOfWord.desc).map (fun d => d.parameters.length) = some 0 := by decide +kernel
theorem hdX5_putCode_v : yX5_putCode.cls = RX5 ∧ yX5_putCode.cls ≠ "java/lang/invoke/MethodHandle" ∧ yX5_putCode.cls ≠ "java/lang/invoke/VarHandle" ∧ (parseMethodDescriptor yX5_putCode.desc).map (fun d => d.parameters.length) = some 1 := by decide +kernel
theorem mX5_readFactor_3 : (.fieldLink RX5 124 "OneBeat$Reader" "start" "I" : Cond) ∈ wsX5_readFactor := List.mem_of_getElem? (i := 3) (by decide +kernel)
theorem mX5_readFactor_2 : (.fieldLink RX5 59 "OneBeat$Reader" "taken" "I" : Cond) ∈ wsX5_readFactor := List.mem_of_getElem? (i := 2) (by decide +kernel)
set_option maxHeartbeats 4000000 in
set_option maxRecDepth 100000 in
theorem c_X5_readFactor_d4 {l : Launch} {D : va_G} {cs : Nat → ClassId} {B0 T : Nat} {κ : KM} {H0 : Heap} (hT : WT B0 D cs T κ H0) {w : Nat} (hw : T2 κ w 6 10) : KC l yX5_readFactor wsX5_readFactor 6 127 0 0 D cs B0 H0 [.ref w, .int 4] (Qi (fun r H => WT B0 D cs T κ H ∧ Fr B0 [10] κ H0 H ∧ (r = 0 ∨ r = 1))) := by
  refine KC.of cX5_readFactor 3 (some .boolean) (by decide) rfl (Nat.le_of_ble_eq_true rfl) ?_
  intro p e s m below meth c ls hx hb hr hml hown hts hlocks hin hN hE hH0 hl
  have hown : s.vm.findClass RX5 = some m.cls := hown
  have hl : lv_has ls 3 [(0, .ref w), (1, .int 4)] := hl
  have hL : OkL B0 [] := OkL.nil
  have hF : Fr B0 [10] κ H0 H0 := Fr.rf
  refine lv_aload_n hx hb dX5_readFactor_0 rfl (lv_at hl 0 rfl) ?_
  obtain ⟨hb1608, e1608, hat1608, hk1608⟩ := hT.o6 hw.1
  obtain ⟨f1608_0, f1608_2, f1608_3, f1608_4, f1608_5, f1608_6, f1608_7, f1608_8, f1608_9, f1608_10, f1608_11, f1608_12, f1608_13, rfl, c1608_1, c1608_2, c1608_3, c1608_5, c1608_10, t1608_0, t1608_9, c1608_11, c1608_p2⟩ := hk1608
  have hP : va_P D vwCl [(w, .inr (5, [.ref f1608_0, .int (nI ((κ w).2.2.1)), .int (nI f1608_2), .int (nI f1608_3), .int f1608_4, .int (nI f1608_5), .int f1608_6, .int f1608_7, .int f1608_8, .ref f1608_9, .int (nI f1608_10), f1608_11, .int f1608_12, .int f1608_13]))] _ := va_P.cons hat1608 va_P.nil
  refine va_get (D := D) (ci := 5) (v := .int f1608_4) (C := RX5) (T := TX5) (N := 14) hx hb hts iX5_readFactor_5 hown hN.1 hP 0 rfl rfl 4 (by decide) (hts _ mX5_readFactor_1) (fun _ h9 => h9) rfl dX5_readFactor_1 ?_
  refine lv_iconst (v := 1) hx hb dX5_readFactor_4 (by decide) ?_
  refine lv_icmp_ne (tgt := 31) hx hb dX5_readFactor_5 (by decide) (fun c1609 => ?_) (fun c1609 => ?_)
  · refine lv_aload_n hx hb dX5_readFactor_31 rfl (lv_at hl 0 rfl) ?_
    refine lv_bipush (v := 40) hx hb dX5_readFactor_32 (by decide) ?_
    refine cv_i (As := [.int 40]) (rest := []) (b := w) ⟨hx, hb, hml, hown, hts⟩ (c_X5_isMark hT (w := w) hw (x := 40)) (cwV 1 hts gX5_readFactor_X5_isMark rfl rfl rfl hdX5_isMark_v ⟨Nat.le_of_ble_eq_true rfl, Nat.le_of_ble_eq_true rfl⟩) hN hE hL (rcv6 hN hT hw.1) rfl rfl hl.1 (Nat.le_of_ble_eq_true rfl) dX5_readFactor_34 (Nat.zero_le _) (Nat.zero_le _) (fun r1610 H1 locs hL hqr1610 => ?_)
    obtain ⟨h9, hqr1610⟩ := hqr1610; replace h9 := h9.symm; subst h9
    rcases hqr1610 with rfl | rfl
    · refine lv_if_eq (tgt := 85) hx hb dX5_readFactor_37 (by decide) (fun _ => ?_) (fun c9 => absurd (by decide) c9)
      refine lv_aload_n hx hb dX5_readFactor_85 rfl (lv_at hl 0 rfl) ?_
      refine cv_i (As := []) (rest := []) (b := w) ⟨hx, hb, hml, hown, hts⟩ (c_X5_codeOfWord hT (w := w) hw) (cwV 0 hts gX5_readFactor_X5_codeOfWord rfl rfl rfl hdX5_codeOfWord_v ⟨Nat.le_of_ble_eq_true rfl, Nat.le_of_ble_eq_true rfl⟩) hN hE hL (rcv6 hN hT hw.1) rfl rfl hl.1 (Nat.le_of_ble_eq_true rfl) dX5_readFactor_86 (Nat.zero_le _) (Nat.zero_le _) (fun r1611 H1 locs hL hqr1611 => ?_)
      obtain rfl := hqr1611.symm
      refine lv_istore_n (lv' := [(2, .int r1611), (0, .ref w), (1, .int 4)]) hx hb dX5_readFactor_89 rfl hl (by decide) rfl (fun ls hl => ?_)
      refine lv_iload_n hx hb dX5_readFactor_90 rfl (lv_at hl 0 rfl) ?_
      refine lv_if_ne (tgt := 105) hx hb dX5_readFactor_91 (by decide) (fun c1612 => ?_) (fun c1612 => ?_)
      · refine lv_aload_n hx hb dX5_readFactor_105 rfl (lv_at hl 1 rfl) ?_
        refine lv_iload_n hx hb dX5_readFactor_106 rfl (lv_at hl 0 rfl) ?_
        refine cv_v (As := [.int r1611]) (rest := []) (b := w) ⟨hx, hb, hml, hown, hts⟩ (c_X5_putCode hT (w := w) hw (x := r1611)) (cwV 1 hts gX5_readFactor_X5_putCode rfl rfl rfl hdX5_putCode_v ⟨Nat.le_of_ble_eq_true rfl, Nat.le_of_ble_eq_true rfl⟩) hN hE hL (rcv6 hN hT hw.1) rfl rfl hl.1 (Nat.le_of_ble_eq_true rfl) dX5_readFactor_107 (Nat.zero_le _) (Nat.zero_le _) (fun H1 locs hL hqr1613 => ?_)
        obtain ⟨hT1, hF1⟩ := hqr1613
        have hF := hF.tr (hF1.mono (by simp))
        have hT := hT1
        refine lv_aload_n hx hb dX5_readFactor_110 rfl (lv_at hl 1 rfl) ?_
        refine cv_v (As := []) (rest := []) (b := w) ⟨hx, hb, hml, hown, hts⟩ (c_X5_step hT (w := w) hw) (cwV 0 hts gX5_readFactor_X5_step rfl rfl rfl hdX5_step_v ⟨Nat.le_of_ble_eq_true rfl, Nat.le_of_ble_eq_true rfl⟩) hN hE hL (rcv6 hN hT hw.1) rfl rfl hl.1 (Nat.le_of_ble_eq_true rfl) dX5_readFactor_111 (Nat.zero_le _) (Nat.zero_le _) (fun H1 locs hL hqr1614 => ?_)
        obtain ⟨hT1, hF1, hqr1614⟩ := hqr1614
        have hF := hF.tr (hF1.mono (by simp))
        have hT := hT1
        have f1615 := hqr1614
        refine lv_iconst (v := 1) hx hb dX5_readFactor_114 (by decide) ?_
        exact en_i hx hb hr hlocks hL rfl (Nat.zero_le _) (Nat.zero_le _) dX5_readFactor_115 (⟨hT, hF, Or.inr rfl⟩)
      · refine lv_aload_n hx hb dX5_readFactor_94 rfl (lv_at hl 1 rfl) ?_
        refine lv_bipush (v := (-2)) hx hb dX5_readFactor_95 (by decide) ?_
        refine lv_aload_n hx hb dX5_readFactor_97 rfl (lv_at hl 1 rfl) ?_
        refine va_get (D := D) (ci := 5) (v := .int (nI f1608_5)) (C := RX5) (T := TX5) (N := 14) hx hb hts iX5_readFactor_5 hown hN.1 hP 0 rfl rfl 5 (by decide) (hts _ mX5_readFactor_3) (fun _ h9 => h9) rfl dX5_readFactor_98 ?_
        refine cv_i (As := [.int (-2), .int (nI f1608_5)]) (rest := []) (b := w) ⟨hx, hb, hml, hown, hts⟩ (c_X5_fail hT (w := w) hw (x := (-2)) (y := (nI f1608_5))) (cwV 2 hts gX5_readFactor_X5_fail rfl rfl rfl hdX5_fail_v ⟨Nat.le_of_ble_eq_true rfl, Nat.le_of_ble_eq_true rfl⟩) hN hE hL (rcv6 hN hT hw.1) rfl rfl hl.1 (Nat.le_of_ble_eq_true rfl) dX5_readFactor_101 (Nat.zero_le _) (Nat.zero_le _) (fun r1616 H1 locs hL hqr1616 => ?_)
        obtain ⟨hT1, hF1, hqr1616⟩ := hqr1616
        have hF := hF.tr (hF1.mono (by simp))
        have hT := hT1
        obtain rfl := hqr1616
        exact en_i hx hb hr hlocks hL rfl (Nat.zero_le _) (Nat.zero_le _) dX5_readFactor_104 (⟨hT, hF, Or.inl rfl⟩)
    · refine lv_if_eq (tgt := 85) hx hb dX5_readFactor_37 (by decide) (fun c9 => absurd c9 (by decide)) (fun _ => ?_)
      refine lv_iload_n hx hb dX5_readFactor_40 rfl (lv_at hl 1 rfl) ?_
      refine lv_iconst (v := 4) hx hb dX5_readFactor_41 (by decide) ?_
      refine lv_icmp_lt (tgt := 56) hx hb dX5_readFactor_42 (by decide) (fun c9 => absurd c9 (by decide)) (fun _ => ?_)
      refine lv_aload_n hx hb dX5_readFactor_45 rfl (lv_at hl 0 rfl) ?_
      refine lv_bipush (v := (-5)) hx hb dX5_readFactor_46 (by decide) ?_
      refine lv_aload_n hx hb dX5_readFactor_48 rfl (lv_at hl 0 rfl) ?_
      refine va_get (D := D) (ci := 5) (v := .int (nI f1608_5)) (C := RX5) (T := TX5) (N := 14) hx hb hts iX5_readFactor_5 hown hN.1 hP 0 rfl rfl 5 (by decide) (hts _ mX5_readFactor_3) (fun _ h9 => h9) rfl dX5_readFactor_49 ?_
      refine cv_i (As := [.int (-5), .int (nI f1608_5)]) (rest := []) (b := w) ⟨hx, hb, hml, hown, hts⟩ (c_X5_fail hT (w := w) hw (x := (-5)) (y := (nI f1608_5))) (cwV 2 hts gX5_readFactor_X5_fail rfl rfl rfl hdX5_fail_v ⟨Nat.le_of_ble_eq_true rfl, Nat.le_of_ble_eq_true rfl⟩) hN hE hL (rcv6 hN hT hw.1) rfl rfl hl.1 (Nat.le_of_ble_eq_true rfl) dX5_readFactor_52 (Nat.zero_le _) (Nat.zero_le _) (fun r1617 H1 locs hL hqr1617 => ?_)
      obtain ⟨hT1, hF1, hqr1617⟩ := hqr1617
      have hF := hF.tr (hF1.mono (by simp))
      have hT := hT1
      obtain rfl := hqr1617
      exact en_i hx hb hr hlocks hL rfl (Nat.zero_le _) (Nat.zero_le _) dX5_readFactor_55 (⟨hT, hF, Or.inl rfl⟩)
  · refine lv_aload_n hx hb dX5_readFactor_8 rfl (lv_at hl 0 rfl) ?_
    refine lv_iconst (v := 0) hx hb dX5_readFactor_9 (by decide) ?_
    refine lv_sipush (v := 9999) hx hb dX5_readFactor_10 (by decide) ?_
    refine cv_i (As := [.int 0, .int 9999]) (rest := []) (b := w) ⟨hx, hb, hml, hown, hts⟩ (c_X5_takeNumber hT (w := w) hw (x := 0) (y := 9999)) (cwV 2 hts gX5_readFactor_X5_takeNumber rfl rfl rfl hdX5_takeNumber_v ⟨Nat.le_of_ble_eq_true rfl, Nat.le_of_ble_eq_true rfl⟩) hN hE hL (rcv6 hN hT hw.1) rfl rfl hl.1 (Nat.le_of_ble_eq_true rfl) dX5_readFactor_13 (Nat.zero_le _) (Nat.zero_le _) (fun r1618 H1 locs hL hqr1618 => ?_)
    obtain ⟨hT1, hF1, hqr1618⟩ := hqr1618
    have hF := hF.tr (hF1.mono (by simp))
    have hT := hT1
    rcases hqr1618 with rfl | ⟨rfl, v1619, l1620, g1621, f1622⟩
    · refine lv_if_ne (tgt := 21) hx hb dX5_readFactor_16 (by decide) (fun c9 => absurd (by decide) c9) (fun _ => ?_)
      refine lv_iconst (v := 0) hx hb dX5_readFactor_19 (by decide) ?_
      exact en_i hx hb hr hlocks hL rfl (Nat.zero_le _) (Nat.zero_le _) dX5_readFactor_20 (⟨hT, hF, Or.inl rfl⟩)
    · obtain ⟨n1623, hn1623a, hn1623b, rfl⟩ := rng (x := v1619) (lo := 0) (hi := 9999) (by decide) (by decide) l1620 g1621
      refine lv_if_ne (tgt := 21) hx hb dX5_readFactor_16 (by decide) (fun _ => ?_) (fun c9 => absurd c9 (by decide))
      refine lv_aload_n hx hb dX5_readFactor_21 rfl (lv_at hl 0 rfl) ?_
      refine lv_aload_n hx hb dX5_readFactor_22 rfl (lv_at hl 0 rfl) ?_
      obtain ⟨hb1624, e1624, hat1624, hk1624⟩ := hT.o6 hw.1
      obtain ⟨f1624_0, f1624_2, f1624_3, f1624_4, f1624_5, f1624_6, f1624_7, f1624_8, f1624_9, f1624_10, f1624_11, f1624_12, f1624_13, rfl, c1624_1, c1624_2, c1624_3, c1624_5, c1624_10, t1624_0, t1624_9, c1624_11, c1624_p2⟩ := hk1624
      obtain rfl : f1624_7 = nI n1623 := Value.int.inj (f1622.eq hat1624 rfl (by decide) rfl)
      have hP : va_P D vwCl [(w, .inr (5, [.ref f1624_0, .int (nI ((κ w).2.2.1)), .int (nI f1624_2), .int (nI f1624_3), .int f1624_4, .int (nI f1624_5), .int f1624_6, .int (nI n1623), .int f1624_8, .ref f1624_9, .int (nI f1624_10), f1624_11, .int f1624_12, .int f1624_13]))] _ := va_P.cons hat1624 va_P.nil
      refine va_get (D := D) (ci := 5) (v := .int (nI n1623)) (C := RX5) (T := TX5) (N := 14) hx hb hts iX5_readFactor_5 hown hN.1 hP 0 rfl rfl 7 (by decide) (hts _ mX5_readFactor_2) (fun _ h9 => h9) rfl dX5_readFactor_23 ?_
      refine cv_v (As := [.int (nI n1623)]) (rest := []) (b := w) ⟨hx, hb, hml, hown, hts⟩ (c_X5_putCode hT (w := w) hw (x := (nI n1623))) (cwV 1 hts gX5_readFactor_X5_putCode rfl rfl rfl hdX5_putCode_v ⟨Nat.le_of_ble_eq_true rfl, Nat.le_of_ble_eq_true rfl⟩) hN hE hL (rcv6 hN hT hw.1) rfl rfl hl.1 (Nat.le_of_ble_eq_true rfl) dX5_readFactor_26 (Nat.zero_le _) (Nat.zero_le _) (fun H1 locs hL hqr1625 => ?_)
      obtain ⟨hT1, hF1⟩ := hqr1625
      have hF := hF.tr (hF1.mono (by simp))
      have hT := hT1
      refine lv_iconst (v := 1) hx hb dX5_readFactor_29 (by decide) ?_
      exact en_i hx hb hr hlocks hL rfl (Nat.zero_le _) (Nat.zero_le _) dX5_readFactor_30 (⟨hT, hF, Or.inr rfl⟩)
theorem hdX5_readFactor_v : yX5_readFactor.cls = RX5 ∧ yX5_readFactor.cls ≠ "java/lang/invoke/MethodHandle" ∧ yX5_readFactor.cls ≠ "java/lang/invoke/VarHandle" ∧ (parseMethodDescriptor yX5_readFactor.desc).map (fun d => d.parameters.length) = some 1 := by decide +kernel
set_option maxHeartbeats 4000000 in
set_option maxRecDepth 100000 in
theorem c_X5_readTerm_d4 {l : Launch} {D : va_G} {cs : Nat → ClassId} {B0 T : Nat} {κ : KM} {H0 : Heap} (hT : WT B0 D cs T κ H0) {w : Nat} (hw : T2 κ w 6 10) : KC l yX5_readTerm wsX5_readTerm 7 149 0 0 D cs B0 H0 [.ref w, .int 4] (Qi (fun r H => WT B0 D cs T κ H ∧ Fr B0 [10] κ H0 H ∧ (r = 0 ∨ r = 1))) := by
  refine KC.of cX5_readTerm 4 (some .boolean) (by decide) rfl (Nat.le_of_ble_eq_true rfl) ?_
  intro p e s m below meth c ls hx hb hr hml hown hts hlocks hin hN hE hH0 hl
  have hown : s.vm.findClass RX5 = some m.cls := hown
  have hl : lv_has ls 4 [(0, .ref w), (1, .int 4)] := hl
  have hL : OkL B0 [] := OkL.nil
  have hF : Fr B0 [10] κ H0 H0 := Fr.rf
  refine lv_aload_n hx hb dX5_readTerm_0 rfl (lv_at hl 0 rfl) ?_
  refine lv_iload_n hx hb dX5_readTerm_1 rfl (lv_at hl 1 rfl) ?_
  refine cv_i (As := [.int 4]) (rest := []) (b := w) ⟨hx, hb, hml, hown, hts⟩ (c_X5_readFactor_d4 hT (w := w) hw) (cwV 1 hts gX5_readTerm_X5_readFactor rfl rfl rfl hdX5_readFactor_v ⟨Nat.le_of_ble_eq_true rfl, Nat.le_of_ble_eq_true rfl⟩) hN hE hL (rcv6 hN hT hw.1) rfl rfl hl.1 (Nat.le_of_ble_eq_true rfl) dX5_readTerm_2 (Nat.zero_le _) (Nat.zero_le _) (fun r1626 H1 locs hL hqr1626 => ?_)
  obtain ⟨hT1, hF1, hqr1626⟩ := hqr1626
  have hF := hF.tr (hF1.mono (by simp))
  have hT := hT1
  rcases hqr1626 with rfl | rfl
  · refine lv_if_ne (tgt := 10) hx hb dX5_readTerm_5 (by decide) (fun c9 => absurd (by decide) c9) (fun _ => ?_)
    refine lv_iconst (v := 0) hx hb dX5_readTerm_8 (by decide) ?_
    exact en_i hx hb hr hlocks hL rfl (Nat.zero_le _) (Nat.zero_le _) dX5_readTerm_9 (⟨hT, hF, Or.inl rfl⟩)
  · refine lv_if_ne (tgt := 10) hx hb dX5_readTerm_5 (by decide) (fun _ => ?_) (fun c9 => absurd c9 (by decide))
    refine lv_iconst (v := 0) hx hb dX5_readTerm_10 (by decide) ?_
    refine lv_istore_n (lv' := [(2, .int 0), (0, .ref w), (1, .int 4)]) hx hb dX5_readTerm_11 rfl hl (by decide) rfl (fun ls hl => ?_)
    refine lp_m (α := Nat) (nL := 4) (fun a9 => 600 - a9) (fun a9 H9 l9 => (a9 ≤ 600) ∧ (WT B0 D cs T κ H9) ∧ (Fr B0 [10] κ H0 H9) ∧ (OkL B0 l9)) (fun a9 => [(2, .int (nI a9)), (0, .ref w), (1, .int 4)]) ?_ 0 _ _ _ ⟨(by show (0) ≤ 600; omega), hT, hF, hL⟩ (lv_sub hl [0, 1, 2] rfl)
    rintro k H locs ls ih1627 ⟨hk, hT, hF, hL⟩ hl
    have hl : lv_has ls 4 [(2, .int (nI k)), (0, .ref w), (1, .int 4)] := hl
    have hk : k ≤ 600 := hk
    refine lv_iload_n hx hb dX5_readTerm_12 rfl (lv_at hl 0 rfl) ?_
    refine lv_sipush (v := 600) hx hb dX5_readTerm_13 (by decide) ?_
    refine lv_icmp_ge (tgt := 79) hx hb dX5_readTerm_16 (by decide) (fun c1628 => ?_) (fun c1628 => ?_)
    · have c1628 : 600 ≤ k := (nI_leI (a := 600) (b := k) (by omega) (by omega)).mp c1628
      refine lv_iconst (v := 1) hx hb dX5_readTerm_79 (by decide) ?_
      exact en_i hx hb hr hlocks hL rfl (Nat.zero_le _) (Nat.zero_le _) dX5_readTerm_80 (⟨hT, hF, Or.inr rfl⟩)
    · have c1628 : ¬ 600 ≤ k := fun h9 => c1628 ((nI_leI (a := 600) (b := k) (by omega) (by omega)).mpr h9)
      refine lv_aload_n hx hb dX5_readTerm_19 rfl (lv_at hl 1 rfl) ?_
      refine lv_bipush (v := 42) hx hb dX5_readTerm_20 (by decide) ?_
      refine cv_i (As := [.int 42]) (rest := []) (b := w) ⟨hx, hb, hml, hown, hts⟩ (c_X5_isMark hT (w := w) hw (x := 42)) (cwV 1 hts gX5_readTerm_X5_isMark rfl rfl rfl hdX5_isMark_v ⟨Nat.le_of_ble_eq_true rfl, Nat.le_of_ble_eq_true rfl⟩) hN hE hL (rcv6 hN hT hw.1) rfl rfl hl.1 (Nat.le_of_ble_eq_true rfl) dX5_readTerm_22 (Nat.zero_le _) (Nat.zero_le _) (fun r1629 H1 locs hL hqr1629 => ?_)
      obtain ⟨h9, hqr1629⟩ := hqr1629; replace h9 := h9.symm; subst h9
      rcases hqr1629 with rfl | rfl
      · refine lv_if_ne (tgt := 37) hx hb dX5_readTerm_25 (by decide) (fun c9 => absurd (by decide) c9) (fun _ => ?_)
        refine lv_aload_n hx hb dX5_readTerm_28 rfl (lv_at hl 1 rfl) ?_
        refine lv_bipush (v := 47) hx hb dX5_readTerm_29 (by decide) ?_
        refine cv_i (As := [.int 47]) (rest := []) (b := w) ⟨hx, hb, hml, hown, hts⟩ (c_X5_isMark hT (w := w) hw (x := 47)) (cwV 1 hts gX5_readTerm_X5_isMark rfl rfl rfl hdX5_isMark_v ⟨Nat.le_of_ble_eq_true rfl, Nat.le_of_ble_eq_true rfl⟩) hN hE hL (rcv6 hN hT hw.1) rfl rfl hl.1 (Nat.le_of_ble_eq_true rfl) dX5_readTerm_31 (Nat.zero_le _) (Nat.zero_le _) (fun r1630 H1 locs hL hqr1630 => ?_)
        obtain ⟨h9, hqr1630⟩ := hqr1630; replace h9 := h9.symm; subst h9
        rcases hqr1630 with rfl | rfl
        · refine lv_if_eq (tgt := 79) hx hb dX5_readTerm_34 (by decide) (fun _ => ?_) (fun c9 => absurd (by decide) c9)
          refine lv_iconst (v := 1) hx hb dX5_readTerm_79 (by decide) ?_
          exact en_i hx hb hr hlocks hL rfl (Nat.zero_le _) (Nat.zero_le _) dX5_readTerm_80 (⟨hT, hF, Or.inr rfl⟩)
        · refine lv_if_eq (tgt := 79) hx hb dX5_readTerm_34 (by decide) (fun c9 => absurd c9 (by decide)) (fun _ => ?_)
          refine lv_aload_n hx hb dX5_readTerm_37 rfl (lv_at hl 1 rfl) ?_
          refine lv_bipush (v := 42) hx hb dX5_readTerm_38 (by decide) ?_
          refine cv_i (As := [.int 42]) (rest := []) (b := w) ⟨hx, hb, hml, hown, hts⟩ (c_X5_isMark hT (w := w) hw (x := 42)) (cwV 1 hts gX5_readTerm_X5_isMark rfl rfl rfl hdX5_isMark_v ⟨Nat.le_of_ble_eq_true rfl, Nat.le_of_ble_eq_true rfl⟩) hN hE hL (rcv6 hN hT hw.1) rfl rfl hl.1 (Nat.le_of_ble_eq_true rfl) dX5_readTerm_40 (Nat.zero_le _) (Nat.zero_le _) (fun r1631 H1 locs hL hqr1631 => ?_)
          obtain ⟨h9, hqr1631⟩ := hqr1631; replace h9 := h9.symm; subst h9
          rcases hqr1631 with rfl | rfl
          · refine lv_if_eq (tgt := 51) hx hb dX5_readTerm_43 (by decide) (fun _ => ?_) (fun c9 => absurd (by decide) c9)
            refine lv_bipush (v := (-8)) hx hb dX5_readTerm_51 (by decide) ?_
            refine lv_istore_n (lv' := [(3, .int (-8)), (2, .int (nI k)), (0, .ref w), (1, .int 4)]) hx hb dX5_readTerm_53 rfl hl (by decide) rfl (fun ls hl => ?_)
            refine lv_aload_n hx hb dX5_readTerm_54 rfl (lv_at hl 2 rfl) ?_
            refine cv_v (As := []) (rest := []) (b := w) ⟨hx, hb, hml, hown, hts⟩ (c_X5_step hT (w := w) hw) (cwV 0 hts gX5_readTerm_X5_step rfl rfl rfl hdX5_step_v ⟨Nat.le_of_ble_eq_true rfl, Nat.le_of_ble_eq_true rfl⟩) hN hE hL (rcv6 hN hT hw.1) rfl rfl hl.1 (Nat.le_of_ble_eq_true rfl) dX5_readTerm_55 (Nat.zero_le _) (Nat.zero_le _) (fun H1 locs hL hqr1632 => ?_)
            obtain ⟨hT1, hF1, hqr1632⟩ := hqr1632
            have hF := hF.tr (hF1.mono (by simp))
            have hT := hT1
            have f1633 := hqr1632
            refine lv_aload_n hx hb dX5_readTerm_58 rfl (lv_at hl 2 rfl) ?_
            refine lv_iload_n hx hb dX5_readTerm_59 rfl (lv_at hl 3 rfl) ?_
            refine cv_i (As := [.int 4]) (rest := []) (b := w) ⟨hx, hb, hml, hown, hts⟩ (c_X5_readFactor_d4 hT (w := w) hw) (cwV 1 hts gX5_readTerm_X5_readFactor rfl rfl rfl hdX5_readFactor_v ⟨Nat.le_of_ble_eq_true rfl, Nat.le_of_ble_eq_true rfl⟩) hN hE hL (rcv6 hN hT hw.1) rfl rfl hl.1 (Nat.le_of_ble_eq_true rfl) dX5_readTerm_60 (Nat.zero_le _) (Nat.zero_le _) (fun r1634 H1 locs hL hqr1634 => ?_)
            obtain ⟨hT1, hF1, hqr1634⟩ := hqr1634
            have hF := hF.tr (hF1.mono (by simp))
            have hT := hT1
            rcases hqr1634 with rfl | rfl
            · refine lv_if_ne (tgt := 68) hx hb dX5_readTerm_63 (by decide) (fun c9 => absurd (by decide) c9) (fun _ => ?_)
              refine lv_iconst (v := 0) hx hb dX5_readTerm_66 (by decide) ?_
              exact en_i hx hb hr hlocks hL rfl (Nat.zero_le _) (Nat.zero_le _) dX5_readTerm_67 (⟨hT, hF, Or.inl rfl⟩)
            · refine lv_if_ne (tgt := 68) hx hb dX5_readTerm_63 (by decide) (fun _ => ?_) (fun c9 => absurd c9 (by decide))
              refine lv_aload_n hx hb dX5_readTerm_68 rfl (lv_at hl 2 rfl) ?_
              refine lv_iload_n hx hb dX5_readTerm_69 rfl (lv_at hl 0 rfl) ?_
              refine cv_v (As := [.int (-8)]) (rest := []) (b := w) ⟨hx, hb, hml, hown, hts⟩ (c_X5_putCode hT (w := w) hw (x := (-8))) (cwV 1 hts gX5_readTerm_X5_putCode rfl rfl rfl hdX5_putCode_v ⟨Nat.le_of_ble_eq_true rfl, Nat.le_of_ble_eq_true rfl⟩) hN hE hL (rcv6 hN hT hw.1) rfl rfl hl.1 (Nat.le_of_ble_eq_true rfl) dX5_readTerm_70 (Nat.zero_le _) (Nat.zero_le _) (fun H1 locs hL hqr1635 => ?_)
              obtain ⟨hT1, hF1⟩ := hqr1635
              have hF := hF.tr (hF1.mono (by simp))
              have hT := hT1
              refine lv_iinc (v := (nI (k + 1))) (lv' := [(2, .int (nI (k + 1))), (3, .int (-8)), (0, .ref w), (1, .int 4)]) hx hb dX5_readTerm_73 hl (k := 1) rfl (nI_add _ 1) (by decide) rfl (fun ls hl => ?_)
              refine lv_goto (tgt := 12) hx hb dX5_readTerm_76 (by decide) ?_
              exact ih1627 (k + 1) _ _ _ (by show 600 - ((k + 1)) < 600 - k; omega) ⟨(by show ((k + 1)) ≤ 600; omega), hT, hF, hL⟩ (lv_sub hl [0, 2, 3] rfl)
          · refine lv_if_eq (tgt := 51) hx hb dX5_readTerm_43 (by decide) (fun c9 => absurd c9 (by decide)) (fun _ => ?_)
            refine lv_bipush (v := (-7)) hx hb dX5_readTerm_46 (by decide) ?_
            refine lv_goto (tgt := 53) hx hb dX5_readTerm_48 (by decide) ?_
            refine lv_istore_n (lv' := [(3, .int (-7)), (2, .int (nI k)), (0, .ref w), (1, .int 4)]) hx hb dX5_readTerm_53 rfl hl (by decide) rfl (fun ls hl => ?_)
            refine lv_aload_n hx hb dX5_readTerm_54 rfl (lv_at hl 2 rfl) ?_
            refine cv_v (As := []) (rest := []) (b := w) ⟨hx, hb, hml, hown, hts⟩ (c_X5_step hT (w := w) hw) (cwV 0 hts gX5_readTerm_X5_step rfl rfl rfl hdX5_step_v ⟨Nat.le_of_ble_eq_true rfl, Nat.le_of_ble_eq_true rfl⟩) hN hE hL (rcv6 hN hT hw.1) rfl rfl hl.1 (Nat.le_of_ble_eq_true rfl) dX5_readTerm_55 (Nat.zero_le _) (Nat.zero_le _) (fun H1 locs hL hqr1636 => ?_)
            obtain ⟨hT1, hF1, hqr1636⟩ := hqr1636
            have hF := hF.tr (hF1.mono (by simp))
            have hT := hT1
            have f1637 := hqr1636
            refine lv_aload_n hx hb dX5_readTerm_58 rfl (lv_at hl 2 rfl) ?_
            refine lv_iload_n hx hb dX5_readTerm_59 rfl (lv_at hl 3 rfl) ?_
            refine cv_i (As := [.int 4]) (rest := []) (b := w) ⟨hx, hb, hml, hown, hts⟩ (c_X5_readFactor_d4 hT (w := w) hw) (cwV 1 hts gX5_readTerm_X5_readFactor rfl rfl rfl hdX5_readFactor_v ⟨Nat.le_of_ble_eq_true rfl, Nat.le_of_ble_eq_true rfl⟩) hN hE hL (rcv6 hN hT hw.1) rfl rfl hl.1 (Nat.le_of_ble_eq_true rfl) dX5_readTerm_60 (Nat.zero_le _) (Nat.zero_le _) (fun r1638 H1 locs hL hqr1638 => ?_)
            obtain ⟨hT1, hF1, hqr1638⟩ := hqr1638
            have hF := hF.tr (hF1.mono (by simp))
            have hT := hT1
            rcases hqr1638 with rfl | rfl
            · refine lv_if_ne (tgt := 68) hx hb dX5_readTerm_63 (by decide) (fun c9 => absurd (by decide) c9) (fun _ => ?_)
              refine lv_iconst (v := 0) hx hb dX5_readTerm_66 (by decide) ?_
              exact en_i hx hb hr hlocks hL rfl (Nat.zero_le _) (Nat.zero_le _) dX5_readTerm_67 (⟨hT, hF, Or.inl rfl⟩)
            · refine lv_if_ne (tgt := 68) hx hb dX5_readTerm_63 (by decide) (fun _ => ?_) (fun c9 => absurd c9 (by decide))
              refine lv_aload_n hx hb dX5_readTerm_68 rfl (lv_at hl 2 rfl) ?_
              refine lv_iload_n hx hb dX5_readTerm_69 rfl (lv_at hl 0 rfl) ?_
              refine cv_v (As := [.int (-7)]) (rest := []) (b := w) ⟨hx, hb, hml, hown, hts⟩ (c_X5_putCode hT (w := w) hw (x := (-7))) (cwV 1 hts gX5_readTerm_X5_putCode rfl rfl rfl hdX5_putCode_v ⟨Nat.le_of_ble_eq_true rfl, Nat.le_of_ble_eq_true rfl⟩) hN hE hL (rcv6 hN hT hw.1) rfl rfl hl.1 (Nat.le_of_ble_eq_true rfl) dX5_readTerm_70 (Nat.zero_le _) (Nat.zero_le _) (fun H1 locs hL hqr1639 => ?_)
              obtain ⟨hT1, hF1⟩ := hqr1639
              have hF := hF.tr (hF1.mono (by simp))
              have hT := hT1
              refine lv_iinc (v := (nI (k + 1))) (lv' := [(2, .int (nI (k + 1))), (3, .int (-7)), (0, .ref w), (1, .int 4)]) hx hb dX5_readTerm_73 hl (k := 1) rfl (nI_add _ 1) (by decide) rfl (fun ls hl => ?_)
              refine lv_goto (tgt := 12) hx hb dX5_readTerm_76 (by decide) ?_
              exact ih1627 (k + 1) _ _ _ (by show 600 - ((k + 1)) < 600 - k; omega) ⟨(by show ((k + 1)) ≤ 600; omega), hT, hF, hL⟩ (lv_sub hl [0, 2, 3] rfl)
      · refine lv_if_ne (tgt := 37) hx hb dX5_readTerm_25 (by decide) (fun _ => ?_) (fun c9 => absurd c9 (by decide))
        refine lv_aload_n hx hb dX5_readTerm_37 rfl (lv_at hl 1 rfl) ?_
        refine lv_bipush (v := 42) hx hb dX5_readTerm_38 (by decide) ?_
        refine cv_i (As := [.int 42]) (rest := []) (b := w) ⟨hx, hb, hml, hown, hts⟩ (c_X5_isMark hT (w := w) hw (x := 42)) (cwV 1 hts gX5_readTerm_X5_isMark rfl rfl rfl hdX5_isMark_v ⟨Nat.le_of_ble_eq_true rfl, Nat.le_of_ble_eq_true rfl⟩) hN hE hL (rcv6 hN hT hw.1) rfl rfl hl.1 (Nat.le_of_ble_eq_true rfl) dX5_readTerm_40 (Nat.zero_le _) (Nat.zero_le _) (fun r1640 H1 locs hL hqr1640 => ?_)
        obtain ⟨h9, hqr1640⟩ := hqr1640; replace h9 := h9.symm; subst h9
        rcases hqr1640 with rfl | rfl
        · refine lv_if_eq (tgt := 51) hx hb dX5_readTerm_43 (by decide) (fun _ => ?_) (fun c9 => absurd (by decide) c9)
          refine lv_bipush (v := (-8)) hx hb dX5_readTerm_51 (by decide) ?_
          refine lv_istore_n (lv' := [(3, .int (-8)), (2, .int (nI k)), (0, .ref w), (1, .int 4)]) hx hb dX5_readTerm_53 rfl hl (by decide) rfl (fun ls hl => ?_)
          refine lv_aload_n hx hb dX5_readTerm_54 rfl (lv_at hl 2 rfl) ?_
          refine cv_v (As := []) (rest := []) (b := w) ⟨hx, hb, hml, hown, hts⟩ (c_X5_step hT (w := w) hw) (cwV 0 hts gX5_readTerm_X5_step rfl rfl rfl hdX5_step_v ⟨Nat.le_of_ble_eq_true rfl, Nat.le_of_ble_eq_true rfl⟩) hN hE hL (rcv6 hN hT hw.1) rfl rfl hl.1 (Nat.le_of_ble_eq_true rfl) dX5_readTerm_55 (Nat.zero_le _) (Nat.zero_le _) (fun H1 locs hL hqr1641 => ?_)
          obtain ⟨hT1, hF1, hqr1641⟩ := hqr1641
          have hF := hF.tr (hF1.mono (by simp))
          have hT := hT1
          have f1642 := hqr1641
          refine lv_aload_n hx hb dX5_readTerm_58 rfl (lv_at hl 2 rfl) ?_
          refine lv_iload_n hx hb dX5_readTerm_59 rfl (lv_at hl 3 rfl) ?_
          refine cv_i (As := [.int 4]) (rest := []) (b := w) ⟨hx, hb, hml, hown, hts⟩ (c_X5_readFactor_d4 hT (w := w) hw) (cwV 1 hts gX5_readTerm_X5_readFactor rfl rfl rfl hdX5_readFactor_v ⟨Nat.le_of_ble_eq_true rfl, Nat.le_of_ble_eq_true rfl⟩) hN hE hL (rcv6 hN hT hw.1) rfl rfl hl.1 (Nat.le_of_ble_eq_true rfl) dX5_readTerm_60 (Nat.zero_le _) (Nat.zero_le _) (fun r1643 H1 locs hL hqr1643 => ?_)
          obtain ⟨hT1, hF1, hqr1643⟩ := hqr1643
          have hF := hF.tr (hF1.mono (by simp))
          have hT := hT1
          rcases hqr1643 with rfl | rfl
          · refine lv_if_ne (tgt := 68) hx hb dX5_readTerm_63 (by decide) (fun c9 => absurd (by decide) c9) (fun _ => ?_)
            refine lv_iconst (v := 0) hx hb dX5_readTerm_66 (by decide) ?_
            exact en_i hx hb hr hlocks hL rfl (Nat.zero_le _) (Nat.zero_le _) dX5_readTerm_67 (⟨hT, hF, Or.inl rfl⟩)
          · refine lv_if_ne (tgt := 68) hx hb dX5_readTerm_63 (by decide) (fun _ => ?_) (fun c9 => absurd c9 (by decide))
            refine lv_aload_n hx hb dX5_readTerm_68 rfl (lv_at hl 2 rfl) ?_
            refine lv_iload_n hx hb dX5_readTerm_69 rfl (lv_at hl 0 rfl) ?_
            refine cv_v (As := [.int (-8)]) (rest := []) (b := w) ⟨hx, hb, hml, hown, hts⟩ (c_X5_putCode hT (w := w) hw (x := (-8))) (cwV 1 hts gX5_readTerm_X5_putCode rfl rfl rfl hdX5_putCode_v ⟨Nat.le_of_ble_eq_true rfl, Nat.le_of_ble_eq_true rfl⟩) hN hE hL (rcv6 hN hT hw.1) rfl rfl hl.1 (Nat.le_of_ble_eq_true rfl) dX5_readTerm_70 (Nat.zero_le _) (Nat.zero_le _) (fun H1 locs hL hqr1644 => ?_)
            obtain ⟨hT1, hF1⟩ := hqr1644
            have hF := hF.tr (hF1.mono (by simp))
            have hT := hT1
            refine lv_iinc (v := (nI (k + 1))) (lv' := [(2, .int (nI (k + 1))), (3, .int (-8)), (0, .ref w), (1, .int 4)]) hx hb dX5_readTerm_73 hl (k := 1) rfl (nI_add _ 1) (by decide) rfl (fun ls hl => ?_)
            refine lv_goto (tgt := 12) hx hb dX5_readTerm_76 (by decide) ?_
            exact ih1627 (k + 1) _ _ _ (by show 600 - ((k + 1)) < 600 - k; omega) ⟨(by show ((k + 1)) ≤ 600; omega), hT, hF, hL⟩ (lv_sub hl [0, 2, 3] rfl)
        · refine lv_if_eq (tgt := 51) hx hb dX5_readTerm_43 (by decide) (fun c9 => absurd c9 (by decide)) (fun _ => ?_)
          refine lv_bipush (v := (-7)) hx hb dX5_readTerm_46 (by decide) ?_
          refine lv_goto (tgt := 53) hx hb dX5_readTerm_48 (by decide) ?_
          refine lv_istore_n (lv' := [(3, .int (-7)), (2, .int (nI k)), (0, .ref w), (1, .int 4)]) hx hb dX5_readTerm_53 rfl hl (by decide) rfl (fun ls hl => ?_)
          refine lv_aload_n hx hb dX5_readTerm_54 rfl (lv_at hl 2 rfl) ?_
          refine cv_v (As := []) (rest := []) (b := w) ⟨hx, hb, hml, hown, hts⟩ (c_X5_step hT (w := w) hw) (cwV 0 hts gX5_readTerm_X5_step rfl rfl rfl hdX5_step_v ⟨Nat.le_of_ble_eq_true rfl, Nat.le_of_ble_eq_true rfl⟩) hN hE hL (rcv6 hN hT hw.1) rfl rfl hl.1 (Nat.le_of_ble_eq_true rfl) dX5_readTerm_55 (Nat.zero_le _) (Nat.zero_le _) (fun H1 locs hL hqr1645 => ?_)
          obtain ⟨hT1, hF1, hqr1645⟩ := hqr1645
          have hF := hF.tr (hF1.mono (by simp))
          have hT := hT1
          have f1646 := hqr1645
          refine lv_aload_n hx hb dX5_readTerm_58 rfl (lv_at hl 2 rfl) ?_
          refine lv_iload_n hx hb dX5_readTerm_59 rfl (lv_at hl 3 rfl) ?_
          refine cv_i (As := [.int 4]) (rest := []) (b := w) ⟨hx, hb, hml, hown, hts⟩ (c_X5_readFactor_d4 hT (w := w) hw) (cwV 1 hts gX5_readTerm_X5_readFactor rfl rfl rfl hdX5_readFactor_v ⟨Nat.le_of_ble_eq_true rfl, Nat.le_of_ble_eq_true rfl⟩) hN hE hL (rcv6 hN hT hw.1) rfl rfl hl.1 (Nat.le_of_ble_eq_true rfl) dX5_readTerm_60 (Nat.zero_le _) (Nat.zero_le _) (fun r1647 H1 locs hL hqr1647 => ?_)
          obtain ⟨hT1, hF1, hqr1647⟩ := hqr1647
          have hF := hF.tr (hF1.mono (by simp))
          have hT := hT1
          rcases hqr1647 with rfl | rfl
          · refine lv_if_ne (tgt := 68) hx hb dX5_readTerm_63 (by decide) (fun c9 => absurd (by decide) c9) (fun _ => ?_)
            refine lv_iconst (v := 0) hx hb dX5_readTerm_66 (by decide) ?_
            exact en_i hx hb hr hlocks hL rfl (Nat.zero_le _) (Nat.zero_le _) dX5_readTerm_67 (⟨hT, hF, Or.inl rfl⟩)
          · refine lv_if_ne (tgt := 68) hx hb dX5_readTerm_63 (by decide) (fun _ => ?_) (fun c9 => absurd c9 (by decide))
            refine lv_aload_n hx hb dX5_readTerm_68 rfl (lv_at hl 2 rfl) ?_
            refine lv_iload_n hx hb dX5_readTerm_69 rfl (lv_at hl 0 rfl) ?_
            refine cv_v (As := [.int (-7)]) (rest := []) (b := w) ⟨hx, hb, hml, hown, hts⟩ (c_X5_putCode hT (w := w) hw (x := (-7))) (cwV 1 hts gX5_readTerm_X5_putCode rfl rfl rfl hdX5_putCode_v ⟨Nat.le_of_ble_eq_true rfl, Nat.le_of_ble_eq_true rfl⟩) hN hE hL (rcv6 hN hT hw.1) rfl rfl hl.1 (Nat.le_of_ble_eq_true rfl) dX5_readTerm_70 (Nat.zero_le _) (Nat.zero_le _) (fun H1 locs hL hqr1648 => ?_)
            obtain ⟨hT1, hF1⟩ := hqr1648
            have hF := hF.tr (hF1.mono (by simp))
            have hT := hT1
            refine lv_iinc (v := (nI (k + 1))) (lv' := [(2, .int (nI (k + 1))), (3, .int (-7)), (0, .ref w), (1, .int 4)]) hx hb dX5_readTerm_73 hl (k := 1) rfl (nI_add _ 1) (by decide) rfl (fun ls hl => ?_)
            refine lv_goto (tgt := 12) hx hb dX5_readTerm_76 (by decide) ?_
            exact ih1627 (k + 1) _ _ _ (by show 600 - ((k + 1)) < 600 - k; omega) ⟨(by show ((k + 1)) ≤ 600; omega), hT, hF, hL⟩ (lv_sub hl [0, 2, 3] rfl)
theorem hdX5_readTerm_v : yX5_readTerm.cls = RX5 ∧ yX5_readTerm.cls ≠ "java/lang/invoke/MethodHandle" ∧ yX5_readTerm.cls ≠ "java/lang/invoke/VarHandle" ∧ (parseMethodDescriptor yX5_readTerm.desc).map (fun d => d.parameters.length) = some 1 := by decide +kernel
set_option maxHeartbeats 4000000 in
set_option maxRecDepth 100000 in
theorem c_X5_readSum_d4 {l : Launch} {D : va_G} {cs : Nat → ClassId} {B0 T : Nat} {κ : KM} {H0 : Heap} (hT : WT B0 D cs T κ H0) {w : Nat} (hw : T2 κ w 6 10) : KC l yX5_readSum wsX5_readSum 8 172 0 0 D cs B0 H0 [.ref w, .int 4] (Qi (fun r H => WT B0 D cs T κ H ∧ Fr B0 [10] κ H0 H ∧ (r = 0 ∨ r = 1))) := by
  refine KC.of cX5_readSum 4 (some .boolean) (by decide) rfl (Nat.le_of_ble_eq_true rfl) ?_
  intro p e s m below meth c ls hx hb hr hml hown hts hlocks hin hN hE hH0 hl
  have hown : s.vm.findClass RX5 = some m.cls := hown
  have hl : lv_has ls 4 [(0, .ref w), (1, .int 4)] := hl
  have hL : OkL B0 [] := OkL.nil
  have hF : Fr B0 [10] κ H0 H0 := Fr.rf
  refine lv_aload_n hx hb dX5_readSum_0 rfl (lv_at hl 0 rfl) ?_
  refine lv_iload_n hx hb dX5_readSum_1 rfl (lv_at hl 1 rfl) ?_
  refine cv_i (As := [.int 4]) (rest := []) (b := w) ⟨hx, hb, hml, hown, hts⟩ (c_X5_readTerm_d4 hT (w := w) hw) (cwV 1 hts gX5_readSum_X5_readTerm rfl rfl rfl hdX5_readTerm_v ⟨Nat.le_of_ble_eq_true rfl, Nat.le_of_ble_eq_true rfl⟩) hN hE hL (rcv6 hN hT hw.1) rfl rfl hl.1 (Nat.le_of_ble_eq_true rfl) dX5_readSum_2 (Nat.zero_le _) (Nat.zero_le _) (fun r1649 H1 locs hL hqr1649 => ?_)
  obtain ⟨hT1, hF1, hqr1649⟩ := hqr1649
  have hF := hF.tr (hF1.mono (by simp))
  have hT := hT1
  rcases hqr1649 with rfl | rfl
  · refine lv_if_ne (tgt := 10) hx hb dX5_readSum_5 (by decide) (fun c9 => absurd (by decide) c9) (fun _ => ?_)
    refine lv_iconst (v := 0) hx hb dX5_readSum_8 (by decide) ?_
    exact en_i hx hb hr hlocks hL rfl (Nat.zero_le _) (Nat.zero_le _) dX5_readSum_9 (⟨hT, hF, Or.inl rfl⟩)
  · refine lv_if_ne (tgt := 10) hx hb dX5_readSum_5 (by decide) (fun _ => ?_) (fun c9 => absurd c9 (by decide))
    refine lv_iconst (v := 0) hx hb dX5_readSum_10 (by decide) ?_
    refine lv_istore_n (lv' := [(2, .int 0), (0, .ref w), (1, .int 4)]) hx hb dX5_readSum_11 rfl hl (by decide) rfl (fun ls hl => ?_)
    refine lp_m (α := Nat) (nL := 4) (fun a9 => 600 - a9) (fun a9 H9 l9 => (a9 ≤ 600) ∧ (WT B0 D cs T κ H9) ∧ (Fr B0 [10] κ H0 H9) ∧ (OkL B0 l9)) (fun a9 => [(2, .int (nI a9)), (0, .ref w), (1, .int 4)]) ?_ 0 _ _ _ ⟨(by show (0) ≤ 600; omega), hT, hF, hL⟩ (lv_sub hl [0, 1, 2] rfl)
    rintro k H locs ls ih1650 ⟨hk, hT, hF, hL⟩ hl
    have hl : lv_has ls 4 [(2, .int (nI k)), (0, .ref w), (1, .int 4)] := hl
    have hk : k ≤ 600 := hk
    refine lv_iload_n hx hb dX5_readSum_12 rfl (lv_at hl 0 rfl) ?_
    refine lv_sipush (v := 600) hx hb dX5_readSum_13 (by decide) ?_
    refine lv_icmp_ge (tgt := 79) hx hb dX5_readSum_16 (by decide) (fun c1651 => ?_) (fun c1651 => ?_)
    · have c1651 : 600 ≤ k := (nI_leI (a := 600) (b := k) (by omega) (by omega)).mp c1651
      refine lv_iconst (v := 1) hx hb dX5_readSum_79 (by decide) ?_
      exact en_i hx hb hr hlocks hL rfl (Nat.zero_le _) (Nat.zero_le _) dX5_readSum_80 (⟨hT, hF, Or.inr rfl⟩)
    · have c1651 : ¬ 600 ≤ k := fun h9 => c1651 ((nI_leI (a := 600) (b := k) (by omega) (by omega)).mpr h9)
      refine lv_aload_n hx hb dX5_readSum_19 rfl (lv_at hl 1 rfl) ?_
      refine lv_bipush (v := 43) hx hb dX5_readSum_20 (by decide) ?_
      refine cv_i (As := [.int 43]) (rest := []) (b := w) ⟨hx, hb, hml, hown, hts⟩ (c_X5_isMark hT (w := w) hw (x := 43)) (cwV 1 hts gX5_readSum_X5_isMark rfl rfl rfl hdX5_isMark_v ⟨Nat.le_of_ble_eq_true rfl, Nat.le_of_ble_eq_true rfl⟩) hN hE hL (rcv6 hN hT hw.1) rfl rfl hl.1 (Nat.le_of_ble_eq_true rfl) dX5_readSum_22 (Nat.zero_le _) (Nat.zero_le _) (fun r1652 H1 locs hL hqr1652 => ?_)
      obtain ⟨h9, hqr1652⟩ := hqr1652; replace h9 := h9.symm; subst h9
      rcases hqr1652 with rfl | rfl
      · refine lv_if_ne (tgt := 37) hx hb dX5_readSum_25 (by decide) (fun c9 => absurd (by decide) c9) (fun _ => ?_)
        refine lv_aload_n hx hb dX5_readSum_28 rfl (lv_at hl 1 rfl) ?_
        refine lv_bipush (v := 45) hx hb dX5_readSum_29 (by decide) ?_
        refine cv_i (As := [.int 45]) (rest := []) (b := w) ⟨hx, hb, hml, hown, hts⟩ (c_X5_isMark hT (w := w) hw (x := 45)) (cwV 1 hts gX5_readSum_X5_isMark rfl rfl rfl hdX5_isMark_v ⟨Nat.le_of_ble_eq_true rfl, Nat.le_of_ble_eq_true rfl⟩) hN hE hL (rcv6 hN hT hw.1) rfl rfl hl.1 (Nat.le_of_ble_eq_true rfl) dX5_readSum_31 (Nat.zero_le _) (Nat.zero_le _) (fun r1653 H1 locs hL hqr1653 => ?_)
        obtain ⟨h9, hqr1653⟩ := hqr1653; replace h9 := h9.symm; subst h9
        rcases hqr1653 with rfl | rfl
        · refine lv_if_eq (tgt := 79) hx hb dX5_readSum_34 (by decide) (fun _ => ?_) (fun c9 => absurd (by decide) c9)
          refine lv_iconst (v := 1) hx hb dX5_readSum_79 (by decide) ?_
          exact en_i hx hb hr hlocks hL rfl (Nat.zero_le _) (Nat.zero_le _) dX5_readSum_80 (⟨hT, hF, Or.inr rfl⟩)
        · refine lv_if_eq (tgt := 79) hx hb dX5_readSum_34 (by decide) (fun c9 => absurd c9 (by decide)) (fun _ => ?_)
          refine lv_aload_n hx hb dX5_readSum_37 rfl (lv_at hl 1 rfl) ?_
          refine lv_bipush (v := 43) hx hb dX5_readSum_38 (by decide) ?_
          refine cv_i (As := [.int 43]) (rest := []) (b := w) ⟨hx, hb, hml, hown, hts⟩ (c_X5_isMark hT (w := w) hw (x := 43)) (cwV 1 hts gX5_readSum_X5_isMark rfl rfl rfl hdX5_isMark_v ⟨Nat.le_of_ble_eq_true rfl, Nat.le_of_ble_eq_true rfl⟩) hN hE hL (rcv6 hN hT hw.1) rfl rfl hl.1 (Nat.le_of_ble_eq_true rfl) dX5_readSum_40 (Nat.zero_le _) (Nat.zero_le _) (fun r1654 H1 locs hL hqr1654 => ?_)
          obtain ⟨h9, hqr1654⟩ := hqr1654; replace h9 := h9.symm; subst h9
          rcases hqr1654 with rfl | rfl
          · refine lv_if_eq (tgt := 51) hx hb dX5_readSum_43 (by decide) (fun _ => ?_) (fun c9 => absurd (by decide) c9)
            refine lv_bipush (v := (-6)) hx hb dX5_readSum_51 (by decide) ?_
            refine lv_istore_n (lv' := [(3, .int (-6)), (2, .int (nI k)), (0, .ref w), (1, .int 4)]) hx hb dX5_readSum_53 rfl hl (by decide) rfl (fun ls hl => ?_)
            refine lv_aload_n hx hb dX5_readSum_54 rfl (lv_at hl 2 rfl) ?_
            refine cv_v (As := []) (rest := []) (b := w) ⟨hx, hb, hml, hown, hts⟩ (c_X5_step hT (w := w) hw) (cwV 0 hts gX5_readSum_X5_step rfl rfl rfl hdX5_step_v ⟨Nat.le_of_ble_eq_true rfl, Nat.le_of_ble_eq_true rfl⟩) hN hE hL (rcv6 hN hT hw.1) rfl rfl hl.1 (Nat.le_of_ble_eq_true rfl) dX5_readSum_55 (Nat.zero_le _) (Nat.zero_le _) (fun H1 locs hL hqr1655 => ?_)
            obtain ⟨hT1, hF1, hqr1655⟩ := hqr1655
            have hF := hF.tr (hF1.mono (by simp))
            have hT := hT1
            have f1656 := hqr1655
            refine lv_aload_n hx hb dX5_readSum_58 rfl (lv_at hl 2 rfl) ?_
            refine lv_iload_n hx hb dX5_readSum_59 rfl (lv_at hl 3 rfl) ?_
            refine cv_i (As := [.int 4]) (rest := []) (b := w) ⟨hx, hb, hml, hown, hts⟩ (c_X5_readTerm_d4 hT (w := w) hw) (cwV 1 hts gX5_readSum_X5_readTerm rfl rfl rfl hdX5_readTerm_v ⟨Nat.le_of_ble_eq_true rfl, Nat.le_of_ble_eq_true rfl⟩) hN hE hL (rcv6 hN hT hw.1) rfl rfl hl.1 (Nat.le_of_ble_eq_true rfl) dX5_readSum_60 (Nat.zero_le _) (Nat.zero_le _) (fun r1657 H1 locs hL hqr1657 => ?_)
            obtain ⟨hT1, hF1, hqr1657⟩ := hqr1657
            have hF := hF.tr (hF1.mono (by simp))
            have hT := hT1
            rcases hqr1657 with rfl | rfl
            · refine lv_if_ne (tgt := 68) hx hb dX5_readSum_63 (by decide) (fun c9 => absurd (by decide) c9) (fun _ => ?_)
              refine lv_iconst (v := 0) hx hb dX5_readSum_66 (by decide) ?_
              exact en_i hx hb hr hlocks hL rfl (Nat.zero_le _) (Nat.zero_le _) dX5_readSum_67 (⟨hT, hF, Or.inl rfl⟩)
            · refine lv_if_ne (tgt := 68) hx hb dX5_readSum_63 (by decide) (fun _ => ?_) (fun c9 => absurd c9 (by decide))
              refine lv_aload_n hx hb dX5_readSum_68 rfl (lv_at hl 2 rfl) ?_
              refine lv_iload_n hx hb dX5_readSum_69 rfl (lv_at hl 0 rfl) ?_
              refine cv_v (As := [.int (-6)]) (rest := []) (b := w) ⟨hx, hb, hml, hown, hts⟩ (c_X5_putCode hT (w := w) hw (x := (-6))) (cwV 1 hts gX5_readSum_X5_putCode rfl rfl rfl hdX5_putCode_v ⟨Nat.le_of_ble_eq_true rfl, Nat.le_of_ble_eq_true rfl⟩) hN hE hL (rcv6 hN hT hw.1) rfl rfl hl.1 (Nat.le_of_ble_eq_true rfl) dX5_readSum_70 (Nat.zero_le _) (Nat.zero_le _) (fun H1 locs hL hqr1658 => ?_)
              obtain ⟨hT1, hF1⟩ := hqr1658
              have hF := hF.tr (hF1.mono (by simp))
              have hT := hT1
              refine lv_iinc (v := (nI (k + 1))) (lv' := [(2, .int (nI (k + 1))), (3, .int (-6)), (0, .ref w), (1, .int 4)]) hx hb dX5_readSum_73 hl (k := 1) rfl (nI_add _ 1) (by decide) rfl (fun ls hl => ?_)
              refine lv_goto (tgt := 12) hx hb dX5_readSum_76 (by decide) ?_
              exact ih1650 (k + 1) _ _ _ (by show 600 - ((k + 1)) < 600 - k; omega) ⟨(by show ((k + 1)) ≤ 600; omega), hT, hF, hL⟩ (lv_sub hl [0, 2, 3] rfl)
          · refine lv_if_eq (tgt := 51) hx hb dX5_readSum_43 (by decide) (fun c9 => absurd c9 (by decide)) (fun _ => ?_)
            refine lv_bipush (v := (-5)) hx hb dX5_readSum_46 (by decide) ?_
            refine lv_goto (tgt := 53) hx hb dX5_readSum_48 (by decide) ?_
            refine lv_istore_n (lv' := [(3, .int (-5)), (2, .int (nI k)), (0, .ref w), (1, .int 4)]) hx hb dX5_readSum_53 rfl hl (by decide) rfl (fun ls hl => ?_)
            refine lv_aload_n hx hb dX5_readSum_54 rfl (lv_at hl 2 rfl) ?_
            refine cv_v (As := []) (rest := []) (b := w) ⟨hx, hb, hml, hown, hts⟩ (c_X5_step hT (w := w) hw) (cwV 0 hts gX5_readSum_X5_step rfl rfl rfl hdX5_step_v ⟨Nat.le_of_ble_eq_true rfl, Nat.le_of_ble_eq_true rfl⟩) hN hE hL (rcv6 hN hT hw.1) rfl rfl hl.1 (Nat.le_of_ble_eq_true rfl) dX5_readSum_55 (Nat.zero_le _) (Nat.zero_le _) (fun H1 locs hL hqr1659 => ?_)
            obtain ⟨hT1, hF1, hqr1659⟩ := hqr1659
            have hF := hF.tr (hF1.mono (by simp))
            have hT := hT1
            have f1660 := hqr1659
            refine lv_aload_n hx hb dX5_readSum_58 rfl (lv_at hl 2 rfl) ?_
            refine lv_iload_n hx hb dX5_readSum_59 rfl (lv_at hl 3 rfl) ?_
            refine cv_i (As := [.int 4]) (rest := []) (b := w) ⟨hx, hb, hml, hown, hts⟩ (c_X5_readTerm_d4 hT (w := w) hw) (cwV 1 hts gX5_readSum_X5_readTerm rfl rfl rfl hdX5_readTerm_v ⟨Nat.le_of_ble_eq_true rfl, Nat.le_of_ble_eq_true rfl⟩) hN hE hL (rcv6 hN hT hw.1) rfl rfl hl.1 (Nat.le_of_ble_eq_true rfl) dX5_readSum_60 (Nat.zero_le _) (Nat.zero_le _) (fun r1661 H1 locs hL hqr1661 => ?_)
            obtain ⟨hT1, hF1, hqr1661⟩ := hqr1661
            have hF := hF.tr (hF1.mono (by simp))
            have hT := hT1
            rcases hqr1661 with rfl | rfl
            · refine lv_if_ne (tgt := 68) hx hb dX5_readSum_63 (by decide) (fun c9 => absurd (by decide) c9) (fun _ => ?_)
              refine lv_iconst (v := 0) hx hb dX5_readSum_66 (by decide) ?_
              exact en_i hx hb hr hlocks hL rfl (Nat.zero_le _) (Nat.zero_le _) dX5_readSum_67 (⟨hT, hF, Or.inl rfl⟩)
            · refine lv_if_ne (tgt := 68) hx hb dX5_readSum_63 (by decide) (fun _ => ?_) (fun c9 => absurd c9 (by decide))
              refine lv_aload_n hx hb dX5_readSum_68 rfl (lv_at hl 2 rfl) ?_
              refine lv_iload_n hx hb dX5_readSum_69 rfl (lv_at hl 0 rfl) ?_
              refine cv_v (As := [.int (-5)]) (rest := []) (b := w) ⟨hx, hb, hml, hown, hts⟩ (c_X5_putCode hT (w := w) hw (x := (-5))) (cwV 1 hts gX5_readSum_X5_putCode rfl rfl rfl hdX5_putCode_v ⟨Nat.le_of_ble_eq_true rfl, Nat.le_of_ble_eq_true rfl⟩) hN hE hL (rcv6 hN hT hw.1) rfl rfl hl.1 (Nat.le_of_ble_eq_true rfl) dX5_readSum_70 (Nat.zero_le _) (Nat.zero_le _) (fun H1 locs hL hqr1662 => ?_)
              obtain ⟨hT1, hF1⟩ := hqr1662
              have hF := hF.tr (hF1.mono (by simp))
              have hT := hT1
              refine lv_iinc (v := (nI (k + 1))) (lv' := [(2, .int (nI (k + 1))), (3, .int (-5)), (0, .ref w), (1, .int 4)]) hx hb dX5_readSum_73 hl (k := 1) rfl (nI_add _ 1) (by decide) rfl (fun ls hl => ?_)
              refine lv_goto (tgt := 12) hx hb dX5_readSum_76 (by decide) ?_
              exact ih1650 (k + 1) _ _ _ (by show 600 - ((k + 1)) < 600 - k; omega) ⟨(by show ((k + 1)) ≤ 600; omega), hT, hF, hL⟩ (lv_sub hl [0, 2, 3] rfl)
      · refine lv_if_ne (tgt := 37) hx hb dX5_readSum_25 (by decide) (fun _ => ?_) (fun c9 => absurd c9 (by decide))
        refine lv_aload_n hx hb dX5_readSum_37 rfl (lv_at hl 1 rfl) ?_
        refine lv_bipush (v := 43) hx hb dX5_readSum_38 (by decide) ?_
        refine cv_i (As := [.int 43]) (rest := []) (b := w) ⟨hx, hb, hml, hown, hts⟩ (c_X5_isMark hT (w := w) hw (x := 43)) (cwV 1 hts gX5_readSum_X5_isMark rfl rfl rfl hdX5_isMark_v ⟨Nat.le_of_ble_eq_true rfl, Nat.le_of_ble_eq_true rfl⟩) hN hE hL (rcv6 hN hT hw.1) rfl rfl hl.1 (Nat.le_of_ble_eq_true rfl) dX5_readSum_40 (Nat.zero_le _) (Nat.zero_le _) (fun r1663 H1 locs hL hqr1663 => ?_)
        obtain ⟨h9, hqr1663⟩ := hqr1663; replace h9 := h9.symm; subst h9
        rcases hqr1663 with rfl | rfl
        · refine lv_if_eq (tgt := 51) hx hb dX5_readSum_43 (by decide) (fun _ => ?_) (fun c9 => absurd (by decide) c9)
          refine lv_bipush (v := (-6)) hx hb dX5_readSum_51 (by decide) ?_
          refine lv_istore_n (lv' := [(3, .int (-6)), (2, .int (nI k)), (0, .ref w), (1, .int 4)]) hx hb dX5_readSum_53 rfl hl (by decide) rfl (fun ls hl => ?_)
          refine lv_aload_n hx hb dX5_readSum_54 rfl (lv_at hl 2 rfl) ?_
          refine cv_v (As := []) (rest := []) (b := w) ⟨hx, hb, hml, hown, hts⟩ (c_X5_step hT (w := w) hw) (cwV 0 hts gX5_readSum_X5_step rfl rfl rfl hdX5_step_v ⟨Nat.le_of_ble_eq_true rfl, Nat.le_of_ble_eq_true rfl⟩) hN hE hL (rcv6 hN hT hw.1) rfl rfl hl.1 (Nat.le_of_ble_eq_true rfl) dX5_readSum_55 (Nat.zero_le _) (Nat.zero_le _) (fun H1 locs hL hqr1664 => ?_)
          obtain ⟨hT1, hF1, hqr1664⟩ := hqr1664
          have hF := hF.tr (hF1.mono (by simp))
          have hT := hT1
          have f1665 := hqr1664
          refine lv_aload_n hx hb dX5_readSum_58 rfl (lv_at hl 2 rfl) ?_
          refine lv_iload_n hx hb dX5_readSum_59 rfl (lv_at hl 3 rfl) ?_
          refine cv_i (As := [.int 4]) (rest := []) (b := w) ⟨hx, hb, hml, hown, hts⟩ (c_X5_readTerm_d4 hT (w := w) hw) (cwV 1 hts gX5_readSum_X5_readTerm rfl rfl rfl hdX5_readTerm_v ⟨Nat.le_of_ble_eq_true rfl, Nat.le_of_ble_eq_true rfl⟩) hN hE hL (rcv6 hN hT hw.1) rfl rfl hl.1 (Nat.le_of_ble_eq_true rfl) dX5_readSum_60 (Nat.zero_le _) (Nat.zero_le _) (fun r1666 H1 locs hL hqr1666 => ?_)
          obtain ⟨hT1, hF1, hqr1666⟩ := hqr1666
          have hF := hF.tr (hF1.mono (by simp))
          have hT := hT1
          rcases hqr1666 with rfl | rfl
          · refine lv_if_ne (tgt := 68) hx hb dX5_readSum_63 (by decide) (fun c9 => absurd (by decide) c9) (fun _ => ?_)
            refine lv_iconst (v := 0) hx hb dX5_readSum_66 (by decide) ?_
            exact en_i hx hb hr hlocks hL rfl (Nat.zero_le _) (Nat.zero_le _) dX5_readSum_67 (⟨hT, hF, Or.inl rfl⟩)
          · refine lv_if_ne (tgt := 68) hx hb dX5_readSum_63 (by decide) (fun _ => ?_) (fun c9 => absurd c9 (by decide))
            refine lv_aload_n hx hb dX5_readSum_68 rfl (lv_at hl 2 rfl) ?_
            refine lv_iload_n hx hb dX5_readSum_69 rfl (lv_at hl 0 rfl) ?_
            refine cv_v (As := [.int (-6)]) (rest := []) (b := w) ⟨hx, hb, hml, hown, hts⟩ (c_X5_putCode hT (w := w) hw (x := (-6))) (cwV 1 hts gX5_readSum_X5_putCode rfl rfl rfl hdX5_putCode_v ⟨Nat.le_of_ble_eq_true rfl, Nat.le_of_ble_eq_true rfl⟩) hN hE hL (rcv6 hN hT hw.1) rfl rfl hl.1 (Nat.le_of_ble_eq_true rfl) dX5_readSum_70 (Nat.zero_le _) (Nat.zero_le _) (fun H1 locs hL hqr1667 => ?_)
            obtain ⟨hT1, hF1⟩ := hqr1667
            have hF := hF.tr (hF1.mono (by simp))
            have hT := hT1
            refine lv_iinc (v := (nI (k + 1))) (lv' := [(2, .int (nI (k + 1))), (3, .int (-6)), (0, .ref w), (1, .int 4)]) hx hb dX5_readSum_73 hl (k := 1) rfl (nI_add _ 1) (by decide) rfl (fun ls hl => ?_)
            refine lv_goto (tgt := 12) hx hb dX5_readSum_76 (by decide) ?_
            exact ih1650 (k + 1) _ _ _ (by show 600 - ((k + 1)) < 600 - k; omega) ⟨(by show ((k + 1)) ≤ 600; omega), hT, hF, hL⟩ (lv_sub hl [0, 2, 3] rfl)
        · refine lv_if_eq (tgt := 51) hx hb dX5_readSum_43 (by decide) (fun c9 => absurd c9 (by decide)) (fun _ => ?_)
          refine lv_bipush (v := (-5)) hx hb dX5_readSum_46 (by decide) ?_
          refine lv_goto (tgt := 53) hx hb dX5_readSum_48 (by decide) ?_
          refine lv_istore_n (lv' := [(3, .int (-5)), (2, .int (nI k)), (0, .ref w), (1, .int 4)]) hx hb dX5_readSum_53 rfl hl (by decide) rfl (fun ls hl => ?_)
          refine lv_aload_n hx hb dX5_readSum_54 rfl (lv_at hl 2 rfl) ?_
          refine cv_v (As := []) (rest := []) (b := w) ⟨hx, hb, hml, hown, hts⟩ (c_X5_step hT (w := w) hw) (cwV 0 hts gX5_readSum_X5_step rfl rfl rfl hdX5_step_v ⟨Nat.le_of_ble_eq_true rfl, Nat.le_of_ble_eq_true rfl⟩) hN hE hL (rcv6 hN hT hw.1) rfl rfl hl.1 (Nat.le_of_ble_eq_true rfl) dX5_readSum_55 (Nat.zero_le _) (Nat.zero_le _) (fun H1 locs hL hqr1668 => ?_)
          obtain ⟨hT1, hF1, hqr1668⟩ := hqr1668
          have hF := hF.tr (hF1.mono (by simp))
          have hT := hT1
          have f1669 := hqr1668
          refine lv_aload_n hx hb dX5_readSum_58 rfl (lv_at hl 2 rfl) ?_
          refine lv_iload_n hx hb dX5_readSum_59 rfl (lv_at hl 3 rfl) ?_
          refine cv_i (As := [.int 4]) (rest := []) (b := w) ⟨hx, hb, hml, hown, hts⟩ (c_X5_readTerm_d4 hT (w := w) hw) (cwV 1 hts gX5_readSum_X5_readTerm rfl rfl rfl hdX5_readTerm_v ⟨Nat.le_of_ble_eq_true rfl, Nat.le_of_ble_eq_true rfl⟩) hN hE hL (rcv6 hN hT hw.1) rfl rfl hl.1 (Nat.le_of_ble_eq_true rfl) dX5_readSum_60 (Nat.zero_le _) (Nat.zero_le _) (fun r1670 H1 locs hL hqr1670 => ?_)
          obtain ⟨hT1, hF1, hqr1670⟩ := hqr1670
          have hF := hF.tr (hF1.mono (by simp))
          have hT := hT1
          rcases hqr1670 with rfl | rfl
          · refine lv_if_ne (tgt := 68) hx hb dX5_readSum_63 (by decide) (fun c9 => absurd (by decide) c9) (fun _ => ?_)
            refine lv_iconst (v := 0) hx hb dX5_readSum_66 (by decide) ?_
            exact en_i hx hb hr hlocks hL rfl (Nat.zero_le _) (Nat.zero_le _) dX5_readSum_67 (⟨hT, hF, Or.inl rfl⟩)
          · refine lv_if_ne (tgt := 68) hx hb dX5_readSum_63 (by decide) (fun _ => ?_) (fun c9 => absurd c9 (by decide))
            refine lv_aload_n hx hb dX5_readSum_68 rfl (lv_at hl 2 rfl) ?_
            refine lv_iload_n hx hb dX5_readSum_69 rfl (lv_at hl 0 rfl) ?_
            refine cv_v (As := [.int (-5)]) (rest := []) (b := w) ⟨hx, hb, hml, hown, hts⟩ (c_X5_putCode hT (w := w) hw (x := (-5))) (cwV 1 hts gX5_readSum_X5_putCode rfl rfl rfl hdX5_putCode_v ⟨Nat.le_of_ble_eq_true rfl, Nat.le_of_ble_eq_true rfl⟩) hN hE hL (rcv6 hN hT hw.1) rfl rfl hl.1 (Nat.le_of_ble_eq_true rfl) dX5_readSum_70 (Nat.zero_le _) (Nat.zero_le _) (fun H1 locs hL hqr1671 => ?_)
            obtain ⟨hT1, hF1⟩ := hqr1671
            have hF := hF.tr (hF1.mono (by simp))
            have hT := hT1
            refine lv_iinc (v := (nI (k + 1))) (lv' := [(2, .int (nI (k + 1))), (3, .int (-5)), (0, .ref w), (1, .int 4)]) hx hb dX5_readSum_73 hl (k := 1) rfl (nI_add _ 1) (by decide) rfl (fun ls hl => ?_)
            refine lv_goto (tgt := 12) hx hb dX5_readSum_76 (by decide) ?_
            exact ih1650 (k + 1) _ _ _ (by show 600 - ((k + 1)) < 600 - k; omega) ⟨(by show ((k + 1)) ≤ 600; omega), hT, hF, hL⟩ (lv_sub hl [0, 2, 3] rfl)
theorem hdX5_readSum_v : yX5_readSum.cls = RX5 ∧ yX5_readSum.cls ≠ "java/lang/invoke/MethodHandle" ∧ yX5_readSum.cls ≠ "java/lang/invoke/VarHandle" ∧ (parseMethodDescriptor yX5_readSum.desc).map (fun d => d.parameters.length) = some 1 := by decide +kernel
theorem hdX5_takeMark_v : yX5_takeMark.cls = RX5 ∧ yX5_takeMark.cls ≠ "java/lang/invoke/MethodHandle" ∧ yX5_takeMark.cls ≠ "java/lang/invoke/VarHandle" ∧ (parseMethodDescriptor yX5_takeMark.desc).map (fun d => d.parameters.length) = some 1 := by decide +kernel
set_option maxHeartbeats 4000000 in
set_option maxRecDepth 100000 in
theorem c_X5_readFactor_d3 {l : Launch} {D : va_G} {cs : Nat → ClassId} {B0 T : Nat} {κ : KM} {H0 : Heap} (hT : WT B0 D cs T κ H0) {w : Nat} (hw : T2 κ w 6 10) : KC l yX5_readFactor wsX5_readFactor 9 195 0 0 D cs B0 H0 [.ref w, .int 3] (Qi (fun r H => WT B0 D cs T κ H ∧ Fr B0 [10] κ H0 H ∧ (r = 0 ∨ r = 1))) := by
  refine KC.of cX5_readFactor 3 (some .boolean) (by decide) rfl (Nat.le_of_ble_eq_true rfl) ?_
  intro p e s m below meth c ls hx hb hr hml hown hts hlocks hin hN hE hH0 hl
  have hown : s.vm.findClass RX5 = some m.cls := hown
  have hl : lv_has ls 3 [(0, .ref w), (1, .int 3)] := hl
  have hL : OkL B0 [] := OkL.nil
  have hF : Fr B0 [10] κ H0 H0 := Fr.rf
  refine lv_aload_n hx hb dX5_readFactor_0 rfl (lv_at hl 0 rfl) ?_
  obtain ⟨hb1672, e1672, hat1672, hk1672⟩ := hT.o6 hw.1
  obtain ⟨f1672_0, f1672_2, f1672_3, f1672_4, f1672_5, f1672_6, f1672_7, f1672_8, f1672_9, f1672_10, f1672_11, f1672_12, f1672_13, rfl, c1672_1, c1672_2, c1672_3, c1672_5, c1672_10, t1672_0, t1672_9, c1672_11, c1672_p2⟩ := hk1672
  have hP : va_P D vwCl [(w, .inr (5, [.ref f1672_0, .int (nI ((κ w).2.2.1)), .int (nI f1672_2), .int (nI f1672_3), .int f1672_4, .int (nI f1672_5), .int f1672_6, .int f1672_7, .int f1672_8, .ref f1672_9, .int (nI f1672_10), f1672_11, .int f1672_12, .int f1672_13]))] _ := va_P.cons hat1672 va_P.nil
  refine va_get (D := D) (ci := 5) (v := .int f1672_4) (C := RX5) (T := TX5) (N := 14) hx hb hts iX5_readFactor_5 hown hN.1 hP 0 rfl rfl 4 (by decide) (hts _ mX5_readFactor_1) (fun _ h9 => h9) rfl dX5_readFactor_1 ?_
  refine lv_iconst (v := 1) hx hb dX5_readFactor_4 (by decide) ?_
  refine lv_icmp_ne (tgt := 31) hx hb dX5_readFactor_5 (by decide) (fun c1673 => ?_) (fun c1673 => ?_)
  · refine lv_aload_n hx hb dX5_readFactor_31 rfl (lv_at hl 0 rfl) ?_
    refine lv_bipush (v := 40) hx hb dX5_readFactor_32 (by decide) ?_
    refine cv_i (As := [.int 40]) (rest := []) (b := w) ⟨hx, hb, hml, hown, hts⟩ (c_X5_isMark hT (w := w) hw (x := 40)) (cwV 1 hts gX5_readFactor_X5_isMark rfl rfl rfl hdX5_isMark_v ⟨Nat.le_of_ble_eq_true rfl, Nat.le_of_ble_eq_true rfl⟩) hN hE hL (rcv6 hN hT hw.1) rfl rfl hl.1 (Nat.le_of_ble_eq_true rfl) dX5_readFactor_34 (Nat.zero_le _) (Nat.zero_le _) (fun r1674 H1 locs hL hqr1674 => ?_)
    obtain ⟨h9, hqr1674⟩ := hqr1674; replace h9 := h9.symm; subst h9
    rcases hqr1674 with rfl | rfl
    · refine lv_if_eq (tgt := 85) hx hb dX5_readFactor_37 (by decide) (fun _ => ?_) (fun c9 => absurd (by decide) c9)
      refine lv_aload_n hx hb dX5_readFactor_85 rfl (lv_at hl 0 rfl) ?_
      refine cv_i (As := []) (rest := []) (b := w) ⟨hx, hb, hml, hown, hts⟩ (c_X5_codeOfWord hT (w := w) hw) (cwV 0 hts gX5_readFactor_X5_codeOfWord rfl rfl rfl hdX5_codeOfWord_v ⟨Nat.le_of_ble_eq_true rfl, Nat.le_of_ble_eq_true rfl⟩) hN hE hL (rcv6 hN hT hw.1) rfl rfl hl.1 (Nat.le_of_ble_eq_true rfl) dX5_readFactor_86 (Nat.zero_le _) (Nat.zero_le _) (fun r1675 H1 locs hL hqr1675 => ?_)
      obtain rfl := hqr1675.symm
      refine lv_istore_n (lv' := [(2, .int r1675), (0, .ref w), (1, .int 3)]) hx hb dX5_readFactor_89 rfl hl (by decide) rfl (fun ls hl => ?_)
      refine lv_iload_n hx hb dX5_readFactor_90 rfl (lv_at hl 0 rfl) ?_
      refine lv_if_ne (tgt := 105) hx hb dX5_readFactor_91 (by decide) (fun c1676 => ?_) (fun c1676 => ?_)
      · refine lv_aload_n hx hb dX5_readFactor_105 rfl (lv_at hl 1 rfl) ?_
        refine lv_iload_n hx hb dX5_readFactor_106 rfl (lv_at hl 0 rfl) ?_
        refine cv_v (As := [.int r1675]) (rest := []) (b := w) ⟨hx, hb, hml, hown, hts⟩ (c_X5_putCode hT (w := w) hw (x := r1675)) (cwV 1 hts gX5_readFactor_X5_putCode rfl rfl rfl hdX5_putCode_v ⟨Nat.le_of_ble_eq_true rfl, Nat.le_of_ble_eq_true rfl⟩) hN hE hL (rcv6 hN hT hw.1) rfl rfl hl.1 (Nat.le_of_ble_eq_true rfl) dX5_readFactor_107 (Nat.zero_le _) (Nat.zero_le _) (fun H1 locs hL hqr1677 => ?_)
        obtain ⟨hT1, hF1⟩ := hqr1677
        have hF := hF.tr (hF1.mono (by simp))
        have hT := hT1
        refine lv_aload_n hx hb dX5_readFactor_110 rfl (lv_at hl 1 rfl) ?_
        refine cv_v (As := []) (rest := []) (b := w) ⟨hx, hb, hml, hown, hts⟩ (c_X5_step hT (w := w) hw) (cwV 0 hts gX5_readFactor_X5_step rfl rfl rfl hdX5_step_v ⟨Nat.le_of_ble_eq_true rfl, Nat.le_of_ble_eq_true rfl⟩) hN hE hL (rcv6 hN hT hw.1) rfl rfl hl.1 (Nat.le_of_ble_eq_true rfl) dX5_readFactor_111 (Nat.zero_le _) (Nat.zero_le _) (fun H1 locs hL hqr1678 => ?_)
        obtain ⟨hT1, hF1, hqr1678⟩ := hqr1678
        have hF := hF.tr (hF1.mono (by simp))
        have hT := hT1
        have f1679 := hqr1678
        refine lv_iconst (v := 1) hx hb dX5_readFactor_114 (by decide) ?_
        exact en_i hx hb hr hlocks hL rfl (Nat.zero_le _) (Nat.zero_le _) dX5_readFactor_115 (⟨hT, hF, Or.inr rfl⟩)
      · refine lv_aload_n hx hb dX5_readFactor_94 rfl (lv_at hl 1 rfl) ?_
        refine lv_bipush (v := (-2)) hx hb dX5_readFactor_95 (by decide) ?_
        refine lv_aload_n hx hb dX5_readFactor_97 rfl (lv_at hl 1 rfl) ?_
        refine va_get (D := D) (ci := 5) (v := .int (nI f1672_5)) (C := RX5) (T := TX5) (N := 14) hx hb hts iX5_readFactor_5 hown hN.1 hP 0 rfl rfl 5 (by decide) (hts _ mX5_readFactor_3) (fun _ h9 => h9) rfl dX5_readFactor_98 ?_
        refine cv_i (As := [.int (-2), .int (nI f1672_5)]) (rest := []) (b := w) ⟨hx, hb, hml, hown, hts⟩ (c_X5_fail hT (w := w) hw (x := (-2)) (y := (nI f1672_5))) (cwV 2 hts gX5_readFactor_X5_fail rfl rfl rfl hdX5_fail_v ⟨Nat.le_of_ble_eq_true rfl, Nat.le_of_ble_eq_true rfl⟩) hN hE hL (rcv6 hN hT hw.1) rfl rfl hl.1 (Nat.le_of_ble_eq_true rfl) dX5_readFactor_101 (Nat.zero_le _) (Nat.zero_le _) (fun r1680 H1 locs hL hqr1680 => ?_)
        obtain ⟨hT1, hF1, hqr1680⟩ := hqr1680
        have hF := hF.tr (hF1.mono (by simp))
        have hT := hT1
        obtain rfl := hqr1680
        exact en_i hx hb hr hlocks hL rfl (Nat.zero_le _) (Nat.zero_le _) dX5_readFactor_104 (⟨hT, hF, Or.inl rfl⟩)
    · refine lv_if_eq (tgt := 85) hx hb dX5_readFactor_37 (by decide) (fun c9 => absurd c9 (by decide)) (fun _ => ?_)
      refine lv_iload_n hx hb dX5_readFactor_40 rfl (lv_at hl 1 rfl) ?_
      refine lv_iconst (v := 4) hx hb dX5_readFactor_41 (by decide) ?_
      refine lv_icmp_lt (tgt := 56) hx hb dX5_readFactor_42 (by decide) (fun _ => ?_) (fun c9 => absurd (by decide) c9)
      refine lv_aload_n hx hb dX5_readFactor_56 rfl (lv_at hl 0 rfl) ?_
      refine cv_v (As := []) (rest := []) (b := w) ⟨hx, hb, hml, hown, hts⟩ (c_X5_step hT (w := w) hw) (cwV 0 hts gX5_readFactor_X5_step rfl rfl rfl hdX5_step_v ⟨Nat.le_of_ble_eq_true rfl, Nat.le_of_ble_eq_true rfl⟩) hN hE hL (rcv6 hN hT hw.1) rfl rfl hl.1 (Nat.le_of_ble_eq_true rfl) dX5_readFactor_57 (Nat.zero_le _) (Nat.zero_le _) (fun H1 locs hL hqr1681 => ?_)
      obtain ⟨hT1, hF1, hqr1681⟩ := hqr1681
      have hF := hF.tr (hF1.mono (by simp))
      have hT := hT1
      have f1682 := hqr1681
      refine lv_aload_n hx hb dX5_readFactor_60 rfl (lv_at hl 0 rfl) ?_
      refine lv_iload_n hx hb dX5_readFactor_61 rfl (lv_at hl 1 rfl) ?_
      refine lv_iconst (v := 1) hx hb dX5_readFactor_62 (by decide) ?_
      refine lv_iadd hx hb dX5_readFactor_63 ?_
      refine tp_i 4 (by decide) ?_
      refine cv_i (As := [.int 4]) (rest := []) (b := w) ⟨hx, hb, hml, hown, hts⟩ (c_X5_readSum_d4 hT (w := w) hw) (cwV 1 hts gX5_readFactor_X5_readSum rfl rfl rfl hdX5_readSum_v ⟨Nat.le_of_ble_eq_true rfl, Nat.le_of_ble_eq_true rfl⟩) hN hE hL (rcv6 hN hT hw.1) rfl rfl hl.1 (Nat.le_of_ble_eq_true rfl) dX5_readFactor_64 (Nat.zero_le _) (Nat.zero_le _) (fun r1683 H1 locs hL hqr1683 => ?_)
      obtain ⟨hT1, hF1, hqr1683⟩ := hqr1683
      have hF := hF.tr (hF1.mono (by simp))
      have hT := hT1
      rcases hqr1683 with rfl | rfl
      · refine lv_if_eq (tgt := 83) hx hb dX5_readFactor_67 (by decide) (fun _ => ?_) (fun c9 => absurd (by decide) c9)
        refine lv_iconst (v := 0) hx hb dX5_readFactor_83 (by decide) ?_
        exact en_i hx hb hr hlocks hL rfl (Nat.zero_le _) (Nat.zero_le _) dX5_readFactor_84 (⟨hT, hF, Or.inl rfl⟩)
      · refine lv_if_eq (tgt := 83) hx hb dX5_readFactor_67 (by decide) (fun c9 => absurd c9 (by decide)) (fun _ => ?_)
        refine lv_aload_n hx hb dX5_readFactor_70 rfl (lv_at hl 0 rfl) ?_
        refine lv_bipush (v := 41) hx hb dX5_readFactor_71 (by decide) ?_
        refine cv_i (As := [.int 41]) (rest := []) (b := w) ⟨hx, hb, hml, hown, hts⟩ (c_X5_takeMark hT (w := w) hw (x := 41)) (cwV 1 hts gX5_readFactor_X5_takeMark rfl rfl rfl hdX5_takeMark_v ⟨Nat.le_of_ble_eq_true rfl, Nat.le_of_ble_eq_true rfl⟩) hN hE hL (rcv6 hN hT hw.1) rfl rfl hl.1 (Nat.le_of_ble_eq_true rfl) dX5_readFactor_73 (Nat.zero_le _) (Nat.zero_le _) (fun r1684 H1 locs hL hqr1684 => ?_)
        obtain ⟨hT1, hF1, hqr1684⟩ := hqr1684
        have hF := hF.tr (hF1.mono (by simp))
        have hT := hT1
        rcases hqr1684 with rfl | rfl
        · refine lv_if_eq (tgt := 83) hx hb dX5_readFactor_76 (by decide) (fun _ => ?_) (fun c9 => absurd (by decide) c9)
          refine lv_iconst (v := 0) hx hb dX5_readFactor_83 (by decide) ?_
          exact en_i hx hb hr hlocks hL rfl (Nat.zero_le _) (Nat.zero_le _) dX5_readFactor_84 (⟨hT, hF, Or.inl rfl⟩)
        · refine lv_if_eq (tgt := 83) hx hb dX5_readFactor_76 (by decide) (fun c9 => absurd c9 (by decide)) (fun _ => ?_)
          refine lv_iconst (v := 1) hx hb dX5_readFactor_79 (by decide) ?_
          refine lv_goto (tgt := 84) hx hb dX5_readFactor_80 (by decide) ?_
          exact en_i hx hb hr hlocks hL rfl (Nat.zero_le _) (Nat.zero_le _) dX5_readFactor_84 (⟨hT, hF, Or.inr rfl⟩)
  · refine lv_aload_n hx hb dX5_readFactor_8 rfl (lv_at hl 0 rfl) ?_
    refine lv_iconst (v := 0) hx hb dX5_readFactor_9 (by decide) ?_
    refine lv_sipush (v := 9999) hx hb dX5_readFactor_10 (by decide) ?_
    refine cv_i (As := [.int 0, .int 9999]) (rest := []) (b := w) ⟨hx, hb, hml, hown, hts⟩ (c_X5_takeNumber hT (w := w) hw (x := 0) (y := 9999)) (cwV 2 hts gX5_readFactor_X5_takeNumber rfl rfl rfl hdX5_takeNumber_v ⟨Nat.le_of_ble_eq_true rfl, Nat.le_of_ble_eq_true rfl⟩) hN hE hL (rcv6 hN hT hw.1) rfl rfl hl.1 (Nat.le_of_ble_eq_true rfl) dX5_readFactor_13 (Nat.zero_le _) (Nat.zero_le _) (fun r1685 H1 locs hL hqr1685 => ?_)
    obtain ⟨hT1, hF1, hqr1685⟩ := hqr1685
    have hF := hF.tr (hF1.mono (by simp))
    have hT := hT1
    rcases hqr1685 with rfl | ⟨rfl, v1686, l1687, g1688, f1689⟩
    · refine lv_if_ne (tgt := 21) hx hb dX5_readFactor_16 (by decide) (fun c9 => absurd (by decide) c9) (fun _ => ?_)
      refine lv_iconst (v := 0) hx hb dX5_readFactor_19 (by decide) ?_
      exact en_i hx hb hr hlocks hL rfl (Nat.zero_le _) (Nat.zero_le _) dX5_readFactor_20 (⟨hT, hF, Or.inl rfl⟩)
    · obtain ⟨n1690, hn1690a, hn1690b, rfl⟩ := rng (x := v1686) (lo := 0) (hi := 9999) (by decide) (by decide) l1687 g1688
      refine lv_if_ne (tgt := 21) hx hb dX5_readFactor_16 (by decide) (fun _ => ?_) (fun c9 => absurd c9 (by decide))
      refine lv_aload_n hx hb dX5_readFactor_21 rfl (lv_at hl 0 rfl) ?_
      refine lv_aload_n hx hb dX5_readFactor_22 rfl (lv_at hl 0 rfl) ?_
      obtain ⟨hb1691, e1691, hat1691, hk1691⟩ := hT.o6 hw.1
      obtain ⟨f1691_0, f1691_2, f1691_3, f1691_4, f1691_5, f1691_6, f1691_7, f1691_8, f1691_9, f1691_10, f1691_11, f1691_12, f1691_13, rfl, c1691_1, c1691_2, c1691_3, c1691_5, c1691_10, t1691_0, t1691_9, c1691_11, c1691_p2⟩ := hk1691
      obtain rfl : f1691_7 = nI n1690 := Value.int.inj (f1689.eq hat1691 rfl (by decide) rfl)
      have hP : va_P D vwCl [(w, .inr (5, [.ref f1691_0, .int (nI ((κ w).2.2.1)), .int (nI f1691_2), .int (nI f1691_3), .int f1691_4, .int (nI f1691_5), .int f1691_6, .int (nI n1690), .int f1691_8, .ref f1691_9, .int (nI f1691_10), f1691_11, .int f1691_12, .int f1691_13]))] _ := va_P.cons hat1691 va_P.nil
      refine va_get (D := D) (ci := 5) (v := .int (nI n1690)) (C := RX5) (T := TX5) (N := 14) hx hb hts iX5_readFactor_5 hown hN.1 hP 0 rfl rfl 7 (by decide) (hts _ mX5_readFactor_2) (fun _ h9 => h9) rfl dX5_readFactor_23 ?_
      refine cv_v (As := [.int (nI n1690)]) (rest := []) (b := w) ⟨hx, hb, hml, hown, hts⟩ (c_X5_putCode hT (w := w) hw (x := (nI n1690))) (cwV 1 hts gX5_readFactor_X5_putCode rfl rfl rfl hdX5_putCode_v ⟨Nat.le_of_ble_eq_true rfl, Nat.le_of_ble_eq_true rfl⟩) hN hE hL (rcv6 hN hT hw.1) rfl rfl hl.1 (Nat.le_of_ble_eq_true rfl) dX5_readFactor_26 (Nat.zero_le _) (Nat.zero_le _) (fun H1 locs hL hqr1692 => ?_)
      obtain ⟨hT1, hF1⟩ := hqr1692
      have hF := hF.tr (hF1.mono (by simp))
      have hT := hT1
      refine lv_iconst (v := 1) hx hb dX5_readFactor_29 (by decide) ?_
      exact en_i hx hb hr hlocks hL rfl (Nat.zero_le _) (Nat.zero_le _) dX5_readFactor_30 (⟨hT, hF, Or.inr rfl⟩)
set_option maxHeartbeats 4000000 in
set_option maxRecDepth 100000 in
theorem c_X5_readTerm_d3 {l : Launch} {D : va_G} {cs : Nat → ClassId} {B0 T : Nat} {κ : KM} {H0 : Heap} (hT : WT B0 D cs T κ H0) {w : Nat} (hw : T2 κ w 6 10) : KC l yX5_readTerm wsX5_readTerm 10 217 0 0 D cs B0 H0 [.ref w, .int 3] (Qi (fun r H => WT B0 D cs T κ H ∧ Fr B0 [10] κ H0 H ∧ (r = 0 ∨ r = 1))) := by
  refine KC.of cX5_readTerm 4 (some .boolean) (by decide) rfl (Nat.le_of_ble_eq_true rfl) ?_
  intro p e s m below meth c ls hx hb hr hml hown hts hlocks hin hN hE hH0 hl
  have hown : s.vm.findClass RX5 = some m.cls := hown
  have hl : lv_has ls 4 [(0, .ref w), (1, .int 3)] := hl
  have hL : OkL B0 [] := OkL.nil
  have hF : Fr B0 [10] κ H0 H0 := Fr.rf
  refine lv_aload_n hx hb dX5_readTerm_0 rfl (lv_at hl 0 rfl) ?_
  refine lv_iload_n hx hb dX5_readTerm_1 rfl (lv_at hl 1 rfl) ?_
  refine cv_i (As := [.int 3]) (rest := []) (b := w) ⟨hx, hb, hml, hown, hts⟩ (c_X5_readFactor_d3 hT (w := w) hw) (cwV 1 hts gX5_readTerm_X5_readFactor rfl rfl rfl hdX5_readFactor_v ⟨Nat.le_of_ble_eq_true rfl, Nat.le_of_ble_eq_true rfl⟩) hN hE hL (rcv6 hN hT hw.1) rfl rfl hl.1 (Nat.le_of_ble_eq_true rfl) dX5_readTerm_2 (Nat.zero_le _) (Nat.zero_le _) (fun r1693 H1 locs hL hqr1693 => ?_)
  obtain ⟨hT1, hF1, hqr1693⟩ := hqr1693
  have hF := hF.tr (hF1.mono (by simp))
  have hT := hT1
  rcases hqr1693 with rfl | rfl
  · refine lv_if_ne (tgt := 10) hx hb dX5_readTerm_5 (by decide) (fun c9 => absurd (by decide) c9) (fun _ => ?_)
    refine lv_iconst (v := 0) hx hb dX5_readTerm_8 (by decide) ?_
    exact en_i hx hb hr hlocks hL rfl (Nat.zero_le _) (Nat.zero_le _) dX5_readTerm_9 (⟨hT, hF, Or.inl rfl⟩)
  · refine lv_if_ne (tgt := 10) hx hb dX5_readTerm_5 (by decide) (fun _ => ?_) (fun c9 => absurd c9 (by decide))
    refine lv_iconst (v := 0) hx hb dX5_readTerm_10 (by decide) ?_
    refine lv_istore_n (lv' := [(2, .int 0), (0, .ref w), (1, .int 3)]) hx hb dX5_readTerm_11 rfl hl (by decide) rfl (fun ls hl => ?_)
    refine lp_m (α := Nat) (nL := 4) (fun a9 => 600 - a9) (fun a9 H9 l9 => (a9 ≤ 600) ∧ (WT B0 D cs T κ H9) ∧ (Fr B0 [10] κ H0 H9) ∧ (OkL B0 l9)) (fun a9 => [(2, .int (nI a9)), (0, .ref w), (1, .int 3)]) ?_ 0 _ _ _ ⟨(by show (0) ≤ 600; omega), hT, hF, hL⟩ (lv_sub hl [0, 1, 2] rfl)
    rintro k H locs ls ih1694 ⟨hk, hT, hF, hL⟩ hl
    have hl : lv_has ls 4 [(2, .int (nI k)), (0, .ref w), (1, .int 3)] := hl
    have hk : k ≤ 600 := hk
    refine lv_iload_n hx hb dX5_readTerm_12 rfl (lv_at hl 0 rfl) ?_
    refine lv_sipush (v := 600) hx hb dX5_readTerm_13 (by decide) ?_
    refine lv_icmp_ge (tgt := 79) hx hb dX5_readTerm_16 (by decide) (fun c1695 => ?_) (fun c1695 => ?_)
    · have c1695 : 600 ≤ k := (nI_leI (a := 600) (b := k) (by omega) (by omega)).mp c1695
      refine lv_iconst (v := 1) hx hb dX5_readTerm_79 (by decide) ?_
      exact en_i hx hb hr hlocks hL rfl (Nat.zero_le _) (Nat.zero_le _) dX5_readTerm_80 (⟨hT, hF, Or.inr rfl⟩)
    · have c1695 : ¬ 600 ≤ k := fun h9 => c1695 ((nI_leI (a := 600) (b := k) (by omega) (by omega)).mpr h9)
      refine lv_aload_n hx hb dX5_readTerm_19 rfl (lv_at hl 1 rfl) ?_
      refine lv_bipush (v := 42) hx hb dX5_readTerm_20 (by decide) ?_
      refine cv_i (As := [.int 42]) (rest := []) (b := w) ⟨hx, hb, hml, hown, hts⟩ (c_X5_isMark hT (w := w) hw (x := 42)) (cwV 1 hts gX5_readTerm_X5_isMark rfl rfl rfl hdX5_isMark_v ⟨Nat.le_of_ble_eq_true rfl, Nat.le_of_ble_eq_true rfl⟩) hN hE hL (rcv6 hN hT hw.1) rfl rfl hl.1 (Nat.le_of_ble_eq_true rfl) dX5_readTerm_22 (Nat.zero_le _) (Nat.zero_le _) (fun r1696 H1 locs hL hqr1696 => ?_)
      obtain ⟨h9, hqr1696⟩ := hqr1696; replace h9 := h9.symm; subst h9
      rcases hqr1696 with rfl | rfl
      · refine lv_if_ne (tgt := 37) hx hb dX5_readTerm_25 (by decide) (fun c9 => absurd (by decide) c9) (fun _ => ?_)
        refine lv_aload_n hx hb dX5_readTerm_28 rfl (lv_at hl 1 rfl) ?_
        refine lv_bipush (v := 47) hx hb dX5_readTerm_29 (by decide) ?_
        refine cv_i (As := [.int 47]) (rest := []) (b := w) ⟨hx, hb, hml, hown, hts⟩ (c_X5_isMark hT (w := w) hw (x := 47)) (cwV 1 hts gX5_readTerm_X5_isMark rfl rfl rfl hdX5_isMark_v ⟨Nat.le_of_ble_eq_true rfl, Nat.le_of_ble_eq_true rfl⟩) hN hE hL (rcv6 hN hT hw.1) rfl rfl hl.1 (Nat.le_of_ble_eq_true rfl) dX5_readTerm_31 (Nat.zero_le _) (Nat.zero_le _) (fun r1697 H1 locs hL hqr1697 => ?_)
        obtain ⟨h9, hqr1697⟩ := hqr1697; replace h9 := h9.symm; subst h9
        rcases hqr1697 with rfl | rfl
        · refine lv_if_eq (tgt := 79) hx hb dX5_readTerm_34 (by decide) (fun _ => ?_) (fun c9 => absurd (by decide) c9)
          refine lv_iconst (v := 1) hx hb dX5_readTerm_79 (by decide) ?_
          exact en_i hx hb hr hlocks hL rfl (Nat.zero_le _) (Nat.zero_le _) dX5_readTerm_80 (⟨hT, hF, Or.inr rfl⟩)
        · refine lv_if_eq (tgt := 79) hx hb dX5_readTerm_34 (by decide) (fun c9 => absurd c9 (by decide)) (fun _ => ?_)
          refine lv_aload_n hx hb dX5_readTerm_37 rfl (lv_at hl 1 rfl) ?_
          refine lv_bipush (v := 42) hx hb dX5_readTerm_38 (by decide) ?_
          refine cv_i (As := [.int 42]) (rest := []) (b := w) ⟨hx, hb, hml, hown, hts⟩ (c_X5_isMark hT (w := w) hw (x := 42)) (cwV 1 hts gX5_readTerm_X5_isMark rfl rfl rfl hdX5_isMark_v ⟨Nat.le_of_ble_eq_true rfl, Nat.le_of_ble_eq_true rfl⟩) hN hE hL (rcv6 hN hT hw.1) rfl rfl hl.1 (Nat.le_of_ble_eq_true rfl) dX5_readTerm_40 (Nat.zero_le _) (Nat.zero_le _) (fun r1698 H1 locs hL hqr1698 => ?_)
          obtain ⟨h9, hqr1698⟩ := hqr1698; replace h9 := h9.symm; subst h9
          rcases hqr1698 with rfl | rfl
          · refine lv_if_eq (tgt := 51) hx hb dX5_readTerm_43 (by decide) (fun _ => ?_) (fun c9 => absurd (by decide) c9)
            refine lv_bipush (v := (-8)) hx hb dX5_readTerm_51 (by decide) ?_
            refine lv_istore_n (lv' := [(3, .int (-8)), (2, .int (nI k)), (0, .ref w), (1, .int 3)]) hx hb dX5_readTerm_53 rfl hl (by decide) rfl (fun ls hl => ?_)
            refine lv_aload_n hx hb dX5_readTerm_54 rfl (lv_at hl 2 rfl) ?_
            refine cv_v (As := []) (rest := []) (b := w) ⟨hx, hb, hml, hown, hts⟩ (c_X5_step hT (w := w) hw) (cwV 0 hts gX5_readTerm_X5_step rfl rfl rfl hdX5_step_v ⟨Nat.le_of_ble_eq_true rfl, Nat.le_of_ble_eq_true rfl⟩) hN hE hL (rcv6 hN hT hw.1) rfl rfl hl.1 (Nat.le_of_ble_eq_true rfl) dX5_readTerm_55 (Nat.zero_le _) (Nat.zero_le _) (fun H1 locs hL hqr1699 => ?_)
            obtain ⟨hT1, hF1, hqr1699⟩ := hqr1699
            have hF := hF.tr (hF1.mono (by simp))
            have hT := hT1
            have f1700 := hqr1699
            refine lv_aload_n hx hb dX5_readTerm_58 rfl (lv_at hl 2 rfl) ?_
            refine lv_iload_n hx hb dX5_readTerm_59 rfl (lv_at hl 3 rfl) ?_
            refine cv_i (As := [.int 3]) (rest := []) (b := w) ⟨hx, hb, hml, hown, hts⟩ (c_X5_readFactor_d3 hT (w := w) hw) (cwV 1 hts gX5_readTerm_X5_readFactor rfl rfl rfl hdX5_readFactor_v ⟨Nat.le_of_ble_eq_true rfl, Nat.le_of_ble_eq_true rfl⟩) hN hE hL (rcv6 hN hT hw.1) rfl rfl hl.1 (Nat.le_of_ble_eq_true rfl) dX5_readTerm_60 (Nat.zero_le _) (Nat.zero_le _) (fun r1701 H1 locs hL hqr1701 => ?_)
            obtain ⟨hT1, hF1, hqr1701⟩ := hqr1701
            have hF := hF.tr (hF1.mono (by simp))
            have hT := hT1
            rcases hqr1701 with rfl | rfl
            · refine lv_if_ne (tgt := 68) hx hb dX5_readTerm_63 (by decide) (fun c9 => absurd (by decide) c9) (fun _ => ?_)
              refine lv_iconst (v := 0) hx hb dX5_readTerm_66 (by decide) ?_
              exact en_i hx hb hr hlocks hL rfl (Nat.zero_le _) (Nat.zero_le _) dX5_readTerm_67 (⟨hT, hF, Or.inl rfl⟩)
            · refine lv_if_ne (tgt := 68) hx hb dX5_readTerm_63 (by decide) (fun _ => ?_) (fun c9 => absurd c9 (by decide))
              refine lv_aload_n hx hb dX5_readTerm_68 rfl (lv_at hl 2 rfl) ?_
              refine lv_iload_n hx hb dX5_readTerm_69 rfl (lv_at hl 0 rfl) ?_
              refine cv_v (As := [.int (-8)]) (rest := []) (b := w) ⟨hx, hb, hml, hown, hts⟩ (c_X5_putCode hT (w := w) hw (x := (-8))) (cwV 1 hts gX5_readTerm_X5_putCode rfl rfl rfl hdX5_putCode_v ⟨Nat.le_of_ble_eq_true rfl, Nat.le_of_ble_eq_true rfl⟩) hN hE hL (rcv6 hN hT hw.1) rfl rfl hl.1 (Nat.le_of_ble_eq_true rfl) dX5_readTerm_70 (Nat.zero_le _) (Nat.zero_le _) (fun H1 locs hL hqr1702 => ?_)
              obtain ⟨hT1, hF1⟩ := hqr1702
              have hF := hF.tr (hF1.mono (by simp))
              have hT := hT1
              refine lv_iinc (v := (nI (k + 1))) (lv' := [(2, .int (nI (k + 1))), (3, .int (-8)), (0, .ref w), (1, .int 3)]) hx hb dX5_readTerm_73 hl (k := 1) rfl (nI_add _ 1) (by decide) rfl (fun ls hl => ?_)
              refine lv_goto (tgt := 12) hx hb dX5_readTerm_76 (by decide) ?_
              exact ih1694 (k + 1) _ _ _ (by show 600 - ((k + 1)) < 600 - k; omega) ⟨(by show ((k + 1)) ≤ 600; omega), hT, hF, hL⟩ (lv_sub hl [0, 2, 3] rfl)
          · refine lv_if_eq (tgt := 51) hx hb dX5_readTerm_43 (by decide) (fun c9 => absurd c9 (by decide)) (fun _ => ?_)
            refine lv_bipush (v := (-7)) hx hb dX5_readTerm_46 (by decide) ?_
            refine lv_goto (tgt := 53) hx hb dX5_readTerm_48 (by decide) ?_
            refine lv_istore_n (lv' := [(3, .int (-7)), (2, .int (nI k)), (0, .ref w), (1, .int 3)]) hx hb dX5_readTerm_53 rfl hl (by decide) rfl (fun ls hl => ?_)
            refine lv_aload_n hx hb dX5_readTerm_54 rfl (lv_at hl 2 rfl) ?_
            refine cv_v (As := []) (rest := []) (b := w) ⟨hx, hb, hml, hown, hts⟩ (c_X5_step hT (w := w) hw) (cwV 0 hts gX5_readTerm_X5_step rfl rfl rfl hdX5_step_v ⟨Nat.le_of_ble_eq_true rfl, Nat.le_of_ble_eq_true rfl⟩) hN hE hL (rcv6 hN hT hw.1) rfl rfl hl.1 (Nat.le_of_ble_eq_true rfl) dX5_readTerm_55 (Nat.zero_le _) (Nat.zero_le _) (fun H1 locs hL hqr1703 => ?_)
            obtain ⟨hT1, hF1, hqr1703⟩ := hqr1703
            have hF := hF.tr (hF1.mono (by simp))
            have hT := hT1
            have f1704 := hqr1703
            refine lv_aload_n hx hb dX5_readTerm_58 rfl (lv_at hl 2 rfl) ?_
            refine lv_iload_n hx hb dX5_readTerm_59 rfl (lv_at hl 3 rfl) ?_
            refine cv_i (As := [.int 3]) (rest := []) (b := w) ⟨hx, hb, hml, hown, hts⟩ (c_X5_readFactor_d3 hT (w := w) hw) (cwV 1 hts gX5_readTerm_X5_readFactor rfl rfl rfl hdX5_readFactor_v ⟨Nat.le_of_ble_eq_true rfl, Nat.le_of_ble_eq_true rfl⟩) hN hE hL (rcv6 hN hT hw.1) rfl rfl hl.1 (Nat.le_of_ble_eq_true rfl) dX5_readTerm_60 (Nat.zero_le _) (Nat.zero_le _) (fun r1705 H1 locs hL hqr1705 => ?_)
            obtain ⟨hT1, hF1, hqr1705⟩ := hqr1705
            have hF := hF.tr (hF1.mono (by simp))
            have hT := hT1
            rcases hqr1705 with rfl | rfl
            · refine lv_if_ne (tgt := 68) hx hb dX5_readTerm_63 (by decide) (fun c9 => absurd (by decide) c9) (fun _ => ?_)
              refine lv_iconst (v := 0) hx hb dX5_readTerm_66 (by decide) ?_
              exact en_i hx hb hr hlocks hL rfl (Nat.zero_le _) (Nat.zero_le _) dX5_readTerm_67 (⟨hT, hF, Or.inl rfl⟩)
            · refine lv_if_ne (tgt := 68) hx hb dX5_readTerm_63 (by decide) (fun _ => ?_) (fun c9 => absurd c9 (by decide))
              refine lv_aload_n hx hb dX5_readTerm_68 rfl (lv_at hl 2 rfl) ?_
              refine lv_iload_n hx hb dX5_readTerm_69 rfl (lv_at hl 0 rfl) ?_
              refine cv_v (As := [.int (-7)]) (rest := []) (b := w) ⟨hx, hb, hml, hown, hts⟩ (c_X5_putCode hT (w := w) hw (x := (-7))) (cwV 1 hts gX5_readTerm_X5_putCode rfl rfl rfl hdX5_putCode_v ⟨Nat.le_of_ble_eq_true rfl, Nat.le_of_ble_eq_true rfl⟩) hN hE hL (rcv6 hN hT hw.1) rfl rfl hl.1 (Nat.le_of_ble_eq_true rfl) dX5_readTerm_70 (Nat.zero_le _) (Nat.zero_le _) (fun H1 locs hL hqr1706 => ?_)
              obtain ⟨hT1, hF1⟩ := hqr1706
              have hF := hF.tr (hF1.mono (by simp))
              have hT := hT1
              refine lv_iinc (v := (nI (k + 1))) (lv' := [(2, .int (nI (k + 1))), (3, .int (-7)), (0, .ref w), (1, .int 3)]) hx hb dX5_readTerm_73 hl (k := 1) rfl (nI_add _ 1) (by decide) rfl (fun ls hl => ?_)
              refine lv_goto (tgt := 12) hx hb dX5_readTerm_76 (by decide) ?_
              exact ih1694 (k + 1) _ _ _ (by show 600 - ((k + 1)) < 600 - k; omega) ⟨(by show ((k + 1)) ≤ 600; omega), hT, hF, hL⟩ (lv_sub hl [0, 2, 3] rfl)
      · refine lv_if_ne (tgt := 37) hx hb dX5_readTerm_25 (by decide) (fun _ => ?_) (fun c9 => absurd c9 (by decide))
        refine lv_aload_n hx hb dX5_readTerm_37 rfl (lv_at hl 1 rfl) ?_
        refine lv_bipush (v := 42) hx hb dX5_readTerm_38 (by decide) ?_
        refine cv_i (As := [.int 42]) (rest := []) (b := w) ⟨hx, hb, hml, hown, hts⟩ (c_X5_isMark hT (w := w) hw (x := 42)) (cwV 1 hts gX5_readTerm_X5_isMark rfl rfl rfl hdX5_isMark_v ⟨Nat.le_of_ble_eq_true rfl, Nat.le_of_ble_eq_true rfl⟩) hN hE hL (rcv6 hN hT hw.1) rfl rfl hl.1 (Nat.le_of_ble_eq_true rfl) dX5_readTerm_40 (Nat.zero_le _) (Nat.zero_le _) (fun r1707 H1 locs hL hqr1707 => ?_)
        obtain ⟨h9, hqr1707⟩ := hqr1707; replace h9 := h9.symm; subst h9
        rcases hqr1707 with rfl | rfl
        · refine lv_if_eq (tgt := 51) hx hb dX5_readTerm_43 (by decide) (fun _ => ?_) (fun c9 => absurd (by decide) c9)
          refine lv_bipush (v := (-8)) hx hb dX5_readTerm_51 (by decide) ?_
          refine lv_istore_n (lv' := [(3, .int (-8)), (2, .int (nI k)), (0, .ref w), (1, .int 3)]) hx hb dX5_readTerm_53 rfl hl (by decide) rfl (fun ls hl => ?_)
          refine lv_aload_n hx hb dX5_readTerm_54 rfl (lv_at hl 2 rfl) ?_
          refine cv_v (As := []) (rest := []) (b := w) ⟨hx, hb, hml, hown, hts⟩ (c_X5_step hT (w := w) hw) (cwV 0 hts gX5_readTerm_X5_step rfl rfl rfl hdX5_step_v ⟨Nat.le_of_ble_eq_true rfl, Nat.le_of_ble_eq_true rfl⟩) hN hE hL (rcv6 hN hT hw.1) rfl rfl hl.1 (Nat.le_of_ble_eq_true rfl) dX5_readTerm_55 (Nat.zero_le _) (Nat.zero_le _) (fun H1 locs hL hqr1708 => ?_)
          obtain ⟨hT1, hF1, hqr1708⟩ := hqr1708
          have hF := hF.tr (hF1.mono (by simp))
          have hT := hT1
          have f1709 := hqr1708
          refine lv_aload_n hx hb dX5_readTerm_58 rfl (lv_at hl 2 rfl) ?_
          refine lv_iload_n hx hb dX5_readTerm_59 rfl (lv_at hl 3 rfl) ?_
          refine cv_i (As := [.int 3]) (rest := []) (b := w) ⟨hx, hb, hml, hown, hts⟩ (c_X5_readFactor_d3 hT (w := w) hw) (cwV 1 hts gX5_readTerm_X5_readFactor rfl rfl rfl hdX5_readFactor_v ⟨Nat.le_of_ble_eq_true rfl, Nat.le_of_ble_eq_true rfl⟩) hN hE hL (rcv6 hN hT hw.1) rfl rfl hl.1 (Nat.le_of_ble_eq_true rfl) dX5_readTerm_60 (Nat.zero_le _) (Nat.zero_le _) (fun r1710 H1 locs hL hqr1710 => ?_)
          obtain ⟨hT1, hF1, hqr1710⟩ := hqr1710
          have hF := hF.tr (hF1.mono (by simp))
          have hT := hT1
          rcases hqr1710 with rfl | rfl
          · refine lv_if_ne (tgt := 68) hx hb dX5_readTerm_63 (by decide) (fun c9 => absurd (by decide) c9) (fun _ => ?_)
            refine lv_iconst (v := 0) hx hb dX5_readTerm_66 (by decide) ?_
            exact en_i hx hb hr hlocks hL rfl (Nat.zero_le _) (Nat.zero_le _) dX5_readTerm_67 (⟨hT, hF, Or.inl rfl⟩)
          · refine lv_if_ne (tgt := 68) hx hb dX5_readTerm_63 (by decide) (fun _ => ?_) (fun c9 => absurd c9 (by decide))
            refine lv_aload_n hx hb dX5_readTerm_68 rfl (lv_at hl 2 rfl) ?_
            refine lv_iload_n hx hb dX5_readTerm_69 rfl (lv_at hl 0 rfl) ?_
            refine cv_v (As := [.int (-8)]) (rest := []) (b := w) ⟨hx, hb, hml, hown, hts⟩ (c_X5_putCode hT (w := w) hw (x := (-8))) (cwV 1 hts gX5_readTerm_X5_putCode rfl rfl rfl hdX5_putCode_v ⟨Nat.le_of_ble_eq_true rfl, Nat.le_of_ble_eq_true rfl⟩) hN hE hL (rcv6 hN hT hw.1) rfl rfl hl.1 (Nat.le_of_ble_eq_true rfl) dX5_readTerm_70 (Nat.zero_le _) (Nat.zero_le _) (fun H1 locs hL hqr1711 => ?_)
            obtain ⟨hT1, hF1⟩ := hqr1711
            have hF := hF.tr (hF1.mono (by simp))
            have hT := hT1
            refine lv_iinc (v := (nI (k + 1))) (lv' := [(2, .int (nI (k + 1))), (3, .int (-8)), (0, .ref w), (1, .int 3)]) hx hb dX5_readTerm_73 hl (k := 1) rfl (nI_add _ 1) (by decide) rfl (fun ls hl => ?_)
            refine lv_goto (tgt := 12) hx hb dX5_readTerm_76 (by decide) ?_
            exact ih1694 (k + 1) _ _ _ (by show 600 - ((k + 1)) < 600 - k; omega) ⟨(by show ((k + 1)) ≤ 600; omega), hT, hF, hL⟩ (lv_sub hl [0, 2, 3] rfl)
        · refine lv_if_eq (tgt := 51) hx hb dX5_readTerm_43 (by decide) (fun c9 => absurd c9 (by decide)) (fun _ => ?_)
          refine lv_bipush (v := (-7)) hx hb dX5_readTerm_46 (by decide) ?_
          refine lv_goto (tgt := 53) hx hb dX5_readTerm_48 (by decide) ?_
          refine lv_istore_n (lv' := [(3, .int (-7)), (2, .int (nI k)), (0, .ref w), (1, .int 3)]) hx hb dX5_readTerm_53 rfl hl (by decide) rfl (fun ls hl => ?_)
          refine lv_aload_n hx hb dX5_readTerm_54 rfl (lv_at hl 2 rfl) ?_
          refine cv_v (As := []) (rest := []) (b := w) ⟨hx, hb, hml, hown, hts⟩ (c_X5_step hT (w := w) hw) (cwV 0 hts gX5_readTerm_X5_step rfl rfl rfl hdX5_step_v ⟨Nat.le_of_ble_eq_true rfl, Nat.le_of_ble_eq_true rfl⟩) hN hE hL (rcv6 hN hT hw.1) rfl rfl hl.1 (Nat.le_of_ble_eq_true rfl) dX5_readTerm_55 (Nat.zero_le _) (Nat.zero_le _) (fun H1 locs hL hqr1712 => ?_)
          obtain ⟨hT1, hF1, hqr1712⟩ := hqr1712
          have hF := hF.tr (hF1.mono (by simp))
          have hT := hT1
          have f1713 := hqr1712
          refine lv_aload_n hx hb dX5_readTerm_58 rfl (lv_at hl 2 rfl) ?_
          refine lv_iload_n hx hb dX5_readTerm_59 rfl (lv_at hl 3 rfl) ?_
          refine cv_i (As := [.int 3]) (rest := []) (b := w) ⟨hx, hb, hml, hown, hts⟩ (c_X5_readFactor_d3 hT (w := w) hw) (cwV 1 hts gX5_readTerm_X5_readFactor rfl rfl rfl hdX5_readFactor_v ⟨Nat.le_of_ble_eq_true rfl, Nat.le_of_ble_eq_true rfl⟩) hN hE hL (rcv6 hN hT hw.1) rfl rfl hl.1 (Nat.le_of_ble_eq_true rfl) dX5_readTerm_60 (Nat.zero_le _) (Nat.zero_le _) (fun r1714 H1 locs hL hqr1714 => ?_)
          obtain ⟨hT1, hF1, hqr1714⟩ := hqr1714
          have hF := hF.tr (hF1.mono (by simp))
          have hT := hT1
          rcases hqr1714 with rfl | rfl
          · refine lv_if_ne (tgt := 68) hx hb dX5_readTerm_63 (by decide) (fun c9 => absurd (by decide) c9) (fun _ => ?_)
            refine lv_iconst (v := 0) hx hb dX5_readTerm_66 (by decide) ?_
            exact en_i hx hb hr hlocks hL rfl (Nat.zero_le _) (Nat.zero_le _) dX5_readTerm_67 (⟨hT, hF, Or.inl rfl⟩)
          · refine lv_if_ne (tgt := 68) hx hb dX5_readTerm_63 (by decide) (fun _ => ?_) (fun c9 => absurd c9 (by decide))
            refine lv_aload_n hx hb dX5_readTerm_68 rfl (lv_at hl 2 rfl) ?_
            refine lv_iload_n hx hb dX5_readTerm_69 rfl (lv_at hl 0 rfl) ?_
            refine cv_v (As := [.int (-7)]) (rest := []) (b := w) ⟨hx, hb, hml, hown, hts⟩ (c_X5_putCode hT (w := w) hw (x := (-7))) (cwV 1 hts gX5_readTerm_X5_putCode rfl rfl rfl hdX5_putCode_v ⟨Nat.le_of_ble_eq_true rfl, Nat.le_of_ble_eq_true rfl⟩) hN hE hL (rcv6 hN hT hw.1) rfl rfl hl.1 (Nat.le_of_ble_eq_true rfl) dX5_readTerm_70 (Nat.zero_le _) (Nat.zero_le _) (fun H1 locs hL hqr1715 => ?_)
            obtain ⟨hT1, hF1⟩ := hqr1715
            have hF := hF.tr (hF1.mono (by simp))
            have hT := hT1
            refine lv_iinc (v := (nI (k + 1))) (lv' := [(2, .int (nI (k + 1))), (3, .int (-7)), (0, .ref w), (1, .int 3)]) hx hb dX5_readTerm_73 hl (k := 1) rfl (nI_add _ 1) (by decide) rfl (fun ls hl => ?_)
            refine lv_goto (tgt := 12) hx hb dX5_readTerm_76 (by decide) ?_
            exact ih1694 (k + 1) _ _ _ (by show 600 - ((k + 1)) < 600 - k; omega) ⟨(by show ((k + 1)) ≤ 600; omega), hT, hF, hL⟩ (lv_sub hl [0, 2, 3] rfl)
set_option maxHeartbeats 4000000 in
set_option maxRecDepth 100000 in
theorem c_X5_readSum_d3 {l : Launch} {D : va_G} {cs : Nat → ClassId} {B0 T : Nat} {κ : KM} {H0 : Heap} (hT : WT B0 D cs T κ H0) {w : Nat} (hw : T2 κ w 6 10) : KC l yX5_readSum wsX5_readSum 11 240 0 0 D cs B0 H0 [.ref w, .int 3] (Qi (fun r H => WT B0 D cs T κ H ∧ Fr B0 [10] κ H0 H ∧ (r = 0 ∨ r = 1))) := by
  refine KC.of cX5_readSum 4 (some .boolean) (by decide) rfl (Nat.le_of_ble_eq_true rfl) ?_
  intro p e s m below meth c ls hx hb hr hml hown hts hlocks hin hN hE hH0 hl
  have hown : s.vm.findClass RX5 = some m.cls := hown
  have hl : lv_has ls 4 [(0, .ref w), (1, .int 3)] := hl
  have hL : OkL B0 [] := OkL.nil
  have hF : Fr B0 [10] κ H0 H0 := Fr.rf
  refine lv_aload_n hx hb dX5_readSum_0 rfl (lv_at hl 0 rfl) ?_
  refine lv_iload_n hx hb dX5_readSum_1 rfl (lv_at hl 1 rfl) ?_
  refine cv_i (As := [.int 3]) (rest := []) (b := w) ⟨hx, hb, hml, hown, hts⟩ (c_X5_readTerm_d3 hT (w := w) hw) (cwV 1 hts gX5_readSum_X5_readTerm rfl rfl rfl hdX5_readTerm_v ⟨Nat.le_of_ble_eq_true rfl, Nat.le_of_ble_eq_true rfl⟩) hN hE hL (rcv6 hN hT hw.1) rfl rfl hl.1 (Nat.le_of_ble_eq_true rfl) dX5_readSum_2 (Nat.zero_le _) (Nat.zero_le _) (fun r1716 H1 locs hL hqr1716 => ?_)
  obtain ⟨hT1, hF1, hqr1716⟩ := hqr1716
  have hF := hF.tr (hF1.mono (by simp))
  have hT := hT1
  rcases hqr1716 with rfl | rfl
  · refine lv_if_ne (tgt := 10) hx hb dX5_readSum_5 (by decide) (fun c9 => absurd (by decide) c9) (fun _ => ?_)
    refine lv_iconst (v := 0) hx hb dX5_readSum_8 (by decide) ?_
    exact en_i hx hb hr hlocks hL rfl (Nat.zero_le _) (Nat.zero_le _) dX5_readSum_9 (⟨hT, hF, Or.inl rfl⟩)
  · refine lv_if_ne (tgt := 10) hx hb dX5_readSum_5 (by decide) (fun _ => ?_) (fun c9 => absurd c9 (by decide))
    refine lv_iconst (v := 0) hx hb dX5_readSum_10 (by decide) ?_
    refine lv_istore_n (lv' := [(2, .int 0), (0, .ref w), (1, .int 3)]) hx hb dX5_readSum_11 rfl hl (by decide) rfl (fun ls hl => ?_)
    refine lp_m (α := Nat) (nL := 4) (fun a9 => 600 - a9) (fun a9 H9 l9 => (a9 ≤ 600) ∧ (WT B0 D cs T κ H9) ∧ (Fr B0 [10] κ H0 H9) ∧ (OkL B0 l9)) (fun a9 => [(2, .int (nI a9)), (0, .ref w), (1, .int 3)]) ?_ 0 _ _ _ ⟨(by show (0) ≤ 600; omega), hT, hF, hL⟩ (lv_sub hl [0, 1, 2] rfl)
    rintro k H locs ls ih1717 ⟨hk, hT, hF, hL⟩ hl
    have hl : lv_has ls 4 [(2, .int (nI k)), (0, .ref w), (1, .int 3)] := hl
    have hk : k ≤ 600 := hk
    refine lv_iload_n hx hb dX5_readSum_12 rfl (lv_at hl 0 rfl) ?_
    refine lv_sipush (v := 600) hx hb dX5_readSum_13 (by decide) ?_
    refine lv_icmp_ge (tgt := 79) hx hb dX5_readSum_16 (by decide) (fun c1718 => ?_) (fun c1718 => ?_)
    · have c1718 : 600 ≤ k := (nI_leI (a := 600) (b := k) (by omega) (by omega)).mp c1718
      refine lv_iconst (v := 1) hx hb dX5_readSum_79 (by decide) ?_
      exact en_i hx hb hr hlocks hL rfl (Nat.zero_le _) (Nat.zero_le _) dX5_readSum_80 (⟨hT, hF, Or.inr rfl⟩)
    · have c1718 : ¬ 600 ≤ k := fun h9 => c1718 ((nI_leI (a := 600) (b := k) (by omega) (by omega)).mpr h9)
      refine lv_aload_n hx hb dX5_readSum_19 rfl (lv_at hl 1 rfl) ?_
      refine lv_bipush (v := 43) hx hb dX5_readSum_20 (by decide) ?_
      refine cv_i (As := [.int 43]) (rest := []) (b := w) ⟨hx, hb, hml, hown, hts⟩ (c_X5_isMark hT (w := w) hw (x := 43)) (cwV 1 hts gX5_readSum_X5_isMark rfl rfl rfl hdX5_isMark_v ⟨Nat.le_of_ble_eq_true rfl, Nat.le_of_ble_eq_true rfl⟩) hN hE hL (rcv6 hN hT hw.1) rfl rfl hl.1 (Nat.le_of_ble_eq_true rfl) dX5_readSum_22 (Nat.zero_le _) (Nat.zero_le _) (fun r1719 H1 locs hL hqr1719 => ?_)
      obtain ⟨h9, hqr1719⟩ := hqr1719; replace h9 := h9.symm; subst h9
      rcases hqr1719 with rfl | rfl
      · refine lv_if_ne (tgt := 37) hx hb dX5_readSum_25 (by decide) (fun c9 => absurd (by decide) c9) (fun _ => ?_)
        refine lv_aload_n hx hb dX5_readSum_28 rfl (lv_at hl 1 rfl) ?_
        refine lv_bipush (v := 45) hx hb dX5_readSum_29 (by decide) ?_
        refine cv_i (As := [.int 45]) (rest := []) (b := w) ⟨hx, hb, hml, hown, hts⟩ (c_X5_isMark hT (w := w) hw (x := 45)) (cwV 1 hts gX5_readSum_X5_isMark rfl rfl rfl hdX5_isMark_v ⟨Nat.le_of_ble_eq_true rfl, Nat.le_of_ble_eq_true rfl⟩) hN hE hL (rcv6 hN hT hw.1) rfl rfl hl.1 (Nat.le_of_ble_eq_true rfl) dX5_readSum_31 (Nat.zero_le _) (Nat.zero_le _) (fun r1720 H1 locs hL hqr1720 => ?_)
        obtain ⟨h9, hqr1720⟩ := hqr1720; replace h9 := h9.symm; subst h9
        rcases hqr1720 with rfl | rfl
        · refine lv_if_eq (tgt := 79) hx hb dX5_readSum_34 (by decide) (fun _ => ?_) (fun c9 => absurd (by decide) c9)
          refine lv_iconst (v := 1) hx hb dX5_readSum_79 (by decide) ?_
          exact en_i hx hb hr hlocks hL rfl (Nat.zero_le _) (Nat.zero_le _) dX5_readSum_80 (⟨hT, hF, Or.inr rfl⟩)
        · refine lv_if_eq (tgt := 79) hx hb dX5_readSum_34 (by decide) (fun c9 => absurd c9 (by decide)) (fun _ => ?_)
          refine lv_aload_n hx hb dX5_readSum_37 rfl (lv_at hl 1 rfl) ?_
          refine lv_bipush (v := 43) hx hb dX5_readSum_38 (by decide) ?_
          refine cv_i (As := [.int 43]) (rest := []) (b := w) ⟨hx, hb, hml, hown, hts⟩ (c_X5_isMark hT (w := w) hw (x := 43)) (cwV 1 hts gX5_readSum_X5_isMark rfl rfl rfl hdX5_isMark_v ⟨Nat.le_of_ble_eq_true rfl, Nat.le_of_ble_eq_true rfl⟩) hN hE hL (rcv6 hN hT hw.1) rfl rfl hl.1 (Nat.le_of_ble_eq_true rfl) dX5_readSum_40 (Nat.zero_le _) (Nat.zero_le _) (fun r1721 H1 locs hL hqr1721 => ?_)
          obtain ⟨h9, hqr1721⟩ := hqr1721; replace h9 := h9.symm; subst h9
          rcases hqr1721 with rfl | rfl
          · refine lv_if_eq (tgt := 51) hx hb dX5_readSum_43 (by decide) (fun _ => ?_) (fun c9 => absurd (by decide) c9)
            refine lv_bipush (v := (-6)) hx hb dX5_readSum_51 (by decide) ?_
            refine lv_istore_n (lv' := [(3, .int (-6)), (2, .int (nI k)), (0, .ref w), (1, .int 3)]) hx hb dX5_readSum_53 rfl hl (by decide) rfl (fun ls hl => ?_)
            refine lv_aload_n hx hb dX5_readSum_54 rfl (lv_at hl 2 rfl) ?_
            refine cv_v (As := []) (rest := []) (b := w) ⟨hx, hb, hml, hown, hts⟩ (c_X5_step hT (w := w) hw) (cwV 0 hts gX5_readSum_X5_step rfl rfl rfl hdX5_step_v ⟨Nat.le_of_ble_eq_true rfl, Nat.le_of_ble_eq_true rfl⟩) hN hE hL (rcv6 hN hT hw.1) rfl rfl hl.1 (Nat.le_of_ble_eq_true rfl) dX5_readSum_55 (Nat.zero_le _) (Nat.zero_le _) (fun H1 locs hL hqr1722 => ?_)
            obtain ⟨hT1, hF1, hqr1722⟩ := hqr1722
            have hF := hF.tr (hF1.mono (by simp))
            have hT := hT1
            have f1723 := hqr1722
            refine lv_aload_n hx hb dX5_readSum_58 rfl (lv_at hl 2 rfl) ?_
            refine lv_iload_n hx hb dX5_readSum_59 rfl (lv_at hl 3 rfl) ?_
            refine cv_i (As := [.int 3]) (rest := []) (b := w) ⟨hx, hb, hml, hown, hts⟩ (c_X5_readTerm_d3 hT (w := w) hw) (cwV 1 hts gX5_readSum_X5_readTerm rfl rfl rfl hdX5_readTerm_v ⟨Nat.le_of_ble_eq_true rfl, Nat.le_of_ble_eq_true rfl⟩) hN hE hL (rcv6 hN hT hw.1) rfl rfl hl.1 (Nat.le_of_ble_eq_true rfl) dX5_readSum_60 (Nat.zero_le _) (Nat.zero_le _) (fun r1724 H1 locs hL hqr1724 => ?_)
            obtain ⟨hT1, hF1, hqr1724⟩ := hqr1724
            have hF := hF.tr (hF1.mono (by simp))
            have hT := hT1
            rcases hqr1724 with rfl | rfl
            · refine lv_if_ne (tgt := 68) hx hb dX5_readSum_63 (by decide) (fun c9 => absurd (by decide) c9) (fun _ => ?_)
              refine lv_iconst (v := 0) hx hb dX5_readSum_66 (by decide) ?_
              exact en_i hx hb hr hlocks hL rfl (Nat.zero_le _) (Nat.zero_le _) dX5_readSum_67 (⟨hT, hF, Or.inl rfl⟩)
            · refine lv_if_ne (tgt := 68) hx hb dX5_readSum_63 (by decide) (fun _ => ?_) (fun c9 => absurd c9 (by decide))
              refine lv_aload_n hx hb dX5_readSum_68 rfl (lv_at hl 2 rfl) ?_
              refine lv_iload_n hx hb dX5_readSum_69 rfl (lv_at hl 0 rfl) ?_
              refine cv_v (As := [.int (-6)]) (rest := []) (b := w) ⟨hx, hb, hml, hown, hts⟩ (c_X5_putCode hT (w := w) hw (x := (-6))) (cwV 1 hts gX5_readSum_X5_putCode rfl rfl rfl hdX5_putCode_v ⟨Nat.le_of_ble_eq_true rfl, Nat.le_of_ble_eq_true rfl⟩) hN hE hL (rcv6 hN hT hw.1) rfl rfl hl.1 (Nat.le_of_ble_eq_true rfl) dX5_readSum_70 (Nat.zero_le _) (Nat.zero_le _) (fun H1 locs hL hqr1725 => ?_)
              obtain ⟨hT1, hF1⟩ := hqr1725
              have hF := hF.tr (hF1.mono (by simp))
              have hT := hT1
              refine lv_iinc (v := (nI (k + 1))) (lv' := [(2, .int (nI (k + 1))), (3, .int (-6)), (0, .ref w), (1, .int 3)]) hx hb dX5_readSum_73 hl (k := 1) rfl (nI_add _ 1) (by decide) rfl (fun ls hl => ?_)
              refine lv_goto (tgt := 12) hx hb dX5_readSum_76 (by decide) ?_
              exact ih1717 (k + 1) _ _ _ (by show 600 - ((k + 1)) < 600 - k; omega) ⟨(by show ((k + 1)) ≤ 600; omega), hT, hF, hL⟩ (lv_sub hl [0, 2, 3] rfl)
          · refine lv_if_eq (tgt := 51) hx hb dX5_readSum_43 (by decide) (fun c9 => absurd c9 (by decide)) (fun _ => ?_)
            refine lv_bipush (v := (-5)) hx hb dX5_readSum_46 (by decide) ?_
            refine lv_goto (tgt := 53) hx hb dX5_readSum_48 (by decide) ?_
            refine lv_istore_n (lv' := [(3, .int (-5)), (2, .int (nI k)), (0, .ref w), (1, .int 3)]) hx hb dX5_readSum_53 rfl hl (by decide) rfl (fun ls hl => ?_)
            refine lv_aload_n hx hb dX5_readSum_54 rfl (lv_at hl 2 rfl) ?_
            refine cv_v (As := []) (rest := []) (b := w) ⟨hx, hb, hml, hown, hts⟩ (c_X5_step hT (w := w) hw) (cwV 0 hts gX5_readSum_X5_step rfl rfl rfl hdX5_step_v ⟨Nat.le_of_ble_eq_true rfl, Nat.le_of_ble_eq_true rfl⟩) hN hE hL (rcv6 hN hT hw.1) rfl rfl hl.1 (Nat.le_of_ble_eq_true rfl) dX5_readSum_55 (Nat.zero_le _) (Nat.zero_le _) (fun H1 locs hL hqr1726 => ?_)
            obtain ⟨hT1, hF1, hqr1726⟩ := hqr1726
            have hF := hF.tr (hF1.mono (by simp))
            have hT := hT1
            have f1727 := hqr1726
            refine lv_aload_n hx hb dX5_readSum_58 rfl (lv_at hl 2 rfl) ?_
            refine lv_iload_n hx hb dX5_readSum_59 rfl (lv_at hl 3 rfl) ?_
            refine cv_i (As := [.int 3]) (rest := []) (b := w) ⟨hx, hb, hml, hown, hts⟩ (c_X5_readTerm_d3 hT (w := w) hw) (cwV 1 hts gX5_readSum_X5_readTerm rfl rfl rfl hdX5_readTerm_v ⟨Nat.le_of_ble_eq_true rfl, Nat.le_of_ble_eq_true rfl⟩) hN hE hL (rcv6 hN hT hw.1) rfl rfl hl.1 (Nat.le_of_ble_eq_true rfl) dX5_readSum_60 (Nat.zero_le _) (Nat.zero_le _) (fun r1728 H1 locs hL hqr1728 => ?_)
            obtain ⟨hT1, hF1, hqr1728⟩ := hqr1728
            have hF := hF.tr (hF1.mono (by simp))
            have hT := hT1
            rcases hqr1728 with rfl | rfl
            · refine lv_if_ne (tgt := 68) hx hb dX5_readSum_63 (by decide) (fun c9 => absurd (by decide) c9) (fun _ => ?_)
              refine lv_iconst (v := 0) hx hb dX5_readSum_66 (by decide) ?_
              exact en_i hx hb hr hlocks hL rfl (Nat.zero_le _) (Nat.zero_le _) dX5_readSum_67 (⟨hT, hF, Or.inl rfl⟩)
            · refine lv_if_ne (tgt := 68) hx hb dX5_readSum_63 (by decide) (fun _ => ?_) (fun c9 => absurd c9 (by decide))
              refine lv_aload_n hx hb dX5_readSum_68 rfl (lv_at hl 2 rfl) ?_
              refine lv_iload_n hx hb dX5_readSum_69 rfl (lv_at hl 0 rfl) ?_
              refine cv_v (As := [.int (-5)]) (rest := []) (b := w) ⟨hx, hb, hml, hown, hts⟩ (c_X5_putCode hT (w := w) hw (x := (-5))) (cwV 1 hts gX5_readSum_X5_putCode rfl rfl rfl hdX5_putCode_v ⟨Nat.le_of_ble_eq_true rfl, Nat.le_of_ble_eq_true rfl⟩) hN hE hL (rcv6 hN hT hw.1) rfl rfl hl.1 (Nat.le_of_ble_eq_true rfl) dX5_readSum_70 (Nat.zero_le _) (Nat.zero_le _) (fun H1 locs hL hqr1729 => ?_)
              obtain ⟨hT1, hF1⟩ := hqr1729
              have hF := hF.tr (hF1.mono (by simp))
              have hT := hT1
              refine lv_iinc (v := (nI (k + 1))) (lv' := [(2, .int (nI (k + 1))), (3, .int (-5)), (0, .ref w), (1, .int 3)]) hx hb dX5_readSum_73 hl (k := 1) rfl (nI_add _ 1) (by decide) rfl (fun ls hl => ?_)
              refine lv_goto (tgt := 12) hx hb dX5_readSum_76 (by decide) ?_
              exact ih1717 (k + 1) _ _ _ (by show 600 - ((k + 1)) < 600 - k; omega) ⟨(by show ((k + 1)) ≤ 600; omega), hT, hF, hL⟩ (lv_sub hl [0, 2, 3] rfl)
      · refine lv_if_ne (tgt := 37) hx hb dX5_readSum_25 (by decide) (fun _ => ?_) (fun c9 => absurd c9 (by decide))
        refine lv_aload_n hx hb dX5_readSum_37 rfl (lv_at hl 1 rfl) ?_
        refine lv_bipush (v := 43) hx hb dX5_readSum_38 (by decide) ?_
        refine cv_i (As := [.int 43]) (rest := []) (b := w) ⟨hx, hb, hml, hown, hts⟩ (c_X5_isMark hT (w := w) hw (x := 43)) (cwV 1 hts gX5_readSum_X5_isMark rfl rfl rfl hdX5_isMark_v ⟨Nat.le_of_ble_eq_true rfl, Nat.le_of_ble_eq_true rfl⟩) hN hE hL (rcv6 hN hT hw.1) rfl rfl hl.1 (Nat.le_of_ble_eq_true rfl) dX5_readSum_40 (Nat.zero_le _) (Nat.zero_le _) (fun r1730 H1 locs hL hqr1730 => ?_)
        obtain ⟨h9, hqr1730⟩ := hqr1730; replace h9 := h9.symm; subst h9
        rcases hqr1730 with rfl | rfl
        · refine lv_if_eq (tgt := 51) hx hb dX5_readSum_43 (by decide) (fun _ => ?_) (fun c9 => absurd (by decide) c9)
          refine lv_bipush (v := (-6)) hx hb dX5_readSum_51 (by decide) ?_
          refine lv_istore_n (lv' := [(3, .int (-6)), (2, .int (nI k)), (0, .ref w), (1, .int 3)]) hx hb dX5_readSum_53 rfl hl (by decide) rfl (fun ls hl => ?_)
          refine lv_aload_n hx hb dX5_readSum_54 rfl (lv_at hl 2 rfl) ?_
          refine cv_v (As := []) (rest := []) (b := w) ⟨hx, hb, hml, hown, hts⟩ (c_X5_step hT (w := w) hw) (cwV 0 hts gX5_readSum_X5_step rfl rfl rfl hdX5_step_v ⟨Nat.le_of_ble_eq_true rfl, Nat.le_of_ble_eq_true rfl⟩) hN hE hL (rcv6 hN hT hw.1) rfl rfl hl.1 (Nat.le_of_ble_eq_true rfl) dX5_readSum_55 (Nat.zero_le _) (Nat.zero_le _) (fun H1 locs hL hqr1731 => ?_)
          obtain ⟨hT1, hF1, hqr1731⟩ := hqr1731
          have hF := hF.tr (hF1.mono (by simp))
          have hT := hT1
          have f1732 := hqr1731
          refine lv_aload_n hx hb dX5_readSum_58 rfl (lv_at hl 2 rfl) ?_
          refine lv_iload_n hx hb dX5_readSum_59 rfl (lv_at hl 3 rfl) ?_
          refine cv_i (As := [.int 3]) (rest := []) (b := w) ⟨hx, hb, hml, hown, hts⟩ (c_X5_readTerm_d3 hT (w := w) hw) (cwV 1 hts gX5_readSum_X5_readTerm rfl rfl rfl hdX5_readTerm_v ⟨Nat.le_of_ble_eq_true rfl, Nat.le_of_ble_eq_true rfl⟩) hN hE hL (rcv6 hN hT hw.1) rfl rfl hl.1 (Nat.le_of_ble_eq_true rfl) dX5_readSum_60 (Nat.zero_le _) (Nat.zero_le _) (fun r1733 H1 locs hL hqr1733 => ?_)
          obtain ⟨hT1, hF1, hqr1733⟩ := hqr1733
          have hF := hF.tr (hF1.mono (by simp))
          have hT := hT1
          rcases hqr1733 with rfl | rfl
          · refine lv_if_ne (tgt := 68) hx hb dX5_readSum_63 (by decide) (fun c9 => absurd (by decide) c9) (fun _ => ?_)
            refine lv_iconst (v := 0) hx hb dX5_readSum_66 (by decide) ?_
            exact en_i hx hb hr hlocks hL rfl (Nat.zero_le _) (Nat.zero_le _) dX5_readSum_67 (⟨hT, hF, Or.inl rfl⟩)
          · refine lv_if_ne (tgt := 68) hx hb dX5_readSum_63 (by decide) (fun _ => ?_) (fun c9 => absurd c9 (by decide))
            refine lv_aload_n hx hb dX5_readSum_68 rfl (lv_at hl 2 rfl) ?_
            refine lv_iload_n hx hb dX5_readSum_69 rfl (lv_at hl 0 rfl) ?_
            refine cv_v (As := [.int (-6)]) (rest := []) (b := w) ⟨hx, hb, hml, hown, hts⟩ (c_X5_putCode hT (w := w) hw (x := (-6))) (cwV 1 hts gX5_readSum_X5_putCode rfl rfl rfl hdX5_putCode_v ⟨Nat.le_of_ble_eq_true rfl, Nat.le_of_ble_eq_true rfl⟩) hN hE hL (rcv6 hN hT hw.1) rfl rfl hl.1 (Nat.le_of_ble_eq_true rfl) dX5_readSum_70 (Nat.zero_le _) (Nat.zero_le _) (fun H1 locs hL hqr1734 => ?_)
            obtain ⟨hT1, hF1⟩ := hqr1734
            have hF := hF.tr (hF1.mono (by simp))
            have hT := hT1
            refine lv_iinc (v := (nI (k + 1))) (lv' := [(2, .int (nI (k + 1))), (3, .int (-6)), (0, .ref w), (1, .int 3)]) hx hb dX5_readSum_73 hl (k := 1) rfl (nI_add _ 1) (by decide) rfl (fun ls hl => ?_)
            refine lv_goto (tgt := 12) hx hb dX5_readSum_76 (by decide) ?_
            exact ih1717 (k + 1) _ _ _ (by show 600 - ((k + 1)) < 600 - k; omega) ⟨(by show ((k + 1)) ≤ 600; omega), hT, hF, hL⟩ (lv_sub hl [0, 2, 3] rfl)
        · refine lv_if_eq (tgt := 51) hx hb dX5_readSum_43 (by decide) (fun c9 => absurd c9 (by decide)) (fun _ => ?_)
          refine lv_bipush (v := (-5)) hx hb dX5_readSum_46 (by decide) ?_
          refine lv_goto (tgt := 53) hx hb dX5_readSum_48 (by decide) ?_
          refine lv_istore_n (lv' := [(3, .int (-5)), (2, .int (nI k)), (0, .ref w), (1, .int 3)]) hx hb dX5_readSum_53 rfl hl (by decide) rfl (fun ls hl => ?_)
          refine lv_aload_n hx hb dX5_readSum_54 rfl (lv_at hl 2 rfl) ?_
          refine cv_v (As := []) (rest := []) (b := w) ⟨hx, hb, hml, hown, hts⟩ (c_X5_step hT (w := w) hw) (cwV 0 hts gX5_readSum_X5_step rfl rfl rfl hdX5_step_v ⟨Nat.le_of_ble_eq_true rfl, Nat.le_of_ble_eq_true rfl⟩) hN hE hL (rcv6 hN hT hw.1) rfl rfl hl.1 (Nat.le_of_ble_eq_true rfl) dX5_readSum_55 (Nat.zero_le _) (Nat.zero_le _) (fun H1 locs hL hqr1735 => ?_)
          obtain ⟨hT1, hF1, hqr1735⟩ := hqr1735
          have hF := hF.tr (hF1.mono (by simp))
          have hT := hT1
          have f1736 := hqr1735
          refine lv_aload_n hx hb dX5_readSum_58 rfl (lv_at hl 2 rfl) ?_
          refine lv_iload_n hx hb dX5_readSum_59 rfl (lv_at hl 3 rfl) ?_
          refine cv_i (As := [.int 3]) (rest := []) (b := w) ⟨hx, hb, hml, hown, hts⟩ (c_X5_readTerm_d3 hT (w := w) hw) (cwV 1 hts gX5_readSum_X5_readTerm rfl rfl rfl hdX5_readTerm_v ⟨Nat.le_of_ble_eq_true rfl, Nat.le_of_ble_eq_true rfl⟩) hN hE hL (rcv6 hN hT hw.1) rfl rfl hl.1 (Nat.le_of_ble_eq_true rfl) dX5_readSum_60 (Nat.zero_le _) (Nat.zero_le _) (fun r1737 H1 locs hL hqr1737 => ?_)
          obtain ⟨hT1, hF1, hqr1737⟩ := hqr1737
          have hF := hF.tr (hF1.mono (by simp))
          have hT := hT1
          rcases hqr1737 with rfl | rfl
          · refine lv_if_ne (tgt := 68) hx hb dX5_readSum_63 (by decide) (fun c9 => absurd (by decide) c9) (fun _ => ?_)
            refine lv_iconst (v := 0) hx hb dX5_readSum_66 (by decide) ?_
            exact en_i hx hb hr hlocks hL rfl (Nat.zero_le _) (Nat.zero_le _) dX5_readSum_67 (⟨hT, hF, Or.inl rfl⟩)
          · refine lv_if_ne (tgt := 68) hx hb dX5_readSum_63 (by decide) (fun _ => ?_) (fun c9 => absurd c9 (by decide))
            refine lv_aload_n hx hb dX5_readSum_68 rfl (lv_at hl 2 rfl) ?_
            refine lv_iload_n hx hb dX5_readSum_69 rfl (lv_at hl 0 rfl) ?_
            refine cv_v (As := [.int (-5)]) (rest := []) (b := w) ⟨hx, hb, hml, hown, hts⟩ (c_X5_putCode hT (w := w) hw (x := (-5))) (cwV 1 hts gX5_readSum_X5_putCode rfl rfl rfl hdX5_putCode_v ⟨Nat.le_of_ble_eq_true rfl, Nat.le_of_ble_eq_true rfl⟩) hN hE hL (rcv6 hN hT hw.1) rfl rfl hl.1 (Nat.le_of_ble_eq_true rfl) dX5_readSum_70 (Nat.zero_le _) (Nat.zero_le _) (fun H1 locs hL hqr1738 => ?_)
            obtain ⟨hT1, hF1⟩ := hqr1738
            have hF := hF.tr (hF1.mono (by simp))
            have hT := hT1
            refine lv_iinc (v := (nI (k + 1))) (lv' := [(2, .int (nI (k + 1))), (3, .int (-5)), (0, .ref w), (1, .int 3)]) hx hb dX5_readSum_73 hl (k := 1) rfl (nI_add _ 1) (by decide) rfl (fun ls hl => ?_)
            refine lv_goto (tgt := 12) hx hb dX5_readSum_76 (by decide) ?_
            exact ih1717 (k + 1) _ _ _ (by show 600 - ((k + 1)) < 600 - k; omega) ⟨(by show ((k + 1)) ≤ 600; omega), hT, hF, hL⟩ (lv_sub hl [0, 2, 3] rfl)
set_option maxHeartbeats 4000000 in
set_option maxRecDepth 100000 in
theorem c_X5_readFactor_d2 {l : Launch} {D : va_G} {cs : Nat → ClassId} {B0 T : Nat} {κ : KM} {H0 : Heap} (hT : WT B0 D cs T κ H0) {w : Nat} (hw : T2 κ w 6 10) : KC l yX5_readFactor wsX5_readFactor 12 263 0 0 D cs B0 H0 [.ref w, .int 2] (Qi (fun r H => WT B0 D cs T κ H ∧ Fr B0 [10] κ H0 H ∧ (r = 0 ∨ r = 1))) := by
  refine KC.of cX5_readFactor 3 (some .boolean) (by decide) rfl (Nat.le_of_ble_eq_true rfl) ?_
  intro p e s m below meth c ls hx hb hr hml hown hts hlocks hin hN hE hH0 hl
  have hown : s.vm.findClass RX5 = some m.cls := hown
  have hl : lv_has ls 3 [(0, .ref w), (1, .int 2)] := hl
  have hL : OkL B0 [] := OkL.nil
  have hF : Fr B0 [10] κ H0 H0 := Fr.rf
  refine lv_aload_n hx hb dX5_readFactor_0 rfl (lv_at hl 0 rfl) ?_
  obtain ⟨hb1739, e1739, hat1739, hk1739⟩ := hT.o6 hw.1
  obtain ⟨f1739_0, f1739_2, f1739_3, f1739_4, f1739_5, f1739_6, f1739_7, f1739_8, f1739_9, f1739_10, f1739_11, f1739_12, f1739_13, rfl, c1739_1, c1739_2, c1739_3, c1739_5, c1739_10, t1739_0, t1739_9, c1739_11, c1739_p2⟩ := hk1739
  have hP : va_P D vwCl [(w, .inr (5, [.ref f1739_0, .int (nI ((κ w).2.2.1)), .int (nI f1739_2), .int (nI f1739_3), .int f1739_4, .int (nI f1739_5), .int f1739_6, .int f1739_7, .int f1739_8, .ref f1739_9, .int (nI f1739_10), f1739_11, .int f1739_12, .int f1739_13]))] _ := va_P.cons hat1739 va_P.nil
  refine va_get (D := D) (ci := 5) (v := .int f1739_4) (C := RX5) (T := TX5) (N := 14) hx hb hts iX5_readFactor_5 hown hN.1 hP 0 rfl rfl 4 (by decide) (hts _ mX5_readFactor_1) (fun _ h9 => h9) rfl dX5_readFactor_1 ?_
  refine lv_iconst (v := 1) hx hb dX5_readFactor_4 (by decide) ?_
  refine lv_icmp_ne (tgt := 31) hx hb dX5_readFactor_5 (by decide) (fun c1740 => ?_) (fun c1740 => ?_)
  · refine lv_aload_n hx hb dX5_readFactor_31 rfl (lv_at hl 0 rfl) ?_
    refine lv_bipush (v := 40) hx hb dX5_readFactor_32 (by decide) ?_
    refine cv_i (As := [.int 40]) (rest := []) (b := w) ⟨hx, hb, hml, hown, hts⟩ (c_X5_isMark hT (w := w) hw (x := 40)) (cwV 1 hts gX5_readFactor_X5_isMark rfl rfl rfl hdX5_isMark_v ⟨Nat.le_of_ble_eq_true rfl, Nat.le_of_ble_eq_true rfl⟩) hN hE hL (rcv6 hN hT hw.1) rfl rfl hl.1 (Nat.le_of_ble_eq_true rfl) dX5_readFactor_34 (Nat.zero_le _) (Nat.zero_le _) (fun r1741 H1 locs hL hqr1741 => ?_)
    obtain ⟨h9, hqr1741⟩ := hqr1741; replace h9 := h9.symm; subst h9
    rcases hqr1741 with rfl | rfl
    · refine lv_if_eq (tgt := 85) hx hb dX5_readFactor_37 (by decide) (fun _ => ?_) (fun c9 => absurd (by decide) c9)
      refine lv_aload_n hx hb dX5_readFactor_85 rfl (lv_at hl 0 rfl) ?_
      refine cv_i (As := []) (rest := []) (b := w) ⟨hx, hb, hml, hown, hts⟩ (c_X5_codeOfWord hT (w := w) hw) (cwV 0 hts gX5_readFactor_X5_codeOfWord rfl rfl rfl hdX5_codeOfWord_v ⟨Nat.le_of_ble_eq_true rfl, Nat.le_of_ble_eq_true rfl⟩) hN hE hL (rcv6 hN hT hw.1) rfl rfl hl.1 (Nat.le_of_ble_eq_true rfl) dX5_readFactor_86 (Nat.zero_le _) (Nat.zero_le _) (fun r1742 H1 locs hL hqr1742 => ?_)
      obtain rfl := hqr1742.symm
      refine lv_istore_n (lv' := [(2, .int r1742), (0, .ref w), (1, .int 2)]) hx hb dX5_readFactor_89 rfl hl (by decide) rfl (fun ls hl => ?_)
      refine lv_iload_n hx hb dX5_readFactor_90 rfl (lv_at hl 0 rfl) ?_
      refine lv_if_ne (tgt := 105) hx hb dX5_readFactor_91 (by decide) (fun c1743 => ?_) (fun c1743 => ?_)
      · refine lv_aload_n hx hb dX5_readFactor_105 rfl (lv_at hl 1 rfl) ?_
        refine lv_iload_n hx hb dX5_readFactor_106 rfl (lv_at hl 0 rfl) ?_
        refine cv_v (As := [.int r1742]) (rest := []) (b := w) ⟨hx, hb, hml, hown, hts⟩ (c_X5_putCode hT (w := w) hw (x := r1742)) (cwV 1 hts gX5_readFactor_X5_putCode rfl rfl rfl hdX5_putCode_v ⟨Nat.le_of_ble_eq_true rfl, Nat.le_of_ble_eq_true rfl⟩) hN hE hL (rcv6 hN hT hw.1) rfl rfl hl.1 (Nat.le_of_ble_eq_true rfl) dX5_readFactor_107 (Nat.zero_le _) (Nat.zero_le _) (fun H1 locs hL hqr1744 => ?_)
        obtain ⟨hT1, hF1⟩ := hqr1744
        have hF := hF.tr (hF1.mono (by simp))
        have hT := hT1
        refine lv_aload_n hx hb dX5_readFactor_110 rfl (lv_at hl 1 rfl) ?_
        refine cv_v (As := []) (rest := []) (b := w) ⟨hx, hb, hml, hown, hts⟩ (c_X5_step hT (w := w) hw) (cwV 0 hts gX5_readFactor_X5_step rfl rfl rfl hdX5_step_v ⟨Nat.le_of_ble_eq_true rfl, Nat.le_of_ble_eq_true rfl⟩) hN hE hL (rcv6 hN hT hw.1) rfl rfl hl.1 (Nat.le_of_ble_eq_true rfl) dX5_readFactor_111 (Nat.zero_le _) (Nat.zero_le _) (fun H1 locs hL hqr1745 => ?_)
        obtain ⟨hT1, hF1, hqr1745⟩ := hqr1745
        have hF := hF.tr (hF1.mono (by simp))
        have hT := hT1
        have f1746 := hqr1745
        refine lv_iconst (v := 1) hx hb dX5_readFactor_114 (by decide) ?_
        exact en_i hx hb hr hlocks hL rfl (Nat.zero_le _) (Nat.zero_le _) dX5_readFactor_115 (⟨hT, hF, Or.inr rfl⟩)
      · refine lv_aload_n hx hb dX5_readFactor_94 rfl (lv_at hl 1 rfl) ?_
        refine lv_bipush (v := (-2)) hx hb dX5_readFactor_95 (by decide) ?_
        refine lv_aload_n hx hb dX5_readFactor_97 rfl (lv_at hl 1 rfl) ?_
        refine va_get (D := D) (ci := 5) (v := .int (nI f1739_5)) (C := RX5) (T := TX5) (N := 14) hx hb hts iX5_readFactor_5 hown hN.1 hP 0 rfl rfl 5 (by decide) (hts _ mX5_readFactor_3) (fun _ h9 => h9) rfl dX5_readFactor_98 ?_
        refine cv_i (As := [.int (-2), .int (nI f1739_5)]) (rest := []) (b := w) ⟨hx, hb, hml, hown, hts⟩ (c_X5_fail hT (w := w) hw (x := (-2)) (y := (nI f1739_5))) (cwV 2 hts gX5_readFactor_X5_fail rfl rfl rfl hdX5_fail_v ⟨Nat.le_of_ble_eq_true rfl, Nat.le_of_ble_eq_true rfl⟩) hN hE hL (rcv6 hN hT hw.1) rfl rfl hl.1 (Nat.le_of_ble_eq_true rfl) dX5_readFactor_101 (Nat.zero_le _) (Nat.zero_le _) (fun r1747 H1 locs hL hqr1747 => ?_)
        obtain ⟨hT1, hF1, hqr1747⟩ := hqr1747
        have hF := hF.tr (hF1.mono (by simp))
        have hT := hT1
        obtain rfl := hqr1747
        exact en_i hx hb hr hlocks hL rfl (Nat.zero_le _) (Nat.zero_le _) dX5_readFactor_104 (⟨hT, hF, Or.inl rfl⟩)
    · refine lv_if_eq (tgt := 85) hx hb dX5_readFactor_37 (by decide) (fun c9 => absurd c9 (by decide)) (fun _ => ?_)
      refine lv_iload_n hx hb dX5_readFactor_40 rfl (lv_at hl 1 rfl) ?_
      refine lv_iconst (v := 4) hx hb dX5_readFactor_41 (by decide) ?_
      refine lv_icmp_lt (tgt := 56) hx hb dX5_readFactor_42 (by decide) (fun _ => ?_) (fun c9 => absurd (by decide) c9)
      refine lv_aload_n hx hb dX5_readFactor_56 rfl (lv_at hl 0 rfl) ?_
      refine cv_v (As := []) (rest := []) (b := w) ⟨hx, hb, hml, hown, hts⟩ (c_X5_step hT (w := w) hw) (cwV 0 hts gX5_readFactor_X5_step rfl rfl rfl hdX5_step_v ⟨Nat.le_of_ble_eq_true rfl, Nat.le_of_ble_eq_true rfl⟩) hN hE hL (rcv6 hN hT hw.1) rfl rfl hl.1 (Nat.le_of_ble_eq_true rfl) dX5_readFactor_57 (Nat.zero_le _) (Nat.zero_le _) (fun H1 locs hL hqr1748 => ?_)
      obtain ⟨hT1, hF1, hqr1748⟩ := hqr1748
      have hF := hF.tr (hF1.mono (by simp))
      have hT := hT1
      have f1749 := hqr1748
      refine lv_aload_n hx hb dX5_readFactor_60 rfl (lv_at hl 0 rfl) ?_
      refine lv_iload_n hx hb dX5_readFactor_61 rfl (lv_at hl 1 rfl) ?_
      refine lv_iconst (v := 1) hx hb dX5_readFactor_62 (by decide) ?_
      refine lv_iadd hx hb dX5_readFactor_63 ?_
      refine tp_i 3 (by decide) ?_
      refine cv_i (As := [.int 3]) (rest := []) (b := w) ⟨hx, hb, hml, hown, hts⟩ (c_X5_readSum_d3 hT (w := w) hw) (cwV 1 hts gX5_readFactor_X5_readSum rfl rfl rfl hdX5_readSum_v ⟨Nat.le_of_ble_eq_true rfl, Nat.le_of_ble_eq_true rfl⟩) hN hE hL (rcv6 hN hT hw.1) rfl rfl hl.1 (Nat.le_of_ble_eq_true rfl) dX5_readFactor_64 (Nat.zero_le _) (Nat.zero_le _) (fun r1750 H1 locs hL hqr1750 => ?_)
      obtain ⟨hT1, hF1, hqr1750⟩ := hqr1750
      have hF := hF.tr (hF1.mono (by simp))
      have hT := hT1
      rcases hqr1750 with rfl | rfl
      · refine lv_if_eq (tgt := 83) hx hb dX5_readFactor_67 (by decide) (fun _ => ?_) (fun c9 => absurd (by decide) c9)
        refine lv_iconst (v := 0) hx hb dX5_readFactor_83 (by decide) ?_
        exact en_i hx hb hr hlocks hL rfl (Nat.zero_le _) (Nat.zero_le _) dX5_readFactor_84 (⟨hT, hF, Or.inl rfl⟩)
      · refine lv_if_eq (tgt := 83) hx hb dX5_readFactor_67 (by decide) (fun c9 => absurd c9 (by decide)) (fun _ => ?_)
        refine lv_aload_n hx hb dX5_readFactor_70 rfl (lv_at hl 0 rfl) ?_
        refine lv_bipush (v := 41) hx hb dX5_readFactor_71 (by decide) ?_
        refine cv_i (As := [.int 41]) (rest := []) (b := w) ⟨hx, hb, hml, hown, hts⟩ (c_X5_takeMark hT (w := w) hw (x := 41)) (cwV 1 hts gX5_readFactor_X5_takeMark rfl rfl rfl hdX5_takeMark_v ⟨Nat.le_of_ble_eq_true rfl, Nat.le_of_ble_eq_true rfl⟩) hN hE hL (rcv6 hN hT hw.1) rfl rfl hl.1 (Nat.le_of_ble_eq_true rfl) dX5_readFactor_73 (Nat.zero_le _) (Nat.zero_le _) (fun r1751 H1 locs hL hqr1751 => ?_)
        obtain ⟨hT1, hF1, hqr1751⟩ := hqr1751
        have hF := hF.tr (hF1.mono (by simp))
        have hT := hT1
        rcases hqr1751 with rfl | rfl
        · refine lv_if_eq (tgt := 83) hx hb dX5_readFactor_76 (by decide) (fun _ => ?_) (fun c9 => absurd (by decide) c9)
          refine lv_iconst (v := 0) hx hb dX5_readFactor_83 (by decide) ?_
          exact en_i hx hb hr hlocks hL rfl (Nat.zero_le _) (Nat.zero_le _) dX5_readFactor_84 (⟨hT, hF, Or.inl rfl⟩)
        · refine lv_if_eq (tgt := 83) hx hb dX5_readFactor_76 (by decide) (fun c9 => absurd c9 (by decide)) (fun _ => ?_)
          refine lv_iconst (v := 1) hx hb dX5_readFactor_79 (by decide) ?_
          refine lv_goto (tgt := 84) hx hb dX5_readFactor_80 (by decide) ?_
          exact en_i hx hb hr hlocks hL rfl (Nat.zero_le _) (Nat.zero_le _) dX5_readFactor_84 (⟨hT, hF, Or.inr rfl⟩)
  · refine lv_aload_n hx hb dX5_readFactor_8 rfl (lv_at hl 0 rfl) ?_
    refine lv_iconst (v := 0) hx hb dX5_readFactor_9 (by decide) ?_
    refine lv_sipush (v := 9999) hx hb dX5_readFactor_10 (by decide) ?_
    refine cv_i (As := [.int 0, .int 9999]) (rest := []) (b := w) ⟨hx, hb, hml, hown, hts⟩ (c_X5_takeNumber hT (w := w) hw (x := 0) (y := 9999)) (cwV 2 hts gX5_readFactor_X5_takeNumber rfl rfl rfl hdX5_takeNumber_v ⟨Nat.le_of_ble_eq_true rfl, Nat.le_of_ble_eq_true rfl⟩) hN hE hL (rcv6 hN hT hw.1) rfl rfl hl.1 (Nat.le_of_ble_eq_true rfl) dX5_readFactor_13 (Nat.zero_le _) (Nat.zero_le _) (fun r1752 H1 locs hL hqr1752 => ?_)
    obtain ⟨hT1, hF1, hqr1752⟩ := hqr1752
    have hF := hF.tr (hF1.mono (by simp))
    have hT := hT1
    rcases hqr1752 with rfl | ⟨rfl, v1753, l1754, g1755, f1756⟩
    · refine lv_if_ne (tgt := 21) hx hb dX5_readFactor_16 (by decide) (fun c9 => absurd (by decide) c9) (fun _ => ?_)
      refine lv_iconst (v := 0) hx hb dX5_readFactor_19 (by decide) ?_
      exact en_i hx hb hr hlocks hL rfl (Nat.zero_le _) (Nat.zero_le _) dX5_readFactor_20 (⟨hT, hF, Or.inl rfl⟩)
    · obtain ⟨n1757, hn1757a, hn1757b, rfl⟩ := rng (x := v1753) (lo := 0) (hi := 9999) (by decide) (by decide) l1754 g1755
      refine lv_if_ne (tgt := 21) hx hb dX5_readFactor_16 (by decide) (fun _ => ?_) (fun c9 => absurd c9 (by decide))
      refine lv_aload_n hx hb dX5_readFactor_21 rfl (lv_at hl 0 rfl) ?_
      refine lv_aload_n hx hb dX5_readFactor_22 rfl (lv_at hl 0 rfl) ?_
      obtain ⟨hb1758, e1758, hat1758, hk1758⟩ := hT.o6 hw.1
      obtain ⟨f1758_0, f1758_2, f1758_3, f1758_4, f1758_5, f1758_6, f1758_7, f1758_8, f1758_9, f1758_10, f1758_11, f1758_12, f1758_13, rfl, c1758_1, c1758_2, c1758_3, c1758_5, c1758_10, t1758_0, t1758_9, c1758_11, c1758_p2⟩ := hk1758
      obtain rfl : f1758_7 = nI n1757 := Value.int.inj (f1756.eq hat1758 rfl (by decide) rfl)
      have hP : va_P D vwCl [(w, .inr (5, [.ref f1758_0, .int (nI ((κ w).2.2.1)), .int (nI f1758_2), .int (nI f1758_3), .int f1758_4, .int (nI f1758_5), .int f1758_6, .int (nI n1757), .int f1758_8, .ref f1758_9, .int (nI f1758_10), f1758_11, .int f1758_12, .int f1758_13]))] _ := va_P.cons hat1758 va_P.nil
      refine va_get (D := D) (ci := 5) (v := .int (nI n1757)) (C := RX5) (T := TX5) (N := 14) hx hb hts iX5_readFactor_5 hown hN.1 hP 0 rfl rfl 7 (by decide) (hts _ mX5_readFactor_2) (fun _ h9 => h9) rfl dX5_readFactor_23 ?_
      refine cv_v (As := [.int (nI n1757)]) (rest := []) (b := w) ⟨hx, hb, hml, hown, hts⟩ (c_X5_putCode hT (w := w) hw (x := (nI n1757))) (cwV 1 hts gX5_readFactor_X5_putCode rfl rfl rfl hdX5_putCode_v ⟨Nat.le_of_ble_eq_true rfl, Nat.le_of_ble_eq_true rfl⟩) hN hE hL (rcv6 hN hT hw.1) rfl rfl hl.1 (Nat.le_of_ble_eq_true rfl) dX5_readFactor_26 (Nat.zero_le _) (Nat.zero_le _) (fun H1 locs hL hqr1759 => ?_)
      obtain ⟨hT1, hF1⟩ := hqr1759
      have hF := hF.tr (hF1.mono (by simp))
      have hT := hT1
      refine lv_iconst (v := 1) hx hb dX5_readFactor_29 (by decide) ?_
      exact en_i hx hb hr hlocks hL rfl (Nat.zero_le _) (Nat.zero_le _) dX5_readFactor_30 (⟨hT, hF, Or.inr rfl⟩)
set_option maxHeartbeats 4000000 in
set_option maxRecDepth 100000 in
theorem c_X5_readTerm_d2 {l : Launch} {D : va_G} {cs : Nat → ClassId} {B0 T : Nat} {κ : KM} {H0 : Heap} (hT : WT B0 D cs T κ H0) {w : Nat} (hw : T2 κ w 6 10) : KC l yX5_readTerm wsX5_readTerm 13 285 0 0 D cs B0 H0 [.ref w, .int 2] (Qi (fun r H => WT B0 D cs T κ H ∧ Fr B0 [10] κ H0 H ∧ (r = 0 ∨ r = 1))) := by
  refine KC.of cX5_readTerm 4 (some .boolean) (by decide) rfl (Nat.le_of_ble_eq_true rfl) ?_
  intro p e s m below meth c ls hx hb hr hml hown hts hlocks hin hN hE hH0 hl
  have hown : s.vm.findClass RX5 = some m.cls := hown
  have hl : lv_has ls 4 [(0, .ref w), (1, .int 2)] := hl
  have hL : OkL B0 [] := OkL.nil
  have hF : Fr B0 [10] κ H0 H0 := Fr.rf
  refine lv_aload_n hx hb dX5_readTerm_0 rfl (lv_at hl 0 rfl) ?_
  refine lv_iload_n hx hb dX5_readTerm_1 rfl (lv_at hl 1 rfl) ?_
  refine cv_i (As := [.int 2]) (rest := []) (b := w) ⟨hx, hb, hml, hown, hts⟩ (c_X5_readFactor_d2 hT (w := w) hw) (cwV 1 hts gX5_readTerm_X5_readFactor rfl rfl rfl hdX5_readFactor_v ⟨Nat.le_of_ble_eq_true rfl, Nat.le_of_ble_eq_true rfl⟩) hN hE hL (rcv6 hN hT hw.1) rfl rfl hl.1 (Nat.le_of_ble_eq_true rfl) dX5_readTerm_2 (Nat.zero_le _) (Nat.zero_le _) (fun r1760 H1 locs hL hqr1760 => ?_)
  obtain ⟨hT1, hF1, hqr1760⟩ := hqr1760
  have hF := hF.tr (hF1.mono (by simp))
  have hT := hT1
  rcases hqr1760 with rfl | rfl
  · refine lv_if_ne (tgt := 10) hx hb dX5_readTerm_5 (by decide) (fun c9 => absurd (by decide) c9) (fun _ => ?_)
    refine lv_iconst (v := 0) hx hb dX5_readTerm_8 (by decide) ?_
    exact en_i hx hb hr hlocks hL rfl (Nat.zero_le _) (Nat.zero_le _) dX5_readTerm_9 (⟨hT, hF, Or.inl rfl⟩)
  · refine lv_if_ne (tgt := 10) hx hb dX5_readTerm_5 (by decide) (fun _ => ?_) (fun c9 => absurd c9 (by decide))
    refine lv_iconst (v := 0) hx hb dX5_readTerm_10 (by decide) ?_
    refine lv_istore_n (lv' := [(2, .int 0), (0, .ref w), (1, .int 2)]) hx hb dX5_readTerm_11 rfl hl (by decide) rfl (fun ls hl => ?_)
    refine lp_m (α := Nat) (nL := 4) (fun a9 => 600 - a9) (fun a9 H9 l9 => (a9 ≤ 600) ∧ (WT B0 D cs T κ H9) ∧ (Fr B0 [10] κ H0 H9) ∧ (OkL B0 l9)) (fun a9 => [(2, .int (nI a9)), (0, .ref w), (1, .int 2)]) ?_ 0 _ _ _ ⟨(by show (0) ≤ 600; omega), hT, hF, hL⟩ (lv_sub hl [0, 1, 2] rfl)
    rintro k H locs ls ih1761 ⟨hk, hT, hF, hL⟩ hl
    have hl : lv_has ls 4 [(2, .int (nI k)), (0, .ref w), (1, .int 2)] := hl
    have hk : k ≤ 600 := hk
    refine lv_iload_n hx hb dX5_readTerm_12 rfl (lv_at hl 0 rfl) ?_
    refine lv_sipush (v := 600) hx hb dX5_readTerm_13 (by decide) ?_
    refine lv_icmp_ge (tgt := 79) hx hb dX5_readTerm_16 (by decide) (fun c1762 => ?_) (fun c1762 => ?_)
    · have c1762 : 600 ≤ k := (nI_leI (a := 600) (b := k) (by omega) (by omega)).mp c1762
      refine lv_iconst (v := 1) hx hb dX5_readTerm_79 (by decide) ?_
      exact en_i hx hb hr hlocks hL rfl (Nat.zero_le _) (Nat.zero_le _) dX5_readTerm_80 (⟨hT, hF, Or.inr rfl⟩)
    · have c1762 : ¬ 600 ≤ k := fun h9 => c1762 ((nI_leI (a := 600) (b := k) (by omega) (by omega)).mpr h9)
      refine lv_aload_n hx hb dX5_readTerm_19 rfl (lv_at hl 1 rfl) ?_
      refine lv_bipush (v := 42) hx hb dX5_readTerm_20 (by decide) ?_
      refine cv_i (As := [.int 42]) (rest := []) (b := w) ⟨hx, hb, hml, hown, hts⟩ (c_X5_isMark hT (w := w) hw (x := 42)) (cwV 1 hts gX5_readTerm_X5_isMark rfl rfl rfl hdX5_isMark_v ⟨Nat.le_of_ble_eq_true rfl, Nat.le_of_ble_eq_true rfl⟩) hN hE hL (rcv6 hN hT hw.1) rfl rfl hl.1 (Nat.le_of_ble_eq_true rfl) dX5_readTerm_22 (Nat.zero_le _) (Nat.zero_le _) (fun r1763 H1 locs hL hqr1763 => ?_)
      obtain ⟨h9, hqr1763⟩ := hqr1763; replace h9 := h9.symm; subst h9
      rcases hqr1763 with rfl | rfl
      · refine lv_if_ne (tgt := 37) hx hb dX5_readTerm_25 (by decide) (fun c9 => absurd (by decide) c9) (fun _ => ?_)
        refine lv_aload_n hx hb dX5_readTerm_28 rfl (lv_at hl 1 rfl) ?_
        refine lv_bipush (v := 47) hx hb dX5_readTerm_29 (by decide) ?_
        refine cv_i (As := [.int 47]) (rest := []) (b := w) ⟨hx, hb, hml, hown, hts⟩ (c_X5_isMark hT (w := w) hw (x := 47)) (cwV 1 hts gX5_readTerm_X5_isMark rfl rfl rfl hdX5_isMark_v ⟨Nat.le_of_ble_eq_true rfl, Nat.le_of_ble_eq_true rfl⟩) hN hE hL (rcv6 hN hT hw.1) rfl rfl hl.1 (Nat.le_of_ble_eq_true rfl) dX5_readTerm_31 (Nat.zero_le _) (Nat.zero_le _) (fun r1764 H1 locs hL hqr1764 => ?_)
        obtain ⟨h9, hqr1764⟩ := hqr1764; replace h9 := h9.symm; subst h9
        rcases hqr1764 with rfl | rfl
        · refine lv_if_eq (tgt := 79) hx hb dX5_readTerm_34 (by decide) (fun _ => ?_) (fun c9 => absurd (by decide) c9)
          refine lv_iconst (v := 1) hx hb dX5_readTerm_79 (by decide) ?_
          exact en_i hx hb hr hlocks hL rfl (Nat.zero_le _) (Nat.zero_le _) dX5_readTerm_80 (⟨hT, hF, Or.inr rfl⟩)
        · refine lv_if_eq (tgt := 79) hx hb dX5_readTerm_34 (by decide) (fun c9 => absurd c9 (by decide)) (fun _ => ?_)
          refine lv_aload_n hx hb dX5_readTerm_37 rfl (lv_at hl 1 rfl) ?_
          refine lv_bipush (v := 42) hx hb dX5_readTerm_38 (by decide) ?_
          refine cv_i (As := [.int 42]) (rest := []) (b := w) ⟨hx, hb, hml, hown, hts⟩ (c_X5_isMark hT (w := w) hw (x := 42)) (cwV 1 hts gX5_readTerm_X5_isMark rfl rfl rfl hdX5_isMark_v ⟨Nat.le_of_ble_eq_true rfl, Nat.le_of_ble_eq_true rfl⟩) hN hE hL (rcv6 hN hT hw.1) rfl rfl hl.1 (Nat.le_of_ble_eq_true rfl) dX5_readTerm_40 (Nat.zero_le _) (Nat.zero_le _) (fun r1765 H1 locs hL hqr1765 => ?_)
          obtain ⟨h9, hqr1765⟩ := hqr1765; replace h9 := h9.symm; subst h9
          rcases hqr1765 with rfl | rfl
          · refine lv_if_eq (tgt := 51) hx hb dX5_readTerm_43 (by decide) (fun _ => ?_) (fun c9 => absurd (by decide) c9)
            refine lv_bipush (v := (-8)) hx hb dX5_readTerm_51 (by decide) ?_
            refine lv_istore_n (lv' := [(3, .int (-8)), (2, .int (nI k)), (0, .ref w), (1, .int 2)]) hx hb dX5_readTerm_53 rfl hl (by decide) rfl (fun ls hl => ?_)
            refine lv_aload_n hx hb dX5_readTerm_54 rfl (lv_at hl 2 rfl) ?_
            refine cv_v (As := []) (rest := []) (b := w) ⟨hx, hb, hml, hown, hts⟩ (c_X5_step hT (w := w) hw) (cwV 0 hts gX5_readTerm_X5_step rfl rfl rfl hdX5_step_v ⟨Nat.le_of_ble_eq_true rfl, Nat.le_of_ble_eq_true rfl⟩) hN hE hL (rcv6 hN hT hw.1) rfl rfl hl.1 (Nat.le_of_ble_eq_true rfl) dX5_readTerm_55 (Nat.zero_le _) (Nat.zero_le _) (fun H1 locs hL hqr1766 => ?_)
            obtain ⟨hT1, hF1, hqr1766⟩ := hqr1766
            have hF := hF.tr (hF1.mono (by simp))
            have hT := hT1
            have f1767 := hqr1766
            refine lv_aload_n hx hb dX5_readTerm_58 rfl (lv_at hl 2 rfl) ?_
            refine lv_iload_n hx hb dX5_readTerm_59 rfl (lv_at hl 3 rfl) ?_
            refine cv_i (As := [.int 2]) (rest := []) (b := w) ⟨hx, hb, hml, hown, hts⟩ (c_X5_readFactor_d2 hT (w := w) hw) (cwV 1 hts gX5_readTerm_X5_readFactor rfl rfl rfl hdX5_readFactor_v ⟨Nat.le_of_ble_eq_true rfl, Nat.le_of_ble_eq_true rfl⟩) hN hE hL (rcv6 hN hT hw.1) rfl rfl hl.1 (Nat.le_of_ble_eq_true rfl) dX5_readTerm_60 (Nat.zero_le _) (Nat.zero_le _) (fun r1768 H1 locs hL hqr1768 => ?_)
            obtain ⟨hT1, hF1, hqr1768⟩ := hqr1768
            have hF := hF.tr (hF1.mono (by simp))
            have hT := hT1
            rcases hqr1768 with rfl | rfl
            · refine lv_if_ne (tgt := 68) hx hb dX5_readTerm_63 (by decide) (fun c9 => absurd (by decide) c9) (fun _ => ?_)
              refine lv_iconst (v := 0) hx hb dX5_readTerm_66 (by decide) ?_
              exact en_i hx hb hr hlocks hL rfl (Nat.zero_le _) (Nat.zero_le _) dX5_readTerm_67 (⟨hT, hF, Or.inl rfl⟩)
            · refine lv_if_ne (tgt := 68) hx hb dX5_readTerm_63 (by decide) (fun _ => ?_) (fun c9 => absurd c9 (by decide))
              refine lv_aload_n hx hb dX5_readTerm_68 rfl (lv_at hl 2 rfl) ?_
              refine lv_iload_n hx hb dX5_readTerm_69 rfl (lv_at hl 0 rfl) ?_
              refine cv_v (As := [.int (-8)]) (rest := []) (b := w) ⟨hx, hb, hml, hown, hts⟩ (c_X5_putCode hT (w := w) hw (x := (-8))) (cwV 1 hts gX5_readTerm_X5_putCode rfl rfl rfl hdX5_putCode_v ⟨Nat.le_of_ble_eq_true rfl, Nat.le_of_ble_eq_true rfl⟩) hN hE hL (rcv6 hN hT hw.1) rfl rfl hl.1 (Nat.le_of_ble_eq_true rfl) dX5_readTerm_70 (Nat.zero_le _) (Nat.zero_le _) (fun H1 locs hL hqr1769 => ?_)
              obtain ⟨hT1, hF1⟩ := hqr1769
              have hF := hF.tr (hF1.mono (by simp))
              have hT := hT1
              refine lv_iinc (v := (nI (k + 1))) (lv' := [(2, .int (nI (k + 1))), (3, .int (-8)), (0, .ref w), (1, .int 2)]) hx hb dX5_readTerm_73 hl (k := 1) rfl (nI_add _ 1) (by decide) rfl (fun ls hl => ?_)
              refine lv_goto (tgt := 12) hx hb dX5_readTerm_76 (by decide) ?_
              exact ih1761 (k + 1) _ _ _ (by show 600 - ((k + 1)) < 600 - k; omega) ⟨(by show ((k + 1)) ≤ 600; omega), hT, hF, hL⟩ (lv_sub hl [0, 2, 3] rfl)
          · refine lv_if_eq (tgt := 51) hx hb dX5_readTerm_43 (by decide) (fun c9 => absurd c9 (by decide)) (fun _ => ?_)
            refine lv_bipush (v := (-7)) hx hb dX5_readTerm_46 (by decide) ?_
            refine lv_goto (tgt := 53) hx hb dX5_readTerm_48 (by decide) ?_
            refine lv_istore_n (lv' := [(3, .int (-7)), (2, .int (nI k)), (0, .ref w), (1, .int 2)]) hx hb dX5_readTerm_53 rfl hl (by decide) rfl (fun ls hl => ?_)
            refine lv_aload_n hx hb dX5_readTerm_54 rfl (lv_at hl 2 rfl) ?_
            refine cv_v (As := []) (rest := []) (b := w) ⟨hx, hb, hml, hown, hts⟩ (c_X5_step hT (w := w) hw) (cwV 0 hts gX5_readTerm_X5_step rfl rfl rfl hdX5_step_v ⟨Nat.le_of_ble_eq_true rfl, Nat.le_of_ble_eq_true rfl⟩) hN hE hL (rcv6 hN hT hw.1) rfl rfl hl.1 (Nat.le_of_ble_eq_true rfl) dX5_readTerm_55 (Nat.zero_le _) (Nat.zero_le _) (fun H1 locs hL hqr1770 => ?_)
            obtain ⟨hT1, hF1, hqr1770⟩ := hqr1770
            have hF := hF.tr (hF1.mono (by simp))
            have hT := hT1
            have f1771 := hqr1770
            refine lv_aload_n hx hb dX5_readTerm_58 rfl (lv_at hl 2 rfl) ?_
            refine lv_iload_n hx hb dX5_readTerm_59 rfl (lv_at hl 3 rfl) ?_
            refine cv_i (As := [.int 2]) (rest := []) (b := w) ⟨hx, hb, hml, hown, hts⟩ (c_X5_readFactor_d2 hT (w := w) hw) (cwV 1 hts gX5_readTerm_X5_readFactor rfl rfl rfl hdX5_readFactor_v ⟨Nat.le_of_ble_eq_true rfl, Nat.le_of_ble_eq_true rfl⟩) hN hE hL (rcv6 hN hT hw.1) rfl rfl hl.1 (Nat.le_of_ble_eq_true rfl) dX5_readTerm_60 (Nat.zero_le _) (Nat.zero_le _) (fun r1772 H1 locs hL hqr1772 => ?_)
            obtain ⟨hT1, hF1, hqr1772⟩ := hqr1772
            have hF := hF.tr (hF1.mono (by simp))
            have hT := hT1
            rcases hqr1772 with rfl | rfl
            · refine lv_if_ne (tgt := 68) hx hb dX5_readTerm_63 (by decide) (fun c9 => absurd (by decide) c9) (fun _ => ?_)
              refine lv_iconst (v := 0) hx hb dX5_readTerm_66 (by decide) ?_
              exact en_i hx hb hr hlocks hL rfl (Nat.zero_le _) (Nat.zero_le _) dX5_readTerm_67 (⟨hT, hF, Or.inl rfl⟩)
            · refine lv_if_ne (tgt := 68) hx hb dX5_readTerm_63 (by decide) (fun _ => ?_) (fun c9 => absurd c9 (by decide))
              refine lv_aload_n hx hb dX5_readTerm_68 rfl (lv_at hl 2 rfl) ?_
              refine lv_iload_n hx hb dX5_readTerm_69 rfl (lv_at hl 0 rfl) ?_
              refine cv_v (As := [.int (-7)]) (rest := []) (b := w) ⟨hx, hb, hml, hown, hts⟩ (c_X5_putCode hT (w := w) hw (x := (-7))) (cwV 1 hts gX5_readTerm_X5_putCode rfl rfl rfl hdX5_putCode_v ⟨Nat.le_of_ble_eq_true rfl, Nat.le_of_ble_eq_true rfl⟩) hN hE hL (rcv6 hN hT hw.1) rfl rfl hl.1 (Nat.le_of_ble_eq_true rfl) dX5_readTerm_70 (Nat.zero_le _) (Nat.zero_le _) (fun H1 locs hL hqr1773 => ?_)
              obtain ⟨hT1, hF1⟩ := hqr1773
              have hF := hF.tr (hF1.mono (by simp))
              have hT := hT1
              refine lv_iinc (v := (nI (k + 1))) (lv' := [(2, .int (nI (k + 1))), (3, .int (-7)), (0, .ref w), (1, .int 2)]) hx hb dX5_readTerm_73 hl (k := 1) rfl (nI_add _ 1) (by decide) rfl (fun ls hl => ?_)
              refine lv_goto (tgt := 12) hx hb dX5_readTerm_76 (by decide) ?_
              exact ih1761 (k + 1) _ _ _ (by show 600 - ((k + 1)) < 600 - k; omega) ⟨(by show ((k + 1)) ≤ 600; omega), hT, hF, hL⟩ (lv_sub hl [0, 2, 3] rfl)
      · refine lv_if_ne (tgt := 37) hx hb dX5_readTerm_25 (by decide) (fun _ => ?_) (fun c9 => absurd c9 (by decide))
        refine lv_aload_n hx hb dX5_readTerm_37 rfl (lv_at hl 1 rfl) ?_
        refine lv_bipush (v := 42) hx hb dX5_readTerm_38 (by decide) ?_
        refine cv_i (As := [.int 42]) (rest := []) (b := w) ⟨hx, hb, hml, hown, hts⟩ (c_X5_isMark hT (w := w) hw (x := 42)) (cwV 1 hts gX5_readTerm_X5_isMark rfl rfl rfl hdX5_isMark_v ⟨Nat.le_of_ble_eq_true rfl, Nat.le_of_ble_eq_true rfl⟩) hN hE hL (rcv6 hN hT hw.1) rfl rfl hl.1 (Nat.le_of_ble_eq_true rfl) dX5_readTerm_40 (Nat.zero_le _) (Nat.zero_le _) (fun r1774 H1 locs hL hqr1774 => ?_)
        obtain ⟨h9, hqr1774⟩ := hqr1774; replace h9 := h9.symm; subst h9
        rcases hqr1774 with rfl | rfl
        · refine lv_if_eq (tgt := 51) hx hb dX5_readTerm_43 (by decide) (fun _ => ?_) (fun c9 => absurd (by decide) c9)
          refine lv_bipush (v := (-8)) hx hb dX5_readTerm_51 (by decide) ?_
          refine lv_istore_n (lv' := [(3, .int (-8)), (2, .int (nI k)), (0, .ref w), (1, .int 2)]) hx hb dX5_readTerm_53 rfl hl (by decide) rfl (fun ls hl => ?_)
          refine lv_aload_n hx hb dX5_readTerm_54 rfl (lv_at hl 2 rfl) ?_
          refine cv_v (As := []) (rest := []) (b := w) ⟨hx, hb, hml, hown, hts⟩ (c_X5_step hT (w := w) hw) (cwV 0 hts gX5_readTerm_X5_step rfl rfl rfl hdX5_step_v ⟨Nat.le_of_ble_eq_true rfl, Nat.le_of_ble_eq_true rfl⟩) hN hE hL (rcv6 hN hT hw.1) rfl rfl hl.1 (Nat.le_of_ble_eq_true rfl) dX5_readTerm_55 (Nat.zero_le _) (Nat.zero_le _) (fun H1 locs hL hqr1775 => ?_)
          obtain ⟨hT1, hF1, hqr1775⟩ := hqr1775
          have hF := hF.tr (hF1.mono (by simp))
          have hT := hT1
          have f1776 := hqr1775
          refine lv_aload_n hx hb dX5_readTerm_58 rfl (lv_at hl 2 rfl) ?_
          refine lv_iload_n hx hb dX5_readTerm_59 rfl (lv_at hl 3 rfl) ?_
          refine cv_i (As := [.int 2]) (rest := []) (b := w) ⟨hx, hb, hml, hown, hts⟩ (c_X5_readFactor_d2 hT (w := w) hw) (cwV 1 hts gX5_readTerm_X5_readFactor rfl rfl rfl hdX5_readFactor_v ⟨Nat.le_of_ble_eq_true rfl, Nat.le_of_ble_eq_true rfl⟩) hN hE hL (rcv6 hN hT hw.1) rfl rfl hl.1 (Nat.le_of_ble_eq_true rfl) dX5_readTerm_60 (Nat.zero_le _) (Nat.zero_le _) (fun r1777 H1 locs hL hqr1777 => ?_)
          obtain ⟨hT1, hF1, hqr1777⟩ := hqr1777
          have hF := hF.tr (hF1.mono (by simp))
          have hT := hT1
          rcases hqr1777 with rfl | rfl
          · refine lv_if_ne (tgt := 68) hx hb dX5_readTerm_63 (by decide) (fun c9 => absurd (by decide) c9) (fun _ => ?_)
            refine lv_iconst (v := 0) hx hb dX5_readTerm_66 (by decide) ?_
            exact en_i hx hb hr hlocks hL rfl (Nat.zero_le _) (Nat.zero_le _) dX5_readTerm_67 (⟨hT, hF, Or.inl rfl⟩)
          · refine lv_if_ne (tgt := 68) hx hb dX5_readTerm_63 (by decide) (fun _ => ?_) (fun c9 => absurd c9 (by decide))
            refine lv_aload_n hx hb dX5_readTerm_68 rfl (lv_at hl 2 rfl) ?_
            refine lv_iload_n hx hb dX5_readTerm_69 rfl (lv_at hl 0 rfl) ?_
            refine cv_v (As := [.int (-8)]) (rest := []) (b := w) ⟨hx, hb, hml, hown, hts⟩ (c_X5_putCode hT (w := w) hw (x := (-8))) (cwV 1 hts gX5_readTerm_X5_putCode rfl rfl rfl hdX5_putCode_v ⟨Nat.le_of_ble_eq_true rfl, Nat.le_of_ble_eq_true rfl⟩) hN hE hL (rcv6 hN hT hw.1) rfl rfl hl.1 (Nat.le_of_ble_eq_true rfl) dX5_readTerm_70 (Nat.zero_le _) (Nat.zero_le _) (fun H1 locs hL hqr1778 => ?_)
            obtain ⟨hT1, hF1⟩ := hqr1778
            have hF := hF.tr (hF1.mono (by simp))
            have hT := hT1
            refine lv_iinc (v := (nI (k + 1))) (lv' := [(2, .int (nI (k + 1))), (3, .int (-8)), (0, .ref w), (1, .int 2)]) hx hb dX5_readTerm_73 hl (k := 1) rfl (nI_add _ 1) (by decide) rfl (fun ls hl => ?_)
            refine lv_goto (tgt := 12) hx hb dX5_readTerm_76 (by decide) ?_
            exact ih1761 (k + 1) _ _ _ (by show 600 - ((k + 1)) < 600 - k; omega) ⟨(by show ((k + 1)) ≤ 600; omega), hT, hF, hL⟩ (lv_sub hl [0, 2, 3] rfl)
        · refine lv_if_eq (tgt := 51) hx hb dX5_readTerm_43 (by decide) (fun c9 => absurd c9 (by decide)) (fun _ => ?_)
          refine lv_bipush (v := (-7)) hx hb dX5_readTerm_46 (by decide) ?_
          refine lv_goto (tgt := 53) hx hb dX5_readTerm_48 (by decide) ?_
          refine lv_istore_n (lv' := [(3, .int (-7)), (2, .int (nI k)), (0, .ref w), (1, .int 2)]) hx hb dX5_readTerm_53 rfl hl (by decide) rfl (fun ls hl => ?_)
          refine lv_aload_n hx hb dX5_readTerm_54 rfl (lv_at hl 2 rfl) ?_
          refine cv_v (As := []) (rest := []) (b := w) ⟨hx, hb, hml, hown, hts⟩ (c_X5_step hT (w := w) hw) (cwV 0 hts gX5_readTerm_X5_step rfl rfl rfl hdX5_step_v ⟨Nat.le_of_ble_eq_true rfl, Nat.le_of_ble_eq_true rfl⟩) hN hE hL (rcv6 hN hT hw.1) rfl rfl hl.1 (Nat.le_of_ble_eq_true rfl) dX5_readTerm_55 (Nat.zero_le _) (Nat.zero_le _) (fun H1 locs hL hqr1779 => ?_)
          obtain ⟨hT1, hF1, hqr1779⟩ := hqr1779
          have hF := hF.tr (hF1.mono (by simp))
          have hT := hT1
          have f1780 := hqr1779
          refine lv_aload_n hx hb dX5_readTerm_58 rfl (lv_at hl 2 rfl) ?_
          refine lv_iload_n hx hb dX5_readTerm_59 rfl (lv_at hl 3 rfl) ?_
          refine cv_i (As := [.int 2]) (rest := []) (b := w) ⟨hx, hb, hml, hown, hts⟩ (c_X5_readFactor_d2 hT (w := w) hw) (cwV 1 hts gX5_readTerm_X5_readFactor rfl rfl rfl hdX5_readFactor_v ⟨Nat.le_of_ble_eq_true rfl, Nat.le_of_ble_eq_true rfl⟩) hN hE hL (rcv6 hN hT hw.1) rfl rfl hl.1 (Nat.le_of_ble_eq_true rfl) dX5_readTerm_60 (Nat.zero_le _) (Nat.zero_le _) (fun r1781 H1 locs hL hqr1781 => ?_)
          obtain ⟨hT1, hF1, hqr1781⟩ := hqr1781
          have hF := hF.tr (hF1.mono (by simp))
          have hT := hT1
          rcases hqr1781 with rfl | rfl
          · refine lv_if_ne (tgt := 68) hx hb dX5_readTerm_63 (by decide) (fun c9 => absurd (by decide) c9) (fun _ => ?_)
            refine lv_iconst (v := 0) hx hb dX5_readTerm_66 (by decide) ?_
            exact en_i hx hb hr hlocks hL rfl (Nat.zero_le _) (Nat.zero_le _) dX5_readTerm_67 (⟨hT, hF, Or.inl rfl⟩)
          · refine lv_if_ne (tgt := 68) hx hb dX5_readTerm_63 (by decide) (fun _ => ?_) (fun c9 => absurd c9 (by decide))
            refine lv_aload_n hx hb dX5_readTerm_68 rfl (lv_at hl 2 rfl) ?_
            refine lv_iload_n hx hb dX5_readTerm_69 rfl (lv_at hl 0 rfl) ?_
            refine cv_v (As := [.int (-7)]) (rest := []) (b := w) ⟨hx, hb, hml, hown, hts⟩ (c_X5_putCode hT (w := w) hw (x := (-7))) (cwV 1 hts gX5_readTerm_X5_putCode rfl rfl rfl hdX5_putCode_v ⟨Nat.le_of_ble_eq_true rfl, Nat.le_of_ble_eq_true rfl⟩) hN hE hL (rcv6 hN hT hw.1) rfl rfl hl.1 (Nat.le_of_ble_eq_true rfl) dX5_readTerm_70 (Nat.zero_le _) (Nat.zero_le _) (fun H1 locs hL hqr1782 => ?_)
            obtain ⟨hT1, hF1⟩ := hqr1782
            have hF := hF.tr (hF1.mono (by simp))
            have hT := hT1
            refine lv_iinc (v := (nI (k + 1))) (lv' := [(2, .int (nI (k + 1))), (3, .int (-7)), (0, .ref w), (1, .int 2)]) hx hb dX5_readTerm_73 hl (k := 1) rfl (nI_add _ 1) (by decide) rfl (fun ls hl => ?_)
            refine lv_goto (tgt := 12) hx hb dX5_readTerm_76 (by decide) ?_
            exact ih1761 (k + 1) _ _ _ (by show 600 - ((k + 1)) < 600 - k; omega) ⟨(by show ((k + 1)) ≤ 600; omega), hT, hF, hL⟩ (lv_sub hl [0, 2, 3] rfl)
set_option maxHeartbeats 4000000 in
set_option maxRecDepth 100000 in
theorem c_X5_readSum_d2 {l : Launch} {D : va_G} {cs : Nat → ClassId} {B0 T : Nat} {κ : KM} {H0 : Heap} (hT : WT B0 D cs T κ H0) {w : Nat} (hw : T2 κ w 6 10) : KC l yX5_readSum wsX5_readSum 14 308 0 0 D cs B0 H0 [.ref w, .int 2] (Qi (fun r H => WT B0 D cs T κ H ∧ Fr B0 [10] κ H0 H ∧ (r = 0 ∨ r = 1))) := by
  refine KC.of cX5_readSum 4 (some .boolean) (by decide) rfl (Nat.le_of_ble_eq_true rfl) ?_
  intro p e s m below meth c ls hx hb hr hml hown hts hlocks hin hN hE hH0 hl
  have hown : s.vm.findClass RX5 = some m.cls := hown
  have hl : lv_has ls 4 [(0, .ref w), (1, .int 2)] := hl
  have hL : OkL B0 [] := OkL.nil
  have hF : Fr B0 [10] κ H0 H0 := Fr.rf
  refine lv_aload_n hx hb dX5_readSum_0 rfl (lv_at hl 0 rfl) ?_
  refine lv_iload_n hx hb dX5_readSum_1 rfl (lv_at hl 1 rfl) ?_
  refine cv_i (As := [.int 2]) (rest := []) (b := w) ⟨hx, hb, hml, hown, hts⟩ (c_X5_readTerm_d2 hT (w := w) hw) (cwV 1 hts gX5_readSum_X5_readTerm rfl rfl rfl hdX5_readTerm_v ⟨Nat.le_of_ble_eq_true rfl, Nat.le_of_ble_eq_true rfl⟩) hN hE hL (rcv6 hN hT hw.1) rfl rfl hl.1 (Nat.le_of_ble_eq_true rfl) dX5_readSum_2 (Nat.zero_le _) (Nat.zero_le _) (fun r1783 H1 locs hL hqr1783 => ?_)
  obtain ⟨hT1, hF1, hqr1783⟩ := hqr1783
  have hF := hF.tr (hF1.mono (by simp))
  have hT := hT1
  rcases hqr1783 with rfl | rfl
  · refine lv_if_ne (tgt := 10) hx hb dX5_readSum_5 (by decide) (fun c9 => absurd (by decide) c9) (fun _ => ?_)
    refine lv_iconst (v := 0) hx hb dX5_readSum_8 (by decide) ?_
    exact en_i hx hb hr hlocks hL rfl (Nat.zero_le _) (Nat.zero_le _) dX5_readSum_9 (⟨hT, hF, Or.inl rfl⟩)
  · refine lv_if_ne (tgt := 10) hx hb dX5_readSum_5 (by decide) (fun _ => ?_) (fun c9 => absurd c9 (by decide))
    refine lv_iconst (v := 0) hx hb dX5_readSum_10 (by decide) ?_
    refine lv_istore_n (lv' := [(2, .int 0), (0, .ref w), (1, .int 2)]) hx hb dX5_readSum_11 rfl hl (by decide) rfl (fun ls hl => ?_)
    refine lp_m (α := Nat) (nL := 4) (fun a9 => 600 - a9) (fun a9 H9 l9 => (a9 ≤ 600) ∧ (WT B0 D cs T κ H9) ∧ (Fr B0 [10] κ H0 H9) ∧ (OkL B0 l9)) (fun a9 => [(2, .int (nI a9)), (0, .ref w), (1, .int 2)]) ?_ 0 _ _ _ ⟨(by show (0) ≤ 600; omega), hT, hF, hL⟩ (lv_sub hl [0, 1, 2] rfl)
    rintro k H locs ls ih1784 ⟨hk, hT, hF, hL⟩ hl
    have hl : lv_has ls 4 [(2, .int (nI k)), (0, .ref w), (1, .int 2)] := hl
    have hk : k ≤ 600 := hk
    refine lv_iload_n hx hb dX5_readSum_12 rfl (lv_at hl 0 rfl) ?_
    refine lv_sipush (v := 600) hx hb dX5_readSum_13 (by decide) ?_
    refine lv_icmp_ge (tgt := 79) hx hb dX5_readSum_16 (by decide) (fun c1785 => ?_) (fun c1785 => ?_)
    · have c1785 : 600 ≤ k := (nI_leI (a := 600) (b := k) (by omega) (by omega)).mp c1785
      refine lv_iconst (v := 1) hx hb dX5_readSum_79 (by decide) ?_
      exact en_i hx hb hr hlocks hL rfl (Nat.zero_le _) (Nat.zero_le _) dX5_readSum_80 (⟨hT, hF, Or.inr rfl⟩)
    · have c1785 : ¬ 600 ≤ k := fun h9 => c1785 ((nI_leI (a := 600) (b := k) (by omega) (by omega)).mpr h9)
      refine lv_aload_n hx hb dX5_readSum_19 rfl (lv_at hl 1 rfl) ?_
      refine lv_bipush (v := 43) hx hb dX5_readSum_20 (by decide) ?_
      refine cv_i (As := [.int 43]) (rest := []) (b := w) ⟨hx, hb, hml, hown, hts⟩ (c_X5_isMark hT (w := w) hw (x := 43)) (cwV 1 hts gX5_readSum_X5_isMark rfl rfl rfl hdX5_isMark_v ⟨Nat.le_of_ble_eq_true rfl, Nat.le_of_ble_eq_true rfl⟩) hN hE hL (rcv6 hN hT hw.1) rfl rfl hl.1 (Nat.le_of_ble_eq_true rfl) dX5_readSum_22 (Nat.zero_le _) (Nat.zero_le _) (fun r1786 H1 locs hL hqr1786 => ?_)
      obtain ⟨h9, hqr1786⟩ := hqr1786; replace h9 := h9.symm; subst h9
      rcases hqr1786 with rfl | rfl
      · refine lv_if_ne (tgt := 37) hx hb dX5_readSum_25 (by decide) (fun c9 => absurd (by decide) c9) (fun _ => ?_)
        refine lv_aload_n hx hb dX5_readSum_28 rfl (lv_at hl 1 rfl) ?_
        refine lv_bipush (v := 45) hx hb dX5_readSum_29 (by decide) ?_
        refine cv_i (As := [.int 45]) (rest := []) (b := w) ⟨hx, hb, hml, hown, hts⟩ (c_X5_isMark hT (w := w) hw (x := 45)) (cwV 1 hts gX5_readSum_X5_isMark rfl rfl rfl hdX5_isMark_v ⟨Nat.le_of_ble_eq_true rfl, Nat.le_of_ble_eq_true rfl⟩) hN hE hL (rcv6 hN hT hw.1) rfl rfl hl.1 (Nat.le_of_ble_eq_true rfl) dX5_readSum_31 (Nat.zero_le _) (Nat.zero_le _) (fun r1787 H1 locs hL hqr1787 => ?_)
        obtain ⟨h9, hqr1787⟩ := hqr1787; replace h9 := h9.symm; subst h9
        rcases hqr1787 with rfl | rfl
        · refine lv_if_eq (tgt := 79) hx hb dX5_readSum_34 (by decide) (fun _ => ?_) (fun c9 => absurd (by decide) c9)
          refine lv_iconst (v := 1) hx hb dX5_readSum_79 (by decide) ?_
          exact en_i hx hb hr hlocks hL rfl (Nat.zero_le _) (Nat.zero_le _) dX5_readSum_80 (⟨hT, hF, Or.inr rfl⟩)
        · refine lv_if_eq (tgt := 79) hx hb dX5_readSum_34 (by decide) (fun c9 => absurd c9 (by decide)) (fun _ => ?_)
          refine lv_aload_n hx hb dX5_readSum_37 rfl (lv_at hl 1 rfl) ?_
          refine lv_bipush (v := 43) hx hb dX5_readSum_38 (by decide) ?_
          refine cv_i (As := [.int 43]) (rest := []) (b := w) ⟨hx, hb, hml, hown, hts⟩ (c_X5_isMark hT (w := w) hw (x := 43)) (cwV 1 hts gX5_readSum_X5_isMark rfl rfl rfl hdX5_isMark_v ⟨Nat.le_of_ble_eq_true rfl, Nat.le_of_ble_eq_true rfl⟩) hN hE hL (rcv6 hN hT hw.1) rfl rfl hl.1 (Nat.le_of_ble_eq_true rfl) dX5_readSum_40 (Nat.zero_le _) (Nat.zero_le _) (fun r1788 H1 locs hL hqr1788 => ?_)
          obtain ⟨h9, hqr1788⟩ := hqr1788; replace h9 := h9.symm; subst h9
          rcases hqr1788 with rfl | rfl
          · refine lv_if_eq (tgt := 51) hx hb dX5_readSum_43 (by decide) (fun _ => ?_) (fun c9 => absurd (by decide) c9)
            refine lv_bipush (v := (-6)) hx hb dX5_readSum_51 (by decide) ?_
            refine lv_istore_n (lv' := [(3, .int (-6)), (2, .int (nI k)), (0, .ref w), (1, .int 2)]) hx hb dX5_readSum_53 rfl hl (by decide) rfl (fun ls hl => ?_)
            refine lv_aload_n hx hb dX5_readSum_54 rfl (lv_at hl 2 rfl) ?_
            refine cv_v (As := []) (rest := []) (b := w) ⟨hx, hb, hml, hown, hts⟩ (c_X5_step hT (w := w) hw) (cwV 0 hts gX5_readSum_X5_step rfl rfl rfl hdX5_step_v ⟨Nat.le_of_ble_eq_true rfl, Nat.le_of_ble_eq_true rfl⟩) hN hE hL (rcv6 hN hT hw.1) rfl rfl hl.1 (Nat.le_of_ble_eq_true rfl) dX5_readSum_55 (Nat.zero_le _) (Nat.zero_le _) (fun H1 locs hL hqr1789 => ?_)
            obtain ⟨hT1, hF1, hqr1789⟩ := hqr1789
            have hF := hF.tr (hF1.mono (by simp))
            have hT := hT1
            have f1790 := hqr1789
            refine lv_aload_n hx hb dX5_readSum_58 rfl (lv_at hl 2 rfl) ?_
            refine lv_iload_n hx hb dX5_readSum_59 rfl (lv_at hl 3 rfl) ?_
            refine cv_i (As := [.int 2]) (rest := []) (b := w) ⟨hx, hb, hml, hown, hts⟩ (c_X5_readTerm_d2 hT (w := w) hw) (cwV 1 hts gX5_readSum_X5_readTerm rfl rfl rfl hdX5_readTerm_v ⟨Nat.le_of_ble_eq_true rfl, Nat.le_of_ble_eq_true rfl⟩) hN hE hL (rcv6 hN hT hw.1) rfl rfl hl.1 (Nat.le_of_ble_eq_true rfl) dX5_readSum_60 (Nat.zero_le _) (Nat.zero_le _) (fun r1791 H1 locs hL hqr1791 => ?_)
            obtain ⟨hT1, hF1, hqr1791⟩ := hqr1791
            have hF := hF.tr (hF1.mono (by simp))
            have hT := hT1
            rcases hqr1791 with rfl | rfl
            · refine lv_if_ne (tgt := 68) hx hb dX5_readSum_63 (by decide) (fun c9 => absurd (by decide) c9) (fun _ => ?_)
              refine lv_iconst (v := 0) hx hb dX5_readSum_66 (by decide) ?_
              exact en_i hx hb hr hlocks hL rfl (Nat.zero_le _) (Nat.zero_le _) dX5_readSum_67 (⟨hT, hF, Or.inl rfl⟩)
            · refine lv_if_ne (tgt := 68) hx hb dX5_readSum_63 (by decide) (fun _ => ?_) (fun c9 => absurd c9 (by decide))
              refine lv_aload_n hx hb dX5_readSum_68 rfl (lv_at hl 2 rfl) ?_
              refine lv_iload_n hx hb dX5_readSum_69 rfl (lv_at hl 0 rfl) ?_
              refine cv_v (As := [.int (-6)]) (rest := []) (b := w) ⟨hx, hb, hml, hown, hts⟩ (c_X5_putCode hT (w := w) hw (x := (-6))) (cwV 1 hts gX5_readSum_X5_putCode rfl rfl rfl hdX5_putCode_v ⟨Nat.le_of_ble_eq_true rfl, Nat.le_of_ble_eq_true rfl⟩) hN hE hL (rcv6 hN hT hw.1) rfl rfl hl.1 (Nat.le_of_ble_eq_true rfl) dX5_readSum_70 (Nat.zero_le _) (Nat.zero_le _) (fun H1 locs hL hqr1792 => ?_)
              obtain ⟨hT1, hF1⟩ := hqr1792
              have hF := hF.tr (hF1.mono (by simp))
              have hT := hT1
              refine lv_iinc (v := (nI (k + 1))) (lv' := [(2, .int (nI (k + 1))), (3, .int (-6)), (0, .ref w), (1, .int 2)]) hx hb dX5_readSum_73 hl (k := 1) rfl (nI_add _ 1) (by decide) rfl (fun ls hl => ?_)
              refine lv_goto (tgt := 12) hx hb dX5_readSum_76 (by decide) ?_
              exact ih1784 (k + 1) _ _ _ (by show 600 - ((k + 1)) < 600 - k; omega) ⟨(by show ((k + 1)) ≤ 600; omega), hT, hF, hL⟩ (lv_sub hl [0, 2, 3] rfl)
          · refine lv_if_eq (tgt := 51) hx hb dX5_readSum_43 (by decide) (fun c9 => absurd c9 (by decide)) (fun _ => ?_)
            refine lv_bipush (v := (-5)) hx hb dX5_readSum_46 (by decide) ?_
            refine lv_goto (tgt := 53) hx hb dX5_readSum_48 (by decide) ?_
            refine lv_istore_n (lv' := [(3, .int (-5)), (2, .int (nI k)), (0, .ref w), (1, .int 2)]) hx hb dX5_readSum_53 rfl hl (by decide) rfl (fun ls hl => ?_)
            refine lv_aload_n hx hb dX5_readSum_54 rfl (lv_at hl 2 rfl) ?_
            refine cv_v (As := []) (rest := []) (b := w) ⟨hx, hb, hml, hown, hts⟩ (c_X5_step hT (w := w) hw) (cwV 0 hts gX5_readSum_X5_step rfl rfl rfl hdX5_step_v ⟨Nat.le_of_ble_eq_true rfl, Nat.le_of_ble_eq_true rfl⟩) hN hE hL (rcv6 hN hT hw.1) rfl rfl hl.1 (Nat.le_of_ble_eq_true rfl) dX5_readSum_55 (Nat.zero_le _) (Nat.zero_le _) (fun H1 locs hL hqr1793 => ?_)
            obtain ⟨hT1, hF1, hqr1793⟩ := hqr1793
            have hF := hF.tr (hF1.mono (by simp))
            have hT := hT1
            have f1794 := hqr1793
            refine lv_aload_n hx hb dX5_readSum_58 rfl (lv_at hl 2 rfl) ?_
            refine lv_iload_n hx hb dX5_readSum_59 rfl (lv_at hl 3 rfl) ?_
            refine cv_i (As := [.int 2]) (rest := []) (b := w) ⟨hx, hb, hml, hown, hts⟩ (c_X5_readTerm_d2 hT (w := w) hw) (cwV 1 hts gX5_readSum_X5_readTerm rfl rfl rfl hdX5_readTerm_v ⟨Nat.le_of_ble_eq_true rfl, Nat.le_of_ble_eq_true rfl⟩) hN hE hL (rcv6 hN hT hw.1) rfl rfl hl.1 (Nat.le_of_ble_eq_true rfl) dX5_readSum_60 (Nat.zero_le _) (Nat.zero_le _) (fun r1795 H1 locs hL hqr1795 => ?_)
            obtain ⟨hT1, hF1, hqr1795⟩ := hqr1795
            have hF := hF.tr (hF1.mono (by simp))
            have hT := hT1
            rcases hqr1795 with rfl | rfl
            · refine lv_if_ne (tgt := 68) hx hb dX5_readSum_63 (by decide) (fun c9 => absurd (by decide) c9) (fun _ => ?_)
              refine lv_iconst (v := 0) hx hb dX5_readSum_66 (by decide) ?_
              exact en_i hx hb hr hlocks hL rfl (Nat.zero_le _) (Nat.zero_le _) dX5_readSum_67 (⟨hT, hF, Or.inl rfl⟩)
            · refine lv_if_ne (tgt := 68) hx hb dX5_readSum_63 (by decide) (fun _ => ?_) (fun c9 => absurd c9 (by decide))
              refine lv_aload_n hx hb dX5_readSum_68 rfl (lv_at hl 2 rfl) ?_
              refine lv_iload_n hx hb dX5_readSum_69 rfl (lv_at hl 0 rfl) ?_
              refine cv_v (As := [.int (-5)]) (rest := []) (b := w) ⟨hx, hb, hml, hown, hts⟩ (c_X5_putCode hT (w := w) hw (x := (-5))) (cwV 1 hts gX5_readSum_X5_putCode rfl rfl rfl hdX5_putCode_v ⟨Nat.le_of_ble_eq_true rfl, Nat.le_of_ble_eq_true rfl⟩) hN hE hL (rcv6 hN hT hw.1) rfl rfl hl.1 (Nat.le_of_ble_eq_true rfl) dX5_readSum_70 (Nat.zero_le _) (Nat.zero_le _) (fun H1 locs hL hqr1796 => ?_)
              obtain ⟨hT1, hF1⟩ := hqr1796
              have hF := hF.tr (hF1.mono (by simp))
              have hT := hT1
              refine lv_iinc (v := (nI (k + 1))) (lv' := [(2, .int (nI (k + 1))), (3, .int (-5)), (0, .ref w), (1, .int 2)]) hx hb dX5_readSum_73 hl (k := 1) rfl (nI_add _ 1) (by decide) rfl (fun ls hl => ?_)
              refine lv_goto (tgt := 12) hx hb dX5_readSum_76 (by decide) ?_
              exact ih1784 (k + 1) _ _ _ (by show 600 - ((k + 1)) < 600 - k; omega) ⟨(by show ((k + 1)) ≤ 600; omega), hT, hF, hL⟩ (lv_sub hl [0, 2, 3] rfl)
      · refine lv_if_ne (tgt := 37) hx hb dX5_readSum_25 (by decide) (fun _ => ?_) (fun c9 => absurd c9 (by decide))
        refine lv_aload_n hx hb dX5_readSum_37 rfl (lv_at hl 1 rfl) ?_
        refine lv_bipush (v := 43) hx hb dX5_readSum_38 (by decide) ?_
        refine cv_i (As := [.int 43]) (rest := []) (b := w) ⟨hx, hb, hml, hown, hts⟩ (c_X5_isMark hT (w := w) hw (x := 43)) (cwV 1 hts gX5_readSum_X5_isMark rfl rfl rfl hdX5_isMark_v ⟨Nat.le_of_ble_eq_true rfl, Nat.le_of_ble_eq_true rfl⟩) hN hE hL (rcv6 hN hT hw.1) rfl rfl hl.1 (Nat.le_of_ble_eq_true rfl) dX5_readSum_40 (Nat.zero_le _) (Nat.zero_le _) (fun r1797 H1 locs hL hqr1797 => ?_)
        obtain ⟨h9, hqr1797⟩ := hqr1797; replace h9 := h9.symm; subst h9
        rcases hqr1797 with rfl | rfl
        · refine lv_if_eq (tgt := 51) hx hb dX5_readSum_43 (by decide) (fun _ => ?_) (fun c9 => absurd (by decide) c9)
          refine lv_bipush (v := (-6)) hx hb dX5_readSum_51 (by decide) ?_
          refine lv_istore_n (lv' := [(3, .int (-6)), (2, .int (nI k)), (0, .ref w), (1, .int 2)]) hx hb dX5_readSum_53 rfl hl (by decide) rfl (fun ls hl => ?_)
          refine lv_aload_n hx hb dX5_readSum_54 rfl (lv_at hl 2 rfl) ?_
          refine cv_v (As := []) (rest := []) (b := w) ⟨hx, hb, hml, hown, hts⟩ (c_X5_step hT (w := w) hw) (cwV 0 hts gX5_readSum_X5_step rfl rfl rfl hdX5_step_v ⟨Nat.le_of_ble_eq_true rfl, Nat.le_of_ble_eq_true rfl⟩) hN hE hL (rcv6 hN hT hw.1) rfl rfl hl.1 (Nat.le_of_ble_eq_true rfl) dX5_readSum_55 (Nat.zero_le _) (Nat.zero_le _) (fun H1 locs hL hqr1798 => ?_)
          obtain ⟨hT1, hF1, hqr1798⟩ := hqr1798
          have hF := hF.tr (hF1.mono (by simp))
          have hT := hT1
          have f1799 := hqr1798
          refine lv_aload_n hx hb dX5_readSum_58 rfl (lv_at hl 2 rfl) ?_
          refine lv_iload_n hx hb dX5_readSum_59 rfl (lv_at hl 3 rfl) ?_
          refine cv_i (As := [.int 2]) (rest := []) (b := w) ⟨hx, hb, hml, hown, hts⟩ (c_X5_readTerm_d2 hT (w := w) hw) (cwV 1 hts gX5_readSum_X5_readTerm rfl rfl rfl hdX5_readTerm_v ⟨Nat.le_of_ble_eq_true rfl, Nat.le_of_ble_eq_true rfl⟩) hN hE hL (rcv6 hN hT hw.1) rfl rfl hl.1 (Nat.le_of_ble_eq_true rfl) dX5_readSum_60 (Nat.zero_le _) (Nat.zero_le _) (fun r1800 H1 locs hL hqr1800 => ?_)
          obtain ⟨hT1, hF1, hqr1800⟩ := hqr1800
          have hF := hF.tr (hF1.mono (by simp))
          have hT := hT1
          rcases hqr1800 with rfl | rfl
          · refine lv_if_ne (tgt := 68) hx hb dX5_readSum_63 (by decide) (fun c9 => absurd (by decide) c9) (fun _ => ?_)
            refine lv_iconst (v := 0) hx hb dX5_readSum_66 (by decide) ?_
            exact en_i hx hb hr hlocks hL rfl (Nat.zero_le _) (Nat.zero_le _) dX5_readSum_67 (⟨hT, hF, Or.inl rfl⟩)
          · refine lv_if_ne (tgt := 68) hx hb dX5_readSum_63 (by decide) (fun _ => ?_) (fun c9 => absurd c9 (by decide))
            refine lv_aload_n hx hb dX5_readSum_68 rfl (lv_at hl 2 rfl) ?_
            refine lv_iload_n hx hb dX5_readSum_69 rfl (lv_at hl 0 rfl) ?_
            refine cv_v (As := [.int (-6)]) (rest := []) (b := w) ⟨hx, hb, hml, hown, hts⟩ (c_X5_putCode hT (w := w) hw (x := (-6))) (cwV 1 hts gX5_readSum_X5_putCode rfl rfl rfl hdX5_putCode_v ⟨Nat.le_of_ble_eq_true rfl, Nat.le_of_ble_eq_true rfl⟩) hN hE hL (rcv6 hN hT hw.1) rfl rfl hl.1 (Nat.le_of_ble_eq_true rfl) dX5_readSum_70 (Nat.zero_le _) (Nat.zero_le _) (fun H1 locs hL hqr1801 => ?_)
            obtain ⟨hT1, hF1⟩ := hqr1801
            have hF := hF.tr (hF1.mono (by simp))
            have hT := hT1
            refine lv_iinc (v := (nI (k + 1))) (lv' := [(2, .int (nI (k + 1))), (3, .int (-6)), (0, .ref w), (1, .int 2)]) hx hb dX5_readSum_73 hl (k := 1) rfl (nI_add _ 1) (by decide) rfl (fun ls hl => ?_)
            refine lv_goto (tgt := 12) hx hb dX5_readSum_76 (by decide) ?_
            exact ih1784 (k + 1) _ _ _ (by show 600 - ((k + 1)) < 600 - k; omega) ⟨(by show ((k + 1)) ≤ 600; omega), hT, hF, hL⟩ (lv_sub hl [0, 2, 3] rfl)
        · refine lv_if_eq (tgt := 51) hx hb dX5_readSum_43 (by decide) (fun c9 => absurd c9 (by decide)) (fun _ => ?_)
          refine lv_bipush (v := (-5)) hx hb dX5_readSum_46 (by decide) ?_
          refine lv_goto (tgt := 53) hx hb dX5_readSum_48 (by decide) ?_
          refine lv_istore_n (lv' := [(3, .int (-5)), (2, .int (nI k)), (0, .ref w), (1, .int 2)]) hx hb dX5_readSum_53 rfl hl (by decide) rfl (fun ls hl => ?_)
          refine lv_aload_n hx hb dX5_readSum_54 rfl (lv_at hl 2 rfl) ?_
          refine cv_v (As := []) (rest := []) (b := w) ⟨hx, hb, hml, hown, hts⟩ (c_X5_step hT (w := w) hw) (cwV 0 hts gX5_readSum_X5_step rfl rfl rfl hdX5_step_v ⟨Nat.le_of_ble_eq_true rfl, Nat.le_of_ble_eq_true rfl⟩) hN hE hL (rcv6 hN hT hw.1) rfl rfl hl.1 (Nat.le_of_ble_eq_true rfl) dX5_readSum_55 (Nat.zero_le _) (Nat.zero_le _) (fun H1 locs hL hqr1802 => ?_)
          obtain ⟨hT1, hF1, hqr1802⟩ := hqr1802
          have hF := hF.tr (hF1.mono (by simp))
          have hT := hT1
          have f1803 := hqr1802
          refine lv_aload_n hx hb dX5_readSum_58 rfl (lv_at hl 2 rfl) ?_
          refine lv_iload_n hx hb dX5_readSum_59 rfl (lv_at hl 3 rfl) ?_
          refine cv_i (As := [.int 2]) (rest := []) (b := w) ⟨hx, hb, hml, hown, hts⟩ (c_X5_readTerm_d2 hT (w := w) hw) (cwV 1 hts gX5_readSum_X5_readTerm rfl rfl rfl hdX5_readTerm_v ⟨Nat.le_of_ble_eq_true rfl, Nat.le_of_ble_eq_true rfl⟩) hN hE hL (rcv6 hN hT hw.1) rfl rfl hl.1 (Nat.le_of_ble_eq_true rfl) dX5_readSum_60 (Nat.zero_le _) (Nat.zero_le _) (fun r1804 H1 locs hL hqr1804 => ?_)
          obtain ⟨hT1, hF1, hqr1804⟩ := hqr1804
          have hF := hF.tr (hF1.mono (by simp))
          have hT := hT1
          rcases hqr1804 with rfl | rfl
          · refine lv_if_ne (tgt := 68) hx hb dX5_readSum_63 (by decide) (fun c9 => absurd (by decide) c9) (fun _ => ?_)
            refine lv_iconst (v := 0) hx hb dX5_readSum_66 (by decide) ?_
            exact en_i hx hb hr hlocks hL rfl (Nat.zero_le _) (Nat.zero_le _) dX5_readSum_67 (⟨hT, hF, Or.inl rfl⟩)
          · refine lv_if_ne (tgt := 68) hx hb dX5_readSum_63 (by decide) (fun _ => ?_) (fun c9 => absurd c9 (by decide))
            refine lv_aload_n hx hb dX5_readSum_68 rfl (lv_at hl 2 rfl) ?_
            refine lv_iload_n hx hb dX5_readSum_69 rfl (lv_at hl 0 rfl) ?_
            refine cv_v (As := [.int (-5)]) (rest := []) (b := w) ⟨hx, hb, hml, hown, hts⟩ (c_X5_putCode hT (w := w) hw (x := (-5))) (cwV 1 hts gX5_readSum_X5_putCode rfl rfl rfl hdX5_putCode_v ⟨Nat.le_of_ble_eq_true rfl, Nat.le_of_ble_eq_true rfl⟩) hN hE hL (rcv6 hN hT hw.1) rfl rfl hl.1 (Nat.le_of_ble_eq_true rfl) dX5_readSum_70 (Nat.zero_le _) (Nat.zero_le _) (fun H1 locs hL hqr1805 => ?_)
            obtain ⟨hT1, hF1⟩ := hqr1805
            have hF := hF.tr (hF1.mono (by simp))
            have hT := hT1
            refine lv_iinc (v := (nI (k + 1))) (lv' := [(2, .int (nI (k + 1))), (3, .int (-5)), (0, .ref w), (1, .int 2)]) hx hb dX5_readSum_73 hl (k := 1) rfl (nI_add _ 1) (by decide) rfl (fun ls hl => ?_)
            refine lv_goto (tgt := 12) hx hb dX5_readSum_76 (by decide) ?_
            exact ih1784 (k + 1) _ _ _ (by show 600 - ((k + 1)) < 600 - k; omega) ⟨(by show ((k + 1)) ≤ 600; omega), hT, hF, hL⟩ (lv_sub hl [0, 2, 3] rfl)
set_option maxHeartbeats 4000000 in
set_option maxRecDepth 100000 in
theorem c_X5_readFactor_d1 {l : Launch} {D : va_G} {cs : Nat → ClassId} {B0 T : Nat} {κ : KM} {H0 : Heap} (hT : WT B0 D cs T κ H0) {w : Nat} (hw : T2 κ w 6 10) : KC l yX5_readFactor wsX5_readFactor 15 331 0 0 D cs B0 H0 [.ref w, .int 1] (Qi (fun r H => WT B0 D cs T κ H ∧ Fr B0 [10] κ H0 H ∧ (r = 0 ∨ r = 1))) := by
  refine KC.of cX5_readFactor 3 (some .boolean) (by decide) rfl (Nat.le_of_ble_eq_true rfl) ?_
  intro p e s m below meth c ls hx hb hr hml hown hts hlocks hin hN hE hH0 hl
  have hown : s.vm.findClass RX5 = some m.cls := hown
  have hl : lv_has ls 3 [(0, .ref w), (1, .int 1)] := hl
  have hL : OkL B0 [] := OkL.nil
  have hF : Fr B0 [10] κ H0 H0 := Fr.rf
  refine lv_aload_n hx hb dX5_readFactor_0 rfl (lv_at hl 0 rfl) ?_
  obtain ⟨hb1806, e1806, hat1806, hk1806⟩ := hT.o6 hw.1
  obtain ⟨f1806_0, f1806_2, f1806_3, f1806_4, f1806_5, f1806_6, f1806_7, f1806_8, f1806_9, f1806_10, f1806_11, f1806_12, f1806_13, rfl, c1806_1, c1806_2, c1806_3, c1806_5, c1806_10, t1806_0, t1806_9, c1806_11, c1806_p2⟩ := hk1806
  have hP : va_P D vwCl [(w, .inr (5, [.ref f1806_0, .int (nI ((κ w).2.2.1)), .int (nI f1806_2), .int (nI f1806_3), .int f1806_4, .int (nI f1806_5), .int f1806_6, .int f1806_7, .int f1806_8, .ref f1806_9, .int (nI f1806_10), f1806_11, .int f1806_12, .int f1806_13]))] _ := va_P.cons hat1806 va_P.nil
  refine va_get (D := D) (ci := 5) (v := .int f1806_4) (C := RX5) (T := TX5) (N := 14) hx hb hts iX5_readFactor_5 hown hN.1 hP 0 rfl rfl 4 (by decide) (hts _ mX5_readFactor_1) (fun _ h9 => h9) rfl dX5_readFactor_1 ?_
  refine lv_iconst (v := 1) hx hb dX5_readFactor_4 (by decide) ?_
  refine lv_icmp_ne (tgt := 31) hx hb dX5_readFactor_5 (by decide) (fun c1807 => ?_) (fun c1807 => ?_)
  · refine lv_aload_n hx hb dX5_readFactor_31 rfl (lv_at hl 0 rfl) ?_
    refine lv_bipush (v := 40) hx hb dX5_readFactor_32 (by decide) ?_
    refine cv_i (As := [.int 40]) (rest := []) (b := w) ⟨hx, hb, hml, hown, hts⟩ (c_X5_isMark hT (w := w) hw (x := 40)) (cwV 1 hts gX5_readFactor_X5_isMark rfl rfl rfl hdX5_isMark_v ⟨Nat.le_of_ble_eq_true rfl, Nat.le_of_ble_eq_true rfl⟩) hN hE hL (rcv6 hN hT hw.1) rfl rfl hl.1 (Nat.le_of_ble_eq_true rfl) dX5_readFactor_34 (Nat.zero_le _) (Nat.zero_le _) (fun r1808 H1 locs hL hqr1808 => ?_)
    obtain ⟨h9, hqr1808⟩ := hqr1808; replace h9 := h9.symm; subst h9
    rcases hqr1808 with rfl | rfl
    · refine lv_if_eq (tgt := 85) hx hb dX5_readFactor_37 (by decide) (fun _ => ?_) (fun c9 => absurd (by decide) c9)
      refine lv_aload_n hx hb dX5_readFactor_85 rfl (lv_at hl 0 rfl) ?_
      refine cv_i (As := []) (rest := []) (b := w) ⟨hx, hb, hml, hown, hts⟩ (c_X5_codeOfWord hT (w := w) hw) (cwV 0 hts gX5_readFactor_X5_codeOfWord rfl rfl rfl hdX5_codeOfWord_v ⟨Nat.le_of_ble_eq_true rfl, Nat.le_of_ble_eq_true rfl⟩) hN hE hL (rcv6 hN hT hw.1) rfl rfl hl.1 (Nat.le_of_ble_eq_true rfl) dX5_readFactor_86 (Nat.zero_le _) (Nat.zero_le _) (fun r1809 H1 locs hL hqr1809 => ?_)
      obtain rfl := hqr1809.symm
      refine lv_istore_n (lv' := [(2, .int r1809), (0, .ref w), (1, .int 1)]) hx hb dX5_readFactor_89 rfl hl (by decide) rfl (fun ls hl => ?_)
      refine lv_iload_n hx hb dX5_readFactor_90 rfl (lv_at hl 0 rfl) ?_
      refine lv_if_ne (tgt := 105) hx hb dX5_readFactor_91 (by decide) (fun c1810 => ?_) (fun c1810 => ?_)
      · refine lv_aload_n hx hb dX5_readFactor_105 rfl (lv_at hl 1 rfl) ?_
        refine lv_iload_n hx hb dX5_readFactor_106 rfl (lv_at hl 0 rfl) ?_
        refine cv_v (As := [.int r1809]) (rest := []) (b := w) ⟨hx, hb, hml, hown, hts⟩ (c_X5_putCode hT (w := w) hw (x := r1809)) (cwV 1 hts gX5_readFactor_X5_putCode rfl rfl rfl hdX5_putCode_v ⟨Nat.le_of_ble_eq_true rfl, Nat.le_of_ble_eq_true rfl⟩) hN hE hL (rcv6 hN hT hw.1) rfl rfl hl.1 (Nat.le_of_ble_eq_true rfl) dX5_readFactor_107 (Nat.zero_le _) (Nat.zero_le _) (fun H1 locs hL hqr1811 => ?_)
        obtain ⟨hT1, hF1⟩ := hqr1811
        have hF := hF.tr (hF1.mono (by simp))
        have hT := hT1
        refine lv_aload_n hx hb dX5_readFactor_110 rfl (lv_at hl 1 rfl) ?_
        refine cv_v (As := []) (rest := []) (b := w) ⟨hx, hb, hml, hown, hts⟩ (c_X5_step hT (w := w) hw) (cwV 0 hts gX5_readFactor_X5_step rfl rfl rfl hdX5_step_v ⟨Nat.le_of_ble_eq_true rfl, Nat.le_of_ble_eq_true rfl⟩) hN hE hL (rcv6 hN hT hw.1) rfl rfl hl.1 (Nat.le_of_ble_eq_true rfl) dX5_readFactor_111 (Nat.zero_le _) (Nat.zero_le _) (fun H1 locs hL hqr1812 => ?_)
        obtain ⟨hT1, hF1, hqr1812⟩ := hqr1812
        have hF := hF.tr (hF1.mono (by simp))
        have hT := hT1
        have f1813 := hqr1812
        refine lv_iconst (v := 1) hx hb dX5_readFactor_114 (by decide) ?_
        exact en_i hx hb hr hlocks hL rfl (Nat.zero_le _) (Nat.zero_le _) dX5_readFactor_115 (⟨hT, hF, Or.inr rfl⟩)
      · refine lv_aload_n hx hb dX5_readFactor_94 rfl (lv_at hl 1 rfl) ?_
        refine lv_bipush (v := (-2)) hx hb dX5_readFactor_95 (by decide) ?_
        refine lv_aload_n hx hb dX5_readFactor_97 rfl (lv_at hl 1 rfl) ?_
        refine va_get (D := D) (ci := 5) (v := .int (nI f1806_5)) (C := RX5) (T := TX5) (N := 14) hx hb hts iX5_readFactor_5 hown hN.1 hP 0 rfl rfl 5 (by decide) (hts _ mX5_readFactor_3) (fun _ h9 => h9) rfl dX5_readFactor_98 ?_
        refine cv_i (As := [.int (-2), .int (nI f1806_5)]) (rest := []) (b := w) ⟨hx, hb, hml, hown, hts⟩ (c_X5_fail hT (w := w) hw (x := (-2)) (y := (nI f1806_5))) (cwV 2 hts gX5_readFactor_X5_fail rfl rfl rfl hdX5_fail_v ⟨Nat.le_of_ble_eq_true rfl, Nat.le_of_ble_eq_true rfl⟩) hN hE hL (rcv6 hN hT hw.1) rfl rfl hl.1 (Nat.le_of_ble_eq_true rfl) dX5_readFactor_101 (Nat.zero_le _) (Nat.zero_le _) (fun r1814 H1 locs hL hqr1814 => ?_)
        obtain ⟨hT1, hF1, hqr1814⟩ := hqr1814
        have hF := hF.tr (hF1.mono (by simp))
        have hT := hT1
        obtain rfl := hqr1814
        exact en_i hx hb hr hlocks hL rfl (Nat.zero_le _) (Nat.zero_le _) dX5_readFactor_104 (⟨hT, hF, Or.inl rfl⟩)
    · refine lv_if_eq (tgt := 85) hx hb dX5_readFactor_37 (by decide) (fun c9 => absurd c9 (by decide)) (fun _ => ?_)
      refine lv_iload_n hx hb dX5_readFactor_40 rfl (lv_at hl 1 rfl) ?_
      refine lv_iconst (v := 4) hx hb dX5_readFactor_41 (by decide) ?_
      refine lv_icmp_lt (tgt := 56) hx hb dX5_readFactor_42 (by decide) (fun _ => ?_) (fun c9 => absurd (by decide) c9)
      refine lv_aload_n hx hb dX5_readFactor_56 rfl (lv_at hl 0 rfl) ?_
      refine cv_v (As := []) (rest := []) (b := w) ⟨hx, hb, hml, hown, hts⟩ (c_X5_step hT (w := w) hw) (cwV 0 hts gX5_readFactor_X5_step rfl rfl rfl hdX5_step_v ⟨Nat.le_of_ble_eq_true rfl, Nat.le_of_ble_eq_true rfl⟩) hN hE hL (rcv6 hN hT hw.1) rfl rfl hl.1 (Nat.le_of_ble_eq_true rfl) dX5_readFactor_57 (Nat.zero_le _) (Nat.zero_le _) (fun H1 locs hL hqr1815 => ?_)
      obtain ⟨hT1, hF1, hqr1815⟩ := hqr1815
      have hF := hF.tr (hF1.mono (by simp))
      have hT := hT1
      have f1816 := hqr1815
      refine lv_aload_n hx hb dX5_readFactor_60 rfl (lv_at hl 0 rfl) ?_
      refine lv_iload_n hx hb dX5_readFactor_61 rfl (lv_at hl 1 rfl) ?_
      refine lv_iconst (v := 1) hx hb dX5_readFactor_62 (by decide) ?_
      refine lv_iadd hx hb dX5_readFactor_63 ?_
      refine tp_i 2 (by decide) ?_
      refine cv_i (As := [.int 2]) (rest := []) (b := w) ⟨hx, hb, hml, hown, hts⟩ (c_X5_readSum_d2 hT (w := w) hw) (cwV 1 hts gX5_readFactor_X5_readSum rfl rfl rfl hdX5_readSum_v ⟨Nat.le_of_ble_eq_true rfl, Nat.le_of_ble_eq_true rfl⟩) hN hE hL (rcv6 hN hT hw.1) rfl rfl hl.1 (Nat.le_of_ble_eq_true rfl) dX5_readFactor_64 (Nat.zero_le _) (Nat.zero_le _) (fun r1817 H1 locs hL hqr1817 => ?_)
      obtain ⟨hT1, hF1, hqr1817⟩ := hqr1817
      have hF := hF.tr (hF1.mono (by simp))
      have hT := hT1
      rcases hqr1817 with rfl | rfl
      · refine lv_if_eq (tgt := 83) hx hb dX5_readFactor_67 (by decide) (fun _ => ?_) (fun c9 => absurd (by decide) c9)
        refine lv_iconst (v := 0) hx hb dX5_readFactor_83 (by decide) ?_
        exact en_i hx hb hr hlocks hL rfl (Nat.zero_le _) (Nat.zero_le _) dX5_readFactor_84 (⟨hT, hF, Or.inl rfl⟩)
      · refine lv_if_eq (tgt := 83) hx hb dX5_readFactor_67 (by decide) (fun c9 => absurd c9 (by decide)) (fun _ => ?_)
        refine lv_aload_n hx hb dX5_readFactor_70 rfl (lv_at hl 0 rfl) ?_
        refine lv_bipush (v := 41) hx hb dX5_readFactor_71 (by decide) ?_
        refine cv_i (As := [.int 41]) (rest := []) (b := w) ⟨hx, hb, hml, hown, hts⟩ (c_X5_takeMark hT (w := w) hw (x := 41)) (cwV 1 hts gX5_readFactor_X5_takeMark rfl rfl rfl hdX5_takeMark_v ⟨Nat.le_of_ble_eq_true rfl, Nat.le_of_ble_eq_true rfl⟩) hN hE hL (rcv6 hN hT hw.1) rfl rfl hl.1 (Nat.le_of_ble_eq_true rfl) dX5_readFactor_73 (Nat.zero_le _) (Nat.zero_le _) (fun r1818 H1 locs hL hqr1818 => ?_)
        obtain ⟨hT1, hF1, hqr1818⟩ := hqr1818
        have hF := hF.tr (hF1.mono (by simp))
        have hT := hT1
        rcases hqr1818 with rfl | rfl
        · refine lv_if_eq (tgt := 83) hx hb dX5_readFactor_76 (by decide) (fun _ => ?_) (fun c9 => absurd (by decide) c9)
          refine lv_iconst (v := 0) hx hb dX5_readFactor_83 (by decide) ?_
          exact en_i hx hb hr hlocks hL rfl (Nat.zero_le _) (Nat.zero_le _) dX5_readFactor_84 (⟨hT, hF, Or.inl rfl⟩)
        · refine lv_if_eq (tgt := 83) hx hb dX5_readFactor_76 (by decide) (fun c9 => absurd c9 (by decide)) (fun _ => ?_)
          refine lv_iconst (v := 1) hx hb dX5_readFactor_79 (by decide) ?_
          refine lv_goto (tgt := 84) hx hb dX5_readFactor_80 (by decide) ?_
          exact en_i hx hb hr hlocks hL rfl (Nat.zero_le _) (Nat.zero_le _) dX5_readFactor_84 (⟨hT, hF, Or.inr rfl⟩)
  · refine lv_aload_n hx hb dX5_readFactor_8 rfl (lv_at hl 0 rfl) ?_
    refine lv_iconst (v := 0) hx hb dX5_readFactor_9 (by decide) ?_
    refine lv_sipush (v := 9999) hx hb dX5_readFactor_10 (by decide) ?_
    refine cv_i (As := [.int 0, .int 9999]) (rest := []) (b := w) ⟨hx, hb, hml, hown, hts⟩ (c_X5_takeNumber hT (w := w) hw (x := 0) (y := 9999)) (cwV 2 hts gX5_readFactor_X5_takeNumber rfl rfl rfl hdX5_takeNumber_v ⟨Nat.le_of_ble_eq_true rfl, Nat.le_of_ble_eq_true rfl⟩) hN hE hL (rcv6 hN hT hw.1) rfl rfl hl.1 (Nat.le_of_ble_eq_true rfl) dX5_readFactor_13 (Nat.zero_le _) (Nat.zero_le _) (fun r1819 H1 locs hL hqr1819 => ?_)
    obtain ⟨hT1, hF1, hqr1819⟩ := hqr1819
    have hF := hF.tr (hF1.mono (by simp))
    have hT := hT1
    rcases hqr1819 with rfl | ⟨rfl, v1820, l1821, g1822, f1823⟩
    · refine lv_if_ne (tgt := 21) hx hb dX5_readFactor_16 (by decide) (fun c9 => absurd (by decide) c9) (fun _ => ?_)
      refine lv_iconst (v := 0) hx hb dX5_readFactor_19 (by decide) ?_
      exact en_i hx hb hr hlocks hL rfl (Nat.zero_le _) (Nat.zero_le _) dX5_readFactor_20 (⟨hT, hF, Or.inl rfl⟩)
    · obtain ⟨n1824, hn1824a, hn1824b, rfl⟩ := rng (x := v1820) (lo := 0) (hi := 9999) (by decide) (by decide) l1821 g1822
      refine lv_if_ne (tgt := 21) hx hb dX5_readFactor_16 (by decide) (fun _ => ?_) (fun c9 => absurd c9 (by decide))
      refine lv_aload_n hx hb dX5_readFactor_21 rfl (lv_at hl 0 rfl) ?_
      refine lv_aload_n hx hb dX5_readFactor_22 rfl (lv_at hl 0 rfl) ?_
      obtain ⟨hb1825, e1825, hat1825, hk1825⟩ := hT.o6 hw.1
      obtain ⟨f1825_0, f1825_2, f1825_3, f1825_4, f1825_5, f1825_6, f1825_7, f1825_8, f1825_9, f1825_10, f1825_11, f1825_12, f1825_13, rfl, c1825_1, c1825_2, c1825_3, c1825_5, c1825_10, t1825_0, t1825_9, c1825_11, c1825_p2⟩ := hk1825
      obtain rfl : f1825_7 = nI n1824 := Value.int.inj (f1823.eq hat1825 rfl (by decide) rfl)
      have hP : va_P D vwCl [(w, .inr (5, [.ref f1825_0, .int (nI ((κ w).2.2.1)), .int (nI f1825_2), .int (nI f1825_3), .int f1825_4, .int (nI f1825_5), .int f1825_6, .int (nI n1824), .int f1825_8, .ref f1825_9, .int (nI f1825_10), f1825_11, .int f1825_12, .int f1825_13]))] _ := va_P.cons hat1825 va_P.nil
      refine va_get (D := D) (ci := 5) (v := .int (nI n1824)) (C := RX5) (T := TX5) (N := 14) hx hb hts iX5_readFactor_5 hown hN.1 hP 0 rfl rfl 7 (by decide) (hts _ mX5_readFactor_2) (fun _ h9 => h9) rfl dX5_readFactor_23 ?_
      refine cv_v (As := [.int (nI n1824)]) (rest := []) (b := w) ⟨hx, hb, hml, hown, hts⟩ (c_X5_putCode hT (w := w) hw (x := (nI n1824))) (cwV 1 hts gX5_readFactor_X5_putCode rfl rfl rfl hdX5_putCode_v ⟨Nat.le_of_ble_eq_true rfl, Nat.le_of_ble_eq_true rfl⟩) hN hE hL (rcv6 hN hT hw.1) rfl rfl hl.1 (Nat.le_of_ble_eq_true rfl) dX5_readFactor_26 (Nat.zero_le _) (Nat.zero_le _) (fun H1 locs hL hqr1826 => ?_)
      obtain ⟨hT1, hF1⟩ := hqr1826
      have hF := hF.tr (hF1.mono (by simp))
      have hT := hT1
      refine lv_iconst (v := 1) hx hb dX5_readFactor_29 (by decide) ?_
      exact en_i hx hb hr hlocks hL rfl (Nat.zero_le _) (Nat.zero_le _) dX5_readFactor_30 (⟨hT, hF, Or.inr rfl⟩)
set_option maxHeartbeats 4000000 in
set_option maxRecDepth 100000 in
theorem c_X5_readTerm_d1 {l : Launch} {D : va_G} {cs : Nat → ClassId} {B0 T : Nat} {κ : KM} {H0 : Heap} (hT : WT B0 D cs T κ H0) {w : Nat} (hw : T2 κ w 6 10) : KC l yX5_readTerm wsX5_readTerm 16 353 0 0 D cs B0 H0 [.ref w, .int 1] (Qi (fun r H => WT B0 D cs T κ H ∧ Fr B0 [10] κ H0 H ∧ (r = 0 ∨ r = 1))) := by
  refine KC.of cX5_readTerm 4 (some .boolean) (by decide) rfl (Nat.le_of_ble_eq_true rfl) ?_
  intro p e s m below meth c ls hx hb hr hml hown hts hlocks hin hN hE hH0 hl
  have hown : s.vm.findClass RX5 = some m.cls := hown
  have hl : lv_has ls 4 [(0, .ref w), (1, .int 1)] := hl
  have hL : OkL B0 [] := OkL.nil
  have hF : Fr B0 [10] κ H0 H0 := Fr.rf
  refine lv_aload_n hx hb dX5_readTerm_0 rfl (lv_at hl 0 rfl) ?_
  refine lv_iload_n hx hb dX5_readTerm_1 rfl (lv_at hl 1 rfl) ?_
  refine cv_i (As := [.int 1]) (rest := []) (b := w) ⟨hx, hb, hml, hown, hts⟩ (c_X5_readFactor_d1 hT (w := w) hw) (cwV 1 hts gX5_readTerm_X5_readFactor rfl rfl rfl hdX5_readFactor_v ⟨Nat.le_of_ble_eq_true rfl, Nat.le_of_ble_eq_true rfl⟩) hN hE hL (rcv6 hN hT hw.1) rfl rfl hl.1 (Nat.le_of_ble_eq_true rfl) dX5_readTerm_2 (Nat.zero_le _) (Nat.zero_le _) (fun r1827 H1 locs hL hqr1827 => ?_)
  obtain ⟨hT1, hF1, hqr1827⟩ := hqr1827
  have hF := hF.tr (hF1.mono (by simp))
  have hT := hT1
  rcases hqr1827 with rfl | rfl
  · refine lv_if_ne (tgt := 10) hx hb dX5_readTerm_5 (by decide) (fun c9 => absurd (by decide) c9) (fun _ => ?_)
    refine lv_iconst (v := 0) hx hb dX5_readTerm_8 (by decide) ?_
    exact en_i hx hb hr hlocks hL rfl (Nat.zero_le _) (Nat.zero_le _) dX5_readTerm_9 (⟨hT, hF, Or.inl rfl⟩)
  · refine lv_if_ne (tgt := 10) hx hb dX5_readTerm_5 (by decide) (fun _ => ?_) (fun c9 => absurd c9 (by decide))
    refine lv_iconst (v := 0) hx hb dX5_readTerm_10 (by decide) ?_
    refine lv_istore_n (lv' := [(2, .int 0), (0, .ref w), (1, .int 1)]) hx hb dX5_readTerm_11 rfl hl (by decide) rfl (fun ls hl => ?_)
    refine lp_m (α := Nat) (nL := 4) (fun a9 => 600 - a9) (fun a9 H9 l9 => (a9 ≤ 600) ∧ (WT B0 D cs T κ H9) ∧ (Fr B0 [10] κ H0 H9) ∧ (OkL B0 l9)) (fun a9 => [(2, .int (nI a9)), (0, .ref w), (1, .int 1)]) ?_ 0 _ _ _ ⟨(by show (0) ≤ 600; omega), hT, hF, hL⟩ (lv_sub hl [0, 1, 2] rfl)
    rintro k H locs ls ih1828 ⟨hk, hT, hF, hL⟩ hl
    have hl : lv_has ls 4 [(2, .int (nI k)), (0, .ref w), (1, .int 1)] := hl
    have hk : k ≤ 600 := hk
    refine lv_iload_n hx hb dX5_readTerm_12 rfl (lv_at hl 0 rfl) ?_
    refine lv_sipush (v := 600) hx hb dX5_readTerm_13 (by decide) ?_
    refine lv_icmp_ge (tgt := 79) hx hb dX5_readTerm_16 (by decide) (fun c1829 => ?_) (fun c1829 => ?_)
    · have c1829 : 600 ≤ k := (nI_leI (a := 600) (b := k) (by omega) (by omega)).mp c1829
      refine lv_iconst (v := 1) hx hb dX5_readTerm_79 (by decide) ?_
      exact en_i hx hb hr hlocks hL rfl (Nat.zero_le _) (Nat.zero_le _) dX5_readTerm_80 (⟨hT, hF, Or.inr rfl⟩)
    · have c1829 : ¬ 600 ≤ k := fun h9 => c1829 ((nI_leI (a := 600) (b := k) (by omega) (by omega)).mpr h9)
      refine lv_aload_n hx hb dX5_readTerm_19 rfl (lv_at hl 1 rfl) ?_
      refine lv_bipush (v := 42) hx hb dX5_readTerm_20 (by decide) ?_
      refine cv_i (As := [.int 42]) (rest := []) (b := w) ⟨hx, hb, hml, hown, hts⟩ (c_X5_isMark hT (w := w) hw (x := 42)) (cwV 1 hts gX5_readTerm_X5_isMark rfl rfl rfl hdX5_isMark_v ⟨Nat.le_of_ble_eq_true rfl, Nat.le_of_ble_eq_true rfl⟩) hN hE hL (rcv6 hN hT hw.1) rfl rfl hl.1 (Nat.le_of_ble_eq_true rfl) dX5_readTerm_22 (Nat.zero_le _) (Nat.zero_le _) (fun r1830 H1 locs hL hqr1830 => ?_)
      obtain ⟨h9, hqr1830⟩ := hqr1830; replace h9 := h9.symm; subst h9
      rcases hqr1830 with rfl | rfl
      · refine lv_if_ne (tgt := 37) hx hb dX5_readTerm_25 (by decide) (fun c9 => absurd (by decide) c9) (fun _ => ?_)
        refine lv_aload_n hx hb dX5_readTerm_28 rfl (lv_at hl 1 rfl) ?_
        refine lv_bipush (v := 47) hx hb dX5_readTerm_29 (by decide) ?_
        refine cv_i (As := [.int 47]) (rest := []) (b := w) ⟨hx, hb, hml, hown, hts⟩ (c_X5_isMark hT (w := w) hw (x := 47)) (cwV 1 hts gX5_readTerm_X5_isMark rfl rfl rfl hdX5_isMark_v ⟨Nat.le_of_ble_eq_true rfl, Nat.le_of_ble_eq_true rfl⟩) hN hE hL (rcv6 hN hT hw.1) rfl rfl hl.1 (Nat.le_of_ble_eq_true rfl) dX5_readTerm_31 (Nat.zero_le _) (Nat.zero_le _) (fun r1831 H1 locs hL hqr1831 => ?_)
        obtain ⟨h9, hqr1831⟩ := hqr1831; replace h9 := h9.symm; subst h9
        rcases hqr1831 with rfl | rfl
        · refine lv_if_eq (tgt := 79) hx hb dX5_readTerm_34 (by decide) (fun _ => ?_) (fun c9 => absurd (by decide) c9)
          refine lv_iconst (v := 1) hx hb dX5_readTerm_79 (by decide) ?_
          exact en_i hx hb hr hlocks hL rfl (Nat.zero_le _) (Nat.zero_le _) dX5_readTerm_80 (⟨hT, hF, Or.inr rfl⟩)
        · refine lv_if_eq (tgt := 79) hx hb dX5_readTerm_34 (by decide) (fun c9 => absurd c9 (by decide)) (fun _ => ?_)
          refine lv_aload_n hx hb dX5_readTerm_37 rfl (lv_at hl 1 rfl) ?_
          refine lv_bipush (v := 42) hx hb dX5_readTerm_38 (by decide) ?_
          refine cv_i (As := [.int 42]) (rest := []) (b := w) ⟨hx, hb, hml, hown, hts⟩ (c_X5_isMark hT (w := w) hw (x := 42)) (cwV 1 hts gX5_readTerm_X5_isMark rfl rfl rfl hdX5_isMark_v ⟨Nat.le_of_ble_eq_true rfl, Nat.le_of_ble_eq_true rfl⟩) hN hE hL (rcv6 hN hT hw.1) rfl rfl hl.1 (Nat.le_of_ble_eq_true rfl) dX5_readTerm_40 (Nat.zero_le _) (Nat.zero_le _) (fun r1832 H1 locs hL hqr1832 => ?_)
          obtain ⟨h9, hqr1832⟩ := hqr1832; replace h9 := h9.symm; subst h9
          rcases hqr1832 with rfl | rfl
          · refine lv_if_eq (tgt := 51) hx hb dX5_readTerm_43 (by decide) (fun _ => ?_) (fun c9 => absurd (by decide) c9)
            refine lv_bipush (v := (-8)) hx hb dX5_readTerm_51 (by decide) ?_
            refine lv_istore_n (lv' := [(3, .int (-8)), (2, .int (nI k)), (0, .ref w), (1, .int 1)]) hx hb dX5_readTerm_53 rfl hl (by decide) rfl (fun ls hl => ?_)
            refine lv_aload_n hx hb dX5_readTerm_54 rfl (lv_at hl 2 rfl) ?_
            refine cv_v (As := []) (rest := []) (b := w) ⟨hx, hb, hml, hown, hts⟩ (c_X5_step hT (w := w) hw) (cwV 0 hts gX5_readTerm_X5_step rfl rfl rfl hdX5_step_v ⟨Nat.le_of_ble_eq_true rfl, Nat.le_of_ble_eq_true rfl⟩) hN hE hL (rcv6 hN hT hw.1) rfl rfl hl.1 (Nat.le_of_ble_eq_true rfl) dX5_readTerm_55 (Nat.zero_le _) (Nat.zero_le _) (fun H1 locs hL hqr1833 => ?_)
            obtain ⟨hT1, hF1, hqr1833⟩ := hqr1833
            have hF := hF.tr (hF1.mono (by simp))
            have hT := hT1
            have f1834 := hqr1833
            refine lv_aload_n hx hb dX5_readTerm_58 rfl (lv_at hl 2 rfl) ?_
            refine lv_iload_n hx hb dX5_readTerm_59 rfl (lv_at hl 3 rfl) ?_
            refine cv_i (As := [.int 1]) (rest := []) (b := w) ⟨hx, hb, hml, hown, hts⟩ (c_X5_readFactor_d1 hT (w := w) hw) (cwV 1 hts gX5_readTerm_X5_readFactor rfl rfl rfl hdX5_readFactor_v ⟨Nat.le_of_ble_eq_true rfl, Nat.le_of_ble_eq_true rfl⟩) hN hE hL (rcv6 hN hT hw.1) rfl rfl hl.1 (Nat.le_of_ble_eq_true rfl) dX5_readTerm_60 (Nat.zero_le _) (Nat.zero_le _) (fun r1835 H1 locs hL hqr1835 => ?_)
            obtain ⟨hT1, hF1, hqr1835⟩ := hqr1835
            have hF := hF.tr (hF1.mono (by simp))
            have hT := hT1
            rcases hqr1835 with rfl | rfl
            · refine lv_if_ne (tgt := 68) hx hb dX5_readTerm_63 (by decide) (fun c9 => absurd (by decide) c9) (fun _ => ?_)
              refine lv_iconst (v := 0) hx hb dX5_readTerm_66 (by decide) ?_
              exact en_i hx hb hr hlocks hL rfl (Nat.zero_le _) (Nat.zero_le _) dX5_readTerm_67 (⟨hT, hF, Or.inl rfl⟩)
            · refine lv_if_ne (tgt := 68) hx hb dX5_readTerm_63 (by decide) (fun _ => ?_) (fun c9 => absurd c9 (by decide))
              refine lv_aload_n hx hb dX5_readTerm_68 rfl (lv_at hl 2 rfl) ?_
              refine lv_iload_n hx hb dX5_readTerm_69 rfl (lv_at hl 0 rfl) ?_
              refine cv_v (As := [.int (-8)]) (rest := []) (b := w) ⟨hx, hb, hml, hown, hts⟩ (c_X5_putCode hT (w := w) hw (x := (-8))) (cwV 1 hts gX5_readTerm_X5_putCode rfl rfl rfl hdX5_putCode_v ⟨Nat.le_of_ble_eq_true rfl, Nat.le_of_ble_eq_true rfl⟩) hN hE hL (rcv6 hN hT hw.1) rfl rfl hl.1 (Nat.le_of_ble_eq_true rfl) dX5_readTerm_70 (Nat.zero_le _) (Nat.zero_le _) (fun H1 locs hL hqr1836 => ?_)
              obtain ⟨hT1, hF1⟩ := hqr1836
              have hF := hF.tr (hF1.mono (by simp))
              have hT := hT1
              refine lv_iinc (v := (nI (k + 1))) (lv' := [(2, .int (nI (k + 1))), (3, .int (-8)), (0, .ref w), (1, .int 1)]) hx hb dX5_readTerm_73 hl (k := 1) rfl (nI_add _ 1) (by decide) rfl (fun ls hl => ?_)
              refine lv_goto (tgt := 12) hx hb dX5_readTerm_76 (by decide) ?_
              exact ih1828 (k + 1) _ _ _ (by show 600 - ((k + 1)) < 600 - k; omega) ⟨(by show ((k + 1)) ≤ 600; omega), hT, hF, hL⟩ (lv_sub hl [0, 2, 3] rfl)
          · refine lv_if_eq (tgt := 51) hx hb dX5_readTerm_43 (by decide) (fun c9 => absurd c9 (by decide)) (fun _ => ?_)
            refine lv_bipush (v := (-7)) hx hb dX5_readTerm_46 (by decide) ?_
            refine lv_goto (tgt := 53) hx hb dX5_readTerm_48 (by decide) ?_
            refine lv_istore_n (lv' := [(3, .int (-7)), (2, .int (nI k)), (0, .ref w), (1, .int 1)]) hx hb dX5_readTerm_53 rfl hl (by decide) rfl (fun ls hl => ?_)
            refine lv_aload_n hx hb dX5_readTerm_54 rfl (lv_at hl 2 rfl) ?_
            refine cv_v (As := []) (rest := []) (b := w) ⟨hx, hb, hml, hown, hts⟩ (c_X5_step hT (w := w) hw) (cwV 0 hts gX5_readTerm_X5_step rfl rfl rfl hdX5_step_v ⟨Nat.le_of_ble_eq_true rfl, Nat.le_of_ble_eq_true rfl⟩) hN hE hL (rcv6 hN hT hw.1) rfl rfl hl.1 (Nat.le_of_ble_eq_true rfl) dX5_readTerm_55 (Nat.zero_le _) (Nat.zero_le _) (fun H1 locs hL hqr1837 => ?_)
            obtain ⟨hT1, hF1, hqr1837⟩ := hqr1837
            have hF := hF.tr (hF1.mono (by simp))
            have hT := hT1
            have f1838 := hqr1837
            refine lv_aload_n hx hb dX5_readTerm_58 rfl (lv_at hl 2 rfl) ?_
            refine lv_iload_n hx hb dX5_readTerm_59 rfl (lv_at hl 3 rfl) ?_
            refine cv_i (As := [.int 1]) (rest := []) (b := w) ⟨hx, hb, hml, hown, hts⟩ (c_X5_readFactor_d1 hT (w := w) hw) (cwV 1 hts gX5_readTerm_X5_readFactor rfl rfl rfl hdX5_readFactor_v ⟨Nat.le_of_ble_eq_true rfl, Nat.le_of_ble_eq_true rfl⟩) hN hE hL (rcv6 hN hT hw.1) rfl rfl hl.1 (Nat.le_of_ble_eq_true rfl) dX5_readTerm_60 (Nat.zero_le _) (Nat.zero_le _) (fun r1839 H1 locs hL hqr1839 => ?_)
            obtain ⟨hT1, hF1, hqr1839⟩ := hqr1839
            have hF := hF.tr (hF1.mono (by simp))
            have hT := hT1
            rcases hqr1839 with rfl | rfl
            · refine lv_if_ne (tgt := 68) hx hb dX5_readTerm_63 (by decide) (fun c9 => absurd (by decide) c9) (fun _ => ?_)
              refine lv_iconst (v := 0) hx hb dX5_readTerm_66 (by decide) ?_
              exact en_i hx hb hr hlocks hL rfl (Nat.zero_le _) (Nat.zero_le _) dX5_readTerm_67 (⟨hT, hF, Or.inl rfl⟩)
            · refine lv_if_ne (tgt := 68) hx hb dX5_readTerm_63 (by decide) (fun _ => ?_) (fun c9 => absurd c9 (by decide))
              refine lv_aload_n hx hb dX5_readTerm_68 rfl (lv_at hl 2 rfl) ?_
              refine lv_iload_n hx hb dX5_readTerm_69 rfl (lv_at hl 0 rfl) ?_
              refine cv_v (As := [.int (-7)]) (rest := []) (b := w) ⟨hx, hb, hml, hown, hts⟩ (c_X5_putCode hT (w := w) hw (x := (-7))) (cwV 1 hts gX5_readTerm_X5_putCode rfl rfl rfl hdX5_putCode_v ⟨Nat.le_of_ble_eq_true rfl, Nat.le_of_ble_eq_true rfl⟩) hN hE hL (rcv6 hN hT hw.1) rfl rfl hl.1 (Nat.le_of_ble_eq_true rfl) dX5_readTerm_70 (Nat.zero_le _) (Nat.zero_le _) (fun H1 locs hL hqr1840 => ?_)
              obtain ⟨hT1, hF1⟩ := hqr1840
              have hF := hF.tr (hF1.mono (by simp))
              have hT := hT1
              refine lv_iinc (v := (nI (k + 1))) (lv' := [(2, .int (nI (k + 1))), (3, .int (-7)), (0, .ref w), (1, .int 1)]) hx hb dX5_readTerm_73 hl (k := 1) rfl (nI_add _ 1) (by decide) rfl (fun ls hl => ?_)
              refine lv_goto (tgt := 12) hx hb dX5_readTerm_76 (by decide) ?_
              exact ih1828 (k + 1) _ _ _ (by show 600 - ((k + 1)) < 600 - k; omega) ⟨(by show ((k + 1)) ≤ 600; omega), hT, hF, hL⟩ (lv_sub hl [0, 2, 3] rfl)
      · refine lv_if_ne (tgt := 37) hx hb dX5_readTerm_25 (by decide) (fun _ => ?_) (fun c9 => absurd c9 (by decide))
        refine lv_aload_n hx hb dX5_readTerm_37 rfl (lv_at hl 1 rfl) ?_
        refine lv_bipush (v := 42) hx hb dX5_readTerm_38 (by decide) ?_
        refine cv_i (As := [.int 42]) (rest := []) (b := w) ⟨hx, hb, hml, hown, hts⟩ (c_X5_isMark hT (w := w) hw (x := 42)) (cwV 1 hts gX5_readTerm_X5_isMark rfl rfl rfl hdX5_isMark_v ⟨Nat.le_of_ble_eq_true rfl, Nat.le_of_ble_eq_true rfl⟩) hN hE hL (rcv6 hN hT hw.1) rfl rfl hl.1 (Nat.le_of_ble_eq_true rfl) dX5_readTerm_40 (Nat.zero_le _) (Nat.zero_le _) (fun r1841 H1 locs hL hqr1841 => ?_)
        obtain ⟨h9, hqr1841⟩ := hqr1841; replace h9 := h9.symm; subst h9
        rcases hqr1841 with rfl | rfl
        · refine lv_if_eq (tgt := 51) hx hb dX5_readTerm_43 (by decide) (fun _ => ?_) (fun c9 => absurd (by decide) c9)
          refine lv_bipush (v := (-8)) hx hb dX5_readTerm_51 (by decide) ?_
          refine lv_istore_n (lv' := [(3, .int (-8)), (2, .int (nI k)), (0, .ref w), (1, .int 1)]) hx hb dX5_readTerm_53 rfl hl (by decide) rfl (fun ls hl => ?_)
          refine lv_aload_n hx hb dX5_readTerm_54 rfl (lv_at hl 2 rfl) ?_
          refine cv_v (As := []) (rest := []) (b := w) ⟨hx, hb, hml, hown, hts⟩ (c_X5_step hT (w := w) hw) (cwV 0 hts gX5_readTerm_X5_step rfl rfl rfl hdX5_step_v ⟨Nat.le_of_ble_eq_true rfl, Nat.le_of_ble_eq_true rfl⟩) hN hE hL (rcv6 hN hT hw.1) rfl rfl hl.1 (Nat.le_of_ble_eq_true rfl) dX5_readTerm_55 (Nat.zero_le _) (Nat.zero_le _) (fun H1 locs hL hqr1842 => ?_)
          obtain ⟨hT1, hF1, hqr1842⟩ := hqr1842
          have hF := hF.tr (hF1.mono (by simp))
          have hT := hT1
          have f1843 := hqr1842
          refine lv_aload_n hx hb dX5_readTerm_58 rfl (lv_at hl 2 rfl) ?_
          refine lv_iload_n hx hb dX5_readTerm_59 rfl (lv_at hl 3 rfl) ?_
          refine cv_i (As := [.int 1]) (rest := []) (b := w) ⟨hx, hb, hml, hown, hts⟩ (c_X5_readFactor_d1 hT (w := w) hw) (cwV 1 hts gX5_readTerm_X5_readFactor rfl rfl rfl hdX5_readFactor_v ⟨Nat.le_of_ble_eq_true rfl, Nat.le_of_ble_eq_true rfl⟩) hN hE hL (rcv6 hN hT hw.1) rfl rfl hl.1 (Nat.le_of_ble_eq_true rfl) dX5_readTerm_60 (Nat.zero_le _) (Nat.zero_le _) (fun r1844 H1 locs hL hqr1844 => ?_)
          obtain ⟨hT1, hF1, hqr1844⟩ := hqr1844
          have hF := hF.tr (hF1.mono (by simp))
          have hT := hT1
          rcases hqr1844 with rfl | rfl
          · refine lv_if_ne (tgt := 68) hx hb dX5_readTerm_63 (by decide) (fun c9 => absurd (by decide) c9) (fun _ => ?_)
            refine lv_iconst (v := 0) hx hb dX5_readTerm_66 (by decide) ?_
            exact en_i hx hb hr hlocks hL rfl (Nat.zero_le _) (Nat.zero_le _) dX5_readTerm_67 (⟨hT, hF, Or.inl rfl⟩)
          · refine lv_if_ne (tgt := 68) hx hb dX5_readTerm_63 (by decide) (fun _ => ?_) (fun c9 => absurd c9 (by decide))
            refine lv_aload_n hx hb dX5_readTerm_68 rfl (lv_at hl 2 rfl) ?_
            refine lv_iload_n hx hb dX5_readTerm_69 rfl (lv_at hl 0 rfl) ?_
            refine cv_v (As := [.int (-8)]) (rest := []) (b := w) ⟨hx, hb, hml, hown, hts⟩ (c_X5_putCode hT (w := w) hw (x := (-8))) (cwV 1 hts gX5_readTerm_X5_putCode rfl rfl rfl hdX5_putCode_v ⟨Nat.le_of_ble_eq_true rfl, Nat.le_of_ble_eq_true rfl⟩) hN hE hL (rcv6 hN hT hw.1) rfl rfl hl.1 (Nat.le_of_ble_eq_true rfl) dX5_readTerm_70 (Nat.zero_le _) (Nat.zero_le _) (fun H1 locs hL hqr1845 => ?_)
            obtain ⟨hT1, hF1⟩ := hqr1845
            have hF := hF.tr (hF1.mono (by simp))
            have hT := hT1
            refine lv_iinc (v := (nI (k + 1))) (lv' := [(2, .int (nI (k + 1))), (3, .int (-8)), (0, .ref w), (1, .int 1)]) hx hb dX5_readTerm_73 hl (k := 1) rfl (nI_add _ 1) (by decide) rfl (fun ls hl => ?_)
            refine lv_goto (tgt := 12) hx hb dX5_readTerm_76 (by decide) ?_
            exact ih1828 (k + 1) _ _ _ (by show 600 - ((k + 1)) < 600 - k; omega) ⟨(by show ((k + 1)) ≤ 600; omega), hT, hF, hL⟩ (lv_sub hl [0, 2, 3] rfl)
        · refine lv_if_eq (tgt := 51) hx hb dX5_readTerm_43 (by decide) (fun c9 => absurd c9 (by decide)) (fun _ => ?_)
          refine lv_bipush (v := (-7)) hx hb dX5_readTerm_46 (by decide) ?_
          refine lv_goto (tgt := 53) hx hb dX5_readTerm_48 (by decide) ?_
          refine lv_istore_n (lv' := [(3, .int (-7)), (2, .int (nI k)), (0, .ref w), (1, .int 1)]) hx hb dX5_readTerm_53 rfl hl (by decide) rfl (fun ls hl => ?_)
          refine lv_aload_n hx hb dX5_readTerm_54 rfl (lv_at hl 2 rfl) ?_
          refine cv_v (As := []) (rest := []) (b := w) ⟨hx, hb, hml, hown, hts⟩ (c_X5_step hT (w := w) hw) (cwV 0 hts gX5_readTerm_X5_step rfl rfl rfl hdX5_step_v ⟨Nat.le_of_ble_eq_true rfl, Nat.le_of_ble_eq_true rfl⟩) hN hE hL (rcv6 hN hT hw.1) rfl rfl hl.1 (Nat.le_of_ble_eq_true rfl) dX5_readTerm_55 (Nat.zero_le _) (Nat.zero_le _) (fun H1 locs hL hqr1846 => ?_)
          obtain ⟨hT1, hF1, hqr1846⟩ := hqr1846
          have hF := hF.tr (hF1.mono (by simp))
          have hT := hT1
          have f1847 := hqr1846
          refine lv_aload_n hx hb dX5_readTerm_58 rfl (lv_at hl 2 rfl) ?_
          refine lv_iload_n hx hb dX5_readTerm_59 rfl (lv_at hl 3 rfl) ?_
          refine cv_i (As := [.int 1]) (rest := []) (b := w) ⟨hx, hb, hml, hown, hts⟩ (c_X5_readFactor_d1 hT (w := w) hw) (cwV 1 hts gX5_readTerm_X5_readFactor rfl rfl rfl hdX5_readFactor_v ⟨Nat.le_of_ble_eq_true rfl, Nat.le_of_ble_eq_true rfl⟩) hN hE hL (rcv6 hN hT hw.1) rfl rfl hl.1 (Nat.le_of_ble_eq_true rfl) dX5_readTerm_60 (Nat.zero_le _) (Nat.zero_le _) (fun r1848 H1 locs hL hqr1848 => ?_)
          obtain ⟨hT1, hF1, hqr1848⟩ := hqr1848
          have hF := hF.tr (hF1.mono (by simp))
          have hT := hT1
          rcases hqr1848 with rfl | rfl
          · refine lv_if_ne (tgt := 68) hx hb dX5_readTerm_63 (by decide) (fun c9 => absurd (by decide) c9) (fun _ => ?_)
            refine lv_iconst (v := 0) hx hb dX5_readTerm_66 (by decide) ?_
            exact en_i hx hb hr hlocks hL rfl (Nat.zero_le _) (Nat.zero_le _) dX5_readTerm_67 (⟨hT, hF, Or.inl rfl⟩)
          · refine lv_if_ne (tgt := 68) hx hb dX5_readTerm_63 (by decide) (fun _ => ?_) (fun c9 => absurd c9 (by decide))
            refine lv_aload_n hx hb dX5_readTerm_68 rfl (lv_at hl 2 rfl) ?_
            refine lv_iload_n hx hb dX5_readTerm_69 rfl (lv_at hl 0 rfl) ?_
            refine cv_v (As := [.int (-7)]) (rest := []) (b := w) ⟨hx, hb, hml, hown, hts⟩ (c_X5_putCode hT (w := w) hw (x := (-7))) (cwV 1 hts gX5_readTerm_X5_putCode rfl rfl rfl hdX5_putCode_v ⟨Nat.le_of_ble_eq_true rfl, Nat.le_of_ble_eq_true rfl⟩) hN hE hL (rcv6 hN hT hw.1) rfl rfl hl.1 (Nat.le_of_ble_eq_true rfl) dX5_readTerm_70 (Nat.zero_le _) (Nat.zero_le _) (fun H1 locs hL hqr1849 => ?_)
            obtain ⟨hT1, hF1⟩ := hqr1849
            have hF := hF.tr (hF1.mono (by simp))
            have hT := hT1
            refine lv_iinc (v := (nI (k + 1))) (lv' := [(2, .int (nI (k + 1))), (3, .int (-7)), (0, .ref w), (1, .int 1)]) hx hb dX5_readTerm_73 hl (k := 1) rfl (nI_add _ 1) (by decide) rfl (fun ls hl => ?_)
            refine lv_goto (tgt := 12) hx hb dX5_readTerm_76 (by decide) ?_
            exact ih1828 (k + 1) _ _ _ (by show 600 - ((k + 1)) < 600 - k; omega) ⟨(by show ((k + 1)) ≤ 600; omega), hT, hF, hL⟩ (lv_sub hl [0, 2, 3] rfl)
