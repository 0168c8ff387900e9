set_option maxHeartbeats 4000000 in
set_option maxRecDepth 100000 in
theorem c_X9_readLink {l : Launch} {D : va_G} {cs : Nat → ClassId} {B0 T : Nat} {κ : KM} {H0 : Heap} (hT : WT B0 D cs T κ H0) {w : Nat} (hw : T2 κ w 10 12) {pos tl : Nat} {er ns : Int32} {dr bu : Nat} {g : Nat → Int32} {N h : Nat} (hbT : T2 κ bu 23 14) (hdT : T2 κ dr 26 17) (hps : PS D cs w H0 pos tl er ns dr bu g N h) : KC l yX9_readLink wsX9_readLink 3 65 0 0 D cs B0 H0 [.ref w] (Qv (fun H => WT B0 D cs T κ H ∧ Fr B0 [12, 17] κ H0 H ∧ ∃ pos1 er1, pos ≤ pos1 ∧ (er1 = 0 → er = 0) ∧ PS D cs w H pos1 tl er1 ns dr bu g N h)) := by
  refine KC.of cX9_readLink 5 none (by decide) rfl (Nat.le_of_ble_eq_true rfl) ?_
  intro p e s m below meth c ls hx hb hr hml hown hts hlocks hin hN hE hH0 hl
  have hown : s.vm.findClass RX9 = some m.cls := hown
  have hl : lv_has ls 5 [(0, .ref w)] := hl
  have hL : OkL B0 [] := OkL.nil
  have hF : Fr B0 [12, 17] κ H0 H0 := Fr.rf
  obtain ⟨hm, f4529, hd4529, e4529, n4529, v4529⟩ := hps
  have hm8 := hm.2.2.2.2.2.2.2
  have hbd : B0 ≤ dr := (hT.o26 hdT.1).1
  have hDR := hT.dr hdT hd4529
  have hP : va_P D vwCl [(dr, .inl (cs 0, 1383, .inl f4529))] _ := va_P.cons hd4529 va_P.nil
  refine lv_aload_n hx hb dX9_readLink_0 rfl (lv_at hl 0 rfl) ?_
  refine lv_iconst (v := 0) hx hb dX9_readLink_1 (by decide) ?_
  refine lv_aload_n hx hb dX9_readLink_2 rfl (lv_at hl 0 rfl) ?_
  obtain ⟨hb4531, e4531, hat4531, hk4531⟩ := hT.o10 hw.1
  obtain ⟨f4531_0, f4531_1, f4531_3, f4531_4, f4531_5, f4531_6, f4531_7, f4531_9, f4531_10, f4531_11, f4531_12, f4531_13, f4531_14, f4531_15, f4531_16, f4531_17, rfl, c4531_2, c4531_3, c4531_4, c4531_12, t4531_1, t4531_8, t4531_9, c4531_sd, t4531_10, t4531_11, t4531_17⟩ := hk4531
  obtain ⟨rfl, rfl, rfl, rfl, rfl, rfl⟩ := hm.at hat4531 c4531_3 (by omega)
  have hm8 := hm.2.2.2.2.2.2.2
  have hP : va_P D vwCl [(w, .inr (9, [.int f4531_0, .ref bu, .int (nI ((κ w).2.2.1)), .int (nI tl), .int (nI pos), .int er, .int f4531_6, .int f4531_7, .ref (κ w).2.2.2, .ref f4531_9, .ref dr, .ref f4531_11, .int (nI f4531_12), .int f4531_13, .int ns, .int f4531_15, .int f4531_16, .ref f4531_17])), (dr, .inl (cs 0, 1383, .inl f4529))] _ := va_P.cons hat4531 hP
  refine va_get (D := D) (ci := 9) (v := .ref dr) (C := RX9) (T := TX9) (N := 18) hx hb hts iX9_readLink_9 hown hN.1 hP 0 rfl rfl 10 (by decide) (hts _ mX9_readLink_1) (fun _ h9 => h9) rfl dX9_readLink_3 ?_
  refine lv_iconst (v := 0) hx hb dX9_readLink_6 (by decide) ?_
  refine ld_i (v := (f4529 0)) hx hb hN hP 1 rfl (vp_in_nI (n := 0) (N := 1383) (by omega) (by omega)) (by rw [(show (0 : Int32).toNatClampNeg = 0 from nI_clamp (n := 0) (by omega))]) dX9_readLink_7 ?_
  obtain ⟨n4532, hn4532, en4532⟩ := hDR.1
  refine tp_i (nI n4532) en4532 ?_
  refine lv_iconst (v := 1) hx hb dX9_readLink_8 (by decide) ?_
  refine lv_isub hx hb dX9_readLink_9 ?_
  refine cv_i (As := [.int 0, .int ((nI n4532) - 1)]) (rest := []) (b := w) ⟨hx, hb, hml, hown, hts⟩ (c_X9_number hT (w := w) hw (x := 0) (y := ((nI n4532) - 1)) hbT hdT hm) (cwV 2 hts gX9_readLink_X9_number rfl rfl rfl hdX9_number_v ⟨Nat.le_of_ble_eq_true rfl, Nat.le_of_ble_eq_true rfl⟩) hN hE hL (rcv10 hN hT hw.1) rfl rfl hl.1 (Nat.le_of_ble_eq_true rfl) dX9_readLink_10 (Nat.zero_le _) (Nat.zero_le _) (fun r4533 H1 locs hL hqr4533 => ?_)
  obtain ⟨hT1, hF1, hqr4533⟩ := hqr4533
  have hP : va_P D vwCl [(dr, .inl (cs 0, 1383, .inl f4529))] _ := hF1.hP (hP.sub [1] rfl) (fa_c ⟨by rw [hdT.1]; decide, by rw [hdT.2]; first | decide | (simp; done) | (simp [h15a, h15b, h15c]; done) | (simp; omega)⟩ fa_n)
  have hF := hF.tr (hF1.mono (by simp))
  have hT := hT1
  obtain ⟨p4534, er4535, a4536, z4537, m4538, q4539⟩ := hqr4533
  have hm := m4538
  have hm8 := hm.2.2.2.2.2.2.2
  obtain ⟨n4540, hn4540, rfl⟩ := num_p (by omega) q4539
  refine lv_istore_n (lv' := [(1, .int (nI n4540)), (0, .ref w)]) hx hb dX9_readLink_13 rfl hl (by decide) rfl (fun ls hl => ?_)
  refine lv_aload_n hx hb dX9_readLink_14 rfl (lv_at hl 1 rfl) ?_
  refine lv_iconst (v := 0) hx hb dX9_readLink_15 (by decide) ?_
  refine lv_aload_n hx hb dX9_readLink_16 rfl (lv_at hl 1 rfl) ?_
  obtain ⟨hb4541, e4541, hat4541, hk4541⟩ := hT.o10 hw.1
  obtain ⟨f4541_0, f4541_1, f4541_3, f4541_4, f4541_5, f4541_6, f4541_7, f4541_9, f4541_10, f4541_11, f4541_12, f4541_13, f4541_14, f4541_15, f4541_16, f4541_17, rfl, c4541_2, c4541_3, c4541_4, c4541_12, t4541_1, t4541_8, t4541_9, c4541_sd, t4541_10, t4541_11, t4541_17⟩ := hk4541
  obtain ⟨rfl, rfl, rfl, rfl, rfl, rfl⟩ := hm.at hat4541 c4541_3 (by omega)
  have hm8 := hm.2.2.2.2.2.2.2
  have hP : va_P D vwCl [(w, .inr (9, [.int f4541_0, .ref bu, .int (nI ((κ w).2.2.1)), .int (nI tl), .int (nI p4534), .int er4535, .int f4541_6, .int f4541_7, .ref (κ w).2.2.2, .ref f4541_9, .ref dr, .ref f4541_11, .int (nI f4541_12), .int f4541_13, .int ns, .int f4541_15, .int f4541_16, .ref f4541_17])), (dr, .inl (cs 0, 1383, .inl f4529))] _ := va_P.cons hat4541 hP
  refine va_get (D := D) (ci := 9) (v := .ref dr) (C := RX9) (T := TX9) (N := 18) hx hb hts iX9_readLink_9 hown hN.1 hP 0 rfl rfl 10 (by decide) (hts _ mX9_readLink_1) (fun _ h9 => h9) rfl dX9_readLink_17 ?_
  refine lv_iconst (v := 0) hx hb dX9_readLink_20 (by decide) ?_
  refine ld_i (v := (f4529 0)) hx hb hN hP 1 rfl (vp_in_nI (n := 0) (N := 1383) (by omega) (by omega)) (by rw [(show (0 : Int32).toNatClampNeg = 0 from nI_clamp (n := 0) (by omega))]) dX9_readLink_21 ?_
  refine tp_i (nI n4532) en4532 ?_
  refine lv_iconst (v := 1) hx hb dX9_readLink_22 (by decide) ?_
  refine lv_isub hx hb dX9_readLink_23 ?_
  refine cv_i (As := [.int 0, .int ((nI n4532) - 1)]) (rest := []) (b := w) ⟨hx, hb, hml, hown, hts⟩ (c_X9_number hT (w := w) hw (x := 0) (y := ((nI n4532) - 1)) hbT hdT hm) (cwV 2 hts gX9_readLink_X9_number rfl rfl rfl hdX9_number_v ⟨Nat.le_of_ble_eq_true rfl, Nat.le_of_ble_eq_true rfl⟩) hN hE hL (rcv10 hN hT hw.1) rfl rfl hl.1 (Nat.le_of_ble_eq_true rfl) dX9_readLink_24 (Nat.zero_le _) (Nat.zero_le _) (fun r4542 H1 locs hL hqr4542 => ?_)
  obtain ⟨hT1, hF1, hqr4542⟩ := hqr4542
  have hP : va_P D vwCl [(dr, .inl (cs 0, 1383, .inl f4529))] _ := hF1.hP (hP.sub [1] rfl) (fa_c ⟨by rw [hdT.1]; decide, by rw [hdT.2]; first | decide | (simp; done) | (simp [h15a, h15b, h15c]; done) | (simp; omega)⟩ fa_n)
  have hF := hF.tr (hF1.mono (by simp))
  have hT := hT1
  obtain ⟨p4543, er4544, a4545, z4546, m4547, q4548⟩ := hqr4542
  have hm := m4547
  have hm8 := hm.2.2.2.2.2.2.2
  obtain ⟨n4549, hn4549, rfl⟩ := num_p (by omega) q4548
  refine lv_istore_n (lv' := [(2, .int (nI n4549)), (1, .int (nI n4540)), (0, .ref w)]) hx hb dX9_readLink_27 rfl hl (by decide) rfl (fun ls hl => ?_)
  refine lv_aload_n hx hb dX9_readLink_28 rfl (lv_at hl 2 rfl) ?_
  refine cv_i (As := []) (rest := []) (b := w) ⟨hx, hb, hml, hown, hts⟩ (c_X9_isGood hT (w := w) hw hbT hdT hm) (cwV 0 hts gX9_readLink_X9_isGood rfl rfl rfl hdX9_isGood_v ⟨Nat.le_of_ble_eq_true rfl, Nat.le_of_ble_eq_true rfl⟩) hN hE hL (rcv10 hN hT hw.1) rfl rfl hl.1 (Nat.le_of_ble_eq_true rfl) dX9_readLink_29 (Nat.zero_le _) (Nat.zero_le _) (fun r4550 H1 locs hL hqr4550 => ?_)
  obtain ⟨h9, hqr4550⟩ := hqr4550; replace h9 := h9.symm; subst h9
  rcases hqr4550 with ⟨rfl, e4551⟩ | ⟨rfl, e4552⟩
  · refine lv_if_eq (tgt := 63) hx hb dX9_readLink_32 (by decide) (fun c9 => absurd c9 (by decide)) (fun _ => ?_)
    refine lv_iload_n hx hb dX9_readLink_35 rfl (lv_at hl 1 rfl) ?_
    refine lv_iload_n hx hb dX9_readLink_36 rfl (lv_at hl 0 rfl) ?_
    refine lv_icmp_eq (tgt := 53) hx hb dX9_readLink_37 (by decide) (fun c4553 => ?_) (fun c4553 => ?_)
    · have c4553 : n4540 = n4549 := (nI_eq (a := n4540) (b := n4549) (by omega) (by omega)).mp c4553
      refine lv_aload_n hx hb dX9_readLink_53 rfl (lv_at hl 2 rfl) ?_
      refine lv_bipush (v := (-4)) hx hb dX9_readLink_54 (by decide) ?_
      refine lv_aload_n hx hb dX9_readLink_56 rfl (lv_at hl 2 rfl) ?_
      obtain ⟨hb4554, e4554, hat4554, hk4554⟩ := hT.o10 hw.1
      obtain ⟨f4554_0, f4554_1, f4554_3, f4554_4, f4554_5, f4554_6, f4554_7, f4554_9, f4554_10, f4554_11, f4554_12, f4554_13, f4554_14, f4554_15, f4554_16, f4554_17, rfl, c4554_2, c4554_3, c4554_4, c4554_12, t4554_1, t4554_8, t4554_9, c4554_sd, t4554_10, t4554_11, t4554_17⟩ := hk4554
      obtain ⟨rfl, rfl, rfl, rfl, rfl, rfl⟩ := hm.at hat4554 c4554_3 (by omega)
      have hm8 := hm.2.2.2.2.2.2.2
      have hP : va_P D vwCl [(w, .inr (9, [.int f4554_0, .ref bu, .int (nI ((κ w).2.2.1)), .int (nI tl), .int (nI p4543), .int er4544, .int f4554_6, .int f4554_7, .ref (κ w).2.2.2, .ref f4554_9, .ref dr, .ref f4554_11, .int (nI f4554_12), .int f4554_13, .int ns, .int f4554_15, .int f4554_16, .ref f4554_17])), (dr, .inl (cs 0, 1383, .inl f4529))] _ := va_P.cons hat4554 hP
      refine va_get (D := D) (ci := 9) (v := .int f4554_13) (C := RX9) (T := TX9) (N := 18) hx hb hts iX9_readLink_9 hown hN.1 hP 0 rfl rfl 13 (by decide) (hts _ mX9_readLink_2) (fun _ h9 => h9) rfl dX9_readLink_57 ?_
      refine cv_v (As := [.int (-4), .int f4554_13]) (rest := []) (b := w) ⟨hx, hb, hml, hown, hts⟩ (c_X9_report hT (w := w) hw (x := (-4)) (y := f4554_13) hbT hdT hm ((by decide))) (cwV 2 hts gX9_readLink_X9_report rfl rfl rfl hdX9_report_v ⟨Nat.le_of_ble_eq_true rfl, Nat.le_of_ble_eq_true rfl⟩) hN hE hL (rcv10 hN hT hw.1) rfl rfl hl.1 (Nat.le_of_ble_eq_true rfl) dX9_readLink_60 (Nat.zero_le _) (Nat.zero_le _) (fun H1 locs hL hqr4555 => ?_)
      obtain ⟨hT1, hF1, hqr4555⟩ := hqr4555
      have hP : va_P D vwCl [(dr, .inl (cs 0, 1383, .inl f4529))] _ := hF1.hP (hP.sub [1] rfl) (fa_c ⟨by rw [hdT.1]; decide, by rw [hdT.2]; first | decide | (simp; done) | (simp [h15a, h15b, h15c]; done) | (simp; omega)⟩ fa_n)
      have hF := hF.tr (hF1.mono (by simp))
      have hT := hT1
      obtain ⟨er4556, z4557, m4558⟩ := hqr4555
      have hm := m4558
      have hm8 := hm.2.2.2.2.2.2.2
      refine lv_aload_n hx hb dX9_readLink_63 rfl (lv_at hl 2 rfl) ?_
      refine lv_iconst (v := 1) hx hb dX9_readLink_64 (by decide) ?_
      refine lv_bipush (v := 9) hx hb dX9_readLink_65 (by decide) ?_
      refine cv_i (As := [.int 1, .int 9]) (rest := []) (b := w) ⟨hx, hb, hml, hown, hts⟩ (c_X9_number hT (w := w) hw (x := 1) (y := 9) hbT hdT hm) (cwV 2 hts gX9_readLink_X9_number rfl rfl rfl hdX9_number_v ⟨Nat.le_of_ble_eq_true rfl, Nat.le_of_ble_eq_true rfl⟩) hN hE hL (rcv10 hN hT hw.1) rfl rfl hl.1 (Nat.le_of_ble_eq_true rfl) dX9_readLink_67 (Nat.zero_le _) (Nat.zero_le _) (fun r4559 H1 locs hL hqr4559 => ?_)
      obtain ⟨hT1, hF1, hqr4559⟩ := hqr4559
      have hP : va_P D vwCl [(dr, .inl (cs 0, 1383, .inl f4529))] _ := hF1.hP (hP.sub [0] rfl) (fa_c ⟨by rw [hdT.1]; decide, by rw [hdT.2]; first | decide | (simp; done) | (simp [h15a, h15b, h15c]; done) | (simp; omega)⟩ fa_n)
      have hF := hF.tr (hF1.mono (by simp))
      have hT := hT1
      obtain ⟨p4560, er4561, a4562, z4563, m4564, q4565⟩ := hqr4559
      have hm := m4564
      have hm8 := hm.2.2.2.2.2.2.2
      obtain ⟨n4566, hn4566, rfl⟩ := num_c (lo := 1) (hi := 9) (by decide) (by decide) rfl rfl q4565
      refine lv_istore_n (lv' := [(3, .int (nI n4566)), (2, .int (nI n4549)), (1, .int (nI n4540)), (0, .ref w)]) hx hb dX9_readLink_70 rfl hl (by decide) rfl (fun ls hl => ?_)
      refine lv_aload_n hx hb dX9_readLink_71 rfl (lv_at hl 3 rfl) ?_
      refine lv_iconst (v := 1) hx hb dX9_readLink_72 (by decide) ?_
      refine lv_bipush (v := 9) hx hb dX9_readLink_73 (by decide) ?_
      refine cv_i (As := [.int 1, .int 9]) (rest := []) (b := w) ⟨hx, hb, hml, hown, hts⟩ (c_X9_number hT (w := w) hw (x := 1) (y := 9) hbT hdT hm) (cwV 2 hts gX9_readLink_X9_number rfl rfl rfl hdX9_number_v ⟨Nat.le_of_ble_eq_true rfl, Nat.le_of_ble_eq_true rfl⟩) hN hE hL (rcv10 hN hT hw.1) rfl rfl hl.1 (Nat.le_of_ble_eq_true rfl) dX9_readLink_75 (Nat.zero_le _) (Nat.zero_le _) (fun r4567 H1 locs hL hqr4567 => ?_)
      obtain ⟨hT1, hF1, hqr4567⟩ := hqr4567
      have hP : va_P D vwCl [(dr, .inl (cs 0, 1383, .inl f4529))] _ := hF1.hP (hP.sub [0] rfl) (fa_c ⟨by rw [hdT.1]; decide, by rw [hdT.2]; first | decide | (simp; done) | (simp [h15a, h15b, h15c]; done) | (simp; omega)⟩ fa_n)
      have hF := hF.tr (hF1.mono (by simp))
      have hT := hT1
      obtain ⟨p4568, er4569, a4570, z4571, m4572, q4573⟩ := hqr4567
      have hm := m4572
      have hm8 := hm.2.2.2.2.2.2.2
      obtain ⟨n4574, hn4574, rfl⟩ := num_c (lo := 1) (hi := 9) (by decide) (by decide) rfl rfl q4573
      refine lv_istore (lv' := [(4, .int (nI n4574)), (3, .int (nI n4566)), (2, .int (nI n4549)), (1, .int (nI n4540)), (0, .ref w)]) hx hb dX9_readLink_78 hl (by decide) rfl (fun ls hl => ?_)
      refine lv_aload_n hx hb dX9_readLink_80 rfl (lv_at hl 4 rfl) ?_
      refine cv_i (As := []) (rest := []) (b := w) ⟨hx, hb, hml, hown, hts⟩ (c_X9_isGood hT (w := w) hw hbT hdT hm) (cwV 0 hts gX9_readLink_X9_isGood rfl rfl rfl hdX9_isGood_v ⟨Nat.le_of_ble_eq_true rfl, Nat.le_of_ble_eq_true rfl⟩) hN hE hL (rcv10 hN hT hw.1) rfl rfl hl.1 (Nat.le_of_ble_eq_true rfl) dX9_readLink_81 (Nat.zero_le _) (Nat.zero_le _) (fun r4575 H1 locs hL hqr4575 => ?_)
      obtain ⟨h9, hqr4575⟩ := hqr4575; replace h9 := h9.symm; subst h9
      rcases hqr4575 with ⟨rfl, e4576⟩ | ⟨rfl, e4577⟩
      · refine lv_if_ne (tgt := 88) hx hb dX9_readLink_84 (by decide) (fun _ => ?_) (fun c9 => absurd c9 (by decide))
        refine lv_aload_n hx hb dX9_readLink_88 rfl (lv_at hl 4 rfl) ?_
        obtain ⟨hb4578, e4578, hat4578, hk4578⟩ := hT.o10 hw.1
        obtain ⟨f4578_0, f4578_1, f4578_3, f4578_4, f4578_5, f4578_6, f4578_7, f4578_9, f4578_10, f4578_11, f4578_12, f4578_13, f4578_14, f4578_15, f4578_16, f4578_17, rfl, c4578_2, c4578_3, c4578_4, c4578_12, t4578_1, t4578_8, t4578_9, c4578_sd, t4578_10, t4578_11, t4578_17⟩ := hk4578
        obtain ⟨rfl, rfl, rfl, rfl, rfl, rfl⟩ := hm.at hat4578 c4578_3 (by omega)
        have hm8 := hm.2.2.2.2.2.2.2
        have hP : va_P D vwCl [(w, .inr (9, [.int f4578_0, .ref bu, .int (nI ((κ w).2.2.1)), .int (nI tl), .int (nI p4568), .int er4569, .int f4578_6, .int f4578_7, .ref (κ w).2.2.2, .ref f4578_9, .ref dr, .ref f4578_11, .int (nI f4578_12), .int f4578_13, .int ns, .int f4578_15, .int f4578_16, .ref f4578_17])), (dr, .inl (cs 0, 1383, .inl f4529))] _ := va_P.cons hat4578 hP
        refine va_get (D := D) (ci := 9) (v := .ref dr) (C := RX9) (T := TX9) (N := 18) hx hb hts iX9_readLink_9 hown hN.1 hP 0 rfl rfl 10 (by decide) (hts _ mX9_readLink_1) (fun _ h9 => h9) rfl dX9_readLink_89 ?_
        refine lv_iload_n hx hb dX9_readLink_92 rfl (lv_at hl 3 rfl) ?_
        refine lv_iload_n hx hb dX9_readLink_93 rfl (lv_at hl 2 rfl) ?_
        refine cs_i (As := [.int (nI n4540), .int (nI n4549)]) (rest := [.ref dr]) ⟨hx, hb, hml, hown, hts⟩ (c_X9_linkAt hT (n := n4540) (k := n4549) (by first | omega | decide | assumption) (by first | omega | decide | assumption)) (va_cwS 2 hts gX9_readLink_X9_linkAt rfl rfl rfl hdX9_linkAt_o ⟨Nat.le_of_ble_eq_true rfl, Nat.le_of_ble_eq_true rfl⟩) hN hE hL rfl rfl hl.1 (Nat.le_of_ble_eq_true rfl) dX9_readLink_94 (Nat.zero_le _) (Nat.zero_le _) (fun r4579 H1 locs hL hqr4579 => ?_)
        obtain ⟨h9, hqr4579⟩ := hqr4579; replace h9 := h9.symm; subst h9
        obtain rfl := hqr4579
        refine lv_iload_n hx hb dX9_readLink_97 rfl (lv_at hl 1 rfl) ?_
        have hB : Bx B0 D _ [(w, .inr (9, [.int f4578_0, .ref bu, .int (nI ((κ w).2.2.1)), .int (nI tl), .int (nI p4568), .int er4569, .int f4578_6, .int f4578_7, .ref (κ w).2.2.2, .ref f4578_9, .ref dr, .ref f4578_11, .int (nI f4578_12), .int f4578_13, .int ns, .int f4578_15, .int f4578_16, .ref f4578_17])), (dr, .inl (cs 0, 1383, .inl f4529))] [] _ _ := Bx.of (fun a => (κ a).1) hL hP (fa_c hb4578 (fa_c hbd fa_n)) (by simp only [List.map_cons, List.map_nil, hw.1, hdT.1]; decide)
        refine b_i hx hb hN hB 1 rfl (vp_in_nI (n := (119 + 8 * n4540 + n4549)) (N := 1383) (by omega) (by omega)) (.inl rfl) dX9_readLink_98 (fun H locs hB => ?_)
        rw [(show ((nI (119 + 8 * n4540 + n4549)) : Int32).toNatClampNeg = (119 + 8 * n4540 + n4549) from nI_clamp (n := (119 + 8 * n4540 + n4549)) (by omega))] at hB
        have hB : Bx B0 D _ [(w, .inr (9, [.int f4578_0, .ref bu, .int (nI ((κ w).2.2.1)), .int (nI tl), .int (nI p4568), .int er4569, .int f4578_6, .int f4578_7, .ref (κ w).2.2.2, .ref f4578_9, .ref dr, .ref f4578_11, .int (nI f4578_12), .int f4578_13, .int ns, .int f4578_15, .int f4578_16, .ref f4578_17])), (dr, .inl (cs 0, 1383, .inl (upd f4529 (119 + 8 * n4540 + n4549) (nI n4566))))] [dr] _ _ := hB
        have z4580 := DRK.sf hDR (k := (119 + 8 * n4540 + n4549)) (by omega) (x := (nI n4566))
        have e4581 := (pk_un (f := f4529) (x := (nI n4566)) (show 14 ≠ (119 + 8 * n4540 + n4549) by omega)).trans e4529
        have e4582 := (pk_un (f := f4529) (x := (nI n4566)) (show 0 ≠ (119 + 8 * n4540 + n4549) by omega)).trans en4532
        refine lv_aload_n hx hb dX9_readLink_99 rfl (lv_at hl 4 rfl) ?_
        refine va_get (D := D) (ci := 9) (v := .ref dr) (C := RX9) (T := TX9) (N := 18) hx hb hts iX9_readLink_9 hown hN.1 hB.1 0 rfl rfl 10 (by decide) (hts _ mX9_readLink_1) (fun _ h9 => h9) rfl dX9_readLink_100 ?_
        refine lv_iload_n hx hb dX9_readLink_103 rfl (lv_at hl 2 rfl) ?_
        refine lv_iload_n hx hb dX9_readLink_104 rfl (lv_at hl 3 rfl) ?_
        have hT : WT B0 D cs T κ _ := hT.close hB ⟨⟨1, _, rfl, ok_26 hdT.1 ⟨_, rfl, z4580⟩⟩, trivial⟩
        have hF : Fr B0 [12, 17] κ H0 _ := hF.close hB (fa_c (by simp [hdT.2]) fa_n)
        have hL : OkL B0 _ := hB.2.2.2.2.2
        have hP : va_P D vwCl [(w, .inr (9, [.int f4578_0, .ref bu, .int (nI ((κ w).2.2.1)), .int (nI tl), .int (nI p4568), .int er4569, .int f4578_6, .int f4578_7, .ref (κ w).2.2.2, .ref f4578_9, .ref dr, .ref f4578_11, .int (nI f4578_12), .int f4578_13, .int ns, .int f4578_15, .int f4578_16, .ref f4578_17])), (dr, .inl (cs 0, 1383, .inl (upd f4529 (119 + 8 * n4540 + n4549) (nI n4566))))] _ := hB.1
        have hm := hm.kp hB (by simp only [List.mem_cons, List.not_mem_nil, or_false, not_or]; exact ne_c hbT.1 hdT.1 (by decide)) (by simp only [List.mem_cons, List.not_mem_nil, or_false, not_or]; exact ne_c hw.1 hdT.1 (by decide))
        refine cs_i (As := [.int (nI n4549), .int (nI n4540)]) (rest := [.ref dr]) ⟨hx, hb, hml, hown, hts⟩ (c_X9_linkAt hT (n := n4549) (k := n4540) (by first | omega | decide | assumption) (by first | omega | decide | assumption)) (va_cwS 2 hts gX9_readLink_X9_linkAt rfl rfl rfl hdX9_linkAt_o ⟨Nat.le_of_ble_eq_true rfl, Nat.le_of_ble_eq_true rfl⟩) hN hE hL rfl rfl hl.1 (Nat.le_of_ble_eq_true rfl) dX9_readLink_105 (Nat.zero_le _) (Nat.zero_le _) (fun r4583 H1 locs hL hqr4583 => ?_)
        obtain ⟨h9, hqr4583⟩ := hqr4583; replace h9 := h9.symm; subst h9
        obtain rfl := hqr4583
        refine lv_iload hx hb dX9_readLink_108 (lv_at hl 0 rfl) ?_
        have hB : Bx B0 D _ [(w, .inr (9, [.int f4578_0, .ref bu, .int (nI ((κ w).2.2.1)), .int (nI tl), .int (nI p4568), .int er4569, .int f4578_6, .int f4578_7, .ref (κ w).2.2.2, .ref f4578_9, .ref dr, .ref f4578_11, .int (nI f4578_12), .int f4578_13, .int ns, .int f4578_15, .int f4578_16, .ref f4578_17])), (dr, .inl (cs 0, 1383, .inl (upd f4529 (119 + 8 * n4540 + n4549) (nI n4566))))] [] _ _ := Bx.of (fun a => (κ a).1) hL hP (fa_c hb4578 (fa_c hbd fa_n)) (by simp only [List.map_cons, List.map_nil, hw.1, hdT.1]; decide)
        refine b_i hx hb hN hB 1 rfl (vp_in_nI (n := (119 + 8 * n4549 + n4540)) (N := 1383) (by omega) (by omega)) (.inl rfl) dX9_readLink_110 (fun H locs hB => ?_)
        rw [(show ((nI (119 + 8 * n4549 + n4540)) : Int32).toNatClampNeg = (119 + 8 * n4549 + n4540) from nI_clamp (n := (119 + 8 * n4549 + n4540)) (by omega))] at hB
        have hB : Bx B0 D _ [(w, .inr (9, [.int f4578_0, .ref bu, .int (nI ((κ w).2.2.1)), .int (nI tl), .int (nI p4568), .int er4569, .int f4578_6, .int f4578_7, .ref (κ w).2.2.2, .ref f4578_9, .ref dr, .ref f4578_11, .int (nI f4578_12), .int f4578_13, .int ns, .int f4578_15, .int f4578_16, .ref f4578_17])), (dr, .inl (cs 0, 1383, .inl (upd (upd f4529 (119 + 8 * n4540 + n4549) (nI n4566)) (119 + 8 * n4549 + n4540) (nI n4574))))] [dr] _ _ := hB
        have z4584 := DRK.sf z4580 (k := (119 + 8 * n4549 + n4540)) (by omega) (x := (nI n4574))
        have e4585 := (pk_un (f := (upd f4529 (119 + 8 * n4540 + n4549) (nI n4566))) (x := (nI n4574)) (show 14 ≠ (119 + 8 * n4549 + n4540) by omega)).trans e4581
        have e4586 := (pk_un (f := (upd f4529 (119 + 8 * n4540 + n4549) (nI n4566))) (x := (nI n4574)) (show 0 ≠ (119 + 8 * n4549 + n4540) by omega)).trans e4582
        have hT : WT B0 D cs T κ _ := hT.close hB ⟨⟨1, _, rfl, ok_26 hdT.1 ⟨_, rfl, z4584⟩⟩, trivial⟩
        have hF : Fr B0 [12, 17] κ H0 _ := hF.close hB (fa_c (by simp [hdT.2]) fa_n)
        have hL : OkL B0 _ := hB.2.2.2.2.2
        have hP : va_P D vwCl [(w, .inr (9, [.int f4578_0, .ref bu, .int (nI ((κ w).2.2.1)), .int (nI tl), .int (nI p4568), .int er4569, .int f4578_6, .int f4578_7, .ref (κ w).2.2.2, .ref f4578_9, .ref dr, .ref f4578_11, .int (nI f4578_12), .int f4578_13, .int ns, .int f4578_15, .int f4578_16, .ref f4578_17])), (dr, .inl (cs 0, 1383, .inl (upd (upd f4529 (119 + 8 * n4540 + n4549) (nI n4566)) (119 + 8 * n4549 + n4540) (nI n4574))))] _ := hB.1
        have hm := hm.kp hB (by simp only [List.mem_cons, List.not_mem_nil, or_false, not_or]; exact ne_c hbT.1 hdT.1 (by decide)) (by simp only [List.mem_cons, List.not_mem_nil, or_false, not_or]; exact ne_c hw.1 hdT.1 (by decide))
        have hps : PS D cs w _ (p4568) (tl) (er4569) (ns) dr bu g (N) (h) := ⟨hm, (upd (upd f4529 (119 + 8 * n4540 + n4549) (nI n4566)) (119 + 8 * n4549 + n4540) (nI n4574)), hP 1 _ rfl, e4585, by omega, (CVu (by omega) (CVu (by omega) (fun e9 => (fun e9 => (fun e9 => absurd e9 z4557) ((fun e9 => (z4563 e9).1) e9)) ((fun e9 => (z4571 e9).1) e9))))⟩
        exact en_v hx hb hr hlocks hL (Nat.zero_le _) (Nat.zero_le _) dX9_readLink_111 (⟨hT, hF, p4568, er4569, (by omega), (fun e9 => (fun e9 => (fun e9 => (fun e9 => (fun e9 => id ((fun e9 => (z4537 e9).1) e9)) ((fun e9 => (z4546 e9).1) e9)) ((fun e9 => absurd e9 z4557) e9)) ((fun e9 => (z4563 e9).1) e9)) ((fun e9 => (z4571 e9).1) e9)), hps⟩)
      · refine lv_if_ne (tgt := 88) hx hb dX9_readLink_84 (by decide) (fun c9 => absurd (by decide) c9) (fun _ => ?_)
        have hps : PS D cs w _ (p4568) (tl) (er4569) (ns) dr bu g (N) (h) := ⟨hm, f4529, hP 0 _ rfl, e4529, by omega, (fun e9 => (fun e9 => (fun e9 => absurd e9 z4557) ((fun e9 => (z4563 e9).1) e9)) ((fun e9 => (z4571 e9).1) e9))⟩
        exact en_v hx hb hr hlocks hL (Nat.zero_le _) (Nat.zero_le _) dX9_readLink_87 (⟨hT, hF, p4568, er4569, (by omega), (fun e9 => (fun e9 => (fun e9 => (fun e9 => (fun e9 => id ((fun e9 => (z4537 e9).1) e9)) ((fun e9 => (z4546 e9).1) e9)) ((fun e9 => absurd e9 z4557) e9)) ((fun e9 => (z4563 e9).1) e9)) ((fun e9 => (z4571 e9).1) e9)), hps⟩)
    · have c4553 : ¬ n4540 = n4549 := fun h9 => c4553 ((nI_eq (a := n4540) (b := n4549) (by omega) (by omega)).mpr h9)
      refine lv_aload_n hx hb dX9_readLink_40 rfl (lv_at hl 2 rfl) ?_
      obtain ⟨hb4587, e4587, hat4587, hk4587⟩ := hT.o10 hw.1
      obtain ⟨f4587_0, f4587_1, f4587_3, f4587_4, f4587_5, f4587_6, f4587_7, f4587_9, f4587_10, f4587_11, f4587_12, f4587_13, f4587_14, f4587_15, f4587_16, f4587_17, rfl, c4587_2, c4587_3, c4587_4, c4587_12, t4587_1, t4587_8, t4587_9, c4587_sd, t4587_10, t4587_11, t4587_17⟩ := hk4587
      obtain ⟨rfl, rfl, rfl, rfl, rfl, rfl⟩ := hm.at hat4587 c4587_3 (by omega)
      have hm8 := hm.2.2.2.2.2.2.2
      have hP : va_P D vwCl [(w, .inr (9, [.int f4587_0, .ref bu, .int (nI ((κ w).2.2.1)), .int (nI tl), .int (nI p4543), .int er4544, .int f4587_6, .int f4587_7, .ref (κ w).2.2.2, .ref f4587_9, .ref dr, .ref f4587_11, .int (nI f4587_12), .int f4587_13, .int ns, .int f4587_15, .int f4587_16, .ref f4587_17])), (dr, .inl (cs 0, 1383, .inl f4529))] _ := va_P.cons hat4587 hP
      refine va_get (D := D) (ci := 9) (v := .ref dr) (C := RX9) (T := TX9) (N := 18) hx hb hts iX9_readLink_9 hown hN.1 hP 0 rfl rfl 10 (by decide) (hts _ mX9_readLink_1) (fun _ h9 => h9) rfl dX9_readLink_41 ?_
      refine lv_iload_n hx hb dX9_readLink_44 rfl (lv_at hl 1 rfl) ?_
      refine lv_iload_n hx hb dX9_readLink_45 rfl (lv_at hl 0 rfl) ?_
      refine cs_i (As := [.int (nI n4540), .int (nI n4549)]) (rest := [.ref dr]) ⟨hx, hb, hml, hown, hts⟩ (c_X9_linkAt hT (n := n4540) (k := n4549) (by first | omega | decide | assumption) (by first | omega | decide | assumption)) (va_cwS 2 hts gX9_readLink_X9_linkAt rfl rfl rfl hdX9_linkAt_o ⟨Nat.le_of_ble_eq_true rfl, Nat.le_of_ble_eq_true rfl⟩) hN hE hL rfl rfl hl.1 (Nat.le_of_ble_eq_true rfl) dX9_readLink_46 (Nat.zero_le _) (Nat.zero_le _) (fun r4588 H1 locs hL hqr4588 => ?_)
      obtain ⟨h9, hqr4588⟩ := hqr4588; replace h9 := h9.symm; subst h9
      obtain rfl := hqr4588
      refine ld_i (v := (f4529 (119 + 8 * n4540 + n4549))) hx hb hN hP 1 rfl (vp_in_nI (n := (119 + 8 * n4540 + n4549)) (N := 1383) (by omega) (by omega)) (by rw [(show ((nI (119 + 8 * n4540 + n4549)) : Int32).toNatClampNeg = (119 + 8 * n4540 + n4549) from nI_clamp (n := (119 + 8 * n4540 + n4549)) (by omega))]) dX9_readLink_49 ?_
      refine gn_i (fun x4589 => ?_)
      refine lv_if_eq (tgt := 63) hx hb dX9_readLink_50 (by decide) (fun c4590 => ?_) (fun c4590 => ?_)
      · refine lv_aload_n hx hb dX9_readLink_63 rfl (lv_at hl 2 rfl) ?_
        refine lv_iconst (v := 1) hx hb dX9_readLink_64 (by decide) ?_
        refine lv_bipush (v := 9) hx hb dX9_readLink_65 (by decide) ?_
        refine cv_i (As := [.int 1, .int 9]) (rest := []) (b := w) ⟨hx, hb, hml, hown, hts⟩ (c_X9_number hT (w := w) hw (x := 1) (y := 9) hbT hdT hm) (cwV 2 hts gX9_readLink_X9_number rfl rfl rfl hdX9_number_v ⟨Nat.le_of_ble_eq_true rfl, Nat.le_of_ble_eq_true rfl⟩) hN hE hL (rcv10 hN hT hw.1) rfl rfl hl.1 (Nat.le_of_ble_eq_true rfl) dX9_readLink_67 (Nat.zero_le _) (Nat.zero_le _) (fun r4591 H1 locs hL hqr4591 => ?_)
        obtain ⟨hT1, hF1, hqr4591⟩ := hqr4591
        have hP : va_P D vwCl [(dr, .inl (cs 0, 1383, .inl f4529))] _ := hF1.hP (hP.sub [1] rfl) (fa_c ⟨by rw [hdT.1]; decide, by rw [hdT.2]; first | decide | (simp; done) | (simp [h15a, h15b, h15c]; done) | (simp; omega)⟩ fa_n)
        have hF := hF.tr (hF1.mono (by simp))
        have hT := hT1
        obtain ⟨p4592, er4593, a4594, z4595, m4596, q4597⟩ := hqr4591
        have hm := m4596
        have hm8 := hm.2.2.2.2.2.2.2
        obtain ⟨n4598, hn4598, rfl⟩ := num_c (lo := 1) (hi := 9) (by decide) (by decide) rfl rfl q4597
        refine lv_istore_n (lv' := [(3, .int (nI n4598)), (2, .int (nI n4549)), (1, .int (nI n4540)), (0, .ref w)]) hx hb dX9_readLink_70 rfl hl (by decide) rfl (fun ls hl => ?_)
        refine lv_aload_n hx hb dX9_readLink_71 rfl (lv_at hl 3 rfl) ?_
        refine lv_iconst (v := 1) hx hb dX9_readLink_72 (by decide) ?_
        refine lv_bipush (v := 9) hx hb dX9_readLink_73 (by decide) ?_
        refine cv_i (As := [.int 1, .int 9]) (rest := []) (b := w) ⟨hx, hb, hml, hown, hts⟩ (c_X9_number hT (w := w) hw (x := 1) (y := 9) hbT hdT hm) (cwV 2 hts gX9_readLink_X9_number rfl rfl rfl hdX9_number_v ⟨Nat.le_of_ble_eq_true rfl, Nat.le_of_ble_eq_true rfl⟩) hN hE hL (rcv10 hN hT hw.1) rfl rfl hl.1 (Nat.le_of_ble_eq_true rfl) dX9_readLink_75 (Nat.zero_le _) (Nat.zero_le _) (fun r4599 H1 locs hL hqr4599 => ?_)
        obtain ⟨hT1, hF1, hqr4599⟩ := hqr4599
        have hP : va_P D vwCl [(dr, .inl (cs 0, 1383, .inl f4529))] _ := hF1.hP (hP.sub [0] rfl) (fa_c ⟨by rw [hdT.1]; decide, by rw [hdT.2]; first | decide | (simp; done) | (simp [h15a, h15b, h15c]; done) | (simp; omega)⟩ fa_n)
        have hF := hF.tr (hF1.mono (by simp))
        have hT := hT1
        obtain ⟨p4600, er4601, a4602, z4603, m4604, q4605⟩ := hqr4599
        have hm := m4604
        have hm8 := hm.2.2.2.2.2.2.2
        obtain ⟨n4606, hn4606, rfl⟩ := num_c (lo := 1) (hi := 9) (by decide) (by decide) rfl rfl q4605
        refine lv_istore (lv' := [(4, .int (nI n4606)), (3, .int (nI n4598)), (2, .int (nI n4549)), (1, .int (nI n4540)), (0, .ref w)]) hx hb dX9_readLink_78 hl (by decide) rfl (fun ls hl => ?_)
        refine lv_aload_n hx hb dX9_readLink_80 rfl (lv_at hl 4 rfl) ?_
        refine cv_i (As := []) (rest := []) (b := w) ⟨hx, hb, hml, hown, hts⟩ (c_X9_isGood hT (w := w) hw hbT hdT hm) (cwV 0 hts gX9_readLink_X9_isGood rfl rfl rfl hdX9_isGood_v ⟨Nat.le_of_ble_eq_true rfl, Nat.le_of_ble_eq_true rfl⟩) hN hE hL (rcv10 hN hT hw.1) rfl rfl hl.1 (Nat.le_of_ble_eq_true rfl) dX9_readLink_81 (Nat.zero_le _) (Nat.zero_le _) (fun r4607 H1 locs hL hqr4607 => ?_)
        obtain ⟨h9, hqr4607⟩ := hqr4607; replace h9 := h9.symm; subst h9
        rcases hqr4607 with ⟨rfl, e4608⟩ | ⟨rfl, e4609⟩
        · refine lv_if_ne (tgt := 88) hx hb dX9_readLink_84 (by decide) (fun _ => ?_) (fun c9 => absurd c9 (by decide))
          refine lv_aload_n hx hb dX9_readLink_88 rfl (lv_at hl 4 rfl) ?_
          obtain ⟨hb4610, e4610, hat4610, hk4610⟩ := hT.o10 hw.1
          obtain ⟨f4610_0, f4610_1, f4610_3, f4610_4, f4610_5, f4610_6, f4610_7, f4610_9, f4610_10, f4610_11, f4610_12, f4610_13, f4610_14, f4610_15, f4610_16, f4610_17, rfl, c4610_2, c4610_3, c4610_4, c4610_12, t4610_1, t4610_8, t4610_9, c4610_sd, t4610_10, t4610_11, t4610_17⟩ := hk4610
          obtain ⟨rfl, rfl, rfl, rfl, rfl, rfl⟩ := hm.at hat4610 c4610_3 (by omega)
          have hm8 := hm.2.2.2.2.2.2.2
          have hP : va_P D vwCl [(w, .inr (9, [.int f4610_0, .ref bu, .int (nI ((κ w).2.2.1)), .int (nI tl), .int (nI p4600), .int er4601, .int f4610_6, .int f4610_7, .ref (κ w).2.2.2, .ref f4610_9, .ref dr, .ref f4610_11, .int (nI f4610_12), .int f4610_13, .int ns, .int f4610_15, .int f4610_16, .ref f4610_17])), (dr, .inl (cs 0, 1383, .inl f4529))] _ := va_P.cons hat4610 hP
          refine va_get (D := D) (ci := 9) (v := .ref dr) (C := RX9) (T := TX9) (N := 18) hx hb hts iX9_readLink_9 hown hN.1 hP 0 rfl rfl 10 (by decide) (hts _ mX9_readLink_1) (fun _ h9 => h9) rfl dX9_readLink_89 ?_
          refine lv_iload_n hx hb dX9_readLink_92 rfl (lv_at hl 3 rfl) ?_
          refine lv_iload_n hx hb dX9_readLink_93 rfl (lv_at hl 2 rfl) ?_
          refine cs_i (As := [.int (nI n4540), .int (nI n4549)]) (rest := [.ref dr]) ⟨hx, hb, hml, hown, hts⟩ (c_X9_linkAt hT (n := n4540) (k := n4549) (by first | omega | decide | assumption) (by first | omega | decide | assumption)) (va_cwS 2 hts gX9_readLink_X9_linkAt rfl rfl rfl hdX9_linkAt_o ⟨Nat.le_of_ble_eq_true rfl, Nat.le_of_ble_eq_true rfl⟩) hN hE hL rfl rfl hl.1 (Nat.le_of_ble_eq_true rfl) dX9_readLink_94 (Nat.zero_le _) (Nat.zero_le _) (fun r4611 H1 locs hL hqr4611 => ?_)
          obtain ⟨h9, hqr4611⟩ := hqr4611; replace h9 := h9.symm; subst h9
          obtain rfl := hqr4611
          refine lv_iload_n hx hb dX9_readLink_97 rfl (lv_at hl 1 rfl) ?_
          have hB : Bx B0 D _ [(w, .inr (9, [.int f4610_0, .ref bu, .int (nI ((κ w).2.2.1)), .int (nI tl), .int (nI p4600), .int er4601, .int f4610_6, .int f4610_7, .ref (κ w).2.2.2, .ref f4610_9, .ref dr, .ref f4610_11, .int (nI f4610_12), .int f4610_13, .int ns, .int f4610_15, .int f4610_16, .ref f4610_17])), (dr, .inl (cs 0, 1383, .inl f4529))] [] _ _ := Bx.of (fun a => (κ a).1) hL hP (fa_c hb4610 (fa_c hbd fa_n)) (by simp only [List.map_cons, List.map_nil, hw.1, hdT.1]; decide)
          refine b_i hx hb hN hB 1 rfl (vp_in_nI (n := (119 + 8 * n4540 + n4549)) (N := 1383) (by omega) (by omega)) (.inl rfl) dX9_readLink_98 (fun H locs hB => ?_)
          rw [(show ((nI (119 + 8 * n4540 + n4549)) : Int32).toNatClampNeg = (119 + 8 * n4540 + n4549) from nI_clamp (n := (119 + 8 * n4540 + n4549)) (by omega))] at hB
          have hB : Bx B0 D _ [(w, .inr (9, [.int f4610_0, .ref bu, .int (nI ((κ w).2.2.1)), .int (nI tl), .int (nI p4600), .int er4601, .int f4610_6, .int f4610_7, .ref (κ w).2.2.2, .ref f4610_9, .ref dr, .ref f4610_11, .int (nI f4610_12), .int f4610_13, .int ns, .int f4610_15, .int f4610_16, .ref f4610_17])), (dr, .inl (cs 0, 1383, .inl (upd f4529 (119 + 8 * n4540 + n4549) (nI n4598))))] [dr] _ _ := hB
          have z4612 := DRK.sf hDR (k := (119 + 8 * n4540 + n4549)) (by omega) (x := (nI n4598))
          have e4613 := (pk_un (f := f4529) (x := (nI n4598)) (show 14 ≠ (119 + 8 * n4540 + n4549) by omega)).trans e4529
          have e4614 := (pk_un (f := f4529) (x := (nI n4598)) (show 0 ≠ (119 + 8 * n4540 + n4549) by omega)).trans en4532
          refine lv_aload_n hx hb dX9_readLink_99 rfl (lv_at hl 4 rfl) ?_
          refine va_get (D := D) (ci := 9) (v := .ref dr) (C := RX9) (T := TX9) (N := 18) hx hb hts iX9_readLink_9 hown hN.1 hB.1 0 rfl rfl 10 (by decide) (hts _ mX9_readLink_1) (fun _ h9 => h9) rfl dX9_readLink_100 ?_
          refine lv_iload_n hx hb dX9_readLink_103 rfl (lv_at hl 2 rfl) ?_
          refine lv_iload_n hx hb dX9_readLink_104 rfl (lv_at hl 3 rfl) ?_
          have hT : WT B0 D cs T κ _ := hT.close hB ⟨⟨1, _, rfl, ok_26 hdT.1 ⟨_, rfl, z4612⟩⟩, trivial⟩
          have hF : Fr B0 [12, 17] κ H0 _ := hF.close hB (fa_c (by simp [hdT.2]) fa_n)
          have hL : OkL B0 _ := hB.2.2.2.2.2
          have hP : va_P D vwCl [(w, .inr (9, [.int f4610_0, .ref bu, .int (nI ((κ w).2.2.1)), .int (nI tl), .int (nI p4600), .int er4601, .int f4610_6, .int f4610_7, .ref (κ w).2.2.2, .ref f4610_9, .ref dr, .ref f4610_11, .int (nI f4610_12), .int f4610_13, .int ns, .int f4610_15, .int f4610_16, .ref f4610_17])), (dr, .inl (cs 0, 1383, .inl (upd f4529 (119 + 8 * n4540 + n4549) (nI n4598))))] _ := hB.1
          have hm := hm.kp hB (by simp only [List.mem_cons, List.not_mem_nil, or_false, not_or]; exact ne_c hbT.1 hdT.1 (by decide)) (by simp only [List.mem_cons, List.not_mem_nil, or_false, not_or]; exact ne_c hw.1 hdT.1 (by decide))
          refine cs_i (As := [.int (nI n4549), .int (nI n4540)]) (rest := [.ref dr]) ⟨hx, hb, hml, hown, hts⟩ (c_X9_linkAt hT (n := n4549) (k := n4540) (by first | omega | decide | assumption) (by first | omega | decide | assumption)) (va_cwS 2 hts gX9_readLink_X9_linkAt rfl rfl rfl hdX9_linkAt_o ⟨Nat.le_of_ble_eq_true rfl, Nat.le_of_ble_eq_true rfl⟩) hN hE hL rfl rfl hl.1 (Nat.le_of_ble_eq_true rfl) dX9_readLink_105 (Nat.zero_le _) (Nat.zero_le _) (fun r4615 H1 locs hL hqr4615 => ?_)
          obtain ⟨h9, hqr4615⟩ := hqr4615; replace h9 := h9.symm; subst h9
          obtain rfl := hqr4615
          refine lv_iload hx hb dX9_readLink_108 (lv_at hl 0 rfl) ?_
          have hB : Bx B0 D _ [(w, .inr (9, [.int f4610_0, .ref bu, .int (nI ((κ w).2.2.1)), .int (nI tl), .int (nI p4600), .int er4601, .int f4610_6, .int f4610_7, .ref (κ w).2.2.2, .ref f4610_9, .ref dr, .ref f4610_11, .int (nI f4610_12), .int f4610_13, .int ns, .int f4610_15, .int f4610_16, .ref f4610_17])), (dr, .inl (cs 0, 1383, .inl (upd f4529 (119 + 8 * n4540 + n4549) (nI n4598))))] [] _ _ := Bx.of (fun a => (κ a).1) hL hP (fa_c hb4610 (fa_c hbd fa_n)) (by simp only [List.map_cons, List.map_nil, hw.1, hdT.1]; decide)
          refine b_i hx hb hN hB 1 rfl (vp_in_nI (n := (119 + 8 * n4549 + n4540)) (N := 1383) (by omega) (by omega)) (.inl rfl) dX9_readLink_110 (fun H locs hB => ?_)
          rw [(show ((nI (119 + 8 * n4549 + n4540)) : Int32).toNatClampNeg = (119 + 8 * n4549 + n4540) from nI_clamp (n := (119 + 8 * n4549 + n4540)) (by omega))] at hB
          have hB : Bx B0 D _ [(w, .inr (9, [.int f4610_0, .ref bu, .int (nI ((κ w).2.2.1)), .int (nI tl), .int (nI p4600), .int er4601, .int f4610_6, .int f4610_7, .ref (κ w).2.2.2, .ref f4610_9, .ref dr, .ref f4610_11, .int (nI f4610_12), .int f4610_13, .int ns, .int f4610_15, .int f4610_16, .ref f4610_17])), (dr, .inl (cs 0, 1383, .inl (upd (upd f4529 (119 + 8 * n4540 + n4549) (nI n4598)) (119 + 8 * n4549 + n4540) (nI n4606))))] [dr] _ _ := hB
          have z4616 := DRK.sf z4612 (k := (119 + 8 * n4549 + n4540)) (by omega) (x := (nI n4606))
          have e4617 := (pk_un (f := (upd f4529 (119 + 8 * n4540 + n4549) (nI n4598))) (x := (nI n4606)) (show 14 ≠ (119 + 8 * n4549 + n4540) by omega)).trans e4613
          have e4618 := (pk_un (f := (upd f4529 (119 + 8 * n4540 + n4549) (nI n4598))) (x := (nI n4606)) (show 0 ≠ (119 + 8 * n4549 + n4540) by omega)).trans e4614
          have hT : WT B0 D cs T κ _ := hT.close hB ⟨⟨1, _, rfl, ok_26 hdT.1 ⟨_, rfl, z4616⟩⟩, trivial⟩
          have hF : Fr B0 [12, 17] κ H0 _ := hF.close hB (fa_c (by simp [hdT.2]) fa_n)
          have hL : OkL B0 _ := hB.2.2.2.2.2
          have hP : va_P D vwCl [(w, .inr (9, [.int f4610_0, .ref bu, .int (nI ((κ w).2.2.1)), .int (nI tl), .int (nI p4600), .int er4601, .int f4610_6, .int f4610_7, .ref (κ w).2.2.2, .ref f4610_9, .ref dr, .ref f4610_11, .int (nI f4610_12), .int f4610_13, .int ns, .int f4610_15, .int f4610_16, .ref f4610_17])), (dr, .inl (cs 0, 1383, .inl (upd (upd f4529 (119 + 8 * n4540 + n4549) (nI n4598)) (119 + 8 * n4549 + n4540) (nI n4606))))] _ := hB.1
          have hm := hm.kp hB (by simp only [List.mem_cons, List.not_mem_nil, or_false, not_or]; exact ne_c hbT.1 hdT.1 (by decide)) (by simp only [List.mem_cons, List.not_mem_nil, or_false, not_or]; exact ne_c hw.1 hdT.1 (by decide))
          have hps : PS D cs w _ (p4600) (tl) (er4601) (ns) dr bu g (N) (h) := ⟨hm, (upd (upd f4529 (119 + 8 * n4540 + n4549) (nI n4598)) (119 + 8 * n4549 + n4540) (nI n4606)), hP 1 _ rfl, e4617, by omega, (CVu (by omega) (CVu (by omega) (fun e9 => (fun e9 => (fun e9 => (fun e9 => v4529 ((fun e9 => (z4537 e9).1) e9)) ((fun e9 => (z4546 e9).1) e9)) ((fun e9 => (z4595 e9).1) e9)) ((fun e9 => (z4603 e9).1) e9))))⟩
          exact en_v hx hb hr hlocks hL (Nat.zero_le _) (Nat.zero_le _) dX9_readLink_111 (⟨hT, hF, p4600, er4601, (by omega), (fun e9 => (fun e9 => (fun e9 => (fun e9 => id ((fun e9 => (z4537 e9).1) e9)) ((fun e9 => (z4546 e9).1) e9)) ((fun e9 => (z4595 e9).1) e9)) ((fun e9 => (z4603 e9).1) e9)), hps⟩)
        · refine lv_if_ne (tgt := 88) hx hb dX9_readLink_84 (by decide) (fun c9 => absurd (by decide) c9) (fun _ => ?_)
          have hps : PS D cs w _ (p4600) (tl) (er4601) (ns) dr bu g (N) (h) := ⟨hm, f4529, hP 0 _ rfl, e4529, by omega, (fun e9 => (fun e9 => (fun e9 => (fun e9 => v4529 ((fun e9 => (z4537 e9).1) e9)) ((fun e9 => (z4546 e9).1) e9)) ((fun e9 => (z4595 e9).1) e9)) ((fun e9 => (z4603 e9).1) e9))⟩
          exact en_v hx hb hr hlocks hL (Nat.zero_le _) (Nat.zero_le _) dX9_readLink_87 (⟨hT, hF, p4600, er4601, (by omega), (fun e9 => (fun e9 => (fun e9 => (fun e9 => id ((fun e9 => (z4537 e9).1) e9)) ((fun e9 => (z4546 e9).1) e9)) ((fun e9 => (z4595 e9).1) e9)) ((fun e9 => (z4603 e9).1) e9)), hps⟩)
      · refine lv_aload_n hx hb dX9_readLink_53 rfl (lv_at hl 2 rfl) ?_
        refine lv_bipush (v := (-4)) hx hb dX9_readLink_54 (by decide) ?_
        refine lv_aload_n hx hb dX9_readLink_56 rfl (lv_at hl 2 rfl) ?_
        refine va_get (D := D) (ci := 9) (v := .int f4587_13) (C := RX9) (T := TX9) (N := 18) hx hb hts iX9_readLink_9 hown hN.1 hP 0 rfl rfl 13 (by decide) (hts _ mX9_readLink_2) (fun _ h9 => h9) rfl dX9_readLink_57 ?_
        refine cv_v (As := [.int (-4), .int f4587_13]) (rest := []) (b := w) ⟨hx, hb, hml, hown, hts⟩ (c_X9_report hT (w := w) hw (x := (-4)) (y := f4587_13) hbT hdT hm ((by decide))) (cwV 2 hts gX9_readLink_X9_report rfl rfl rfl hdX9_report_v ⟨Nat.le_of_ble_eq_true rfl, Nat.le_of_ble_eq_true rfl⟩) hN hE hL (rcv10 hN hT hw.1) rfl rfl hl.1 (Nat.le_of_ble_eq_true rfl) dX9_readLink_60 (Nat.zero_le _) (Nat.zero_le _) (fun H1 locs hL hqr4619 => ?_)
        obtain ⟨hT1, hF1, hqr4619⟩ := hqr4619
        have hP : va_P D vwCl [(dr, .inl (cs 0, 1383, .inl f4529))] _ := hF1.hP (hP.sub [1] rfl) (fa_c ⟨by rw [hdT.1]; decide, by rw [hdT.2]; first | decide | (simp; done) | (simp [h15a, h15b, h15c]; done) | (simp; omega)⟩ fa_n)
        have hF := hF.tr (hF1.mono (by simp))
        have hT := hT1
        obtain ⟨er4620, z4621, m4622⟩ := hqr4619
        have hm := m4622
        have hm8 := hm.2.2.2.2.2.2.2
        refine lv_aload_n hx hb dX9_readLink_63 rfl (lv_at hl 2 rfl) ?_
        refine lv_iconst (v := 1) hx hb dX9_readLink_64 (by decide) ?_
        refine lv_bipush (v := 9) hx hb dX9_readLink_65 (by decide) ?_
        refine cv_i (As := [.int 1, .int 9]) (rest := []) (b := w) ⟨hx, hb, hml, hown, hts⟩ (c_X9_number hT (w := w) hw (x := 1) (y := 9) hbT hdT hm) (cwV 2 hts gX9_readLink_X9_number rfl rfl rfl hdX9_number_v ⟨Nat.le_of_ble_eq_true rfl, Nat.le_of_ble_eq_true rfl⟩) hN hE hL (rcv10 hN hT hw.1) rfl rfl hl.1 (Nat.le_of_ble_eq_true rfl) dX9_readLink_67 (Nat.zero_le _) (Nat.zero_le _) (fun r4623 H1 locs hL hqr4623 => ?_)
        obtain ⟨hT1, hF1, hqr4623⟩ := hqr4623
        have hP : va_P D vwCl [(dr, .inl (cs 0, 1383, .inl f4529))] _ := hF1.hP (hP.sub [0] rfl) (fa_c ⟨by rw [hdT.1]; decide, by rw [hdT.2]; first | decide | (simp; done) | (simp [h15a, h15b, h15c]; done) | (simp; omega)⟩ fa_n)
        have hF := hF.tr (hF1.mono (by simp))
        have hT := hT1
        obtain ⟨p4624, er4625, a4626, z4627, m4628, q4629⟩ := hqr4623
        have hm := m4628
        have hm8 := hm.2.2.2.2.2.2.2
        obtain ⟨n4630, hn4630, rfl⟩ := num_c (lo := 1) (hi := 9) (by decide) (by decide) rfl rfl q4629
        refine lv_istore_n (lv' := [(3, .int (nI n4630)), (2, .int (nI n4549)), (1, .int (nI n4540)), (0, .ref w)]) hx hb dX9_readLink_70 rfl hl (by decide) rfl (fun ls hl => ?_)
        refine lv_aload_n hx hb dX9_readLink_71 rfl (lv_at hl 3 rfl) ?_
        refine lv_iconst (v := 1) hx hb dX9_readLink_72 (by decide) ?_
        refine lv_bipush (v := 9) hx hb dX9_readLink_73 (by decide) ?_
        refine cv_i (As := [.int 1, .int 9]) (rest := []) (b := w) ⟨hx, hb, hml, hown, hts⟩ (c_X9_number hT (w := w) hw (x := 1) (y := 9) hbT hdT hm) (cwV 2 hts gX9_readLink_X9_number rfl rfl rfl hdX9_number_v ⟨Nat.le_of_ble_eq_true rfl, Nat.le_of_ble_eq_true rfl⟩) hN hE hL (rcv10 hN hT hw.1) rfl rfl hl.1 (Nat.le_of_ble_eq_true rfl) dX9_readLink_75 (Nat.zero_le _) (Nat.zero_le _) (fun r4631 H1 locs hL hqr4631 => ?_)
        obtain ⟨hT1, hF1, hqr4631⟩ := hqr4631
        have hP : va_P D vwCl [(dr, .inl (cs 0, 1383, .inl f4529))] _ := hF1.hP (hP.sub [0] rfl) (fa_c ⟨by rw [hdT.1]; decide, by rw [hdT.2]; first | decide | (simp; done) | (simp [h15a, h15b, h15c]; done) | (simp; omega)⟩ fa_n)
        have hF := hF.tr (hF1.mono (by simp))
        have hT := hT1
        obtain ⟨p4632, er4633, a4634, z4635, m4636, q4637⟩ := hqr4631
        have hm := m4636
        have hm8 := hm.2.2.2.2.2.2.2
        obtain ⟨n4638, hn4638, rfl⟩ := num_c (lo := 1) (hi := 9) (by decide) (by decide) rfl rfl q4637
        refine lv_istore (lv' := [(4, .int (nI n4638)), (3, .int (nI n4630)), (2, .int (nI n4549)), (1, .int (nI n4540)), (0, .ref w)]) hx hb dX9_readLink_78 hl (by decide) rfl (fun ls hl => ?_)
        refine lv_aload_n hx hb dX9_readLink_80 rfl (lv_at hl 4 rfl) ?_
        refine cv_i (As := []) (rest := []) (b := w) ⟨hx, hb, hml, hown, hts⟩ (c_X9_isGood hT (w := w) hw hbT hdT hm) (cwV 0 hts gX9_readLink_X9_isGood rfl rfl rfl hdX9_isGood_v ⟨Nat.le_of_ble_eq_true rfl, Nat.le_of_ble_eq_true rfl⟩) hN hE hL (rcv10 hN hT hw.1) rfl rfl hl.1 (Nat.le_of_ble_eq_true rfl) dX9_readLink_81 (Nat.zero_le _) (Nat.zero_le _) (fun r4639 H1 locs hL hqr4639 => ?_)
        obtain ⟨h9, hqr4639⟩ := hqr4639; replace h9 := h9.symm; subst h9
        rcases hqr4639 with ⟨rfl, e4640⟩ | ⟨rfl, e4641⟩
        · refine lv_if_ne (tgt := 88) hx hb dX9_readLink_84 (by decide) (fun _ => ?_) (fun c9 => absurd c9 (by decide))
          refine lv_aload_n hx hb dX9_readLink_88 rfl (lv_at hl 4 rfl) ?_
          obtain ⟨hb4642, e4642, hat4642, hk4642⟩ := hT.o10 hw.1
          obtain ⟨f4642_0, f4642_1, f4642_3, f4642_4, f4642_5, f4642_6, f4642_7, f4642_9, f4642_10, f4642_11, f4642_12, f4642_13, f4642_14, f4642_15, f4642_16, f4642_17, rfl, c4642_2, c4642_3, c4642_4, c4642_12, t4642_1, t4642_8, t4642_9, c4642_sd, t4642_10, t4642_11, t4642_17⟩ := hk4642
          obtain ⟨rfl, rfl, rfl, rfl, rfl, rfl⟩ := hm.at hat4642 c4642_3 (by omega)
          have hm8 := hm.2.2.2.2.2.2.2
          have hP : va_P D vwCl [(w, .inr (9, [.int f4642_0, .ref bu, .int (nI ((κ w).2.2.1)), .int (nI tl), .int (nI p4632), .int er4633, .int f4642_6, .int f4642_7, .ref (κ w).2.2.2, .ref f4642_9, .ref dr, .ref f4642_11, .int (nI f4642_12), .int f4642_13, .int ns, .int f4642_15, .int f4642_16, .ref f4642_17])), (dr, .inl (cs 0, 1383, .inl f4529))] _ := va_P.cons hat4642 hP
          refine va_get (D := D) (ci := 9) (v := .ref dr) (C := RX9) (T := TX9) (N := 18) hx hb hts iX9_readLink_9 hown hN.1 hP 0 rfl rfl 10 (by decide) (hts _ mX9_readLink_1) (fun _ h9 => h9) rfl dX9_readLink_89 ?_
          refine lv_iload_n hx hb dX9_readLink_92 rfl (lv_at hl 3 rfl) ?_
          refine lv_iload_n hx hb dX9_readLink_93 rfl (lv_at hl 2 rfl) ?_
          refine cs_i (As := [.int (nI n4540), .int (nI n4549)]) (rest := [.ref dr]) ⟨hx, hb, hml, hown, hts⟩ (c_X9_linkAt hT (n := n4540) (k := n4549) (by first | omega | decide | assumption) (by first | omega | decide | assumption)) (va_cwS 2 hts gX9_readLink_X9_linkAt rfl rfl rfl hdX9_linkAt_o ⟨Nat.le_of_ble_eq_true rfl, Nat.le_of_ble_eq_true rfl⟩) hN hE hL rfl rfl hl.1 (Nat.le_of_ble_eq_true rfl) dX9_readLink_94 (Nat.zero_le _) (Nat.zero_le _) (fun r4643 H1 locs hL hqr4643 => ?_)
          obtain ⟨h9, hqr4643⟩ := hqr4643; replace h9 := h9.symm; subst h9
          obtain rfl := hqr4643
          refine lv_iload_n hx hb dX9_readLink_97 rfl (lv_at hl 1 rfl) ?_
          have hB : Bx B0 D _ [(w, .inr (9, [.int f4642_0, .ref bu, .int (nI ((κ w).2.2.1)), .int (nI tl), .int (nI p4632), .int er4633, .int f4642_6, .int f4642_7, .ref (κ w).2.2.2, .ref f4642_9, .ref dr, .ref f4642_11, .int (nI f4642_12), .int f4642_13, .int ns, .int f4642_15, .int f4642_16, .ref f4642_17])), (dr, .inl (cs 0, 1383, .inl f4529))] [] _ _ := Bx.of (fun a => (κ a).1) hL hP (fa_c hb4642 (fa_c hbd fa_n)) (by simp only [List.map_cons, List.map_nil, hw.1, hdT.1]; decide)
          refine b_i hx hb hN hB 1 rfl (vp_in_nI (n := (119 + 8 * n4540 + n4549)) (N := 1383) (by omega) (by omega)) (.inl rfl) dX9_readLink_98 (fun H locs hB => ?_)
          rw [(show ((nI (119 + 8 * n4540 + n4549)) : Int32).toNatClampNeg = (119 + 8 * n4540 + n4549) from nI_clamp (n := (119 + 8 * n4540 + n4549)) (by omega))] at hB
          have hB : Bx B0 D _ [(w, .inr (9, [.int f4642_0, .ref bu, .int (nI ((κ w).2.2.1)), .int (nI tl), .int (nI p4632), .int er4633, .int f4642_6, .int f4642_7, .ref (κ w).2.2.2, .ref f4642_9, .ref dr, .ref f4642_11, .int (nI f4642_12), .int f4642_13, .int ns, .int f4642_15, .int f4642_16, .ref f4642_17])), (dr, .inl (cs 0, 1383, .inl (upd f4529 (119 + 8 * n4540 + n4549) (nI n4630))))] [dr] _ _ := hB
          have z4644 := DRK.sf hDR (k := (119 + 8 * n4540 + n4549)) (by omega) (x := (nI n4630))
          have e4645 := (pk_un (f := f4529) (x := (nI n4630)) (show 14 ≠ (119 + 8 * n4540 + n4549) by omega)).trans e4529
          have e4646 := (pk_un (f := f4529) (x := (nI n4630)) (show 0 ≠ (119 + 8 * n4540 + n4549) by omega)).trans en4532
          refine lv_aload_n hx hb dX9_readLink_99 rfl (lv_at hl 4 rfl) ?_
          refine va_get (D := D) (ci := 9) (v := .ref dr) (C := RX9) (T := TX9) (N := 18) hx hb hts iX9_readLink_9 hown hN.1 hB.1 0 rfl rfl 10 (by decide) (hts _ mX9_readLink_1) (fun _ h9 => h9) rfl dX9_readLink_100 ?_
          refine lv_iload_n hx hb dX9_readLink_103 rfl (lv_at hl 2 rfl) ?_
          refine lv_iload_n hx hb dX9_readLink_104 rfl (lv_at hl 3 rfl) ?_
          have hT : WT B0 D cs T κ _ := hT.close hB ⟨⟨1, _, rfl, ok_26 hdT.1 ⟨_, rfl, z4644⟩⟩, trivial⟩
          have hF : Fr B0 [12, 17] κ H0 _ := hF.close hB (fa_c (by simp [hdT.2]) fa_n)
          have hL : OkL B0 _ := hB.2.2.2.2.2
          have hP : va_P D vwCl [(w, .inr (9, [.int f4642_0, .ref bu, .int (nI ((κ w).2.2.1)), .int (nI tl), .int (nI p4632), .int er4633, .int f4642_6, .int f4642_7, .ref (κ w).2.2.2, .ref f4642_9, .ref dr, .ref f4642_11, .int (nI f4642_12), .int f4642_13, .int ns, .int f4642_15, .int f4642_16, .ref f4642_17])), (dr, .inl (cs 0, 1383, .inl (upd f4529 (119 + 8 * n4540 + n4549) (nI n4630))))] _ := hB.1
          have hm := hm.kp hB (by simp only [List.mem_cons, List.not_mem_nil, or_false, not_or]; exact ne_c hbT.1 hdT.1 (by decide)) (by simp only [List.mem_cons, List.not_mem_nil, or_false, not_or]; exact ne_c hw.1 hdT.1 (by decide))
          refine cs_i (As := [.int (nI n4549), .int (nI n4540)]) (rest := [.ref dr]) ⟨hx, hb, hml, hown, hts⟩ (c_X9_linkAt hT (n := n4549) (k := n4540) (by first | omega | decide | assumption) (by first | omega | decide | assumption)) (va_cwS 2 hts gX9_readLink_X9_linkAt rfl rfl rfl hdX9_linkAt_o ⟨Nat.le_of_ble_eq_true rfl, Nat.le_of_ble_eq_true rfl⟩) hN hE hL rfl rfl hl.1 (Nat.le_of_ble_eq_true rfl) dX9_readLink_105 (Nat.zero_le _) (Nat.zero_le _) (fun r4647 H1 locs hL hqr4647 => ?_)
          obtain ⟨h9, hqr4647⟩ := hqr4647; replace h9 := h9.symm; subst h9
          obtain rfl := hqr4647
          refine lv_iload hx hb dX9_readLink_108 (lv_at hl 0 rfl) ?_
          have hB : Bx B0 D _ [(w, .inr (9, [.int f4642_0, .ref bu, .int (nI ((κ w).2.2.1)), .int (nI tl), .int (nI p4632), .int er4633, .int f4642_6, .int f4642_7, .ref (κ w).2.2.2, .ref f4642_9, .ref dr, .ref f4642_11, .int (nI f4642_12), .int f4642_13, .int ns, .int f4642_15, .int f4642_16, .ref f4642_17])), (dr, .inl (cs 0, 1383, .inl (upd f4529 (119 + 8 * n4540 + n4549) (nI n4630))))] [] _ _ := Bx.of (fun a => (κ a).1) hL hP (fa_c hb4642 (fa_c hbd fa_n)) (by simp only [List.map_cons, List.map_nil, hw.1, hdT.1]; decide)
          refine b_i hx hb hN hB 1 rfl (vp_in_nI (n := (119 + 8 * n4549 + n4540)) (N := 1383) (by omega) (by omega)) (.inl rfl) dX9_readLink_110 (fun H locs hB => ?_)
          rw [(show ((nI (119 + 8 * n4549 + n4540)) : Int32).toNatClampNeg = (119 + 8 * n4549 + n4540) from nI_clamp (n := (119 + 8 * n4549 + n4540)) (by omega))] at hB
          have hB : Bx B0 D _ [(w, .inr (9, [.int f4642_0, .ref bu, .int (nI ((κ w).2.2.1)), .int (nI tl), .int (nI p4632), .int er4633, .int f4642_6, .int f4642_7, .ref (κ w).2.2.2, .ref f4642_9, .ref dr, .ref f4642_11, .int (nI f4642_12), .int f4642_13, .int ns, .int f4642_15, .int f4642_16, .ref f4642_17])), (dr, .inl (cs 0, 1383, .inl (upd (upd f4529 (119 + 8 * n4540 + n4549) (nI n4630)) (119 + 8 * n4549 + n4540) (nI n4638))))] [dr] _ _ := hB
          have z4648 := DRK.sf z4644 (k := (119 + 8 * n4549 + n4540)) (by omega) (x := (nI n4638))
          have e4649 := (pk_un (f := (upd f4529 (119 + 8 * n4540 + n4549) (nI n4630))) (x := (nI n4638)) (show 14 ≠ (119 + 8 * n4549 + n4540) by omega)).trans e4645
          have e4650 := (pk_un (f := (upd f4529 (119 + 8 * n4540 + n4549) (nI n4630))) (x := (nI n4638)) (show 0 ≠ (119 + 8 * n4549 + n4540) by omega)).trans e4646
          have hT : WT B0 D cs T κ _ := hT.close hB ⟨⟨1, _, rfl, ok_26 hdT.1 ⟨_, rfl, z4648⟩⟩, trivial⟩
          have hF : Fr B0 [12, 17] κ H0 _ := hF.close hB (fa_c (by simp [hdT.2]) fa_n)
          have hL : OkL B0 _ := hB.2.2.2.2.2
          have hP : va_P D vwCl [(w, .inr (9, [.int f4642_0, .ref bu, .int (nI ((κ w).2.2.1)), .int (nI tl), .int (nI p4632), .int er4633, .int f4642_6, .int f4642_7, .ref (κ w).2.2.2, .ref f4642_9, .ref dr, .ref f4642_11, .int (nI f4642_12), .int f4642_13, .int ns, .int f4642_15, .int f4642_16, .ref f4642_17])), (dr, .inl (cs 0, 1383, .inl (upd (upd f4529 (119 + 8 * n4540 + n4549) (nI n4630)) (119 + 8 * n4549 + n4540) (nI n4638))))] _ := hB.1
          have hm := hm.kp hB (by simp only [List.mem_cons, List.not_mem_nil, or_false, not_or]; exact ne_c hbT.1 hdT.1 (by decide)) (by simp only [List.mem_cons, List.not_mem_nil, or_false, not_or]; exact ne_c hw.1 hdT.1 (by decide))
          have hps : PS D cs w _ (p4632) (tl) (er4633) (ns) dr bu g (N) (h) := ⟨hm, (upd (upd f4529 (119 + 8 * n4540 + n4549) (nI n4630)) (119 + 8 * n4549 + n4540) (nI n4638)), hP 1 _ rfl, e4649, by omega, (CVu (by omega) (CVu (by omega) (fun e9 => (fun e9 => (fun e9 => absurd e9 z4621) ((fun e9 => (z4627 e9).1) e9)) ((fun e9 => (z4635 e9).1) e9))))⟩
          exact en_v hx hb hr hlocks hL (Nat.zero_le _) (Nat.zero_le _) dX9_readLink_111 (⟨hT, hF, p4632, er4633, (by omega), (fun e9 => (fun e9 => (fun e9 => (fun e9 => (fun e9 => id ((fun e9 => (z4537 e9).1) e9)) ((fun e9 => (z4546 e9).1) e9)) ((fun e9 => absurd e9 z4621) e9)) ((fun e9 => (z4627 e9).1) e9)) ((fun e9 => (z4635 e9).1) e9)), hps⟩)
        · refine lv_if_ne (tgt := 88) hx hb dX9_readLink_84 (by decide) (fun c9 => absurd (by decide) c9) (fun _ => ?_)
          have hps : PS D cs w _ (p4632) (tl) (er4633) (ns) dr bu g (N) (h) := ⟨hm, f4529, hP 0 _ rfl, e4529, by omega, (fun e9 => (fun e9 => (fun e9 => absurd e9 z4621) ((fun e9 => (z4627 e9).1) e9)) ((fun e9 => (z4635 e9).1) e9))⟩
          exact en_v hx hb hr hlocks hL (Nat.zero_le _) (Nat.zero_le _) dX9_readLink_87 (⟨hT, hF, p4632, er4633, (by omega), (fun e9 => (fun e9 => (fun e9 => (fun e9 => (fun e9 => id ((fun e9 => (z4537 e9).1) e9)) ((fun e9 => (z4546 e9).1) e9)) ((fun e9 => absurd e9 z4621) e9)) ((fun e9 => (z4627 e9).1) e9)) ((fun e9 => (z4635 e9).1) e9)), hps⟩)
  · refine lv_if_eq (tgt := 63) hx hb dX9_readLink_32 (by decide) (fun _ => ?_) (fun c9 => absurd (by decide) c9)
    refine lv_aload_n hx hb dX9_readLink_63 rfl (lv_at hl 2 rfl) ?_
    refine lv_iconst (v := 1) hx hb dX9_readLink_64 (by decide) ?_
    refine lv_bipush (v := 9) hx hb dX9_readLink_65 (by decide) ?_
    refine cv_i (As := [.int 1, .int 9]) (rest := []) (b := w) ⟨hx, hb, hml, hown, hts⟩ (c_X9_number hT (w := w) hw (x := 1) (y := 9) hbT hdT hm) (cwV 2 hts gX9_readLink_X9_number rfl rfl rfl hdX9_number_v ⟨Nat.le_of_ble_eq_true rfl, Nat.le_of_ble_eq_true rfl⟩) hN hE hL (rcv10 hN hT hw.1) rfl rfl hl.1 (Nat.le_of_ble_eq_true rfl) dX9_readLink_67 (Nat.zero_le _) (Nat.zero_le _) (fun r4651 H1 locs hL hqr4651 => ?_)
    obtain ⟨hT1, hF1, hqr4651⟩ := hqr4651
    have hP : va_P D vwCl [(dr, .inl (cs 0, 1383, .inl f4529))] _ := hF1.hP (hP.sub [0] rfl) (fa_c ⟨by rw [hdT.1]; decide, by rw [hdT.2]; first | decide | (simp; done) | (simp [h15a, h15b, h15c]; done) | (simp; omega)⟩ fa_n)
    have hF := hF.tr (hF1.mono (by simp))
    have hT := hT1
    obtain ⟨p4652, er4653, a4654, z4655, m4656, q4657⟩ := hqr4651
    have hm := m4656
    have hm8 := hm.2.2.2.2.2.2.2
    obtain ⟨n4658, hn4658, rfl⟩ := num_c (lo := 1) (hi := 9) (by decide) (by decide) rfl rfl q4657
    refine lv_istore_n (lv' := [(3, .int (nI n4658)), (2, .int (nI n4549)), (1, .int (nI n4540)), (0, .ref w)]) hx hb dX9_readLink_70 rfl hl (by decide) rfl (fun ls hl => ?_)
    refine lv_aload_n hx hb dX9_readLink_71 rfl (lv_at hl 3 rfl) ?_
    refine lv_iconst (v := 1) hx hb dX9_readLink_72 (by decide) ?_
    refine lv_bipush (v := 9) hx hb dX9_readLink_73 (by decide) ?_
    refine cv_i (As := [.int 1, .int 9]) (rest := []) (b := w) ⟨hx, hb, hml, hown, hts⟩ (c_X9_number hT (w := w) hw (x := 1) (y := 9) hbT hdT hm) (cwV 2 hts gX9_readLink_X9_number rfl rfl rfl hdX9_number_v ⟨Nat.le_of_ble_eq_true rfl, Nat.le_of_ble_eq_true rfl⟩) hN hE hL (rcv10 hN hT hw.1) rfl rfl hl.1 (Nat.le_of_ble_eq_true rfl) dX9_readLink_75 (Nat.zero_le _) (Nat.zero_le _) (fun r4659 H1 locs hL hqr4659 => ?_)
    obtain ⟨hT1, hF1, hqr4659⟩ := hqr4659
    have hP : va_P D vwCl [(dr, .inl (cs 0, 1383, .inl f4529))] _ := hF1.hP (hP.sub [0] rfl) (fa_c ⟨by rw [hdT.1]; decide, by rw [hdT.2]; first | decide | (simp; done) | (simp [h15a, h15b, h15c]; done) | (simp; omega)⟩ fa_n)
    have hF := hF.tr (hF1.mono (by simp))
    have hT := hT1
    obtain ⟨p4660, er4661, a4662, z4663, m4664, q4665⟩ := hqr4659
    have hm := m4664
    have hm8 := hm.2.2.2.2.2.2.2
    obtain ⟨n4666, hn4666, rfl⟩ := num_c (lo := 1) (hi := 9) (by decide) (by decide) rfl rfl q4665
    refine lv_istore (lv' := [(4, .int (nI n4666)), (3, .int (nI n4658)), (2, .int (nI n4549)), (1, .int (nI n4540)), (0, .ref w)]) hx hb dX9_readLink_78 hl (by decide) rfl (fun ls hl => ?_)
    refine lv_aload_n hx hb dX9_readLink_80 rfl (lv_at hl 4 rfl) ?_
    refine cv_i (As := []) (rest := []) (b := w) ⟨hx, hb, hml, hown, hts⟩ (c_X9_isGood hT (w := w) hw hbT hdT hm) (cwV 0 hts gX9_readLink_X9_isGood rfl rfl rfl hdX9_isGood_v ⟨Nat.le_of_ble_eq_true rfl, Nat.le_of_ble_eq_true rfl⟩) hN hE hL (rcv10 hN hT hw.1) rfl rfl hl.1 (Nat.le_of_ble_eq_true rfl) dX9_readLink_81 (Nat.zero_le _) (Nat.zero_le _) (fun r4667 H1 locs hL hqr4667 => ?_)
    obtain ⟨h9, hqr4667⟩ := hqr4667; replace h9 := h9.symm; subst h9
    rcases hqr4667 with ⟨rfl, e4668⟩ | ⟨rfl, e4669⟩
    · refine lv_if_ne (tgt := 88) hx hb dX9_readLink_84 (by decide) (fun _ => ?_) (fun c9 => absurd c9 (by decide))
      refine lv_aload_n hx hb dX9_readLink_88 rfl (lv_at hl 4 rfl) ?_
      obtain ⟨hb4670, e4670, hat4670, hk4670⟩ := hT.o10 hw.1
      obtain ⟨f4670_0, f4670_1, f4670_3, f4670_4, f4670_5, f4670_6, f4670_7, f4670_9, f4670_10, f4670_11, f4670_12, f4670_13, f4670_14, f4670_15, f4670_16, f4670_17, rfl, c4670_2, c4670_3, c4670_4, c4670_12, t4670_1, t4670_8, t4670_9, c4670_sd, t4670_10, t4670_11, t4670_17⟩ := hk4670
      obtain ⟨rfl, rfl, rfl, rfl, rfl, rfl⟩ := hm.at hat4670 c4670_3 (by omega)
      have hm8 := hm.2.2.2.2.2.2.2
      have hP : va_P D vwCl [(w, .inr (9, [.int f4670_0, .ref bu, .int (nI ((κ w).2.2.1)), .int (nI tl), .int (nI p4660), .int er4661, .int f4670_6, .int f4670_7, .ref (κ w).2.2.2, .ref f4670_9, .ref dr, .ref f4670_11, .int (nI f4670_12), .int f4670_13, .int ns, .int f4670_15, .int f4670_16, .ref f4670_17])), (dr, .inl (cs 0, 1383, .inl f4529))] _ := va_P.cons hat4670 hP
      refine va_get (D := D) (ci := 9) (v := .ref dr) (C := RX9) (T := TX9) (N := 18) hx hb hts iX9_readLink_9 hown hN.1 hP 0 rfl rfl 10 (by decide) (hts _ mX9_readLink_1) (fun _ h9 => h9) rfl dX9_readLink_89 ?_
      refine lv_iload_n hx hb dX9_readLink_92 rfl (lv_at hl 3 rfl) ?_
      refine lv_iload_n hx hb dX9_readLink_93 rfl (lv_at hl 2 rfl) ?_
      refine cs_i (As := [.int (nI n4540), .int (nI n4549)]) (rest := [.ref dr]) ⟨hx, hb, hml, hown, hts⟩ (c_X9_linkAt hT (n := n4540) (k := n4549) (by first | omega | decide | assumption) (by first | omega | decide | assumption)) (va_cwS 2 hts gX9_readLink_X9_linkAt rfl rfl rfl hdX9_linkAt_o ⟨Nat.le_of_ble_eq_true rfl, Nat.le_of_ble_eq_true rfl⟩) hN hE hL rfl rfl hl.1 (Nat.le_of_ble_eq_true rfl) dX9_readLink_94 (Nat.zero_le _) (Nat.zero_le _) (fun r4671 H1 locs hL hqr4671 => ?_)
      obtain ⟨h9, hqr4671⟩ := hqr4671; replace h9 := h9.symm; subst h9
      obtain rfl := hqr4671
      refine lv_iload_n hx hb dX9_readLink_97 rfl (lv_at hl 1 rfl) ?_
      have hB : Bx B0 D _ [(w, .inr (9, [.int f4670_0, .ref bu, .int (nI ((κ w).2.2.1)), .int (nI tl), .int (nI p4660), .int er4661, .int f4670_6, .int f4670_7, .ref (κ w).2.2.2, .ref f4670_9, .ref dr, .ref f4670_11, .int (nI f4670_12), .int f4670_13, .int ns, .int f4670_15, .int f4670_16, .ref f4670_17])), (dr, .inl (cs 0, 1383, .inl f4529))] [] _ _ := Bx.of (fun a => (κ a).1) hL hP (fa_c hb4670 (fa_c hbd fa_n)) (by simp only [List.map_cons, List.map_nil, hw.1, hdT.1]; decide)
      refine b_i hx hb hN hB 1 rfl (vp_in_nI (n := (119 + 8 * n4540 + n4549)) (N := 1383) (by omega) (by omega)) (.inl rfl) dX9_readLink_98 (fun H locs hB => ?_)
      rw [(show ((nI (119 + 8 * n4540 + n4549)) : Int32).toNatClampNeg = (119 + 8 * n4540 + n4549) from nI_clamp (n := (119 + 8 * n4540 + n4549)) (by omega))] at hB
      have hB : Bx B0 D _ [(w, .inr (9, [.int f4670_0, .ref bu, .int (nI ((κ w).2.2.1)), .int (nI tl), .int (nI p4660), .int er4661, .int f4670_6, .int f4670_7, .ref (κ w).2.2.2, .ref f4670_9, .ref dr, .ref f4670_11, .int (nI f4670_12), .int f4670_13, .int ns, .int f4670_15, .int f4670_16, .ref f4670_17])), (dr, .inl (cs 0, 1383, .inl (upd f4529 (119 + 8 * n4540 + n4549) (nI n4658))))] [dr] _ _ := hB
      have z4672 := DRK.sf hDR (k := (119 + 8 * n4540 + n4549)) (by omega) (x := (nI n4658))
      have e4673 := (pk_un (f := f4529) (x := (nI n4658)) (show 14 ≠ (119 + 8 * n4540 + n4549) by omega)).trans e4529
      have e4674 := (pk_un (f := f4529) (x := (nI n4658)) (show 0 ≠ (119 + 8 * n4540 + n4549) by omega)).trans en4532
      refine lv_aload_n hx hb dX9_readLink_99 rfl (lv_at hl 4 rfl) ?_
      refine va_get (D := D) (ci := 9) (v := .ref dr) (C := RX9) (T := TX9) (N := 18) hx hb hts iX9_readLink_9 hown hN.1 hB.1 0 rfl rfl 10 (by decide) (hts _ mX9_readLink_1) (fun _ h9 => h9) rfl dX9_readLink_100 ?_
      refine lv_iload_n hx hb dX9_readLink_103 rfl (lv_at hl 2 rfl) ?_
      refine lv_iload_n hx hb dX9_readLink_104 rfl (lv_at hl 3 rfl) ?_
      have hT : WT B0 D cs T κ _ := hT.close hB ⟨⟨1, _, rfl, ok_26 hdT.1 ⟨_, rfl, z4672⟩⟩, trivial⟩
      have hF : Fr B0 [12, 17] κ H0 _ := hF.close hB (fa_c (by simp [hdT.2]) fa_n)
      have hL : OkL B0 _ := hB.2.2.2.2.2
      have hP : va_P D vwCl [(w, .inr (9, [.int f4670_0, .ref bu, .int (nI ((κ w).2.2.1)), .int (nI tl), .int (nI p4660), .int er4661, .int f4670_6, .int f4670_7, .ref (κ w).2.2.2, .ref f4670_9, .ref dr, .ref f4670_11, .int (nI f4670_12), .int f4670_13, .int ns, .int f4670_15, .int f4670_16, .ref f4670_17])), (dr, .inl (cs 0, 1383, .inl (upd f4529 (119 + 8 * n4540 + n4549) (nI n4658))))] _ := hB.1
      have hm := hm.kp hB (by simp only [List.mem_cons, List.not_mem_nil, or_false, not_or]; exact ne_c hbT.1 hdT.1 (by decide)) (by simp only [List.mem_cons, List.not_mem_nil, or_false, not_or]; exact ne_c hw.1 hdT.1 (by decide))
      refine cs_i (As := [.int (nI n4549), .int (nI n4540)]) (rest := [.ref dr]) ⟨hx, hb, hml, hown, hts⟩ (c_X9_linkAt hT (n := n4549) (k := n4540) (by first | omega | decide | assumption) (by first | omega | decide | assumption)) (va_cwS 2 hts gX9_readLink_X9_linkAt rfl rfl rfl hdX9_linkAt_o ⟨Nat.le_of_ble_eq_true rfl, Nat.le_of_ble_eq_true rfl⟩) hN hE hL rfl rfl hl.1 (Nat.le_of_ble_eq_true rfl) dX9_readLink_105 (Nat.zero_le _) (Nat.zero_le _) (fun r4675 H1 locs hL hqr4675 => ?_)
      obtain ⟨h9, hqr4675⟩ := hqr4675; replace h9 := h9.symm; subst h9
      obtain rfl := hqr4675
      refine lv_iload hx hb dX9_readLink_108 (lv_at hl 0 rfl) ?_
      have hB : Bx B0 D _ [(w, .inr (9, [.int f4670_0, .ref bu, .int (nI ((κ w).2.2.1)), .int (nI tl), .int (nI p4660), .int er4661, .int f4670_6, .int f4670_7, .ref (κ w).2.2.2, .ref f4670_9, .ref dr, .ref f4670_11, .int (nI f4670_12), .int f4670_13, .int ns, .int f4670_15, .int f4670_16, .ref f4670_17])), (dr, .inl (cs 0, 1383, .inl (upd f4529 (119 + 8 * n4540 + n4549) (nI n4658))))] [] _ _ := Bx.of (fun a => (κ a).1) hL hP (fa_c hb4670 (fa_c hbd fa_n)) (by simp only [List.map_cons, List.map_nil, hw.1, hdT.1]; decide)
      refine b_i hx hb hN hB 1 rfl (vp_in_nI (n := (119 + 8 * n4549 + n4540)) (N := 1383) (by omega) (by omega)) (.inl rfl) dX9_readLink_110 (fun H locs hB => ?_)
      rw [(show ((nI (119 + 8 * n4549 + n4540)) : Int32).toNatClampNeg = (119 + 8 * n4549 + n4540) from nI_clamp (n := (119 + 8 * n4549 + n4540)) (by omega))] at hB
      have hB : Bx B0 D _ [(w, .inr (9, [.int f4670_0, .ref bu, .int (nI ((κ w).2.2.1)), .int (nI tl), .int (nI p4660), .int er4661, .int f4670_6, .int f4670_7, .ref (κ w).2.2.2, .ref f4670_9, .ref dr, .ref f4670_11, .int (nI f4670_12), .int f4670_13, .int ns, .int f4670_15, .int f4670_16, .ref f4670_17])), (dr, .inl (cs 0, 1383, .inl (upd (upd f4529 (119 + 8 * n4540 + n4549) (nI n4658)) (119 + 8 * n4549 + n4540) (nI n4666))))] [dr] _ _ := hB
      have z4676 := DRK.sf z4672 (k := (119 + 8 * n4549 + n4540)) (by omega) (x := (nI n4666))
      have e4677 := (pk_un (f := (upd f4529 (119 + 8 * n4540 + n4549) (nI n4658))) (x := (nI n4666)) (show 14 ≠ (119 + 8 * n4549 + n4540) by omega)).trans e4673
      have e4678 := (pk_un (f := (upd f4529 (119 + 8 * n4540 + n4549) (nI n4658))) (x := (nI n4666)) (show 0 ≠ (119 + 8 * n4549 + n4540) by omega)).trans e4674
      have hT : WT B0 D cs T κ _ := hT.close hB ⟨⟨1, _, rfl, ok_26 hdT.1 ⟨_, rfl, z4676⟩⟩, trivial⟩
      have hF : Fr B0 [12, 17] κ H0 _ := hF.close hB (fa_c (by simp [hdT.2]) fa_n)
      have hL : OkL B0 _ := hB.2.2.2.2.2
      have hP : va_P D vwCl [(w, .inr (9, [.int f4670_0, .ref bu, .int (nI ((κ w).2.2.1)), .int (nI tl), .int (nI p4660), .int er4661, .int f4670_6, .int f4670_7, .ref (κ w).2.2.2, .ref f4670_9, .ref dr, .ref f4670_11, .int (nI f4670_12), .int f4670_13, .int ns, .int f4670_15, .int f4670_16, .ref f4670_17])), (dr, .inl (cs 0, 1383, .inl (upd (upd f4529 (119 + 8 * n4540 + n4549) (nI n4658)) (119 + 8 * n4549 + n4540) (nI n4666))))] _ := hB.1
      have hm := hm.kp hB (by simp only [List.mem_cons, List.not_mem_nil, or_false, not_or]; exact ne_c hbT.1 hdT.1 (by decide)) (by simp only [List.mem_cons, List.not_mem_nil, or_false, not_or]; exact ne_c hw.1 hdT.1 (by decide))
      have hps : PS D cs w _ (p4660) (tl) (er4661) (ns) dr bu g (N) (h) := ⟨hm, (upd (upd f4529 (119 + 8 * n4540 + n4549) (nI n4658)) (119 + 8 * n4549 + n4540) (nI n4666)), hP 1 _ rfl, e4677, by omega, (CVu (by omega) (CVu (by omega) (fun e9 => (fun e9 => (fun e9 => (fun e9 => v4529 ((fun e9 => (z4537 e9).1) e9)) ((fun e9 => (z4546 e9).1) e9)) ((fun e9 => (z4655 e9).1) e9)) ((fun e9 => (z4663 e9).1) e9))))⟩
      exact en_v hx hb hr hlocks hL (Nat.zero_le _) (Nat.zero_le _) dX9_readLink_111 (⟨hT, hF, p4660, er4661, (by omega), (fun e9 => (fun e9 => (fun e9 => (fun e9 => id ((fun e9 => (z4537 e9).1) e9)) ((fun e9 => (z4546 e9).1) e9)) ((fun e9 => (z4655 e9).1) e9)) ((fun e9 => (z4663 e9).1) e9)), hps⟩)
    · refine lv_if_ne (tgt := 88) hx hb dX9_readLink_84 (by decide) (fun c9 => absurd (by decide) c9) (fun _ => ?_)
      have hps : PS D cs w _ (p4660) (tl) (er4661) (ns) dr bu g (N) (h) := ⟨hm, f4529, hP 0 _ rfl, e4529, by omega, (fun e9 => (fun e9 => (fun e9 => (fun e9 => v4529 ((fun e9 => (z4537 e9).1) e9)) ((fun e9 => (z4546 e9).1) e9)) ((fun e9 => (z4655 e9).1) e9)) ((fun e9 => (z4663 e9).1) e9))⟩
      exact en_v hx hb hr hlocks hL (Nat.zero_le _) (Nat.zero_le _) dX9_readLink_87 (⟨hT, hF, p4660, er4661, (by omega), (fun e9 => (fun e9 => (fun e9 => (fun e9 => id ((fun e9 => (z4537 e9).1) e9)) ((fun e9 => (z4546 e9).1) e9)) ((fun e9 => (z4655 e9).1) e9)) ((fun e9 => (z4663 e9).1) e9)), hps⟩)
theorem mX9_statement_1 : (.fieldLink RX9 53 "OneBeatModel" "position" "I" : Cond) ∈ wsX9_statement := List.mem_of_getElem? (i := 1) (by decide +kernel)
theorem iX9_statement_9 : ∀ w ∈ wsX90, w ∈ wsX9_statement := fun w h => List.mem_of_mem_drop (List.mem_of_mem_take ((show wsX90 = (wsX9_statement.drop 137).take 18 by decide +kernel) ▸ h))
theorem hdX9_once_v : yX9_once.cls = RX9 ∧ yX9_once.cls ≠ "java/lang/invoke/MethodHandle" ∧ yX9_once.cls ≠ "java/lang/invoke/VarHandle" ∧ (parseMethodDescriptor yX9_once.desc).map (fun d => d.parameters.length) = some 2 := by decide +kernel
theorem mX9_statement_2 : (.fieldLink RX9 24 "OneBeatModel" "draft" "[I" : Cond) ∈ wsX9_statement := List.mem_of_getElem? (i := 2) (by decide +kernel)
theorem hdX9_readLink_v : yX9_readLink.cls = RX9 ∧ yX9_readLink.cls ≠ "java/lang/invoke/MethodHandle" ∧ yX9_readLink.cls ≠ "java/lang/invoke/VarHandle" ∧ (parseMethodDescriptor yX9_readLink.desc).map (fun d => d.parameters.length) = some 0 := by decide +kernel
theorem hdX9_readClock_v : yX9_readClock.cls = RX9 ∧ yX9_readClock.cls ≠ "java/lang/invoke/MethodHandle" ∧ yX9_readClock.cls ≠ "java/lang/invoke/VarHandle" ∧ (parseMethodDescriptor yX9_readClock.desc).map (fun d => d.parameters.length) = some 0 := by decide +kernel
set_option maxHeartbeats 4000000 in
set_option maxRecDepth 100000 in
theorem c_X9_statement {l : Launch} {D : va_G} {cs : Nat → ClassId} {B0 T : Nat} {κ : KM} {H0 : Heap} (hT : WT B0 D cs T κ H0) {w : Nat} (hw : T2 κ w 10 12) {pos tl : Nat} {er : Int32} {dr bu : Nat} {g : Nat → Int32} {N h : Nat} (hbT : T2 κ bu 23 14) (hdT : T2 κ dr 26 17) (hps : PS D cs w H0 pos tl er 0 dr bu g N h) : KC l yX9_statement wsX9_statement 20 432 0 0 D cs B0 H0 [.ref w] (Qv (fun H => WT B0 D cs T κ H ∧ Fr B0 [12, 17] κ H0 H ∧ ∃ N1 h1 pos1 er1, pos ≤ pos1 ∧ (er1 = 0 → pos + 1 ≤ pos1) ∧ PS D cs w H pos1 tl er1 0 dr bu g N1 h1)) := by
  refine KC.of cX9_statement 2 none (by decide) rfl (Nat.le_of_ble_eq_true rfl) ?_
  intro p e s m below meth c ls hx hb hr hml hown hts hlocks hin hN hE hH0 hl
  have hown : s.vm.findClass RX9 = some m.cls := hown
  have hl : lv_has ls 2 [(0, .ref w)] := hl
  have hL : OkL B0 [] := OkL.nil
  have hF : Fr B0 [12, 17] κ H0 H0 := Fr.rf
  obtain ⟨hm, f4679, hd4679, e4679, n4679, v4679⟩ := hps
  have hm8 := hm.2.2.2.2.2.2.2
  have hbd : B0 ≤ dr := (hT.o26 hdT.1).1
  have hDR := hT.dr hdT hd4679
  have hP : va_P D vwCl [(dr, .inl (cs 0, 1383, .inl f4679))] _ := va_P.cons hd4679 va_P.nil
  refine lv_aload_n hx hb dX9_statement_0 rfl (lv_at hl 0 rfl) ?_
  refine cv_i (As := []) (rest := []) (b := w) ⟨hx, hb, hml, hown, hts⟩ (c_X9_ahead hT (w := w) hw hbT hdT hm) (cwV 0 hts gX9_statement_X9_ahead rfl rfl rfl hdX9_ahead_v ⟨Nat.le_of_ble_eq_true rfl, Nat.le_of_ble_eq_true rfl⟩) hN hE hL (rcv10 hN hT hw.1) rfl rfl hl.1 (Nat.le_of_ble_eq_true rfl) dX9_statement_1 (Nat.zero_le _) (Nat.zero_le _) (fun r4681 H1 locs hL hqr4681 => ?_)
  obtain ⟨hT1, hF1, hqr4681⟩ := hqr4681
  have hP : va_P D vwCl [(dr, .inl (cs 0, 1383, .inl f4679))] _ := hF1.hP (hP.sub [0] rfl) (fa_c ⟨by rw [hdT.1]; decide, by rw [hdT.2]; first | decide | (simp; done) | (simp [h15a, h15b, h15c]; done) | (simp; omega)⟩ fa_n)
  have hF := hF.tr (hF1.mono (by simp))
  have hT := hT1
  obtain ⟨p4682, h4683, m4684, n4685, s4686, rfl⟩ := hqr4681
  have hm := m4684
  have hm8 := hm.2.2.2.2.2.2.2
  refine lv_pop hx hb dX9_statement_4 rfl ?_
  refine lv_aload_n hx hb dX9_statement_5 rfl (lv_at hl 0 rfl) ?_
  obtain ⟨hb4687, e4687, hat4687, hk4687⟩ := hT.o10 hw.1
  obtain ⟨f4687_0, f4687_1, f4687_3, f4687_4, f4687_5, f4687_6, f4687_7, f4687_9, f4687_10, f4687_11, f4687_12, f4687_13, f4687_14, f4687_15, f4687_16, f4687_17, rfl, c4687_2, c4687_3, c4687_4, c4687_12, t4687_1, t4687_8, t4687_9, c4687_sd, t4687_10, t4687_11, t4687_17⟩ := hk4687
  obtain ⟨rfl, rfl, rfl, rfl, rfl, rfl⟩ := hm.at hat4687 c4687_3 (by omega)
  have hm8 := hm.2.2.2.2.2.2.2
  have hP : va_P D vwCl [(w, .inr (9, [.int f4687_0, .ref bu, .int (nI ((κ w).2.2.1)), .int (nI tl), .int (nI p4682), .int er, .int f4687_6, .int f4687_7, .ref (κ w).2.2.2, .ref f4687_9, .ref dr, .ref f4687_11, .int (nI f4687_12), .int f4687_13, .int 0, .int f4687_15, .int f4687_16, .ref f4687_17])), (dr, .inl (cs 0, 1383, .inl f4679))] _ := va_P.cons hat4687 hP
  refine va_get (D := D) (ci := 9) (v := .int (nI p4682)) (C := RX9) (T := TX9) (N := 18) hx hb hts iX9_statement_9 hown hN.1 hP 0 rfl rfl 4 (by decide) (hts _ mX9_statement_1) (fun _ h9 => h9) rfl dX9_statement_6 ?_
  refine lv_istore_n (lv' := [(1, .int (nI p4682)), (0, .ref w)]) hx hb dX9_statement_9 rfl hl (by decide) rfl (fun ls hl => ?_)
  refine lv_aload_n hx hb dX9_statement_10 rfl (lv_at hl 1 rfl) ?_
  refine va_ldcS hx hb hown (hN.s 20 rfl) dX9_statement_11 ?_
  refine cv_i (As := [.ref (cs 120)]) (rest := []) (b := w) ⟨hx, hb, hml, hown, hts⟩ (c_X9_takeWord hT (w := w) hw (i := 20) (by decide) hbT hdT hm) (cwV 1 hts gX9_statement_X9_takeWord rfl rfl rfl hdX9_takeWord_v ⟨Nat.le_of_ble_eq_true rfl, Nat.le_of_ble_eq_true rfl⟩) hN hE hL (rcv10 hN hT hw.1) rfl rfl hl.1 (Nat.le_of_ble_eq_true rfl) dX9_statement_13 (Nat.zero_le _) (Nat.zero_le _) (fun r4688 H1 locs hL hqr4688 => ?_)
  obtain ⟨hT1, hF1, hqr4688⟩ := hqr4688
  have hP : va_P D vwCl [(dr, .inl (cs 0, 1383, .inl f4679))] _ := hF1.hP (hP.sub [1] rfl) (fa_c ⟨by rw [hdT.1]; decide, by rw [hdT.2]; first | decide | (simp; done) | (simp [h15a, h15b, h15c]; done) | (simp; omega)⟩ fa_n)
  have hF := hF.tr (hF1.mono (by simp))
  have hT := hT1
  rcases hqr4688 with ⟨rfl, p4689, h4690, m4691⟩ | ⟨rfl, p4692, q4693, e4694, m4695⟩
  · have hm := m4691
    have hm8 := hm.2.2.2.2.2.2.2
    refine lv_if_eq (tgt := 26) hx hb dX9_statement_16 (by decide) (fun _ => ?_) (fun c9 => absurd (by decide) c9)
    refine lv_aload_n hx hb dX9_statement_26 rfl (lv_at hl 1 rfl) ?_
    refine va_ldcS hx hb hown (hN.s 21 rfl) dX9_statement_27 ?_
    refine cv_i (As := [.ref (cs 121)]) (rest := []) (b := w) ⟨hx, hb, hml, hown, hts⟩ (c_X9_takeWord hT (w := w) hw (i := 21) (by decide) hbT hdT hm) (cwV 1 hts gX9_statement_X9_takeWord rfl rfl rfl hdX9_takeWord_v ⟨Nat.le_of_ble_eq_true rfl, Nat.le_of_ble_eq_true rfl⟩) hN hE hL (rcv10 hN hT hw.1) rfl rfl hl.1 (Nat.le_of_ble_eq_true rfl) dX9_statement_29 (Nat.zero_le _) (Nat.zero_le _) (fun r4696 H1 locs hL hqr4696 => ?_)
    obtain ⟨hT1, hF1, hqr4696⟩ := hqr4696
    have hP : va_P D vwCl [(dr, .inl (cs 0, 1383, .inl f4679))] _ := hF1.hP (hP.sub [0] rfl) (fa_c ⟨by rw [hdT.1]; decide, by rw [hdT.2]; first | decide | (simp; done) | (simp [h15a, h15b, h15c]; done) | (simp; omega)⟩ fa_n)
    have hF := hF.tr (hF1.mono (by simp))
    have hT := hT1
    rcases hqr4696 with ⟨rfl, p4697, h4698, m4699⟩ | ⟨rfl, p4700, q4701, e4702, m4703⟩
    · have hm := m4699
      have hm8 := hm.2.2.2.2.2.2.2
      refine lv_if_eq (tgt := 42) hx hb dX9_statement_32 (by decide) (fun _ => ?_) (fun c9 => absurd (by decide) c9)
      refine lv_aload_n hx hb dX9_statement_42 rfl (lv_at hl 1 rfl) ?_
      refine va_ldcS hx hb hown (hN.s 22 rfl) dX9_statement_43 ?_
      refine cv_i (As := [.ref (cs 122)]) (rest := []) (b := w) ⟨hx, hb, hml, hown, hts⟩ (c_X9_takeWord hT (w := w) hw (i := 22) (by decide) hbT hdT hm) (cwV 1 hts gX9_statement_X9_takeWord rfl rfl rfl hdX9_takeWord_v ⟨Nat.le_of_ble_eq_true rfl, Nat.le_of_ble_eq_true rfl⟩) hN hE hL (rcv10 hN hT hw.1) rfl rfl hl.1 (Nat.le_of_ble_eq_true rfl) dX9_statement_45 (Nat.zero_le _) (Nat.zero_le _) (fun r4704 H1 locs hL hqr4704 => ?_)
      obtain ⟨hT1, hF1, hqr4704⟩ := hqr4704
      have hP : va_P D vwCl [(dr, .inl (cs 0, 1383, .inl f4679))] _ := hF1.hP (hP.sub [0] rfl) (fa_c ⟨by rw [hdT.1]; decide, by rw [hdT.2]; first | decide | (simp; done) | (simp [h15a, h15b, h15c]; done) | (simp; omega)⟩ fa_n)
      have hF := hF.tr (hF1.mono (by simp))
      have hT := hT1
      rcases hqr4704 with ⟨rfl, p4705, h4706, m4707⟩ | ⟨rfl, p4708, q4709, e4710, m4711⟩
      · have hm := m4707
        have hm8 := hm.2.2.2.2.2.2.2
        refine lv_if_eq (tgt := 78) hx hb dX9_statement_48 (by decide) (fun _ => ?_) (fun c9 => absurd (by decide) c9)
        refine lv_aload_n hx hb dX9_statement_78 rfl (lv_at hl 1 rfl) ?_
        refine va_ldcS hx hb hown (hN.s 23 rfl) dX9_statement_79 ?_
        refine cv_i (As := [.ref (cs 123)]) (rest := []) (b := w) ⟨hx, hb, hml, hown, hts⟩ (c_X9_takeWord hT (w := w) hw (i := 23) (by decide) hbT hdT hm) (cwV 1 hts gX9_statement_X9_takeWord rfl rfl rfl hdX9_takeWord_v ⟨Nat.le_of_ble_eq_true rfl, Nat.le_of_ble_eq_true rfl⟩) hN hE hL (rcv10 hN hT hw.1) rfl rfl hl.1 (Nat.le_of_ble_eq_true rfl) dX9_statement_81 (Nat.zero_le _) (Nat.zero_le _) (fun r4712 H1 locs hL hqr4712 => ?_)
        obtain ⟨hT1, hF1, hqr4712⟩ := hqr4712
        have hP : va_P D vwCl [(dr, .inl (cs 0, 1383, .inl f4679))] _ := hF1.hP (hP.sub [0] rfl) (fa_c ⟨by rw [hdT.1]; decide, by rw [hdT.2]; first | decide | (simp; done) | (simp [h15a, h15b, h15c]; done) | (simp; omega)⟩ fa_n)
        have hF := hF.tr (hF1.mono (by simp))
        have hT := hT1
        rcases hqr4712 with ⟨rfl, p4713, h4714, m4715⟩ | ⟨rfl, p4716, q4717, e4718, m4719⟩
        · have hm := m4715
          have hm8 := hm.2.2.2.2.2.2.2
          refine lv_if_eq (tgt := 111) hx hb dX9_statement_84 (by decide) (fun _ => ?_) (fun c9 => absurd (by decide) c9)
          refine lv_aload_n hx hb dX9_statement_111 rfl (lv_at hl 1 rfl) ?_
          refine va_ldcS hx hb hown (hN.s 24 rfl) dX9_statement_112 ?_
          refine cv_i (As := [.ref (cs 124)]) (rest := []) (b := w) ⟨hx, hb, hml, hown, hts⟩ (c_X9_takeWord hT (w := w) hw (i := 24) (by decide) hbT hdT hm) (cwV 1 hts gX9_statement_X9_takeWord rfl rfl rfl hdX9_takeWord_v ⟨Nat.le_of_ble_eq_true rfl, Nat.le_of_ble_eq_true rfl⟩) hN hE hL (rcv10 hN hT hw.1) rfl rfl hl.1 (Nat.le_of_ble_eq_true rfl) dX9_statement_114 (Nat.zero_le _) (Nat.zero_le _) (fun r4720 H1 locs hL hqr4720 => ?_)
          obtain ⟨hT1, hF1, hqr4720⟩ := hqr4720
          have hP : va_P D vwCl [(dr, .inl (cs 0, 1383, .inl f4679))] _ := hF1.hP (hP.sub [0] rfl) (fa_c ⟨by rw [hdT.1]; decide, by rw [hdT.2]; first | decide | (simp; done) | (simp [h15a, h15b, h15c]; done) | (simp; omega)⟩ fa_n)
          have hF := hF.tr (hF1.mono (by simp))
          have hT := hT1
          rcases hqr4720 with ⟨rfl, p4721, h4722, m4723⟩ | ⟨rfl, p4724, q4725, e4726, m4727⟩
          · have hm := m4723
            have hm8 := hm.2.2.2.2.2.2.2
            refine lv_if_eq (tgt := 141) hx hb dX9_statement_117 (by decide) (fun _ => ?_) (fun c9 => absurd (by decide) c9)
            refine lv_aload_n hx hb dX9_statement_141 rfl (lv_at hl 1 rfl) ?_
            refine lv_bipush (v := (-2)) hx hb dX9_statement_142 (by decide) ?_
            refine lv_iload_n hx hb dX9_statement_144 rfl (lv_at hl 0 rfl) ?_
            refine cv_v (As := [.int (-2), .int (nI p4682)]) (rest := []) (b := w) ⟨hx, hb, hml, hown, hts⟩ (c_X9_report hT (w := w) hw (x := (-2)) (y := (nI p4682)) hbT hdT hm ((by decide))) (cwV 2 hts gX9_statement_X9_report rfl rfl rfl hdX9_report_v ⟨Nat.le_of_ble_eq_true rfl, Nat.le_of_ble_eq_true rfl⟩) hN hE hL (rcv10 hN hT hw.1) rfl rfl hl.1 (Nat.le_of_ble_eq_true rfl) dX9_statement_145 (Nat.zero_le _) (Nat.zero_le _) (fun H1 locs hL hqr4728 => ?_)
            obtain ⟨hT1, hF1, hqr4728⟩ := hqr4728
            have hP : va_P D vwCl [(dr, .inl (cs 0, 1383, .inl f4679))] _ := hF1.hP (hP.sub [0] rfl) (fa_c ⟨by rw [hdT.1]; decide, by rw [hdT.2]; first | decide | (simp; done) | (simp [h15a, h15b, h15c]; done) | (simp; omega)⟩ fa_n)
            have hF := hF.tr (hF1.mono (by simp))
            have hT := hT1
            obtain ⟨er4729, z4730, m4731⟩ := hqr4728
            have hm := m4731
            have hm8 := hm.2.2.2.2.2.2.2
            have hzt : er4729 = 0 → pos + 1 ≤ p4721 := (fun e9 => absurd e9 z4730)
            refine lv_aload_n hx hb dX9_statement_148 rfl (lv_at hl 1 rfl) ?_
            refine lv_bipush (v := 59) hx hb dX9_statement_149 (by decide) ?_
            refine cv_v (As := [.int 59]) (rest := []) (b := w) ⟨hx, hb, hml, hown, hts⟩ (c_X9_expect hT (w := w) hw (x := 59) hbT hdT hm ((by decide))) (cwV 1 hts gX9_statement_X9_expect rfl rfl rfl hdX9_expect_v ⟨Nat.le_of_ble_eq_true rfl, Nat.le_of_ble_eq_true rfl⟩) hN hE hL (rcv10 hN hT hw.1) rfl rfl hl.1 (Nat.le_of_ble_eq_true rfl) dX9_statement_151 (Nat.zero_le _) (Nat.zero_le _) (fun H1 locs hL hqr4732 => ?_)
            obtain ⟨hT1, hF1, hqr4732⟩ := hqr4732
            have hP : va_P D vwCl [(dr, .inl (cs 0, 1383, .inl f4679))] _ := hF1.hP (hP.sub [0] rfl) (fa_c ⟨by rw [hdT.1]; decide, by rw [hdT.2]; first | decide | (simp; done) | (simp [h15a, h15b, h15c]; done) | (simp; omega)⟩ fa_n)
            have hF := hF.tr (hF1.mono (by simp))
            have hT := hT1
            obtain ⟨p4733, er4734, a4735, z4736, m4737⟩ := hqr4732
            have hm := m4737
            have hm8 := hm.2.2.2.2.2.2.2
            have hps : PS D cs w _ (p4733) (tl) (er4734) (0) dr bu g (N) (h) := ⟨hm, f4679, hP 0 _ rfl, e4679, by omega, (fun e9 => (fun e9 => absurd e9 z4730) (z4736 e9))⟩
            exact en_v hx hb hr hlocks hL (Nat.zero_le _) (Nat.zero_le _) dX9_statement_154 (⟨hT, hF, N, h, p4733, er4734, (by omega), (fun e9 => by have h9 := hzt (z4736 e9); omega), hps⟩)
          · have hm := m4727
            have hm8 := hm.2.2.2.2.2.2.2
            refine lv_if_eq (tgt := 141) hx hb dX9_statement_117 (by decide) (fun c9 => absurd c9 (by decide)) (fun _ => ?_)
            refine lv_aload_n hx hb dX9_statement_120 rfl (lv_at hl 1 rfl) ?_
            refine lv_iconst (v := 2) hx hb dX9_statement_121 (by decide) ?_
            refine lv_iload_n hx hb dX9_statement_122 rfl (lv_at hl 0 rfl) ?_
            refine cv_v (As := [.int 2, .int (nI p4682)]) (rest := []) (b := w) ⟨hx, hb, hml, hown, hts⟩ (c_X9_once hT (w := w) hw (x := 2) (y := (nI p4682)) hbT hdT hm) (cwV 2 hts gX9_statement_X9_once rfl rfl rfl hdX9_once_v ⟨Nat.le_of_ble_eq_true rfl, Nat.le_of_ble_eq_true rfl⟩) hN hE hL (rcv10 hN hT hw.1) rfl rfl hl.1 (Nat.le_of_ble_eq_true rfl) dX9_statement_123 (Nat.zero_le _) (Nat.zero_le _) (fun H1 locs hL hqr4738 => ?_)
            obtain ⟨hT1, hF1, hqr4738⟩ := hqr4738
            have hP : va_P D vwCl [(dr, .inl (cs 0, 1383, .inl f4679))] _ := hF1.hP (hP.sub [0] rfl) (fa_c ⟨by rw [hdT.1]; decide, by rw [hdT.2]; first | decide | (simp; done) | (simp [h15a, h15b, h15c]; done) | (simp; omega)⟩ fa_n)
            have hF := hF.tr (hF1.mono (by simp))
            have hT := hT1
            obtain ⟨er4739, z4740, m4741⟩ := hqr4738
            have hm := m4741
            have hm8 := hm.2.2.2.2.2.2.2
            refine lv_aload_n hx hb dX9_statement_126 rfl (lv_at hl 1 rfl) ?_
            obtain ⟨hb4742, e4742, hat4742, hk4742⟩ := hT.o10 hw.1
            obtain ⟨f4742_0, f4742_1, f4742_3, f4742_4, f4742_5, f4742_6, f4742_7, f4742_9, f4742_10, f4742_11, f4742_12, f4742_13, f4742_14, f4742_15, f4742_16, f4742_17, rfl, c4742_2, c4742_3, c4742_4, c4742_12, t4742_1, t4742_8, t4742_9, c4742_sd, t4742_10, t4742_11, t4742_17⟩ := hk4742
            obtain ⟨rfl, rfl, rfl, rfl, rfl, rfl⟩ := hm.at hat4742 c4742_3 (by omega)
            have hm8 := hm.2.2.2.2.2.2.2
            have hP : va_P D vwCl [(w, .inr (9, [.int f4742_0, .ref bu, .int (nI ((κ w).2.2.1)), .int (nI tl), .int (nI p4724), .int er4739, .int f4742_6, .int f4742_7, .ref (κ w).2.2.2, .ref f4742_9, .ref dr, .ref f4742_11, .int (nI f4742_12), .int f4742_13, .int 0, .int f4742_15, .int f4742_16, .ref f4742_17])), (dr, .inl (cs 0, 1383, .inl f4679))] _ := va_P.cons hat4742 hP
            refine va_get (D := D) (ci := 9) (v := .ref dr) (C := RX9) (T := TX9) (N := 18) hx hb hts iX9_statement_9 hown hN.1 hP 0 rfl rfl 10 (by decide) (hts _ mX9_statement_2) (fun _ h9 => h9) rfl dX9_statement_127 ?_
            refine lv_bipush (v := 13) hx hb dX9_statement_130 (by decide) ?_
            refine lv_iconst (v := 1) hx hb dX9_statement_132 (by decide) ?_
            have hB : Bx B0 D _ [(w, .inr (9, [.int f4742_0, .ref bu, .int (nI ((κ w).2.2.1)), .int (nI tl), .int (nI p4724), .int er4739, .int f4742_6, .int f4742_7, .ref (κ w).2.2.2, .ref f4742_9, .ref dr, .ref f4742_11, .int (nI f4742_12), .int f4742_13, .int 0, .int f4742_15, .int f4742_16, .ref f4742_17])), (dr, .inl (cs 0, 1383, .inl f4679))] [] _ _ := Bx.of (fun a => (κ a).1) hL hP (fa_c hb4742 (fa_c hbd fa_n)) (by simp only [List.map_cons, List.map_nil, hw.1, hdT.1]; decide)
            refine b_i hx hb hN hB 1 rfl (show vp_in (13 : Int32) 1383 from vp_in_nI (n := 13) (N := 1383) (by omega) (by omega)) (.inl rfl) dX9_statement_133 (fun H locs hB => ?_)
            rw [(show (13 : Int32).toNatClampNeg = 13 from nI_clamp (n := 13) (by omega))] at hB
            have hB : Bx B0 D _ [(w, .inr (9, [.int f4742_0, .ref bu, .int (nI ((κ w).2.2.1)), .int (nI tl), .int (nI p4724), .int er4739, .int f4742_6, .int f4742_7, .ref (κ w).2.2.2, .ref f4742_9, .ref dr, .ref f4742_11, .int (nI f4742_12), .int f4742_13, .int 0, .int f4742_15, .int f4742_16, .ref f4742_17])), (dr, .inl (cs 0, 1383, .inl (upd f4679 13 1)))] [dr] _ _ := hB
            have z4743 := DRK.sf hDR (k := 13) (by omega) (x := 1)
            have e4744 := (pk_un (f := f4679) (x := 1) (show 14 ≠ 13 by omega)).trans e4679
            refine lv_aload_n hx hb dX9_statement_134 rfl (lv_at hl 1 rfl) ?_
            have hT : WT B0 D cs T κ _ := hT.close hB ⟨⟨1, _, rfl, ok_26 hdT.1 ⟨_, rfl, z4743⟩⟩, trivial⟩
            have hF : Fr B0 [12, 17] κ H0 _ := hF.close hB (fa_c (by simp [hdT.2]) fa_n)
            have hL : OkL B0 _ := hB.2.2.2.2.2
            have hP : va_P D vwCl [(w, .inr (9, [.int f4742_0, .ref bu, .int (nI ((κ w).2.2.1)), .int (nI tl), .int (nI p4724), .int er4739, .int f4742_6, .int f4742_7, .ref (κ w).2.2.2, .ref f4742_9, .ref dr, .ref f4742_11, .int (nI f4742_12), .int f4742_13, .int 0, .int f4742_15, .int f4742_16, .ref f4742_17])), (dr, .inl (cs 0, 1383, .inl (upd f4679 13 1)))] _ := hB.1
            have hm := hm.kp hB (by simp only [List.mem_cons, List.not_mem_nil, or_false, not_or]; exact ne_c hbT.1 hdT.1 (by decide)) (by simp only [List.mem_cons, List.not_mem_nil, or_false, not_or]; exact ne_c hw.1 hdT.1 (by decide))
            have hps : PS D cs w _ (p4724) (tl) (er4739) (0) dr bu g (N) (h) := ⟨hm, (upd f4679 13 1), hP 1 _ rfl, e4744, by omega, (CVu (by omega) (fun e9 => v4679 (z4740 e9)))⟩
            refine cv_v (As := []) (rest := []) (b := w) ⟨hx, hb, hml, hown, hts⟩ (c_X9_readSum_d0 hT (w := w) hw hbT hdT hps) (cwV 0 hts gX9_statement_X9_readSum rfl rfl rfl hdX9_readSum_v ⟨Nat.le_of_ble_eq_true rfl, Nat.le_of_ble_eq_true rfl⟩) hN hE hL (rcv10 hN hT hw.1) rfl rfl hl.1 (Nat.le_of_ble_eq_true rfl) dX9_statement_135 (Nat.zero_le _) (Nat.zero_le _) (fun H1 locs hL hqr4745 => ?_)
            obtain ⟨hT1, hF1, hqr4745⟩ := hqr4745
            have hF := hF.tr (hF1.mono (by simp))
            have hT := hT1
            obtain ⟨N4746, p4747, er4748, a4749, b4750, z4751, m4752, f4753, d4754, e4755, n4756, v4757⟩ := hqr4745
            have hm := m4752
            have hm8 := hm.2.2.2.2.2.2.2
            have hbd : B0 ≤ dr := (hT.o26 hdT.1).1
            have hDR := hT.dr hdT d4754
            have hP : va_P D vwCl [(dr, .inl (cs 0, 1383, .inl f4753))] _ := va_P.cons d4754 va_P.nil
            refine lv_goto (tgt := 148) hx hb dX9_statement_138 (by decide) ?_
            have hzt : er4748 = 0 → pos + 1 ≤ p4747 := (fun _ => by omega)
            refine lv_aload_n hx hb dX9_statement_148 rfl (lv_at hl 1 rfl) ?_
            refine lv_bipush (v := 59) hx hb dX9_statement_149 (by decide) ?_
            refine cv_v (As := [.int 59]) (rest := []) (b := w) ⟨hx, hb, hml, hown, hts⟩ (c_X9_expect hT (w := w) hw (x := 59) hbT hdT hm ((by decide))) (cwV 1 hts gX9_statement_X9_expect rfl rfl rfl hdX9_expect_v ⟨Nat.le_of_ble_eq_true rfl, Nat.le_of_ble_eq_true rfl⟩) hN hE hL (rcv10 hN hT hw.1) rfl rfl hl.1 (Nat.le_of_ble_eq_true rfl) dX9_statement_151 (Nat.zero_le _) (Nat.zero_le _) (fun H1 locs hL hqr4759 => ?_)
            obtain ⟨hT1, hF1, hqr4759⟩ := hqr4759
            have hP : va_P D vwCl [(dr, .inl (cs 0, 1383, .inl f4753))] _ := hF1.hP (hP.sub [0] rfl) (fa_c ⟨by rw [hdT.1]; decide, by rw [hdT.2]; first | decide | (simp; done) | (simp [h15a, h15b, h15c]; done) | (simp; omega)⟩ fa_n)
            have hF := hF.tr (hF1.mono (by simp))
            have hT := hT1
            obtain ⟨p4760, er4761, a4762, z4763, m4764⟩ := hqr4759
            have hm := m4764
            have hm8 := hm.2.2.2.2.2.2.2
            have hps : PS D cs w _ (p4760) (tl) (er4761) (0) dr bu g (N4746) ((h + 1)) := ⟨hm, f4753, hP 0 _ rfl, e4755, by omega, (fun e9 => v4757 (z4763 e9))⟩
            exact en_v hx hb hr hlocks hL (Nat.zero_le _) (Nat.zero_le _) dX9_statement_154 (⟨hT, hF, N4746, (h + 1), p4760, er4761, (by omega), (fun e9 => by have h9 := hzt (z4763 e9); omega), hps⟩)
        · have hm := m4719
          have hm8 := hm.2.2.2.2.2.2.2
          refine lv_if_eq (tgt := 111) hx hb dX9_statement_84 (by decide) (fun c9 => absurd c9 (by decide)) (fun _ => ?_)
          refine lv_aload_n hx hb dX9_statement_87 rfl (lv_at hl 1 rfl) ?_
          refine lv_iconst (v := 1) hx hb dX9_statement_88 (by decide) ?_
          refine lv_iload_n hx hb dX9_statement_89 rfl (lv_at hl 0 rfl) ?_
          refine cv_v (As := [.int 1, .int (nI p4682)]) (rest := []) (b := w) ⟨hx, hb, hml, hown, hts⟩ (c_X9_once hT (w := w) hw (x := 1) (y := (nI p4682)) hbT hdT hm) (cwV 2 hts gX9_statement_X9_once rfl rfl rfl hdX9_once_v ⟨Nat.le_of_ble_eq_true rfl, Nat.le_of_ble_eq_true rfl⟩) hN hE hL (rcv10 hN hT hw.1) rfl rfl hl.1 (Nat.le_of_ble_eq_true rfl) dX9_statement_90 (Nat.zero_le _) (Nat.zero_le _) (fun H1 locs hL hqr4765 => ?_)
          obtain ⟨hT1, hF1, hqr4765⟩ := hqr4765
          have hP : va_P D vwCl [(dr, .inl (cs 0, 1383, .inl f4679))] _ := hF1.hP (hP.sub [0] rfl) (fa_c ⟨by rw [hdT.1]; decide, by rw [hdT.2]; first | decide | (simp; done) | (simp [h15a, h15b, h15c]; done) | (simp; omega)⟩ fa_n)
          have hF := hF.tr (hF1.mono (by simp))
          have hT := hT1
          obtain ⟨er4766, z4767, m4768⟩ := hqr4765
          have hm := m4768
          have hm8 := hm.2.2.2.2.2.2.2
          refine lv_aload_n hx hb dX9_statement_93 rfl (lv_at hl 1 rfl) ?_
          obtain ⟨hb4769, e4769, hat4769, hk4769⟩ := hT.o10 hw.1
          obtain ⟨f4769_0, f4769_1, f4769_3, f4769_4, f4769_5, f4769_6, f4769_7, f4769_9, f4769_10, f4769_11, f4769_12, f4769_13, f4769_14, f4769_15, f4769_16, f4769_17, rfl, c4769_2, c4769_3, c4769_4, c4769_12, t4769_1, t4769_8, t4769_9, c4769_sd, t4769_10, t4769_11, t4769_17⟩ := hk4769
          obtain ⟨rfl, rfl, rfl, rfl, rfl, rfl⟩ := hm.at hat4769 c4769_3 (by omega)
          have hm8 := hm.2.2.2.2.2.2.2
          have hP : va_P D vwCl [(w, .inr (9, [.int f4769_0, .ref bu, .int (nI ((κ w).2.2.1)), .int (nI tl), .int (nI p4716), .int er4766, .int f4769_6, .int f4769_7, .ref (κ w).2.2.2, .ref f4769_9, .ref dr, .ref f4769_11, .int (nI f4769_12), .int f4769_13, .int 0, .int f4769_15, .int f4769_16, .ref f4769_17])), (dr, .inl (cs 0, 1383, .inl f4679))] _ := va_P.cons hat4769 hP
          refine va_get (D := D) (ci := 9) (v := .ref dr) (C := RX9) (T := TX9) (N := 18) hx hb hts iX9_statement_9 hown hN.1 hP 0 rfl rfl 10 (by decide) (hts _ mX9_statement_2) (fun _ h9 => h9) rfl dX9_statement_94 ?_
          refine lv_bipush (v := 12) hx hb dX9_statement_97 (by decide) ?_
          refine lv_aload_n hx hb dX9_statement_99 rfl (lv_at hl 1 rfl) ?_
          refine lv_iconst (v := 1) hx hb dX9_statement_100 (by decide) ?_
          refine lv_sipush (v := 200) hx hb dX9_statement_101 (by decide) ?_
          refine cv_i (As := [.int 1, .int 200]) (rest := [.int 12, .ref dr]) (b := w) ⟨hx, hb, hml, hown, hts⟩ (c_X9_number hT (w := w) hw (x := 1) (y := 200) hbT hdT hm) (cwV 2 hts gX9_statement_X9_number rfl rfl rfl hdX9_number_v ⟨Nat.le_of_ble_eq_true rfl, Nat.le_of_ble_eq_true rfl⟩) hN hE hL (rcv10 hN hT hw.1) rfl rfl hl.1 (Nat.le_of_ble_eq_true rfl) dX9_statement_104 (Nat.zero_le _) (Nat.zero_le _) (fun r4770 H1 locs hL hqr4770 => ?_)
          obtain ⟨hT1, hF1, hqr4770⟩ := hqr4770
          have hP : va_P D vwCl [(dr, .inl (cs 0, 1383, .inl f4679))] _ := hF1.hP (hP.sub [1] rfl) (fa_c ⟨by rw [hdT.1]; decide, by rw [hdT.2]; first | decide | (simp; done) | (simp [h15a, h15b, h15c]; done) | (simp; omega)⟩ fa_n)
          have hF := hF.tr (hF1.mono (by simp))
          have hT := hT1
          obtain ⟨p4771, er4772, a4773, z4774, m4775, q4776⟩ := hqr4770
          have hm := m4775
          have hm8 := hm.2.2.2.2.2.2.2
          have hB : Bx B0 D _ [(dr, .inl (cs 0, 1383, .inl f4679))] [] _ _ := Bx.of (fun a => (κ a).1) hL hP (fa_c hbd fa_n) (by simp only [List.map_cons, List.map_nil, hdT.1]; decide)
          refine b_i hx hb hN hB 0 rfl (show vp_in (12 : Int32) 1383 from vp_in_nI (n := 12) (N := 1383) (by omega) (by omega)) (.inl rfl) dX9_statement_107 (fun H locs hB => ?_)
          rw [(show (12 : Int32).toNatClampNeg = 12 from nI_clamp (n := 12) (by omega))] at hB
          have hB : Bx B0 D _ [(dr, .inl (cs 0, 1383, .inl (upd f4679 12 r4770)))] [dr] _ _ := hB
          have z4777 := DRK.sf hDR (k := 12) (by omega) (x := r4770)
          have e4778 := (pk_un (f := f4679) (x := r4770) (show 14 ≠ 12 by omega)).trans e4679
          refine lv_goto (tgt := 148) hx hb dX9_statement_108 (by decide) ?_
          have hzt : er4772 = 0 → pos + 1 ≤ p4771 := (fun _ => by omega)
          refine lv_aload_n hx hb dX9_statement_148 rfl (lv_at hl 1 rfl) ?_
          refine lv_bipush (v := 59) hx hb dX9_statement_149 (by decide) ?_
          have hT : WT B0 D cs T κ _ := hT.close hB ⟨⟨0, _, rfl, ok_26 hdT.1 ⟨_, rfl, z4777⟩⟩, trivial⟩
          have hF : Fr B0 [12, 17] κ H0 _ := hF.close hB (fa_c (by simp [hdT.2]) fa_n)
          have hL : OkL B0 _ := hB.2.2.2.2.2
          have hP : va_P D vwCl [(dr, .inl (cs 0, 1383, .inl (upd f4679 12 r4770)))] _ := hB.1
          have hm := hm.kp hB (by simp only [List.mem_cons, List.not_mem_nil, or_false, not_or]; exact ne_c hbT.1 hdT.1 (by decide)) (by simp only [List.mem_cons, List.not_mem_nil, or_false, not_or]; exact ne_c hw.1 hdT.1 (by decide))
          refine cv_v (As := [.int 59]) (rest := []) (b := w) ⟨hx, hb, hml, hown, hts⟩ (c_X9_expect hT (w := w) hw (x := 59) hbT hdT hm ((by decide))) (cwV 1 hts gX9_statement_X9_expect rfl rfl rfl hdX9_expect_v ⟨Nat.le_of_ble_eq_true rfl, Nat.le_of_ble_eq_true rfl⟩) hN hE hL (rcv10 hN hT hw.1) rfl rfl hl.1 (Nat.le_of_ble_eq_true rfl) dX9_statement_151 (Nat.zero_le _) (Nat.zero_le _) (fun H1 locs hL hqr4779 => ?_)
          obtain ⟨hT1, hF1, hqr4779⟩ := hqr4779
          have hP : va_P D vwCl [(dr, .inl (cs 0, 1383, .inl (upd f4679 12 r4770)))] _ := hF1.hP (hP.sub [0] rfl) (fa_c ⟨by rw [hdT.1]; decide, by rw [hdT.2]; first | decide | (simp; done) | (simp [h15a, h15b, h15c]; done) | (simp; omega)⟩ fa_n)
          have hF := hF.tr (hF1.mono (by simp))
          have hT := hT1
          obtain ⟨p4780, er4781, a4782, z4783, m4784⟩ := hqr4779
          have hm := m4784
          have hm8 := hm.2.2.2.2.2.2.2
          have hps : PS D cs w _ (p4780) (tl) (er4781) (0) dr bu g (N) (h) := ⟨hm, (upd f4679 12 r4770), hP 0 _ rfl, e4778, by omega, (fun e9 => (CVu (by omega) (fun e9 => (fun e9 => v4679 (z4767 e9)) ((fun e9 => (z4774 e9).1) e9))) (z4783 e9))⟩
          exact en_v hx hb hr hlocks hL (Nat.zero_le _) (Nat.zero_le _) dX9_statement_154 (⟨hT, hF, N, h, p4780, er4781, (by omega), (fun e9 => by have h9 := hzt (z4783 e9); omega), hps⟩)
      · have hm := m4711
        have hm8 := hm.2.2.2.2.2.2.2
        refine lv_if_eq (tgt := 78) hx hb dX9_statement_48 (by decide) (fun c9 => absurd c9 (by decide)) (fun _ => ?_)
        refine lv_aload_n hx hb dX9_statement_51 rfl (lv_at hl 1 rfl) ?_
        refine lv_iconst (v := 0) hx hb dX9_statement_52 (by decide) ?_
        refine lv_iload_n hx hb dX9_statement_53 rfl (lv_at hl 0 rfl) ?_
        refine cv_v (As := [.int 0, .int (nI p4682)]) (rest := []) (b := w) ⟨hx, hb, hml, hown, hts⟩ (c_X9_once hT (w := w) hw (x := 0) (y := (nI p4682)) hbT hdT hm) (cwV 2 hts gX9_statement_X9_once rfl rfl rfl hdX9_once_v ⟨Nat.le_of_ble_eq_true rfl, Nat.le_of_ble_eq_true rfl⟩) hN hE hL (rcv10 hN hT hw.1) rfl rfl hl.1 (Nat.le_of_ble_eq_true rfl) dX9_statement_54 (Nat.zero_le _) (Nat.zero_le _) (fun H1 locs hL hqr4785 => ?_)
        obtain ⟨hT1, hF1, hqr4785⟩ := hqr4785
        have hP : va_P D vwCl [(dr, .inl (cs 0, 1383, .inl f4679))] _ := hF1.hP (hP.sub [0] rfl) (fa_c ⟨by rw [hdT.1]; decide, by rw [hdT.2]; first | decide | (simp; done) | (simp [h15a, h15b, h15c]; done) | (simp; omega)⟩ fa_n)
        have hF := hF.tr (hF1.mono (by simp))
        have hT := hT1
        obtain ⟨er4786, z4787, m4788⟩ := hqr4785
        have hm := m4788
        have hm8 := hm.2.2.2.2.2.2.2
        refine lv_aload_n hx hb dX9_statement_57 rfl (lv_at hl 1 rfl) ?_
        obtain ⟨hb4789, e4789, hat4789, hk4789⟩ := hT.o10 hw.1
        obtain ⟨f4789_0, f4789_1, f4789_3, f4789_4, f4789_5, f4789_6, f4789_7, f4789_9, f4789_10, f4789_11, f4789_12, f4789_13, f4789_14, f4789_15, f4789_16, f4789_17, rfl, c4789_2, c4789_3, c4789_4, c4789_12, t4789_1, t4789_8, t4789_9, c4789_sd, t4789_10, t4789_11, t4789_17⟩ := hk4789
        obtain ⟨rfl, rfl, rfl, rfl, rfl, rfl⟩ := hm.at hat4789 c4789_3 (by omega)
        have hm8 := hm.2.2.2.2.2.2.2
        have hP : va_P D vwCl [(w, .inr (9, [.int f4789_0, .ref bu, .int (nI ((κ w).2.2.1)), .int (nI tl), .int (nI p4708), .int er4786, .int f4789_6, .int f4789_7, .ref (κ w).2.2.2, .ref f4789_9, .ref dr, .ref f4789_11, .int (nI f4789_12), .int f4789_13, .int 0, .int f4789_15, .int f4789_16, .ref f4789_17])), (dr, .inl (cs 0, 1383, .inl f4679))] _ := va_P.cons hat4789 hP
        refine va_get (D := D) (ci := 9) (v := .ref dr) (C := RX9) (T := TX9) (N := 18) hx hb hts iX9_statement_9 hown hN.1 hP 0 rfl rfl 10 (by decide) (hts _ mX9_statement_2) (fun _ h9 => h9) rfl dX9_statement_58 ?_
        refine lv_bipush (v := 11) hx hb dX9_statement_61 (by decide) ?_
        refine lv_aload_n hx hb dX9_statement_63 rfl (lv_at hl 1 rfl) ?_
        refine lv_iconst (v := 1) hx hb dX9_statement_64 (by decide) ?_
        refine lv_aload_n hx hb dX9_statement_65 rfl (lv_at hl 1 rfl) ?_
        refine va_get (D := D) (ci := 9) (v := .ref dr) (C := RX9) (T := TX9) (N := 18) hx hb hts iX9_statement_9 hown hN.1 hP 0 rfl rfl 10 (by decide) (hts _ mX9_statement_2) (fun _ h9 => h9) rfl dX9_statement_66 ?_
        refine lv_iconst (v := 0) hx hb dX9_statement_69 (by decide) ?_
        refine ld_i (v := (f4679 0)) hx hb hN hP 1 rfl (vp_in_nI (n := 0) (N := 1383) (by omega) (by omega)) (by rw [(show (0 : Int32).toNatClampNeg = 0 from nI_clamp (n := 0) (by omega))]) dX9_statement_70 ?_
        obtain ⟨n4790, hn4790, en4790⟩ := hDR.1
        refine tp_i (nI n4790) en4790 ?_
        refine cv_i (As := [.int 1, .int (nI n4790)]) (rest := [.int 11, .ref dr]) (b := w) ⟨hx, hb, hml, hown, hts⟩ (c_X9_number hT (w := w) hw (x := 1) (y := (nI n4790)) hbT hdT hm) (cwV 2 hts gX9_statement_X9_number rfl rfl rfl hdX9_number_v ⟨Nat.le_of_ble_eq_true rfl, Nat.le_of_ble_eq_true rfl⟩) hN hE hL (rcv10 hN hT hw.1) rfl rfl hl.1 (Nat.le_of_ble_eq_true rfl) dX9_statement_71 (Nat.zero_le _) (Nat.zero_le _) (fun r4791 H1 locs hL hqr4791 => ?_)
        obtain ⟨hT1, hF1, hqr4791⟩ := hqr4791
        have hP : va_P D vwCl [(dr, .inl (cs 0, 1383, .inl f4679))] _ := hF1.hP (hP.sub [1] rfl) (fa_c ⟨by rw [hdT.1]; decide, by rw [hdT.2]; first | decide | (simp; done) | (simp [h15a, h15b, h15c]; done) | (simp; omega)⟩ fa_n)
        have hF := hF.tr (hF1.mono (by simp))
        have hT := hT1
        obtain ⟨p4792, er4793, a4794, z4795, m4796, q4797⟩ := hqr4791
        have hm := m4796
        have hm8 := hm.2.2.2.2.2.2.2
        have hB : Bx B0 D _ [(dr, .inl (cs 0, 1383, .inl f4679))] [] _ _ := Bx.of (fun a => (κ a).1) hL hP (fa_c hbd fa_n) (by simp only [List.map_cons, List.map_nil, hdT.1]; decide)
        refine b_i hx hb hN hB 0 rfl (show vp_in (11 : Int32) 1383 from vp_in_nI (n := 11) (N := 1383) (by omega) (by omega)) (.inl rfl) dX9_statement_74 (fun H locs hB => ?_)
        rw [(show (11 : Int32).toNatClampNeg = 11 from nI_clamp (n := 11) (by omega))] at hB
        have hB : Bx B0 D _ [(dr, .inl (cs 0, 1383, .inl (upd f4679 11 r4791)))] [dr] _ _ := hB
        have z4798 := DRK.sf hDR (k := 11) (by omega) (x := r4791)
        have e4799 := (pk_un (f := f4679) (x := r4791) (show 14 ≠ 11 by omega)).trans e4679
        have e4800 := (pk_un (f := f4679) (x := r4791) (show 0 ≠ 11 by omega)).trans en4790
        refine lv_goto (tgt := 148) hx hb dX9_statement_75 (by decide) ?_
        have hzt : er4793 = 0 → pos + 1 ≤ p4792 := (fun _ => by omega)
        refine lv_aload_n hx hb dX9_statement_148 rfl (lv_at hl 1 rfl) ?_
        refine lv_bipush (v := 59) hx hb dX9_statement_149 (by decide) ?_
        have hT : WT B0 D cs T κ _ := hT.close hB ⟨⟨0, _, rfl, ok_26 hdT.1 ⟨_, rfl, z4798⟩⟩, trivial⟩
        have hF : Fr B0 [12, 17] κ H0 _ := hF.close hB (fa_c (by simp [hdT.2]) fa_n)
        have hL : OkL B0 _ := hB.2.2.2.2.2
        have hP : va_P D vwCl [(dr, .inl (cs 0, 1383, .inl (upd f4679 11 r4791)))] _ := hB.1
        have hm := hm.kp hB (by simp only [List.mem_cons, List.not_mem_nil, or_false, not_or]; exact ne_c hbT.1 hdT.1 (by decide)) (by simp only [List.mem_cons, List.not_mem_nil, or_false, not_or]; exact ne_c hw.1 hdT.1 (by decide))
        refine cv_v (As := [.int 59]) (rest := []) (b := w) ⟨hx, hb, hml, hown, hts⟩ (c_X9_expect hT (w := w) hw (x := 59) hbT hdT hm ((by decide))) (cwV 1 hts gX9_statement_X9_expect rfl rfl rfl hdX9_expect_v ⟨Nat.le_of_ble_eq_true rfl, Nat.le_of_ble_eq_true rfl⟩) hN hE hL (rcv10 hN hT hw.1) rfl rfl hl.1 (Nat.le_of_ble_eq_true rfl) dX9_statement_151 (Nat.zero_le _) (Nat.zero_le _) (fun H1 locs hL hqr4801 => ?_)
        obtain ⟨hT1, hF1, hqr4801⟩ := hqr4801
        have hP : va_P D vwCl [(dr, .inl (cs 0, 1383, .inl (upd f4679 11 r4791)))] _ := hF1.hP (hP.sub [0] rfl) (fa_c ⟨by rw [hdT.1]; decide, by rw [hdT.2]; first | decide | (simp; done) | (simp [h15a, h15b, h15c]; done) | (simp; omega)⟩ fa_n)
        have hF := hF.tr (hF1.mono (by simp))
        have hT := hT1
        obtain ⟨p4802, er4803, a4804, z4805, m4806⟩ := hqr4801
        have hm := m4806
        have hm8 := hm.2.2.2.2.2.2.2
        have hps : PS D cs w _ (p4802) (tl) (er4803) (0) dr bu g (N) (h) := ⟨hm, (upd f4679 11 r4791), hP 0 _ rfl, e4799, by omega, (fun e9 => (CVu (by omega) (fun e9 => (fun e9 => v4679 (z4787 e9)) ((fun e9 => (z4795 e9).1) e9))) (z4805 e9))⟩
        exact en_v hx hb hr hlocks hL (Nat.zero_le _) (Nat.zero_le _) dX9_statement_154 (⟨hT, hF, N, h, p4802, er4803, (by omega), (fun e9 => by have h9 := hzt (z4805 e9); omega), hps⟩)
    · have hm := m4703
      have hm8 := hm.2.2.2.2.2.2.2
      refine lv_if_eq (tgt := 42) hx hb dX9_statement_32 (by decide) (fun c9 => absurd c9 (by decide)) (fun _ => ?_)
      refine lv_aload_n hx hb dX9_statement_35 rfl (lv_at hl 1 rfl) ?_
      have hps : PS D cs w _ (p4700) (tl) (er) (0) dr bu g (N) (h) := ⟨hm, f4679, hP 0 _ rfl, e4679, by omega, v4679⟩
      refine cv_v (As := []) (rest := []) (b := w) ⟨hx, hb, hml, hown, hts⟩ (c_X9_readLink hT (w := w) hw hbT hdT hps) (cwV 0 hts gX9_statement_X9_readLink rfl rfl rfl hdX9_readLink_v ⟨Nat.le_of_ble_eq_true rfl, Nat.le_of_ble_eq_true rfl⟩) hN hE hL (rcv10 hN hT hw.1) rfl rfl hl.1 (Nat.le_of_ble_eq_true rfl) dX9_statement_36 (Nat.zero_le _) (Nat.zero_le _) (fun H1 locs hL hqr4807 => ?_)
      obtain ⟨hT1, hF1, hqr4807⟩ := hqr4807
      have hF := hF.tr (hF1.mono (by simp))
      have hT := hT1
      obtain ⟨p4808, er4809, b4810, z4811, m4812, f4813, d4814, e4815, n4816, v4817⟩ := hqr4807
      have hm := m4812
      have hm8 := hm.2.2.2.2.2.2.2
      have hbd : B0 ≤ dr := (hT.o26 hdT.1).1
      have hDR := hT.dr hdT d4814
      have hP : va_P D vwCl [(dr, .inl (cs 0, 1383, .inl f4813))] _ := va_P.cons d4814 va_P.nil
      refine lv_goto (tgt := 148) hx hb dX9_statement_39 (by decide) ?_
      have hzt : er4809 = 0 → pos + 1 ≤ p4808 := (fun _ => by omega)
      refine lv_aload_n hx hb dX9_statement_148 rfl (lv_at hl 1 rfl) ?_
      refine lv_bipush (v := 59) hx hb dX9_statement_149 (by decide) ?_
      refine cv_v (As := [.int 59]) (rest := []) (b := w) ⟨hx, hb, hml, hown, hts⟩ (c_X9_expect hT (w := w) hw (x := 59) hbT hdT hm ((by decide))) (cwV 1 hts gX9_statement_X9_expect rfl rfl rfl hdX9_expect_v ⟨Nat.le_of_ble_eq_true rfl, Nat.le_of_ble_eq_true rfl⟩) hN hE hL (rcv10 hN hT hw.1) rfl rfl hl.1 (Nat.le_of_ble_eq_true rfl) dX9_statement_151 (Nat.zero_le _) (Nat.zero_le _) (fun H1 locs hL hqr4819 => ?_)
      obtain ⟨hT1, hF1, hqr4819⟩ := hqr4819
      have hP : va_P D vwCl [(dr, .inl (cs 0, 1383, .inl f4813))] _ := hF1.hP (hP.sub [0] rfl) (fa_c ⟨by rw [hdT.1]; decide, by rw [hdT.2]; first | decide | (simp; done) | (simp [h15a, h15b, h15c]; done) | (simp; omega)⟩ fa_n)
      have hF := hF.tr (hF1.mono (by simp))
      have hT := hT1
      obtain ⟨p4820, er4821, a4822, z4823, m4824⟩ := hqr4819
      have hm := m4824
      have hm8 := hm.2.2.2.2.2.2.2
      have hps : PS D cs w _ (p4820) (tl) (er4821) (0) dr bu g (N) (h) := ⟨hm, f4813, hP 0 _ rfl, e4815, by omega, (fun e9 => v4817 (z4823 e9))⟩
      exact en_v hx hb hr hlocks hL (Nat.zero_le _) (Nat.zero_le _) dX9_statement_154 (⟨hT, hF, N, h, p4820, er4821, (by omega), (fun e9 => by have h9 := hzt (z4823 e9); omega), hps⟩)
  · have hm := m4695
    have hm8 := hm.2.2.2.2.2.2.2
    refine lv_if_eq (tgt := 26) hx hb dX9_statement_16 (by decide) (fun c9 => absurd c9 (by decide)) (fun _ => ?_)
    refine lv_aload_n hx hb dX9_statement_19 rfl (lv_at hl 1 rfl) ?_
    have hps : PS D cs w _ (p4692) (tl) (er) (0) dr bu g (N) (h) := ⟨hm, f4679, hP 0 _ rfl, e4679, by omega, v4679⟩
    refine cv_v (As := []) (rest := []) (b := w) ⟨hx, hb, hml, hown, hts⟩ (c_X9_readClock hT (w := w) hw hbT hdT hps) (cwV 0 hts gX9_statement_X9_readClock rfl rfl rfl hdX9_readClock_v ⟨Nat.le_of_ble_eq_true rfl, Nat.le_of_ble_eq_true rfl⟩) hN hE hL (rcv10 hN hT hw.1) rfl rfl hl.1 (Nat.le_of_ble_eq_true rfl) dX9_statement_20 (Nat.zero_le _) (Nat.zero_le _) (fun H1 locs hL hqr4825 => ?_)
    obtain ⟨hT1, hF1, hqr4825⟩ := hqr4825
    have hF := hF.tr (hF1.mono (by simp))
    have hT := hT1
    obtain ⟨p4826, er4827, b4828, z4829, m4830, f4831, d4832, e4833, n4834, v4835⟩ := hqr4825
    have hm := m4830
    have hm8 := hm.2.2.2.2.2.2.2
    have hbd : B0 ≤ dr := (hT.o26 hdT.1).1
    have hDR := hT.dr hdT d4832
    have hP : va_P D vwCl [(dr, .inl (cs 0, 1383, .inl f4831))] _ := va_P.cons d4832 va_P.nil
    refine lv_goto (tgt := 148) hx hb dX9_statement_23 (by decide) ?_
    have hzt : er4827 = 0 → pos + 1 ≤ p4826 := (fun _ => by omega)
    refine lv_aload_n hx hb dX9_statement_148 rfl (lv_at hl 1 rfl) ?_
    refine lv_bipush (v := 59) hx hb dX9_statement_149 (by decide) ?_
    refine cv_v (As := [.int 59]) (rest := []) (b := w) ⟨hx, hb, hml, hown, hts⟩ (c_X9_expect hT (w := w) hw (x := 59) hbT hdT hm ((by decide))) (cwV 1 hts gX9_statement_X9_expect rfl rfl rfl hdX9_expect_v ⟨Nat.le_of_ble_eq_true rfl, Nat.le_of_ble_eq_true rfl⟩) hN hE hL (rcv10 hN hT hw.1) rfl rfl hl.1 (Nat.le_of_ble_eq_true rfl) dX9_statement_151 (Nat.zero_le _) (Nat.zero_le _) (fun H1 locs hL hqr4837 => ?_)
    obtain ⟨hT1, hF1, hqr4837⟩ := hqr4837
    have hP : va_P D vwCl [(dr, .inl (cs 0, 1383, .inl f4831))] _ := hF1.hP (hP.sub [0] rfl) (fa_c ⟨by rw [hdT.1]; decide, by rw [hdT.2]; first | decide | (simp; done) | (simp [h15a, h15b, h15c]; done) | (simp; omega)⟩ fa_n)
    have hF := hF.tr (hF1.mono (by simp))
    have hT := hT1
    obtain ⟨p4838, er4839, a4840, z4841, m4842⟩ := hqr4837
    have hm := m4842
    have hm8 := hm.2.2.2.2.2.2.2
    have hps : PS D cs w _ (p4838) (tl) (er4839) (0) dr bu g (N) (h) := ⟨hm, f4831, hP 0 _ rfl, e4833, by omega, (fun e9 => v4835 (z4841 e9))⟩
    exact en_v hx hb hr hlocks hL (Nat.zero_le _) (Nat.zero_le _) dX9_statement_154 (⟨hT, hF, N, h, p4838, er4839, (by omega), (fun e9 => by have h9 := hzt (z4841 e9); omega), hps⟩)
set_option maxHeartbeats 4000000 in
set_option maxRecDepth 100000 in
theorem c_X9_layPlayers {l : Launch} {D : va_G} {cs : Nat → ClassId} {B0 T : Nat} {κ : KM} {H0 : Heap} (hT : WT B0 D cs T κ H0) {w n : Nat} (hw : T2 κ w 26 17) (hn : n ≤ 8) : KC l yX9_layPlayers wsX9_layPlayers 1 20 0 0 D cs B0 H0 [.ref w, .int (nI n)] (Qv (fun H => WT B0 D cs T κ H ∧ Fr B0 [17] κ H0 H ∧ ∃ f, va_at D vwCl (w, .inl (cs 0, 1383, .inl f)) H ∧ f 14 = nI 0)) := by
  refine KC.of cX9_layPlayers 3 none (by decide) rfl (Nat.le_of_ble_eq_true rfl) ?_
  intro p e s m below meth c ls hx hb hr hml hown hts hlocks hin hN hE hH0 hl
  have hown : s.vm.findClass RX9 = some m.cls := hown
  have hl : lv_has ls 3 [(0, .ref w), (1, .int (nI n))] := hl
  have hL : OkL B0 [] := OkL.nil
  have hF : Fr B0 [17] κ H0 H0 := Fr.rf
  obtain ⟨hb4843, e4843, hat4843, hk4843⟩ := hT.o26 hw.1
  obtain ⟨g4843, rfl, q4843⟩ := hk4843
  have hP : va_P D vwCl [(w, .inl (cs 0, 1383, .inl g4843))] _ := va_P.cons hat4843 va_P.nil
  have hB : Bx B0 D _ [(w, .inl (cs 0, 1383, .inl g4843))] [] _ _ := Bx.of (fun a => (κ a).1) hL hP (fa_c hb4843 fa_n) (by simp only [List.map_cons, List.map_nil, hw.1]; decide)
  refine lv_iconst (v := 0) hx hb dX9_layPlayers_0 (by decide) ?_
  refine lv_istore_n (lv' := [(2, .int 0), (0, .ref w), (1, .int (nI n))]) hx hb dX9_layPlayers_1 rfl hl (by decide) rfl (fun ls hl => ?_)
  have hB : Bx B0 D _ [(w, .inl (cs 0, 1383, .inl g4843))] [w] _ _ := hB.ms (by simp) (fa_c hb4843 fa_n)
  refine lp_m (α := Nat × (Nat → Int32)) (nL := 3) (fun a9 => 1383 - a9.1) (fun a9 H9 l9 => (a9.1 ≤ 1383) ∧ (∀ j, j < a9.1 → a9.2 j = 0) ∧ (Bx B0 D H0 [(w, .inl (cs 0, 1383, .inl a9.2))] [w] H9 l9)) (fun a9 => [(2, .int (nI a9.1)), (0, .ref w), (1, .int (nI n))]) ?_ (0, g4843) _ _ _ ⟨(by show (0) ≤ 1383; omega), (fun j hj => absurd hj (Nat.not_lt_zero j)), hB⟩ (lv_sub hl [0, 1, 2] rfl)
  rintro ⟨k, g9a⟩ H locs ls ih4844 ⟨hk, hz, hB⟩ hl
  have hl : lv_has ls 3 [(2, .int (nI k)), (0, .ref w), (1, .int (nI n))] := hl
  have hk : k ≤ 1383 := hk
  have hz : ∀ j, j < k → g9a j = 0 := hz
  have hB : Bx B0 D _ [(w, .inl (cs 0, 1383, .inl g9a))] [w] _ _ := hB
  refine lv_iload_n hx hb dX9_layPlayers_2 rfl (lv_at hl 0 rfl) ?_
  refine lv_sipush (v := 1383) hx hb dX9_layPlayers_3 (by decide) ?_
  refine lv_icmp_ge (tgt := 19) hx hb dX9_layPlayers_6 (by decide) (fun c4845 => ?_) (fun c4845 => ?_)
  · have c4845 : 1383 ≤ k := (nI_leI (a := 1383) (b := k) (by omega) (by omega)).mp c4845
    refine lv_aload_n hx hb dX9_layPlayers_19 rfl (lv_at hl 1 rfl) ?_
    refine lv_iconst (v := 0) hx hb dX9_layPlayers_20 (by decide) ?_
    refine lv_iload_n hx hb dX9_layPlayers_21 rfl (lv_at hl 2 rfl) ?_
    refine b_i hx hb hN hB 0 rfl (vp_in_nI (n := 0) (N := 1383) (by omega) (by omega)) (.inr ⟨rfl, List.mem_of_getElem? (i := 0) rfl⟩) dX9_layPlayers_22 (fun H locs hB => ?_)
    rw [(show (0 : Int32).toNatClampNeg = 0 from nI_clamp (n := 0) (by omega))] at hB
    have hB : Bx B0 D _ [(w, .inl (cs 0, 1383, .inl (upd g9a 0 (nI n))))] [w] _ _ := hB
    have hz : ∀ j, j < 1383 → g9a j = 0 := fun j hj => hz j (by omega)
    have z4846 := DRK.lay hz (n := n) (by omega)
    have ez4846 := (pk_un (f := g9a) (x := (nI n)) (show (14 : Nat) ≠ 0 by omega)).trans (hz 14 (by omega))
    refine lv_aload_n hx hb dX9_layPlayers_23 rfl (lv_at hl 1 rfl) ?_
    refine lv_bipush (v := 11) hx hb dX9_layPlayers_24 (by decide) ?_
    refine lv_iload_n hx hb dX9_layPlayers_26 rfl (lv_at hl 2 rfl) ?_
    refine b_i hx hb hN hB 0 rfl (show vp_in (11 : Int32) 1383 from vp_in_nI (n := 11) (N := 1383) (by omega) (by omega)) (.inr ⟨rfl, List.mem_of_getElem? (i := 0) rfl⟩) dX9_layPlayers_27 (fun H locs hB => ?_)
    rw [(show (11 : Int32).toNatClampNeg = 11 from nI_clamp (n := 11) (by omega))] at hB
    have hB : Bx B0 D _ [(w, .inl (cs 0, 1383, .inl (upd (upd g9a 0 (nI n)) 11 (nI n))))] [w] _ _ := hB
    have z4847 := DRK.sf z4846 (k := 11) (by omega) (x := (nI n))
    have e4848 := (pk_un (f := (upd g9a 0 (nI n))) (x := (nI n)) (show 14 ≠ 11 by omega)).trans ez4846
    refine lv_aload_n hx hb dX9_layPlayers_28 rfl (lv_at hl 1 rfl) ?_
    refine lv_bipush (v := 12) hx hb dX9_layPlayers_29 (by decide) ?_
    refine lv_bipush (v := 50) hx hb dX9_layPlayers_31 (by decide) ?_
    refine b_i hx hb hN hB 0 rfl (show vp_in (12 : Int32) 1383 from vp_in_nI (n := 12) (N := 1383) (by omega) (by omega)) (.inr ⟨rfl, List.mem_of_getElem? (i := 0) rfl⟩) dX9_layPlayers_33 (fun H locs hB => ?_)
    rw [(show (12 : Int32).toNatClampNeg = 12 from nI_clamp (n := 12) (by omega))] at hB
    have hB : Bx B0 D _ [(w, .inl (cs 0, 1383, .inl (upd (upd (upd g9a 0 (nI n)) 11 (nI n)) 12 50)))] [w] _ _ := hB
    have z4849 := DRK.sf z4847 (k := 12) (by omega) (x := 50)
    have e4850 := (pk_un (f := (upd (upd g9a 0 (nI n)) 11 (nI n))) (x := 50) (show 14 ≠ 12 by omega)).trans e4848
    refine lv_aload_n hx hb dX9_layPlayers_34 rfl (lv_at hl 1 rfl) ?_
    refine lv_bipush (v := 21) hx hb dX9_layPlayers_35 (by decide) ?_
    refine lv_iconst (v := (-1)) hx hb dX9_layPlayers_37 (by decide) ?_
    refine b_i hx hb hN hB 0 rfl (show vp_in (21 : Int32) 1383 from vp_in_nI (n := 21) (N := 1383) (by omega) (by omega)) (.inr ⟨rfl, List.mem_of_getElem? (i := 0) rfl⟩) dX9_layPlayers_38 (fun H locs hB => ?_)
    rw [(show (21 : Int32).toNatClampNeg = 21 from nI_clamp (n := 21) (by omega))] at hB
    have hB : Bx B0 D _ [(w, .inl (cs 0, 1383, .inl (upd (upd (upd (upd g9a 0 (nI n)) 11 (nI n)) 12 50) 21 (-1))))] [w] _ _ := hB
    have z4851 := DRK.sf z4849 (k := 21) (by omega) (x := (-1))
    have e4852 := (pk_un (f := (upd (upd (upd g9a 0 (nI n)) 11 (nI n)) 12 50)) (x := (-1)) (show 14 ≠ 21 by omega)).trans e4850
    refine lv_aload_n hx hb dX9_layPlayers_39 rfl (lv_at hl 1 rfl) ?_
    refine lv_bipush (v := 22) hx hb dX9_layPlayers_40 (by decide) ?_
    refine lv_iconst (v := (-1)) hx hb dX9_layPlayers_42 (by decide) ?_
    refine b_i hx hb hN hB 0 rfl (show vp_in (22 : Int32) 1383 from vp_in_nI (n := 22) (N := 1383) (by omega) (by omega)) (.inr ⟨rfl, List.mem_of_getElem? (i := 0) rfl⟩) dX9_layPlayers_43 (fun H locs hB => ?_)
    rw [(show (22 : Int32).toNatClampNeg = 22 from nI_clamp (n := 22) (by omega))] at hB
    have hB : Bx B0 D _ [(w, .inl (cs 0, 1383, .inl (upd (upd (upd (upd (upd g9a 0 (nI n)) 11 (nI n)) 12 50) 21 (-1)) 22 (-1))))] [w] _ _ := hB
    have z4853 := DRK.sf z4851 (k := 22) (by omega) (x := (-1))
    have e4854 := (pk_un (f := (upd (upd (upd (upd g9a 0 (nI n)) 11 (nI n)) 12 50) 21 (-1))) (x := (-1)) (show 14 ≠ 22 by omega)).trans e4852
    refine lv_iconst (v := 0) hx hb dX9_layPlayers_44 (by decide) ?_
    refine lv_istore_n (lv' := [(2, .int 0), (0, .ref w), (1, .int (nI n))]) hx hb dX9_layPlayers_45 rfl hl (by decide) rfl (fun ls hl => ?_)
    have hT : WT B0 D cs T κ _ := hT.close hB ⟨⟨0, _, rfl, ok_26 hw.1 ⟨_, rfl, z4853⟩⟩, trivial⟩
    have hF : Fr B0 [17] κ H0 _ := hF.close hB (fa_c (by simp [hw.2]) fa_n)
    have hL : OkL B0 _ := hB.2.2.2.2.2
    have hP : va_P D vwCl [(w, .inl (cs 0, 1383, .inl (upd (upd (upd (upd (upd g9a 0 (nI n)) 11 (nI n)) 12 50) 21 (-1)) 22 (-1))))] _ := hB.1
    refine lp_m (α := Nat × (Nat → Int32)) (nL := 3) (fun a9 => 8 - a9.1) (fun a9 H9 l9 => (a9.1 ≤ 8) ∧ (va_at D vwCl (w, .inl (cs 0, 1383, .inl a9.2)) H9) ∧ (DRK a9.2) ∧ (a9.2 14 = nI 0) ∧ (WT B0 D cs T κ H9) ∧ (Fr B0 [17] κ H0 H9) ∧ (OkL B0 l9)) (fun a9 => [(2, .int (nI a9.1)), (0, .ref w), (1, .int (nI n))]) ?_ (0, (upd (upd (upd (upd (upd g9a 0 (nI n)) 11 (nI n)) 12 50) 21 (-1)) 22 (-1))) _ _ _ ⟨(by show (0) ≤ 8; omega), (hP 0 _ rfl), z4853, e4854, hT, hF, hL⟩ (lv_sub hl [0, 1, 2] rfl)
    rintro ⟨p, gg⟩ H locs ls ih4855 ⟨hp, hd, hq, h14, hT, hF, hL⟩ hl
    have hl : lv_has ls 3 [(2, .int (nI p)), (0, .ref w), (1, .int (nI n))] := hl
    have hp : p ≤ 8 := hp
    have hd : va_at D vwCl (w, .inl (cs 0, 1383, .inl gg)) H := hd
    have hq : DRK gg := hq
    have h14 : gg 14 = nI 0 := h14
    have hbw : B0 ≤ w := (hT.o26 hw.1).1
    have hP : va_P D vwCl [(w, .inl (cs 0, 1383, .inl gg))] _ := va_P.cons hd va_P.nil
    refine lv_iload_n hx hb dX9_layPlayers_46 rfl (lv_at hl 0 rfl) ?_
    refine lv_bipush (v := 8) hx hb dX9_layPlayers_47 (by decide) ?_
    refine lv_icmp_ge (tgt := 87) hx hb dX9_layPlayers_49 (by decide) (fun c4856 => ?_) (fun c4856 => ?_)
    · have c4856 : 8 ≤ p := (nI_leI (a := 8) (b := p) (by omega) (by omega)).mp c4856
      exact en_v hx hb hr hlocks hL (Nat.zero_le _) (Nat.zero_le _) dX9_layPlayers_87 (⟨hT, hF, _, hP 0 _ rfl, h14⟩)
    · have c4856 : ¬ 8 ≤ p := fun h9 => c4856 ((nI_leI (a := 8) (b := p) (by omega) (by omega)).mpr h9)
      refine lv_aload_n hx hb dX9_layPlayers_52 rfl (lv_at hl 1 rfl) ?_
      refine lv_iload_n hx hb dX9_layPlayers_53 rfl (lv_at hl 0 rfl) ?_
      refine cs_i (As := [.int (nI p)]) (rest := [.ref w]) ⟨hx, hb, hml, hown, hts⟩ (c_X9_playerAt hT (n := p) (by first | omega | decide | assumption)) (va_cwS 1 hts gX9_layPlayers_X9_playerAt rfl rfl rfl hdX9_playerAt_o ⟨Nat.le_of_ble_eq_true rfl, Nat.le_of_ble_eq_true rfl⟩) hN hE hL rfl rfl hl.1 (Nat.le_of_ble_eq_true rfl) dX9_layPlayers_54 (Nat.zero_le _) (Nat.zero_le _) (fun r4857 H1 locs hL hqr4857 => ?_)
      obtain ⟨h9, hqr4857⟩ := hqr4857; replace h9 := h9.symm; subst h9
      obtain rfl := hqr4857
      refine lv_iconst (v := 0) hx hb dX9_layPlayers_57 (by decide) ?_
      refine lv_iadd hx hb dX9_layPlayers_58 ?_
      refine tp_i (nI ((23 + 12 * p) + 0)) (nI_add (23 + 12 * p) 0) ?_
      refine lv_iconst (v := 1) hx hb dX9_layPlayers_59 (by decide) ?_
      have hB : Bx B0 D _ [(w, .inl (cs 0, 1383, .inl gg))] [] _ _ := Bx.of (fun a => (κ a).1) hL hP (fa_c hbw fa_n) (by simp only [List.map_cons, List.map_nil, hw.1]; decide)
      refine b_i hx hb hN hB 0 rfl (vp_in_nI (n := ((23 + 12 * p) + 0)) (N := 1383) (by omega) (by omega)) (.inl rfl) dX9_layPlayers_60 (fun H locs hB => ?_)
      rw [(show ((nI ((23 + 12 * p) + 0)) : Int32).toNatClampNeg = ((23 + 12 * p) + 0) from nI_clamp (n := ((23 + 12 * p) + 0)) (by omega))] at hB
      have hB : Bx B0 D _ [(w, .inl (cs 0, 1383, .inl (upd gg ((23 + 12 * p) + 0) 1)))] [w] _ _ := hB
      have z4858 := DRK.sf hq (k := ((23 + 12 * p) + 0)) (by omega) (x := 1)
      have e4859 := (pk_un (f := gg) (x := 1) (show 14 ≠ ((23 + 12 * p) + 0) by omega)).trans h14
      refine lv_aload_n hx hb dX9_layPlayers_61 rfl (lv_at hl 1 rfl) ?_
      refine lv_iload_n hx hb dX9_layPlayers_62 rfl (lv_at hl 0 rfl) ?_
      have hT : WT B0 D cs T κ _ := hT.close hB ⟨⟨0, _, rfl, ok_26 hw.1 ⟨_, rfl, z4858⟩⟩, trivial⟩
      have hF : Fr B0 [17] κ H0 _ := hF.close hB (fa_c (by simp [hw.2]) fa_n)
      have hL : OkL B0 _ := hB.2.2.2.2.2
      have hP : va_P D vwCl [(w, .inl (cs 0, 1383, .inl (upd gg ((23 + 12 * p) + 0) 1)))] _ := hB.1
      refine cs_i (As := [.int (nI p)]) (rest := [.ref w]) ⟨hx, hb, hml, hown, hts⟩ (c_X9_playerAt hT (n := p) (by first | omega | decide | assumption)) (va_cwS 1 hts gX9_layPlayers_X9_playerAt rfl rfl rfl hdX9_playerAt_o ⟨Nat.le_of_ble_eq_true rfl, Nat.le_of_ble_eq_true rfl⟩) hN hE hL rfl rfl hl.1 (Nat.le_of_ble_eq_true rfl) dX9_layPlayers_63 (Nat.zero_le _) (Nat.zero_le _) (fun r4860 H1 locs hL hqr4860 => ?_)
      obtain ⟨h9, hqr4860⟩ := hqr4860; replace h9 := h9.symm; subst h9
      obtain rfl := hqr4860
      refine lv_bipush (v := 6) hx hb dX9_layPlayers_66 (by decide) ?_
      refine lv_iadd hx hb dX9_layPlayers_68 ?_
      refine tp_i (nI ((23 + 12 * p) + 6)) (nI_add (23 + 12 * p) 6) ?_
      refine lv_iconst (v := (-1)) hx hb dX9_layPlayers_69 (by decide) ?_
      have hB : Bx B0 D _ [(w, .inl (cs 0, 1383, .inl (upd gg ((23 + 12 * p) + 0) 1)))] [] _ _ := Bx.of (fun a => (κ a).1) hL hP (fa_c hbw fa_n) (by simp only [List.map_cons, List.map_nil, hw.1]; decide)
      refine b_i hx hb hN hB 0 rfl (vp_in_nI (n := ((23 + 12 * p) + 6)) (N := 1383) (by omega) (by omega)) (.inl rfl) dX9_layPlayers_70 (fun H locs hB => ?_)
      rw [(show ((nI ((23 + 12 * p) + 6)) : Int32).toNatClampNeg = ((23 + 12 * p) + 6) from nI_clamp (n := ((23 + 12 * p) + 6)) (by omega))] at hB
      have hB : Bx B0 D _ [(w, .inl (cs 0, 1383, .inl (upd (upd gg ((23 + 12 * p) + 0) 1) ((23 + 12 * p) + 6) (-1))))] [w] _ _ := hB
      have z4861 := DRK.sf z4858 (k := ((23 + 12 * p) + 6)) (by omega) (x := (-1))
      have e4862 := (pk_un (f := (upd gg ((23 + 12 * p) + 0) 1)) (x := (-1)) (show 14 ≠ ((23 + 12 * p) + 6) by omega)).trans e4859
      refine lv_aload_n hx hb dX9_layPlayers_71 rfl (lv_at hl 1 rfl) ?_
      refine lv_iload_n hx hb dX9_layPlayers_72 rfl (lv_at hl 0 rfl) ?_
      have hT : WT B0 D cs T κ _ := hT.close hB ⟨⟨0, _, rfl, ok_26 hw.1 ⟨_, rfl, z4861⟩⟩, trivial⟩
      have hF : Fr B0 [17] κ H0 _ := hF.close hB (fa_c (by simp [hw.2]) fa_n)
      have hL : OkL B0 _ := hB.2.2.2.2.2
      have hP : va_P D vwCl [(w, .inl (cs 0, 1383, .inl (upd (upd gg ((23 + 12 * p) + 0) 1) ((23 + 12 * p) + 6) (-1))))] _ := hB.1
      refine cs_i (As := [.int (nI p)]) (rest := [.ref w]) ⟨hx, hb, hml, hown, hts⟩ (c_X9_playerAt hT (n := p) (by first | omega | decide | assumption)) (va_cwS 1 hts gX9_layPlayers_X9_playerAt rfl rfl rfl hdX9_playerAt_o ⟨Nat.le_of_ble_eq_true rfl, Nat.le_of_ble_eq_true rfl⟩) hN hE hL rfl rfl hl.1 (Nat.le_of_ble_eq_true rfl) dX9_layPlayers_73 (Nat.zero_le _) (Nat.zero_le _) (fun r4863 H1 locs hL hqr4863 => ?_)
      obtain ⟨h9, hqr4863⟩ := hqr4863; replace h9 := h9.symm; subst h9
      obtain rfl := hqr4863
      refine lv_bipush (v := 11) hx hb dX9_layPlayers_76 (by decide) ?_
      refine lv_iadd hx hb dX9_layPlayers_78 ?_
      refine tp_i (nI ((23 + 12 * p) + 11)) (nI_add (23 + 12 * p) 11) ?_
      refine lv_iconst (v := (-1)) hx hb dX9_layPlayers_79 (by decide) ?_
      have hB : Bx B0 D _ [(w, .inl (cs 0, 1383, .inl (upd (upd gg ((23 + 12 * p) + 0) 1) ((23 + 12 * p) + 6) (-1))))] [] _ _ := Bx.of (fun a => (κ a).1) hL hP (fa_c hbw fa_n) (by simp only [List.map_cons, List.map_nil, hw.1]; decide)
      refine b_i hx hb hN hB 0 rfl (vp_in_nI (n := ((23 + 12 * p) + 11)) (N := 1383) (by omega) (by omega)) (.inl rfl) dX9_layPlayers_80 (fun H locs hB => ?_)
      rw [(show ((nI ((23 + 12 * p) + 11)) : Int32).toNatClampNeg = ((23 + 12 * p) + 11) from nI_clamp (n := ((23 + 12 * p) + 11)) (by omega))] at hB
      have hB : Bx B0 D _ [(w, .inl (cs 0, 1383, .inl (upd (upd (upd gg ((23 + 12 * p) + 0) 1) ((23 + 12 * p) + 6) (-1)) ((23 + 12 * p) + 11) (-1))))] [w] _ _ := hB
      have z4864 := DRK.sf z4861 (k := ((23 + 12 * p) + 11)) (by omega) (x := (-1))
      have e4865 := (pk_un (f := (upd (upd gg ((23 + 12 * p) + 0) 1) ((23 + 12 * p) + 6) (-1))) (x := (-1)) (show 14 ≠ ((23 + 12 * p) + 11) by omega)).trans e4862
      refine lv_iinc (v := (nI (p + 1))) (lv' := [(2, .int (nI (p + 1))), (0, .ref w), (1, .int (nI n))]) hx hb dX9_layPlayers_81 hl (k := 0) rfl (nI_add _ 1) (by decide) rfl (fun ls hl => ?_)
      refine lv_goto (tgt := 46) hx hb dX9_layPlayers_84 (by decide) ?_
      have hT : WT B0 D cs T κ _ := hT.close hB ⟨⟨0, _, rfl, ok_26 hw.1 ⟨_, rfl, z4864⟩⟩, trivial⟩
      have hF : Fr B0 [17] κ H0 _ := hF.close hB (fa_c (by simp [hw.2]) fa_n)
      have hL : OkL B0 _ := hB.2.2.2.2.2
      have hP : va_P D vwCl [(w, .inl (cs 0, 1383, .inl (upd (upd (upd gg ((23 + 12 * p) + 0) 1) ((23 + 12 * p) + 6) (-1)) ((23 + 12 * p) + 11) (-1))))] _ := hB.1
      exact ih4855 ((p + 1), (upd (upd (upd gg ((23 + 12 * p) + 0) 1) ((23 + 12 * p) + 6) (-1)) ((23 + 12 * p) + 11) (-1))) _ _ _ (by show 8 - ((p + 1)) < 8 - p; omega) ⟨(by show ((p + 1)) ≤ 8; omega), (hP 0 _ rfl), z4864, e4865, hT, hF, hL⟩ (lv_sub hl [0, 1, 2] rfl)
  · have c4845 : ¬ 1383 ≤ k := fun h9 => c4845 ((nI_leI (a := 1383) (b := k) (by omega) (by omega)).mpr h9)
    refine lv_aload_n hx hb dX9_layPlayers_9 rfl (lv_at hl 1 rfl) ?_
    refine lv_iload_n hx hb dX9_layPlayers_10 rfl (lv_at hl 0 rfl) ?_
    refine lv_iconst (v := 0) hx hb dX9_layPlayers_11 (by decide) ?_
    refine b_i hx hb hN hB 0 rfl (vp_in_nI (n := k) (N := 1383) (by omega) (by omega)) (.inr ⟨rfl, List.mem_of_getElem? (i := 0) rfl⟩) dX9_layPlayers_12 (fun H locs hB => ?_)
    rw [(show ((nI k) : Int32).toNatClampNeg = k from nI_clamp (n := k) (by omega))] at hB
    have hB : Bx B0 D _ [(w, .inl (cs 0, 1383, .inl (upd g9a k 0)))] [w] _ _ := hB
    refine lv_iinc (v := (nI (k + 1))) (lv' := [(2, .int (nI (k + 1))), (0, .ref w), (1, .int (nI n))]) hx hb dX9_layPlayers_13 hl (k := 0) rfl (nI_add _ 1) (by decide) rfl (fun ls hl => ?_)
    refine lv_goto (tgt := 2) hx hb dX9_layPlayers_16 (by decide) ?_
    exact ih4844 ((k + 1), (upd g9a k 0)) _ _ _ (by show 1383 - ((k + 1)) < 1383 - k; omega) ⟨(by show ((k + 1)) ≤ 1383; omega), (up0 hz), hB⟩ (lv_sub hl [0, 1, 2] rfl)
