set_option maxHeartbeats 4000000 in
set_option maxRecDepth 100000 in
theorem c_X9_readLink {l : Launch} {D : va_G} {cs : Nat → ClassId} {B0 T : Nat} {κ : KM} {H0 : Heap} (hT : WT B0 D cs T κ H0) {w : Nat} (hw : T2 κ w 10 12) {pos tl : Nat} {er ns : Int32} {dr bu : Nat} {g : Nat → Int32} {N h : Nat} (hbT : T2 κ bu 23 14) (hdT : T2 κ dr 26 17) (hps : PS D cs w H0 pos tl er ns dr bu g N h) : KC l yX9_readLink wsX9_readLink 3 65 0 0 D cs B0 H0 [.ref w] (Qv (fun H => WT B0 D cs T κ H ∧ Fr B0 [12, 17] κ H0 H ∧ ∃ pos1 er1, pos ≤ pos1 ∧ (er1 = 0 → er = 0) ∧ PS D cs w H pos1 tl er1 ns dr bu g N h)) := by
  refine KC.of cX9_readLink 5 none (by decide) rfl (Nat.le_of_ble_eq_true rfl) ?_
  intro p e s m below meth c ls hx hb hr hml hown hts hlocks hin hN hE hH0 hl
  have hown : s.vm.findClass RX9 = some m.cls := hown
  have hl : lv_has ls 5 [(0, .ref w)] := hl
  have hL : OkL B0 [] := OkL.nil
  have hF : Fr B0 [12, 17] κ H0 H0 := Fr.rf
  obtain ⟨hm, f4531, hd4531, e4531, n4531, v4531⟩ := hps
  have hm8 := hm.2.2.2.2.2.2.2
  have hbd : B0 ≤ dr := (hT.o26 hdT.1).1
  have hDR := hT.dr hdT hd4531
  have hP : va_P D vwCl [(dr, .inl (cs 0, 1383, .inl f4531))] _ := va_P.cons hd4531 va_P.nil
  refine lv_aload_n hx hb dX9_readLink_0 rfl (lv_at hl 0 rfl) ?_
  refine lv_iconst (v := 0) hx hb dX9_readLink_1 (by decide) ?_
  refine lv_aload_n hx hb dX9_readLink_2 rfl (lv_at hl 0 rfl) ?_
  obtain ⟨hb4533, e4533, hat4533, hk4533⟩ := hT.o10 hw.1
  obtain ⟨f4533_0, f4533_1, f4533_3, f4533_4, f4533_5, f4533_6, f4533_7, f4533_9, f4533_10, f4533_11, f4533_12, f4533_13, f4533_14, f4533_15, f4533_16, f4533_17, rfl, c4533_2, c4533_3, c4533_4, c4533_12, t4533_1, t4533_8, t4533_9, c4533_sd, t4533_10, t4533_11, t4533_17⟩ := hk4533
  obtain ⟨rfl, rfl, rfl, rfl, rfl, rfl⟩ := hm.at hat4533 c4533_3 (by omega)
  have hm8 := hm.2.2.2.2.2.2.2
  have hP : va_P D vwCl [(w, .inr (9, [.int f4533_0, .ref bu, .int (nI ((κ w).2.2.1)), .int (nI tl), .int (nI pos), .int er, .int f4533_6, .int f4533_7, .ref (κ w).2.2.2, .ref f4533_9, .ref dr, .ref f4533_11, .int (nI f4533_12), .int f4533_13, .int ns, .int f4533_15, .int f4533_16, .ref f4533_17])), (dr, .inl (cs 0, 1383, .inl f4531))] _ := va_P.cons hat4533 hP
  refine va_get (D := D) (ci := 9) (v := .ref dr) (C := RX9) (T := TX9) (N := 18) hx hb hts iX9_readLink_9 hown hN.1 hP 0 rfl rfl 10 (by decide) (hts _ mX9_readLink_1) (fun _ h9 => h9) rfl dX9_readLink_3 ?_
  refine lv_iconst (v := 0) hx hb dX9_readLink_6 (by decide) ?_
  refine ld_i (v := (f4531 0)) hx hb hN hP 1 rfl (vp_in_nI (n := 0) (N := 1383) (by omega) (by omega)) (by rw [(show (0 : Int32).toNatClampNeg = 0 from nI_clamp (n := 0) (by omega))]) dX9_readLink_7 ?_
  obtain ⟨n4534, hn4534, en4534⟩ := hDR.1
  refine tp_i (nI n4534) en4534 ?_
  refine lv_iconst (v := 1) hx hb dX9_readLink_8 (by decide) ?_
  refine lv_isub hx hb dX9_readLink_9 ?_
  refine cv_i (As := [.int 0, .int ((nI n4534) - 1)]) (rest := []) (b := w) ⟨hx, hb, hml, hown, hts⟩ (c_X9_number hT (w := w) hw (x := 0) (y := ((nI n4534) - 1)) hbT hdT hm) (cwV 2 hts gX9_readLink_X9_number rfl rfl rfl hdX9_number_v ⟨Nat.le_of_ble_eq_true rfl, Nat.le_of_ble_eq_true rfl⟩) hN hE hL (rcv10 hN hT hw.1) rfl rfl hl.1 (Nat.le_of_ble_eq_true rfl) dX9_readLink_10 (Nat.zero_le _) (Nat.zero_le _) (fun r4535 H1 locs hL hqr4535 => ?_)
  obtain ⟨hT1, hF1, hqr4535⟩ := hqr4535
  have hP : va_P D vwCl [(dr, .inl (cs 0, 1383, .inl f4531))] _ := hF1.hP (hP.sub [1] rfl) (fa_c ⟨by rw [hdT.1]; decide, by rw [hdT.2]; first | decide | (simp; done) | (simp; omega)⟩ fa_n)
  have hF := hF.tr (hF1.mono (by simp))
  have hT := hT1
  obtain ⟨p4536, er4537, a4538, z4539, m4540, q4541⟩ := hqr4535
  have hm := m4540
  have hm8 := hm.2.2.2.2.2.2.2
  obtain ⟨n4542, hn4542, rfl⟩ := num_p (by omega) q4541
  refine lv_istore_n (lv' := [(1, .int (nI n4542)), (0, .ref w)]) hx hb dX9_readLink_13 rfl hl (by decide) rfl (fun ls hl => ?_)
  refine lv_aload_n hx hb dX9_readLink_14 rfl (lv_at hl 1 rfl) ?_
  refine lv_iconst (v := 0) hx hb dX9_readLink_15 (by decide) ?_
  refine lv_aload_n hx hb dX9_readLink_16 rfl (lv_at hl 1 rfl) ?_
  obtain ⟨hb4543, e4543, hat4543, hk4543⟩ := hT.o10 hw.1
  obtain ⟨f4543_0, f4543_1, f4543_3, f4543_4, f4543_5, f4543_6, f4543_7, f4543_9, f4543_10, f4543_11, f4543_12, f4543_13, f4543_14, f4543_15, f4543_16, f4543_17, rfl, c4543_2, c4543_3, c4543_4, c4543_12, t4543_1, t4543_8, t4543_9, c4543_sd, t4543_10, t4543_11, t4543_17⟩ := hk4543
  obtain ⟨rfl, rfl, rfl, rfl, rfl, rfl⟩ := hm.at hat4543 c4543_3 (by omega)
  have hm8 := hm.2.2.2.2.2.2.2
  have hP : va_P D vwCl [(w, .inr (9, [.int f4543_0, .ref bu, .int (nI ((κ w).2.2.1)), .int (nI tl), .int (nI p4536), .int er4537, .int f4543_6, .int f4543_7, .ref (κ w).2.2.2, .ref f4543_9, .ref dr, .ref f4543_11, .int (nI f4543_12), .int f4543_13, .int ns, .int f4543_15, .int f4543_16, .ref f4543_17])), (dr, .inl (cs 0, 1383, .inl f4531))] _ := va_P.cons hat4543 hP
  refine va_get (D := D) (ci := 9) (v := .ref dr) (C := RX9) (T := TX9) (N := 18) hx hb hts iX9_readLink_9 hown hN.1 hP 0 rfl rfl 10 (by decide) (hts _ mX9_readLink_1) (fun _ h9 => h9) rfl dX9_readLink_17 ?_
  refine lv_iconst (v := 0) hx hb dX9_readLink_20 (by decide) ?_
  refine ld_i (v := (f4531 0)) hx hb hN hP 1 rfl (vp_in_nI (n := 0) (N := 1383) (by omega) (by omega)) (by rw [(show (0 : Int32).toNatClampNeg = 0 from nI_clamp (n := 0) (by omega))]) dX9_readLink_21 ?_
  refine tp_i (nI n4534) en4534 ?_
  refine lv_iconst (v := 1) hx hb dX9_readLink_22 (by decide) ?_
  refine lv_isub hx hb dX9_readLink_23 ?_
  refine cv_i (As := [.int 0, .int ((nI n4534) - 1)]) (rest := []) (b := w) ⟨hx, hb, hml, hown, hts⟩ (c_X9_number hT (w := w) hw (x := 0) (y := ((nI n4534) - 1)) hbT hdT hm) (cwV 2 hts gX9_readLink_X9_number rfl rfl rfl hdX9_number_v ⟨Nat.le_of_ble_eq_true rfl, Nat.le_of_ble_eq_true rfl⟩) hN hE hL (rcv10 hN hT hw.1) rfl rfl hl.1 (Nat.le_of_ble_eq_true rfl) dX9_readLink_24 (Nat.zero_le _) (Nat.zero_le _) (fun r4544 H1 locs hL hqr4544 => ?_)
  obtain ⟨hT1, hF1, hqr4544⟩ := hqr4544
  have hP : va_P D vwCl [(dr, .inl (cs 0, 1383, .inl f4531))] _ := hF1.hP (hP.sub [1] rfl) (fa_c ⟨by rw [hdT.1]; decide, by rw [hdT.2]; first | decide | (simp; done) | (simp; omega)⟩ fa_n)
  have hF := hF.tr (hF1.mono (by simp))
  have hT := hT1
  obtain ⟨p4545, er4546, a4547, z4548, m4549, q4550⟩ := hqr4544
  have hm := m4549
  have hm8 := hm.2.2.2.2.2.2.2
  obtain ⟨n4551, hn4551, rfl⟩ := num_p (by omega) q4550
  refine lv_istore_n (lv' := [(2, .int (nI n4551)), (1, .int (nI n4542)), (0, .ref w)]) hx hb dX9_readLink_27 rfl hl (by decide) rfl (fun ls hl => ?_)
  refine lv_aload_n hx hb dX9_readLink_28 rfl (lv_at hl 2 rfl) ?_
  refine cv_i (As := []) (rest := []) (b := w) ⟨hx, hb, hml, hown, hts⟩ (c_X9_isGood hT (w := w) hw hbT hdT hm) (cwV 0 hts gX9_readLink_X9_isGood rfl rfl rfl hdX9_isGood_v ⟨Nat.le_of_ble_eq_true rfl, Nat.le_of_ble_eq_true rfl⟩) hN hE hL (rcv10 hN hT hw.1) rfl rfl hl.1 (Nat.le_of_ble_eq_true rfl) dX9_readLink_29 (Nat.zero_le _) (Nat.zero_le _) (fun r4552 H1 locs hL hqr4552 => ?_)
  obtain ⟨h9, hqr4552⟩ := hqr4552; replace h9 := h9.symm; subst h9
  rcases hqr4552 with ⟨rfl, e4553⟩ | ⟨rfl, e4554⟩
  · refine lv_if_eq (tgt := 63) hx hb dX9_readLink_32 (by decide) (fun c9 => absurd c9 (by decide)) (fun _ => ?_)
    refine lv_iload_n hx hb dX9_readLink_35 rfl (lv_at hl 1 rfl) ?_
    refine lv_iload_n hx hb dX9_readLink_36 rfl (lv_at hl 0 rfl) ?_
    refine lv_icmp_eq (tgt := 53) hx hb dX9_readLink_37 (by decide) (fun c4555 => ?_) (fun c4555 => ?_)
    · have c4555 : n4542 = n4551 := (nI_eq (a := n4542) (b := n4551) (by omega) (by omega)).mp c4555
      refine lv_aload_n hx hb dX9_readLink_53 rfl (lv_at hl 2 rfl) ?_
      refine lv_bipush (v := (-4)) hx hb dX9_readLink_54 (by decide) ?_
      refine lv_aload_n hx hb dX9_readLink_56 rfl (lv_at hl 2 rfl) ?_
      obtain ⟨hb4556, e4556, hat4556, hk4556⟩ := hT.o10 hw.1
      obtain ⟨f4556_0, f4556_1, f4556_3, f4556_4, f4556_5, f4556_6, f4556_7, f4556_9, f4556_10, f4556_11, f4556_12, f4556_13, f4556_14, f4556_15, f4556_16, f4556_17, rfl, c4556_2, c4556_3, c4556_4, c4556_12, t4556_1, t4556_8, t4556_9, c4556_sd, t4556_10, t4556_11, t4556_17⟩ := hk4556
      obtain ⟨rfl, rfl, rfl, rfl, rfl, rfl⟩ := hm.at hat4556 c4556_3 (by omega)
      have hm8 := hm.2.2.2.2.2.2.2
      have hP : va_P D vwCl [(w, .inr (9, [.int f4556_0, .ref bu, .int (nI ((κ w).2.2.1)), .int (nI tl), .int (nI p4545), .int er4546, .int f4556_6, .int f4556_7, .ref (κ w).2.2.2, .ref f4556_9, .ref dr, .ref f4556_11, .int (nI f4556_12), .int f4556_13, .int ns, .int f4556_15, .int f4556_16, .ref f4556_17])), (dr, .inl (cs 0, 1383, .inl f4531))] _ := va_P.cons hat4556 hP
      refine va_get (D := D) (ci := 9) (v := .int f4556_13) (C := RX9) (T := TX9) (N := 18) hx hb hts iX9_readLink_9 hown hN.1 hP 0 rfl rfl 13 (by decide) (hts _ mX9_readLink_2) (fun _ h9 => h9) rfl dX9_readLink_57 ?_
      refine cv_v (As := [.int (-4), .int f4556_13]) (rest := []) (b := w) ⟨hx, hb, hml, hown, hts⟩ (c_X9_report hT (w := w) hw (x := (-4)) (y := f4556_13) hbT hdT hm ((by decide))) (cwV 2 hts gX9_readLink_X9_report rfl rfl rfl hdX9_report_v ⟨Nat.le_of_ble_eq_true rfl, Nat.le_of_ble_eq_true rfl⟩) hN hE hL (rcv10 hN hT hw.1) rfl rfl hl.1 (Nat.le_of_ble_eq_true rfl) dX9_readLink_60 (Nat.zero_le _) (Nat.zero_le _) (fun H1 locs hL hqr4557 => ?_)
      obtain ⟨hT1, hF1, hqr4557⟩ := hqr4557
      have hP : va_P D vwCl [(dr, .inl (cs 0, 1383, .inl f4531))] _ := hF1.hP (hP.sub [1] rfl) (fa_c ⟨by rw [hdT.1]; decide, by rw [hdT.2]; first | decide | (simp; done) | (simp; omega)⟩ fa_n)
      have hF := hF.tr (hF1.mono (by simp))
      have hT := hT1
      obtain ⟨er4558, z4559, m4560⟩ := hqr4557
      have hm := m4560
      have hm8 := hm.2.2.2.2.2.2.2
      refine lv_aload_n hx hb dX9_readLink_63 rfl (lv_at hl 2 rfl) ?_
      refine lv_iconst (v := 1) hx hb dX9_readLink_64 (by decide) ?_
      refine lv_bipush (v := 9) hx hb dX9_readLink_65 (by decide) ?_
      refine cv_i (As := [.int 1, .int 9]) (rest := []) (b := w) ⟨hx, hb, hml, hown, hts⟩ (c_X9_number hT (w := w) hw (x := 1) (y := 9) hbT hdT hm) (cwV 2 hts gX9_readLink_X9_number rfl rfl rfl hdX9_number_v ⟨Nat.le_of_ble_eq_true rfl, Nat.le_of_ble_eq_true rfl⟩) hN hE hL (rcv10 hN hT hw.1) rfl rfl hl.1 (Nat.le_of_ble_eq_true rfl) dX9_readLink_67 (Nat.zero_le _) (Nat.zero_le _) (fun r4561 H1 locs hL hqr4561 => ?_)
      obtain ⟨hT1, hF1, hqr4561⟩ := hqr4561
      have hP : va_P D vwCl [(dr, .inl (cs 0, 1383, .inl f4531))] _ := hF1.hP (hP.sub [0] rfl) (fa_c ⟨by rw [hdT.1]; decide, by rw [hdT.2]; first | decide | (simp; done) | (simp; omega)⟩ fa_n)
      have hF := hF.tr (hF1.mono (by simp))
      have hT := hT1
      obtain ⟨p4562, er4563, a4564, z4565, m4566, q4567⟩ := hqr4561
      have hm := m4566
      have hm8 := hm.2.2.2.2.2.2.2
      obtain ⟨n4568, hn4568, rfl⟩ := num_c (lo := 1) (hi := 9) (by decide) (by decide) rfl rfl q4567
      refine lv_istore_n (lv' := [(3, .int (nI n4568)), (2, .int (nI n4551)), (1, .int (nI n4542)), (0, .ref w)]) hx hb dX9_readLink_70 rfl hl (by decide) rfl (fun ls hl => ?_)
      refine lv_aload_n hx hb dX9_readLink_71 rfl (lv_at hl 3 rfl) ?_
      refine lv_iconst (v := 1) hx hb dX9_readLink_72 (by decide) ?_
      refine lv_bipush (v := 9) hx hb dX9_readLink_73 (by decide) ?_
      refine cv_i (As := [.int 1, .int 9]) (rest := []) (b := w) ⟨hx, hb, hml, hown, hts⟩ (c_X9_number hT (w := w) hw (x := 1) (y := 9) hbT hdT hm) (cwV 2 hts gX9_readLink_X9_number rfl rfl rfl hdX9_number_v ⟨Nat.le_of_ble_eq_true rfl, Nat.le_of_ble_eq_true rfl⟩) hN hE hL (rcv10 hN hT hw.1) rfl rfl hl.1 (Nat.le_of_ble_eq_true rfl) dX9_readLink_75 (Nat.zero_le _) (Nat.zero_le _) (fun r4569 H1 locs hL hqr4569 => ?_)
      obtain ⟨hT1, hF1, hqr4569⟩ := hqr4569
      have hP : va_P D vwCl [(dr, .inl (cs 0, 1383, .inl f4531))] _ := hF1.hP (hP.sub [0] rfl) (fa_c ⟨by rw [hdT.1]; decide, by rw [hdT.2]; first | decide | (simp; done) | (simp; omega)⟩ fa_n)
      have hF := hF.tr (hF1.mono (by simp))
      have hT := hT1
      obtain ⟨p4570, er4571, a4572, z4573, m4574, q4575⟩ := hqr4569
      have hm := m4574
      have hm8 := hm.2.2.2.2.2.2.2
      obtain ⟨n4576, hn4576, rfl⟩ := num_c (lo := 1) (hi := 9) (by decide) (by decide) rfl rfl q4575
      refine lv_istore (lv' := [(4, .int (nI n4576)), (3, .int (nI n4568)), (2, .int (nI n4551)), (1, .int (nI n4542)), (0, .ref w)]) hx hb dX9_readLink_78 hl (by decide) rfl (fun ls hl => ?_)
      refine lv_aload_n hx hb dX9_readLink_80 rfl (lv_at hl 4 rfl) ?_
      refine cv_i (As := []) (rest := []) (b := w) ⟨hx, hb, hml, hown, hts⟩ (c_X9_isGood hT (w := w) hw hbT hdT hm) (cwV 0 hts gX9_readLink_X9_isGood rfl rfl rfl hdX9_isGood_v ⟨Nat.le_of_ble_eq_true rfl, Nat.le_of_ble_eq_true rfl⟩) hN hE hL (rcv10 hN hT hw.1) rfl rfl hl.1 (Nat.le_of_ble_eq_true rfl) dX9_readLink_81 (Nat.zero_le _) (Nat.zero_le _) (fun r4577 H1 locs hL hqr4577 => ?_)
      obtain ⟨h9, hqr4577⟩ := hqr4577; replace h9 := h9.symm; subst h9
      rcases hqr4577 with ⟨rfl, e4578⟩ | ⟨rfl, e4579⟩
      · refine lv_if_ne (tgt := 88) hx hb dX9_readLink_84 (by decide) (fun _ => ?_) (fun c9 => absurd c9 (by decide))
        refine lv_aload_n hx hb dX9_readLink_88 rfl (lv_at hl 4 rfl) ?_
        obtain ⟨hb4580, e4580, hat4580, hk4580⟩ := hT.o10 hw.1
        obtain ⟨f4580_0, f4580_1, f4580_3, f4580_4, f4580_5, f4580_6, f4580_7, f4580_9, f4580_10, f4580_11, f4580_12, f4580_13, f4580_14, f4580_15, f4580_16, f4580_17, rfl, c4580_2, c4580_3, c4580_4, c4580_12, t4580_1, t4580_8, t4580_9, c4580_sd, t4580_10, t4580_11, t4580_17⟩ := hk4580
        obtain ⟨rfl, rfl, rfl, rfl, rfl, rfl⟩ := hm.at hat4580 c4580_3 (by omega)
        have hm8 := hm.2.2.2.2.2.2.2
        have hP : va_P D vwCl [(w, .inr (9, [.int f4580_0, .ref bu, .int (nI ((κ w).2.2.1)), .int (nI tl), .int (nI p4570), .int er4571, .int f4580_6, .int f4580_7, .ref (κ w).2.2.2, .ref f4580_9, .ref dr, .ref f4580_11, .int (nI f4580_12), .int f4580_13, .int ns, .int f4580_15, .int f4580_16, .ref f4580_17])), (dr, .inl (cs 0, 1383, .inl f4531))] _ := va_P.cons hat4580 hP
        refine va_get (D := D) (ci := 9) (v := .ref dr) (C := RX9) (T := TX9) (N := 18) hx hb hts iX9_readLink_9 hown hN.1 hP 0 rfl rfl 10 (by decide) (hts _ mX9_readLink_1) (fun _ h9 => h9) rfl dX9_readLink_89 ?_
        refine lv_iload_n hx hb dX9_readLink_92 rfl (lv_at hl 3 rfl) ?_
        refine lv_iload_n hx hb dX9_readLink_93 rfl (lv_at hl 2 rfl) ?_
        refine cs_i (As := [.int (nI n4542), .int (nI n4551)]) (rest := [.ref dr]) ⟨hx, hb, hml, hown, hts⟩ (c_X9_linkAt hT (n := n4542) (k := n4551) (by first | omega | decide | assumption) (by first | omega | decide | assumption)) (va_cwS 2 hts gX9_readLink_X9_linkAt rfl rfl rfl hdX9_linkAt_o ⟨Nat.le_of_ble_eq_true rfl, Nat.le_of_ble_eq_true rfl⟩) hN hE hL rfl rfl hl.1 (Nat.le_of_ble_eq_true rfl) dX9_readLink_94 (Nat.zero_le _) (Nat.zero_le _) (fun r4581 H1 locs hL hqr4581 => ?_)
        obtain ⟨h9, hqr4581⟩ := hqr4581; replace h9 := h9.symm; subst h9
        obtain rfl := hqr4581
        refine lv_iload_n hx hb dX9_readLink_97 rfl (lv_at hl 1 rfl) ?_
        have hB : Bx B0 D _ [(w, .inr (9, [.int f4580_0, .ref bu, .int (nI ((κ w).2.2.1)), .int (nI tl), .int (nI p4570), .int er4571, .int f4580_6, .int f4580_7, .ref (κ w).2.2.2, .ref f4580_9, .ref dr, .ref f4580_11, .int (nI f4580_12), .int f4580_13, .int ns, .int f4580_15, .int f4580_16, .ref f4580_17])), (dr, .inl (cs 0, 1383, .inl f4531))] [] _ _ := Bx.of (fun a => (κ a).1) hL hP (fa_c hb4580 (fa_c hbd fa_n)) (by simp only [List.map_cons, List.map_nil, hw.1, hdT.1]; decide)
        refine b_i hx hb hN hB 1 rfl (vp_in_nI (n := (119 + 8 * n4542 + n4551)) (N := 1383) (by omega) (by omega)) (.inl rfl) dX9_readLink_98 (fun H locs hB => ?_)
        rw [(show ((nI (119 + 8 * n4542 + n4551)) : Int32).toNatClampNeg = (119 + 8 * n4542 + n4551) from nI_clamp (n := (119 + 8 * n4542 + n4551)) (by omega))] at hB
        have hB : Bx B0 D _ [(w, .inr (9, [.int f4580_0, .ref bu, .int (nI ((κ w).2.2.1)), .int (nI tl), .int (nI p4570), .int er4571, .int f4580_6, .int f4580_7, .ref (κ w).2.2.2, .ref f4580_9, .ref dr, .ref f4580_11, .int (nI f4580_12), .int f4580_13, .int ns, .int f4580_15, .int f4580_16, .ref f4580_17])), (dr, .inl (cs 0, 1383, .inl (upd f4531 (119 + 8 * n4542 + n4551) (nI n4568))))] [dr] _ _ := hB
        have z4582 := DRK.sf hDR (k := (119 + 8 * n4542 + n4551)) (by omega) (x := (nI n4568))
        have e4583 := (pk_un (f := f4531) (x := (nI n4568)) (show 14 ≠ (119 + 8 * n4542 + n4551) by omega)).trans e4531
        have e4584 := (pk_un (f := f4531) (x := (nI n4568)) (show 0 ≠ (119 + 8 * n4542 + n4551) by omega)).trans en4534
        refine lv_aload_n hx hb dX9_readLink_99 rfl (lv_at hl 4 rfl) ?_
        refine va_get (D := D) (ci := 9) (v := .ref dr) (C := RX9) (T := TX9) (N := 18) hx hb hts iX9_readLink_9 hown hN.1 hB.1 0 rfl rfl 10 (by decide) (hts _ mX9_readLink_1) (fun _ h9 => h9) rfl dX9_readLink_100 ?_
        refine lv_iload_n hx hb dX9_readLink_103 rfl (lv_at hl 2 rfl) ?_
        refine lv_iload_n hx hb dX9_readLink_104 rfl (lv_at hl 3 rfl) ?_
        have hT : WT B0 D cs T κ _ := hT.close hB ⟨⟨1, _, rfl, ok_26 hdT.1 ⟨_, rfl, z4582⟩⟩, trivial⟩
        have hF : Fr B0 [12, 17] κ H0 _ := hF.close hB (fa_c (by simp [hdT.2]) fa_n)
        have hL : OkL B0 _ := hB.2.2.2.2.2
        have hP : va_P D vwCl [(w, .inr (9, [.int f4580_0, .ref bu, .int (nI ((κ w).2.2.1)), .int (nI tl), .int (nI p4570), .int er4571, .int f4580_6, .int f4580_7, .ref (κ w).2.2.2, .ref f4580_9, .ref dr, .ref f4580_11, .int (nI f4580_12), .int f4580_13, .int ns, .int f4580_15, .int f4580_16, .ref f4580_17])), (dr, .inl (cs 0, 1383, .inl (upd f4531 (119 + 8 * n4542 + n4551) (nI n4568))))] _ := hB.1
        have hm := hm.kp hB (by simp only [List.mem_cons, List.not_mem_nil, or_false, not_or]; exact ne_c hbT.1 hdT.1 (by decide)) (by simp only [List.mem_cons, List.not_mem_nil, or_false, not_or]; exact ne_c hw.1 hdT.1 (by decide))
        refine cs_i (As := [.int (nI n4551), .int (nI n4542)]) (rest := [.ref dr]) ⟨hx, hb, hml, hown, hts⟩ (c_X9_linkAt hT (n := n4551) (k := n4542) (by first | omega | decide | assumption) (by first | omega | decide | assumption)) (va_cwS 2 hts gX9_readLink_X9_linkAt rfl rfl rfl hdX9_linkAt_o ⟨Nat.le_of_ble_eq_true rfl, Nat.le_of_ble_eq_true rfl⟩) hN hE hL rfl rfl hl.1 (Nat.le_of_ble_eq_true rfl) dX9_readLink_105 (Nat.zero_le _) (Nat.zero_le _) (fun r4585 H1 locs hL hqr4585 => ?_)
        obtain ⟨h9, hqr4585⟩ := hqr4585; replace h9 := h9.symm; subst h9
        obtain rfl := hqr4585
        refine lv_iload hx hb dX9_readLink_108 (lv_at hl 0 rfl) ?_
        have hB : Bx B0 D _ [(w, .inr (9, [.int f4580_0, .ref bu, .int (nI ((κ w).2.2.1)), .int (nI tl), .int (nI p4570), .int er4571, .int f4580_6, .int f4580_7, .ref (κ w).2.2.2, .ref f4580_9, .ref dr, .ref f4580_11, .int (nI f4580_12), .int f4580_13, .int ns, .int f4580_15, .int f4580_16, .ref f4580_17])), (dr, .inl (cs 0, 1383, .inl (upd f4531 (119 + 8 * n4542 + n4551) (nI n4568))))] [] _ _ := Bx.of (fun a => (κ a).1) hL hP (fa_c hb4580 (fa_c hbd fa_n)) (by simp only [List.map_cons, List.map_nil, hw.1, hdT.1]; decide)
        refine b_i hx hb hN hB 1 rfl (vp_in_nI (n := (119 + 8 * n4551 + n4542)) (N := 1383) (by omega) (by omega)) (.inl rfl) dX9_readLink_110 (fun H locs hB => ?_)
        rw [(show ((nI (119 + 8 * n4551 + n4542)) : Int32).toNatClampNeg = (119 + 8 * n4551 + n4542) from nI_clamp (n := (119 + 8 * n4551 + n4542)) (by omega))] at hB
        have hB : Bx B0 D _ [(w, .inr (9, [.int f4580_0, .ref bu, .int (nI ((κ w).2.2.1)), .int (nI tl), .int (nI p4570), .int er4571, .int f4580_6, .int f4580_7, .ref (κ w).2.2.2, .ref f4580_9, .ref dr, .ref f4580_11, .int (nI f4580_12), .int f4580_13, .int ns, .int f4580_15, .int f4580_16, .ref f4580_17])), (dr, .inl (cs 0, 1383, .inl (upd (upd f4531 (119 + 8 * n4542 + n4551) (nI n4568)) (119 + 8 * n4551 + n4542) (nI n4576))))] [dr] _ _ := hB
        have z4586 := DRK.sf z4582 (k := (119 + 8 * n4551 + n4542)) (by omega) (x := (nI n4576))
        have e4587 := (pk_un (f := (upd f4531 (119 + 8 * n4542 + n4551) (nI n4568))) (x := (nI n4576)) (show 14 ≠ (119 + 8 * n4551 + n4542) by omega)).trans e4583
        have e4588 := (pk_un (f := (upd f4531 (119 + 8 * n4542 + n4551) (nI n4568))) (x := (nI n4576)) (show 0 ≠ (119 + 8 * n4551 + n4542) by omega)).trans e4584
        have hT : WT B0 D cs T κ _ := hT.close hB ⟨⟨1, _, rfl, ok_26 hdT.1 ⟨_, rfl, z4586⟩⟩, trivial⟩
        have hF : Fr B0 [12, 17] κ H0 _ := hF.close hB (fa_c (by simp [hdT.2]) fa_n)
        have hL : OkL B0 _ := hB.2.2.2.2.2
        have hP : va_P D vwCl [(w, .inr (9, [.int f4580_0, .ref bu, .int (nI ((κ w).2.2.1)), .int (nI tl), .int (nI p4570), .int er4571, .int f4580_6, .int f4580_7, .ref (κ w).2.2.2, .ref f4580_9, .ref dr, .ref f4580_11, .int (nI f4580_12), .int f4580_13, .int ns, .int f4580_15, .int f4580_16, .ref f4580_17])), (dr, .inl (cs 0, 1383, .inl (upd (upd f4531 (119 + 8 * n4542 + n4551) (nI n4568)) (119 + 8 * n4551 + n4542) (nI n4576))))] _ := hB.1
        have hm := hm.kp hB (by simp only [List.mem_cons, List.not_mem_nil, or_false, not_or]; exact ne_c hbT.1 hdT.1 (by decide)) (by simp only [List.mem_cons, List.not_mem_nil, or_false, not_or]; exact ne_c hw.1 hdT.1 (by decide))
        have hps : PS D cs w _ (p4570) (tl) (er4571) (ns) dr bu g (N) (h) := ⟨hm, (upd (upd f4531 (119 + 8 * n4542 + n4551) (nI n4568)) (119 + 8 * n4551 + n4542) (nI n4576)), hP 1 _ rfl, e4587, by omega, (CVu (by omega) (CVu (by omega) (fun e9 => (fun e9 => (fun e9 => absurd e9 z4559) ((fun e9 => (z4565 e9).1) e9)) ((fun e9 => (z4573 e9).1) e9))))⟩
        exact en_v hx hb hr hlocks hL (Nat.zero_le _) (Nat.zero_le _) dX9_readLink_111 (⟨hT, hF, p4570, er4571, (by omega), (fun e9 => (fun e9 => (fun e9 => (fun e9 => (fun e9 => id ((fun e9 => (z4539 e9).1) e9)) ((fun e9 => (z4548 e9).1) e9)) ((fun e9 => absurd e9 z4559) e9)) ((fun e9 => (z4565 e9).1) e9)) ((fun e9 => (z4573 e9).1) e9)), hps⟩)
      · refine lv_if_ne (tgt := 88) hx hb dX9_readLink_84 (by decide) (fun c9 => absurd (by decide) c9) (fun _ => ?_)
        have hps : PS D cs w _ (p4570) (tl) (er4571) (ns) dr bu g (N) (h) := ⟨hm, f4531, hP 0 _ rfl, e4531, by omega, (fun e9 => (fun e9 => (fun e9 => absurd e9 z4559) ((fun e9 => (z4565 e9).1) e9)) ((fun e9 => (z4573 e9).1) e9))⟩
        exact en_v hx hb hr hlocks hL (Nat.zero_le _) (Nat.zero_le _) dX9_readLink_87 (⟨hT, hF, p4570, er4571, (by omega), (fun e9 => (fun e9 => (fun e9 => (fun e9 => (fun e9 => id ((fun e9 => (z4539 e9).1) e9)) ((fun e9 => (z4548 e9).1) e9)) ((fun e9 => absurd e9 z4559) e9)) ((fun e9 => (z4565 e9).1) e9)) ((fun e9 => (z4573 e9).1) e9)), hps⟩)
    · have c4555 : ¬ n4542 = n4551 := fun h9 => c4555 ((nI_eq (a := n4542) (b := n4551) (by omega) (by omega)).mpr h9)
      refine lv_aload_n hx hb dX9_readLink_40 rfl (lv_at hl 2 rfl) ?_
      obtain ⟨hb4589, e4589, hat4589, hk4589⟩ := hT.o10 hw.1
      obtain ⟨f4589_0, f4589_1, f4589_3, f4589_4, f4589_5, f4589_6, f4589_7, f4589_9, f4589_10, f4589_11, f4589_12, f4589_13, f4589_14, f4589_15, f4589_16, f4589_17, rfl, c4589_2, c4589_3, c4589_4, c4589_12, t4589_1, t4589_8, t4589_9, c4589_sd, t4589_10, t4589_11, t4589_17⟩ := hk4589
      obtain ⟨rfl, rfl, rfl, rfl, rfl, rfl⟩ := hm.at hat4589 c4589_3 (by omega)
      have hm8 := hm.2.2.2.2.2.2.2
      have hP : va_P D vwCl [(w, .inr (9, [.int f4589_0, .ref bu, .int (nI ((κ w).2.2.1)), .int (nI tl), .int (nI p4545), .int er4546, .int f4589_6, .int f4589_7, .ref (κ w).2.2.2, .ref f4589_9, .ref dr, .ref f4589_11, .int (nI f4589_12), .int f4589_13, .int ns, .int f4589_15, .int f4589_16, .ref f4589_17])), (dr, .inl (cs 0, 1383, .inl f4531))] _ := va_P.cons hat4589 hP
      refine va_get (D := D) (ci := 9) (v := .ref dr) (C := RX9) (T := TX9) (N := 18) hx hb hts iX9_readLink_9 hown hN.1 hP 0 rfl rfl 10 (by decide) (hts _ mX9_readLink_1) (fun _ h9 => h9) rfl dX9_readLink_41 ?_
      refine lv_iload_n hx hb dX9_readLink_44 rfl (lv_at hl 1 rfl) ?_
      refine lv_iload_n hx hb dX9_readLink_45 rfl (lv_at hl 0 rfl) ?_
      refine cs_i (As := [.int (nI n4542), .int (nI n4551)]) (rest := [.ref dr]) ⟨hx, hb, hml, hown, hts⟩ (c_X9_linkAt hT (n := n4542) (k := n4551) (by first | omega | decide | assumption) (by first | omega | decide | assumption)) (va_cwS 2 hts gX9_readLink_X9_linkAt rfl rfl rfl hdX9_linkAt_o ⟨Nat.le_of_ble_eq_true rfl, Nat.le_of_ble_eq_true rfl⟩) hN hE hL rfl rfl hl.1 (Nat.le_of_ble_eq_true rfl) dX9_readLink_46 (Nat.zero_le _) (Nat.zero_le _) (fun r4590 H1 locs hL hqr4590 => ?_)
      obtain ⟨h9, hqr4590⟩ := hqr4590; replace h9 := h9.symm; subst h9
      obtain rfl := hqr4590
      refine ld_i (v := (f4531 (119 + 8 * n4542 + n4551))) hx hb hN hP 1 rfl (vp_in_nI (n := (119 + 8 * n4542 + n4551)) (N := 1383) (by omega) (by omega)) (by rw [(show ((nI (119 + 8 * n4542 + n4551)) : Int32).toNatClampNeg = (119 + 8 * n4542 + n4551) from nI_clamp (n := (119 + 8 * n4542 + n4551)) (by omega))]) dX9_readLink_49 ?_
      refine gn_i (fun x4591 => ?_)
      refine lv_if_eq (tgt := 63) hx hb dX9_readLink_50 (by decide) (fun c4592 => ?_) (fun c4592 => ?_)
      · refine lv_aload_n hx hb dX9_readLink_63 rfl (lv_at hl 2 rfl) ?_
        refine lv_iconst (v := 1) hx hb dX9_readLink_64 (by decide) ?_
        refine lv_bipush (v := 9) hx hb dX9_readLink_65 (by decide) ?_
        refine cv_i (As := [.int 1, .int 9]) (rest := []) (b := w) ⟨hx, hb, hml, hown, hts⟩ (c_X9_number hT (w := w) hw (x := 1) (y := 9) hbT hdT hm) (cwV 2 hts gX9_readLink_X9_number rfl rfl rfl hdX9_number_v ⟨Nat.le_of_ble_eq_true rfl, Nat.le_of_ble_eq_true rfl⟩) hN hE hL (rcv10 hN hT hw.1) rfl rfl hl.1 (Nat.le_of_ble_eq_true rfl) dX9_readLink_67 (Nat.zero_le _) (Nat.zero_le _) (fun r4593 H1 locs hL hqr4593 => ?_)
        obtain ⟨hT1, hF1, hqr4593⟩ := hqr4593
        have hP : va_P D vwCl [(dr, .inl (cs 0, 1383, .inl f4531))] _ := hF1.hP (hP.sub [1] rfl) (fa_c ⟨by rw [hdT.1]; decide, by rw [hdT.2]; first | decide | (simp; done) | (simp; omega)⟩ fa_n)
        have hF := hF.tr (hF1.mono (by simp))
        have hT := hT1
        obtain ⟨p4594, er4595, a4596, z4597, m4598, q4599⟩ := hqr4593
        have hm := m4598
        have hm8 := hm.2.2.2.2.2.2.2
        obtain ⟨n4600, hn4600, rfl⟩ := num_c (lo := 1) (hi := 9) (by decide) (by decide) rfl rfl q4599
        refine lv_istore_n (lv' := [(3, .int (nI n4600)), (2, .int (nI n4551)), (1, .int (nI n4542)), (0, .ref w)]) hx hb dX9_readLink_70 rfl hl (by decide) rfl (fun ls hl => ?_)
        refine lv_aload_n hx hb dX9_readLink_71 rfl (lv_at hl 3 rfl) ?_
        refine lv_iconst (v := 1) hx hb dX9_readLink_72 (by decide) ?_
        refine lv_bipush (v := 9) hx hb dX9_readLink_73 (by decide) ?_
        refine cv_i (As := [.int 1, .int 9]) (rest := []) (b := w) ⟨hx, hb, hml, hown, hts⟩ (c_X9_number hT (w := w) hw (x := 1) (y := 9) hbT hdT hm) (cwV 2 hts gX9_readLink_X9_number rfl rfl rfl hdX9_number_v ⟨Nat.le_of_ble_eq_true rfl, Nat.le_of_ble_eq_true rfl⟩) hN hE hL (rcv10 hN hT hw.1) rfl rfl hl.1 (Nat.le_of_ble_eq_true rfl) dX9_readLink_75 (Nat.zero_le _) (Nat.zero_le _) (fun r4601 H1 locs hL hqr4601 => ?_)
        obtain ⟨hT1, hF1, hqr4601⟩ := hqr4601
        have hP : va_P D vwCl [(dr, .inl (cs 0, 1383, .inl f4531))] _ := hF1.hP (hP.sub [0] rfl) (fa_c ⟨by rw [hdT.1]; decide, by rw [hdT.2]; first | decide | (simp; done) | (simp; omega)⟩ fa_n)
        have hF := hF.tr (hF1.mono (by simp))
        have hT := hT1
        obtain ⟨p4602, er4603, a4604, z4605, m4606, q4607⟩ := hqr4601
        have hm := m4606
        have hm8 := hm.2.2.2.2.2.2.2
        obtain ⟨n4608, hn4608, rfl⟩ := num_c (lo := 1) (hi := 9) (by decide) (by decide) rfl rfl q4607
        refine lv_istore (lv' := [(4, .int (nI n4608)), (3, .int (nI n4600)), (2, .int (nI n4551)), (1, .int (nI n4542)), (0, .ref w)]) hx hb dX9_readLink_78 hl (by decide) rfl (fun ls hl => ?_)
        refine lv_aload_n hx hb dX9_readLink_80 rfl (lv_at hl 4 rfl) ?_
        refine cv_i (As := []) (rest := []) (b := w) ⟨hx, hb, hml, hown, hts⟩ (c_X9_isGood hT (w := w) hw hbT hdT hm) (cwV 0 hts gX9_readLink_X9_isGood rfl rfl rfl hdX9_isGood_v ⟨Nat.le_of_ble_eq_true rfl, Nat.le_of_ble_eq_true rfl⟩) hN hE hL (rcv10 hN hT hw.1) rfl rfl hl.1 (Nat.le_of_ble_eq_true rfl) dX9_readLink_81 (Nat.zero_le _) (Nat.zero_le _) (fun r4609 H1 locs hL hqr4609 => ?_)
        obtain ⟨h9, hqr4609⟩ := hqr4609; replace h9 := h9.symm; subst h9
        rcases hqr4609 with ⟨rfl, e4610⟩ | ⟨rfl, e4611⟩
        · refine lv_if_ne (tgt := 88) hx hb dX9_readLink_84 (by decide) (fun _ => ?_) (fun c9 => absurd c9 (by decide))
          refine lv_aload_n hx hb dX9_readLink_88 rfl (lv_at hl 4 rfl) ?_
          obtain ⟨hb4612, e4612, hat4612, hk4612⟩ := hT.o10 hw.1
          obtain ⟨f4612_0, f4612_1, f4612_3, f4612_4, f4612_5, f4612_6, f4612_7, f4612_9, f4612_10, f4612_11, f4612_12, f4612_13, f4612_14, f4612_15, f4612_16, f4612_17, rfl, c4612_2, c4612_3, c4612_4, c4612_12, t4612_1, t4612_8, t4612_9, c4612_sd, t4612_10, t4612_11, t4612_17⟩ := hk4612
          obtain ⟨rfl, rfl, rfl, rfl, rfl, rfl⟩ := hm.at hat4612 c4612_3 (by omega)
          have hm8 := hm.2.2.2.2.2.2.2
          have hP : va_P D vwCl [(w, .inr (9, [.int f4612_0, .ref bu, .int (nI ((κ w).2.2.1)), .int (nI tl), .int (nI p4602), .int er4603, .int f4612_6, .int f4612_7, .ref (κ w).2.2.2, .ref f4612_9, .ref dr, .ref f4612_11, .int (nI f4612_12), .int f4612_13, .int ns, .int f4612_15, .int f4612_16, .ref f4612_17])), (dr, .inl (cs 0, 1383, .inl f4531))] _ := va_P.cons hat4612 hP
          refine va_get (D := D) (ci := 9) (v := .ref dr) (C := RX9) (T := TX9) (N := 18) hx hb hts iX9_readLink_9 hown hN.1 hP 0 rfl rfl 10 (by decide) (hts _ mX9_readLink_1) (fun _ h9 => h9) rfl dX9_readLink_89 ?_
          refine lv_iload_n hx hb dX9_readLink_92 rfl (lv_at hl 3 rfl) ?_
          refine lv_iload_n hx hb dX9_readLink_93 rfl (lv_at hl 2 rfl) ?_
          refine cs_i (As := [.int (nI n4542), .int (nI n4551)]) (rest := [.ref dr]) ⟨hx, hb, hml, hown, hts⟩ (c_X9_linkAt hT (n := n4542) (k := n4551) (by first | omega | decide | assumption) (by first | omega | decide | assumption)) (va_cwS 2 hts gX9_readLink_X9_linkAt rfl rfl rfl hdX9_linkAt_o ⟨Nat.le_of_ble_eq_true rfl, Nat.le_of_ble_eq_true rfl⟩) hN hE hL rfl rfl hl.1 (Nat.le_of_ble_eq_true rfl) dX9_readLink_94 (Nat.zero_le _) (Nat.zero_le _) (fun r4613 H1 locs hL hqr4613 => ?_)
          obtain ⟨h9, hqr4613⟩ := hqr4613; replace h9 := h9.symm; subst h9
          obtain rfl := hqr4613
          refine lv_iload_n hx hb dX9_readLink_97 rfl (lv_at hl 1 rfl) ?_
          have hB : Bx B0 D _ [(w, .inr (9, [.int f4612_0, .ref bu, .int (nI ((κ w).2.2.1)), .int (nI tl), .int (nI p4602), .int er4603, .int f4612_6, .int f4612_7, .ref (κ w).2.2.2, .ref f4612_9, .ref dr, .ref f4612_11, .int (nI f4612_12), .int f4612_13, .int ns, .int f4612_15, .int f4612_16, .ref f4612_17])), (dr, .inl (cs 0, 1383, .inl f4531))] [] _ _ := Bx.of (fun a => (κ a).1) hL hP (fa_c hb4612 (fa_c hbd fa_n)) (by simp only [List.map_cons, List.map_nil, hw.1, hdT.1]; decide)
          refine b_i hx hb hN hB 1 rfl (vp_in_nI (n := (119 + 8 * n4542 + n4551)) (N := 1383) (by omega) (by omega)) (.inl rfl) dX9_readLink_98 (fun H locs hB => ?_)
          rw [(show ((nI (119 + 8 * n4542 + n4551)) : Int32).toNatClampNeg = (119 + 8 * n4542 + n4551) from nI_clamp (n := (119 + 8 * n4542 + n4551)) (by omega))] at hB
          have hB : Bx B0 D _ [(w, .inr (9, [.int f4612_0, .ref bu, .int (nI ((κ w).2.2.1)), .int (nI tl), .int (nI p4602), .int er4603, .int f4612_6, .int f4612_7, .ref (κ w).2.2.2, .ref f4612_9, .ref dr, .ref f4612_11, .int (nI f4612_12), .int f4612_13, .int ns, .int f4612_15, .int f4612_16, .ref f4612_17])), (dr, .inl (cs 0, 1383, .inl (upd f4531 (119 + 8 * n4542 + n4551) (nI n4600))))] [dr] _ _ := hB
          have z4614 := DRK.sf hDR (k := (119 + 8 * n4542 + n4551)) (by omega) (x := (nI n4600))
          have e4615 := (pk_un (f := f4531) (x := (nI n4600)) (show 14 ≠ (119 + 8 * n4542 + n4551) by omega)).trans e4531
          have e4616 := (pk_un (f := f4531) (x := (nI n4600)) (show 0 ≠ (119 + 8 * n4542 + n4551) by omega)).trans en4534
          refine lv_aload_n hx hb dX9_readLink_99 rfl (lv_at hl 4 rfl) ?_
          refine va_get (D := D) (ci := 9) (v := .ref dr) (C := RX9) (T := TX9) (N := 18) hx hb hts iX9_readLink_9 hown hN.1 hB.1 0 rfl rfl 10 (by decide) (hts _ mX9_readLink_1) (fun _ h9 => h9) rfl dX9_readLink_100 ?_
          refine lv_iload_n hx hb dX9_readLink_103 rfl (lv_at hl 2 rfl) ?_
          refine lv_iload_n hx hb dX9_readLink_104 rfl (lv_at hl 3 rfl) ?_
          have hT : WT B0 D cs T κ _ := hT.close hB ⟨⟨1, _, rfl, ok_26 hdT.1 ⟨_, rfl, z4614⟩⟩, trivial⟩
          have hF : Fr B0 [12, 17] κ H0 _ := hF.close hB (fa_c (by simp [hdT.2]) fa_n)
          have hL : OkL B0 _ := hB.2.2.2.2.2
          have hP : va_P D vwCl [(w, .inr (9, [.int f4612_0, .ref bu, .int (nI ((κ w).2.2.1)), .int (nI tl), .int (nI p4602), .int er4603, .int f4612_6, .int f4612_7, .ref (κ w).2.2.2, .ref f4612_9, .ref dr, .ref f4612_11, .int (nI f4612_12), .int f4612_13, .int ns, .int f4612_15, .int f4612_16, .ref f4612_17])), (dr, .inl (cs 0, 1383, .inl (upd f4531 (119 + 8 * n4542 + n4551) (nI n4600))))] _ := hB.1
          have hm := hm.kp hB (by simp only [List.mem_cons, List.not_mem_nil, or_false, not_or]; exact ne_c hbT.1 hdT.1 (by decide)) (by simp only [List.mem_cons, List.not_mem_nil, or_false, not_or]; exact ne_c hw.1 hdT.1 (by decide))
          refine cs_i (As := [.int (nI n4551), .int (nI n4542)]) (rest := [.ref dr]) ⟨hx, hb, hml, hown, hts⟩ (c_X9_linkAt hT (n := n4551) (k := n4542) (by first | omega | decide | assumption) (by first | omega | decide | assumption)) (va_cwS 2 hts gX9_readLink_X9_linkAt rfl rfl rfl hdX9_linkAt_o ⟨Nat.le_of_ble_eq_true rfl, Nat.le_of_ble_eq_true rfl⟩) hN hE hL rfl rfl hl.1 (Nat.le_of_ble_eq_true rfl) dX9_readLink_105 (Nat.zero_le _) (Nat.zero_le _) (fun r4617 H1 locs hL hqr4617 => ?_)
          obtain ⟨h9, hqr4617⟩ := hqr4617; replace h9 := h9.symm; subst h9
          obtain rfl := hqr4617
          refine lv_iload hx hb dX9_readLink_108 (lv_at hl 0 rfl) ?_
          have hB : Bx B0 D _ [(w, .inr (9, [.int f4612_0, .ref bu, .int (nI ((κ w).2.2.1)), .int (nI tl), .int (nI p4602), .int er4603, .int f4612_6, .int f4612_7, .ref (κ w).2.2.2, .ref f4612_9, .ref dr, .ref f4612_11, .int (nI f4612_12), .int f4612_13, .int ns, .int f4612_15, .int f4612_16, .ref f4612_17])), (dr, .inl (cs 0, 1383, .inl (upd f4531 (119 + 8 * n4542 + n4551) (nI n4600))))] [] _ _ := Bx.of (fun a => (κ a).1) hL hP (fa_c hb4612 (fa_c hbd fa_n)) (by simp only [List.map_cons, List.map_nil, hw.1, hdT.1]; decide)
          refine b_i hx hb hN hB 1 rfl (vp_in_nI (n := (119 + 8 * n4551 + n4542)) (N := 1383) (by omega) (by omega)) (.inl rfl) dX9_readLink_110 (fun H locs hB => ?_)
          rw [(show ((nI (119 + 8 * n4551 + n4542)) : Int32).toNatClampNeg = (119 + 8 * n4551 + n4542) from nI_clamp (n := (119 + 8 * n4551 + n4542)) (by omega))] at hB
          have hB : Bx B0 D _ [(w, .inr (9, [.int f4612_0, .ref bu, .int (nI ((κ w).2.2.1)), .int (nI tl), .int (nI p4602), .int er4603, .int f4612_6, .int f4612_7, .ref (κ w).2.2.2, .ref f4612_9, .ref dr, .ref f4612_11, .int (nI f4612_12), .int f4612_13, .int ns, .int f4612_15, .int f4612_16, .ref f4612_17])), (dr, .inl (cs 0, 1383, .inl (upd (upd f4531 (119 + 8 * n4542 + n4551) (nI n4600)) (119 + 8 * n4551 + n4542) (nI n4608))))] [dr] _ _ := hB
          have z4618 := DRK.sf z4614 (k := (119 + 8 * n4551 + n4542)) (by omega) (x := (nI n4608))
          have e4619 := (pk_un (f := (upd f4531 (119 + 8 * n4542 + n4551) (nI n4600))) (x := (nI n4608)) (show 14 ≠ (119 + 8 * n4551 + n4542) by omega)).trans e4615
          have e4620 := (pk_un (f := (upd f4531 (119 + 8 * n4542 + n4551) (nI n4600))) (x := (nI n4608)) (show 0 ≠ (119 + 8 * n4551 + n4542) by omega)).trans e4616
          have hT : WT B0 D cs T κ _ := hT.close hB ⟨⟨1, _, rfl, ok_26 hdT.1 ⟨_, rfl, z4618⟩⟩, trivial⟩
          have hF : Fr B0 [12, 17] κ H0 _ := hF.close hB (fa_c (by simp [hdT.2]) fa_n)
          have hL : OkL B0 _ := hB.2.2.2.2.2
          have hP : va_P D vwCl [(w, .inr (9, [.int f4612_0, .ref bu, .int (nI ((κ w).2.2.1)), .int (nI tl), .int (nI p4602), .int er4603, .int f4612_6, .int f4612_7, .ref (κ w).2.2.2, .ref f4612_9, .ref dr, .ref f4612_11, .int (nI f4612_12), .int f4612_13, .int ns, .int f4612_15, .int f4612_16, .ref f4612_17])), (dr, .inl (cs 0, 1383, .inl (upd (upd f4531 (119 + 8 * n4542 + n4551) (nI n4600)) (119 + 8 * n4551 + n4542) (nI n4608))))] _ := hB.1
          have hm := hm.kp hB (by simp only [List.mem_cons, List.not_mem_nil, or_false, not_or]; exact ne_c hbT.1 hdT.1 (by decide)) (by simp only [List.mem_cons, List.not_mem_nil, or_false, not_or]; exact ne_c hw.1 hdT.1 (by decide))
          have hps : PS D cs w _ (p4602) (tl) (er4603) (ns) dr bu g (N) (h) := ⟨hm, (upd (upd f4531 (119 + 8 * n4542 + n4551) (nI n4600)) (119 + 8 * n4551 + n4542) (nI n4608)), hP 1 _ rfl, e4619, by omega, (CVu (by omega) (CVu (by omega) (fun e9 => (fun e9 => (fun e9 => (fun e9 => v4531 ((fun e9 => (z4539 e9).1) e9)) ((fun e9 => (z4548 e9).1) e9)) ((fun e9 => (z4597 e9).1) e9)) ((fun e9 => (z4605 e9).1) e9))))⟩
          exact en_v hx hb hr hlocks hL (Nat.zero_le _) (Nat.zero_le _) dX9_readLink_111 (⟨hT, hF, p4602, er4603, (by omega), (fun e9 => (fun e9 => (fun e9 => (fun e9 => id ((fun e9 => (z4539 e9).1) e9)) ((fun e9 => (z4548 e9).1) e9)) ((fun e9 => (z4597 e9).1) e9)) ((fun e9 => (z4605 e9).1) e9)), hps⟩)
        · refine lv_if_ne (tgt := 88) hx hb dX9_readLink_84 (by decide) (fun c9 => absurd (by decide) c9) (fun _ => ?_)
          have hps : PS D cs w _ (p4602) (tl) (er4603) (ns) dr bu g (N) (h) := ⟨hm, f4531, hP 0 _ rfl, e4531, by omega, (fun e9 => (fun e9 => (fun e9 => (fun e9 => v4531 ((fun e9 => (z4539 e9).1) e9)) ((fun e9 => (z4548 e9).1) e9)) ((fun e9 => (z4597 e9).1) e9)) ((fun e9 => (z4605 e9).1) e9))⟩
          exact en_v hx hb hr hlocks hL (Nat.zero_le _) (Nat.zero_le _) dX9_readLink_87 (⟨hT, hF, p4602, er4603, (by omega), (fun e9 => (fun e9 => (fun e9 => (fun e9 => id ((fun e9 => (z4539 e9).1) e9)) ((fun e9 => (z4548 e9).1) e9)) ((fun e9 => (z4597 e9).1) e9)) ((fun e9 => (z4605 e9).1) e9)), hps⟩)
      · refine lv_aload_n hx hb dX9_readLink_53 rfl (lv_at hl 2 rfl) ?_
        refine lv_bipush (v := (-4)) hx hb dX9_readLink_54 (by decide) ?_
        refine lv_aload_n hx hb dX9_readLink_56 rfl (lv_at hl 2 rfl) ?_
        refine va_get (D := D) (ci := 9) (v := .int f4589_13) (C := RX9) (T := TX9) (N := 18) hx hb hts iX9_readLink_9 hown hN.1 hP 0 rfl rfl 13 (by decide) (hts _ mX9_readLink_2) (fun _ h9 => h9) rfl dX9_readLink_57 ?_
        refine cv_v (As := [.int (-4), .int f4589_13]) (rest := []) (b := w) ⟨hx, hb, hml, hown, hts⟩ (c_X9_report hT (w := w) hw (x := (-4)) (y := f4589_13) hbT hdT hm ((by decide))) (cwV 2 hts gX9_readLink_X9_report rfl rfl rfl hdX9_report_v ⟨Nat.le_of_ble_eq_true rfl, Nat.le_of_ble_eq_true rfl⟩) hN hE hL (rcv10 hN hT hw.1) rfl rfl hl.1 (Nat.le_of_ble_eq_true rfl) dX9_readLink_60 (Nat.zero_le _) (Nat.zero_le _) (fun H1 locs hL hqr4621 => ?_)
        obtain ⟨hT1, hF1, hqr4621⟩ := hqr4621
        have hP : va_P D vwCl [(dr, .inl (cs 0, 1383, .inl f4531))] _ := hF1.hP (hP.sub [1] rfl) (fa_c ⟨by rw [hdT.1]; decide, by rw [hdT.2]; first | decide | (simp; done) | (simp; omega)⟩ fa_n)
        have hF := hF.tr (hF1.mono (by simp))
        have hT := hT1
        obtain ⟨er4622, z4623, m4624⟩ := hqr4621
        have hm := m4624
        have hm8 := hm.2.2.2.2.2.2.2
        refine lv_aload_n hx hb dX9_readLink_63 rfl (lv_at hl 2 rfl) ?_
        refine lv_iconst (v := 1) hx hb dX9_readLink_64 (by decide) ?_
        refine lv_bipush (v := 9) hx hb dX9_readLink_65 (by decide) ?_
        refine cv_i (As := [.int 1, .int 9]) (rest := []) (b := w) ⟨hx, hb, hml, hown, hts⟩ (c_X9_number hT (w := w) hw (x := 1) (y := 9) hbT hdT hm) (cwV 2 hts gX9_readLink_X9_number rfl rfl rfl hdX9_number_v ⟨Nat.le_of_ble_eq_true rfl, Nat.le_of_ble_eq_true rfl⟩) hN hE hL (rcv10 hN hT hw.1) rfl rfl hl.1 (Nat.le_of_ble_eq_true rfl) dX9_readLink_67 (Nat.zero_le _) (Nat.zero_le _) (fun r4625 H1 locs hL hqr4625 => ?_)
        obtain ⟨hT1, hF1, hqr4625⟩ := hqr4625
        have hP : va_P D vwCl [(dr, .inl (cs 0, 1383, .inl f4531))] _ := hF1.hP (hP.sub [0] rfl) (fa_c ⟨by rw [hdT.1]; decide, by rw [hdT.2]; first | decide | (simp; done) | (simp; omega)⟩ fa_n)
        have hF := hF.tr (hF1.mono (by simp))
        have hT := hT1
        obtain ⟨p4626, er4627, a4628, z4629, m4630, q4631⟩ := hqr4625
        have hm := m4630
        have hm8 := hm.2.2.2.2.2.2.2
        obtain ⟨n4632, hn4632, rfl⟩ := num_c (lo := 1) (hi := 9) (by decide) (by decide) rfl rfl q4631
        refine lv_istore_n (lv' := [(3, .int (nI n4632)), (2, .int (nI n4551)), (1, .int (nI n4542)), (0, .ref w)]) hx hb dX9_readLink_70 rfl hl (by decide) rfl (fun ls hl => ?_)
        refine lv_aload_n hx hb dX9_readLink_71 rfl (lv_at hl 3 rfl) ?_
        refine lv_iconst (v := 1) hx hb dX9_readLink_72 (by decide) ?_
        refine lv_bipush (v := 9) hx hb dX9_readLink_73 (by decide) ?_
        refine cv_i (As := [.int 1, .int 9]) (rest := []) (b := w) ⟨hx, hb, hml, hown, hts⟩ (c_X9_number hT (w := w) hw (x := 1) (y := 9) hbT hdT hm) (cwV 2 hts gX9_readLink_X9_number rfl rfl rfl hdX9_number_v ⟨Nat.le_of_ble_eq_true rfl, Nat.le_of_ble_eq_true rfl⟩) hN hE hL (rcv10 hN hT hw.1) rfl rfl hl.1 (Nat.le_of_ble_eq_true rfl) dX9_readLink_75 (Nat.zero_le _) (Nat.zero_le _) (fun r4633 H1 locs hL hqr4633 => ?_)
        obtain ⟨hT1, hF1, hqr4633⟩ := hqr4633
        have hP : va_P D vwCl [(dr, .inl (cs 0, 1383, .inl f4531))] _ := hF1.hP (hP.sub [0] rfl) (fa_c ⟨by rw [hdT.1]; decide, by rw [hdT.2]; first | decide | (simp; done) | (simp; omega)⟩ fa_n)
        have hF := hF.tr (hF1.mono (by simp))
        have hT := hT1
        obtain ⟨p4634, er4635, a4636, z4637, m4638, q4639⟩ := hqr4633
        have hm := m4638
        have hm8 := hm.2.2.2.2.2.2.2
        obtain ⟨n4640, hn4640, rfl⟩ := num_c (lo := 1) (hi := 9) (by decide) (by decide) rfl rfl q4639
        refine lv_istore (lv' := [(4, .int (nI n4640)), (3, .int (nI n4632)), (2, .int (nI n4551)), (1, .int (nI n4542)), (0, .ref w)]) hx hb dX9_readLink_78 hl (by decide) rfl (fun ls hl => ?_)
        refine lv_aload_n hx hb dX9_readLink_80 rfl (lv_at hl 4 rfl) ?_
        refine cv_i (As := []) (rest := []) (b := w) ⟨hx, hb, hml, hown, hts⟩ (c_X9_isGood hT (w := w) hw hbT hdT hm) (cwV 0 hts gX9_readLink_X9_isGood rfl rfl rfl hdX9_isGood_v ⟨Nat.le_of_ble_eq_true rfl, Nat.le_of_ble_eq_true rfl⟩) hN hE hL (rcv10 hN hT hw.1) rfl rfl hl.1 (Nat.le_of_ble_eq_true rfl) dX9_readLink_81 (Nat.zero_le _) (Nat.zero_le _) (fun r4641 H1 locs hL hqr4641 => ?_)
        obtain ⟨h9, hqr4641⟩ := hqr4641; replace h9 := h9.symm; subst h9
        rcases hqr4641 with ⟨rfl, e4642⟩ | ⟨rfl, e4643⟩
        · refine lv_if_ne (tgt := 88) hx hb dX9_readLink_84 (by decide) (fun _ => ?_) (fun c9 => absurd c9 (by decide))
          refine lv_aload_n hx hb dX9_readLink_88 rfl (lv_at hl 4 rfl) ?_
          obtain ⟨hb4644, e4644, hat4644, hk4644⟩ := hT.o10 hw.1
          obtain ⟨f4644_0, f4644_1, f4644_3, f4644_4, f4644_5, f4644_6, f4644_7, f4644_9, f4644_10, f4644_11, f4644_12, f4644_13, f4644_14, f4644_15, f4644_16, f4644_17, rfl, c4644_2, c4644_3, c4644_4, c4644_12, t4644_1, t4644_8, t4644_9, c4644_sd, t4644_10, t4644_11, t4644_17⟩ := hk4644
          obtain ⟨rfl, rfl, rfl, rfl, rfl, rfl⟩ := hm.at hat4644 c4644_3 (by omega)
          have hm8 := hm.2.2.2.2.2.2.2
          have hP : va_P D vwCl [(w, .inr (9, [.int f4644_0, .ref bu, .int (nI ((κ w).2.2.1)), .int (nI tl), .int (nI p4634), .int er4635, .int f4644_6, .int f4644_7, .ref (κ w).2.2.2, .ref f4644_9, .ref dr, .ref f4644_11, .int (nI f4644_12), .int f4644_13, .int ns, .int f4644_15, .int f4644_16, .ref f4644_17])), (dr, .inl (cs 0, 1383, .inl f4531))] _ := va_P.cons hat4644 hP
          refine va_get (D := D) (ci := 9) (v := .ref dr) (C := RX9) (T := TX9) (N := 18) hx hb hts iX9_readLink_9 hown hN.1 hP 0 rfl rfl 10 (by decide) (hts _ mX9_readLink_1) (fun _ h9 => h9) rfl dX9_readLink_89 ?_
          refine lv_iload_n hx hb dX9_readLink_92 rfl (lv_at hl 3 rfl) ?_
          refine lv_iload_n hx hb dX9_readLink_93 rfl (lv_at hl 2 rfl) ?_
          refine cs_i (As := [.int (nI n4542), .int (nI n4551)]) (rest := [.ref dr]) ⟨hx, hb, hml, hown, hts⟩ (c_X9_linkAt hT (n := n4542) (k := n4551) (by first | omega | decide | assumption) (by first | omega | decide | assumption)) (va_cwS 2 hts gX9_readLink_X9_linkAt rfl rfl rfl hdX9_linkAt_o ⟨Nat.le_of_ble_eq_true rfl, Nat.le_of_ble_eq_true rfl⟩) hN hE hL rfl rfl hl.1 (Nat.le_of_ble_eq_true rfl) dX9_readLink_94 (Nat.zero_le _) (Nat.zero_le _) (fun r4645 H1 locs hL hqr4645 => ?_)
          obtain ⟨h9, hqr4645⟩ := hqr4645; replace h9 := h9.symm; subst h9
          obtain rfl := hqr4645
          refine lv_iload_n hx hb dX9_readLink_97 rfl (lv_at hl 1 rfl) ?_
          have hB : Bx B0 D _ [(w, .inr (9, [.int f4644_0, .ref bu, .int (nI ((κ w).2.2.1)), .int (nI tl), .int (nI p4634), .int er4635, .int f4644_6, .int f4644_7, .ref (κ w).2.2.2, .ref f4644_9, .ref dr, .ref f4644_11, .int (nI f4644_12), .int f4644_13, .int ns, .int f4644_15, .int f4644_16, .ref f4644_17])), (dr, .inl (cs 0, 1383, .inl f4531))] [] _ _ := Bx.of (fun a => (κ a).1) hL hP (fa_c hb4644 (fa_c hbd fa_n)) (by simp only [List.map_cons, List.map_nil, hw.1, hdT.1]; decide)
          refine b_i hx hb hN hB 1 rfl (vp_in_nI (n := (119 + 8 * n4542 + n4551)) (N := 1383) (by omega) (by omega)) (.inl rfl) dX9_readLink_98 (fun H locs hB => ?_)
          rw [(show ((nI (119 + 8 * n4542 + n4551)) : Int32).toNatClampNeg = (119 + 8 * n4542 + n4551) from nI_clamp (n := (119 + 8 * n4542 + n4551)) (by omega))] at hB
          have hB : Bx B0 D _ [(w, .inr (9, [.int f4644_0, .ref bu, .int (nI ((κ w).2.2.1)), .int (nI tl), .int (nI p4634), .int er4635, .int f4644_6, .int f4644_7, .ref (κ w).2.2.2, .ref f4644_9, .ref dr, .ref f4644_11, .int (nI f4644_12), .int f4644_13, .int ns, .int f4644_15, .int f4644_16, .ref f4644_17])), (dr, .inl (cs 0, 1383, .inl (upd f4531 (119 + 8 * n4542 + n4551) (nI n4632))))] [dr] _ _ := hB
          have z4646 := DRK.sf hDR (k := (119 + 8 * n4542 + n4551)) (by omega) (x := (nI n4632))
          have e4647 := (pk_un (f := f4531) (x := (nI n4632)) (show 14 ≠ (119 + 8 * n4542 + n4551) by omega)).trans e4531
          have e4648 := (pk_un (f := f4531) (x := (nI n4632)) (show 0 ≠ (119 + 8 * n4542 + n4551) by omega)).trans en4534
          refine lv_aload_n hx hb dX9_readLink_99 rfl (lv_at hl 4 rfl) ?_
          refine va_get (D := D) (ci := 9) (v := .ref dr) (C := RX9) (T := TX9) (N := 18) hx hb hts iX9_readLink_9 hown hN.1 hB.1 0 rfl rfl 10 (by decide) (hts _ mX9_readLink_1) (fun _ h9 => h9) rfl dX9_readLink_100 ?_
          refine lv_iload_n hx hb dX9_readLink_103 rfl (lv_at hl 2 rfl) ?_
          refine lv_iload_n hx hb dX9_readLink_104 rfl (lv_at hl 3 rfl) ?_
          have hT : WT B0 D cs T κ _ := hT.close hB ⟨⟨1, _, rfl, ok_26 hdT.1 ⟨_, rfl, z4646⟩⟩, trivial⟩
          have hF : Fr B0 [12, 17] κ H0 _ := hF.close hB (fa_c (by simp [hdT.2]) fa_n)
          have hL : OkL B0 _ := hB.2.2.2.2.2
          have hP : va_P D vwCl [(w, .inr (9, [.int f4644_0, .ref bu, .int (nI ((κ w).2.2.1)), .int (nI tl), .int (nI p4634), .int er4635, .int f4644_6, .int f4644_7, .ref (κ w).2.2.2, .ref f4644_9, .ref dr, .ref f4644_11, .int (nI f4644_12), .int f4644_13, .int ns, .int f4644_15, .int f4644_16, .ref f4644_17])), (dr, .inl (cs 0, 1383, .inl (upd f4531 (119 + 8 * n4542 + n4551) (nI n4632))))] _ := hB.1
          have hm := hm.kp hB (by simp only [List.mem_cons, List.not_mem_nil, or_false, not_or]; exact ne_c hbT.1 hdT.1 (by decide)) (by simp only [List.mem_cons, List.not_mem_nil, or_false, not_or]; exact ne_c hw.1 hdT.1 (by decide))
          refine cs_i (As := [.int (nI n4551), .int (nI n4542)]) (rest := [.ref dr]) ⟨hx, hb, hml, hown, hts⟩ (c_X9_linkAt hT (n := n4551) (k := n4542) (by first | omega | decide | assumption) (by first | omega | decide | assumption)) (va_cwS 2 hts gX9_readLink_X9_linkAt rfl rfl rfl hdX9_linkAt_o ⟨Nat.le_of_ble_eq_true rfl, Nat.le_of_ble_eq_true rfl⟩) hN hE hL rfl rfl hl.1 (Nat.le_of_ble_eq_true rfl) dX9_readLink_105 (Nat.zero_le _) (Nat.zero_le _) (fun r4649 H1 locs hL hqr4649 => ?_)
          obtain ⟨h9, hqr4649⟩ := hqr4649; replace h9 := h9.symm; subst h9
          obtain rfl := hqr4649
          refine lv_iload hx hb dX9_readLink_108 (lv_at hl 0 rfl) ?_
          have hB : Bx B0 D _ [(w, .inr (9, [.int f4644_0, .ref bu, .int (nI ((κ w).2.2.1)), .int (nI tl), .int (nI p4634), .int er4635, .int f4644_6, .int f4644_7, .ref (κ w).2.2.2, .ref f4644_9, .ref dr, .ref f4644_11, .int (nI f4644_12), .int f4644_13, .int ns, .int f4644_15, .int f4644_16, .ref f4644_17])), (dr, .inl (cs 0, 1383, .inl (upd f4531 (119 + 8 * n4542 + n4551) (nI n4632))))] [] _ _ := Bx.of (fun a => (κ a).1) hL hP (fa_c hb4644 (fa_c hbd fa_n)) (by simp only [List.map_cons, List.map_nil, hw.1, hdT.1]; decide)
          refine b_i hx hb hN hB 1 rfl (vp_in_nI (n := (119 + 8 * n4551 + n4542)) (N := 1383) (by omega) (by omega)) (.inl rfl) dX9_readLink_110 (fun H locs hB => ?_)
          rw [(show ((nI (119 + 8 * n4551 + n4542)) : Int32).toNatClampNeg = (119 + 8 * n4551 + n4542) from nI_clamp (n := (119 + 8 * n4551 + n4542)) (by omega))] at hB
          have hB : Bx B0 D _ [(w, .inr (9, [.int f4644_0, .ref bu, .int (nI ((κ w).2.2.1)), .int (nI tl), .int (nI p4634), .int er4635, .int f4644_6, .int f4644_7, .ref (κ w).2.2.2, .ref f4644_9, .ref dr, .ref f4644_11, .int (nI f4644_12), .int f4644_13, .int ns, .int f4644_15, .int f4644_16, .ref f4644_17])), (dr, .inl (cs 0, 1383, .inl (upd (upd f4531 (119 + 8 * n4542 + n4551) (nI n4632)) (119 + 8 * n4551 + n4542) (nI n4640))))] [dr] _ _ := hB
          have z4650 := DRK.sf z4646 (k := (119 + 8 * n4551 + n4542)) (by omega) (x := (nI n4640))
          have e4651 := (pk_un (f := (upd f4531 (119 + 8 * n4542 + n4551) (nI n4632))) (x := (nI n4640)) (show 14 ≠ (119 + 8 * n4551 + n4542) by omega)).trans e4647
          have e4652 := (pk_un (f := (upd f4531 (119 + 8 * n4542 + n4551) (nI n4632))) (x := (nI n4640)) (show 0 ≠ (119 + 8 * n4551 + n4542) by omega)).trans e4648
          have hT : WT B0 D cs T κ _ := hT.close hB ⟨⟨1, _, rfl, ok_26 hdT.1 ⟨_, rfl, z4650⟩⟩, trivial⟩
          have hF : Fr B0 [12, 17] κ H0 _ := hF.close hB (fa_c (by simp [hdT.2]) fa_n)
          have hL : OkL B0 _ := hB.2.2.2.2.2
          have hP : va_P D vwCl [(w, .inr (9, [.int f4644_0, .ref bu, .int (nI ((κ w).2.2.1)), .int (nI tl), .int (nI p4634), .int er4635, .int f4644_6, .int f4644_7, .ref (κ w).2.2.2, .ref f4644_9, .ref dr, .ref f4644_11, .int (nI f4644_12), .int f4644_13, .int ns, .int f4644_15, .int f4644_16, .ref f4644_17])), (dr, .inl (cs 0, 1383, .inl (upd (upd f4531 (119 + 8 * n4542 + n4551) (nI n4632)) (119 + 8 * n4551 + n4542) (nI n4640))))] _ := hB.1
          have hm := hm.kp hB (by simp only [List.mem_cons, List.not_mem_nil, or_false, not_or]; exact ne_c hbT.1 hdT.1 (by decide)) (by simp only [List.mem_cons, List.not_mem_nil, or_false, not_or]; exact ne_c hw.1 hdT.1 (by decide))
          have hps : PS D cs w _ (p4634) (tl) (er4635) (ns) dr bu g (N) (h) := ⟨hm, (upd (upd f4531 (119 + 8 * n4542 + n4551) (nI n4632)) (119 + 8 * n4551 + n4542) (nI n4640)), hP 1 _ rfl, e4651, by omega, (CVu (by omega) (CVu (by omega) (fun e9 => (fun e9 => (fun e9 => absurd e9 z4623) ((fun e9 => (z4629 e9).1) e9)) ((fun e9 => (z4637 e9).1) e9))))⟩
          exact en_v hx hb hr hlocks hL (Nat.zero_le _) (Nat.zero_le _) dX9_readLink_111 (⟨hT, hF, p4634, er4635, (by omega), (fun e9 => (fun e9 => (fun e9 => (fun e9 => (fun e9 => id ((fun e9 => (z4539 e9).1) e9)) ((fun e9 => (z4548 e9).1) e9)) ((fun e9 => absurd e9 z4623) e9)) ((fun e9 => (z4629 e9).1) e9)) ((fun e9 => (z4637 e9).1) e9)), hps⟩)
        · refine lv_if_ne (tgt := 88) hx hb dX9_readLink_84 (by decide) (fun c9 => absurd (by decide) c9) (fun _ => ?_)
          have hps : PS D cs w _ (p4634) (tl) (er4635) (ns) dr bu g (N) (h) := ⟨hm, f4531, hP 0 _ rfl, e4531, by omega, (fun e9 => (fun e9 => (fun e9 => absurd e9 z4623) ((fun e9 => (z4629 e9).1) e9)) ((fun e9 => (z4637 e9).1) e9))⟩
          exact en_v hx hb hr hlocks hL (Nat.zero_le _) (Nat.zero_le _) dX9_readLink_87 (⟨hT, hF, p4634, er4635, (by omega), (fun e9 => (fun e9 => (fun e9 => (fun e9 => (fun e9 => id ((fun e9 => (z4539 e9).1) e9)) ((fun e9 => (z4548 e9).1) e9)) ((fun e9 => absurd e9 z4623) e9)) ((fun e9 => (z4629 e9).1) e9)) ((fun e9 => (z4637 e9).1) e9)), hps⟩)
  · refine lv_if_eq (tgt := 63) hx hb dX9_readLink_32 (by decide) (fun _ => ?_) (fun c9 => absurd (by decide) c9)
    refine lv_aload_n hx hb dX9_readLink_63 rfl (lv_at hl 2 rfl) ?_
    refine lv_iconst (v := 1) hx hb dX9_readLink_64 (by decide) ?_
    refine lv_bipush (v := 9) hx hb dX9_readLink_65 (by decide) ?_
    refine cv_i (As := [.int 1, .int 9]) (rest := []) (b := w) ⟨hx, hb, hml, hown, hts⟩ (c_X9_number hT (w := w) hw (x := 1) (y := 9) hbT hdT hm) (cwV 2 hts gX9_readLink_X9_number rfl rfl rfl hdX9_number_v ⟨Nat.le_of_ble_eq_true rfl, Nat.le_of_ble_eq_true rfl⟩) hN hE hL (rcv10 hN hT hw.1) rfl rfl hl.1 (Nat.le_of_ble_eq_true rfl) dX9_readLink_67 (Nat.zero_le _) (Nat.zero_le _) (fun r4653 H1 locs hL hqr4653 => ?_)
    obtain ⟨hT1, hF1, hqr4653⟩ := hqr4653
    have hP : va_P D vwCl [(dr, .inl (cs 0, 1383, .inl f4531))] _ := hF1.hP (hP.sub [0] rfl) (fa_c ⟨by rw [hdT.1]; decide, by rw [hdT.2]; first | decide | (simp; done) | (simp; omega)⟩ fa_n)
    have hF := hF.tr (hF1.mono (by simp))
    have hT := hT1
    obtain ⟨p4654, er4655, a4656, z4657, m4658, q4659⟩ := hqr4653
    have hm := m4658
    have hm8 := hm.2.2.2.2.2.2.2
    obtain ⟨n4660, hn4660, rfl⟩ := num_c (lo := 1) (hi := 9) (by decide) (by decide) rfl rfl q4659
    refine lv_istore_n (lv' := [(3, .int (nI n4660)), (2, .int (nI n4551)), (1, .int (nI n4542)), (0, .ref w)]) hx hb dX9_readLink_70 rfl hl (by decide) rfl (fun ls hl => ?_)
    refine lv_aload_n hx hb dX9_readLink_71 rfl (lv_at hl 3 rfl) ?_
    refine lv_iconst (v := 1) hx hb dX9_readLink_72 (by decide) ?_
    refine lv_bipush (v := 9) hx hb dX9_readLink_73 (by decide) ?_
    refine cv_i (As := [.int 1, .int 9]) (rest := []) (b := w) ⟨hx, hb, hml, hown, hts⟩ (c_X9_number hT (w := w) hw (x := 1) (y := 9) hbT hdT hm) (cwV 2 hts gX9_readLink_X9_number rfl rfl rfl hdX9_number_v ⟨Nat.le_of_ble_eq_true rfl, Nat.le_of_ble_eq_true rfl⟩) hN hE hL (rcv10 hN hT hw.1) rfl rfl hl.1 (Nat.le_of_ble_eq_true rfl) dX9_readLink_75 (Nat.zero_le _) (Nat.zero_le _) (fun r4661 H1 locs hL hqr4661 => ?_)
    obtain ⟨hT1, hF1, hqr4661⟩ := hqr4661
    have hP : va_P D vwCl [(dr, .inl (cs 0, 1383, .inl f4531))] _ := hF1.hP (hP.sub [0] rfl) (fa_c ⟨by rw [hdT.1]; decide, by rw [hdT.2]; first | decide | (simp; done) | (simp; omega)⟩ fa_n)
    have hF := hF.tr (hF1.mono (by simp))
    have hT := hT1
    obtain ⟨p4662, er4663, a4664, z4665, m4666, q4667⟩ := hqr4661
    have hm := m4666
    have hm8 := hm.2.2.2.2.2.2.2
    obtain ⟨n4668, hn4668, rfl⟩ := num_c (lo := 1) (hi := 9) (by decide) (by decide) rfl rfl q4667
    refine lv_istore (lv' := [(4, .int (nI n4668)), (3, .int (nI n4660)), (2, .int (nI n4551)), (1, .int (nI n4542)), (0, .ref w)]) hx hb dX9_readLink_78 hl (by decide) rfl (fun ls hl => ?_)
    refine lv_aload_n hx hb dX9_readLink_80 rfl (lv_at hl 4 rfl) ?_
    refine cv_i (As := []) (rest := []) (b := w) ⟨hx, hb, hml, hown, hts⟩ (c_X9_isGood hT (w := w) hw hbT hdT hm) (cwV 0 hts gX9_readLink_X9_isGood rfl rfl rfl hdX9_isGood_v ⟨Nat.le_of_ble_eq_true rfl, Nat.le_of_ble_eq_true rfl⟩) hN hE hL (rcv10 hN hT hw.1) rfl rfl hl.1 (Nat.le_of_ble_eq_true rfl) dX9_readLink_81 (Nat.zero_le _) (Nat.zero_le _) (fun r4669 H1 locs hL hqr4669 => ?_)
    obtain ⟨h9, hqr4669⟩ := hqr4669; replace h9 := h9.symm; subst h9
    rcases hqr4669 with ⟨rfl, e4670⟩ | ⟨rfl, e4671⟩
    · refine lv_if_ne (tgt := 88) hx hb dX9_readLink_84 (by decide) (fun _ => ?_) (fun c9 => absurd c9 (by decide))
      refine lv_aload_n hx hb dX9_readLink_88 rfl (lv_at hl 4 rfl) ?_
      obtain ⟨hb4672, e4672, hat4672, hk4672⟩ := hT.o10 hw.1
      obtain ⟨f4672_0, f4672_1, f4672_3, f4672_4, f4672_5, f4672_6, f4672_7, f4672_9, f4672_10, f4672_11, f4672_12, f4672_13, f4672_14, f4672_15, f4672_16, f4672_17, rfl, c4672_2, c4672_3, c4672_4, c4672_12, t4672_1, t4672_8, t4672_9, c4672_sd, t4672_10, t4672_11, t4672_17⟩ := hk4672
      obtain ⟨rfl, rfl, rfl, rfl, rfl, rfl⟩ := hm.at hat4672 c4672_3 (by omega)
      have hm8 := hm.2.2.2.2.2.2.2
      have hP : va_P D vwCl [(w, .inr (9, [.int f4672_0, .ref bu, .int (nI ((κ w).2.2.1)), .int (nI tl), .int (nI p4662), .int er4663, .int f4672_6, .int f4672_7, .ref (κ w).2.2.2, .ref f4672_9, .ref dr, .ref f4672_11, .int (nI f4672_12), .int f4672_13, .int ns, .int f4672_15, .int f4672_16, .ref f4672_17])), (dr, .inl (cs 0, 1383, .inl f4531))] _ := va_P.cons hat4672 hP
      refine va_get (D := D) (ci := 9) (v := .ref dr) (C := RX9) (T := TX9) (N := 18) hx hb hts iX9_readLink_9 hown hN.1 hP 0 rfl rfl 10 (by decide) (hts _ mX9_readLink_1) (fun _ h9 => h9) rfl dX9_readLink_89 ?_
      refine lv_iload_n hx hb dX9_readLink_92 rfl (lv_at hl 3 rfl) ?_
      refine lv_iload_n hx hb dX9_readLink_93 rfl (lv_at hl 2 rfl) ?_
      refine cs_i (As := [.int (nI n4542), .int (nI n4551)]) (rest := [.ref dr]) ⟨hx, hb, hml, hown, hts⟩ (c_X9_linkAt hT (n := n4542) (k := n4551) (by first | omega | decide | assumption) (by first | omega | decide | assumption)) (va_cwS 2 hts gX9_readLink_X9_linkAt rfl rfl rfl hdX9_linkAt_o ⟨Nat.le_of_ble_eq_true rfl, Nat.le_of_ble_eq_true rfl⟩) hN hE hL rfl rfl hl.1 (Nat.le_of_ble_eq_true rfl) dX9_readLink_94 (Nat.zero_le _) (Nat.zero_le _) (fun r4673 H1 locs hL hqr4673 => ?_)
      obtain ⟨h9, hqr4673⟩ := hqr4673; replace h9 := h9.symm; subst h9
      obtain rfl := hqr4673
      refine lv_iload_n hx hb dX9_readLink_97 rfl (lv_at hl 1 rfl) ?_
      have hB : Bx B0 D _ [(w, .inr (9, [.int f4672_0, .ref bu, .int (nI ((κ w).2.2.1)), .int (nI tl), .int (nI p4662), .int er4663, .int f4672_6, .int f4672_7, .ref (κ w).2.2.2, .ref f4672_9, .ref dr, .ref f4672_11, .int (nI f4672_12), .int f4672_13, .int ns, .int f4672_15, .int f4672_16, .ref f4672_17])), (dr, .inl (cs 0, 1383, .inl f4531))] [] _ _ := Bx.of (fun a => (κ a).1) hL hP (fa_c hb4672 (fa_c hbd fa_n)) (by simp only [List.map_cons, List.map_nil, hw.1, hdT.1]; decide)
      refine b_i hx hb hN hB 1 rfl (vp_in_nI (n := (119 + 8 * n4542 + n4551)) (N := 1383) (by omega) (by omega)) (.inl rfl) dX9_readLink_98 (fun H locs hB => ?_)
      rw [(show ((nI (119 + 8 * n4542 + n4551)) : Int32).toNatClampNeg = (119 + 8 * n4542 + n4551) from nI_clamp (n := (119 + 8 * n4542 + n4551)) (by omega))] at hB
      have hB : Bx B0 D _ [(w, .inr (9, [.int f4672_0, .ref bu, .int (nI ((κ w).2.2.1)), .int (nI tl), .int (nI p4662), .int er4663, .int f4672_6, .int f4672_7, .ref (κ w).2.2.2, .ref f4672_9, .ref dr, .ref f4672_11, .int (nI f4672_12), .int f4672_13, .int ns, .int f4672_15, .int f4672_16, .ref f4672_17])), (dr, .inl (cs 0, 1383, .inl (upd f4531 (119 + 8 * n4542 + n4551) (nI n4660))))] [dr] _ _ := hB
      have z4674 := DRK.sf hDR (k := (119 + 8 * n4542 + n4551)) (by omega) (x := (nI n4660))
      have e4675 := (pk_un (f := f4531) (x := (nI n4660)) (show 14 ≠ (119 + 8 * n4542 + n4551) by omega)).trans e4531
      have e4676 := (pk_un (f := f4531) (x := (nI n4660)) (show 0 ≠ (119 + 8 * n4542 + n4551) by omega)).trans en4534
      refine lv_aload_n hx hb dX9_readLink_99 rfl (lv_at hl 4 rfl) ?_
      refine va_get (D := D) (ci := 9) (v := .ref dr) (C := RX9) (T := TX9) (N := 18) hx hb hts iX9_readLink_9 hown hN.1 hB.1 0 rfl rfl 10 (by decide) (hts _ mX9_readLink_1) (fun _ h9 => h9) rfl dX9_readLink_100 ?_
      refine lv_iload_n hx hb dX9_readLink_103 rfl (lv_at hl 2 rfl) ?_
      refine lv_iload_n hx hb dX9_readLink_104 rfl (lv_at hl 3 rfl) ?_
      have hT : WT B0 D cs T κ _ := hT.close hB ⟨⟨1, _, rfl, ok_26 hdT.1 ⟨_, rfl, z4674⟩⟩, trivial⟩
      have hF : Fr B0 [12, 17] κ H0 _ := hF.close hB (fa_c (by simp [hdT.2]) fa_n)
      have hL : OkL B0 _ := hB.2.2.2.2.2
      have hP : va_P D vwCl [(w, .inr (9, [.int f4672_0, .ref bu, .int (nI ((κ w).2.2.1)), .int (nI tl), .int (nI p4662), .int er4663, .int f4672_6, .int f4672_7, .ref (κ w).2.2.2, .ref f4672_9, .ref dr, .ref f4672_11, .int (nI f4672_12), .int f4672_13, .int ns, .int f4672_15, .int f4672_16, .ref f4672_17])), (dr, .inl (cs 0, 1383, .inl (upd f4531 (119 + 8 * n4542 + n4551) (nI n4660))))] _ := hB.1
      have hm := hm.kp hB (by simp only [List.mem_cons, List.not_mem_nil, or_false, not_or]; exact ne_c hbT.1 hdT.1 (by decide)) (by simp only [List.mem_cons, List.not_mem_nil, or_false, not_or]; exact ne_c hw.1 hdT.1 (by decide))
      refine cs_i (As := [.int (nI n4551), .int (nI n4542)]) (rest := [.ref dr]) ⟨hx, hb, hml, hown, hts⟩ (c_X9_linkAt hT (n := n4551) (k := n4542) (by first | omega | decide | assumption) (by first | omega | decide | assumption)) (va_cwS 2 hts gX9_readLink_X9_linkAt rfl rfl rfl hdX9_linkAt_o ⟨Nat.le_of_ble_eq_true rfl, Nat.le_of_ble_eq_true rfl⟩) hN hE hL rfl rfl hl.1 (Nat.le_of_ble_eq_true rfl) dX9_readLink_105 (Nat.zero_le _) (Nat.zero_le _) (fun r4677 H1 locs hL hqr4677 => ?_)
      obtain ⟨h9, hqr4677⟩ := hqr4677; replace h9 := h9.symm; subst h9
      obtain rfl := hqr4677
      refine lv_iload hx hb dX9_readLink_108 (lv_at hl 0 rfl) ?_
      have hB : Bx B0 D _ [(w, .inr (9, [.int f4672_0, .ref bu, .int (nI ((κ w).2.2.1)), .int (nI tl), .int (nI p4662), .int er4663, .int f4672_6, .int f4672_7, .ref (κ w).2.2.2, .ref f4672_9, .ref dr, .ref f4672_11, .int (nI f4672_12), .int f4672_13, .int ns, .int f4672_15, .int f4672_16, .ref f4672_17])), (dr, .inl (cs 0, 1383, .inl (upd f4531 (119 + 8 * n4542 + n4551) (nI n4660))))] [] _ _ := Bx.of (fun a => (κ a).1) hL hP (fa_c hb4672 (fa_c hbd fa_n)) (by simp only [List.map_cons, List.map_nil, hw.1, hdT.1]; decide)
      refine b_i hx hb hN hB 1 rfl (vp_in_nI (n := (119 + 8 * n4551 + n4542)) (N := 1383) (by omega) (by omega)) (.inl rfl) dX9_readLink_110 (fun H locs hB => ?_)
      rw [(show ((nI (119 + 8 * n4551 + n4542)) : Int32).toNatClampNeg = (119 + 8 * n4551 + n4542) from nI_clamp (n := (119 + 8 * n4551 + n4542)) (by omega))] at hB
      have hB : Bx B0 D _ [(w, .inr (9, [.int f4672_0, .ref bu, .int (nI ((κ w).2.2.1)), .int (nI tl), .int (nI p4662), .int er4663, .int f4672_6, .int f4672_7, .ref (κ w).2.2.2, .ref f4672_9, .ref dr, .ref f4672_11, .int (nI f4672_12), .int f4672_13, .int ns, .int f4672_15, .int f4672_16, .ref f4672_17])), (dr, .inl (cs 0, 1383, .inl (upd (upd f4531 (119 + 8 * n4542 + n4551) (nI n4660)) (119 + 8 * n4551 + n4542) (nI n4668))))] [dr] _ _ := hB
      have z4678 := DRK.sf z4674 (k := (119 + 8 * n4551 + n4542)) (by omega) (x := (nI n4668))
      have e4679 := (pk_un (f := (upd f4531 (119 + 8 * n4542 + n4551) (nI n4660))) (x := (nI n4668)) (show 14 ≠ (119 + 8 * n4551 + n4542) by omega)).trans e4675
      have e4680 := (pk_un (f := (upd f4531 (119 + 8 * n4542 + n4551) (nI n4660))) (x := (nI n4668)) (show 0 ≠ (119 + 8 * n4551 + n4542) by omega)).trans e4676
      have hT : WT B0 D cs T κ _ := hT.close hB ⟨⟨1, _, rfl, ok_26 hdT.1 ⟨_, rfl, z4678⟩⟩, trivial⟩
      have hF : Fr B0 [12, 17] κ H0 _ := hF.close hB (fa_c (by simp [hdT.2]) fa_n)
      have hL : OkL B0 _ := hB.2.2.2.2.2
      have hP : va_P D vwCl [(w, .inr (9, [.int f4672_0, .ref bu, .int (nI ((κ w).2.2.1)), .int (nI tl), .int (nI p4662), .int er4663, .int f4672_6, .int f4672_7, .ref (κ w).2.2.2, .ref f4672_9, .ref dr, .ref f4672_11, .int (nI f4672_12), .int f4672_13, .int ns, .int f4672_15, .int f4672_16, .ref f4672_17])), (dr, .inl (cs 0, 1383, .inl (upd (upd f4531 (119 + 8 * n4542 + n4551) (nI n4660)) (119 + 8 * n4551 + n4542) (nI n4668))))] _ := hB.1
      have hm := hm.kp hB (by simp only [List.mem_cons, List.not_mem_nil, or_false, not_or]; exact ne_c hbT.1 hdT.1 (by decide)) (by simp only [List.mem_cons, List.not_mem_nil, or_false, not_or]; exact ne_c hw.1 hdT.1 (by decide))
      have hps : PS D cs w _ (p4662) (tl) (er4663) (ns) dr bu g (N) (h) := ⟨hm, (upd (upd f4531 (119 + 8 * n4542 + n4551) (nI n4660)) (119 + 8 * n4551 + n4542) (nI n4668)), hP 1 _ rfl, e4679, by omega, (CVu (by omega) (CVu (by omega) (fun e9 => (fun e9 => (fun e9 => (fun e9 => v4531 ((fun e9 => (z4539 e9).1) e9)) ((fun e9 => (z4548 e9).1) e9)) ((fun e9 => (z4657 e9).1) e9)) ((fun e9 => (z4665 e9).1) e9))))⟩
      exact en_v hx hb hr hlocks hL (Nat.zero_le _) (Nat.zero_le _) dX9_readLink_111 (⟨hT, hF, p4662, er4663, (by omega), (fun e9 => (fun e9 => (fun e9 => (fun e9 => id ((fun e9 => (z4539 e9).1) e9)) ((fun e9 => (z4548 e9).1) e9)) ((fun e9 => (z4657 e9).1) e9)) ((fun e9 => (z4665 e9).1) e9)), hps⟩)
    · refine lv_if_ne (tgt := 88) hx hb dX9_readLink_84 (by decide) (fun c9 => absurd (by decide) c9) (fun _ => ?_)
      have hps : PS D cs w _ (p4662) (tl) (er4663) (ns) dr bu g (N) (h) := ⟨hm, f4531, hP 0 _ rfl, e4531, by omega, (fun e9 => (fun e9 => (fun e9 => (fun e9 => v4531 ((fun e9 => (z4539 e9).1) e9)) ((fun e9 => (z4548 e9).1) e9)) ((fun e9 => (z4657 e9).1) e9)) ((fun e9 => (z4665 e9).1) e9))⟩
      exact en_v hx hb hr hlocks hL (Nat.zero_le _) (Nat.zero_le _) dX9_readLink_87 (⟨hT, hF, p4662, er4663, (by omega), (fun e9 => (fun e9 => (fun e9 => (fun e9 => id ((fun e9 => (z4539 e9).1) e9)) ((fun e9 => (z4548 e9).1) e9)) ((fun e9 => (z4657 e9).1) e9)) ((fun e9 => (z4665 e9).1) e9)), hps⟩)
theorem mX9_statement_1 : (.fieldLink RX9 53 "OneBeatModel" "position" "I" : Cond) ∈ wsX9_statement := List.mem_of_getElem? (i := 1) (by decide +kernel)
theorem iX9_statement_9 : ∀ w ∈ wsX90, w ∈ wsX9_statement := fun w h => List.mem_of_mem_drop (List.mem_of_mem_take ((show wsX90 = (wsX9_statement.drop 137).take 18 by decide +kernel) ▸ h))
theorem hdX9_once_v : yX9_once.cls = RX9 ∧ yX9_once.cls ≠ "java/lang/invoke/MethodHandle" ∧ yX9_once.cls ≠ "java/lang/invoke/VarHandle" ∧ (parseMethodDescriptor yX9_once.desc).map (fun d => d.parameters.length) = some 2 := by decide +kernel
theorem mX9_statement_2 : (.fieldLink RX9 24 "OneBeatModel" "draft" "[I" : Cond) ∈ wsX9_statement := List.mem_of_getElem? (i := 2) (by decide +kernel)
theorem hdX9_readLink_v : yX9_readLink.cls = RX9 ∧ yX9_readLink.cls ≠ "java/lang/invoke/MethodHandle" ∧ yX9_readLink.cls ≠ "java/lang/invoke/VarHandle" ∧ (parseMethodDescriptor yX9_readLink.desc).map (fun d => d.parameters.length) = some 0 := by decide +kernel
theorem hdX9_readClock_v : yX9_readClock.cls = RX9 ∧ yX9_readClock.cls ≠ "java/lang/invoke/MethodHandle" ∧ yX9_readClock.cls ≠ "java/lang/invoke/VarHandle" ∧ (parseMethodDescriptor yX9_readClock.desc).map (fun d => d.parameters.length) = some 0 := by decide +kernel
set_option maxHeartbeats 4000000 in
set_option maxRecDepth 100000 in
theorem c_X9_statement {l : Launch} {D : va_G} {cs : Nat → ClassId} {B0 T : Nat} {κ : KM} {H0 : Heap} (hT : WT B0 D cs T κ H0) {w : Nat} (hw : T2 κ w 10 12) {pos tl : Nat} {er : Int32} {dr bu : Nat} {g : Nat → Int32} {N h : Nat} (hbT : T2 κ bu 23 14) (hdT : T2 κ dr 26 17) (hps : PS D cs w H0 pos tl er 0 dr bu g N h) : KC l yX9_statement wsX9_statement 20 432 0 0 D cs B0 H0 [.ref w] (Qv (fun H => WT B0 D cs T κ H ∧ Fr B0 [12, 17] κ H0 H ∧ ∃ N1 h1 pos1 er1, pos ≤ pos1 ∧ (er1 = 0 → pos + 1 ≤ pos1) ∧ PS D cs w H pos1 tl er1 0 dr bu g N1 h1)) := by
  refine KC.of cX9_statement 2 none (by decide) rfl (Nat.le_of_ble_eq_true rfl) ?_
  intro p e s m below meth c ls hx hb hr hml hown hts hlocks hin hN hE hH0 hl
  have hown : s.vm.findClass RX9 = some m.cls := hown
  have hl : lv_has ls 2 [(0, .ref w)] := hl
  have hL : OkL B0 [] := OkL.nil
  have hF : Fr B0 [12, 17] κ H0 H0 := Fr.rf
  obtain ⟨hm, f4681, hd4681, e4681, n4681, v4681⟩ := hps
  have hm8 := hm.2.2.2.2.2.2.2
  have hbd : B0 ≤ dr := (hT.o26 hdT.1).1
  have hDR := hT.dr hdT hd4681
  have hP : va_P D vwCl [(dr, .inl (cs 0, 1383, .inl f4681))] _ := va_P.cons hd4681 va_P.nil
  refine lv_aload_n hx hb dX9_statement_0 rfl (lv_at hl 0 rfl) ?_
  refine cv_i (As := []) (rest := []) (b := w) ⟨hx, hb, hml, hown, hts⟩ (c_X9_ahead hT (w := w) hw hbT hdT hm) (cwV 0 hts gX9_statement_X9_ahead rfl rfl rfl hdX9_ahead_v ⟨Nat.le_of_ble_eq_true rfl, Nat.le_of_ble_eq_true rfl⟩) hN hE hL (rcv10 hN hT hw.1) rfl rfl hl.1 (Nat.le_of_ble_eq_true rfl) dX9_statement_1 (Nat.zero_le _) (Nat.zero_le _) (fun r4683 H1 locs hL hqr4683 => ?_)
  obtain ⟨hT1, hF1, hqr4683⟩ := hqr4683
  have hP : va_P D vwCl [(dr, .inl (cs 0, 1383, .inl f4681))] _ := hF1.hP (hP.sub [0] rfl) (fa_c ⟨by rw [hdT.1]; decide, by rw [hdT.2]; first | decide | (simp; done) | (simp; omega)⟩ fa_n)
  have hF := hF.tr (hF1.mono (by simp))
  have hT := hT1
  obtain ⟨p4684, h4685, m4686, n4687, s4688, rfl⟩ := hqr4683
  have hm := m4686
  have hm8 := hm.2.2.2.2.2.2.2
  refine lv_pop hx hb dX9_statement_4 rfl ?_
  refine lv_aload_n hx hb dX9_statement_5 rfl (lv_at hl 0 rfl) ?_
  obtain ⟨hb4689, e4689, hat4689, hk4689⟩ := hT.o10 hw.1
  obtain ⟨f4689_0, f4689_1, f4689_3, f4689_4, f4689_5, f4689_6, f4689_7, f4689_9, f4689_10, f4689_11, f4689_12, f4689_13, f4689_14, f4689_15, f4689_16, f4689_17, rfl, c4689_2, c4689_3, c4689_4, c4689_12, t4689_1, t4689_8, t4689_9, c4689_sd, t4689_10, t4689_11, t4689_17⟩ := hk4689
  obtain ⟨rfl, rfl, rfl, rfl, rfl, rfl⟩ := hm.at hat4689 c4689_3 (by omega)
  have hm8 := hm.2.2.2.2.2.2.2
  have hP : va_P D vwCl [(w, .inr (9, [.int f4689_0, .ref bu, .int (nI ((κ w).2.2.1)), .int (nI tl), .int (nI p4684), .int er, .int f4689_6, .int f4689_7, .ref (κ w).2.2.2, .ref f4689_9, .ref dr, .ref f4689_11, .int (nI f4689_12), .int f4689_13, .int 0, .int f4689_15, .int f4689_16, .ref f4689_17])), (dr, .inl (cs 0, 1383, .inl f4681))] _ := va_P.cons hat4689 hP
  refine va_get (D := D) (ci := 9) (v := .int (nI p4684)) (C := RX9) (T := TX9) (N := 18) hx hb hts iX9_statement_9 hown hN.1 hP 0 rfl rfl 4 (by decide) (hts _ mX9_statement_1) (fun _ h9 => h9) rfl dX9_statement_6 ?_
  refine lv_istore_n (lv' := [(1, .int (nI p4684)), (0, .ref w)]) hx hb dX9_statement_9 rfl hl (by decide) rfl (fun ls hl => ?_)
  refine lv_aload_n hx hb dX9_statement_10 rfl (lv_at hl 1 rfl) ?_
  refine va_ldcS hx hb hown (hN.s 20 rfl) dX9_statement_11 ?_
  refine cv_i (As := [.ref (cs 120)]) (rest := []) (b := w) ⟨hx, hb, hml, hown, hts⟩ (c_X9_takeWord hT (w := w) hw (i := 20) (by decide) hbT hdT hm) (cwV 1 hts gX9_statement_X9_takeWord rfl rfl rfl hdX9_takeWord_v ⟨Nat.le_of_ble_eq_true rfl, Nat.le_of_ble_eq_true rfl⟩) hN hE hL (rcv10 hN hT hw.1) rfl rfl hl.1 (Nat.le_of_ble_eq_true rfl) dX9_statement_13 (Nat.zero_le _) (Nat.zero_le _) (fun r4690 H1 locs hL hqr4690 => ?_)
  obtain ⟨hT1, hF1, hqr4690⟩ := hqr4690
  have hP : va_P D vwCl [(dr, .inl (cs 0, 1383, .inl f4681))] _ := hF1.hP (hP.sub [1] rfl) (fa_c ⟨by rw [hdT.1]; decide, by rw [hdT.2]; first | decide | (simp; done) | (simp; omega)⟩ fa_n)
  have hF := hF.tr (hF1.mono (by simp))
  have hT := hT1
  rcases hqr4690 with ⟨rfl, p4691, h4692, m4693⟩ | ⟨rfl, p4694, q4695, e4696, m4697⟩
  · have hm := m4693
    have hm8 := hm.2.2.2.2.2.2.2
    refine lv_if_eq (tgt := 26) hx hb dX9_statement_16 (by decide) (fun _ => ?_) (fun c9 => absurd (by decide) c9)
    refine lv_aload_n hx hb dX9_statement_26 rfl (lv_at hl 1 rfl) ?_
    refine va_ldcS hx hb hown (hN.s 21 rfl) dX9_statement_27 ?_
    refine cv_i (As := [.ref (cs 121)]) (rest := []) (b := w) ⟨hx, hb, hml, hown, hts⟩ (c_X9_takeWord hT (w := w) hw (i := 21) (by decide) hbT hdT hm) (cwV 1 hts gX9_statement_X9_takeWord rfl rfl rfl hdX9_takeWord_v ⟨Nat.le_of_ble_eq_true rfl, Nat.le_of_ble_eq_true rfl⟩) hN hE hL (rcv10 hN hT hw.1) rfl rfl hl.1 (Nat.le_of_ble_eq_true rfl) dX9_statement_29 (Nat.zero_le _) (Nat.zero_le _) (fun r4698 H1 locs hL hqr4698 => ?_)
    obtain ⟨hT1, hF1, hqr4698⟩ := hqr4698
    have hP : va_P D vwCl [(dr, .inl (cs 0, 1383, .inl f4681))] _ := hF1.hP (hP.sub [0] rfl) (fa_c ⟨by rw [hdT.1]; decide, by rw [hdT.2]; first | decide | (simp; done) | (simp; omega)⟩ fa_n)
    have hF := hF.tr (hF1.mono (by simp))
    have hT := hT1
    rcases hqr4698 with ⟨rfl, p4699, h4700, m4701⟩ | ⟨rfl, p4702, q4703, e4704, m4705⟩
    · have hm := m4701
      have hm8 := hm.2.2.2.2.2.2.2
      refine lv_if_eq (tgt := 42) hx hb dX9_statement_32 (by decide) (fun _ => ?_) (fun c9 => absurd (by decide) c9)
      refine lv_aload_n hx hb dX9_statement_42 rfl (lv_at hl 1 rfl) ?_
      refine va_ldcS hx hb hown (hN.s 22 rfl) dX9_statement_43 ?_
      refine cv_i (As := [.ref (cs 122)]) (rest := []) (b := w) ⟨hx, hb, hml, hown, hts⟩ (c_X9_takeWord hT (w := w) hw (i := 22) (by decide) hbT hdT hm) (cwV 1 hts gX9_statement_X9_takeWord rfl rfl rfl hdX9_takeWord_v ⟨Nat.le_of_ble_eq_true rfl, Nat.le_of_ble_eq_true rfl⟩) hN hE hL (rcv10 hN hT hw.1) rfl rfl hl.1 (Nat.le_of_ble_eq_true rfl) dX9_statement_45 (Nat.zero_le _) (Nat.zero_le _) (fun r4706 H1 locs hL hqr4706 => ?_)
      obtain ⟨hT1, hF1, hqr4706⟩ := hqr4706
      have hP : va_P D vwCl [(dr, .inl (cs 0, 1383, .inl f4681))] _ := hF1.hP (hP.sub [0] rfl) (fa_c ⟨by rw [hdT.1]; decide, by rw [hdT.2]; first | decide | (simp; done) | (simp; omega)⟩ fa_n)
      have hF := hF.tr (hF1.mono (by simp))
      have hT := hT1
      rcases hqr4706 with ⟨rfl, p4707, h4708, m4709⟩ | ⟨rfl, p4710, q4711, e4712, m4713⟩
      · have hm := m4709
        have hm8 := hm.2.2.2.2.2.2.2
        refine lv_if_eq (tgt := 78) hx hb dX9_statement_48 (by decide) (fun _ => ?_) (fun c9 => absurd (by decide) c9)
        refine lv_aload_n hx hb dX9_statement_78 rfl (lv_at hl 1 rfl) ?_
        refine va_ldcS hx hb hown (hN.s 23 rfl) dX9_statement_79 ?_
        refine cv_i (As := [.ref (cs 123)]) (rest := []) (b := w) ⟨hx, hb, hml, hown, hts⟩ (c_X9_takeWord hT (w := w) hw (i := 23) (by decide) hbT hdT hm) (cwV 1 hts gX9_statement_X9_takeWord rfl rfl rfl hdX9_takeWord_v ⟨Nat.le_of_ble_eq_true rfl, Nat.le_of_ble_eq_true rfl⟩) hN hE hL (rcv10 hN hT hw.1) rfl rfl hl.1 (Nat.le_of_ble_eq_true rfl) dX9_statement_81 (Nat.zero_le _) (Nat.zero_le _) (fun r4714 H1 locs hL hqr4714 => ?_)
        obtain ⟨hT1, hF1, hqr4714⟩ := hqr4714
        have hP : va_P D vwCl [(dr, .inl (cs 0, 1383, .inl f4681))] _ := hF1.hP (hP.sub [0] rfl) (fa_c ⟨by rw [hdT.1]; decide, by rw [hdT.2]; first | decide | (simp; done) | (simp; omega)⟩ fa_n)
        have hF := hF.tr (hF1.mono (by simp))
        have hT := hT1
        rcases hqr4714 with ⟨rfl, p4715, h4716, m4717⟩ | ⟨rfl, p4718, q4719, e4720, m4721⟩
        · have hm := m4717
          have hm8 := hm.2.2.2.2.2.2.2
          refine lv_if_eq (tgt := 111) hx hb dX9_statement_84 (by decide) (fun _ => ?_) (fun c9 => absurd (by decide) c9)
          refine lv_aload_n hx hb dX9_statement_111 rfl (lv_at hl 1 rfl) ?_
          refine va_ldcS hx hb hown (hN.s 24 rfl) dX9_statement_112 ?_
          refine cv_i (As := [.ref (cs 124)]) (rest := []) (b := w) ⟨hx, hb, hml, hown, hts⟩ (c_X9_takeWord hT (w := w) hw (i := 24) (by decide) hbT hdT hm) (cwV 1 hts gX9_statement_X9_takeWord rfl rfl rfl hdX9_takeWord_v ⟨Nat.le_of_ble_eq_true rfl, Nat.le_of_ble_eq_true rfl⟩) hN hE hL (rcv10 hN hT hw.1) rfl rfl hl.1 (Nat.le_of_ble_eq_true rfl) dX9_statement_114 (Nat.zero_le _) (Nat.zero_le _) (fun r4722 H1 locs hL hqr4722 => ?_)
          obtain ⟨hT1, hF1, hqr4722⟩ := hqr4722
          have hP : va_P D vwCl [(dr, .inl (cs 0, 1383, .inl f4681))] _ := hF1.hP (hP.sub [0] rfl) (fa_c ⟨by rw [hdT.1]; decide, by rw [hdT.2]; first | decide | (simp; done) | (simp; omega)⟩ fa_n)
          have hF := hF.tr (hF1.mono (by simp))
          have hT := hT1
          rcases hqr4722 with ⟨rfl, p4723, h4724, m4725⟩ | ⟨rfl, p4726, q4727, e4728, m4729⟩
          · have hm := m4725
            have hm8 := hm.2.2.2.2.2.2.2
            refine lv_if_eq (tgt := 141) hx hb dX9_statement_117 (by decide) (fun _ => ?_) (fun c9 => absurd (by decide) c9)
            refine lv_aload_n hx hb dX9_statement_141 rfl (lv_at hl 1 rfl) ?_
            refine lv_bipush (v := (-2)) hx hb dX9_statement_142 (by decide) ?_
            refine lv_iload_n hx hb dX9_statement_144 rfl (lv_at hl 0 rfl) ?_
            refine cv_v (As := [.int (-2), .int (nI p4684)]) (rest := []) (b := w) ⟨hx, hb, hml, hown, hts⟩ (c_X9_report hT (w := w) hw (x := (-2)) (y := (nI p4684)) hbT hdT hm ((by decide))) (cwV 2 hts gX9_statement_X9_report rfl rfl rfl hdX9_report_v ⟨Nat.le_of_ble_eq_true rfl, Nat.le_of_ble_eq_true rfl⟩) hN hE hL (rcv10 hN hT hw.1) rfl rfl hl.1 (Nat.le_of_ble_eq_true rfl) dX9_statement_145 (Nat.zero_le _) (Nat.zero_le _) (fun H1 locs hL hqr4730 => ?_)
            obtain ⟨hT1, hF1, hqr4730⟩ := hqr4730
            have hP : va_P D vwCl [(dr, .inl (cs 0, 1383, .inl f4681))] _ := hF1.hP (hP.sub [0] rfl) (fa_c ⟨by rw [hdT.1]; decide, by rw [hdT.2]; first | decide | (simp; done) | (simp; omega)⟩ fa_n)
            have hF := hF.tr (hF1.mono (by simp))
            have hT := hT1
            obtain ⟨er4731, z4732, m4733⟩ := hqr4730
            have hm := m4733
            have hm8 := hm.2.2.2.2.2.2.2
            have hzt : er4731 = 0 → pos + 1 ≤ p4723 := (fun e9 => absurd e9 z4732)
            refine lv_aload_n hx hb dX9_statement_148 rfl (lv_at hl 1 rfl) ?_
            refine lv_bipush (v := 59) hx hb dX9_statement_149 (by decide) ?_
            refine cv_v (As := [.int 59]) (rest := []) (b := w) ⟨hx, hb, hml, hown, hts⟩ (c_X9_expect hT (w := w) hw (x := 59) hbT hdT hm ((by decide))) (cwV 1 hts gX9_statement_X9_expect rfl rfl rfl hdX9_expect_v ⟨Nat.le_of_ble_eq_true rfl, Nat.le_of_ble_eq_true rfl⟩) hN hE hL (rcv10 hN hT hw.1) rfl rfl hl.1 (Nat.le_of_ble_eq_true rfl) dX9_statement_151 (Nat.zero_le _) (Nat.zero_le _) (fun H1 locs hL hqr4734 => ?_)
            obtain ⟨hT1, hF1, hqr4734⟩ := hqr4734
            have hP : va_P D vwCl [(dr, .inl (cs 0, 1383, .inl f4681))] _ := hF1.hP (hP.sub [0] rfl) (fa_c ⟨by rw [hdT.1]; decide, by rw [hdT.2]; first | decide | (simp; done) | (simp; omega)⟩ fa_n)
            have hF := hF.tr (hF1.mono (by simp))
            have hT := hT1
            obtain ⟨p4735, er4736, a4737, z4738, m4739⟩ := hqr4734
            have hm := m4739
            have hm8 := hm.2.2.2.2.2.2.2
            have hps : PS D cs w _ (p4735) (tl) (er4736) (0) dr bu g (N) (h) := ⟨hm, f4681, hP 0 _ rfl, e4681, by omega, (fun e9 => (fun e9 => absurd e9 z4732) (z4738 e9))⟩
            exact en_v hx hb hr hlocks hL (Nat.zero_le _) (Nat.zero_le _) dX9_statement_154 (⟨hT, hF, N, h, p4735, er4736, (by omega), (fun e9 => by have h9 := hzt (z4738 e9); omega), hps⟩)
          · have hm := m4729
            have hm8 := hm.2.2.2.2.2.2.2
            refine lv_if_eq (tgt := 141) hx hb dX9_statement_117 (by decide) (fun c9 => absurd c9 (by decide)) (fun _ => ?_)
            refine lv_aload_n hx hb dX9_statement_120 rfl (lv_at hl 1 rfl) ?_
            refine lv_iconst (v := 2) hx hb dX9_statement_121 (by decide) ?_
            refine lv_iload_n hx hb dX9_statement_122 rfl (lv_at hl 0 rfl) ?_
            refine cv_v (As := [.int 2, .int (nI p4684)]) (rest := []) (b := w) ⟨hx, hb, hml, hown, hts⟩ (c_X9_once hT (w := w) hw (x := 2) (y := (nI p4684)) hbT hdT hm) (cwV 2 hts gX9_statement_X9_once rfl rfl rfl hdX9_once_v ⟨Nat.le_of_ble_eq_true rfl, Nat.le_of_ble_eq_true rfl⟩) hN hE hL (rcv10 hN hT hw.1) rfl rfl hl.1 (Nat.le_of_ble_eq_true rfl) dX9_statement_123 (Nat.zero_le _) (Nat.zero_le _) (fun H1 locs hL hqr4740 => ?_)
            obtain ⟨hT1, hF1, hqr4740⟩ := hqr4740
            have hP : va_P D vwCl [(dr, .inl (cs 0, 1383, .inl f4681))] _ := hF1.hP (hP.sub [0] rfl) (fa_c ⟨by rw [hdT.1]; decide, by rw [hdT.2]; first | decide | (simp; done) | (simp; omega)⟩ fa_n)
            have hF := hF.tr (hF1.mono (by simp))
            have hT := hT1
            obtain ⟨er4741, z4742, m4743⟩ := hqr4740
            have hm := m4743
            have hm8 := hm.2.2.2.2.2.2.2
            refine lv_aload_n hx hb dX9_statement_126 rfl (lv_at hl 1 rfl) ?_
            obtain ⟨hb4744, e4744, hat4744, hk4744⟩ := hT.o10 hw.1
            obtain ⟨f4744_0, f4744_1, f4744_3, f4744_4, f4744_5, f4744_6, f4744_7, f4744_9, f4744_10, f4744_11, f4744_12, f4744_13, f4744_14, f4744_15, f4744_16, f4744_17, rfl, c4744_2, c4744_3, c4744_4, c4744_12, t4744_1, t4744_8, t4744_9, c4744_sd, t4744_10, t4744_11, t4744_17⟩ := hk4744
            obtain ⟨rfl, rfl, rfl, rfl, rfl, rfl⟩ := hm.at hat4744 c4744_3 (by omega)
            have hm8 := hm.2.2.2.2.2.2.2
            have hP : va_P D vwCl [(w, .inr (9, [.int f4744_0, .ref bu, .int (nI ((κ w).2.2.1)), .int (nI tl), .int (nI p4726), .int er4741, .int f4744_6, .int f4744_7, .ref (κ w).2.2.2, .ref f4744_9, .ref dr, .ref f4744_11, .int (nI f4744_12), .int f4744_13, .int 0, .int f4744_15, .int f4744_16, .ref f4744_17])), (dr, .inl (cs 0, 1383, .inl f4681))] _ := va_P.cons hat4744 hP
            refine va_get (D := D) (ci := 9) (v := .ref dr) (C := RX9) (T := TX9) (N := 18) hx hb hts iX9_statement_9 hown hN.1 hP 0 rfl rfl 10 (by decide) (hts _ mX9_statement_2) (fun _ h9 => h9) rfl dX9_statement_127 ?_
            refine lv_bipush (v := 13) hx hb dX9_statement_130 (by decide) ?_
            refine lv_iconst (v := 1) hx hb dX9_statement_132 (by decide) ?_
            have hB : Bx B0 D _ [(w, .inr (9, [.int f4744_0, .ref bu, .int (nI ((κ w).2.2.1)), .int (nI tl), .int (nI p4726), .int er4741, .int f4744_6, .int f4744_7, .ref (κ w).2.2.2, .ref f4744_9, .ref dr, .ref f4744_11, .int (nI f4744_12), .int f4744_13, .int 0, .int f4744_15, .int f4744_16, .ref f4744_17])), (dr, .inl (cs 0, 1383, .inl f4681))] [] _ _ := Bx.of (fun a => (κ a).1) hL hP (fa_c hb4744 (fa_c hbd fa_n)) (by simp only [List.map_cons, List.map_nil, hw.1, hdT.1]; decide)
            refine b_i hx hb hN hB 1 rfl (vp_in_nI (n := 13) (N := 1383) (by omega) (by omega)) (.inl rfl) dX9_statement_133 (fun H locs hB => ?_)
            rw [(show (13 : Int32).toNatClampNeg = 13 from nI_clamp (n := 13) (by omega))] at hB
            have hB : Bx B0 D _ [(w, .inr (9, [.int f4744_0, .ref bu, .int (nI ((κ w).2.2.1)), .int (nI tl), .int (nI p4726), .int er4741, .int f4744_6, .int f4744_7, .ref (κ w).2.2.2, .ref f4744_9, .ref dr, .ref f4744_11, .int (nI f4744_12), .int f4744_13, .int 0, .int f4744_15, .int f4744_16, .ref f4744_17])), (dr, .inl (cs 0, 1383, .inl (upd f4681 13 1)))] [dr] _ _ := hB
            have z4745 := DRK.sf hDR (k := 13) (by omega) (x := 1)
            have e4746 := (pk_un (f := f4681) (x := 1) (show 14 ≠ 13 by omega)).trans e4681
            refine lv_aload_n hx hb dX9_statement_134 rfl (lv_at hl 1 rfl) ?_
            have hT : WT B0 D cs T κ _ := hT.close hB ⟨⟨1, _, rfl, ok_26 hdT.1 ⟨_, rfl, z4745⟩⟩, trivial⟩
            have hF : Fr B0 [12, 17] κ H0 _ := hF.close hB (fa_c (by simp [hdT.2]) fa_n)
            have hL : OkL B0 _ := hB.2.2.2.2.2
            have hP : va_P D vwCl [(w, .inr (9, [.int f4744_0, .ref bu, .int (nI ((κ w).2.2.1)), .int (nI tl), .int (nI p4726), .int er4741, .int f4744_6, .int f4744_7, .ref (κ w).2.2.2, .ref f4744_9, .ref dr, .ref f4744_11, .int (nI f4744_12), .int f4744_13, .int 0, .int f4744_15, .int f4744_16, .ref f4744_17])), (dr, .inl (cs 0, 1383, .inl (upd f4681 13 1)))] _ := hB.1
            have hm := hm.kp hB (by simp only [List.mem_cons, List.not_mem_nil, or_false, not_or]; exact ne_c hbT.1 hdT.1 (by decide)) (by simp only [List.mem_cons, List.not_mem_nil, or_false, not_or]; exact ne_c hw.1 hdT.1 (by decide))
            have hps : PS D cs w _ (p4726) (tl) (er4741) (0) dr bu g (N) (h) := ⟨hm, (upd f4681 13 1), hP 1 _ rfl, e4746, by omega, (CVu (by omega) (fun e9 => v4681 (z4742 e9)))⟩
            refine cv_v (As := []) (rest := []) (b := w) ⟨hx, hb, hml, hown, hts⟩ (c_X9_readSum_d0 hT (w := w) hw hbT hdT hps) (cwV 0 hts gX9_statement_X9_readSum rfl rfl rfl hdX9_readSum_v ⟨Nat.le_of_ble_eq_true rfl, Nat.le_of_ble_eq_true rfl⟩) hN hE hL (rcv10 hN hT hw.1) rfl rfl hl.1 (Nat.le_of_ble_eq_true rfl) dX9_statement_135 (Nat.zero_le _) (Nat.zero_le _) (fun H1 locs hL hqr4747 => ?_)
            obtain ⟨hT1, hF1, hqr4747⟩ := hqr4747
            have hF := hF.tr (hF1.mono (by simp))
            have hT := hT1
            obtain ⟨N4748, p4749, er4750, a4751, b4752, z4753, m4754, f4755, d4756, e4757, n4758, v4759⟩ := hqr4747
            have hm := m4754
            have hm8 := hm.2.2.2.2.2.2.2
            have hbd : B0 ≤ dr := (hT.o26 hdT.1).1
            have hDR := hT.dr hdT d4756
            have hP : va_P D vwCl [(dr, .inl (cs 0, 1383, .inl f4755))] _ := va_P.cons d4756 va_P.nil
            refine lv_goto (tgt := 148) hx hb dX9_statement_138 (by decide) ?_
            have hzt : er4750 = 0 → pos + 1 ≤ p4749 := (fun _ => by omega)
            refine lv_aload_n hx hb dX9_statement_148 rfl (lv_at hl 1 rfl) ?_
            refine lv_bipush (v := 59) hx hb dX9_statement_149 (by decide) ?_
            refine cv_v (As := [.int 59]) (rest := []) (b := w) ⟨hx, hb, hml, hown, hts⟩ (c_X9_expect hT (w := w) hw (x := 59) hbT hdT hm ((by decide))) (cwV 1 hts gX9_statement_X9_expect rfl rfl rfl hdX9_expect_v ⟨Nat.le_of_ble_eq_true rfl, Nat.le_of_ble_eq_true rfl⟩) hN hE hL (rcv10 hN hT hw.1) rfl rfl hl.1 (Nat.le_of_ble_eq_true rfl) dX9_statement_151 (Nat.zero_le _) (Nat.zero_le _) (fun H1 locs hL hqr4761 => ?_)
            obtain ⟨hT1, hF1, hqr4761⟩ := hqr4761
            have hP : va_P D vwCl [(dr, .inl (cs 0, 1383, .inl f4755))] _ := hF1.hP (hP.sub [0] rfl) (fa_c ⟨by rw [hdT.1]; decide, by rw [hdT.2]; first | decide | (simp; done) | (simp; omega)⟩ fa_n)
            have hF := hF.tr (hF1.mono (by simp))
            have hT := hT1
            obtain ⟨p4762, er4763, a4764, z4765, m4766⟩ := hqr4761
            have hm := m4766
            have hm8 := hm.2.2.2.2.2.2.2
            have hps : PS D cs w _ (p4762) (tl) (er4763) (0) dr bu g (N4748) ((h + 1)) := ⟨hm, f4755, hP 0 _ rfl, e4757, by omega, (fun e9 => v4759 (z4765 e9))⟩
            exact en_v hx hb hr hlocks hL (Nat.zero_le _) (Nat.zero_le _) dX9_statement_154 (⟨hT, hF, N4748, (h + 1), p4762, er4763, (by omega), (fun e9 => by have h9 := hzt (z4765 e9); omega), hps⟩)
        · have hm := m4721
          have hm8 := hm.2.2.2.2.2.2.2
          refine lv_if_eq (tgt := 111) hx hb dX9_statement_84 (by decide) (fun c9 => absurd c9 (by decide)) (fun _ => ?_)
          refine lv_aload_n hx hb dX9_statement_87 rfl (lv_at hl 1 rfl) ?_
          refine lv_iconst (v := 1) hx hb dX9_statement_88 (by decide) ?_
          refine lv_iload_n hx hb dX9_statement_89 rfl (lv_at hl 0 rfl) ?_
          refine cv_v (As := [.int 1, .int (nI p4684)]) (rest := []) (b := w) ⟨hx, hb, hml, hown, hts⟩ (c_X9_once hT (w := w) hw (x := 1) (y := (nI p4684)) hbT hdT hm) (cwV 2 hts gX9_statement_X9_once rfl rfl rfl hdX9_once_v ⟨Nat.le_of_ble_eq_true rfl, Nat.le_of_ble_eq_true rfl⟩) hN hE hL (rcv10 hN hT hw.1) rfl rfl hl.1 (Nat.le_of_ble_eq_true rfl) dX9_statement_90 (Nat.zero_le _) (Nat.zero_le _) (fun H1 locs hL hqr4767 => ?_)
          obtain ⟨hT1, hF1, hqr4767⟩ := hqr4767
          have hP : va_P D vwCl [(dr, .inl (cs 0, 1383, .inl f4681))] _ := hF1.hP (hP.sub [0] rfl) (fa_c ⟨by rw [hdT.1]; decide, by rw [hdT.2]; first | decide | (simp; done) | (simp; omega)⟩ fa_n)
          have hF := hF.tr (hF1.mono (by simp))
          have hT := hT1
          obtain ⟨er4768, z4769, m4770⟩ := hqr4767
          have hm := m4770
          have hm8 := hm.2.2.2.2.2.2.2
          refine lv_aload_n hx hb dX9_statement_93 rfl (lv_at hl 1 rfl) ?_
          obtain ⟨hb4771, e4771, hat4771, hk4771⟩ := hT.o10 hw.1
          obtain ⟨f4771_0, f4771_1, f4771_3, f4771_4, f4771_5, f4771_6, f4771_7, f4771_9, f4771_10, f4771_11, f4771_12, f4771_13, f4771_14, f4771_15, f4771_16, f4771_17, rfl, c4771_2, c4771_3, c4771_4, c4771_12, t4771_1, t4771_8, t4771_9, c4771_sd, t4771_10, t4771_11, t4771_17⟩ := hk4771
          obtain ⟨rfl, rfl, rfl, rfl, rfl, rfl⟩ := hm.at hat4771 c4771_3 (by omega)
          have hm8 := hm.2.2.2.2.2.2.2
          have hP : va_P D vwCl [(w, .inr (9, [.int f4771_0, .ref bu, .int (nI ((κ w).2.2.1)), .int (nI tl), .int (nI p4718), .int er4768, .int f4771_6, .int f4771_7, .ref (κ w).2.2.2, .ref f4771_9, .ref dr, .ref f4771_11, .int (nI f4771_12), .int f4771_13, .int 0, .int f4771_15, .int f4771_16, .ref f4771_17])), (dr, .inl (cs 0, 1383, .inl f4681))] _ := va_P.cons hat4771 hP
          refine va_get (D := D) (ci := 9) (v := .ref dr) (C := RX9) (T := TX9) (N := 18) hx hb hts iX9_statement_9 hown hN.1 hP 0 rfl rfl 10 (by decide) (hts _ mX9_statement_2) (fun _ h9 => h9) rfl dX9_statement_94 ?_
          refine lv_bipush (v := 12) hx hb dX9_statement_97 (by decide) ?_
          refine lv_aload_n hx hb dX9_statement_99 rfl (lv_at hl 1 rfl) ?_
          refine lv_iconst (v := 1) hx hb dX9_statement_100 (by decide) ?_
          refine lv_sipush (v := 200) hx hb dX9_statement_101 (by decide) ?_
          refine cv_i (As := [.int 1, .int 200]) (rest := [.int 12, .ref dr]) (b := w) ⟨hx, hb, hml, hown, hts⟩ (c_X9_number hT (w := w) hw (x := 1) (y := 200) hbT hdT hm) (cwV 2 hts gX9_statement_X9_number rfl rfl rfl hdX9_number_v ⟨Nat.le_of_ble_eq_true rfl, Nat.le_of_ble_eq_true rfl⟩) hN hE hL (rcv10 hN hT hw.1) rfl rfl hl.1 (Nat.le_of_ble_eq_true rfl) dX9_statement_104 (Nat.zero_le _) (Nat.zero_le _) (fun r4772 H1 locs hL hqr4772 => ?_)
          obtain ⟨hT1, hF1, hqr4772⟩ := hqr4772
          have hP : va_P D vwCl [(dr, .inl (cs 0, 1383, .inl f4681))] _ := hF1.hP (hP.sub [1] rfl) (fa_c ⟨by rw [hdT.1]; decide, by rw [hdT.2]; first | decide | (simp; done) | (simp; omega)⟩ fa_n)
          have hF := hF.tr (hF1.mono (by simp))
          have hT := hT1
          obtain ⟨p4773, er4774, a4775, z4776, m4777, q4778⟩ := hqr4772
          have hm := m4777
          have hm8 := hm.2.2.2.2.2.2.2
          have hB : Bx B0 D _ [(dr, .inl (cs 0, 1383, .inl f4681))] [] _ _ := Bx.of (fun a => (κ a).1) hL hP (fa_c hbd fa_n) (by simp only [List.map_cons, List.map_nil, hdT.1]; decide)
          refine b_i hx hb hN hB 0 rfl (vp_in_nI (n := 12) (N := 1383) (by omega) (by omega)) (.inl rfl) dX9_statement_107 (fun H locs hB => ?_)
          rw [(show (12 : Int32).toNatClampNeg = 12 from nI_clamp (n := 12) (by omega))] at hB
          have hB : Bx B0 D _ [(dr, .inl (cs 0, 1383, .inl (upd f4681 12 r4772)))] [dr] _ _ := hB
          have z4779 := DRK.sf hDR (k := 12) (by omega) (x := r4772)
          have e4780 := (pk_un (f := f4681) (x := r4772) (show 14 ≠ 12 by omega)).trans e4681
          refine lv_goto (tgt := 148) hx hb dX9_statement_108 (by decide) ?_
          have hzt : er4774 = 0 → pos + 1 ≤ p4773 := (fun _ => by omega)
          refine lv_aload_n hx hb dX9_statement_148 rfl (lv_at hl 1 rfl) ?_
          refine lv_bipush (v := 59) hx hb dX9_statement_149 (by decide) ?_
          have hT : WT B0 D cs T κ _ := hT.close hB ⟨⟨0, _, rfl, ok_26 hdT.1 ⟨_, rfl, z4779⟩⟩, trivial⟩
          have hF : Fr B0 [12, 17] κ H0 _ := hF.close hB (fa_c (by simp [hdT.2]) fa_n)
          have hL : OkL B0 _ := hB.2.2.2.2.2
          have hP : va_P D vwCl [(dr, .inl (cs 0, 1383, .inl (upd f4681 12 r4772)))] _ := hB.1
          have hm := hm.kp hB (by simp only [List.mem_cons, List.not_mem_nil, or_false, not_or]; exact ne_c hbT.1 hdT.1 (by decide)) (by simp only [List.mem_cons, List.not_mem_nil, or_false, not_or]; exact ne_c hw.1 hdT.1 (by decide))
          refine cv_v (As := [.int 59]) (rest := []) (b := w) ⟨hx, hb, hml, hown, hts⟩ (c_X9_expect hT (w := w) hw (x := 59) hbT hdT hm ((by decide))) (cwV 1 hts gX9_statement_X9_expect rfl rfl rfl hdX9_expect_v ⟨Nat.le_of_ble_eq_true rfl, Nat.le_of_ble_eq_true rfl⟩) hN hE hL (rcv10 hN hT hw.1) rfl rfl hl.1 (Nat.le_of_ble_eq_true rfl) dX9_statement_151 (Nat.zero_le _) (Nat.zero_le _) (fun H1 locs hL hqr4781 => ?_)
          obtain ⟨hT1, hF1, hqr4781⟩ := hqr4781
          have hP : va_P D vwCl [(dr, .inl (cs 0, 1383, .inl (upd f4681 12 r4772)))] _ := hF1.hP (hP.sub [0] rfl) (fa_c ⟨by rw [hdT.1]; decide, by rw [hdT.2]; first | decide | (simp; done) | (simp; omega)⟩ fa_n)
          have hF := hF.tr (hF1.mono (by simp))
          have hT := hT1
          obtain ⟨p4782, er4783, a4784, z4785, m4786⟩ := hqr4781
          have hm := m4786
          have hm8 := hm.2.2.2.2.2.2.2
          have hps : PS D cs w _ (p4782) (tl) (er4783) (0) dr bu g (N) (h) := ⟨hm, (upd f4681 12 r4772), hP 0 _ rfl, e4780, by omega, (fun e9 => (CVu (by omega) (fun e9 => (fun e9 => v4681 (z4769 e9)) ((fun e9 => (z4776 e9).1) e9))) (z4785 e9))⟩
          exact en_v hx hb hr hlocks hL (Nat.zero_le _) (Nat.zero_le _) dX9_statement_154 (⟨hT, hF, N, h, p4782, er4783, (by omega), (fun e9 => by have h9 := hzt (z4785 e9); omega), hps⟩)
      · have hm := m4713
        have hm8 := hm.2.2.2.2.2.2.2
        refine lv_if_eq (tgt := 78) hx hb dX9_statement_48 (by decide) (fun c9 => absurd c9 (by decide)) (fun _ => ?_)
        refine lv_aload_n hx hb dX9_statement_51 rfl (lv_at hl 1 rfl) ?_
        refine lv_iconst (v := 0) hx hb dX9_statement_52 (by decide) ?_
        refine lv_iload_n hx hb dX9_statement_53 rfl (lv_at hl 0 rfl) ?_
        refine cv_v (As := [.int 0, .int (nI p4684)]) (rest := []) (b := w) ⟨hx, hb, hml, hown, hts⟩ (c_X9_once hT (w := w) hw (x := 0) (y := (nI p4684)) hbT hdT hm) (cwV 2 hts gX9_statement_X9_once rfl rfl rfl hdX9_once_v ⟨Nat.le_of_ble_eq_true rfl, Nat.le_of_ble_eq_true rfl⟩) hN hE hL (rcv10 hN hT hw.1) rfl rfl hl.1 (Nat.le_of_ble_eq_true rfl) dX9_statement_54 (Nat.zero_le _) (Nat.zero_le _) (fun H1 locs hL hqr4787 => ?_)
        obtain ⟨hT1, hF1, hqr4787⟩ := hqr4787
        have hP : va_P D vwCl [(dr, .inl (cs 0, 1383, .inl f4681))] _ := hF1.hP (hP.sub [0] rfl) (fa_c ⟨by rw [hdT.1]; decide, by rw [hdT.2]; first | decide | (simp; done) | (simp; omega)⟩ fa_n)
        have hF := hF.tr (hF1.mono (by simp))
        have hT := hT1
        obtain ⟨er4788, z4789, m4790⟩ := hqr4787
        have hm := m4790
        have hm8 := hm.2.2.2.2.2.2.2
        refine lv_aload_n hx hb dX9_statement_57 rfl (lv_at hl 1 rfl) ?_
        obtain ⟨hb4791, e4791, hat4791, hk4791⟩ := hT.o10 hw.1
        obtain ⟨f4791_0, f4791_1, f4791_3, f4791_4, f4791_5, f4791_6, f4791_7, f4791_9, f4791_10, f4791_11, f4791_12, f4791_13, f4791_14, f4791_15, f4791_16, f4791_17, rfl, c4791_2, c4791_3, c4791_4, c4791_12, t4791_1, t4791_8, t4791_9, c4791_sd, t4791_10, t4791_11, t4791_17⟩ := hk4791
        obtain ⟨rfl, rfl, rfl, rfl, rfl, rfl⟩ := hm.at hat4791 c4791_3 (by omega)
        have hm8 := hm.2.2.2.2.2.2.2
        have hP : va_P D vwCl [(w, .inr (9, [.int f4791_0, .ref bu, .int (nI ((κ w).2.2.1)), .int (nI tl), .int (nI p4710), .int er4788, .int f4791_6, .int f4791_7, .ref (κ w).2.2.2, .ref f4791_9, .ref dr, .ref f4791_11, .int (nI f4791_12), .int f4791_13, .int 0, .int f4791_15, .int f4791_16, .ref f4791_17])), (dr, .inl (cs 0, 1383, .inl f4681))] _ := va_P.cons hat4791 hP
        refine va_get (D := D) (ci := 9) (v := .ref dr) (C := RX9) (T := TX9) (N := 18) hx hb hts iX9_statement_9 hown hN.1 hP 0 rfl rfl 10 (by decide) (hts _ mX9_statement_2) (fun _ h9 => h9) rfl dX9_statement_58 ?_
        refine lv_bipush (v := 11) hx hb dX9_statement_61 (by decide) ?_
        refine lv_aload_n hx hb dX9_statement_63 rfl (lv_at hl 1 rfl) ?_
        refine lv_iconst (v := 1) hx hb dX9_statement_64 (by decide) ?_
        refine lv_aload_n hx hb dX9_statement_65 rfl (lv_at hl 1 rfl) ?_
        refine va_get (D := D) (ci := 9) (v := .ref dr) (C := RX9) (T := TX9) (N := 18) hx hb hts iX9_statement_9 hown hN.1 hP 0 rfl rfl 10 (by decide) (hts _ mX9_statement_2) (fun _ h9 => h9) rfl dX9_statement_66 ?_
        refine lv_iconst (v := 0) hx hb dX9_statement_69 (by decide) ?_
        refine ld_i (v := (f4681 0)) hx hb hN hP 1 rfl (vp_in_nI (n := 0) (N := 1383) (by omega) (by omega)) (by rw [(show (0 : Int32).toNatClampNeg = 0 from nI_clamp (n := 0) (by omega))]) dX9_statement_70 ?_
        obtain ⟨n4792, hn4792, en4792⟩ := hDR.1
        refine tp_i (nI n4792) en4792 ?_
        refine cv_i (As := [.int 1, .int (nI n4792)]) (rest := [.int 11, .ref dr]) (b := w) ⟨hx, hb, hml, hown, hts⟩ (c_X9_number hT (w := w) hw (x := 1) (y := (nI n4792)) hbT hdT hm) (cwV 2 hts gX9_statement_X9_number rfl rfl rfl hdX9_number_v ⟨Nat.le_of_ble_eq_true rfl, Nat.le_of_ble_eq_true rfl⟩) hN hE hL (rcv10 hN hT hw.1) rfl rfl hl.1 (Nat.le_of_ble_eq_true rfl) dX9_statement_71 (Nat.zero_le _) (Nat.zero_le _) (fun r4793 H1 locs hL hqr4793 => ?_)
        obtain ⟨hT1, hF1, hqr4793⟩ := hqr4793
        have hP : va_P D vwCl [(dr, .inl (cs 0, 1383, .inl f4681))] _ := hF1.hP (hP.sub [1] rfl) (fa_c ⟨by rw [hdT.1]; decide, by rw [hdT.2]; first | decide | (simp; done) | (simp; omega)⟩ fa_n)
        have hF := hF.tr (hF1.mono (by simp))
        have hT := hT1
        obtain ⟨p4794, er4795, a4796, z4797, m4798, q4799⟩ := hqr4793
        have hm := m4798
        have hm8 := hm.2.2.2.2.2.2.2
        have hB : Bx B0 D _ [(dr, .inl (cs 0, 1383, .inl f4681))] [] _ _ := Bx.of (fun a => (κ a).1) hL hP (fa_c hbd fa_n) (by simp only [List.map_cons, List.map_nil, hdT.1]; decide)
        refine b_i hx hb hN hB 0 rfl (vp_in_nI (n := 11) (N := 1383) (by omega) (by omega)) (.inl rfl) dX9_statement_74 (fun H locs hB => ?_)
        rw [(show (11 : Int32).toNatClampNeg = 11 from nI_clamp (n := 11) (by omega))] at hB
        have hB : Bx B0 D _ [(dr, .inl (cs 0, 1383, .inl (upd f4681 11 r4793)))] [dr] _ _ := hB
        have z4800 := DRK.sf hDR (k := 11) (by omega) (x := r4793)
        have e4801 := (pk_un (f := f4681) (x := r4793) (show 14 ≠ 11 by omega)).trans e4681
        have e4802 := (pk_un (f := f4681) (x := r4793) (show 0 ≠ 11 by omega)).trans en4792
        refine lv_goto (tgt := 148) hx hb dX9_statement_75 (by decide) ?_
        have hzt : er4795 = 0 → pos + 1 ≤ p4794 := (fun _ => by omega)
        refine lv_aload_n hx hb dX9_statement_148 rfl (lv_at hl 1 rfl) ?_
        refine lv_bipush (v := 59) hx hb dX9_statement_149 (by decide) ?_
        have hT : WT B0 D cs T κ _ := hT.close hB ⟨⟨0, _, rfl, ok_26 hdT.1 ⟨_, rfl, z4800⟩⟩, trivial⟩
        have hF : Fr B0 [12, 17] κ H0 _ := hF.close hB (fa_c (by simp [hdT.2]) fa_n)
        have hL : OkL B0 _ := hB.2.2.2.2.2
        have hP : va_P D vwCl [(dr, .inl (cs 0, 1383, .inl (upd f4681 11 r4793)))] _ := hB.1
        have hm := hm.kp hB (by simp only [List.mem_cons, List.not_mem_nil, or_false, not_or]; exact ne_c hbT.1 hdT.1 (by decide)) (by simp only [List.mem_cons, List.not_mem_nil, or_false, not_or]; exact ne_c hw.1 hdT.1 (by decide))
        refine cv_v (As := [.int 59]) (rest := []) (b := w) ⟨hx, hb, hml, hown, hts⟩ (c_X9_expect hT (w := w) hw (x := 59) hbT hdT hm ((by decide))) (cwV 1 hts gX9_statement_X9_expect rfl rfl rfl hdX9_expect_v ⟨Nat.le_of_ble_eq_true rfl, Nat.le_of_ble_eq_true rfl⟩) hN hE hL (rcv10 hN hT hw.1) rfl rfl hl.1 (Nat.le_of_ble_eq_true rfl) dX9_statement_151 (Nat.zero_le _) (Nat.zero_le _) (fun H1 locs hL hqr4803 => ?_)
        obtain ⟨hT1, hF1, hqr4803⟩ := hqr4803
        have hP : va_P D vwCl [(dr, .inl (cs 0, 1383, .inl (upd f4681 11 r4793)))] _ := hF1.hP (hP.sub [0] rfl) (fa_c ⟨by rw [hdT.1]; decide, by rw [hdT.2]; first | decide | (simp; done) | (simp; omega)⟩ fa_n)
        have hF := hF.tr (hF1.mono (by simp))
        have hT := hT1
        obtain ⟨p4804, er4805, a4806, z4807, m4808⟩ := hqr4803
        have hm := m4808
        have hm8 := hm.2.2.2.2.2.2.2
        have hps : PS D cs w _ (p4804) (tl) (er4805) (0) dr bu g (N) (h) := ⟨hm, (upd f4681 11 r4793), hP 0 _ rfl, e4801, by omega, (fun e9 => (CVu (by omega) (fun e9 => (fun e9 => v4681 (z4789 e9)) ((fun e9 => (z4797 e9).1) e9))) (z4807 e9))⟩
        exact en_v hx hb hr hlocks hL (Nat.zero_le _) (Nat.zero_le _) dX9_statement_154 (⟨hT, hF, N, h, p4804, er4805, (by omega), (fun e9 => by have h9 := hzt (z4807 e9); omega), hps⟩)
    · have hm := m4705
      have hm8 := hm.2.2.2.2.2.2.2
      refine lv_if_eq (tgt := 42) hx hb dX9_statement_32 (by decide) (fun c9 => absurd c9 (by decide)) (fun _ => ?_)
      refine lv_aload_n hx hb dX9_statement_35 rfl (lv_at hl 1 rfl) ?_
      have hps : PS D cs w _ (p4702) (tl) (er) (0) dr bu g (N) (h) := ⟨hm, f4681, hP 0 _ rfl, e4681, by omega, v4681⟩
      refine cv_v (As := []) (rest := []) (b := w) ⟨hx, hb, hml, hown, hts⟩ (c_X9_readLink hT (w := w) hw hbT hdT hps) (cwV 0 hts gX9_statement_X9_readLink rfl rfl rfl hdX9_readLink_v ⟨Nat.le_of_ble_eq_true rfl, Nat.le_of_ble_eq_true rfl⟩) hN hE hL (rcv10 hN hT hw.1) rfl rfl hl.1 (Nat.le_of_ble_eq_true rfl) dX9_statement_36 (Nat.zero_le _) (Nat.zero_le _) (fun H1 locs hL hqr4809 => ?_)
      obtain ⟨hT1, hF1, hqr4809⟩ := hqr4809
      have hF := hF.tr (hF1.mono (by simp))
      have hT := hT1
      obtain ⟨p4810, er4811, b4812, z4813, m4814, f4815, d4816, e4817, n4818, v4819⟩ := hqr4809
      have hm := m4814
      have hm8 := hm.2.2.2.2.2.2.2
      have hbd : B0 ≤ dr := (hT.o26 hdT.1).1
      have hDR := hT.dr hdT d4816
      have hP : va_P D vwCl [(dr, .inl (cs 0, 1383, .inl f4815))] _ := va_P.cons d4816 va_P.nil
      refine lv_goto (tgt := 148) hx hb dX9_statement_39 (by decide) ?_
      have hzt : er4811 = 0 → pos + 1 ≤ p4810 := (fun _ => by omega)
      refine lv_aload_n hx hb dX9_statement_148 rfl (lv_at hl 1 rfl) ?_
      refine lv_bipush (v := 59) hx hb dX9_statement_149 (by decide) ?_
      refine cv_v (As := [.int 59]) (rest := []) (b := w) ⟨hx, hb, hml, hown, hts⟩ (c_X9_expect hT (w := w) hw (x := 59) hbT hdT hm ((by decide))) (cwV 1 hts gX9_statement_X9_expect rfl rfl rfl hdX9_expect_v ⟨Nat.le_of_ble_eq_true rfl, Nat.le_of_ble_eq_true rfl⟩) hN hE hL (rcv10 hN hT hw.1) rfl rfl hl.1 (Nat.le_of_ble_eq_true rfl) dX9_statement_151 (Nat.zero_le _) (Nat.zero_le _) (fun H1 locs hL hqr4821 => ?_)
      obtain ⟨hT1, hF1, hqr4821⟩ := hqr4821
      have hP : va_P D vwCl [(dr, .inl (cs 0, 1383, .inl f4815))] _ := hF1.hP (hP.sub [0] rfl) (fa_c ⟨by rw [hdT.1]; decide, by rw [hdT.2]; first | decide | (simp; done) | (simp; omega)⟩ fa_n)
      have hF := hF.tr (hF1.mono (by simp))
      have hT := hT1
      obtain ⟨p4822, er4823, a4824, z4825, m4826⟩ := hqr4821
      have hm := m4826
      have hm8 := hm.2.2.2.2.2.2.2
      have hps : PS D cs w _ (p4822) (tl) (er4823) (0) dr bu g (N) (h) := ⟨hm, f4815, hP 0 _ rfl, e4817, by omega, (fun e9 => v4819 (z4825 e9))⟩
      exact en_v hx hb hr hlocks hL (Nat.zero_le _) (Nat.zero_le _) dX9_statement_154 (⟨hT, hF, N, h, p4822, er4823, (by omega), (fun e9 => by have h9 := hzt (z4825 e9); omega), hps⟩)
  · have hm := m4697
    have hm8 := hm.2.2.2.2.2.2.2
    refine lv_if_eq (tgt := 26) hx hb dX9_statement_16 (by decide) (fun c9 => absurd c9 (by decide)) (fun _ => ?_)
    refine lv_aload_n hx hb dX9_statement_19 rfl (lv_at hl 1 rfl) ?_
    have hps : PS D cs w _ (p4694) (tl) (er) (0) dr bu g (N) (h) := ⟨hm, f4681, hP 0 _ rfl, e4681, by omega, v4681⟩
    refine cv_v (As := []) (rest := []) (b := w) ⟨hx, hb, hml, hown, hts⟩ (c_X9_readClock hT (w := w) hw hbT hdT hps) (cwV 0 hts gX9_statement_X9_readClock rfl rfl rfl hdX9_readClock_v ⟨Nat.le_of_ble_eq_true rfl, Nat.le_of_ble_eq_true rfl⟩) hN hE hL (rcv10 hN hT hw.1) rfl rfl hl.1 (Nat.le_of_ble_eq_true rfl) dX9_statement_20 (Nat.zero_le _) (Nat.zero_le _) (fun H1 locs hL hqr4827 => ?_)
    obtain ⟨hT1, hF1, hqr4827⟩ := hqr4827
    have hF := hF.tr (hF1.mono (by simp))
    have hT := hT1
    obtain ⟨p4828, er4829, b4830, z4831, m4832, f4833, d4834, e4835, n4836, v4837⟩ := hqr4827
    have hm := m4832
    have hm8 := hm.2.2.2.2.2.2.2
    have hbd : B0 ≤ dr := (hT.o26 hdT.1).1
    have hDR := hT.dr hdT d4834
    have hP : va_P D vwCl [(dr, .inl (cs 0, 1383, .inl f4833))] _ := va_P.cons d4834 va_P.nil
    refine lv_goto (tgt := 148) hx hb dX9_statement_23 (by decide) ?_
    have hzt : er4829 = 0 → pos + 1 ≤ p4828 := (fun _ => by omega)
    refine lv_aload_n hx hb dX9_statement_148 rfl (lv_at hl 1 rfl) ?_
    refine lv_bipush (v := 59) hx hb dX9_statement_149 (by decide) ?_
    refine cv_v (As := [.int 59]) (rest := []) (b := w) ⟨hx, hb, hml, hown, hts⟩ (c_X9_expect hT (w := w) hw (x := 59) hbT hdT hm ((by decide))) (cwV 1 hts gX9_statement_X9_expect rfl rfl rfl hdX9_expect_v ⟨Nat.le_of_ble_eq_true rfl, Nat.le_of_ble_eq_true rfl⟩) hN hE hL (rcv10 hN hT hw.1) rfl rfl hl.1 (Nat.le_of_ble_eq_true rfl) dX9_statement_151 (Nat.zero_le _) (Nat.zero_le _) (fun H1 locs hL hqr4839 => ?_)
    obtain ⟨hT1, hF1, hqr4839⟩ := hqr4839
    have hP : va_P D vwCl [(dr, .inl (cs 0, 1383, .inl f4833))] _ := hF1.hP (hP.sub [0] rfl) (fa_c ⟨by rw [hdT.1]; decide, by rw [hdT.2]; first | decide | (simp; done) | (simp; omega)⟩ fa_n)
    have hF := hF.tr (hF1.mono (by simp))
    have hT := hT1
    obtain ⟨p4840, er4841, a4842, z4843, m4844⟩ := hqr4839
    have hm := m4844
    have hm8 := hm.2.2.2.2.2.2.2
    have hps : PS D cs w _ (p4840) (tl) (er4841) (0) dr bu g (N) (h) := ⟨hm, f4833, hP 0 _ rfl, e4835, by omega, (fun e9 => v4837 (z4843 e9))⟩
    exact en_v hx hb hr hlocks hL (Nat.zero_le _) (Nat.zero_le _) dX9_statement_154 (⟨hT, hF, N, h, p4840, er4841, (by omega), (fun e9 => by have h9 := hzt (z4843 e9); omega), hps⟩)
set_option maxHeartbeats 4000000 in
set_option maxRecDepth 100000 in
theorem c_X9_layPlayers {l : Launch} {D : va_G} {cs : Nat → ClassId} {B0 T : Nat} {κ : KM} {H0 : Heap} (hT : WT B0 D cs T κ H0) {w n : Nat} (hw : T2 κ w 26 17) (hn : n ≤ 8) : KC l yX9_layPlayers wsX9_layPlayers 1 20 0 0 D cs B0 H0 [.ref w, .int (nI n)] (Qv (fun H => WT B0 D cs T κ H ∧ Fr B0 [17] κ H0 H ∧ ∃ f, va_at D vwCl (w, .inl (cs 0, 1383, .inl f)) H ∧ f 14 = nI 0)) := by
  refine KC.of cX9_layPlayers 3 none (by decide) rfl (Nat.le_of_ble_eq_true rfl) ?_
  intro p e s m below meth c ls hx hb hr hml hown hts hlocks hin hN hE hH0 hl
  have hown : s.vm.findClass RX9 = some m.cls := hown
  have hl : lv_has ls 3 [(0, .ref w), (1, .int (nI n))] := hl
  have hL : OkL B0 [] := OkL.nil
  have hF : Fr B0 [17] κ H0 H0 := Fr.rf
  obtain ⟨hb4845, e4845, hat4845, hk4845⟩ := hT.o26 hw.1
  obtain ⟨g4845, rfl, q4845⟩ := hk4845
  have hP : va_P D vwCl [(w, .inl (cs 0, 1383, .inl g4845))] _ := va_P.cons hat4845 va_P.nil
  have hB : Bx B0 D _ [(w, .inl (cs 0, 1383, .inl g4845))] [] _ _ := Bx.of (fun a => (κ a).1) hL hP (fa_c hb4845 fa_n) (by simp only [List.map_cons, List.map_nil, hw.1]; decide)
  refine lv_iconst (v := 0) hx hb dX9_layPlayers_0 (by decide) ?_
  refine lv_istore_n (lv' := [(2, .int 0), (0, .ref w), (1, .int (nI n))]) hx hb dX9_layPlayers_1 rfl hl (by decide) rfl (fun ls hl => ?_)
  have hB : Bx B0 D _ [(w, .inl (cs 0, 1383, .inl g4845))] [w] _ _ := hB.ms (by simp) (fa_c hb4845 fa_n)
  refine lp_m (α := Nat × (Nat → Int32)) (nL := 3) (fun a9 => 1383 - a9.1) (fun a9 H9 l9 => (a9.1 ≤ 1383) ∧ (∀ j, j < a9.1 → a9.2 j = 0) ∧ (Bx B0 D H0 [(w, .inl (cs 0, 1383, .inl a9.2))] [w] H9 l9)) (fun a9 => [(2, .int (nI a9.1)), (0, .ref w), (1, .int (nI n))]) ?_ (0, g4845) _ _ _ ⟨(by show (0) ≤ 1383; omega), (fun j hj => absurd hj (Nat.not_lt_zero j)), hB⟩ (lv_sub hl [0, 1, 2] rfl)
  rintro ⟨k, g9a⟩ H locs ls ih4846 ⟨hk, hz, hB⟩ hl
  have hl : lv_has ls 3 [(2, .int (nI k)), (0, .ref w), (1, .int (nI n))] := hl
  have hk : k ≤ 1383 := hk
  have hz : ∀ j, j < k → g9a j = 0 := hz
  have hB : Bx B0 D _ [(w, .inl (cs 0, 1383, .inl g9a))] [w] _ _ := hB
  refine lv_iload_n hx hb dX9_layPlayers_2 rfl (lv_at hl 0 rfl) ?_
  refine lv_sipush (v := 1383) hx hb dX9_layPlayers_3 (by decide) ?_
  refine lv_icmp_ge (tgt := 19) hx hb dX9_layPlayers_6 (by decide) (fun c4847 => ?_) (fun c4847 => ?_)
  · have c4847 : 1383 ≤ k := (nI_leI (a := 1383) (b := k) (by omega) (by omega)).mp c4847
    refine lv_aload_n hx hb dX9_layPlayers_19 rfl (lv_at hl 1 rfl) ?_
    refine lv_iconst (v := 0) hx hb dX9_layPlayers_20 (by decide) ?_
    refine lv_iload_n hx hb dX9_layPlayers_21 rfl (lv_at hl 2 rfl) ?_
    refine b_i hx hb hN hB 0 rfl (vp_in_nI (n := 0) (N := 1383) (by omega) (by omega)) (.inr ⟨rfl, List.mem_of_getElem? (i := 0) rfl⟩) dX9_layPlayers_22 (fun H locs hB => ?_)
    rw [(show (0 : Int32).toNatClampNeg = 0 from nI_clamp (n := 0) (by omega))] at hB
    have hB : Bx B0 D _ [(w, .inl (cs 0, 1383, .inl (upd g9a 0 (nI n))))] [w] _ _ := hB
    have hk9 : k = 1383 := by omega
    subst hk9
    have z4848 := DRK.lay hz (n := n) (by omega)
    have ez4848 := (pk_un (f := g9a) (x := (nI n)) (show (14 : Nat) ≠ 0 by omega)).trans (hz 14 (by omega))
    refine lv_aload_n hx hb dX9_layPlayers_23 rfl (lv_at hl 1 rfl) ?_
    refine lv_bipush (v := 11) hx hb dX9_layPlayers_24 (by decide) ?_
    refine lv_iload_n hx hb dX9_layPlayers_26 rfl (lv_at hl 2 rfl) ?_
    refine b_i hx hb hN hB 0 rfl (vp_in_nI (n := 11) (N := 1383) (by omega) (by omega)) (.inr ⟨rfl, List.mem_of_getElem? (i := 0) rfl⟩) dX9_layPlayers_27 (fun H locs hB => ?_)
    rw [(show (11 : Int32).toNatClampNeg = 11 from nI_clamp (n := 11) (by omega))] at hB
    have hB : Bx B0 D _ [(w, .inl (cs 0, 1383, .inl (upd (upd g9a 0 (nI n)) 11 (nI n))))] [w] _ _ := hB
    have z4849 := DRK.sf z4848 (k := 11) (by omega) (x := (nI n))
    have e4850 := (pk_un (f := (upd g9a 0 (nI n))) (x := (nI n)) (show 14 ≠ 11 by omega)).trans ez4848
    refine lv_aload_n hx hb dX9_layPlayers_28 rfl (lv_at hl 1 rfl) ?_
    refine lv_bipush (v := 12) hx hb dX9_layPlayers_29 (by decide) ?_
    refine lv_bipush (v := 50) hx hb dX9_layPlayers_31 (by decide) ?_
    refine b_i hx hb hN hB 0 rfl (vp_in_nI (n := 12) (N := 1383) (by omega) (by omega)) (.inr ⟨rfl, List.mem_of_getElem? (i := 0) rfl⟩) dX9_layPlayers_33 (fun H locs hB => ?_)
    rw [(show (12 : Int32).toNatClampNeg = 12 from nI_clamp (n := 12) (by omega))] at hB
    have hB : Bx B0 D _ [(w, .inl (cs 0, 1383, .inl (upd (upd (upd g9a 0 (nI n)) 11 (nI n)) 12 50)))] [w] _ _ := hB
    have z4851 := DRK.sf z4849 (k := 12) (by omega) (x := 50)
    have e4852 := (pk_un (f := (upd (upd g9a 0 (nI n)) 11 (nI n))) (x := 50) (show 14 ≠ 12 by omega)).trans e4850
    refine lv_aload_n hx hb dX9_layPlayers_34 rfl (lv_at hl 1 rfl) ?_
    refine lv_bipush (v := 21) hx hb dX9_layPlayers_35 (by decide) ?_
    refine lv_iconst (v := (-1)) hx hb dX9_layPlayers_37 (by decide) ?_
    refine b_i hx hb hN hB 0 rfl (vp_in_nI (n := 21) (N := 1383) (by omega) (by omega)) (.inr ⟨rfl, List.mem_of_getElem? (i := 0) rfl⟩) dX9_layPlayers_38 (fun H locs hB => ?_)
    rw [(show (21 : Int32).toNatClampNeg = 21 from nI_clamp (n := 21) (by omega))] at hB
    have hB : Bx B0 D _ [(w, .inl (cs 0, 1383, .inl (upd (upd (upd (upd g9a 0 (nI n)) 11 (nI n)) 12 50) 21 (-1))))] [w] _ _ := hB
    have z4853 := DRK.sf z4851 (k := 21) (by omega) (x := (-1))
    have e4854 := (pk_un (f := (upd (upd (upd g9a 0 (nI n)) 11 (nI n)) 12 50)) (x := (-1)) (show 14 ≠ 21 by omega)).trans e4852
    refine lv_aload_n hx hb dX9_layPlayers_39 rfl (lv_at hl 1 rfl) ?_
    refine lv_bipush (v := 22) hx hb dX9_layPlayers_40 (by decide) ?_
    refine lv_iconst (v := (-1)) hx hb dX9_layPlayers_42 (by decide) ?_
    refine b_i hx hb hN hB 0 rfl (vp_in_nI (n := 22) (N := 1383) (by omega) (by omega)) (.inr ⟨rfl, List.mem_of_getElem? (i := 0) rfl⟩) dX9_layPlayers_43 (fun H locs hB => ?_)
    rw [(show (22 : Int32).toNatClampNeg = 22 from nI_clamp (n := 22) (by omega))] at hB
    have hB : Bx B0 D _ [(w, .inl (cs 0, 1383, .inl (upd (upd (upd (upd (upd g9a 0 (nI n)) 11 (nI n)) 12 50) 21 (-1)) 22 (-1))))] [w] _ _ := hB
    have z4855 := DRK.sf z4853 (k := 22) (by omega) (x := (-1))
    have e4856 := (pk_un (f := (upd (upd (upd (upd g9a 0 (nI n)) 11 (nI n)) 12 50) 21 (-1))) (x := (-1)) (show 14 ≠ 22 by omega)).trans e4854
    refine lv_iconst (v := 0) hx hb dX9_layPlayers_44 (by decide) ?_
    refine lv_istore_n (lv' := [(2, .int 0), (0, .ref w), (1, .int (nI n))]) hx hb dX9_layPlayers_45 rfl hl (by decide) rfl (fun ls hl => ?_)
    have hB : Bx B0 D _ [(w, .inl (cs 0, 1383, .inl (upd (upd (upd (upd (upd g9a 0 (nI n)) 11 (nI n)) 12 50) 21 (-1)) 22 (-1))))] [w] _ _ := hB.ms (by simp) (fa_c hb4845 fa_n)
    refine lp_m (α := Nat × (Nat → Int32)) (nL := 3) (fun a9 => 8 - a9.1) (fun a9 H9 l9 => (a9.1 ≤ 8) ∧ (DRK a9.2) ∧ (a9.2 14 = nI 0) ∧ (Bx B0 D H0 [(w, .inl (cs 0, 1383, .inl a9.2))] [w] H9 l9)) (fun a9 => [(2, .int (nI a9.1)), (0, .ref w), (1, .int (nI n))]) ?_ (0, (upd (upd (upd (upd (upd g9a 0 (nI n)) 11 (nI n)) 12 50) 21 (-1)) 22 (-1))) _ _ _ ⟨(by show (0) ≤ 8; omega), z4855, e4856, hB⟩ (lv_sub hl [0, 1, 2] rfl)
    rintro ⟨p, g9a⟩ H locs ls ih4857 ⟨hp, hq, h14, hB⟩ hl
    have hl : lv_has ls 3 [(2, .int (nI p)), (0, .ref w), (1, .int (nI n))] := hl
    have hp : p ≤ 8 := hp
    have hq : DRK g9a := hq
    have h14 : g9a 14 = nI 0 := h14
    have hB : Bx B0 D _ [(w, .inl (cs 0, 1383, .inl g9a))] [w] _ _ := hB
    refine lv_iload_n hx hb dX9_layPlayers_46 rfl (lv_at hl 0 rfl) ?_
    refine lv_bipush (v := 8) hx hb dX9_layPlayers_47 (by decide) ?_
    refine lv_icmp_ge (tgt := 87) hx hb dX9_layPlayers_49 (by decide) (fun c4858 => ?_) (fun c4858 => ?_)
    · have c4858 : 8 ≤ p := (nI_leI (a := 8) (b := p) (by omega) (by omega)).mp c4858
      have hT : WT B0 D cs T κ _ := hT.close hB ⟨⟨0, _, rfl, ok_26 hw.1 ⟨_, rfl, hq⟩⟩, trivial⟩
      have hF : Fr B0 [17] κ H0 _ := hF.close hB (fa_c (by simp [hw.2]) fa_n)
      have hL : OkL B0 _ := hB.2.2.2.2.2
      have hP : va_P D vwCl [(w, .inl (cs 0, 1383, .inl g9a))] _ := hB.1
      exact en_v hx hb hr hlocks hL (Nat.zero_le _) (Nat.zero_le _) dX9_layPlayers_87 (⟨hT, hF, _, hP 0 _ rfl, h14⟩)
    · have c4858 : ¬ 8 ≤ p := fun h9 => c4858 ((nI_leI (a := 8) (b := p) (by omega) (by omega)).mpr h9)
      refine lv_aload_n hx hb dX9_layPlayers_52 rfl (lv_at hl 1 rfl) ?_
      refine lv_iload_n hx hb dX9_layPlayers_53 rfl (lv_at hl 0 rfl) ?_
      have hT : WT B0 D cs T κ _ := hT.close hB ⟨⟨0, _, rfl, ok_26 hw.1 ⟨_, rfl, hq⟩⟩, trivial⟩
      have hF : Fr B0 [17] κ H0 _ := hF.close hB (fa_c (by simp [hw.2]) fa_n)
      have hL : OkL B0 _ := hB.2.2.2.2.2
      have hP : va_P D vwCl [(w, .inl (cs 0, 1383, .inl g9a))] _ := hB.1
      refine cs_i (As := [.int (nI p)]) (rest := [.ref w]) ⟨hx, hb, hml, hown, hts⟩ (c_X9_playerAt hT (n := p) (by first | omega | decide | assumption)) (va_cwS 1 hts gX9_layPlayers_X9_playerAt rfl rfl rfl hdX9_playerAt_o ⟨Nat.le_of_ble_eq_true rfl, Nat.le_of_ble_eq_true rfl⟩) hN hE hL rfl rfl hl.1 (Nat.le_of_ble_eq_true rfl) dX9_layPlayers_54 (Nat.zero_le _) (Nat.zero_le _) (fun r4859 H1 locs hL hqr4859 => ?_)
      obtain ⟨h9, hqr4859⟩ := hqr4859; replace h9 := h9.symm; subst h9
      obtain rfl := hqr4859
      refine lv_iconst (v := 0) hx hb dX9_layPlayers_57 (by decide) ?_
      refine lv_iadd hx hb dX9_layPlayers_58 ?_
      refine tp_i (nI ((23 + 12 * p) + 0)) (nI_add (23 + 12 * p) 0) ?_
      refine lv_iconst (v := 1) hx hb dX9_layPlayers_59 (by decide) ?_
      have hB : Bx B0 D _ [(w, .inl (cs 0, 1383, .inl g9a))] [] _ _ := Bx.of (fun a => (κ a).1) hL hP (fa_c hb4845 fa_n) (by simp only [List.map_cons, List.map_nil, hw.1]; decide)
      refine b_i hx hb hN hB 0 rfl (vp_in_nI (n := ((23 + 12 * p) + 0)) (N := 1383) (by omega) (by omega)) (.inl rfl) dX9_layPlayers_60 (fun H locs hB => ?_)
      rw [(show ((nI ((23 + 12 * p) + 0)) : Int32).toNatClampNeg = ((23 + 12 * p) + 0) from nI_clamp (n := ((23 + 12 * p) + 0)) (by omega))] at hB
      have hB : Bx B0 D _ [(w, .inl (cs 0, 1383, .inl (upd g9a ((23 + 12 * p) + 0) 1)))] [w] _ _ := hB
      have z4860 := DRK.sf hq (k := ((23 + 12 * p) + 0)) (by omega) (x := 1)
      have e4861 := (pk_un (f := g9a) (x := 1) (show 14 ≠ ((23 + 12 * p) + 0) by omega)).trans h14
      refine lv_aload_n hx hb dX9_layPlayers_61 rfl (lv_at hl 1 rfl) ?_
      refine lv_iload_n hx hb dX9_layPlayers_62 rfl (lv_at hl 0 rfl) ?_
      have hT : WT B0 D cs T κ _ := hT.close hB ⟨⟨0, _, rfl, ok_26 hw.1 ⟨_, rfl, z4860⟩⟩, trivial⟩
      have hF : Fr B0 [17] κ H0 _ := hF.close hB (fa_c (by simp [hw.2]) fa_n)
      have hL : OkL B0 _ := hB.2.2.2.2.2
      have hP : va_P D vwCl [(w, .inl (cs 0, 1383, .inl (upd g9a ((23 + 12 * p) + 0) 1)))] _ := hB.1
      refine cs_i (As := [.int (nI p)]) (rest := [.ref w]) ⟨hx, hb, hml, hown, hts⟩ (c_X9_playerAt hT (n := p) (by first | omega | decide | assumption)) (va_cwS 1 hts gX9_layPlayers_X9_playerAt rfl rfl rfl hdX9_playerAt_o ⟨Nat.le_of_ble_eq_true rfl, Nat.le_of_ble_eq_true rfl⟩) hN hE hL rfl rfl hl.1 (Nat.le_of_ble_eq_true rfl) dX9_layPlayers_63 (Nat.zero_le _) (Nat.zero_le _) (fun r4862 H1 locs hL hqr4862 => ?_)
      obtain ⟨h9, hqr4862⟩ := hqr4862; replace h9 := h9.symm; subst h9
      obtain rfl := hqr4862
      refine lv_bipush (v := 6) hx hb dX9_layPlayers_66 (by decide) ?_
      refine lv_iadd hx hb dX9_layPlayers_68 ?_
      refine tp_i (nI ((23 + 12 * p) + 6)) (nI_add (23 + 12 * p) 6) ?_
      refine lv_iconst (v := (-1)) hx hb dX9_layPlayers_69 (by decide) ?_
      have hB : Bx B0 D _ [(w, .inl (cs 0, 1383, .inl (upd g9a ((23 + 12 * p) + 0) 1)))] [] _ _ := Bx.of (fun a => (κ a).1) hL hP (fa_c hb4845 fa_n) (by simp only [List.map_cons, List.map_nil, hw.1]; decide)
      refine b_i hx hb hN hB 0 rfl (vp_in_nI (n := ((23 + 12 * p) + 6)) (N := 1383) (by omega) (by omega)) (.inl rfl) dX9_layPlayers_70 (fun H locs hB => ?_)
      rw [(show ((nI ((23 + 12 * p) + 6)) : Int32).toNatClampNeg = ((23 + 12 * p) + 6) from nI_clamp (n := ((23 + 12 * p) + 6)) (by omega))] at hB
      have hB : Bx B0 D _ [(w, .inl (cs 0, 1383, .inl (upd (upd g9a ((23 + 12 * p) + 0) 1) ((23 + 12 * p) + 6) (-1))))] [w] _ _ := hB
      have z4863 := DRK.sf z4860 (k := ((23 + 12 * p) + 6)) (by omega) (x := (-1))
      have e4864 := (pk_un (f := (upd g9a ((23 + 12 * p) + 0) 1)) (x := (-1)) (show 14 ≠ ((23 + 12 * p) + 6) by omega)).trans e4861
      refine lv_aload_n hx hb dX9_layPlayers_71 rfl (lv_at hl 1 rfl) ?_
      refine lv_iload_n hx hb dX9_layPlayers_72 rfl (lv_at hl 0 rfl) ?_
      have hT : WT B0 D cs T κ _ := hT.close hB ⟨⟨0, _, rfl, ok_26 hw.1 ⟨_, rfl, z4863⟩⟩, trivial⟩
      have hF : Fr B0 [17] κ H0 _ := hF.close hB (fa_c (by simp [hw.2]) fa_n)
      have hL : OkL B0 _ := hB.2.2.2.2.2
      have hP : va_P D vwCl [(w, .inl (cs 0, 1383, .inl (upd (upd g9a ((23 + 12 * p) + 0) 1) ((23 + 12 * p) + 6) (-1))))] _ := hB.1
      refine cs_i (As := [.int (nI p)]) (rest := [.ref w]) ⟨hx, hb, hml, hown, hts⟩ (c_X9_playerAt hT (n := p) (by first | omega | decide | assumption)) (va_cwS 1 hts gX9_layPlayers_X9_playerAt rfl rfl rfl hdX9_playerAt_o ⟨Nat.le_of_ble_eq_true rfl, Nat.le_of_ble_eq_true rfl⟩) hN hE hL rfl rfl hl.1 (Nat.le_of_ble_eq_true rfl) dX9_layPlayers_73 (Nat.zero_le _) (Nat.zero_le _) (fun r4865 H1 locs hL hqr4865 => ?_)
      obtain ⟨h9, hqr4865⟩ := hqr4865; replace h9 := h9.symm; subst h9
      obtain rfl := hqr4865
      refine lv_bipush (v := 11) hx hb dX9_layPlayers_76 (by decide) ?_
      refine lv_iadd hx hb dX9_layPlayers_78 ?_
      refine tp_i (nI ((23 + 12 * p) + 11)) (nI_add (23 + 12 * p) 11) ?_
      refine lv_iconst (v := (-1)) hx hb dX9_layPlayers_79 (by decide) ?_
      have hB : Bx B0 D _ [(w, .inl (cs 0, 1383, .inl (upd (upd g9a ((23 + 12 * p) + 0) 1) ((23 + 12 * p) + 6) (-1))))] [] _ _ := Bx.of (fun a => (κ a).1) hL hP (fa_c hb4845 fa_n) (by simp only [List.map_cons, List.map_nil, hw.1]; decide)
      refine b_i hx hb hN hB 0 rfl (vp_in_nI (n := ((23 + 12 * p) + 11)) (N := 1383) (by omega) (by omega)) (.inl rfl) dX9_layPlayers_80 (fun H locs hB => ?_)
      rw [(show ((nI ((23 + 12 * p) + 11)) : Int32).toNatClampNeg = ((23 + 12 * p) + 11) from nI_clamp (n := ((23 + 12 * p) + 11)) (by omega))] at hB
      have hB : Bx B0 D _ [(w, .inl (cs 0, 1383, .inl (upd (upd (upd g9a ((23 + 12 * p) + 0) 1) ((23 + 12 * p) + 6) (-1)) ((23 + 12 * p) + 11) (-1))))] [w] _ _ := hB
      have z4866 := DRK.sf z4863 (k := ((23 + 12 * p) + 11)) (by omega) (x := (-1))
      have e4867 := (pk_un (f := (upd (upd g9a ((23 + 12 * p) + 0) 1) ((23 + 12 * p) + 6) (-1))) (x := (-1)) (show 14 ≠ ((23 + 12 * p) + 11) by omega)).trans e4864
      refine lv_iinc (v := (nI (p + 1))) (lv' := [(2, .int (nI (p + 1))), (0, .ref w), (1, .int (nI n))]) hx hb dX9_layPlayers_81 hl (k := 0) rfl (nI_add _ 1) (by decide) rfl (fun ls hl => ?_)
      refine lv_goto (tgt := 46) hx hb dX9_layPlayers_84 (by decide) ?_
      exact ih4857 ((p + 1), (upd (upd (upd g9a ((23 + 12 * p) + 0) 1) ((23 + 12 * p) + 6) (-1)) ((23 + 12 * p) + 11) (-1))) _ _ _ (by show 8 - ((p + 1)) < 8 - p; omega) ⟨(by show ((p + 1)) ≤ 8; omega), z4866, e4867, hB⟩ (lv_sub hl [0, 1, 2] rfl)
  · have c4847 : ¬ 1383 ≤ k := fun h9 => c4847 ((nI_leI (a := 1383) (b := k) (by omega) (by omega)).mpr h9)
    refine lv_aload_n hx hb dX9_layPlayers_9 rfl (lv_at hl 1 rfl) ?_
    refine lv_iload_n hx hb dX9_layPlayers_10 rfl (lv_at hl 0 rfl) ?_
    refine lv_iconst (v := 0) hx hb dX9_layPlayers_11 (by decide) ?_
    refine b_i hx hb hN hB 0 rfl (vp_in_nI (n := k) (N := 1383) (by omega) (by omega)) (.inr ⟨rfl, List.mem_of_getElem? (i := 0) rfl⟩) dX9_layPlayers_12 (fun H locs hB => ?_)
    rw [(show ((nI k) : Int32).toNatClampNeg = k from nI_clamp (n := k) (by omega))] at hB
    have hB : Bx B0 D _ [(w, .inl (cs 0, 1383, .inl (upd g9a k 0)))] [w] _ _ := hB
    refine lv_iinc (v := (nI (k + 1))) (lv' := [(2, .int (nI (k + 1))), (0, .ref w), (1, .int (nI n))]) hx hb dX9_layPlayers_13 hl (k := 0) rfl (nI_add _ 1) (by decide) rfl (fun ls hl => ?_)
    refine lv_goto (tgt := 2) hx hb dX9_layPlayers_16 (by decide) ?_
    exact ih4846 ((k + 1), (upd g9a k 0)) _ _ _ (by show 1383 - ((k + 1)) < 1383 - k; omega) ⟨(by show ((k + 1)) ≤ 1383; omega), (up0 hz), hB⟩ (lv_sub hl [0, 1, 2] rfl)
