set_option maxHeartbeats 4000000 in
set_option maxRecDepth 100000 in
theorem c_X9_change {l : Launch} {D : va_G} {cs : Nat → ClassId} {B0 T : Nat} {κ : KM} {H0 : Heap} (hT : WT B0 D cs T κ H0) {w : Nat} (hw : T2 κ w 10 12) {n : Nat} (qn : n < 8) : KC l yX9_change wsX9_change 4 84 0 0 D cs B0 H0 [.ref w, .int (nI n)] (Qv (fun H => WT B0 D cs T κ H ∧ Fr B0 [12] κ H0 H)) := by
  refine KC.of cX9_change 3 none (by decide) rfl (Nat.le_of_ble_eq_true rfl) ?_
  intro p e s m below meth c ls hx hb hr hml hown hts hlocks hin hN hH0 hl
  have hown : s.vm.findClass RX9 = some m.cls := hown
  have hl : lv_has ls 3 [(0, .ref w), (1, .int (nI n))] := hl
  have hL : OkL B0 [] := OkL.nil
  have hF : Fr B0 [12] κ H0 H0 := Fr.rf
  refine lv_aload_n hx hb dX9_change_0 rfl (lv_at hl 0 rfl) ?_
  refine lv_iload_n hx hb dX9_change_1 rfl (lv_at hl 1 rfl) ?_
  refine cv_i (As := [.int (nI n)]) (rest := []) (b := w) ⟨hx, hb, hml, hown, hts⟩ (c_X9_estimate hT (w := w) hw (n := n) (by first | omega | decide | assumption)) (cwV 1 hts gX9_change_X9_estimate rfl rfl rfl hdX9_estimate_v ⟨Nat.le_of_ble_eq_true rfl, Nat.le_of_ble_eq_true rfl⟩) hN hL (rcv10 hN hT hw.1) rfl rfl hl.1 (Nat.le_of_ble_eq_true rfl) dX9_change_2 (Nat.zero_le _) (Nat.zero_le _) (fun r560 H1 locs hL hqr560 => ?_)
  obtain rfl := hqr560.symm
  refine lv_aload_n hx hb dX9_change_5 rfl (lv_at hl 0 rfl) ?_
  refine lv_iload_n hx hb dX9_change_6 rfl (lv_at hl 1 rfl) ?_
  refine lv_bipush (v := 8) hx hb dX9_change_7 (by decide) ?_
  refine cv_i (As := [.int (nI n), .int 8]) (rest := [.int r560]) (b := w) ⟨hx, hb, hml, hown, hts⟩ (c_X9_of hT (w := w) hw (n := n) (k := 8) (by first | omega | decide | assumption) (by first | omega | decide | assumption)) (cwV 2 hts gX9_change_X9_of rfl rfl rfl hdX9_of_v ⟨Nat.le_of_ble_eq_true rfl, Nat.le_of_ble_eq_true rfl⟩) hN hL (rcv10 hN hT hw.1) rfl rfl hl.1 (Nat.le_of_ble_eq_true rfl) dX9_change_9 (Nat.zero_le _) (Nat.zero_le _) (fun r561 H1 locs hL hqr561 => ?_)
  obtain rfl := hqr561.symm
  refine lv_icmp_le (tgt := 19) hx hb dX9_change_12 (by decide) (fun c562 => ?_) (fun c562 => ?_)
  · refine lv_iconst (v := 0) hx hb dX9_change_19 (by decide) ?_
    refine lv_istore_n (lv' := [(2, .int 0), (0, .ref w), (1, .int (nI n))]) hx hb dX9_change_20 rfl hl (by decide) rfl (fun ls hl => ?_)
    refine lv_aload_n hx hb dX9_change_21 rfl (lv_at hl 1 rfl) ?_
    refine lv_iload_n hx hb dX9_change_22 rfl (lv_at hl 2 rfl) ?_
    refine lv_bipush (v := 6) hx hb dX9_change_23 (by decide) ?_
    refine cv_i (As := [.int (nI n), .int 6]) (rest := []) (b := w) ⟨hx, hb, hml, hown, hts⟩ (c_X9_of hT (w := w) hw (n := n) (k := 6) (by first | omega | decide | assumption) (by first | omega | decide | assumption)) (cwV 2 hts gX9_change_X9_of rfl rfl rfl hdX9_of_v ⟨Nat.le_of_ble_eq_true rfl, Nat.le_of_ble_eq_true rfl⟩) hN hL (rcv10 hN hT hw.1) rfl rfl hl.1 (Nat.le_of_ble_eq_true rfl) dX9_change_25 (Nat.zero_le _) (Nat.zero_le _) (fun r563 H1 locs hL hqr563 => ?_)
    obtain rfl := hqr563.symm
    refine lv_aload_n hx hb dX9_change_28 rfl (lv_at hl 1 rfl) ?_
    obtain ⟨hb564, e564, hat564, hk564⟩ := hT.o10 hw.1
    obtain ⟨f564_0, f564_1, f564_3, f564_4, f564_5, f564_6, f564_7, f564_8, f564_9, f564_10, f564_11, f564_12, f564_13, f564_14, f564_15, f564_16, f564_17, rfl, c564_2, c564_3, c564_4, c564_12, t564_1, t564_8, t564_9, c564_sd, t564_10, t564_11, t564_17⟩ := hk564
    have hP : va_P D vwCl [(w, .inr (9, [.int f564_0, .ref f564_1, .int (nI ((κ w).2.2.1)), .int (nI f564_3), .int (nI f564_4), .int f564_5, .int f564_6, .int f564_7, .ref f564_8, .ref f564_9, .ref f564_10, .ref f564_11, .int (nI f564_12), .int f564_13, .int f564_14, .int f564_15, .int f564_16, .ref f564_17]))] _ := va_P.cons hat564 va_P.nil
    refine va_get (D := D) (ci := 9) (v := .ref f564_8) (C := RX9) (T := TX9) (N := 18) hx hb hts iX9_change_9 hown hN.1 hP 0 rfl rfl 8 (by decide) (hts _ mX9_change_1) (fun _ h9 => h9) rfl dX9_change_29 ?_
    refine lv_bipush (v := 6) hx hb dX9_change_32 (by decide) ?_
    obtain ⟨hb565, e565, hat565, hk565⟩ := hT.o24 t564_8.1
    obtain ⟨g565, rfl, q565⟩ := hk565
    have hP : va_P D vwCl [(f564_8, .inl (cs 0, 45783, .inl g565)), (w, .inr (9, [.int f564_0, .ref f564_1, .int (nI ((κ w).2.2.1)), .int (nI f564_3), .int (nI f564_4), .int f564_5, .int f564_6, .int f564_7, .ref f564_8, .ref f564_9, .ref f564_10, .ref f564_11, .int (nI f564_12), .int f564_13, .int f564_14, .int f564_15, .int f564_16, .ref f564_17]))] _ := va_P.cons hat565 hP
    refine ld_i (v := (g565 6)) hx hb hN hP 0 rfl (vp_in_nI (n := 6) (N := 45783) (by omega) (by omega)) (by rw [(show (6 : Int32).toNatClampNeg = 6 from nI_clamp (n := 6) (by omega))]) dX9_change_34 ?_
    refine gn_i (fun x566 => ?_)
    refine lv_iconst (v := 1) hx hb dX9_change_35 (by decide) ?_
    refine lv_isub hx hb dX9_change_36 ?_
    refine gn_i (fun x567 => ?_)
    refine lv_icmp_ne (tgt := 87) hx hb dX9_change_37 (by decide) (fun c568 => ?_) (fun c568 => ?_)
    · refine lv_aload_n hx hb dX9_change_87 rfl (lv_at hl 1 rfl) ?_
      refine lv_iload_n hx hb dX9_change_88 rfl (lv_at hl 2 rfl) ?_
      refine lv_iconst (v := 4) hx hb dX9_change_89 (by decide) ?_
      refine lv_aload_n hx hb dX9_change_90 rfl (lv_at hl 1 rfl) ?_
      refine lv_iload_n hx hb dX9_change_91 rfl (lv_at hl 2 rfl) ?_
      refine lv_bipush (v := 7) hx hb dX9_change_92 (by decide) ?_
      refine cv_i (As := [.int (nI n), .int 7]) (rest := [.int 4, .int (nI n), .ref w]) (b := w) ⟨hx, hb, hml, hown, hts⟩ (c_X9_of hT (w := w) hw (n := n) (k := 7) (by first | omega | decide | assumption) (by first | omega | decide | assumption)) (cwV 2 hts gX9_change_X9_of rfl rfl rfl hdX9_of_v ⟨Nat.le_of_ble_eq_true rfl, Nat.le_of_ble_eq_true rfl⟩) hN hL (rcv10 hN hT hw.1) rfl rfl hl.1 (Nat.le_of_ble_eq_true rfl) dX9_change_94 (Nat.zero_le _) (Nat.zero_le _) (fun r569 H1 locs hL hqr569 => ?_)
      obtain rfl := hqr569.symm
      refine cv_v (As := [.int (nI n), .int 4, .int r569]) (rest := []) (b := w) ⟨hx, hb, hml, hown, hts⟩ (c_X9_set hT (w := w) hw (n := n) (k := 4) (x := r569) (by first | omega | decide | assumption) (by first | omega | decide | assumption)) (cwV 3 hts gX9_change_X9_set rfl rfl rfl hdX9_set_v ⟨Nat.le_of_ble_eq_true rfl, Nat.le_of_ble_eq_true rfl⟩) hN hL (rcv10 hN hT hw.1) rfl rfl hl.1 (Nat.le_of_ble_eq_true rfl) dX9_change_97 (Nat.zero_le _) (Nat.zero_le _) (fun H1 locs hL hqr570 => ?_)
      obtain ⟨hT1, hF1⟩ := hqr570
      have hF := hF.tr (hF1.mono (by simp))
      have hT := hT1
      refine lv_aload_n hx hb dX9_change_100 rfl (lv_at hl 1 rfl) ?_
      refine lv_iload_n hx hb dX9_change_101 rfl (lv_at hl 2 rfl) ?_
      refine lv_bipush (v := 9) hx hb dX9_change_102 (by decide) ?_
      refine lv_aload_n hx hb dX9_change_104 rfl (lv_at hl 1 rfl) ?_
      refine lv_iload_n hx hb dX9_change_105 rfl (lv_at hl 2 rfl) ?_
      refine lv_bipush (v := 9) hx hb dX9_change_106 (by decide) ?_
      refine cv_i (As := [.int (nI n), .int 9]) (rest := [.int 9, .int (nI n), .ref w]) (b := w) ⟨hx, hb, hml, hown, hts⟩ (c_X9_of hT (w := w) hw (n := n) (k := 9) (by first | omega | decide | assumption) (by first | omega | decide | assumption)) (cwV 2 hts gX9_change_X9_of rfl rfl rfl hdX9_of_v ⟨Nat.le_of_ble_eq_true rfl, Nat.le_of_ble_eq_true rfl⟩) hN hL (rcv10 hN hT hw.1) rfl rfl hl.1 (Nat.le_of_ble_eq_true rfl) dX9_change_108 (Nat.zero_le _) (Nat.zero_le _) (fun r571 H1 locs hL hqr571 => ?_)
      obtain rfl := hqr571.symm
      refine lv_iconst (v := 1) hx hb dX9_change_111 (by decide) ?_
      refine lv_iadd hx hb dX9_change_112 ?_
      refine gn_i (fun x572 => ?_)
      refine cv_v (As := [.int (nI n), .int 9, .int x572]) (rest := []) (b := w) ⟨hx, hb, hml, hown, hts⟩ (c_X9_set hT (w := w) hw (n := n) (k := 9) (x := x572) (by first | omega | decide | assumption) (by first | omega | decide | assumption)) (cwV 3 hts gX9_change_X9_set rfl rfl rfl hdX9_set_v ⟨Nat.le_of_ble_eq_true rfl, Nat.le_of_ble_eq_true rfl⟩) hN hL (rcv10 hN hT hw.1) rfl rfl hl.1 (Nat.le_of_ble_eq_true rfl) dX9_change_113 (Nat.zero_le _) (Nat.zero_le _) (fun H1 locs hL hqr573 => ?_)
      obtain ⟨hT1, hF1⟩ := hqr573
      have hF := hF.tr (hF1.mono (by simp))
      have hT := hT1
      refine lv_aload_n hx hb dX9_change_116 rfl (lv_at hl 1 rfl) ?_
      refine lv_iload_n hx hb dX9_change_117 rfl (lv_at hl 2 rfl) ?_
      refine lv_bipush (v := 10) hx hb dX9_change_118 (by decide) ?_
      refine lv_aload_n hx hb dX9_change_120 rfl (lv_at hl 1 rfl) ?_
      refine lv_iload_n hx hb dX9_change_121 rfl (lv_at hl 2 rfl) ?_
      refine lv_bipush (v := 10) hx hb dX9_change_122 (by decide) ?_
      refine cv_i (As := [.int (nI n), .int 10]) (rest := [.int 10, .int (nI n), .ref w]) (b := w) ⟨hx, hb, hml, hown, hts⟩ (c_X9_of hT (w := w) hw (n := n) (k := 10) (by first | omega | decide | assumption) (by first | omega | decide | assumption)) (cwV 2 hts gX9_change_X9_of rfl rfl rfl hdX9_of_v ⟨Nat.le_of_ble_eq_true rfl, Nat.le_of_ble_eq_true rfl⟩) hN hL (rcv10 hN hT hw.1) rfl rfl hl.1 (Nat.le_of_ble_eq_true rfl) dX9_change_124 (Nat.zero_le _) (Nat.zero_le _) (fun r574 H1 locs hL hqr574 => ?_)
      obtain rfl := hqr574.symm
      refine lv_iload_n hx hb dX9_change_127 rfl (lv_at hl 0 rfl) ?_
      refine lv_iadd hx hb dX9_change_128 ?_
      refine gn_i (fun x575 => ?_)
      refine cv_v (As := [.int (nI n), .int 10, .int x575]) (rest := []) (b := w) ⟨hx, hb, hml, hown, hts⟩ (c_X9_set hT (w := w) hw (n := n) (k := 10) (x := x575) (by first | omega | decide | assumption) (by first | omega | decide | assumption)) (cwV 3 hts gX9_change_X9_set rfl rfl rfl hdX9_set_v ⟨Nat.le_of_ble_eq_true rfl, Nat.le_of_ble_eq_true rfl⟩) hN hL (rcv10 hN hT hw.1) rfl rfl hl.1 (Nat.le_of_ble_eq_true rfl) dX9_change_129 (Nat.zero_le _) (Nat.zero_le _) (fun H1 locs hL hqr576 => ?_)
      obtain ⟨hT1, hF1⟩ := hqr576
      have hF := hF.tr (hF1.mono (by simp))
      have hT := hT1
      refine lv_aload_n hx hb dX9_change_132 rfl (lv_at hl 1 rfl) ?_
      refine lv_iload_n hx hb dX9_change_133 rfl (lv_at hl 2 rfl) ?_
      refine lv_bipush (v := 11) hx hb dX9_change_134 (by decide) ?_
      refine lv_aload_n hx hb dX9_change_136 rfl (lv_at hl 1 rfl) ?_
      obtain ⟨hb577, e577, hat577, hk577⟩ := hT.o10 hw.1
      obtain ⟨f577_0, f577_1, f577_3, f577_4, f577_5, f577_6, f577_7, f577_8, f577_9, f577_10, f577_11, f577_12, f577_13, f577_14, f577_15, f577_16, f577_17, rfl, c577_2, c577_3, c577_4, c577_12, t577_1, t577_8, t577_9, c577_sd, t577_10, t577_11, t577_17⟩ := hk577
      have hP : va_P D vwCl [(w, .inr (9, [.int f577_0, .ref f577_1, .int (nI ((κ w).2.2.1)), .int (nI f577_3), .int (nI f577_4), .int f577_5, .int f577_6, .int f577_7, .ref f577_8, .ref f577_9, .ref f577_10, .ref f577_11, .int (nI f577_12), .int f577_13, .int f577_14, .int f577_15, .int f577_16, .ref f577_17]))] _ := va_P.cons hat577 va_P.nil
      refine va_get (D := D) (ci := 9) (v := .ref f577_8) (C := RX9) (T := TX9) (N := 18) hx hb hts iX9_change_9 hown hN.1 hP 0 rfl rfl 8 (by decide) (hts _ mX9_change_1) (fun _ h9 => h9) rfl dX9_change_137 ?_
      refine lv_iconst (v := 1) hx hb dX9_change_140 (by decide) ?_
      obtain ⟨hb578, e578, hat578, hk578⟩ := hT.o24 t577_8.1
      obtain ⟨g578, rfl, q578⟩ := hk578
      have hP : va_P D vwCl [(f577_8, .inl (cs 0, 45783, .inl g578)), (w, .inr (9, [.int f577_0, .ref f577_1, .int (nI ((κ w).2.2.1)), .int (nI f577_3), .int (nI f577_4), .int f577_5, .int f577_6, .int f577_7, .ref f577_8, .ref f577_9, .ref f577_10, .ref f577_11, .int (nI f577_12), .int f577_13, .int f577_14, .int f577_15, .int f577_16, .ref f577_17]))] _ := va_P.cons hat578 hP
      refine ld_i (v := (g578 1)) hx hb hN hP 0 rfl (vp_in_nI (n := 1) (N := 45783) (by omega) (by omega)) (by rw [(show (1 : Int32).toNatClampNeg = 1 from nI_clamp (n := 1) (by omega))]) dX9_change_141 ?_
      refine gn_i (fun x579 => ?_)
      refine cv_v (As := [.int (nI n), .int 11, .int x579]) (rest := []) (b := w) ⟨hx, hb, hml, hown, hts⟩ (c_X9_set hT (w := w) hw (n := n) (k := 11) (x := x579) (by first | omega | decide | assumption) (by first | omega | decide | assumption)) (cwV 3 hts gX9_change_X9_set rfl rfl rfl hdX9_set_v ⟨Nat.le_of_ble_eq_true rfl, Nat.le_of_ble_eq_true rfl⟩) hN hL (rcv10 hN hT hw.1) rfl rfl hl.1 (Nat.le_of_ble_eq_true rfl) dX9_change_142 (Nat.zero_le _) (Nat.zero_le _) (fun H1 locs hL hqr580 => ?_)
      obtain ⟨hT1, hF1⟩ := hqr580
      have hF := hF.tr (hF1.mono (by simp))
      have hT := hT1
      refine lv_aload_n hx hb dX9_change_145 rfl (lv_at hl 1 rfl) ?_
      refine lv_iload_n hx hb dX9_change_146 rfl (lv_at hl 2 rfl) ?_
      refine cv_v (As := [.int (nI n)]) (rest := []) (b := w) ⟨hx, hb, hml, hown, hts⟩ (c_X9_dropPlan hT (w := w) hw (n := n) (by first | omega | decide | assumption)) (cwV 1 hts gX9_change_X9_dropPlan rfl rfl rfl hdX9_dropPlan_v ⟨Nat.le_of_ble_eq_true rfl, Nat.le_of_ble_eq_true rfl⟩) hN hL (rcv10 hN hT hw.1) rfl rfl hl.1 (Nat.le_of_ble_eq_true rfl) dX9_change_147 (Nat.zero_le _) (Nat.zero_le _) (fun H1 locs hL hqr581 => ?_)
      obtain ⟨hT1, hF1⟩ := hqr581
      have hF := hF.tr (hF1.mono (by simp))
      have hT := hT1
      refine lv_aload_n hx hb dX9_change_150 rfl (lv_at hl 1 rfl) ?_
      obtain ⟨hb582, e582, hat582, hk582⟩ := hT.o10 hw.1
      obtain ⟨f582_0, f582_1, f582_3, f582_4, f582_5, f582_6, f582_7, f582_8, f582_9, f582_10, f582_11, f582_12, f582_13, f582_14, f582_15, f582_16, f582_17, rfl, c582_2, c582_3, c582_4, c582_12, t582_1, t582_8, t582_9, c582_sd, t582_10, t582_11, t582_17⟩ := hk582
      have hP : va_P D vwCl [(w, .inr (9, [.int f582_0, .ref f582_1, .int (nI ((κ w).2.2.1)), .int (nI f582_3), .int (nI f582_4), .int f582_5, .int f582_6, .int f582_7, .ref f582_8, .ref f582_9, .ref f582_10, .ref f582_11, .int (nI f582_12), .int f582_13, .int f582_14, .int f582_15, .int f582_16, .ref f582_17]))] _ := va_P.cons hat582 va_P.nil
      refine va_get (D := D) (ci := 9) (v := .ref f582_8) (C := RX9) (T := TX9) (N := 18) hx hb hts iX9_change_9 hown hN.1 hP 0 rfl rfl 8 (by decide) (hts _ mX9_change_1) (fun _ h9 => h9) rfl dX9_change_151 ?_
      refine lv_bipush (v := 9) hx hb dX9_change_154 (by decide) ?_
      refine lv_dup2_11 hx hb dX9_change_156 rfl rfl ?_
      obtain ⟨hb583, e583, hat583, hk583⟩ := hT.o24 t582_8.1
      obtain ⟨g583, rfl, q583⟩ := hk583
      have hP : va_P D vwCl [(f582_8, .inl (cs 0, 45783, .inl g583)), (w, .inr (9, [.int f582_0, .ref f582_1, .int (nI ((κ w).2.2.1)), .int (nI f582_3), .int (nI f582_4), .int f582_5, .int f582_6, .int f582_7, .ref f582_8, .ref f582_9, .ref f582_10, .ref f582_11, .int (nI f582_12), .int f582_13, .int f582_14, .int f582_15, .int f582_16, .ref f582_17]))] _ := va_P.cons hat583 hP
      refine ld_i (v := (g583 9)) hx hb hN hP 0 rfl (vp_in_nI (n := 9) (N := 45783) (by omega) (by omega)) (by rw [(show (9 : Int32).toNatClampNeg = 9 from nI_clamp (n := 9) (by omega))]) dX9_change_157 ?_
      refine gn_i (fun x584 => ?_)
      refine lv_iconst (v := 1) hx hb dX9_change_158 (by decide) ?_
      refine lv_iadd hx hb dX9_change_159 ?_
      refine gn_i (fun x585 => ?_)
      have hB : Bx B0 D _ [(f582_8, .inl (cs 0, 45783, .inl g583)), (w, .inr (9, [.int f582_0, .ref f582_1, .int (nI ((κ w).2.2.1)), .int (nI f582_3), .int (nI f582_4), .int f582_5, .int f582_6, .int f582_7, .ref f582_8, .ref f582_9, .ref f582_10, .ref f582_11, .int (nI f582_12), .int f582_13, .int f582_14, .int f582_15, .int f582_16, .ref f582_17]))] [] _ _ := Bx.of (fun a => (κ a).1) hL hP (fa_c hb583 (fa_c hb582 fa_n)) (by simp only [List.map_cons, List.map_nil, t582_8.1, hw.1]; decide)
      refine b_i hx hb hN hB 0 rfl (vp_in_nI (n := 9) (N := 45783) (by omega) (by omega)) (.inl rfl) dX9_change_160 (fun H locs hB => ?_)
      rw [(show (9 : Int32).toNatClampNeg = 9 from nI_clamp (n := 9) (by omega))] at hB
      have hB : Bx B0 D _ [(f582_8, .inl (cs 0, 45783, .inl (upd g583 9 x585))), (w, .inr (9, [.int f582_0, .ref f582_1, .int (nI ((κ w).2.2.1)), .int (nI f582_3), .int (nI f582_4), .int f582_5, .int f582_6, .int f582_7, .ref f582_8, .ref f582_9, .ref f582_10, .ref f582_11, .int (nI f582_12), .int f582_13, .int f582_14, .int f582_15, .int f582_16, .ref f582_17]))] [f582_8] _ _ := hB
      have z586 := DOK.sf q583 (k := 9) (by omega) (x := x585)
      refine lv_aload_n hx hb dX9_change_161 rfl (lv_at hl 1 rfl) ?_
      refine va_get (D := D) (ci := 9) (v := .ref f582_8) (C := RX9) (T := TX9) (N := 18) hx hb hts iX9_change_9 hown hN.1 hB.1 1 rfl rfl 8 (by decide) (hts _ mX9_change_1) (fun _ h9 => h9) rfl dX9_change_162 ?_
      refine lv_bipush (v := 10) hx hb dX9_change_165 (by decide) ?_
      refine lv_dup2_11 hx hb dX9_change_167 rfl rfl ?_
      refine ld_i (v := ((upd g583 9 x585) 10)) hx hb hN hB.1 0 rfl (vp_in_nI (n := 10) (N := 45783) (by omega) (by omega)) (by rw [(show (10 : Int32).toNatClampNeg = 10 from nI_clamp (n := 10) (by omega))]) dX9_change_168 ?_
      refine gn_i (fun x587 => ?_)
      refine lv_iload_n hx hb dX9_change_169 rfl (lv_at hl 0 rfl) ?_
      refine lv_iadd hx hb dX9_change_170 ?_
      refine gn_i (fun x588 => ?_)
      refine b_i hx hb hN hB 0 rfl (vp_in_nI (n := 10) (N := 45783) (by omega) (by omega)) (.inr ⟨rfl, List.mem_of_getElem? (i := 0) rfl⟩) dX9_change_171 (fun H locs hB => ?_)
      rw [(show (10 : Int32).toNatClampNeg = 10 from nI_clamp (n := 10) (by omega))] at hB
      have hB : Bx B0 D _ [(f582_8, .inl (cs 0, 45783, .inl (upd (upd g583 9 x585) 10 x588))), (w, .inr (9, [.int f582_0, .ref f582_1, .int (nI ((κ w).2.2.1)), .int (nI f582_3), .int (nI f582_4), .int f582_5, .int f582_6, .int f582_7, .ref f582_8, .ref f582_9, .ref f582_10, .ref f582_11, .int (nI f582_12), .int f582_13, .int f582_14, .int f582_15, .int f582_16, .ref f582_17]))] [f582_8] _ _ := hB
      have z589 := DOK.sf z586 (k := 10) (by omega) (x := x588)
      have hT : WT B0 D cs T κ _ := hT.close hB ⟨⟨0, _, rfl, ok_24 t582_8.1 ⟨_, rfl, z589⟩⟩, trivial⟩
      have hF : Fr B0 [12] κ H0 _ := hF.close hB (fa_c (by simp [t582_8.2]) fa_n)
      have hL : OkL B0 _ := hB.2.2.2.2.2
      have hP : va_P D vwCl [(f582_8, .inl (cs 0, 45783, .inl (upd (upd g583 9 x585) 10 x588))), (w, .inr (9, [.int f582_0, .ref f582_1, .int (nI ((κ w).2.2.1)), .int (nI f582_3), .int (nI f582_4), .int f582_5, .int f582_6, .int f582_7, .ref f582_8, .ref f582_9, .ref f582_10, .ref f582_11, .int (nI f582_12), .int f582_13, .int f582_14, .int f582_15, .int f582_16, .ref f582_17]))] _ := hB.1
      exact en_v hx hb hr hlocks hL (Nat.zero_le _) (Nat.zero_le _) dX9_change_172 (⟨hT, hF⟩)
    · refine lv_aload_n hx hb dX9_change_40 rfl (lv_at hl 1 rfl) ?_
      refine va_get (D := D) (ci := 9) (v := .ref f564_8) (C := RX9) (T := TX9) (N := 18) hx hb hts iX9_change_9 hown hN.1 hP 1 rfl rfl 8 (by decide) (hts _ mX9_change_1) (fun _ h9 => h9) rfl dX9_change_41 ?_
      refine lv_bipush (v := 21) hx hb dX9_change_44 (by decide) ?_
      refine lv_aload_n hx hb dX9_change_46 rfl (lv_at hl 1 rfl) ?_
      refine va_get (D := D) (ci := 9) (v := .ref f564_8) (C := RX9) (T := TX9) (N := 18) hx hb hts iX9_change_9 hown hN.1 hP 1 rfl rfl 8 (by decide) (hts _ mX9_change_1) (fun _ h9 => h9) rfl dX9_change_47 ?_
      refine lv_bipush (v := 21) hx hb dX9_change_50 (by decide) ?_
      refine ld_i (v := (g565 21)) hx hb hN hP 0 rfl (vp_in_nI (n := 21) (N := 45783) (by omega) (by omega)) (by rw [(show (21 : Int32).toNatClampNeg = 21 from nI_clamp (n := 21) (by omega))]) dX9_change_52 ?_
      refine gn_i (fun x590 => ?_)
      refine lv_iconst (v := (-1)) hx hb dX9_change_53 (by decide) ?_
      refine lv_icmp_ne (tgt := 66) hx hb dX9_change_54 (by decide) (fun c591 => ?_) (fun c591 => ?_)
      · refine lv_aload_n hx hb dX9_change_66 rfl (lv_at hl 1 rfl) ?_
        refine va_get (D := D) (ci := 9) (v := .ref f564_8) (C := RX9) (T := TX9) (N := 18) hx hb hts iX9_change_9 hown hN.1 hP 1 rfl rfl 8 (by decide) (hts _ mX9_change_1) (fun _ h9 => h9) rfl dX9_change_67 ?_
        refine lv_bipush (v := 21) hx hb dX9_change_70 (by decide) ?_
        refine ld_i (v := (g565 21)) hx hb hN hP 0 rfl (vp_in_nI (n := 21) (N := 45783) (by omega) (by omega)) (by rw [(show (21 : Int32).toNatClampNeg = 21 from nI_clamp (n := 21) (by omega))]) dX9_change_72 ?_
        refine gn_i (fun x592 => ?_)
        have hB : Bx B0 D _ [(f564_8, .inl (cs 0, 45783, .inl g565)), (w, .inr (9, [.int f564_0, .ref f564_1, .int (nI ((κ w).2.2.1)), .int (nI f564_3), .int (nI f564_4), .int f564_5, .int f564_6, .int f564_7, .ref f564_8, .ref f564_9, .ref f564_10, .ref f564_11, .int (nI f564_12), .int f564_13, .int f564_14, .int f564_15, .int f564_16, .ref f564_17]))] [] _ _ := Bx.of (fun a => (κ a).1) hL hP (fa_c hb565 (fa_c hb564 fa_n)) (by simp only [List.map_cons, List.map_nil, t564_8.1, hw.1]; decide)
        refine b_i hx hb hN hB 0 rfl (vp_in_nI (n := 21) (N := 45783) (by omega) (by omega)) (.inl rfl) dX9_change_73 (fun H locs hB => ?_)
        rw [(show (21 : Int32).toNatClampNeg = 21 from nI_clamp (n := 21) (by omega))] at hB
        have hB : Bx B0 D _ [(f564_8, .inl (cs 0, 45783, .inl (upd g565 21 x592))), (w, .inr (9, [.int f564_0, .ref f564_1, .int (nI ((κ w).2.2.1)), .int (nI f564_3), .int (nI f564_4), .int f564_5, .int f564_6, .int f564_7, .ref f564_8, .ref f564_9, .ref f564_10, .ref f564_11, .int (nI f564_12), .int f564_13, .int f564_14, .int f564_15, .int f564_16, .ref f564_17]))] [f564_8] _ _ := hB
        have z593 := DOK.sf q565 (k := 21) (by omega) (x := x592)
        refine lv_aload_n hx hb dX9_change_74 rfl (lv_at hl 1 rfl) ?_
        refine va_get (D := D) (ci := 9) (v := .ref f564_8) (C := RX9) (T := TX9) (N := 18) hx hb hts iX9_change_9 hown hN.1 hB.1 1 rfl rfl 8 (by decide) (hts _ mX9_change_1) (fun _ h9 => h9) rfl dX9_change_75 ?_
        refine lv_bipush (v := 22) hx hb dX9_change_78 (by decide) ?_
        refine lv_aload_n hx hb dX9_change_80 rfl (lv_at hl 1 rfl) ?_
        refine va_get (D := D) (ci := 9) (v := .ref f564_8) (C := RX9) (T := TX9) (N := 18) hx hb hts iX9_change_9 hown hN.1 hB.1 1 rfl rfl 8 (by decide) (hts _ mX9_change_1) (fun _ h9 => h9) rfl dX9_change_81 ?_
        refine lv_iconst (v := 1) hx hb dX9_change_84 (by decide) ?_
        refine ld_i (v := ((upd g565 21 x592) 1)) hx hb hN hB.1 0 rfl (vp_in_nI (n := 1) (N := 45783) (by omega) (by omega)) (by rw [(show (1 : Int32).toNatClampNeg = 1 from nI_clamp (n := 1) (by omega))]) dX9_change_85 ?_
        refine gn_i (fun x594 => ?_)
        refine b_i hx hb hN hB 0 rfl (vp_in_nI (n := 22) (N := 45783) (by omega) (by omega)) (.inr ⟨rfl, List.mem_of_getElem? (i := 0) rfl⟩) dX9_change_86 (fun H locs hB => ?_)
        rw [(show (22 : Int32).toNatClampNeg = 22 from nI_clamp (n := 22) (by omega))] at hB
        have hB : Bx B0 D _ [(f564_8, .inl (cs 0, 45783, .inl (upd (upd g565 21 x592) 22 x594))), (w, .inr (9, [.int f564_0, .ref f564_1, .int (nI ((κ w).2.2.1)), .int (nI f564_3), .int (nI f564_4), .int f564_5, .int f564_6, .int f564_7, .ref f564_8, .ref f564_9, .ref f564_10, .ref f564_11, .int (nI f564_12), .int f564_13, .int f564_14, .int f564_15, .int f564_16, .ref f564_17]))] [f564_8] _ _ := hB
        have z595 := DOK.sf z593 (k := 22) (by omega) (x := x594)
        refine lv_aload_n hx hb dX9_change_87 rfl (lv_at hl 1 rfl) ?_
        refine lv_iload_n hx hb dX9_change_88 rfl (lv_at hl 2 rfl) ?_
        refine lv_iconst (v := 4) hx hb dX9_change_89 (by decide) ?_
        refine lv_aload_n hx hb dX9_change_90 rfl (lv_at hl 1 rfl) ?_
        refine lv_iload_n hx hb dX9_change_91 rfl (lv_at hl 2 rfl) ?_
        refine lv_bipush (v := 7) hx hb dX9_change_92 (by decide) ?_
        have hT : WT B0 D cs T κ _ := hT.close hB ⟨⟨0, _, rfl, ok_24 t564_8.1 ⟨_, rfl, z595⟩⟩, trivial⟩
        have hF : Fr B0 [12] κ H0 _ := hF.close hB (fa_c (by simp [t564_8.2]) fa_n)
        have hL : OkL B0 _ := hB.2.2.2.2.2
        have hP : va_P D vwCl [(f564_8, .inl (cs 0, 45783, .inl (upd (upd g565 21 x592) 22 x594))), (w, .inr (9, [.int f564_0, .ref f564_1, .int (nI ((κ w).2.2.1)), .int (nI f564_3), .int (nI f564_4), .int f564_5, .int f564_6, .int f564_7, .ref f564_8, .ref f564_9, .ref f564_10, .ref f564_11, .int (nI f564_12), .int f564_13, .int f564_14, .int f564_15, .int f564_16, .ref f564_17]))] _ := hB.1
        refine cv_i (As := [.int (nI n), .int 7]) (rest := [.int 4, .int (nI n), .ref w]) (b := w) ⟨hx, hb, hml, hown, hts⟩ (c_X9_of hT (w := w) hw (n := n) (k := 7) (by first | omega | decide | assumption) (by first | omega | decide | assumption)) (cwV 2 hts gX9_change_X9_of rfl rfl rfl hdX9_of_v ⟨Nat.le_of_ble_eq_true rfl, Nat.le_of_ble_eq_true rfl⟩) hN hL (rcv10 hN hT hw.1) rfl rfl hl.1 (Nat.le_of_ble_eq_true rfl) dX9_change_94 (Nat.zero_le _) (Nat.zero_le _) (fun r596 H1 locs hL hqr596 => ?_)
        obtain rfl := hqr596.symm
        refine cv_v (As := [.int (nI n), .int 4, .int r596]) (rest := []) (b := w) ⟨hx, hb, hml, hown, hts⟩ (c_X9_set hT (w := w) hw (n := n) (k := 4) (x := r596) (by first | omega | decide | assumption) (by first | omega | decide | assumption)) (cwV 3 hts gX9_change_X9_set rfl rfl rfl hdX9_set_v ⟨Nat.le_of_ble_eq_true rfl, Nat.le_of_ble_eq_true rfl⟩) hN hL (rcv10 hN hT hw.1) rfl rfl hl.1 (Nat.le_of_ble_eq_true rfl) dX9_change_97 (Nat.zero_le _) (Nat.zero_le _) (fun H1 locs hL hqr597 => ?_)
        obtain ⟨hT1, hF1⟩ := hqr597
        have hF := hF.tr (hF1.mono (by simp))
        have hT := hT1
        refine lv_aload_n hx hb dX9_change_100 rfl (lv_at hl 1 rfl) ?_
        refine lv_iload_n hx hb dX9_change_101 rfl (lv_at hl 2 rfl) ?_
        refine lv_bipush (v := 9) hx hb dX9_change_102 (by decide) ?_
        refine lv_aload_n hx hb dX9_change_104 rfl (lv_at hl 1 rfl) ?_
        refine lv_iload_n hx hb dX9_change_105 rfl (lv_at hl 2 rfl) ?_
        refine lv_bipush (v := 9) hx hb dX9_change_106 (by decide) ?_
        refine cv_i (As := [.int (nI n), .int 9]) (rest := [.int 9, .int (nI n), .ref w]) (b := w) ⟨hx, hb, hml, hown, hts⟩ (c_X9_of hT (w := w) hw (n := n) (k := 9) (by first | omega | decide | assumption) (by first | omega | decide | assumption)) (cwV 2 hts gX9_change_X9_of rfl rfl rfl hdX9_of_v ⟨Nat.le_of_ble_eq_true rfl, Nat.le_of_ble_eq_true rfl⟩) hN hL (rcv10 hN hT hw.1) rfl rfl hl.1 (Nat.le_of_ble_eq_true rfl) dX9_change_108 (Nat.zero_le _) (Nat.zero_le _) (fun r598 H1 locs hL hqr598 => ?_)
        obtain rfl := hqr598.symm
        refine lv_iconst (v := 1) hx hb dX9_change_111 (by decide) ?_
        refine lv_iadd hx hb dX9_change_112 ?_
        refine gn_i (fun x599 => ?_)
        refine cv_v (As := [.int (nI n), .int 9, .int x599]) (rest := []) (b := w) ⟨hx, hb, hml, hown, hts⟩ (c_X9_set hT (w := w) hw (n := n) (k := 9) (x := x599) (by first | omega | decide | assumption) (by first | omega | decide | assumption)) (cwV 3 hts gX9_change_X9_set rfl rfl rfl hdX9_set_v ⟨Nat.le_of_ble_eq_true rfl, Nat.le_of_ble_eq_true rfl⟩) hN hL (rcv10 hN hT hw.1) rfl rfl hl.1 (Nat.le_of_ble_eq_true rfl) dX9_change_113 (Nat.zero_le _) (Nat.zero_le _) (fun H1 locs hL hqr600 => ?_)
        obtain ⟨hT1, hF1⟩ := hqr600
        have hF := hF.tr (hF1.mono (by simp))
        have hT := hT1
        refine lv_aload_n hx hb dX9_change_116 rfl (lv_at hl 1 rfl) ?_
        refine lv_iload_n hx hb dX9_change_117 rfl (lv_at hl 2 rfl) ?_
        refine lv_bipush (v := 10) hx hb dX9_change_118 (by decide) ?_
        refine lv_aload_n hx hb dX9_change_120 rfl (lv_at hl 1 rfl) ?_
        refine lv_iload_n hx hb dX9_change_121 rfl (lv_at hl 2 rfl) ?_
        refine lv_bipush (v := 10) hx hb dX9_change_122 (by decide) ?_
        refine cv_i (As := [.int (nI n), .int 10]) (rest := [.int 10, .int (nI n), .ref w]) (b := w) ⟨hx, hb, hml, hown, hts⟩ (c_X9_of hT (w := w) hw (n := n) (k := 10) (by first | omega | decide | assumption) (by first | omega | decide | assumption)) (cwV 2 hts gX9_change_X9_of rfl rfl rfl hdX9_of_v ⟨Nat.le_of_ble_eq_true rfl, Nat.le_of_ble_eq_true rfl⟩) hN hL (rcv10 hN hT hw.1) rfl rfl hl.1 (Nat.le_of_ble_eq_true rfl) dX9_change_124 (Nat.zero_le _) (Nat.zero_le _) (fun r601 H1 locs hL hqr601 => ?_)
        obtain rfl := hqr601.symm
        refine lv_iload_n hx hb dX9_change_127 rfl (lv_at hl 0 rfl) ?_
        refine lv_iadd hx hb dX9_change_128 ?_
        refine gn_i (fun x602 => ?_)
        refine cv_v (As := [.int (nI n), .int 10, .int x602]) (rest := []) (b := w) ⟨hx, hb, hml, hown, hts⟩ (c_X9_set hT (w := w) hw (n := n) (k := 10) (x := x602) (by first | omega | decide | assumption) (by first | omega | decide | assumption)) (cwV 3 hts gX9_change_X9_set rfl rfl rfl hdX9_set_v ⟨Nat.le_of_ble_eq_true rfl, Nat.le_of_ble_eq_true rfl⟩) hN hL (rcv10 hN hT hw.1) rfl rfl hl.1 (Nat.le_of_ble_eq_true rfl) dX9_change_129 (Nat.zero_le _) (Nat.zero_le _) (fun H1 locs hL hqr603 => ?_)
        obtain ⟨hT1, hF1⟩ := hqr603
        have hF := hF.tr (hF1.mono (by simp))
        have hT := hT1
        refine lv_aload_n hx hb dX9_change_132 rfl (lv_at hl 1 rfl) ?_
        refine lv_iload_n hx hb dX9_change_133 rfl (lv_at hl 2 rfl) ?_
        refine lv_bipush (v := 11) hx hb dX9_change_134 (by decide) ?_
        refine lv_aload_n hx hb dX9_change_136 rfl (lv_at hl 1 rfl) ?_
        obtain ⟨hb604, e604, hat604, hk604⟩ := hT.o10 hw.1
        obtain ⟨f604_0, f604_1, f604_3, f604_4, f604_5, f604_6, f604_7, f604_8, f604_9, f604_10, f604_11, f604_12, f604_13, f604_14, f604_15, f604_16, f604_17, rfl, c604_2, c604_3, c604_4, c604_12, t604_1, t604_8, t604_9, c604_sd, t604_10, t604_11, t604_17⟩ := hk604
        have hP : va_P D vwCl [(w, .inr (9, [.int f604_0, .ref f604_1, .int (nI ((κ w).2.2.1)), .int (nI f604_3), .int (nI f604_4), .int f604_5, .int f604_6, .int f604_7, .ref f604_8, .ref f604_9, .ref f604_10, .ref f604_11, .int (nI f604_12), .int f604_13, .int f604_14, .int f604_15, .int f604_16, .ref f604_17]))] _ := va_P.cons hat604 va_P.nil
        refine va_get (D := D) (ci := 9) (v := .ref f604_8) (C := RX9) (T := TX9) (N := 18) hx hb hts iX9_change_9 hown hN.1 hP 0 rfl rfl 8 (by decide) (hts _ mX9_change_1) (fun _ h9 => h9) rfl dX9_change_137 ?_
        refine lv_iconst (v := 1) hx hb dX9_change_140 (by decide) ?_
        obtain ⟨hb605, e605, hat605, hk605⟩ := hT.o24 t604_8.1
        obtain ⟨g605, rfl, q605⟩ := hk605
        have hP : va_P D vwCl [(f604_8, .inl (cs 0, 45783, .inl g605)), (w, .inr (9, [.int f604_0, .ref f604_1, .int (nI ((κ w).2.2.1)), .int (nI f604_3), .int (nI f604_4), .int f604_5, .int f604_6, .int f604_7, .ref f604_8, .ref f604_9, .ref f604_10, .ref f604_11, .int (nI f604_12), .int f604_13, .int f604_14, .int f604_15, .int f604_16, .ref f604_17]))] _ := va_P.cons hat605 hP
        refine ld_i (v := (g605 1)) hx hb hN hP 0 rfl (vp_in_nI (n := 1) (N := 45783) (by omega) (by omega)) (by rw [(show (1 : Int32).toNatClampNeg = 1 from nI_clamp (n := 1) (by omega))]) dX9_change_141 ?_
        refine gn_i (fun x606 => ?_)
        refine cv_v (As := [.int (nI n), .int 11, .int x606]) (rest := []) (b := w) ⟨hx, hb, hml, hown, hts⟩ (c_X9_set hT (w := w) hw (n := n) (k := 11) (x := x606) (by first | omega | decide | assumption) (by first | omega | decide | assumption)) (cwV 3 hts gX9_change_X9_set rfl rfl rfl hdX9_set_v ⟨Nat.le_of_ble_eq_true rfl, Nat.le_of_ble_eq_true rfl⟩) hN hL (rcv10 hN hT hw.1) rfl rfl hl.1 (Nat.le_of_ble_eq_true rfl) dX9_change_142 (Nat.zero_le _) (Nat.zero_le _) (fun H1 locs hL hqr607 => ?_)
        obtain ⟨hT1, hF1⟩ := hqr607
        have hF := hF.tr (hF1.mono (by simp))
        have hT := hT1
        refine lv_aload_n hx hb dX9_change_145 rfl (lv_at hl 1 rfl) ?_
        refine lv_iload_n hx hb dX9_change_146 rfl (lv_at hl 2 rfl) ?_
        refine cv_v (As := [.int (nI n)]) (rest := []) (b := w) ⟨hx, hb, hml, hown, hts⟩ (c_X9_dropPlan hT (w := w) hw (n := n) (by first | omega | decide | assumption)) (cwV 1 hts gX9_change_X9_dropPlan rfl rfl rfl hdX9_dropPlan_v ⟨Nat.le_of_ble_eq_true rfl, Nat.le_of_ble_eq_true rfl⟩) hN hL (rcv10 hN hT hw.1) rfl rfl hl.1 (Nat.le_of_ble_eq_true rfl) dX9_change_147 (Nat.zero_le _) (Nat.zero_le _) (fun H1 locs hL hqr608 => ?_)
        obtain ⟨hT1, hF1⟩ := hqr608
        have hF := hF.tr (hF1.mono (by simp))
        have hT := hT1
        refine lv_aload_n hx hb dX9_change_150 rfl (lv_at hl 1 rfl) ?_
        obtain ⟨hb609, e609, hat609, hk609⟩ := hT.o10 hw.1
        obtain ⟨f609_0, f609_1, f609_3, f609_4, f609_5, f609_6, f609_7, f609_8, f609_9, f609_10, f609_11, f609_12, f609_13, f609_14, f609_15, f609_16, f609_17, rfl, c609_2, c609_3, c609_4, c609_12, t609_1, t609_8, t609_9, c609_sd, t609_10, t609_11, t609_17⟩ := hk609
        have hP : va_P D vwCl [(w, .inr (9, [.int f609_0, .ref f609_1, .int (nI ((κ w).2.2.1)), .int (nI f609_3), .int (nI f609_4), .int f609_5, .int f609_6, .int f609_7, .ref f609_8, .ref f609_9, .ref f609_10, .ref f609_11, .int (nI f609_12), .int f609_13, .int f609_14, .int f609_15, .int f609_16, .ref f609_17]))] _ := va_P.cons hat609 va_P.nil
        refine va_get (D := D) (ci := 9) (v := .ref f609_8) (C := RX9) (T := TX9) (N := 18) hx hb hts iX9_change_9 hown hN.1 hP 0 rfl rfl 8 (by decide) (hts _ mX9_change_1) (fun _ h9 => h9) rfl dX9_change_151 ?_
        refine lv_bipush (v := 9) hx hb dX9_change_154 (by decide) ?_
        refine lv_dup2_11 hx hb dX9_change_156 rfl rfl ?_
        obtain ⟨hb610, e610, hat610, hk610⟩ := hT.o24 t609_8.1
        obtain ⟨g610, rfl, q610⟩ := hk610
        have hP : va_P D vwCl [(f609_8, .inl (cs 0, 45783, .inl g610)), (w, .inr (9, [.int f609_0, .ref f609_1, .int (nI ((κ w).2.2.1)), .int (nI f609_3), .int (nI f609_4), .int f609_5, .int f609_6, .int f609_7, .ref f609_8, .ref f609_9, .ref f609_10, .ref f609_11, .int (nI f609_12), .int f609_13, .int f609_14, .int f609_15, .int f609_16, .ref f609_17]))] _ := va_P.cons hat610 hP
        refine ld_i (v := (g610 9)) hx hb hN hP 0 rfl (vp_in_nI (n := 9) (N := 45783) (by omega) (by omega)) (by rw [(show (9 : Int32).toNatClampNeg = 9 from nI_clamp (n := 9) (by omega))]) dX9_change_157 ?_
        refine gn_i (fun x611 => ?_)
        refine lv_iconst (v := 1) hx hb dX9_change_158 (by decide) ?_
        refine lv_iadd hx hb dX9_change_159 ?_
        refine gn_i (fun x612 => ?_)
        have hB : Bx B0 D _ [(f609_8, .inl (cs 0, 45783, .inl g610)), (w, .inr (9, [.int f609_0, .ref f609_1, .int (nI ((κ w).2.2.1)), .int (nI f609_3), .int (nI f609_4), .int f609_5, .int f609_6, .int f609_7, .ref f609_8, .ref f609_9, .ref f609_10, .ref f609_11, .int (nI f609_12), .int f609_13, .int f609_14, .int f609_15, .int f609_16, .ref f609_17]))] [] _ _ := Bx.of (fun a => (κ a).1) hL hP (fa_c hb610 (fa_c hb609 fa_n)) (by simp only [List.map_cons, List.map_nil, t609_8.1, hw.1]; decide)
        refine b_i hx hb hN hB 0 rfl (vp_in_nI (n := 9) (N := 45783) (by omega) (by omega)) (.inl rfl) dX9_change_160 (fun H locs hB => ?_)
        rw [(show (9 : Int32).toNatClampNeg = 9 from nI_clamp (n := 9) (by omega))] at hB
        have hB : Bx B0 D _ [(f609_8, .inl (cs 0, 45783, .inl (upd g610 9 x612))), (w, .inr (9, [.int f609_0, .ref f609_1, .int (nI ((κ w).2.2.1)), .int (nI f609_3), .int (nI f609_4), .int f609_5, .int f609_6, .int f609_7, .ref f609_8, .ref f609_9, .ref f609_10, .ref f609_11, .int (nI f609_12), .int f609_13, .int f609_14, .int f609_15, .int f609_16, .ref f609_17]))] [f609_8] _ _ := hB
        have z613 := DOK.sf q610 (k := 9) (by omega) (x := x612)
        refine lv_aload_n hx hb dX9_change_161 rfl (lv_at hl 1 rfl) ?_
        refine va_get (D := D) (ci := 9) (v := .ref f609_8) (C := RX9) (T := TX9) (N := 18) hx hb hts iX9_change_9 hown hN.1 hB.1 1 rfl rfl 8 (by decide) (hts _ mX9_change_1) (fun _ h9 => h9) rfl dX9_change_162 ?_
        refine lv_bipush (v := 10) hx hb dX9_change_165 (by decide) ?_
        refine lv_dup2_11 hx hb dX9_change_167 rfl rfl ?_
        refine ld_i (v := ((upd g610 9 x612) 10)) hx hb hN hB.1 0 rfl (vp_in_nI (n := 10) (N := 45783) (by omega) (by omega)) (by rw [(show (10 : Int32).toNatClampNeg = 10 from nI_clamp (n := 10) (by omega))]) dX9_change_168 ?_
        refine gn_i (fun x614 => ?_)
        refine lv_iload_n hx hb dX9_change_169 rfl (lv_at hl 0 rfl) ?_
        refine lv_iadd hx hb dX9_change_170 ?_
        refine gn_i (fun x615 => ?_)
        refine b_i hx hb hN hB 0 rfl (vp_in_nI (n := 10) (N := 45783) (by omega) (by omega)) (.inr ⟨rfl, List.mem_of_getElem? (i := 0) rfl⟩) dX9_change_171 (fun H locs hB => ?_)
        rw [(show (10 : Int32).toNatClampNeg = 10 from nI_clamp (n := 10) (by omega))] at hB
        have hB : Bx B0 D _ [(f609_8, .inl (cs 0, 45783, .inl (upd (upd g610 9 x612) 10 x615))), (w, .inr (9, [.int f609_0, .ref f609_1, .int (nI ((κ w).2.2.1)), .int (nI f609_3), .int (nI f609_4), .int f609_5, .int f609_6, .int f609_7, .ref f609_8, .ref f609_9, .ref f609_10, .ref f609_11, .int (nI f609_12), .int f609_13, .int f609_14, .int f609_15, .int f609_16, .ref f609_17]))] [f609_8] _ _ := hB
        have z616 := DOK.sf z613 (k := 10) (by omega) (x := x615)
        have hT : WT B0 D cs T κ _ := hT.close hB ⟨⟨0, _, rfl, ok_24 t609_8.1 ⟨_, rfl, z616⟩⟩, trivial⟩
        have hF : Fr B0 [12] κ H0 _ := hF.close hB (fa_c (by simp [t609_8.2]) fa_n)
        have hL : OkL B0 _ := hB.2.2.2.2.2
        have hP : va_P D vwCl [(f609_8, .inl (cs 0, 45783, .inl (upd (upd g610 9 x612) 10 x615))), (w, .inr (9, [.int f609_0, .ref f609_1, .int (nI ((κ w).2.2.1)), .int (nI f609_3), .int (nI f609_4), .int f609_5, .int f609_6, .int f609_7, .ref f609_8, .ref f609_9, .ref f609_10, .ref f609_11, .int (nI f609_12), .int f609_13, .int f609_14, .int f609_15, .int f609_16, .ref f609_17]))] _ := hB.1
        exact en_v hx hb hr hlocks hL (Nat.zero_le _) (Nat.zero_le _) dX9_change_172 (⟨hT, hF⟩)
      · refine lv_aload_n hx hb dX9_change_57 rfl (lv_at hl 1 rfl) ?_
        refine va_get (D := D) (ci := 9) (v := .ref f564_8) (C := RX9) (T := TX9) (N := 18) hx hb hts iX9_change_9 hown hN.1 hP 1 rfl rfl 8 (by decide) (hts _ mX9_change_1) (fun _ h9 => h9) rfl dX9_change_58 ?_
        refine lv_iconst (v := 1) hx hb dX9_change_61 (by decide) ?_
        refine ld_i (v := (g565 1)) hx hb hN hP 0 rfl (vp_in_nI (n := 1) (N := 45783) (by omega) (by omega)) (by rw [(show (1 : Int32).toNatClampNeg = 1 from nI_clamp (n := 1) (by omega))]) dX9_change_62 ?_
        refine gn_i (fun x617 => ?_)
        refine lv_goto (tgt := 73) hx hb dX9_change_63 (by decide) ?_
        have hB : Bx B0 D _ [(f564_8, .inl (cs 0, 45783, .inl g565)), (w, .inr (9, [.int f564_0, .ref f564_1, .int (nI ((κ w).2.2.1)), .int (nI f564_3), .int (nI f564_4), .int f564_5, .int f564_6, .int f564_7, .ref f564_8, .ref f564_9, .ref f564_10, .ref f564_11, .int (nI f564_12), .int f564_13, .int f564_14, .int f564_15, .int f564_16, .ref f564_17]))] [] _ _ := Bx.of (fun a => (κ a).1) hL hP (fa_c hb565 (fa_c hb564 fa_n)) (by simp only [List.map_cons, List.map_nil, t564_8.1, hw.1]; decide)
        refine b_i hx hb hN hB 0 rfl (vp_in_nI (n := 21) (N := 45783) (by omega) (by omega)) (.inl rfl) dX9_change_73 (fun H locs hB => ?_)
        rw [(show (21 : Int32).toNatClampNeg = 21 from nI_clamp (n := 21) (by omega))] at hB
        have hB : Bx B0 D _ [(f564_8, .inl (cs 0, 45783, .inl (upd g565 21 x617))), (w, .inr (9, [.int f564_0, .ref f564_1, .int (nI ((κ w).2.2.1)), .int (nI f564_3), .int (nI f564_4), .int f564_5, .int f564_6, .int f564_7, .ref f564_8, .ref f564_9, .ref f564_10, .ref f564_11, .int (nI f564_12), .int f564_13, .int f564_14, .int f564_15, .int f564_16, .ref f564_17]))] [f564_8] _ _ := hB
        have z618 := DOK.sf q565 (k := 21) (by omega) (x := x617)
        refine lv_aload_n hx hb dX9_change_74 rfl (lv_at hl 1 rfl) ?_
        refine va_get (D := D) (ci := 9) (v := .ref f564_8) (C := RX9) (T := TX9) (N := 18) hx hb hts iX9_change_9 hown hN.1 hB.1 1 rfl rfl 8 (by decide) (hts _ mX9_change_1) (fun _ h9 => h9) rfl dX9_change_75 ?_
        refine lv_bipush (v := 22) hx hb dX9_change_78 (by decide) ?_
        refine lv_aload_n hx hb dX9_change_80 rfl (lv_at hl 1 rfl) ?_
        refine va_get (D := D) (ci := 9) (v := .ref f564_8) (C := RX9) (T := TX9) (N := 18) hx hb hts iX9_change_9 hown hN.1 hB.1 1 rfl rfl 8 (by decide) (hts _ mX9_change_1) (fun _ h9 => h9) rfl dX9_change_81 ?_
        refine lv_iconst (v := 1) hx hb dX9_change_84 (by decide) ?_
        refine ld_i (v := ((upd g565 21 x617) 1)) hx hb hN hB.1 0 rfl (vp_in_nI (n := 1) (N := 45783) (by omega) (by omega)) (by rw [(show (1 : Int32).toNatClampNeg = 1 from nI_clamp (n := 1) (by omega))]) dX9_change_85 ?_
        refine gn_i (fun x619 => ?_)
        refine b_i hx hb hN hB 0 rfl (vp_in_nI (n := 22) (N := 45783) (by omega) (by omega)) (.inr ⟨rfl, List.mem_of_getElem? (i := 0) rfl⟩) dX9_change_86 (fun H locs hB => ?_)
        rw [(show (22 : Int32).toNatClampNeg = 22 from nI_clamp (n := 22) (by omega))] at hB
        have hB : Bx B0 D _ [(f564_8, .inl (cs 0, 45783, .inl (upd (upd g565 21 x617) 22 x619))), (w, .inr (9, [.int f564_0, .ref f564_1, .int (nI ((κ w).2.2.1)), .int (nI f564_3), .int (nI f564_4), .int f564_5, .int f564_6, .int f564_7, .ref f564_8, .ref f564_9, .ref f564_10, .ref f564_11, .int (nI f564_12), .int f564_13, .int f564_14, .int f564_15, .int f564_16, .ref f564_17]))] [f564_8] _ _ := hB
        have z620 := DOK.sf z618 (k := 22) (by omega) (x := x619)
        refine lv_aload_n hx hb dX9_change_87 rfl (lv_at hl 1 rfl) ?_
        refine lv_iload_n hx hb dX9_change_88 rfl (lv_at hl 2 rfl) ?_
        refine lv_iconst (v := 4) hx hb dX9_change_89 (by decide) ?_
        refine lv_aload_n hx hb dX9_change_90 rfl (lv_at hl 1 rfl) ?_
        refine lv_iload_n hx hb dX9_change_91 rfl (lv_at hl 2 rfl) ?_
        refine lv_bipush (v := 7) hx hb dX9_change_92 (by decide) ?_
        have hT : WT B0 D cs T κ _ := hT.close hB ⟨⟨0, _, rfl, ok_24 t564_8.1 ⟨_, rfl, z620⟩⟩, trivial⟩
        have hF : Fr B0 [12] κ H0 _ := hF.close hB (fa_c (by simp [t564_8.2]) fa_n)
        have hL : OkL B0 _ := hB.2.2.2.2.2
        have hP : va_P D vwCl [(f564_8, .inl (cs 0, 45783, .inl (upd (upd g565 21 x617) 22 x619))), (w, .inr (9, [.int f564_0, .ref f564_1, .int (nI ((κ w).2.2.1)), .int (nI f564_3), .int (nI f564_4), .int f564_5, .int f564_6, .int f564_7, .ref f564_8, .ref f564_9, .ref f564_10, .ref f564_11, .int (nI f564_12), .int f564_13, .int f564_14, .int f564_15, .int f564_16, .ref f564_17]))] _ := hB.1
        refine cv_i (As := [.int (nI n), .int 7]) (rest := [.int 4, .int (nI n), .ref w]) (b := w) ⟨hx, hb, hml, hown, hts⟩ (c_X9_of hT (w := w) hw (n := n) (k := 7) (by first | omega | decide | assumption) (by first | omega | decide | assumption)) (cwV 2 hts gX9_change_X9_of rfl rfl rfl hdX9_of_v ⟨Nat.le_of_ble_eq_true rfl, Nat.le_of_ble_eq_true rfl⟩) hN hL (rcv10 hN hT hw.1) rfl rfl hl.1 (Nat.le_of_ble_eq_true rfl) dX9_change_94 (Nat.zero_le _) (Nat.zero_le _) (fun r621 H1 locs hL hqr621 => ?_)
        obtain rfl := hqr621.symm
        refine cv_v (As := [.int (nI n), .int 4, .int r621]) (rest := []) (b := w) ⟨hx, hb, hml, hown, hts⟩ (c_X9_set hT (w := w) hw (n := n) (k := 4) (x := r621) (by first | omega | decide | assumption) (by first | omega | decide | assumption)) (cwV 3 hts gX9_change_X9_set rfl rfl rfl hdX9_set_v ⟨Nat.le_of_ble_eq_true rfl, Nat.le_of_ble_eq_true rfl⟩) hN hL (rcv10 hN hT hw.1) rfl rfl hl.1 (Nat.le_of_ble_eq_true rfl) dX9_change_97 (Nat.zero_le _) (Nat.zero_le _) (fun H1 locs hL hqr622 => ?_)
        obtain ⟨hT1, hF1⟩ := hqr622
        have hF := hF.tr (hF1.mono (by simp))
        have hT := hT1
        refine lv_aload_n hx hb dX9_change_100 rfl (lv_at hl 1 rfl) ?_
        refine lv_iload_n hx hb dX9_change_101 rfl (lv_at hl 2 rfl) ?_
        refine lv_bipush (v := 9) hx hb dX9_change_102 (by decide) ?_
        refine lv_aload_n hx hb dX9_change_104 rfl (lv_at hl 1 rfl) ?_
        refine lv_iload_n hx hb dX9_change_105 rfl (lv_at hl 2 rfl) ?_
        refine lv_bipush (v := 9) hx hb dX9_change_106 (by decide) ?_
        refine cv_i (As := [.int (nI n), .int 9]) (rest := [.int 9, .int (nI n), .ref w]) (b := w) ⟨hx, hb, hml, hown, hts⟩ (c_X9_of hT (w := w) hw (n := n) (k := 9) (by first | omega | decide | assumption) (by first | omega | decide | assumption)) (cwV 2 hts gX9_change_X9_of rfl rfl rfl hdX9_of_v ⟨Nat.le_of_ble_eq_true rfl, Nat.le_of_ble_eq_true rfl⟩) hN hL (rcv10 hN hT hw.1) rfl rfl hl.1 (Nat.le_of_ble_eq_true rfl) dX9_change_108 (Nat.zero_le _) (Nat.zero_le _) (fun r623 H1 locs hL hqr623 => ?_)
        obtain rfl := hqr623.symm
        refine lv_iconst (v := 1) hx hb dX9_change_111 (by decide) ?_
        refine lv_iadd hx hb dX9_change_112 ?_
        refine gn_i (fun x624 => ?_)
        refine cv_v (As := [.int (nI n), .int 9, .int x624]) (rest := []) (b := w) ⟨hx, hb, hml, hown, hts⟩ (c_X9_set hT (w := w) hw (n := n) (k := 9) (x := x624) (by first | omega | decide | assumption) (by first | omega | decide | assumption)) (cwV 3 hts gX9_change_X9_set rfl rfl rfl hdX9_set_v ⟨Nat.le_of_ble_eq_true rfl, Nat.le_of_ble_eq_true rfl⟩) hN hL (rcv10 hN hT hw.1) rfl rfl hl.1 (Nat.le_of_ble_eq_true rfl) dX9_change_113 (Nat.zero_le _) (Nat.zero_le _) (fun H1 locs hL hqr625 => ?_)
        obtain ⟨hT1, hF1⟩ := hqr625
        have hF := hF.tr (hF1.mono (by simp))
        have hT := hT1
        refine lv_aload_n hx hb dX9_change_116 rfl (lv_at hl 1 rfl) ?_
        refine lv_iload_n hx hb dX9_change_117 rfl (lv_at hl 2 rfl) ?_
        refine lv_bipush (v := 10) hx hb dX9_change_118 (by decide) ?_
        refine lv_aload_n hx hb dX9_change_120 rfl (lv_at hl 1 rfl) ?_
        refine lv_iload_n hx hb dX9_change_121 rfl (lv_at hl 2 rfl) ?_
        refine lv_bipush (v := 10) hx hb dX9_change_122 (by decide) ?_
        refine cv_i (As := [.int (nI n), .int 10]) (rest := [.int 10, .int (nI n), .ref w]) (b := w) ⟨hx, hb, hml, hown, hts⟩ (c_X9_of hT (w := w) hw (n := n) (k := 10) (by first | omega | decide | assumption) (by first | omega | decide | assumption)) (cwV 2 hts gX9_change_X9_of rfl rfl rfl hdX9_of_v ⟨Nat.le_of_ble_eq_true rfl, Nat.le_of_ble_eq_true rfl⟩) hN hL (rcv10 hN hT hw.1) rfl rfl hl.1 (Nat.le_of_ble_eq_true rfl) dX9_change_124 (Nat.zero_le _) (Nat.zero_le _) (fun r626 H1 locs hL hqr626 => ?_)
        obtain rfl := hqr626.symm
        refine lv_iload_n hx hb dX9_change_127 rfl (lv_at hl 0 rfl) ?_
        refine lv_iadd hx hb dX9_change_128 ?_
        refine gn_i (fun x627 => ?_)
        refine cv_v (As := [.int (nI n), .int 10, .int x627]) (rest := []) (b := w) ⟨hx, hb, hml, hown, hts⟩ (c_X9_set hT (w := w) hw (n := n) (k := 10) (x := x627) (by first | omega | decide | assumption) (by first | omega | decide | assumption)) (cwV 3 hts gX9_change_X9_set rfl rfl rfl hdX9_set_v ⟨Nat.le_of_ble_eq_true rfl, Nat.le_of_ble_eq_true rfl⟩) hN hL (rcv10 hN hT hw.1) rfl rfl hl.1 (Nat.le_of_ble_eq_true rfl) dX9_change_129 (Nat.zero_le _) (Nat.zero_le _) (fun H1 locs hL hqr628 => ?_)
        obtain ⟨hT1, hF1⟩ := hqr628
        have hF := hF.tr (hF1.mono (by simp))
        have hT := hT1
        refine lv_aload_n hx hb dX9_change_132 rfl (lv_at hl 1 rfl) ?_
        refine lv_iload_n hx hb dX9_change_133 rfl (lv_at hl 2 rfl) ?_
        refine lv_bipush (v := 11) hx hb dX9_change_134 (by decide) ?_
        refine lv_aload_n hx hb dX9_change_136 rfl (lv_at hl 1 rfl) ?_
        obtain ⟨hb629, e629, hat629, hk629⟩ := hT.o10 hw.1
        obtain ⟨f629_0, f629_1, f629_3, f629_4, f629_5, f629_6, f629_7, f629_8, f629_9, f629_10, f629_11, f629_12, f629_13, f629_14, f629_15, f629_16, f629_17, rfl, c629_2, c629_3, c629_4, c629_12, t629_1, t629_8, t629_9, c629_sd, t629_10, t629_11, t629_17⟩ := hk629
        have hP : va_P D vwCl [(w, .inr (9, [.int f629_0, .ref f629_1, .int (nI ((κ w).2.2.1)), .int (nI f629_3), .int (nI f629_4), .int f629_5, .int f629_6, .int f629_7, .ref f629_8, .ref f629_9, .ref f629_10, .ref f629_11, .int (nI f629_12), .int f629_13, .int f629_14, .int f629_15, .int f629_16, .ref f629_17]))] _ := va_P.cons hat629 va_P.nil
        refine va_get (D := D) (ci := 9) (v := .ref f629_8) (C := RX9) (T := TX9) (N := 18) hx hb hts iX9_change_9 hown hN.1 hP 0 rfl rfl 8 (by decide) (hts _ mX9_change_1) (fun _ h9 => h9) rfl dX9_change_137 ?_
        refine lv_iconst (v := 1) hx hb dX9_change_140 (by decide) ?_
        obtain ⟨hb630, e630, hat630, hk630⟩ := hT.o24 t629_8.1
        obtain ⟨g630, rfl, q630⟩ := hk630
        have hP : va_P D vwCl [(f629_8, .inl (cs 0, 45783, .inl g630)), (w, .inr (9, [.int f629_0, .ref f629_1, .int (nI ((κ w).2.2.1)), .int (nI f629_3), .int (nI f629_4), .int f629_5, .int f629_6, .int f629_7, .ref f629_8, .ref f629_9, .ref f629_10, .ref f629_11, .int (nI f629_12), .int f629_13, .int f629_14, .int f629_15, .int f629_16, .ref f629_17]))] _ := va_P.cons hat630 hP
        refine ld_i (v := (g630 1)) hx hb hN hP 0 rfl (vp_in_nI (n := 1) (N := 45783) (by omega) (by omega)) (by rw [(show (1 : Int32).toNatClampNeg = 1 from nI_clamp (n := 1) (by omega))]) dX9_change_141 ?_
        refine gn_i (fun x631 => ?_)
        refine cv_v (As := [.int (nI n), .int 11, .int x631]) (rest := []) (b := w) ⟨hx, hb, hml, hown, hts⟩ (c_X9_set hT (w := w) hw (n := n) (k := 11) (x := x631) (by first | omega | decide | assumption) (by first | omega | decide | assumption)) (cwV 3 hts gX9_change_X9_set rfl rfl rfl hdX9_set_v ⟨Nat.le_of_ble_eq_true rfl, Nat.le_of_ble_eq_true rfl⟩) hN hL (rcv10 hN hT hw.1) rfl rfl hl.1 (Nat.le_of_ble_eq_true rfl) dX9_change_142 (Nat.zero_le _) (Nat.zero_le _) (fun H1 locs hL hqr632 => ?_)
        obtain ⟨hT1, hF1⟩ := hqr632
        have hF := hF.tr (hF1.mono (by simp))
        have hT := hT1
        refine lv_aload_n hx hb dX9_change_145 rfl (lv_at hl 1 rfl) ?_
        refine lv_iload_n hx hb dX9_change_146 rfl (lv_at hl 2 rfl) ?_
        refine cv_v (As := [.int (nI n)]) (rest := []) (b := w) ⟨hx, hb, hml, hown, hts⟩ (c_X9_dropPlan hT (w := w) hw (n := n) (by first | omega | decide | assumption)) (cwV 1 hts gX9_change_X9_dropPlan rfl rfl rfl hdX9_dropPlan_v ⟨Nat.le_of_ble_eq_true rfl, Nat.le_of_ble_eq_true rfl⟩) hN hL (rcv10 hN hT hw.1) rfl rfl hl.1 (Nat.le_of_ble_eq_true rfl) dX9_change_147 (Nat.zero_le _) (Nat.zero_le _) (fun H1 locs hL hqr633 => ?_)
        obtain ⟨hT1, hF1⟩ := hqr633
        have hF := hF.tr (hF1.mono (by simp))
        have hT := hT1
        refine lv_aload_n hx hb dX9_change_150 rfl (lv_at hl 1 rfl) ?_
        obtain ⟨hb634, e634, hat634, hk634⟩ := hT.o10 hw.1
        obtain ⟨f634_0, f634_1, f634_3, f634_4, f634_5, f634_6, f634_7, f634_8, f634_9, f634_10, f634_11, f634_12, f634_13, f634_14, f634_15, f634_16, f634_17, rfl, c634_2, c634_3, c634_4, c634_12, t634_1, t634_8, t634_9, c634_sd, t634_10, t634_11, t634_17⟩ := hk634
        have hP : va_P D vwCl [(w, .inr (9, [.int f634_0, .ref f634_1, .int (nI ((κ w).2.2.1)), .int (nI f634_3), .int (nI f634_4), .int f634_5, .int f634_6, .int f634_7, .ref f634_8, .ref f634_9, .ref f634_10, .ref f634_11, .int (nI f634_12), .int f634_13, .int f634_14, .int f634_15, .int f634_16, .ref f634_17]))] _ := va_P.cons hat634 va_P.nil
        refine va_get (D := D) (ci := 9) (v := .ref f634_8) (C := RX9) (T := TX9) (N := 18) hx hb hts iX9_change_9 hown hN.1 hP 0 rfl rfl 8 (by decide) (hts _ mX9_change_1) (fun _ h9 => h9) rfl dX9_change_151 ?_
        refine lv_bipush (v := 9) hx hb dX9_change_154 (by decide) ?_
        refine lv_dup2_11 hx hb dX9_change_156 rfl rfl ?_
        obtain ⟨hb635, e635, hat635, hk635⟩ := hT.o24 t634_8.1
        obtain ⟨g635, rfl, q635⟩ := hk635
        have hP : va_P D vwCl [(f634_8, .inl (cs 0, 45783, .inl g635)), (w, .inr (9, [.int f634_0, .ref f634_1, .int (nI ((κ w).2.2.1)), .int (nI f634_3), .int (nI f634_4), .int f634_5, .int f634_6, .int f634_7, .ref f634_8, .ref f634_9, .ref f634_10, .ref f634_11, .int (nI f634_12), .int f634_13, .int f634_14, .int f634_15, .int f634_16, .ref f634_17]))] _ := va_P.cons hat635 hP
        refine ld_i (v := (g635 9)) hx hb hN hP 0 rfl (vp_in_nI (n := 9) (N := 45783) (by omega) (by omega)) (by rw [(show (9 : Int32).toNatClampNeg = 9 from nI_clamp (n := 9) (by omega))]) dX9_change_157 ?_
        refine gn_i (fun x636 => ?_)
        refine lv_iconst (v := 1) hx hb dX9_change_158 (by decide) ?_
        refine lv_iadd hx hb dX9_change_159 ?_
        refine gn_i (fun x637 => ?_)
        have hB : Bx B0 D _ [(f634_8, .inl (cs 0, 45783, .inl g635)), (w, .inr (9, [.int f634_0, .ref f634_1, .int (nI ((κ w).2.2.1)), .int (nI f634_3), .int (nI f634_4), .int f634_5, .int f634_6, .int f634_7, .ref f634_8, .ref f634_9, .ref f634_10, .ref f634_11, .int (nI f634_12), .int f634_13, .int f634_14, .int f634_15, .int f634_16, .ref f634_17]))] [] _ _ := Bx.of (fun a => (κ a).1) hL hP (fa_c hb635 (fa_c hb634 fa_n)) (by simp only [List.map_cons, List.map_nil, t634_8.1, hw.1]; decide)
        refine b_i hx hb hN hB 0 rfl (vp_in_nI (n := 9) (N := 45783) (by omega) (by omega)) (.inl rfl) dX9_change_160 (fun H locs hB => ?_)
        rw [(show (9 : Int32).toNatClampNeg = 9 from nI_clamp (n := 9) (by omega))] at hB
        have hB : Bx B0 D _ [(f634_8, .inl (cs 0, 45783, .inl (upd g635 9 x637))), (w, .inr (9, [.int f634_0, .ref f634_1, .int (nI ((κ w).2.2.1)), .int (nI f634_3), .int (nI f634_4), .int f634_5, .int f634_6, .int f634_7, .ref f634_8, .ref f634_9, .ref f634_10, .ref f634_11, .int (nI f634_12), .int f634_13, .int f634_14, .int f634_15, .int f634_16, .ref f634_17]))] [f634_8] _ _ := hB
        have z638 := DOK.sf q635 (k := 9) (by omega) (x := x637)
        refine lv_aload_n hx hb dX9_change_161 rfl (lv_at hl 1 rfl) ?_
        refine va_get (D := D) (ci := 9) (v := .ref f634_8) (C := RX9) (T := TX9) (N := 18) hx hb hts iX9_change_9 hown hN.1 hB.1 1 rfl rfl 8 (by decide) (hts _ mX9_change_1) (fun _ h9 => h9) rfl dX9_change_162 ?_
        refine lv_bipush (v := 10) hx hb dX9_change_165 (by decide) ?_
        refine lv_dup2_11 hx hb dX9_change_167 rfl rfl ?_
        refine ld_i (v := ((upd g635 9 x637) 10)) hx hb hN hB.1 0 rfl (vp_in_nI (n := 10) (N := 45783) (by omega) (by omega)) (by rw [(show (10 : Int32).toNatClampNeg = 10 from nI_clamp (n := 10) (by omega))]) dX9_change_168 ?_
        refine gn_i (fun x639 => ?_)
        refine lv_iload_n hx hb dX9_change_169 rfl (lv_at hl 0 rfl) ?_
        refine lv_iadd hx hb dX9_change_170 ?_
        refine gn_i (fun x640 => ?_)
        refine b_i hx hb hN hB 0 rfl (vp_in_nI (n := 10) (N := 45783) (by omega) (by omega)) (.inr ⟨rfl, List.mem_of_getElem? (i := 0) rfl⟩) dX9_change_171 (fun H locs hB => ?_)
        rw [(show (10 : Int32).toNatClampNeg = 10 from nI_clamp (n := 10) (by omega))] at hB
        have hB : Bx B0 D _ [(f634_8, .inl (cs 0, 45783, .inl (upd (upd g635 9 x637) 10 x640))), (w, .inr (9, [.int f634_0, .ref f634_1, .int (nI ((κ w).2.2.1)), .int (nI f634_3), .int (nI f634_4), .int f634_5, .int f634_6, .int f634_7, .ref f634_8, .ref f634_9, .ref f634_10, .ref f634_11, .int (nI f634_12), .int f634_13, .int f634_14, .int f634_15, .int f634_16, .ref f634_17]))] [f634_8] _ _ := hB
        have z641 := DOK.sf z638 (k := 10) (by omega) (x := x640)
        have hT : WT B0 D cs T κ _ := hT.close hB ⟨⟨0, _, rfl, ok_24 t634_8.1 ⟨_, rfl, z641⟩⟩, trivial⟩
        have hF : Fr B0 [12] κ H0 _ := hF.close hB (fa_c (by simp [t634_8.2]) fa_n)
        have hL : OkL B0 _ := hB.2.2.2.2.2
        have hP : va_P D vwCl [(f634_8, .inl (cs 0, 45783, .inl (upd (upd g635 9 x637) 10 x640))), (w, .inr (9, [.int f634_0, .ref f634_1, .int (nI ((κ w).2.2.1)), .int (nI f634_3), .int (nI f634_4), .int f634_5, .int f634_6, .int f634_7, .ref f634_8, .ref f634_9, .ref f634_10, .ref f634_11, .int (nI f634_12), .int f634_13, .int f634_14, .int f634_15, .int f634_16, .ref f634_17]))] _ := hB.1
        exact en_v hx hb hr hlocks hL (Nat.zero_le _) (Nat.zero_le _) dX9_change_172 (⟨hT, hF⟩)
  · refine lv_iconst (v := 1) hx hb dX9_change_15 (by decide) ?_
    refine lv_goto (tgt := 20) hx hb dX9_change_16 (by decide) ?_
    refine lv_istore_n (lv' := [(2, .int 1), (0, .ref w), (1, .int (nI n))]) hx hb dX9_change_20 rfl hl (by decide) rfl (fun ls hl => ?_)
    refine lv_aload_n hx hb dX9_change_21 rfl (lv_at hl 1 rfl) ?_
    refine lv_iload_n hx hb dX9_change_22 rfl (lv_at hl 2 rfl) ?_
    refine lv_bipush (v := 6) hx hb dX9_change_23 (by decide) ?_
    refine cv_i (As := [.int (nI n), .int 6]) (rest := []) (b := w) ⟨hx, hb, hml, hown, hts⟩ (c_X9_of hT (w := w) hw (n := n) (k := 6) (by first | omega | decide | assumption) (by first | omega | decide | assumption)) (cwV 2 hts gX9_change_X9_of rfl rfl rfl hdX9_of_v ⟨Nat.le_of_ble_eq_true rfl, Nat.le_of_ble_eq_true rfl⟩) hN hL (rcv10 hN hT hw.1) rfl rfl hl.1 (Nat.le_of_ble_eq_true rfl) dX9_change_25 (Nat.zero_le _) (Nat.zero_le _) (fun r642 H1 locs hL hqr642 => ?_)
    obtain rfl := hqr642.symm
    refine lv_aload_n hx hb dX9_change_28 rfl (lv_at hl 1 rfl) ?_
    obtain ⟨hb643, e643, hat643, hk643⟩ := hT.o10 hw.1
    obtain ⟨f643_0, f643_1, f643_3, f643_4, f643_5, f643_6, f643_7, f643_8, f643_9, f643_10, f643_11, f643_12, f643_13, f643_14, f643_15, f643_16, f643_17, rfl, c643_2, c643_3, c643_4, c643_12, t643_1, t643_8, t643_9, c643_sd, t643_10, t643_11, t643_17⟩ := hk643
    have hP : va_P D vwCl [(w, .inr (9, [.int f643_0, .ref f643_1, .int (nI ((κ w).2.2.1)), .int (nI f643_3), .int (nI f643_4), .int f643_5, .int f643_6, .int f643_7, .ref f643_8, .ref f643_9, .ref f643_10, .ref f643_11, .int (nI f643_12), .int f643_13, .int f643_14, .int f643_15, .int f643_16, .ref f643_17]))] _ := va_P.cons hat643 va_P.nil
    refine va_get (D := D) (ci := 9) (v := .ref f643_8) (C := RX9) (T := TX9) (N := 18) hx hb hts iX9_change_9 hown hN.1 hP 0 rfl rfl 8 (by decide) (hts _ mX9_change_1) (fun _ h9 => h9) rfl dX9_change_29 ?_
    refine lv_bipush (v := 6) hx hb dX9_change_32 (by decide) ?_
    obtain ⟨hb644, e644, hat644, hk644⟩ := hT.o24 t643_8.1
    obtain ⟨g644, rfl, q644⟩ := hk644
    have hP : va_P D vwCl [(f643_8, .inl (cs 0, 45783, .inl g644)), (w, .inr (9, [.int f643_0, .ref f643_1, .int (nI ((κ w).2.2.1)), .int (nI f643_3), .int (nI f643_4), .int f643_5, .int f643_6, .int f643_7, .ref f643_8, .ref f643_9, .ref f643_10, .ref f643_11, .int (nI f643_12), .int f643_13, .int f643_14, .int f643_15, .int f643_16, .ref f643_17]))] _ := va_P.cons hat644 hP
    refine ld_i (v := (g644 6)) hx hb hN hP 0 rfl (vp_in_nI (n := 6) (N := 45783) (by omega) (by omega)) (by rw [(show (6 : Int32).toNatClampNeg = 6 from nI_clamp (n := 6) (by omega))]) dX9_change_34 ?_
    refine gn_i (fun x645 => ?_)
    refine lv_iconst (v := 1) hx hb dX9_change_35 (by decide) ?_
    refine lv_isub hx hb dX9_change_36 ?_
    refine gn_i (fun x646 => ?_)
    refine lv_icmp_ne (tgt := 87) hx hb dX9_change_37 (by decide) (fun c647 => ?_) (fun c647 => ?_)
    · refine lv_aload_n hx hb dX9_change_87 rfl (lv_at hl 1 rfl) ?_
      refine lv_iload_n hx hb dX9_change_88 rfl (lv_at hl 2 rfl) ?_
      refine lv_iconst (v := 4) hx hb dX9_change_89 (by decide) ?_
      refine lv_aload_n hx hb dX9_change_90 rfl (lv_at hl 1 rfl) ?_
      refine lv_iload_n hx hb dX9_change_91 rfl (lv_at hl 2 rfl) ?_
      refine lv_bipush (v := 7) hx hb dX9_change_92 (by decide) ?_
      refine cv_i (As := [.int (nI n), .int 7]) (rest := [.int 4, .int (nI n), .ref w]) (b := w) ⟨hx, hb, hml, hown, hts⟩ (c_X9_of hT (w := w) hw (n := n) (k := 7) (by first | omega | decide | assumption) (by first | omega | decide | assumption)) (cwV 2 hts gX9_change_X9_of rfl rfl rfl hdX9_of_v ⟨Nat.le_of_ble_eq_true rfl, Nat.le_of_ble_eq_true rfl⟩) hN hL (rcv10 hN hT hw.1) rfl rfl hl.1 (Nat.le_of_ble_eq_true rfl) dX9_change_94 (Nat.zero_le _) (Nat.zero_le _) (fun r648 H1 locs hL hqr648 => ?_)
      obtain rfl := hqr648.symm
      refine cv_v (As := [.int (nI n), .int 4, .int r648]) (rest := []) (b := w) ⟨hx, hb, hml, hown, hts⟩ (c_X9_set hT (w := w) hw (n := n) (k := 4) (x := r648) (by first | omega | decide | assumption) (by first | omega | decide | assumption)) (cwV 3 hts gX9_change_X9_set rfl rfl rfl hdX9_set_v ⟨Nat.le_of_ble_eq_true rfl, Nat.le_of_ble_eq_true rfl⟩) hN hL (rcv10 hN hT hw.1) rfl rfl hl.1 (Nat.le_of_ble_eq_true rfl) dX9_change_97 (Nat.zero_le _) (Nat.zero_le _) (fun H1 locs hL hqr649 => ?_)
      obtain ⟨hT1, hF1⟩ := hqr649
      have hF := hF.tr (hF1.mono (by simp))
      have hT := hT1
      refine lv_aload_n hx hb dX9_change_100 rfl (lv_at hl 1 rfl) ?_
      refine lv_iload_n hx hb dX9_change_101 rfl (lv_at hl 2 rfl) ?_
      refine lv_bipush (v := 9) hx hb dX9_change_102 (by decide) ?_
      refine lv_aload_n hx hb dX9_change_104 rfl (lv_at hl 1 rfl) ?_
      refine lv_iload_n hx hb dX9_change_105 rfl (lv_at hl 2 rfl) ?_
      refine lv_bipush (v := 9) hx hb dX9_change_106 (by decide) ?_
      refine cv_i (As := [.int (nI n), .int 9]) (rest := [.int 9, .int (nI n), .ref w]) (b := w) ⟨hx, hb, hml, hown, hts⟩ (c_X9_of hT (w := w) hw (n := n) (k := 9) (by first | omega | decide | assumption) (by first | omega | decide | assumption)) (cwV 2 hts gX9_change_X9_of rfl rfl rfl hdX9_of_v ⟨Nat.le_of_ble_eq_true rfl, Nat.le_of_ble_eq_true rfl⟩) hN hL (rcv10 hN hT hw.1) rfl rfl hl.1 (Nat.le_of_ble_eq_true rfl) dX9_change_108 (Nat.zero_le _) (Nat.zero_le _) (fun r650 H1 locs hL hqr650 => ?_)
      obtain rfl := hqr650.symm
      refine lv_iconst (v := 1) hx hb dX9_change_111 (by decide) ?_
      refine lv_iadd hx hb dX9_change_112 ?_
      refine gn_i (fun x651 => ?_)
      refine cv_v (As := [.int (nI n), .int 9, .int x651]) (rest := []) (b := w) ⟨hx, hb, hml, hown, hts⟩ (c_X9_set hT (w := w) hw (n := n) (k := 9) (x := x651) (by first | omega | decide | assumption) (by first | omega | decide | assumption)) (cwV 3 hts gX9_change_X9_set rfl rfl rfl hdX9_set_v ⟨Nat.le_of_ble_eq_true rfl, Nat.le_of_ble_eq_true rfl⟩) hN hL (rcv10 hN hT hw.1) rfl rfl hl.1 (Nat.le_of_ble_eq_true rfl) dX9_change_113 (Nat.zero_le _) (Nat.zero_le _) (fun H1 locs hL hqr652 => ?_)
      obtain ⟨hT1, hF1⟩ := hqr652
      have hF := hF.tr (hF1.mono (by simp))
      have hT := hT1
      refine lv_aload_n hx hb dX9_change_116 rfl (lv_at hl 1 rfl) ?_
      refine lv_iload_n hx hb dX9_change_117 rfl (lv_at hl 2 rfl) ?_
      refine lv_bipush (v := 10) hx hb dX9_change_118 (by decide) ?_
      refine lv_aload_n hx hb dX9_change_120 rfl (lv_at hl 1 rfl) ?_
      refine lv_iload_n hx hb dX9_change_121 rfl (lv_at hl 2 rfl) ?_
      refine lv_bipush (v := 10) hx hb dX9_change_122 (by decide) ?_
      refine cv_i (As := [.int (nI n), .int 10]) (rest := [.int 10, .int (nI n), .ref w]) (b := w) ⟨hx, hb, hml, hown, hts⟩ (c_X9_of hT (w := w) hw (n := n) (k := 10) (by first | omega | decide | assumption) (by first | omega | decide | assumption)) (cwV 2 hts gX9_change_X9_of rfl rfl rfl hdX9_of_v ⟨Nat.le_of_ble_eq_true rfl, Nat.le_of_ble_eq_true rfl⟩) hN hL (rcv10 hN hT hw.1) rfl rfl hl.1 (Nat.le_of_ble_eq_true rfl) dX9_change_124 (Nat.zero_le _) (Nat.zero_le _) (fun r653 H1 locs hL hqr653 => ?_)
      obtain rfl := hqr653.symm
      refine lv_iload_n hx hb dX9_change_127 rfl (lv_at hl 0 rfl) ?_
      refine lv_iadd hx hb dX9_change_128 ?_
      refine gn_i (fun x654 => ?_)
      refine cv_v (As := [.int (nI n), .int 10, .int x654]) (rest := []) (b := w) ⟨hx, hb, hml, hown, hts⟩ (c_X9_set hT (w := w) hw (n := n) (k := 10) (x := x654) (by first | omega | decide | assumption) (by first | omega | decide | assumption)) (cwV 3 hts gX9_change_X9_set rfl rfl rfl hdX9_set_v ⟨Nat.le_of_ble_eq_true rfl, Nat.le_of_ble_eq_true rfl⟩) hN hL (rcv10 hN hT hw.1) rfl rfl hl.1 (Nat.le_of_ble_eq_true rfl) dX9_change_129 (Nat.zero_le _) (Nat.zero_le _) (fun H1 locs hL hqr655 => ?_)
      obtain ⟨hT1, hF1⟩ := hqr655
      have hF := hF.tr (hF1.mono (by simp))
      have hT := hT1
      refine lv_aload_n hx hb dX9_change_132 rfl (lv_at hl 1 rfl) ?_
      refine lv_iload_n hx hb dX9_change_133 rfl (lv_at hl 2 rfl) ?_
      refine lv_bipush (v := 11) hx hb dX9_change_134 (by decide) ?_
      refine lv_aload_n hx hb dX9_change_136 rfl (lv_at hl 1 rfl) ?_
      obtain ⟨hb656, e656, hat656, hk656⟩ := hT.o10 hw.1
      obtain ⟨f656_0, f656_1, f656_3, f656_4, f656_5, f656_6, f656_7, f656_8, f656_9, f656_10, f656_11, f656_12, f656_13, f656_14, f656_15, f656_16, f656_17, rfl, c656_2, c656_3, c656_4, c656_12, t656_1, t656_8, t656_9, c656_sd, t656_10, t656_11, t656_17⟩ := hk656
      have hP : va_P D vwCl [(w, .inr (9, [.int f656_0, .ref f656_1, .int (nI ((κ w).2.2.1)), .int (nI f656_3), .int (nI f656_4), .int f656_5, .int f656_6, .int f656_7, .ref f656_8, .ref f656_9, .ref f656_10, .ref f656_11, .int (nI f656_12), .int f656_13, .int f656_14, .int f656_15, .int f656_16, .ref f656_17]))] _ := va_P.cons hat656 va_P.nil
      refine va_get (D := D) (ci := 9) (v := .ref f656_8) (C := RX9) (T := TX9) (N := 18) hx hb hts iX9_change_9 hown hN.1 hP 0 rfl rfl 8 (by decide) (hts _ mX9_change_1) (fun _ h9 => h9) rfl dX9_change_137 ?_
      refine lv_iconst (v := 1) hx hb dX9_change_140 (by decide) ?_
      obtain ⟨hb657, e657, hat657, hk657⟩ := hT.o24 t656_8.1
      obtain ⟨g657, rfl, q657⟩ := hk657
      have hP : va_P D vwCl [(f656_8, .inl (cs 0, 45783, .inl g657)), (w, .inr (9, [.int f656_0, .ref f656_1, .int (nI ((κ w).2.2.1)), .int (nI f656_3), .int (nI f656_4), .int f656_5, .int f656_6, .int f656_7, .ref f656_8, .ref f656_9, .ref f656_10, .ref f656_11, .int (nI f656_12), .int f656_13, .int f656_14, .int f656_15, .int f656_16, .ref f656_17]))] _ := va_P.cons hat657 hP
      refine ld_i (v := (g657 1)) hx hb hN hP 0 rfl (vp_in_nI (n := 1) (N := 45783) (by omega) (by omega)) (by rw [(show (1 : Int32).toNatClampNeg = 1 from nI_clamp (n := 1) (by omega))]) dX9_change_141 ?_
      refine gn_i (fun x658 => ?_)
      refine cv_v (As := [.int (nI n), .int 11, .int x658]) (rest := []) (b := w) ⟨hx, hb, hml, hown, hts⟩ (c_X9_set hT (w := w) hw (n := n) (k := 11) (x := x658) (by first | omega | decide | assumption) (by first | omega | decide | assumption)) (cwV 3 hts gX9_change_X9_set rfl rfl rfl hdX9_set_v ⟨Nat.le_of_ble_eq_true rfl, Nat.le_of_ble_eq_true rfl⟩) hN hL (rcv10 hN hT hw.1) rfl rfl hl.1 (Nat.le_of_ble_eq_true rfl) dX9_change_142 (Nat.zero_le _) (Nat.zero_le _) (fun H1 locs hL hqr659 => ?_)
      obtain ⟨hT1, hF1⟩ := hqr659
      have hF := hF.tr (hF1.mono (by simp))
      have hT := hT1
      refine lv_aload_n hx hb dX9_change_145 rfl (lv_at hl 1 rfl) ?_
      refine lv_iload_n hx hb dX9_change_146 rfl (lv_at hl 2 rfl) ?_
      refine cv_v (As := [.int (nI n)]) (rest := []) (b := w) ⟨hx, hb, hml, hown, hts⟩ (c_X9_dropPlan hT (w := w) hw (n := n) (by first | omega | decide | assumption)) (cwV 1 hts gX9_change_X9_dropPlan rfl rfl rfl hdX9_dropPlan_v ⟨Nat.le_of_ble_eq_true rfl, Nat.le_of_ble_eq_true rfl⟩) hN hL (rcv10 hN hT hw.1) rfl rfl hl.1 (Nat.le_of_ble_eq_true rfl) dX9_change_147 (Nat.zero_le _) (Nat.zero_le _) (fun H1 locs hL hqr660 => ?_)
      obtain ⟨hT1, hF1⟩ := hqr660
      have hF := hF.tr (hF1.mono (by simp))
      have hT := hT1
      refine lv_aload_n hx hb dX9_change_150 rfl (lv_at hl 1 rfl) ?_
      obtain ⟨hb661, e661, hat661, hk661⟩ := hT.o10 hw.1
      obtain ⟨f661_0, f661_1, f661_3, f661_4, f661_5, f661_6, f661_7, f661_8, f661_9, f661_10, f661_11, f661_12, f661_13, f661_14, f661_15, f661_16, f661_17, rfl, c661_2, c661_3, c661_4, c661_12, t661_1, t661_8, t661_9, c661_sd, t661_10, t661_11, t661_17⟩ := hk661
      have hP : va_P D vwCl [(w, .inr (9, [.int f661_0, .ref f661_1, .int (nI ((κ w).2.2.1)), .int (nI f661_3), .int (nI f661_4), .int f661_5, .int f661_6, .int f661_7, .ref f661_8, .ref f661_9, .ref f661_10, .ref f661_11, .int (nI f661_12), .int f661_13, .int f661_14, .int f661_15, .int f661_16, .ref f661_17]))] _ := va_P.cons hat661 va_P.nil
      refine va_get (D := D) (ci := 9) (v := .ref f661_8) (C := RX9) (T := TX9) (N := 18) hx hb hts iX9_change_9 hown hN.1 hP 0 rfl rfl 8 (by decide) (hts _ mX9_change_1) (fun _ h9 => h9) rfl dX9_change_151 ?_
      refine lv_bipush (v := 9) hx hb dX9_change_154 (by decide) ?_
      refine lv_dup2_11 hx hb dX9_change_156 rfl rfl ?_
      obtain ⟨hb662, e662, hat662, hk662⟩ := hT.o24 t661_8.1
      obtain ⟨g662, rfl, q662⟩ := hk662
      have hP : va_P D vwCl [(f661_8, .inl (cs 0, 45783, .inl g662)), (w, .inr (9, [.int f661_0, .ref f661_1, .int (nI ((κ w).2.2.1)), .int (nI f661_3), .int (nI f661_4), .int f661_5, .int f661_6, .int f661_7, .ref f661_8, .ref f661_9, .ref f661_10, .ref f661_11, .int (nI f661_12), .int f661_13, .int f661_14, .int f661_15, .int f661_16, .ref f661_17]))] _ := va_P.cons hat662 hP
      refine ld_i (v := (g662 9)) hx hb hN hP 0 rfl (vp_in_nI (n := 9) (N := 45783) (by omega) (by omega)) (by rw [(show (9 : Int32).toNatClampNeg = 9 from nI_clamp (n := 9) (by omega))]) dX9_change_157 ?_
      refine gn_i (fun x663 => ?_)
      refine lv_iconst (v := 1) hx hb dX9_change_158 (by decide) ?_
      refine lv_iadd hx hb dX9_change_159 ?_
      refine gn_i (fun x664 => ?_)
      have hB : Bx B0 D _ [(f661_8, .inl (cs 0, 45783, .inl g662)), (w, .inr (9, [.int f661_0, .ref f661_1, .int (nI ((κ w).2.2.1)), .int (nI f661_3), .int (nI f661_4), .int f661_5, .int f661_6, .int f661_7, .ref f661_8, .ref f661_9, .ref f661_10, .ref f661_11, .int (nI f661_12), .int f661_13, .int f661_14, .int f661_15, .int f661_16, .ref f661_17]))] [] _ _ := Bx.of (fun a => (κ a).1) hL hP (fa_c hb662 (fa_c hb661 fa_n)) (by simp only [List.map_cons, List.map_nil, t661_8.1, hw.1]; decide)
      refine b_i hx hb hN hB 0 rfl (vp_in_nI (n := 9) (N := 45783) (by omega) (by omega)) (.inl rfl) dX9_change_160 (fun H locs hB => ?_)
      rw [(show (9 : Int32).toNatClampNeg = 9 from nI_clamp (n := 9) (by omega))] at hB
      have hB : Bx B0 D _ [(f661_8, .inl (cs 0, 45783, .inl (upd g662 9 x664))), (w, .inr (9, [.int f661_0, .ref f661_1, .int (nI ((κ w).2.2.1)), .int (nI f661_3), .int (nI f661_4), .int f661_5, .int f661_6, .int f661_7, .ref f661_8, .ref f661_9, .ref f661_10, .ref f661_11, .int (nI f661_12), .int f661_13, .int f661_14, .int f661_15, .int f661_16, .ref f661_17]))] [f661_8] _ _ := hB
      have z665 := DOK.sf q662 (k := 9) (by omega) (x := x664)
      refine lv_aload_n hx hb dX9_change_161 rfl (lv_at hl 1 rfl) ?_
      refine va_get (D := D) (ci := 9) (v := .ref f661_8) (C := RX9) (T := TX9) (N := 18) hx hb hts iX9_change_9 hown hN.1 hB.1 1 rfl rfl 8 (by decide) (hts _ mX9_change_1) (fun _ h9 => h9) rfl dX9_change_162 ?_
      refine lv_bipush (v := 10) hx hb dX9_change_165 (by decide) ?_
      refine lv_dup2_11 hx hb dX9_change_167 rfl rfl ?_
      refine ld_i (v := ((upd g662 9 x664) 10)) hx hb hN hB.1 0 rfl (vp_in_nI (n := 10) (N := 45783) (by omega) (by omega)) (by rw [(show (10 : Int32).toNatClampNeg = 10 from nI_clamp (n := 10) (by omega))]) dX9_change_168 ?_
      refine gn_i (fun x666 => ?_)
      refine lv_iload_n hx hb dX9_change_169 rfl (lv_at hl 0 rfl) ?_
      refine lv_iadd hx hb dX9_change_170 ?_
      refine gn_i (fun x667 => ?_)
      refine b_i hx hb hN hB 0 rfl (vp_in_nI (n := 10) (N := 45783) (by omega) (by omega)) (.inr ⟨rfl, List.mem_of_getElem? (i := 0) rfl⟩) dX9_change_171 (fun H locs hB => ?_)
      rw [(show (10 : Int32).toNatClampNeg = 10 from nI_clamp (n := 10) (by omega))] at hB
      have hB : Bx B0 D _ [(f661_8, .inl (cs 0, 45783, .inl (upd (upd g662 9 x664) 10 x667))), (w, .inr (9, [.int f661_0, .ref f661_1, .int (nI ((κ w).2.2.1)), .int (nI f661_3), .int (nI f661_4), .int f661_5, .int f661_6, .int f661_7, .ref f661_8, .ref f661_9, .ref f661_10, .ref f661_11, .int (nI f661_12), .int f661_13, .int f661_14, .int f661_15, .int f661_16, .ref f661_17]))] [f661_8] _ _ := hB
      have z668 := DOK.sf z665 (k := 10) (by omega) (x := x667)
      have hT : WT B0 D cs T κ _ := hT.close hB ⟨⟨0, _, rfl, ok_24 t661_8.1 ⟨_, rfl, z668⟩⟩, trivial⟩
      have hF : Fr B0 [12] κ H0 _ := hF.close hB (fa_c (by simp [t661_8.2]) fa_n)
      have hL : OkL B0 _ := hB.2.2.2.2.2
      have hP : va_P D vwCl [(f661_8, .inl (cs 0, 45783, .inl (upd (upd g662 9 x664) 10 x667))), (w, .inr (9, [.int f661_0, .ref f661_1, .int (nI ((κ w).2.2.1)), .int (nI f661_3), .int (nI f661_4), .int f661_5, .int f661_6, .int f661_7, .ref f661_8, .ref f661_9, .ref f661_10, .ref f661_11, .int (nI f661_12), .int f661_13, .int f661_14, .int f661_15, .int f661_16, .ref f661_17]))] _ := hB.1
      exact en_v hx hb hr hlocks hL (Nat.zero_le _) (Nat.zero_le _) dX9_change_172 (⟨hT, hF⟩)
    · refine lv_aload_n hx hb dX9_change_40 rfl (lv_at hl 1 rfl) ?_
      refine va_get (D := D) (ci := 9) (v := .ref f643_8) (C := RX9) (T := TX9) (N := 18) hx hb hts iX9_change_9 hown hN.1 hP 1 rfl rfl 8 (by decide) (hts _ mX9_change_1) (fun _ h9 => h9) rfl dX9_change_41 ?_
      refine lv_bipush (v := 21) hx hb dX9_change_44 (by decide) ?_
      refine lv_aload_n hx hb dX9_change_46 rfl (lv_at hl 1 rfl) ?_
      refine va_get (D := D) (ci := 9) (v := .ref f643_8) (C := RX9) (T := TX9) (N := 18) hx hb hts iX9_change_9 hown hN.1 hP 1 rfl rfl 8 (by decide) (hts _ mX9_change_1) (fun _ h9 => h9) rfl dX9_change_47 ?_
      refine lv_bipush (v := 21) hx hb dX9_change_50 (by decide) ?_
      refine ld_i (v := (g644 21)) hx hb hN hP 0 rfl (vp_in_nI (n := 21) (N := 45783) (by omega) (by omega)) (by rw [(show (21 : Int32).toNatClampNeg = 21 from nI_clamp (n := 21) (by omega))]) dX9_change_52 ?_
      refine gn_i (fun x669 => ?_)
      refine lv_iconst (v := (-1)) hx hb dX9_change_53 (by decide) ?_
      refine lv_icmp_ne (tgt := 66) hx hb dX9_change_54 (by decide) (fun c670 => ?_) (fun c670 => ?_)
      · refine lv_aload_n hx hb dX9_change_66 rfl (lv_at hl 1 rfl) ?_
        refine va_get (D := D) (ci := 9) (v := .ref f643_8) (C := RX9) (T := TX9) (N := 18) hx hb hts iX9_change_9 hown hN.1 hP 1 rfl rfl 8 (by decide) (hts _ mX9_change_1) (fun _ h9 => h9) rfl dX9_change_67 ?_
        refine lv_bipush (v := 21) hx hb dX9_change_70 (by decide) ?_
        refine ld_i (v := (g644 21)) hx hb hN hP 0 rfl (vp_in_nI (n := 21) (N := 45783) (by omega) (by omega)) (by rw [(show (21 : Int32).toNatClampNeg = 21 from nI_clamp (n := 21) (by omega))]) dX9_change_72 ?_
        refine gn_i (fun x671 => ?_)
        have hB : Bx B0 D _ [(f643_8, .inl (cs 0, 45783, .inl g644)), (w, .inr (9, [.int f643_0, .ref f643_1, .int (nI ((κ w).2.2.1)), .int (nI f643_3), .int (nI f643_4), .int f643_5, .int f643_6, .int f643_7, .ref f643_8, .ref f643_9, .ref f643_10, .ref f643_11, .int (nI f643_12), .int f643_13, .int f643_14, .int f643_15, .int f643_16, .ref f643_17]))] [] _ _ := Bx.of (fun a => (κ a).1) hL hP (fa_c hb644 (fa_c hb643 fa_n)) (by simp only [List.map_cons, List.map_nil, t643_8.1, hw.1]; decide)
        refine b_i hx hb hN hB 0 rfl (vp_in_nI (n := 21) (N := 45783) (by omega) (by omega)) (.inl rfl) dX9_change_73 (fun H locs hB => ?_)
        rw [(show (21 : Int32).toNatClampNeg = 21 from nI_clamp (n := 21) (by omega))] at hB
        have hB : Bx B0 D _ [(f643_8, .inl (cs 0, 45783, .inl (upd g644 21 x671))), (w, .inr (9, [.int f643_0, .ref f643_1, .int (nI ((κ w).2.2.1)), .int (nI f643_3), .int (nI f643_4), .int f643_5, .int f643_6, .int f643_7, .ref f643_8, .ref f643_9, .ref f643_10, .ref f643_11, .int (nI f643_12), .int f643_13, .int f643_14, .int f643_15, .int f643_16, .ref f643_17]))] [f643_8] _ _ := hB
        have z672 := DOK.sf q644 (k := 21) (by omega) (x := x671)
        refine lv_aload_n hx hb dX9_change_74 rfl (lv_at hl 1 rfl) ?_
        refine va_get (D := D) (ci := 9) (v := .ref f643_8) (C := RX9) (T := TX9) (N := 18) hx hb hts iX9_change_9 hown hN.1 hB.1 1 rfl rfl 8 (by decide) (hts _ mX9_change_1) (fun _ h9 => h9) rfl dX9_change_75 ?_
        refine lv_bipush (v := 22) hx hb dX9_change_78 (by decide) ?_
        refine lv_aload_n hx hb dX9_change_80 rfl (lv_at hl 1 rfl) ?_
        refine va_get (D := D) (ci := 9) (v := .ref f643_8) (C := RX9) (T := TX9) (N := 18) hx hb hts iX9_change_9 hown hN.1 hB.1 1 rfl rfl 8 (by decide) (hts _ mX9_change_1) (fun _ h9 => h9) rfl dX9_change_81 ?_
        refine lv_iconst (v := 1) hx hb dX9_change_84 (by decide) ?_
        refine ld_i (v := ((upd g644 21 x671) 1)) hx hb hN hB.1 0 rfl (vp_in_nI (n := 1) (N := 45783) (by omega) (by omega)) (by rw [(show (1 : Int32).toNatClampNeg = 1 from nI_clamp (n := 1) (by omega))]) dX9_change_85 ?_
        refine gn_i (fun x673 => ?_)
        refine b_i hx hb hN hB 0 rfl (vp_in_nI (n := 22) (N := 45783) (by omega) (by omega)) (.inr ⟨rfl, List.mem_of_getElem? (i := 0) rfl⟩) dX9_change_86 (fun H locs hB => ?_)
        rw [(show (22 : Int32).toNatClampNeg = 22 from nI_clamp (n := 22) (by omega))] at hB
        have hB : Bx B0 D _ [(f643_8, .inl (cs 0, 45783, .inl (upd (upd g644 21 x671) 22 x673))), (w, .inr (9, [.int f643_0, .ref f643_1, .int (nI ((κ w).2.2.1)), .int (nI f643_3), .int (nI f643_4), .int f643_5, .int f643_6, .int f643_7, .ref f643_8, .ref f643_9, .ref f643_10, .ref f643_11, .int (nI f643_12), .int f643_13, .int f643_14, .int f643_15, .int f643_16, .ref f643_17]))] [f643_8] _ _ := hB
        have z674 := DOK.sf z672 (k := 22) (by omega) (x := x673)
        refine lv_aload_n hx hb dX9_change_87 rfl (lv_at hl 1 rfl) ?_
        refine lv_iload_n hx hb dX9_change_88 rfl (lv_at hl 2 rfl) ?_
        refine lv_iconst (v := 4) hx hb dX9_change_89 (by decide) ?_
        refine lv_aload_n hx hb dX9_change_90 rfl (lv_at hl 1 rfl) ?_
        refine lv_iload_n hx hb dX9_change_91 rfl (lv_at hl 2 rfl) ?_
        refine lv_bipush (v := 7) hx hb dX9_change_92 (by decide) ?_
        have hT : WT B0 D cs T κ _ := hT.close hB ⟨⟨0, _, rfl, ok_24 t643_8.1 ⟨_, rfl, z674⟩⟩, trivial⟩
        have hF : Fr B0 [12] κ H0 _ := hF.close hB (fa_c (by simp [t643_8.2]) fa_n)
        have hL : OkL B0 _ := hB.2.2.2.2.2
        have hP : va_P D vwCl [(f643_8, .inl (cs 0, 45783, .inl (upd (upd g644 21 x671) 22 x673))), (w, .inr (9, [.int f643_0, .ref f643_1, .int (nI ((κ w).2.2.1)), .int (nI f643_3), .int (nI f643_4), .int f643_5, .int f643_6, .int f643_7, .ref f643_8, .ref f643_9, .ref f643_10, .ref f643_11, .int (nI f643_12), .int f643_13, .int f643_14, .int f643_15, .int f643_16, .ref f643_17]))] _ := hB.1
        refine cv_i (As := [.int (nI n), .int 7]) (rest := [.int 4, .int (nI n), .ref w]) (b := w) ⟨hx, hb, hml, hown, hts⟩ (c_X9_of hT (w := w) hw (n := n) (k := 7) (by first | omega | decide | assumption) (by first | omega | decide | assumption)) (cwV 2 hts gX9_change_X9_of rfl rfl rfl hdX9_of_v ⟨Nat.le_of_ble_eq_true rfl, Nat.le_of_ble_eq_true rfl⟩) hN hL (rcv10 hN hT hw.1) rfl rfl hl.1 (Nat.le_of_ble_eq_true rfl) dX9_change_94 (Nat.zero_le _) (Nat.zero_le _) (fun r675 H1 locs hL hqr675 => ?_)
        obtain rfl := hqr675.symm
        refine cv_v (As := [.int (nI n), .int 4, .int r675]) (rest := []) (b := w) ⟨hx, hb, hml, hown, hts⟩ (c_X9_set hT (w := w) hw (n := n) (k := 4) (x := r675) (by first | omega | decide | assumption) (by first | omega | decide | assumption)) (cwV 3 hts gX9_change_X9_set rfl rfl rfl hdX9_set_v ⟨Nat.le_of_ble_eq_true rfl, Nat.le_of_ble_eq_true rfl⟩) hN hL (rcv10 hN hT hw.1) rfl rfl hl.1 (Nat.le_of_ble_eq_true rfl) dX9_change_97 (Nat.zero_le _) (Nat.zero_le _) (fun H1 locs hL hqr676 => ?_)
        obtain ⟨hT1, hF1⟩ := hqr676
        have hF := hF.tr (hF1.mono (by simp))
        have hT := hT1
        refine lv_aload_n hx hb dX9_change_100 rfl (lv_at hl 1 rfl) ?_
        refine lv_iload_n hx hb dX9_change_101 rfl (lv_at hl 2 rfl) ?_
        refine lv_bipush (v := 9) hx hb dX9_change_102 (by decide) ?_
        refine lv_aload_n hx hb dX9_change_104 rfl (lv_at hl 1 rfl) ?_
        refine lv_iload_n hx hb dX9_change_105 rfl (lv_at hl 2 rfl) ?_
        refine lv_bipush (v := 9) hx hb dX9_change_106 (by decide) ?_
        refine cv_i (As := [.int (nI n), .int 9]) (rest := [.int 9, .int (nI n), .ref w]) (b := w) ⟨hx, hb, hml, hown, hts⟩ (c_X9_of hT (w := w) hw (n := n) (k := 9) (by first | omega | decide | assumption) (by first | omega | decide | assumption)) (cwV 2 hts gX9_change_X9_of rfl rfl rfl hdX9_of_v ⟨Nat.le_of_ble_eq_true rfl, Nat.le_of_ble_eq_true rfl⟩) hN hL (rcv10 hN hT hw.1) rfl rfl hl.1 (Nat.le_of_ble_eq_true rfl) dX9_change_108 (Nat.zero_le _) (Nat.zero_le _) (fun r677 H1 locs hL hqr677 => ?_)
        obtain rfl := hqr677.symm
        refine lv_iconst (v := 1) hx hb dX9_change_111 (by decide) ?_
        refine lv_iadd hx hb dX9_change_112 ?_
        refine gn_i (fun x678 => ?_)
        refine cv_v (As := [.int (nI n), .int 9, .int x678]) (rest := []) (b := w) ⟨hx, hb, hml, hown, hts⟩ (c_X9_set hT (w := w) hw (n := n) (k := 9) (x := x678) (by first | omega | decide | assumption) (by first | omega | decide | assumption)) (cwV 3 hts gX9_change_X9_set rfl rfl rfl hdX9_set_v ⟨Nat.le_of_ble_eq_true rfl, Nat.le_of_ble_eq_true rfl⟩) hN hL (rcv10 hN hT hw.1) rfl rfl hl.1 (Nat.le_of_ble_eq_true rfl) dX9_change_113 (Nat.zero_le _) (Nat.zero_le _) (fun H1 locs hL hqr679 => ?_)
        obtain ⟨hT1, hF1⟩ := hqr679
        have hF := hF.tr (hF1.mono (by simp))
        have hT := hT1
        refine lv_aload_n hx hb dX9_change_116 rfl (lv_at hl 1 rfl) ?_
        refine lv_iload_n hx hb dX9_change_117 rfl (lv_at hl 2 rfl) ?_
        refine lv_bipush (v := 10) hx hb dX9_change_118 (by decide) ?_
        refine lv_aload_n hx hb dX9_change_120 rfl (lv_at hl 1 rfl) ?_
        refine lv_iload_n hx hb dX9_change_121 rfl (lv_at hl 2 rfl) ?_
        refine lv_bipush (v := 10) hx hb dX9_change_122 (by decide) ?_
        refine cv_i (As := [.int (nI n), .int 10]) (rest := [.int 10, .int (nI n), .ref w]) (b := w) ⟨hx, hb, hml, hown, hts⟩ (c_X9_of hT (w := w) hw (n := n) (k := 10) (by first | omega | decide | assumption) (by first | omega | decide | assumption)) (cwV 2 hts gX9_change_X9_of rfl rfl rfl hdX9_of_v ⟨Nat.le_of_ble_eq_true rfl, Nat.le_of_ble_eq_true rfl⟩) hN hL (rcv10 hN hT hw.1) rfl rfl hl.1 (Nat.le_of_ble_eq_true rfl) dX9_change_124 (Nat.zero_le _) (Nat.zero_le _) (fun r680 H1 locs hL hqr680 => ?_)
        obtain rfl := hqr680.symm
        refine lv_iload_n hx hb dX9_change_127 rfl (lv_at hl 0 rfl) ?_
        refine lv_iadd hx hb dX9_change_128 ?_
        refine gn_i (fun x681 => ?_)
        refine cv_v (As := [.int (nI n), .int 10, .int x681]) (rest := []) (b := w) ⟨hx, hb, hml, hown, hts⟩ (c_X9_set hT (w := w) hw (n := n) (k := 10) (x := x681) (by first | omega | decide | assumption) (by first | omega | decide | assumption)) (cwV 3 hts gX9_change_X9_set rfl rfl rfl hdX9_set_v ⟨Nat.le_of_ble_eq_true rfl, Nat.le_of_ble_eq_true rfl⟩) hN hL (rcv10 hN hT hw.1) rfl rfl hl.1 (Nat.le_of_ble_eq_true rfl) dX9_change_129 (Nat.zero_le _) (Nat.zero_le _) (fun H1 locs hL hqr682 => ?_)
        obtain ⟨hT1, hF1⟩ := hqr682
        have hF := hF.tr (hF1.mono (by simp))
        have hT := hT1
        refine lv_aload_n hx hb dX9_change_132 rfl (lv_at hl 1 rfl) ?_
        refine lv_iload_n hx hb dX9_change_133 rfl (lv_at hl 2 rfl) ?_
        refine lv_bipush (v := 11) hx hb dX9_change_134 (by decide) ?_
        refine lv_aload_n hx hb dX9_change_136 rfl (lv_at hl 1 rfl) ?_
        obtain ⟨hb683, e683, hat683, hk683⟩ := hT.o10 hw.1
        obtain ⟨f683_0, f683_1, f683_3, f683_4, f683_5, f683_6, f683_7, f683_8, f683_9, f683_10, f683_11, f683_12, f683_13, f683_14, f683_15, f683_16, f683_17, rfl, c683_2, c683_3, c683_4, c683_12, t683_1, t683_8, t683_9, c683_sd, t683_10, t683_11, t683_17⟩ := hk683
        have hP : va_P D vwCl [(w, .inr (9, [.int f683_0, .ref f683_1, .int (nI ((κ w).2.2.1)), .int (nI f683_3), .int (nI f683_4), .int f683_5, .int f683_6, .int f683_7, .ref f683_8, .ref f683_9, .ref f683_10, .ref f683_11, .int (nI f683_12), .int f683_13, .int f683_14, .int f683_15, .int f683_16, .ref f683_17]))] _ := va_P.cons hat683 va_P.nil
        refine va_get (D := D) (ci := 9) (v := .ref f683_8) (C := RX9) (T := TX9) (N := 18) hx hb hts iX9_change_9 hown hN.1 hP 0 rfl rfl 8 (by decide) (hts _ mX9_change_1) (fun _ h9 => h9) rfl dX9_change_137 ?_
        refine lv_iconst (v := 1) hx hb dX9_change_140 (by decide) ?_
        obtain ⟨hb684, e684, hat684, hk684⟩ := hT.o24 t683_8.1
        obtain ⟨g684, rfl, q684⟩ := hk684
        have hP : va_P D vwCl [(f683_8, .inl (cs 0, 45783, .inl g684)), (w, .inr (9, [.int f683_0, .ref f683_1, .int (nI ((κ w).2.2.1)), .int (nI f683_3), .int (nI f683_4), .int f683_5, .int f683_6, .int f683_7, .ref f683_8, .ref f683_9, .ref f683_10, .ref f683_11, .int (nI f683_12), .int f683_13, .int f683_14, .int f683_15, .int f683_16, .ref f683_17]))] _ := va_P.cons hat684 hP
        refine ld_i (v := (g684 1)) hx hb hN hP 0 rfl (vp_in_nI (n := 1) (N := 45783) (by omega) (by omega)) (by rw [(show (1 : Int32).toNatClampNeg = 1 from nI_clamp (n := 1) (by omega))]) dX9_change_141 ?_
        refine gn_i (fun x685 => ?_)
        refine cv_v (As := [.int (nI n), .int 11, .int x685]) (rest := []) (b := w) ⟨hx, hb, hml, hown, hts⟩ (c_X9_set hT (w := w) hw (n := n) (k := 11) (x := x685) (by first | omega | decide | assumption) (by first | omega | decide | assumption)) (cwV 3 hts gX9_change_X9_set rfl rfl rfl hdX9_set_v ⟨Nat.le_of_ble_eq_true rfl, Nat.le_of_ble_eq_true rfl⟩) hN hL (rcv10 hN hT hw.1) rfl rfl hl.1 (Nat.le_of_ble_eq_true rfl) dX9_change_142 (Nat.zero_le _) (Nat.zero_le _) (fun H1 locs hL hqr686 => ?_)
        obtain ⟨hT1, hF1⟩ := hqr686
        have hF := hF.tr (hF1.mono (by simp))
        have hT := hT1
        refine lv_aload_n hx hb dX9_change_145 rfl (lv_at hl 1 rfl) ?_
        refine lv_iload_n hx hb dX9_change_146 rfl (lv_at hl 2 rfl) ?_
        refine cv_v (As := [.int (nI n)]) (rest := []) (b := w) ⟨hx, hb, hml, hown, hts⟩ (c_X9_dropPlan hT (w := w) hw (n := n) (by first | omega | decide | assumption)) (cwV 1 hts gX9_change_X9_dropPlan rfl rfl rfl hdX9_dropPlan_v ⟨Nat.le_of_ble_eq_true rfl, Nat.le_of_ble_eq_true rfl⟩) hN hL (rcv10 hN hT hw.1) rfl rfl hl.1 (Nat.le_of_ble_eq_true rfl) dX9_change_147 (Nat.zero_le _) (Nat.zero_le _) (fun H1 locs hL hqr687 => ?_)
        obtain ⟨hT1, hF1⟩ := hqr687
        have hF := hF.tr (hF1.mono (by simp))
        have hT := hT1
        refine lv_aload_n hx hb dX9_change_150 rfl (lv_at hl 1 rfl) ?_
        obtain ⟨hb688, e688, hat688, hk688⟩ := hT.o10 hw.1
        obtain ⟨f688_0, f688_1, f688_3, f688_4, f688_5, f688_6, f688_7, f688_8, f688_9, f688_10, f688_11, f688_12, f688_13, f688_14, f688_15, f688_16, f688_17, rfl, c688_2, c688_3, c688_4, c688_12, t688_1, t688_8, t688_9, c688_sd, t688_10, t688_11, t688_17⟩ := hk688
        have hP : va_P D vwCl [(w, .inr (9, [.int f688_0, .ref f688_1, .int (nI ((κ w).2.2.1)), .int (nI f688_3), .int (nI f688_4), .int f688_5, .int f688_6, .int f688_7, .ref f688_8, .ref f688_9, .ref f688_10, .ref f688_11, .int (nI f688_12), .int f688_13, .int f688_14, .int f688_15, .int f688_16, .ref f688_17]))] _ := va_P.cons hat688 va_P.nil
        refine va_get (D := D) (ci := 9) (v := .ref f688_8) (C := RX9) (T := TX9) (N := 18) hx hb hts iX9_change_9 hown hN.1 hP 0 rfl rfl 8 (by decide) (hts _ mX9_change_1) (fun _ h9 => h9) rfl dX9_change_151 ?_
        refine lv_bipush (v := 9) hx hb dX9_change_154 (by decide) ?_
        refine lv_dup2_11 hx hb dX9_change_156 rfl rfl ?_
        obtain ⟨hb689, e689, hat689, hk689⟩ := hT.o24 t688_8.1
        obtain ⟨g689, rfl, q689⟩ := hk689
        have hP : va_P D vwCl [(f688_8, .inl (cs 0, 45783, .inl g689)), (w, .inr (9, [.int f688_0, .ref f688_1, .int (nI ((κ w).2.2.1)), .int (nI f688_3), .int (nI f688_4), .int f688_5, .int f688_6, .int f688_7, .ref f688_8, .ref f688_9, .ref f688_10, .ref f688_11, .int (nI f688_12), .int f688_13, .int f688_14, .int f688_15, .int f688_16, .ref f688_17]))] _ := va_P.cons hat689 hP
        refine ld_i (v := (g689 9)) hx hb hN hP 0 rfl (vp_in_nI (n := 9) (N := 45783) (by omega) (by omega)) (by rw [(show (9 : Int32).toNatClampNeg = 9 from nI_clamp (n := 9) (by omega))]) dX9_change_157 ?_
        refine gn_i (fun x690 => ?_)
        refine lv_iconst (v := 1) hx hb dX9_change_158 (by decide) ?_
        refine lv_iadd hx hb dX9_change_159 ?_
        refine gn_i (fun x691 => ?_)
        have hB : Bx B0 D _ [(f688_8, .inl (cs 0, 45783, .inl g689)), (w, .inr (9, [.int f688_0, .ref f688_1, .int (nI ((κ w).2.2.1)), .int (nI f688_3), .int (nI f688_4), .int f688_5, .int f688_6, .int f688_7, .ref f688_8, .ref f688_9, .ref f688_10, .ref f688_11, .int (nI f688_12), .int f688_13, .int f688_14, .int f688_15, .int f688_16, .ref f688_17]))] [] _ _ := Bx.of (fun a => (κ a).1) hL hP (fa_c hb689 (fa_c hb688 fa_n)) (by simp only [List.map_cons, List.map_nil, t688_8.1, hw.1]; decide)
        refine b_i hx hb hN hB 0 rfl (vp_in_nI (n := 9) (N := 45783) (by omega) (by omega)) (.inl rfl) dX9_change_160 (fun H locs hB => ?_)
        rw [(show (9 : Int32).toNatClampNeg = 9 from nI_clamp (n := 9) (by omega))] at hB
        have hB : Bx B0 D _ [(f688_8, .inl (cs 0, 45783, .inl (upd g689 9 x691))), (w, .inr (9, [.int f688_0, .ref f688_1, .int (nI ((κ w).2.2.1)), .int (nI f688_3), .int (nI f688_4), .int f688_5, .int f688_6, .int f688_7, .ref f688_8, .ref f688_9, .ref f688_10, .ref f688_11, .int (nI f688_12), .int f688_13, .int f688_14, .int f688_15, .int f688_16, .ref f688_17]))] [f688_8] _ _ := hB
        have z692 := DOK.sf q689 (k := 9) (by omega) (x := x691)
        refine lv_aload_n hx hb dX9_change_161 rfl (lv_at hl 1 rfl) ?_
        refine va_get (D := D) (ci := 9) (v := .ref f688_8) (C := RX9) (T := TX9) (N := 18) hx hb hts iX9_change_9 hown hN.1 hB.1 1 rfl rfl 8 (by decide) (hts _ mX9_change_1) (fun _ h9 => h9) rfl dX9_change_162 ?_
        refine lv_bipush (v := 10) hx hb dX9_change_165 (by decide) ?_
        refine lv_dup2_11 hx hb dX9_change_167 rfl rfl ?_
        refine ld_i (v := ((upd g689 9 x691) 10)) hx hb hN hB.1 0 rfl (vp_in_nI (n := 10) (N := 45783) (by omega) (by omega)) (by rw [(show (10 : Int32).toNatClampNeg = 10 from nI_clamp (n := 10) (by omega))]) dX9_change_168 ?_
        refine gn_i (fun x693 => ?_)
        refine lv_iload_n hx hb dX9_change_169 rfl (lv_at hl 0 rfl) ?_
        refine lv_iadd hx hb dX9_change_170 ?_
        refine gn_i (fun x694 => ?_)
        refine b_i hx hb hN hB 0 rfl (vp_in_nI (n := 10) (N := 45783) (by omega) (by omega)) (.inr ⟨rfl, List.mem_of_getElem? (i := 0) rfl⟩) dX9_change_171 (fun H locs hB => ?_)
        rw [(show (10 : Int32).toNatClampNeg = 10 from nI_clamp (n := 10) (by omega))] at hB
        have hB : Bx B0 D _ [(f688_8, .inl (cs 0, 45783, .inl (upd (upd g689 9 x691) 10 x694))), (w, .inr (9, [.int f688_0, .ref f688_1, .int (nI ((κ w).2.2.1)), .int (nI f688_3), .int (nI f688_4), .int f688_5, .int f688_6, .int f688_7, .ref f688_8, .ref f688_9, .ref f688_10, .ref f688_11, .int (nI f688_12), .int f688_13, .int f688_14, .int f688_15, .int f688_16, .ref f688_17]))] [f688_8] _ _ := hB
        have z695 := DOK.sf z692 (k := 10) (by omega) (x := x694)
        have hT : WT B0 D cs T κ _ := hT.close hB ⟨⟨0, _, rfl, ok_24 t688_8.1 ⟨_, rfl, z695⟩⟩, trivial⟩
        have hF : Fr B0 [12] κ H0 _ := hF.close hB (fa_c (by simp [t688_8.2]) fa_n)
        have hL : OkL B0 _ := hB.2.2.2.2.2
        have hP : va_P D vwCl [(f688_8, .inl (cs 0, 45783, .inl (upd (upd g689 9 x691) 10 x694))), (w, .inr (9, [.int f688_0, .ref f688_1, .int (nI ((κ w).2.2.1)), .int (nI f688_3), .int (nI f688_4), .int f688_5, .int f688_6, .int f688_7, .ref f688_8, .ref f688_9, .ref f688_10, .ref f688_11, .int (nI f688_12), .int f688_13, .int f688_14, .int f688_15, .int f688_16, .ref f688_17]))] _ := hB.1
        exact en_v hx hb hr hlocks hL (Nat.zero_le _) (Nat.zero_le _) dX9_change_172 (⟨hT, hF⟩)
      · refine lv_aload_n hx hb dX9_change_57 rfl (lv_at hl 1 rfl) ?_
        refine va_get (D := D) (ci := 9) (v := .ref f643_8) (C := RX9) (T := TX9) (N := 18) hx hb hts iX9_change_9 hown hN.1 hP 1 rfl rfl 8 (by decide) (hts _ mX9_change_1) (fun _ h9 => h9) rfl dX9_change_58 ?_
        refine lv_iconst (v := 1) hx hb dX9_change_61 (by decide) ?_
        refine ld_i (v := (g644 1)) hx hb hN hP 0 rfl (vp_in_nI (n := 1) (N := 45783) (by omega) (by omega)) (by rw [(show (1 : Int32).toNatClampNeg = 1 from nI_clamp (n := 1) (by omega))]) dX9_change_62 ?_
        refine gn_i (fun x696 => ?_)
        refine lv_goto (tgt := 73) hx hb dX9_change_63 (by decide) ?_
        have hB : Bx B0 D _ [(f643_8, .inl (cs 0, 45783, .inl g644)), (w, .inr (9, [.int f643_0, .ref f643_1, .int (nI ((κ w).2.2.1)), .int (nI f643_3), .int (nI f643_4), .int f643_5, .int f643_6, .int f643_7, .ref f643_8, .ref f643_9, .ref f643_10, .ref f643_11, .int (nI f643_12), .int f643_13, .int f643_14, .int f643_15, .int f643_16, .ref f643_17]))] [] _ _ := Bx.of (fun a => (κ a).1) hL hP (fa_c hb644 (fa_c hb643 fa_n)) (by simp only [List.map_cons, List.map_nil, t643_8.1, hw.1]; decide)
        refine b_i hx hb hN hB 0 rfl (vp_in_nI (n := 21) (N := 45783) (by omega) (by omega)) (.inl rfl) dX9_change_73 (fun H locs hB => ?_)
        rw [(show (21 : Int32).toNatClampNeg = 21 from nI_clamp (n := 21) (by omega))] at hB
        have hB : Bx B0 D _ [(f643_8, .inl (cs 0, 45783, .inl (upd g644 21 x696))), (w, .inr (9, [.int f643_0, .ref f643_1, .int (nI ((κ w).2.2.1)), .int (nI f643_3), .int (nI f643_4), .int f643_5, .int f643_6, .int f643_7, .ref f643_8, .ref f643_9, .ref f643_10, .ref f643_11, .int (nI f643_12), .int f643_13, .int f643_14, .int f643_15, .int f643_16, .ref f643_17]))] [f643_8] _ _ := hB
        have z697 := DOK.sf q644 (k := 21) (by omega) (x := x696)
        refine lv_aload_n hx hb dX9_change_74 rfl (lv_at hl 1 rfl) ?_
        refine va_get (D := D) (ci := 9) (v := .ref f643_8) (C := RX9) (T := TX9) (N := 18) hx hb hts iX9_change_9 hown hN.1 hB.1 1 rfl rfl 8 (by decide) (hts _ mX9_change_1) (fun _ h9 => h9) rfl dX9_change_75 ?_
        refine lv_bipush (v := 22) hx hb dX9_change_78 (by decide) ?_
        refine lv_aload_n hx hb dX9_change_80 rfl (lv_at hl 1 rfl) ?_
        refine va_get (D := D) (ci := 9) (v := .ref f643_8) (C := RX9) (T := TX9) (N := 18) hx hb hts iX9_change_9 hown hN.1 hB.1 1 rfl rfl 8 (by decide) (hts _ mX9_change_1) (fun _ h9 => h9) rfl dX9_change_81 ?_
        refine lv_iconst (v := 1) hx hb dX9_change_84 (by decide) ?_
        refine ld_i (v := ((upd g644 21 x696) 1)) hx hb hN hB.1 0 rfl (vp_in_nI (n := 1) (N := 45783) (by omega) (by omega)) (by rw [(show (1 : Int32).toNatClampNeg = 1 from nI_clamp (n := 1) (by omega))]) dX9_change_85 ?_
        refine gn_i (fun x698 => ?_)
        refine b_i hx hb hN hB 0 rfl (vp_in_nI (n := 22) (N := 45783) (by omega) (by omega)) (.inr ⟨rfl, List.mem_of_getElem? (i := 0) rfl⟩) dX9_change_86 (fun H locs hB => ?_)
        rw [(show (22 : Int32).toNatClampNeg = 22 from nI_clamp (n := 22) (by omega))] at hB
        have hB : Bx B0 D _ [(f643_8, .inl (cs 0, 45783, .inl (upd (upd g644 21 x696) 22 x698))), (w, .inr (9, [.int f643_0, .ref f643_1, .int (nI ((κ w).2.2.1)), .int (nI f643_3), .int (nI f643_4), .int f643_5, .int f643_6, .int f643_7, .ref f643_8, .ref f643_9, .ref f643_10, .ref f643_11, .int (nI f643_12), .int f643_13, .int f643_14, .int f643_15, .int f643_16, .ref f643_17]))] [f643_8] _ _ := hB
        have z699 := DOK.sf z697 (k := 22) (by omega) (x := x698)
        refine lv_aload_n hx hb dX9_change_87 rfl (lv_at hl 1 rfl) ?_
        refine lv_iload_n hx hb dX9_change_88 rfl (lv_at hl 2 rfl) ?_
        refine lv_iconst (v := 4) hx hb dX9_change_89 (by decide) ?_
        refine lv_aload_n hx hb dX9_change_90 rfl (lv_at hl 1 rfl) ?_
        refine lv_iload_n hx hb dX9_change_91 rfl (lv_at hl 2 rfl) ?_
        refine lv_bipush (v := 7) hx hb dX9_change_92 (by decide) ?_
        have hT : WT B0 D cs T κ _ := hT.close hB ⟨⟨0, _, rfl, ok_24 t643_8.1 ⟨_, rfl, z699⟩⟩, trivial⟩
        have hF : Fr B0 [12] κ H0 _ := hF.close hB (fa_c (by simp [t643_8.2]) fa_n)
        have hL : OkL B0 _ := hB.2.2.2.2.2
        have hP : va_P D vwCl [(f643_8, .inl (cs 0, 45783, .inl (upd (upd g644 21 x696) 22 x698))), (w, .inr (9, [.int f643_0, .ref f643_1, .int (nI ((κ w).2.2.1)), .int (nI f643_3), .int (nI f643_4), .int f643_5, .int f643_6, .int f643_7, .ref f643_8, .ref f643_9, .ref f643_10, .ref f643_11, .int (nI f643_12), .int f643_13, .int f643_14, .int f643_15, .int f643_16, .ref f643_17]))] _ := hB.1
        refine cv_i (As := [.int (nI n), .int 7]) (rest := [.int 4, .int (nI n), .ref w]) (b := w) ⟨hx, hb, hml, hown, hts⟩ (c_X9_of hT (w := w) hw (n := n) (k := 7) (by first | omega | decide | assumption) (by first | omega | decide | assumption)) (cwV 2 hts gX9_change_X9_of rfl rfl rfl hdX9_of_v ⟨Nat.le_of_ble_eq_true rfl, Nat.le_of_ble_eq_true rfl⟩) hN hL (rcv10 hN hT hw.1) rfl rfl hl.1 (Nat.le_of_ble_eq_true rfl) dX9_change_94 (Nat.zero_le _) (Nat.zero_le _) (fun r700 H1 locs hL hqr700 => ?_)
        obtain rfl := hqr700.symm
        refine cv_v (As := [.int (nI n), .int 4, .int r700]) (rest := []) (b := w) ⟨hx, hb, hml, hown, hts⟩ (c_X9_set hT (w := w) hw (n := n) (k := 4) (x := r700) (by first | omega | decide | assumption) (by first | omega | decide | assumption)) (cwV 3 hts gX9_change_X9_set rfl rfl rfl hdX9_set_v ⟨Nat.le_of_ble_eq_true rfl, Nat.le_of_ble_eq_true rfl⟩) hN hL (rcv10 hN hT hw.1) rfl rfl hl.1 (Nat.le_of_ble_eq_true rfl) dX9_change_97 (Nat.zero_le _) (Nat.zero_le _) (fun H1 locs hL hqr701 => ?_)
        obtain ⟨hT1, hF1⟩ := hqr701
        have hF := hF.tr (hF1.mono (by simp))
        have hT := hT1
        refine lv_aload_n hx hb dX9_change_100 rfl (lv_at hl 1 rfl) ?_
        refine lv_iload_n hx hb dX9_change_101 rfl (lv_at hl 2 rfl) ?_
        refine lv_bipush (v := 9) hx hb dX9_change_102 (by decide) ?_
        refine lv_aload_n hx hb dX9_change_104 rfl (lv_at hl 1 rfl) ?_
        refine lv_iload_n hx hb dX9_change_105 rfl (lv_at hl 2 rfl) ?_
        refine lv_bipush (v := 9) hx hb dX9_change_106 (by decide) ?_
        refine cv_i (As := [.int (nI n), .int 9]) (rest := [.int 9, .int (nI n), .ref w]) (b := w) ⟨hx, hb, hml, hown, hts⟩ (c_X9_of hT (w := w) hw (n := n) (k := 9) (by first | omega | decide | assumption) (by first | omega | decide | assumption)) (cwV 2 hts gX9_change_X9_of rfl rfl rfl hdX9_of_v ⟨Nat.le_of_ble_eq_true rfl, Nat.le_of_ble_eq_true rfl⟩) hN hL (rcv10 hN hT hw.1) rfl rfl hl.1 (Nat.le_of_ble_eq_true rfl) dX9_change_108 (Nat.zero_le _) (Nat.zero_le _) (fun r702 H1 locs hL hqr702 => ?_)
        obtain rfl := hqr702.symm
        refine lv_iconst (v := 1) hx hb dX9_change_111 (by decide) ?_
        refine lv_iadd hx hb dX9_change_112 ?_
        refine gn_i (fun x703 => ?_)
        refine cv_v (As := [.int (nI n), .int 9, .int x703]) (rest := []) (b := w) ⟨hx, hb, hml, hown, hts⟩ (c_X9_set hT (w := w) hw (n := n) (k := 9) (x := x703) (by first | omega | decide | assumption) (by first | omega | decide | assumption)) (cwV 3 hts gX9_change_X9_set rfl rfl rfl hdX9_set_v ⟨Nat.le_of_ble_eq_true rfl, Nat.le_of_ble_eq_true rfl⟩) hN hL (rcv10 hN hT hw.1) rfl rfl hl.1 (Nat.le_of_ble_eq_true rfl) dX9_change_113 (Nat.zero_le _) (Nat.zero_le _) (fun H1 locs hL hqr704 => ?_)
        obtain ⟨hT1, hF1⟩ := hqr704
        have hF := hF.tr (hF1.mono (by simp))
        have hT := hT1
        refine lv_aload_n hx hb dX9_change_116 rfl (lv_at hl 1 rfl) ?_
        refine lv_iload_n hx hb dX9_change_117 rfl (lv_at hl 2 rfl) ?_
        refine lv_bipush (v := 10) hx hb dX9_change_118 (by decide) ?_
        refine lv_aload_n hx hb dX9_change_120 rfl (lv_at hl 1 rfl) ?_
        refine lv_iload_n hx hb dX9_change_121 rfl (lv_at hl 2 rfl) ?_
        refine lv_bipush (v := 10) hx hb dX9_change_122 (by decide) ?_
        refine cv_i (As := [.int (nI n), .int 10]) (rest := [.int 10, .int (nI n), .ref w]) (b := w) ⟨hx, hb, hml, hown, hts⟩ (c_X9_of hT (w := w) hw (n := n) (k := 10) (by first | omega | decide | assumption) (by first | omega | decide | assumption)) (cwV 2 hts gX9_change_X9_of rfl rfl rfl hdX9_of_v ⟨Nat.le_of_ble_eq_true rfl, Nat.le_of_ble_eq_true rfl⟩) hN hL (rcv10 hN hT hw.1) rfl rfl hl.1 (Nat.le_of_ble_eq_true rfl) dX9_change_124 (Nat.zero_le _) (Nat.zero_le _) (fun r705 H1 locs hL hqr705 => ?_)
        obtain rfl := hqr705.symm
        refine lv_iload_n hx hb dX9_change_127 rfl (lv_at hl 0 rfl) ?_
        refine lv_iadd hx hb dX9_change_128 ?_
        refine gn_i (fun x706 => ?_)
        refine cv_v (As := [.int (nI n), .int 10, .int x706]) (rest := []) (b := w) ⟨hx, hb, hml, hown, hts⟩ (c_X9_set hT (w := w) hw (n := n) (k := 10) (x := x706) (by first | omega | decide | assumption) (by first | omega | decide | assumption)) (cwV 3 hts gX9_change_X9_set rfl rfl rfl hdX9_set_v ⟨Nat.le_of_ble_eq_true rfl, Nat.le_of_ble_eq_true rfl⟩) hN hL (rcv10 hN hT hw.1) rfl rfl hl.1 (Nat.le_of_ble_eq_true rfl) dX9_change_129 (Nat.zero_le _) (Nat.zero_le _) (fun H1 locs hL hqr707 => ?_)
        obtain ⟨hT1, hF1⟩ := hqr707
        have hF := hF.tr (hF1.mono (by simp))
        have hT := hT1
        refine lv_aload_n hx hb dX9_change_132 rfl (lv_at hl 1 rfl) ?_
        refine lv_iload_n hx hb dX9_change_133 rfl (lv_at hl 2 rfl) ?_
        refine lv_bipush (v := 11) hx hb dX9_change_134 (by decide) ?_
        refine lv_aload_n hx hb dX9_change_136 rfl (lv_at hl 1 rfl) ?_
        obtain ⟨hb708, e708, hat708, hk708⟩ := hT.o10 hw.1
        obtain ⟨f708_0, f708_1, f708_3, f708_4, f708_5, f708_6, f708_7, f708_8, f708_9, f708_10, f708_11, f708_12, f708_13, f708_14, f708_15, f708_16, f708_17, rfl, c708_2, c708_3, c708_4, c708_12, t708_1, t708_8, t708_9, c708_sd, t708_10, t708_11, t708_17⟩ := hk708
        have hP : va_P D vwCl [(w, .inr (9, [.int f708_0, .ref f708_1, .int (nI ((κ w).2.2.1)), .int (nI f708_3), .int (nI f708_4), .int f708_5, .int f708_6, .int f708_7, .ref f708_8, .ref f708_9, .ref f708_10, .ref f708_11, .int (nI f708_12), .int f708_13, .int f708_14, .int f708_15, .int f708_16, .ref f708_17]))] _ := va_P.cons hat708 va_P.nil
        refine va_get (D := D) (ci := 9) (v := .ref f708_8) (C := RX9) (T := TX9) (N := 18) hx hb hts iX9_change_9 hown hN.1 hP 0 rfl rfl 8 (by decide) (hts _ mX9_change_1) (fun _ h9 => h9) rfl dX9_change_137 ?_
        refine lv_iconst (v := 1) hx hb dX9_change_140 (by decide) ?_
        obtain ⟨hb709, e709, hat709, hk709⟩ := hT.o24 t708_8.1
        obtain ⟨g709, rfl, q709⟩ := hk709
        have hP : va_P D vwCl [(f708_8, .inl (cs 0, 45783, .inl g709)), (w, .inr (9, [.int f708_0, .ref f708_1, .int (nI ((κ w).2.2.1)), .int (nI f708_3), .int (nI f708_4), .int f708_5, .int f708_6, .int f708_7, .ref f708_8, .ref f708_9, .ref f708_10, .ref f708_11, .int (nI f708_12), .int f708_13, .int f708_14, .int f708_15, .int f708_16, .ref f708_17]))] _ := va_P.cons hat709 hP
        refine ld_i (v := (g709 1)) hx hb hN hP 0 rfl (vp_in_nI (n := 1) (N := 45783) (by omega) (by omega)) (by rw [(show (1 : Int32).toNatClampNeg = 1 from nI_clamp (n := 1) (by omega))]) dX9_change_141 ?_
        refine gn_i (fun x710 => ?_)
        refine cv_v (As := [.int (nI n), .int 11, .int x710]) (rest := []) (b := w) ⟨hx, hb, hml, hown, hts⟩ (c_X9_set hT (w := w) hw (n := n) (k := 11) (x := x710) (by first | omega | decide | assumption) (by first | omega | decide | assumption)) (cwV 3 hts gX9_change_X9_set rfl rfl rfl hdX9_set_v ⟨Nat.le_of_ble_eq_true rfl, Nat.le_of_ble_eq_true rfl⟩) hN hL (rcv10 hN hT hw.1) rfl rfl hl.1 (Nat.le_of_ble_eq_true rfl) dX9_change_142 (Nat.zero_le _) (Nat.zero_le _) (fun H1 locs hL hqr711 => ?_)
        obtain ⟨hT1, hF1⟩ := hqr711
        have hF := hF.tr (hF1.mono (by simp))
        have hT := hT1
        refine lv_aload_n hx hb dX9_change_145 rfl (lv_at hl 1 rfl) ?_
        refine lv_iload_n hx hb dX9_change_146 rfl (lv_at hl 2 rfl) ?_
        refine cv_v (As := [.int (nI n)]) (rest := []) (b := w) ⟨hx, hb, hml, hown, hts⟩ (c_X9_dropPlan hT (w := w) hw (n := n) (by first | omega | decide | assumption)) (cwV 1 hts gX9_change_X9_dropPlan rfl rfl rfl hdX9_dropPlan_v ⟨Nat.le_of_ble_eq_true rfl, Nat.le_of_ble_eq_true rfl⟩) hN hL (rcv10 hN hT hw.1) rfl rfl hl.1 (Nat.le_of_ble_eq_true rfl) dX9_change_147 (Nat.zero_le _) (Nat.zero_le _) (fun H1 locs hL hqr712 => ?_)
        obtain ⟨hT1, hF1⟩ := hqr712
        have hF := hF.tr (hF1.mono (by simp))
        have hT := hT1
        refine lv_aload_n hx hb dX9_change_150 rfl (lv_at hl 1 rfl) ?_
        obtain ⟨hb713, e713, hat713, hk713⟩ := hT.o10 hw.1
        obtain ⟨f713_0, f713_1, f713_3, f713_4, f713_5, f713_6, f713_7, f713_8, f713_9, f713_10, f713_11, f713_12, f713_13, f713_14, f713_15, f713_16, f713_17, rfl, c713_2, c713_3, c713_4, c713_12, t713_1, t713_8, t713_9, c713_sd, t713_10, t713_11, t713_17⟩ := hk713
        have hP : va_P D vwCl [(w, .inr (9, [.int f713_0, .ref f713_1, .int (nI ((κ w).2.2.1)), .int (nI f713_3), .int (nI f713_4), .int f713_5, .int f713_6, .int f713_7, .ref f713_8, .ref f713_9, .ref f713_10, .ref f713_11, .int (nI f713_12), .int f713_13, .int f713_14, .int f713_15, .int f713_16, .ref f713_17]))] _ := va_P.cons hat713 va_P.nil
        refine va_get (D := D) (ci := 9) (v := .ref f713_8) (C := RX9) (T := TX9) (N := 18) hx hb hts iX9_change_9 hown hN.1 hP 0 rfl rfl 8 (by decide) (hts _ mX9_change_1) (fun _ h9 => h9) rfl dX9_change_151 ?_
        refine lv_bipush (v := 9) hx hb dX9_change_154 (by decide) ?_
        refine lv_dup2_11 hx hb dX9_change_156 rfl rfl ?_
        obtain ⟨hb714, e714, hat714, hk714⟩ := hT.o24 t713_8.1
        obtain ⟨g714, rfl, q714⟩ := hk714
        have hP : va_P D vwCl [(f713_8, .inl (cs 0, 45783, .inl g714)), (w, .inr (9, [.int f713_0, .ref f713_1, .int (nI ((κ w).2.2.1)), .int (nI f713_3), .int (nI f713_4), .int f713_5, .int f713_6, .int f713_7, .ref f713_8, .ref f713_9, .ref f713_10, .ref f713_11, .int (nI f713_12), .int f713_13, .int f713_14, .int f713_15, .int f713_16, .ref f713_17]))] _ := va_P.cons hat714 hP
        refine ld_i (v := (g714 9)) hx hb hN hP 0 rfl (vp_in_nI (n := 9) (N := 45783) (by omega) (by omega)) (by rw [(show (9 : Int32).toNatClampNeg = 9 from nI_clamp (n := 9) (by omega))]) dX9_change_157 ?_
        refine gn_i (fun x715 => ?_)
        refine lv_iconst (v := 1) hx hb dX9_change_158 (by decide) ?_
        refine lv_iadd hx hb dX9_change_159 ?_
        refine gn_i (fun x716 => ?_)
        have hB : Bx B0 D _ [(f713_8, .inl (cs 0, 45783, .inl g714)), (w, .inr (9, [.int f713_0, .ref f713_1, .int (nI ((κ w).2.2.1)), .int (nI f713_3), .int (nI f713_4), .int f713_5, .int f713_6, .int f713_7, .ref f713_8, .ref f713_9, .ref f713_10, .ref f713_11, .int (nI f713_12), .int f713_13, .int f713_14, .int f713_15, .int f713_16, .ref f713_17]))] [] _ _ := Bx.of (fun a => (κ a).1) hL hP (fa_c hb714 (fa_c hb713 fa_n)) (by simp only [List.map_cons, List.map_nil, t713_8.1, hw.1]; decide)
        refine b_i hx hb hN hB 0 rfl (vp_in_nI (n := 9) (N := 45783) (by omega) (by omega)) (.inl rfl) dX9_change_160 (fun H locs hB => ?_)
        rw [(show (9 : Int32).toNatClampNeg = 9 from nI_clamp (n := 9) (by omega))] at hB
        have hB : Bx B0 D _ [(f713_8, .inl (cs 0, 45783, .inl (upd g714 9 x716))), (w, .inr (9, [.int f713_0, .ref f713_1, .int (nI ((κ w).2.2.1)), .int (nI f713_3), .int (nI f713_4), .int f713_5, .int f713_6, .int f713_7, .ref f713_8, .ref f713_9, .ref f713_10, .ref f713_11, .int (nI f713_12), .int f713_13, .int f713_14, .int f713_15, .int f713_16, .ref f713_17]))] [f713_8] _ _ := hB
        have z717 := DOK.sf q714 (k := 9) (by omega) (x := x716)
        refine lv_aload_n hx hb dX9_change_161 rfl (lv_at hl 1 rfl) ?_
        refine va_get (D := D) (ci := 9) (v := .ref f713_8) (C := RX9) (T := TX9) (N := 18) hx hb hts iX9_change_9 hown hN.1 hB.1 1 rfl rfl 8 (by decide) (hts _ mX9_change_1) (fun _ h9 => h9) rfl dX9_change_162 ?_
        refine lv_bipush (v := 10) hx hb dX9_change_165 (by decide) ?_
        refine lv_dup2_11 hx hb dX9_change_167 rfl rfl ?_
        refine ld_i (v := ((upd g714 9 x716) 10)) hx hb hN hB.1 0 rfl (vp_in_nI (n := 10) (N := 45783) (by omega) (by omega)) (by rw [(show (10 : Int32).toNatClampNeg = 10 from nI_clamp (n := 10) (by omega))]) dX9_change_168 ?_
        refine gn_i (fun x718 => ?_)
        refine lv_iload_n hx hb dX9_change_169 rfl (lv_at hl 0 rfl) ?_
        refine lv_iadd hx hb dX9_change_170 ?_
        refine gn_i (fun x719 => ?_)
        refine b_i hx hb hN hB 0 rfl (vp_in_nI (n := 10) (N := 45783) (by omega) (by omega)) (.inr ⟨rfl, List.mem_of_getElem? (i := 0) rfl⟩) dX9_change_171 (fun H locs hB => ?_)
        rw [(show (10 : Int32).toNatClampNeg = 10 from nI_clamp (n := 10) (by omega))] at hB
        have hB : Bx B0 D _ [(f713_8, .inl (cs 0, 45783, .inl (upd (upd g714 9 x716) 10 x719))), (w, .inr (9, [.int f713_0, .ref f713_1, .int (nI ((κ w).2.2.1)), .int (nI f713_3), .int (nI f713_4), .int f713_5, .int f713_6, .int f713_7, .ref f713_8, .ref f713_9, .ref f713_10, .ref f713_11, .int (nI f713_12), .int f713_13, .int f713_14, .int f713_15, .int f713_16, .ref f713_17]))] [f713_8] _ _ := hB
        have z720 := DOK.sf z717 (k := 10) (by omega) (x := x719)
        have hT : WT B0 D cs T κ _ := hT.close hB ⟨⟨0, _, rfl, ok_24 t713_8.1 ⟨_, rfl, z720⟩⟩, trivial⟩
        have hF : Fr B0 [12] κ H0 _ := hF.close hB (fa_c (by simp [t713_8.2]) fa_n)
        have hL : OkL B0 _ := hB.2.2.2.2.2
        have hP : va_P D vwCl [(f713_8, .inl (cs 0, 45783, .inl (upd (upd g714 9 x716) 10 x719))), (w, .inr (9, [.int f713_0, .ref f713_1, .int (nI ((κ w).2.2.1)), .int (nI f713_3), .int (nI f713_4), .int f713_5, .int f713_6, .int f713_7, .ref f713_8, .ref f713_9, .ref f713_10, .ref f713_11, .int (nI f713_12), .int f713_13, .int f713_14, .int f713_15, .int f713_16, .ref f713_17]))] _ := hB.1
        exact en_v hx hb hr hlocks hL (Nat.zero_le _) (Nat.zero_le _) dX9_change_172 (⟨hT, hF⟩)
theorem mX9_proposeNow_1 : (.fieldLink RX9 18 "OneBeatModel" "data" "[I" : Cond) ∈ wsX9_proposeNow := List.mem_of_getElem? (i := 1) (by decide +kernel)
theorem iX9_proposeNow_9 : ∀ w ∈ wsX90, w ∈ wsX9_proposeNow := fun w h => List.mem_of_mem_drop (List.mem_of_mem_take ((show wsX90 = (wsX9_proposeNow.drop 37).take 18 by decide +kernel) ▸ h))
set_option maxHeartbeats 4000000 in
set_option maxRecDepth 100000 in
theorem c_X9_proposeNow {l : Launch} {D : va_G} {cs : Nat → ClassId} {B0 T : Nat} {κ : KM} {H0 : Heap} (hT : WT B0 D cs T κ H0) {w : Nat} (hw : T2 κ w 10 12) {x : Int32} {y : Int32} : KC l yX9_proposeNow wsX9_proposeNow 4 96 0 0 D cs B0 H0 [.ref w, .int x, .int y] (Qi (fun _ H => WT B0 D cs T κ H ∧ Fr B0 [12] κ H0 H)) := by
  refine KC.of cX9_proposeNow 5 (some .int) (by decide) rfl (Nat.le_of_ble_eq_true rfl) ?_
  intro p e s m below meth c ls hx hb hr hml hown hts hlocks hin hN hH0 hl
  have hown : s.vm.findClass RX9 = some m.cls := hown
  have hl : lv_has ls 5 [(0, .ref w), (1, .int x), (2, .int y)] := hl
  have hL : OkL B0 [] := OkL.nil
  have hF : Fr B0 [12] κ H0 H0 := Fr.rf
  refine lv_aload_n hx hb dX9_proposeNow_0 rfl (lv_at hl 0 rfl) ?_
  obtain ⟨hb721, e721, hat721, hk721⟩ := hT.o10 hw.1
  obtain ⟨f721_0, f721_1, f721_3, f721_4, f721_5, f721_6, f721_7, f721_8, f721_9, f721_10, f721_11, f721_12, f721_13, f721_14, f721_15, f721_16, f721_17, rfl, c721_2, c721_3, c721_4, c721_12, t721_1, t721_8, t721_9, c721_sd, t721_10, t721_11, t721_17⟩ := hk721
  have hP : va_P D vwCl [(w, .inr (9, [.int f721_0, .ref f721_1, .int (nI ((κ w).2.2.1)), .int (nI f721_3), .int (nI f721_4), .int f721_5, .int f721_6, .int f721_7, .ref f721_8, .ref f721_9, .ref f721_10, .ref f721_11, .int (nI f721_12), .int f721_13, .int f721_14, .int f721_15, .int f721_16, .ref f721_17]))] _ := va_P.cons hat721 va_P.nil
  refine va_get (D := D) (ci := 9) (v := .ref f721_8) (C := RX9) (T := TX9) (N := 18) hx hb hts iX9_proposeNow_9 hown hN.1 hP 0 rfl rfl 8 (by decide) (hts _ mX9_proposeNow_1) (fun _ h9 => h9) rfl dX9_proposeNow_1 ?_
  refine lv_iconst (v := 2) hx hb dX9_proposeNow_4 (by decide) ?_
  obtain ⟨hb722, e722, hat722, hk722⟩ := hT.o24 t721_8.1
  obtain ⟨g722, rfl, q722⟩ := hk722
  have hP : va_P D vwCl [(f721_8, .inl (cs 0, 45783, .inl g722)), (w, .inr (9, [.int f721_0, .ref f721_1, .int (nI ((κ w).2.2.1)), .int (nI f721_3), .int (nI f721_4), .int f721_5, .int f721_6, .int f721_7, .ref f721_8, .ref f721_9, .ref f721_10, .ref f721_11, .int (nI f721_12), .int f721_13, .int f721_14, .int f721_15, .int f721_16, .ref f721_17]))] _ := va_P.cons hat722 hP
  refine ld_i (v := (g722 2)) hx hb hN hP 0 rfl (vp_in_nI (n := 2) (N := 45783) (by omega) (by omega)) (by rw [(show (2 : Int32).toNatClampNeg = 2 from nI_clamp (n := 2) (by omega))]) dX9_proposeNow_5 ?_
  obtain ⟨n723, hn723, en723⟩ := q722.2.2.1
  refine tp_i (nI n723) en723 ?_
  refine lv_istore_n (lv' := [(3, .int (nI n723)), (0, .ref w), (1, .int x), (2, .int y)]) hx hb dX9_proposeNow_6 rfl hl (by decide) rfl (fun ls hl => ?_)
  refine lv_aload_n hx hb dX9_proposeNow_7 rfl (lv_at hl 1 rfl) ?_
  refine va_get (D := D) (ci := 9) (v := .ref f721_8) (C := RX9) (T := TX9) (N := 18) hx hb hts iX9_proposeNow_9 hown hN.1 hP 1 rfl rfl 8 (by decide) (hts _ mX9_proposeNow_1) (fun _ h9 => h9) rfl dX9_proposeNow_8 ?_
  refine lv_bipush (v := 6) hx hb dX9_proposeNow_11 (by decide) ?_
  refine ld_i (v := (g722 6)) hx hb hN hP 0 rfl (vp_in_nI (n := 6) (N := 45783) (by omega) (by omega)) (by rw [(show (6 : Int32).toNatClampNeg = 6 from nI_clamp (n := 6) (by omega))]) dX9_proposeNow_13 ?_
  refine gn_i (fun x724 => ?_)
  refine lv_istore (lv' := [(4, .int x724), (3, .int (nI n723)), (0, .ref w), (1, .int x), (2, .int y)]) hx hb dX9_proposeNow_14 hl (by decide) rfl (fun ls hl => ?_)
  refine lv_aload_n hx hb dX9_proposeNow_16 rfl (lv_at hl 2 rfl) ?_
  refine va_get (D := D) (ci := 9) (v := .ref f721_8) (C := RX9) (T := TX9) (N := 18) hx hb hts iX9_proposeNow_9 hown hN.1 hP 1 rfl rfl 8 (by decide) (hts _ mX9_proposeNow_1) (fun _ h9 => h9) rfl dX9_proposeNow_17 ?_
  refine lv_bipush (v := 6) hx hb dX9_proposeNow_20 (by decide) ?_
  refine lv_dup2_11 hx hb dX9_proposeNow_22 rfl rfl ?_
  refine ld_i (v := (g722 6)) hx hb hN hP 0 rfl (vp_in_nI (n := 6) (N := 45783) (by omega) (by omega)) (by rw [(show (6 : Int32).toNatClampNeg = 6 from nI_clamp (n := 6) (by omega))]) dX9_proposeNow_23 ?_
  refine gn_i (fun x725 => ?_)
  refine lv_iconst (v := 1) hx hb dX9_proposeNow_24 (by decide) ?_
  refine lv_iadd hx hb dX9_proposeNow_25 ?_
  refine gn_i (fun x726 => ?_)
  have hB : Bx B0 D _ [(f721_8, .inl (cs 0, 45783, .inl g722)), (w, .inr (9, [.int f721_0, .ref f721_1, .int (nI ((κ w).2.2.1)), .int (nI f721_3), .int (nI f721_4), .int f721_5, .int f721_6, .int f721_7, .ref f721_8, .ref f721_9, .ref f721_10, .ref f721_11, .int (nI f721_12), .int f721_13, .int f721_14, .int f721_15, .int f721_16, .ref f721_17]))] [] _ _ := Bx.of (fun a => (κ a).1) hL hP (fa_c hb722 (fa_c hb721 fa_n)) (by simp only [List.map_cons, List.map_nil, t721_8.1, hw.1]; decide)
  refine b_i hx hb hN hB 0 rfl (vp_in_nI (n := 6) (N := 45783) (by omega) (by omega)) (.inl rfl) dX9_proposeNow_26 (fun H locs hB => ?_)
  rw [(show (6 : Int32).toNatClampNeg = 6 from nI_clamp (n := 6) (by omega))] at hB
  have hB : Bx B0 D _ [(f721_8, .inl (cs 0, 45783, .inl (upd g722 6 x726))), (w, .inr (9, [.int f721_0, .ref f721_1, .int (nI ((κ w).2.2.1)), .int (nI f721_3), .int (nI f721_4), .int f721_5, .int f721_6, .int f721_7, .ref f721_8, .ref f721_9, .ref f721_10, .ref f721_11, .int (nI f721_12), .int f721_13, .int f721_14, .int f721_15, .int f721_16, .ref f721_17]))] [f721_8] _ _ := hB
  have z727 := DOK.sf q722 (k := 6) (by omega) (x := x726)
  have e728 := (pk_un (f := g722) (x := x726) (show 2 ≠ 6 by omega)).trans en723
  refine lv_aload_n hx hb dX9_proposeNow_27 rfl (lv_at hl 2 rfl) ?_
  refine va_get (D := D) (ci := 9) (v := .ref f721_8) (C := RX9) (T := TX9) (N := 18) hx hb hts iX9_proposeNow_9 hown hN.1 hB.1 1 rfl rfl 8 (by decide) (hts _ mX9_proposeNow_1) (fun _ h9 => h9) rfl dX9_proposeNow_28 ?_
  refine lv_bipush (v := 15) hx hb dX9_proposeNow_31 (by decide) ?_
  refine lv_iload_n hx hb dX9_proposeNow_33 rfl (lv_at hl 3 rfl) ?_
  refine b_i hx hb hN hB 0 rfl (vp_in_nI (n := 15) (N := 45783) (by omega) (by omega)) (.inr ⟨rfl, List.mem_of_getElem? (i := 0) rfl⟩) dX9_proposeNow_34 (fun H locs hB => ?_)
  rw [(show (15 : Int32).toNatClampNeg = 15 from nI_clamp (n := 15) (by omega))] at hB
  have hB : Bx B0 D _ [(f721_8, .inl (cs 0, 45783, .inl (upd (upd g722 6 x726) 15 x))), (w, .inr (9, [.int f721_0, .ref f721_1, .int (nI ((κ w).2.2.1)), .int (nI f721_3), .int (nI f721_4), .int f721_5, .int f721_6, .int f721_7, .ref f721_8, .ref f721_9, .ref f721_10, .ref f721_11, .int (nI f721_12), .int f721_13, .int f721_14, .int f721_15, .int f721_16, .ref f721_17]))] [f721_8] _ _ := hB
  have z729 := DOK.sf z727 (k := 15) (by omega) (x := x)
  have e730 := (pk_un (f := (upd g722 6 x726)) (x := x) (show 2 ≠ 15 by omega)).trans e728
  refine lv_aload_n hx hb dX9_proposeNow_35 rfl (lv_at hl 2 rfl) ?_
  refine va_get (D := D) (ci := 9) (v := .ref f721_8) (C := RX9) (T := TX9) (N := 18) hx hb hts iX9_proposeNow_9 hown hN.1 hB.1 1 rfl rfl 8 (by decide) (hts _ mX9_proposeNow_1) (fun _ h9 => h9) rfl dX9_proposeNow_36 ?_
  refine lv_bipush (v := 16) hx hb dX9_proposeNow_39 (by decide) ?_
  refine lv_aload_n hx hb dX9_proposeNow_41 rfl (lv_at hl 2 rfl) ?_
  refine lv_iload_n hx hb dX9_proposeNow_42 rfl (lv_at hl 1 rfl) ?_
  have hT : WT B0 D cs T κ _ := hT.close hB ⟨⟨0, _, rfl, ok_24 t721_8.1 ⟨_, rfl, z729⟩⟩, trivial⟩
  have hF : Fr B0 [12] κ H0 _ := hF.close hB (fa_c (by simp [t721_8.2]) fa_n)
  have hL : OkL B0 _ := hB.2.2.2.2.2
  have hP : va_P D vwCl [(f721_8, .inl (cs 0, 45783, .inl (upd (upd g722 6 x726) 15 x))), (w, .inr (9, [.int f721_0, .ref f721_1, .int (nI ((κ w).2.2.1)), .int (nI f721_3), .int (nI f721_4), .int f721_5, .int f721_6, .int f721_7, .ref f721_8, .ref f721_9, .ref f721_10, .ref f721_11, .int (nI f721_12), .int f721_13, .int f721_14, .int f721_15, .int f721_16, .ref f721_17]))] _ := hB.1
  refine cv_i (As := [.int (nI n723)]) (rest := [.int 16, .ref f721_8]) (b := w) ⟨hx, hb, hml, hown, hts⟩ (c_X9_clock hT (w := w) hw (n := n723) (by first | omega | decide | assumption)) (cwV 1 hts gX9_proposeNow_X9_clock rfl rfl rfl hdX9_clock_v ⟨Nat.le_of_ble_eq_true rfl, Nat.le_of_ble_eq_true rfl⟩) hN hL (rcv10 hN hT hw.1) rfl rfl hl.1 (Nat.le_of_ble_eq_true rfl) dX9_proposeNow_43 (Nat.zero_le _) (Nat.zero_le _) (fun r731 H1 locs hL hqr731 => ?_)
  obtain rfl := hqr731.symm
  refine lv_iload_n hx hb dX9_proposeNow_46 rfl (lv_at hl 4 rfl) ?_
  refine lv_iadd hx hb dX9_proposeNow_47 ?_
  refine gn_i (fun x732 => ?_)
  have hB : Bx B0 D _ [(f721_8, .inl (cs 0, 45783, .inl (upd (upd g722 6 x726) 15 x))), (w, .inr (9, [.int f721_0, .ref f721_1, .int (nI ((κ w).2.2.1)), .int (nI f721_3), .int (nI f721_4), .int f721_5, .int f721_6, .int f721_7, .ref f721_8, .ref f721_9, .ref f721_10, .ref f721_11, .int (nI f721_12), .int f721_13, .int f721_14, .int f721_15, .int f721_16, .ref f721_17]))] [] _ _ := Bx.of (fun a => (κ a).1) hL hP (fa_c hb722 (fa_c hb721 fa_n)) (by simp only [List.map_cons, List.map_nil, t721_8.1, hw.1]; decide)
  refine b_i hx hb hN hB 0 rfl (vp_in_nI (n := 16) (N := 45783) (by omega) (by omega)) (.inl rfl) dX9_proposeNow_48 (fun H locs hB => ?_)
  rw [(show (16 : Int32).toNatClampNeg = 16 from nI_clamp (n := 16) (by omega))] at hB
  have hB : Bx B0 D _ [(f721_8, .inl (cs 0, 45783, .inl (upd (upd (upd g722 6 x726) 15 x) 16 x732))), (w, .inr (9, [.int f721_0, .ref f721_1, .int (nI ((κ w).2.2.1)), .int (nI f721_3), .int (nI f721_4), .int f721_5, .int f721_6, .int f721_7, .ref f721_8, .ref f721_9, .ref f721_10, .ref f721_11, .int (nI f721_12), .int f721_13, .int f721_14, .int f721_15, .int f721_16, .ref f721_17]))] [f721_8] _ _ := hB
  have z733 := DOK.sf z729 (k := 16) (by omega) (x := x732)
  have e734 := (pk_un (f := (upd (upd g722 6 x726) 15 x)) (x := x732) (show 2 ≠ 16 by omega)).trans e730
  refine lv_aload_n hx hb dX9_proposeNow_49 rfl (lv_at hl 2 rfl) ?_
  refine va_get (D := D) (ci := 9) (v := .ref f721_8) (C := RX9) (T := TX9) (N := 18) hx hb hts iX9_proposeNow_9 hown hN.1 hB.1 1 rfl rfl 8 (by decide) (hts _ mX9_proposeNow_1) (fun _ h9 => h9) rfl dX9_proposeNow_50 ?_
  refine lv_bipush (v := 17) hx hb dX9_proposeNow_53 (by decide) ?_
  refine lv_aload_n hx hb dX9_proposeNow_55 rfl (lv_at hl 2 rfl) ?_
  refine va_get (D := D) (ci := 9) (v := .ref f721_8) (C := RX9) (T := TX9) (N := 18) hx hb hts iX9_proposeNow_9 hown hN.1 hB.1 1 rfl rfl 8 (by decide) (hts _ mX9_proposeNow_1) (fun _ h9 => h9) rfl dX9_proposeNow_56 ?_
  refine lv_iconst (v := 1) hx hb dX9_proposeNow_59 (by decide) ?_
  refine ld_i (v := ((upd (upd (upd g722 6 x726) 15 x) 16 x732) 1)) hx hb hN hB.1 0 rfl (vp_in_nI (n := 1) (N := 45783) (by omega) (by omega)) (by rw [(show (1 : Int32).toNatClampNeg = 1 from nI_clamp (n := 1) (by omega))]) dX9_proposeNow_60 ?_
  refine gn_i (fun x735 => ?_)
  refine lv_aload_n hx hb dX9_proposeNow_61 rfl (lv_at hl 2 rfl) ?_
  refine va_get (D := D) (ci := 9) (v := .ref f721_8) (C := RX9) (T := TX9) (N := 18) hx hb hts iX9_proposeNow_9 hown hN.1 hB.1 1 rfl rfl 8 (by decide) (hts _ mX9_proposeNow_1) (fun _ h9 => h9) rfl dX9_proposeNow_62 ?_
  refine lv_bipush (v := 12) hx hb dX9_proposeNow_65 (by decide) ?_
  refine ld_i (v := ((upd (upd (upd g722 6 x726) 15 x) 16 x732) 12)) hx hb hN hB.1 0 rfl (vp_in_nI (n := 12) (N := 45783) (by omega) (by omega)) (by rw [(show (12 : Int32).toNatClampNeg = 12 from nI_clamp (n := 12) (by omega))]) dX9_proposeNow_67 ?_
  refine gn_i (fun x736 => ?_)
  refine lv_iadd hx hb dX9_proposeNow_68 ?_
  refine gn_i (fun x737 => ?_)
  refine b_i hx hb hN hB 0 rfl (vp_in_nI (n := 17) (N := 45783) (by omega) (by omega)) (.inr ⟨rfl, List.mem_of_getElem? (i := 0) rfl⟩) dX9_proposeNow_69 (fun H locs hB => ?_)
  rw [(show (17 : Int32).toNatClampNeg = 17 from nI_clamp (n := 17) (by omega))] at hB
  have hB : Bx B0 D _ [(f721_8, .inl (cs 0, 45783, .inl (upd (upd (upd (upd g722 6 x726) 15 x) 16 x732) 17 x737))), (w, .inr (9, [.int f721_0, .ref f721_1, .int (nI ((κ w).2.2.1)), .int (nI f721_3), .int (nI f721_4), .int f721_5, .int f721_6, .int f721_7, .ref f721_8, .ref f721_9, .ref f721_10, .ref f721_11, .int (nI f721_12), .int f721_13, .int f721_14, .int f721_15, .int f721_16, .ref f721_17]))] [f721_8] _ _ := hB
  have z738 := DOK.sf z733 (k := 17) (by omega) (x := x737)
  have e739 := (pk_un (f := (upd (upd (upd g722 6 x726) 15 x) 16 x732)) (x := x737) (show 2 ≠ 17 by omega)).trans e734
  refine lv_aload_n hx hb dX9_proposeNow_70 rfl (lv_at hl 2 rfl) ?_
  refine va_get (D := D) (ci := 9) (v := .ref f721_8) (C := RX9) (T := TX9) (N := 18) hx hb hts iX9_proposeNow_9 hown hN.1 hB.1 1 rfl rfl 8 (by decide) (hts _ mX9_proposeNow_1) (fun _ h9 => h9) rfl dX9_proposeNow_71 ?_
  refine lv_bipush (v := 18) hx hb dX9_proposeNow_74 (by decide) ?_
  refine lv_iload_n hx hb dX9_proposeNow_76 rfl (lv_at hl 1 rfl) ?_
  refine b_i hx hb hN hB 0 rfl (vp_in_nI (n := 18) (N := 45783) (by omega) (by omega)) (.inr ⟨rfl, List.mem_of_getElem? (i := 0) rfl⟩) dX9_proposeNow_77 (fun H locs hB => ?_)
  rw [(show (18 : Int32).toNatClampNeg = 18 from nI_clamp (n := 18) (by omega))] at hB
  have hB : Bx B0 D _ [(f721_8, .inl (cs 0, 45783, .inl (upd (upd (upd (upd (upd g722 6 x726) 15 x) 16 x732) 17 x737) 18 (nI n723)))), (w, .inr (9, [.int f721_0, .ref f721_1, .int (nI ((κ w).2.2.1)), .int (nI f721_3), .int (nI f721_4), .int f721_5, .int f721_6, .int f721_7, .ref f721_8, .ref f721_9, .ref f721_10, .ref f721_11, .int (nI f721_12), .int f721_13, .int f721_14, .int f721_15, .int f721_16, .ref f721_17]))] [f721_8] _ _ := hB
  have z740 := DOK.s18 z738 (n := n723) (by omega)
  have e741 := (pk_un (f := (upd (upd (upd (upd g722 6 x726) 15 x) 16 x732) 17 x737)) (x := (nI n723)) (show 2 ≠ 18 by omega)).trans e739
  refine lv_aload_n hx hb dX9_proposeNow_78 rfl (lv_at hl 2 rfl) ?_
  refine va_get (D := D) (ci := 9) (v := .ref f721_8) (C := RX9) (T := TX9) (N := 18) hx hb hts iX9_proposeNow_9 hown hN.1 hB.1 1 rfl rfl 8 (by decide) (hts _ mX9_proposeNow_1) (fun _ h9 => h9) rfl dX9_proposeNow_79 ?_
  refine lv_bipush (v := 19) hx hb dX9_proposeNow_82 (by decide) ?_
  refine lv_iconst (v := 0) hx hb dX9_proposeNow_84 (by decide) ?_
  refine b_i hx hb hN hB 0 rfl (vp_in_nI (n := 19) (N := 45783) (by omega) (by omega)) (.inr ⟨rfl, List.mem_of_getElem? (i := 0) rfl⟩) dX9_proposeNow_85 (fun H locs hB => ?_)
  rw [(show (19 : Int32).toNatClampNeg = 19 from nI_clamp (n := 19) (by omega))] at hB
  have hB : Bx B0 D _ [(f721_8, .inl (cs 0, 45783, .inl (upd (upd (upd (upd (upd (upd g722 6 x726) 15 x) 16 x732) 17 x737) 18 (nI n723)) 19 0))), (w, .inr (9, [.int f721_0, .ref f721_1, .int (nI ((κ w).2.2.1)), .int (nI f721_3), .int (nI f721_4), .int f721_5, .int f721_6, .int f721_7, .ref f721_8, .ref f721_9, .ref f721_10, .ref f721_11, .int (nI f721_12), .int f721_13, .int f721_14, .int f721_15, .int f721_16, .ref f721_17]))] [f721_8] _ _ := hB
  have z742 := DOK.sf z740 (k := 19) (by omega) (x := 0)
  have e743 := (pk_un (f := (upd (upd (upd (upd (upd g722 6 x726) 15 x) 16 x732) 17 x737) 18 (nI n723))) (x := 0) (show 2 ≠ 19 by omega)).trans e741
  refine lv_aload_n hx hb dX9_proposeNow_86 rfl (lv_at hl 2 rfl) ?_
  refine va_get (D := D) (ci := 9) (v := .ref f721_8) (C := RX9) (T := TX9) (N := 18) hx hb hts iX9_proposeNow_9 hown hN.1 hB.1 1 rfl rfl 8 (by decide) (hts _ mX9_proposeNow_1) (fun _ h9 => h9) rfl dX9_proposeNow_87 ?_
  refine lv_bipush (v := 20) hx hb dX9_proposeNow_90 (by decide) ?_
  refine lv_iconst (v := 0) hx hb dX9_proposeNow_92 (by decide) ?_
  refine b_i hx hb hN hB 0 rfl (vp_in_nI (n := 20) (N := 45783) (by omega) (by omega)) (.inr ⟨rfl, List.mem_of_getElem? (i := 0) rfl⟩) dX9_proposeNow_93 (fun H locs hB => ?_)
  rw [(show (20 : Int32).toNatClampNeg = 20 from nI_clamp (n := 20) (by omega))] at hB
  have hB : Bx B0 D _ [(f721_8, .inl (cs 0, 45783, .inl (upd (upd (upd (upd (upd (upd (upd g722 6 x726) 15 x) 16 x732) 17 x737) 18 (nI n723)) 19 0) 20 0))), (w, .inr (9, [.int f721_0, .ref f721_1, .int (nI ((κ w).2.2.1)), .int (nI f721_3), .int (nI f721_4), .int f721_5, .int f721_6, .int f721_7, .ref f721_8, .ref f721_9, .ref f721_10, .ref f721_11, .int (nI f721_12), .int f721_13, .int f721_14, .int f721_15, .int f721_16, .ref f721_17]))] [f721_8] _ _ := hB
  have z744 := DOK.sf z742 (k := 20) (by omega) (x := 0)
  have e745 := (pk_un (f := (upd (upd (upd (upd (upd (upd g722 6 x726) 15 x) 16 x732) 17 x737) 18 (nI n723)) 19 0)) (x := 0) (show 2 ≠ 20 by omega)).trans e743
  refine lv_aload_n hx hb dX9_proposeNow_94 rfl (lv_at hl 2 rfl) ?_
  refine va_get (D := D) (ci := 9) (v := .ref f721_8) (C := RX9) (T := TX9) (N := 18) hx hb hts iX9_proposeNow_9 hown hN.1 hB.1 1 rfl rfl 8 (by decide) (hts _ mX9_proposeNow_1) (fun _ h9 => h9) rfl dX9_proposeNow_95 ?_
  refine lv_bipush (v := 21) hx hb dX9_proposeNow_98 (by decide) ?_
  refine lv_iconst (v := (-1)) hx hb dX9_proposeNow_100 (by decide) ?_
  refine b_i hx hb hN hB 0 rfl (vp_in_nI (n := 21) (N := 45783) (by omega) (by omega)) (.inr ⟨rfl, List.mem_of_getElem? (i := 0) rfl⟩) dX9_proposeNow_101 (fun H locs hB => ?_)
  rw [(show (21 : Int32).toNatClampNeg = 21 from nI_clamp (n := 21) (by omega))] at hB
  have hB : Bx B0 D _ [(f721_8, .inl (cs 0, 45783, .inl (upd (upd (upd (upd (upd (upd (upd (upd g722 6 x726) 15 x) 16 x732) 17 x737) 18 (nI n723)) 19 0) 20 0) 21 (-1)))), (w, .inr (9, [.int f721_0, .ref f721_1, .int (nI ((κ w).2.2.1)), .int (nI f721_3), .int (nI f721_4), .int f721_5, .int f721_6, .int f721_7, .ref f721_8, .ref f721_9, .ref f721_10, .ref f721_11, .int (nI f721_12), .int f721_13, .int f721_14, .int f721_15, .int f721_16, .ref f721_17]))] [f721_8] _ _ := hB
  have z746 := DOK.sf z744 (k := 21) (by omega) (x := (-1))
  have e747 := (pk_un (f := (upd (upd (upd (upd (upd (upd (upd g722 6 x726) 15 x) 16 x732) 17 x737) 18 (nI n723)) 19 0) 20 0)) (x := (-1)) (show 2 ≠ 21 by omega)).trans e745
  refine lv_aload_n hx hb dX9_proposeNow_102 rfl (lv_at hl 2 rfl) ?_
  refine va_get (D := D) (ci := 9) (v := .ref f721_8) (C := RX9) (T := TX9) (N := 18) hx hb hts iX9_proposeNow_9 hown hN.1 hB.1 1 rfl rfl 8 (by decide) (hts _ mX9_proposeNow_1) (fun _ h9 => h9) rfl dX9_proposeNow_103 ?_
  refine lv_bipush (v := 22) hx hb dX9_proposeNow_106 (by decide) ?_
  refine lv_iconst (v := (-1)) hx hb dX9_proposeNow_108 (by decide) ?_
  refine b_i hx hb hN hB 0 rfl (vp_in_nI (n := 22) (N := 45783) (by omega) (by omega)) (.inr ⟨rfl, List.mem_of_getElem? (i := 0) rfl⟩) dX9_proposeNow_109 (fun H locs hB => ?_)
  rw [(show (22 : Int32).toNatClampNeg = 22 from nI_clamp (n := 22) (by omega))] at hB
  have hB : Bx B0 D _ [(f721_8, .inl (cs 0, 45783, .inl (upd (upd (upd (upd (upd (upd (upd (upd (upd g722 6 x726) 15 x) 16 x732) 17 x737) 18 (nI n723)) 19 0) 20 0) 21 (-1)) 22 (-1)))), (w, .inr (9, [.int f721_0, .ref f721_1, .int (nI ((κ w).2.2.1)), .int (nI f721_3), .int (nI f721_4), .int f721_5, .int f721_6, .int f721_7, .ref f721_8, .ref f721_9, .ref f721_10, .ref f721_11, .int (nI f721_12), .int f721_13, .int f721_14, .int f721_15, .int f721_16, .ref f721_17]))] [f721_8] _ _ := hB
  have z748 := DOK.sf z746 (k := 22) (by omega) (x := (-1))
  have e749 := (pk_un (f := (upd (upd (upd (upd (upd (upd (upd (upd g722 6 x726) 15 x) 16 x732) 17 x737) 18 (nI n723)) 19 0) 20 0) 21 (-1))) (x := (-1)) (show 2 ≠ 22 by omega)).trans e747
  refine lv_aload_n hx hb dX9_proposeNow_110 rfl (lv_at hl 2 rfl) ?_
  refine lv_iload_n hx hb dX9_proposeNow_111 rfl (lv_at hl 1 rfl) ?_
  refine lv_iconst (v := 1) hx hb dX9_proposeNow_112 (by decide) ?_
  refine lv_iload hx hb dX9_proposeNow_113 (lv_at hl 0 rfl) ?_
  refine lv_aload_n hx hb dX9_proposeNow_115 rfl (lv_at hl 2 rfl) ?_
  refine va_get (D := D) (ci := 9) (v := .ref f721_8) (C := RX9) (T := TX9) (N := 18) hx hb hts iX9_proposeNow_9 hown hN.1 hB.1 1 rfl rfl 8 (by decide) (hts _ mX9_proposeNow_1) (fun _ h9 => h9) rfl dX9_proposeNow_116 ?_
  refine lv_bipush (v := 16) hx hb dX9_proposeNow_119 (by decide) ?_
  refine ld_i (v := ((upd (upd (upd (upd (upd (upd (upd (upd (upd g722 6 x726) 15 x) 16 x732) 17 x737) 18 (nI n723)) 19 0) 20 0) 21 (-1)) 22 (-1)) 16)) hx hb hN hB.1 0 rfl (vp_in_nI (n := 16) (N := 45783) (by omega) (by omega)) (by rw [(show (16 : Int32).toNatClampNeg = 16 from nI_clamp (n := 16) (by omega))]) dX9_proposeNow_121 ?_
  refine gn_i (fun x750 => ?_)
  refine lv_iload_n hx hb dX9_proposeNow_122 rfl (lv_at hl 3 rfl) ?_
  have hT : WT B0 D cs T κ _ := hT.close hB ⟨⟨0, _, rfl, ok_24 t721_8.1 ⟨_, rfl, z748⟩⟩, trivial⟩
  have hF : Fr B0 [12] κ H0 _ := hF.close hB (fa_c (by simp [t721_8.2]) fa_n)
  have hL : OkL B0 _ := hB.2.2.2.2.2
  have hP : va_P D vwCl [(f721_8, .inl (cs 0, 45783, .inl (upd (upd (upd (upd (upd (upd (upd (upd (upd g722 6 x726) 15 x) 16 x732) 17 x737) 18 (nI n723)) 19 0) 20 0) 21 (-1)) 22 (-1)))), (w, .inr (9, [.int f721_0, .ref f721_1, .int (nI ((κ w).2.2.1)), .int (nI f721_3), .int (nI f721_4), .int f721_5, .int f721_6, .int f721_7, .ref f721_8, .ref f721_9, .ref f721_10, .ref f721_11, .int (nI f721_12), .int f721_13, .int f721_14, .int f721_15, .int f721_16, .ref f721_17]))] _ := hB.1
  refine cv_v (As := [.int (nI n723), .int 1, .int x724, .int x750, .int x]) (rest := []) (b := w) ⟨hx, hb, hml, hown, hts⟩ (c_X9_plan hT (w := w) hw (n := n723) (x := 1) (y := x724) (z := x750) (u := x) (by first | omega | decide | assumption)) (cwV 5 hts gX9_proposeNow_X9_plan rfl rfl rfl hdX9_plan_v ⟨Nat.le_of_ble_eq_true rfl, Nat.le_of_ble_eq_true rfl⟩) hN hL (rcv10 hN hT hw.1) rfl rfl hl.1 (Nat.le_of_ble_eq_true rfl) dX9_proposeNow_123 (Nat.zero_le _) (Nat.zero_le _) (fun H1 locs hL hqr751 => ?_)
  obtain ⟨hT1, hF1⟩ := hqr751
  have hF := hF.tr (hF1.mono (by simp))
  have hT := hT1
  refine lv_aload_n hx hb dX9_proposeNow_126 rfl (lv_at hl 2 rfl) ?_
  refine lv_iconst (v := 2) hx hb dX9_proposeNow_127 (by decide) ?_
  refine lv_iload_n hx hb dX9_proposeNow_128 rfl (lv_at hl 1 rfl) ?_
  refine lv_iload hx hb dX9_proposeNow_129 (lv_at hl 0 rfl) ?_
  refine lv_aload_n hx hb dX9_proposeNow_131 rfl (lv_at hl 2 rfl) ?_
  obtain ⟨hb752, e752, hat752, hk752⟩ := hT.o10 hw.1
  obtain ⟨f752_0, f752_1, f752_3, f752_4, f752_5, f752_6, f752_7, f752_8, f752_9, f752_10, f752_11, f752_12, f752_13, f752_14, f752_15, f752_16, f752_17, rfl, c752_2, c752_3, c752_4, c752_12, t752_1, t752_8, t752_9, c752_sd, t752_10, t752_11, t752_17⟩ := hk752
  have hP : va_P D vwCl [(w, .inr (9, [.int f752_0, .ref f752_1, .int (nI ((κ w).2.2.1)), .int (nI f752_3), .int (nI f752_4), .int f752_5, .int f752_6, .int f752_7, .ref f752_8, .ref f752_9, .ref f752_10, .ref f752_11, .int (nI f752_12), .int f752_13, .int f752_14, .int f752_15, .int f752_16, .ref f752_17]))] _ := va_P.cons hat752 va_P.nil
  refine va_get (D := D) (ci := 9) (v := .ref f752_8) (C := RX9) (T := TX9) (N := 18) hx hb hts iX9_proposeNow_9 hown hN.1 hP 0 rfl rfl 8 (by decide) (hts _ mX9_proposeNow_1) (fun _ h9 => h9) rfl dX9_proposeNow_132 ?_
  refine lv_bipush (v := 16) hx hb dX9_proposeNow_135 (by decide) ?_
  obtain ⟨hb753, e753, hat753, hk753⟩ := hT.o24 t752_8.1
  obtain ⟨g753, rfl, q753⟩ := hk753
  have hP : va_P D vwCl [(f752_8, .inl (cs 0, 45783, .inl g753)), (w, .inr (9, [.int f752_0, .ref f752_1, .int (nI ((κ w).2.2.1)), .int (nI f752_3), .int (nI f752_4), .int f752_5, .int f752_6, .int f752_7, .ref f752_8, .ref f752_9, .ref f752_10, .ref f752_11, .int (nI f752_12), .int f752_13, .int f752_14, .int f752_15, .int f752_16, .ref f752_17]))] _ := va_P.cons hat753 hP
  refine ld_i (v := (g753 16)) hx hb hN hP 0 rfl (vp_in_nI (n := 16) (N := 45783) (by omega) (by omega)) (by rw [(show (16 : Int32).toNatClampNeg = 16 from nI_clamp (n := 16) (by omega))]) dX9_proposeNow_137 ?_
  refine gn_i (fun x754 => ?_)
  refine lv_iload_n hx hb dX9_proposeNow_138 rfl (lv_at hl 3 rfl) ?_
  refine cv_v (As := [.int 2, .int (nI n723), .int x724, .int x754, .int x]) (rest := []) (b := w) ⟨hx, hb, hml, hown, hts⟩ (c_X9_sendToOthers hT (w := w) hw (x := 2) (n := n723) (y := x724) (z := x754) (u := x) (by first | omega | decide | assumption) (by first | omega | decide | assumption)) (cwV 5 hts gX9_proposeNow_X9_sendToOthers rfl rfl rfl hdX9_sendToOthers_v ⟨Nat.le_of_ble_eq_true rfl, Nat.le_of_ble_eq_true rfl⟩) hN hL (rcv10 hN hT hw.1) rfl rfl hl.1 (Nat.le_of_ble_eq_true rfl) dX9_proposeNow_139 (Nat.zero_le _) (Nat.zero_le _) (fun H1 locs hL hqr755 => ?_)
  obtain ⟨hT1, hF1⟩ := hqr755
  have hF := hF.tr (hF1.mono (by simp))
  have hT := hT1
  refine lv_aload_n hx hb dX9_proposeNow_142 rfl (lv_at hl 2 rfl) ?_
  refine cv_v (As := []) (rest := []) (b := w) ⟨hx, hb, hml, hown, hts⟩ (c_X9_vote hT (w := w) hw) (cwV 0 hts gX9_proposeNow_X9_vote rfl rfl rfl hdX9_vote_v ⟨Nat.le_of_ble_eq_true rfl, Nat.le_of_ble_eq_true rfl⟩) hN hL (rcv10 hN hT hw.1) rfl rfl hl.1 (Nat.le_of_ble_eq_true rfl) dX9_proposeNow_143 (Nat.zero_le _) (Nat.zero_le _) (fun H1 locs hL hqr756 => ?_)
  obtain ⟨hT1, hF1⟩ := hqr756
  have hF := hF.tr (hF1.mono (by simp))
  have hT := hT1
  refine lv_aload_n hx hb dX9_proposeNow_146 rfl (lv_at hl 2 rfl) ?_
  obtain ⟨hb757, e757, hat757, hk757⟩ := hT.o10 hw.1
  obtain ⟨f757_0, f757_1, f757_3, f757_4, f757_5, f757_6, f757_7, f757_8, f757_9, f757_10, f757_11, f757_12, f757_13, f757_14, f757_15, f757_16, f757_17, rfl, c757_2, c757_3, c757_4, c757_12, t757_1, t757_8, t757_9, c757_sd, t757_10, t757_11, t757_17⟩ := hk757
  have hP : va_P D vwCl [(w, .inr (9, [.int f757_0, .ref f757_1, .int (nI ((κ w).2.2.1)), .int (nI f757_3), .int (nI f757_4), .int f757_5, .int f757_6, .int f757_7, .ref f757_8, .ref f757_9, .ref f757_10, .ref f757_11, .int (nI f757_12), .int f757_13, .int f757_14, .int f757_15, .int f757_16, .ref f757_17]))] _ := va_P.cons hat757 va_P.nil
  refine va_get (D := D) (ci := 9) (v := .ref f757_8) (C := RX9) (T := TX9) (N := 18) hx hb hts iX9_proposeNow_9 hown hN.1 hP 0 rfl rfl 8 (by decide) (hts _ mX9_proposeNow_1) (fun _ h9 => h9) rfl dX9_proposeNow_147 ?_
  refine lv_bipush (v := 16) hx hb dX9_proposeNow_150 (by decide) ?_
  obtain ⟨hb758, e758, hat758, hk758⟩ := hT.o24 t757_8.1
  obtain ⟨g758, rfl, q758⟩ := hk758
  have hP : va_P D vwCl [(f757_8, .inl (cs 0, 45783, .inl g758)), (w, .inr (9, [.int f757_0, .ref f757_1, .int (nI ((κ w).2.2.1)), .int (nI f757_3), .int (nI f757_4), .int f757_5, .int f757_6, .int f757_7, .ref f757_8, .ref f757_9, .ref f757_10, .ref f757_11, .int (nI f757_12), .int f757_13, .int f757_14, .int f757_15, .int f757_16, .ref f757_17]))] _ := va_P.cons hat758 hP
  refine ld_i (v := (g758 16)) hx hb hN hP 0 rfl (vp_in_nI (n := 16) (N := 45783) (by omega) (by omega)) (by rw [(show (16 : Int32).toNatClampNeg = 16 from nI_clamp (n := 16) (by omega))]) dX9_proposeNow_152 ?_
  refine gn_i (fun x759 => ?_)
  exact en_i hx hb hr hlocks hL rfl (Nat.zero_le _) (Nat.zero_le _) dX9_proposeNow_153 (⟨hT, hF⟩)
theorem mX9_isLive_1 : (.fieldLink RX9 18 "OneBeatModel" "data" "[I" : Cond) ∈ wsX9_isLive := List.mem_of_getElem? (i := 1) (by decide +kernel)
theorem iX9_isLive_9 : ∀ w ∈ wsX90, w ∈ wsX9_isLive := fun w h => List.mem_of_mem_drop (List.mem_of_mem_take ((show wsX90 = (wsX9_isLive.drop 18).take 18 by decide +kernel) ▸ h))
set_option maxHeartbeats 4000000 in
set_option maxRecDepth 100000 in
theorem c_X9_isLive {l : Launch} {D : va_G} {cs : Nat → ClassId} {B0 T : Nat} {κ : KM} {H0 : Heap} (hT : WT B0 D cs T κ H0) {w : Nat} (hw : T2 κ w 10 12) : KC l yX9_isLive wsX9_isLive 3 63 0 0 D cs B0 H0 [.ref w] (Qi (fun r H => H = H0 ∧ (r = 0 ∨ r = 1))) := by
  refine KC.of cX9_isLive 3 (some .boolean) (by decide) rfl (Nat.le_of_ble_eq_true rfl) ?_
  intro p e s m below meth c ls hx hb hr hml hown hts hlocks hin hN hH0 hl
  have hown : s.vm.findClass RX9 = some m.cls := hown
  have hl : lv_has ls 3 [(0, .ref w)] := hl
  have hL : OkL B0 [] := OkL.nil
  refine lv_aload_n hx hb dX9_isLive_0 rfl (lv_at hl 0 rfl) ?_
  obtain ⟨hb760, e760, hat760, hk760⟩ := hT.o10 hw.1
  obtain ⟨f760_0, f760_1, f760_3, f760_4, f760_5, f760_6, f760_7, f760_8, f760_9, f760_10, f760_11, f760_12, f760_13, f760_14, f760_15, f760_16, f760_17, rfl, c760_2, c760_3, c760_4, c760_12, t760_1, t760_8, t760_9, c760_sd, t760_10, t760_11, t760_17⟩ := hk760
  have hP : va_P D vwCl [(w, .inr (9, [.int f760_0, .ref f760_1, .int (nI ((κ w).2.2.1)), .int (nI f760_3), .int (nI f760_4), .int f760_5, .int f760_6, .int f760_7, .ref f760_8, .ref f760_9, .ref f760_10, .ref f760_11, .int (nI f760_12), .int f760_13, .int f760_14, .int f760_15, .int f760_16, .ref f760_17]))] _ := va_P.cons hat760 va_P.nil
  refine va_get (D := D) (ci := 9) (v := .ref f760_8) (C := RX9) (T := TX9) (N := 18) hx hb hts iX9_isLive_9 hown hN.1 hP 0 rfl rfl 8 (by decide) (hts _ mX9_isLive_1) (fun _ h9 => h9) rfl dX9_isLive_1 ?_
  refine lv_iconst (v := 3) hx hb dX9_isLive_4 (by decide) ?_
  obtain ⟨hb761, e761, hat761, hk761⟩ := hT.o24 t760_8.1
  obtain ⟨g761, rfl, q761⟩ := hk761
  have hP : va_P D vwCl [(f760_8, .inl (cs 0, 45783, .inl g761)), (w, .inr (9, [.int f760_0, .ref f760_1, .int (nI ((κ w).2.2.1)), .int (nI f760_3), .int (nI f760_4), .int f760_5, .int f760_6, .int f760_7, .ref f760_8, .ref f760_9, .ref f760_10, .ref f760_11, .int (nI f760_12), .int f760_13, .int f760_14, .int f760_15, .int f760_16, .ref f760_17]))] _ := va_P.cons hat761 hP
  refine ld_i (v := (g761 3)) hx hb hN hP 0 rfl (vp_in_nI (n := 3) (N := 45783) (by omega) (by omega)) (by rw [(show (3 : Int32).toNatClampNeg = 3 from nI_clamp (n := 3) (by omega))]) dX9_isLive_5 ?_
  obtain ⟨n762, hn762, en762, mn762⟩ := q761.2.2.2.1
  refine tp_i (nI n762) en762 ?_
  refine lv_if_gt (tgt := 16) hx hb dX9_isLive_6 (by decide) (fun c763 => ?_) (fun c763 => ?_)
  · have c763 : 0 < n762 := (nI_ltI (a := 0) (b := n762) (by omega) (by omega)).mp c763
    refine lv_iconst (v := 1) hx hb dX9_isLive_16 (by decide) ?_
    refine lv_goto (tgt := 21) hx hb dX9_isLive_17 (by decide) ?_
    refine lv_istore_n (lv' := [(1, .int 1), (0, .ref w)]) hx hb dX9_isLive_21 rfl hl (by decide) rfl (fun ls hl => ?_)
    refine lv_iconst (v := 0) hx hb dX9_isLive_22 (by decide) ?_
    refine lv_istore_n (lv' := [(2, .int 0), (1, .int 1), (0, .ref w)]) hx hb dX9_isLive_23 rfl hl (by decide) rfl (fun ls hl => ?_)
    refine lp_r (B0 := B0) (α := Nat × Int32) (nL := 3) (fun a9 => 8 - a9.1) (fun a9 => (a9.2 = 0 ∨ a9.2 = 1) ∧ (a9.1 ≤ 8)) (fun a9 => [(2, .int (nI a9.1)), (1, .int a9.2), (0, .ref w)]) ?_ (0, 1) _ _ ⟨(Or.inr rfl), (by omega)⟩ hL (lv_sub hl [0, 1, 2] rfl)
    rintro ⟨p, x⟩ locs ls ih764 ⟨qx, hp⟩ hL hl
    have hl : lv_has ls 3 [(2, .int (nI p)), (1, .int x), (0, .ref w)] := hl
    have qx : x = 0 ∨ x = 1 := qx
    have hp : p ≤ 8 := hp
    refine lv_iload_n hx hb dX9_isLive_24 rfl (lv_at hl 0 rfl) ?_
    refine lv_aload_n hx hb dX9_isLive_25 rfl (lv_at hl 2 rfl) ?_
    refine va_get (D := D) (ci := 9) (v := .ref f760_8) (C := RX9) (T := TX9) (N := 18) hx hb hts iX9_isLive_9 hown hN.1 hP 1 rfl rfl 8 (by decide) (hts _ mX9_isLive_1) (fun _ h9 => h9) rfl dX9_isLive_26 ?_
    refine lv_iconst (v := 0) hx hb dX9_isLive_29 (by decide) ?_
    refine ld_i (v := (g761 0)) hx hb hN hP 0 rfl (vp_in_nI (n := 0) (N := 45783) (by omega) (by omega)) (by rw [(show (0 : Int32).toNatClampNeg = 0 from nI_clamp (n := 0) (by omega))]) dX9_isLive_30 ?_
    obtain ⟨n765, hn765, en765⟩ := q761.1
    refine tp_i (nI n765) en765 ?_
    refine lv_icmp_ge (tgt := 66) hx hb dX9_isLive_31 (by decide) (fun c766 => ?_) (fun c766 => ?_)
    · have c766 : n765 ≤ p := (nI_leI (a := n765) (b := p) (by omega) (by omega)).mp c766
      refine lv_iload_n hx hb dX9_isLive_66 rfl (lv_at hl 1 rfl) ?_
      exact en_i hx hb hr hlocks hL (nb qx) (Nat.zero_le _) (Nat.zero_le _) dX9_isLive_67 (⟨rfl, qx⟩)
    · have c766 : ¬ n765 ≤ p := fun h9 => c766 ((nI_leI (a := n765) (b := p) (by omega) (by omega)).mpr h9)
      refine lv_iload_n hx hb dX9_isLive_34 rfl (lv_at hl 1 rfl) ?_
      refine lv_aload_n hx hb dX9_isLive_35 rfl (lv_at hl 2 rfl) ?_
      refine lv_iload_n hx hb dX9_isLive_36 rfl (lv_at hl 0 rfl) ?_
      refine cv_i (As := [.int (nI p)]) (rest := [.int x]) (b := w) ⟨hx, hb, hml, hown, hts⟩ (c_X9_isUp hT (w := w) hw (n := p) (by first | omega | decide | assumption)) (cwV 1 hts gX9_isLive_X9_isUp rfl rfl rfl hdX9_isUp_v ⟨Nat.le_of_ble_eq_true rfl, Nat.le_of_ble_eq_true rfl⟩) hN hL (rcv10 hN hT hw.1) rfl rfl hl.1 (Nat.le_of_ble_eq_true rfl) dX9_isLive_37 (Nat.zero_le _) (Nat.zero_le _) (fun r767 H1 locs hL hqr767 => ?_)
      obtain ⟨h9, hqr767⟩ := hqr767; replace h9 := h9.symm; subst h9
      rcases hqr767 with rfl | rfl
      · refine lv_if_eq (tgt := 57) hx hb dX9_isLive_40 (by decide) (fun _ => ?_) (fun c9 => absurd (by decide) c9)
        refine lv_iconst (v := 0) hx hb dX9_isLive_57 (by decide) ?_
        refine lv_ior hx hb dX9_isLive_58 ?_
        obtain ⟨z768, hz768, ez768⟩ := or01 (y := 0) (qx) (Or.inl rfl)
        refine tp_i z768 ez768 ?_
        refine lv_istore_n (lv' := [(1, .int z768), (2, .int (nI p)), (0, .ref w)]) hx hb dX9_isLive_59 rfl hl (by decide) rfl (fun ls hl => ?_)
        refine lv_iinc (v := (nI (p + 1))) (lv' := [(2, .int (nI (p + 1))), (1, .int z768), (0, .ref w)]) hx hb dX9_isLive_60 hl (k := 1) rfl (nI_add _ 1) (by decide) rfl (fun ls hl => ?_)
        refine lv_goto (tgt := 24) hx hb dX9_isLive_63 (by decide) ?_
        exact ih764 ((p + 1), z768) _ _ (by show 8 - ((p + 1)) < 8 - p; omega) ⟨(hz768), (by omega)⟩ hL (lv_sub hl [0, 1, 2] rfl)
      · refine lv_if_eq (tgt := 57) hx hb dX9_isLive_40 (by decide) (fun c9 => absurd c9 (by decide)) (fun _ => ?_)
        refine lv_aload_n hx hb dX9_isLive_43 rfl (lv_at hl 2 rfl) ?_
        refine lv_iload_n hx hb dX9_isLive_44 rfl (lv_at hl 0 rfl) ?_
        refine lv_iconst (v := 5) hx hb dX9_isLive_45 (by decide) ?_
        refine cv_i (As := [.int (nI p), .int 5]) (rest := [.int x]) (b := w) ⟨hx, hb, hml, hown, hts⟩ (c_X9_of hT (w := w) hw (n := p) (k := 5) (by first | omega | decide | assumption) (by first | omega | decide | assumption)) (cwV 2 hts gX9_isLive_X9_of rfl rfl rfl hdX9_of_v ⟨Nat.le_of_ble_eq_true rfl, Nat.le_of_ble_eq_true rfl⟩) hN hL (rcv10 hN hT hw.1) rfl rfl hl.1 (Nat.le_of_ble_eq_true rfl) dX9_isLive_46 (Nat.zero_le _) (Nat.zero_le _) (fun r769 H1 locs hL hqr769 => ?_)
        obtain rfl := hqr769.symm
        refine lv_iconst (v := 2) hx hb dX9_isLive_49 (by decide) ?_
        refine lv_icmp_ne (tgt := 57) hx hb dX9_isLive_50 (by decide) (fun c770 => ?_) (fun c770 => ?_)
        · refine lv_iconst (v := 0) hx hb dX9_isLive_57 (by decide) ?_
          refine lv_ior hx hb dX9_isLive_58 ?_
          obtain ⟨z771, hz771, ez771⟩ := or01 (y := 0) (qx) (Or.inl rfl)
          refine tp_i z771 ez771 ?_
          refine lv_istore_n (lv' := [(1, .int z771), (2, .int (nI p)), (0, .ref w)]) hx hb dX9_isLive_59 rfl hl (by decide) rfl (fun ls hl => ?_)
          refine lv_iinc (v := (nI (p + 1))) (lv' := [(2, .int (nI (p + 1))), (1, .int z771), (0, .ref w)]) hx hb dX9_isLive_60 hl (k := 1) rfl (nI_add _ 1) (by decide) rfl (fun ls hl => ?_)
          refine lv_goto (tgt := 24) hx hb dX9_isLive_63 (by decide) ?_
          exact ih764 ((p + 1), z771) _ _ (by show 8 - ((p + 1)) < 8 - p; omega) ⟨(hz771), (by omega)⟩ hL (lv_sub hl [0, 1, 2] rfl)
        · refine lv_iconst (v := 1) hx hb dX9_isLive_53 (by decide) ?_
          refine lv_goto (tgt := 58) hx hb dX9_isLive_54 (by decide) ?_
          refine lv_ior hx hb dX9_isLive_58 ?_
          obtain ⟨z772, hz772, ez772⟩ := or01 (y := 1) (qx) (Or.inr rfl)
          refine tp_i z772 ez772 ?_
          refine lv_istore_n (lv' := [(1, .int z772), (2, .int (nI p)), (0, .ref w)]) hx hb dX9_isLive_59 rfl hl (by decide) rfl (fun ls hl => ?_)
          refine lv_iinc (v := (nI (p + 1))) (lv' := [(2, .int (nI (p + 1))), (1, .int z772), (0, .ref w)]) hx hb dX9_isLive_60 hl (k := 1) rfl (nI_add _ 1) (by decide) rfl (fun ls hl => ?_)
          refine lv_goto (tgt := 24) hx hb dX9_isLive_63 (by decide) ?_
          exact ih764 ((p + 1), z772) _ _ (by show 8 - ((p + 1)) < 8 - p; omega) ⟨(hz772), (by omega)⟩ hL (lv_sub hl [0, 1, 2] rfl)
  · have c763 : ¬ 0 < n762 := fun h9 => c763 ((nI_ltI (a := 0) (b := n762) (by omega) (by omega)).mpr h9)
    refine lv_aload_n hx hb dX9_isLive_9 rfl (lv_at hl 0 rfl) ?_
    refine cv_i (As := []) (rest := []) (b := w) ⟨hx, hb, hml, hown, hts⟩ (c_X9_isOpen hT (w := w) hw) (cwV 0 hts gX9_isLive_X9_isOpen rfl rfl rfl hdX9_isOpen_v ⟨Nat.le_of_ble_eq_true rfl, Nat.le_of_ble_eq_true rfl⟩) hN hL (rcv10 hN hT hw.1) rfl rfl hl.1 (Nat.le_of_ble_eq_true rfl) dX9_isLive_10 (Nat.zero_le _) (Nat.zero_le _) (fun r773 H1 locs hL hqr773 => ?_)
    obtain ⟨h9, hqr773⟩ := hqr773; replace h9 := h9.symm; subst h9
    rcases hqr773 with rfl | rfl
    · refine lv_if_eq (tgt := 20) hx hb dX9_isLive_13 (by decide) (fun _ => ?_) (fun c9 => absurd (by decide) c9)
      refine lv_iconst (v := 0) hx hb dX9_isLive_20 (by decide) ?_
      refine lv_istore_n (lv' := [(1, .int 0), (0, .ref w)]) hx hb dX9_isLive_21 rfl hl (by decide) rfl (fun ls hl => ?_)
      refine lv_iconst (v := 0) hx hb dX9_isLive_22 (by decide) ?_
      refine lv_istore_n (lv' := [(2, .int 0), (1, .int 0), (0, .ref w)]) hx hb dX9_isLive_23 rfl hl (by decide) rfl (fun ls hl => ?_)
      refine lp_r (B0 := B0) (α := Nat × Int32) (nL := 3) (fun a9 => 8 - a9.1) (fun a9 => (a9.2 = 0 ∨ a9.2 = 1) ∧ (a9.1 ≤ 8)) (fun a9 => [(2, .int (nI a9.1)), (1, .int a9.2), (0, .ref w)]) ?_ (0, 0) _ _ ⟨(Or.inl rfl), (by omega)⟩ hL (lv_sub hl [0, 1, 2] rfl)
      rintro ⟨p, x⟩ locs ls ih774 ⟨qx, hp⟩ hL hl
      have hl : lv_has ls 3 [(2, .int (nI p)), (1, .int x), (0, .ref w)] := hl
      have qx : x = 0 ∨ x = 1 := qx
      have hp : p ≤ 8 := hp
      refine lv_iload_n hx hb dX9_isLive_24 rfl (lv_at hl 0 rfl) ?_
      refine lv_aload_n hx hb dX9_isLive_25 rfl (lv_at hl 2 rfl) ?_
      refine va_get (D := D) (ci := 9) (v := .ref f760_8) (C := RX9) (T := TX9) (N := 18) hx hb hts iX9_isLive_9 hown hN.1 hP 1 rfl rfl 8 (by decide) (hts _ mX9_isLive_1) (fun _ h9 => h9) rfl dX9_isLive_26 ?_
      refine lv_iconst (v := 0) hx hb dX9_isLive_29 (by decide) ?_
      refine ld_i (v := (g761 0)) hx hb hN hP 0 rfl (vp_in_nI (n := 0) (N := 45783) (by omega) (by omega)) (by rw [(show (0 : Int32).toNatClampNeg = 0 from nI_clamp (n := 0) (by omega))]) dX9_isLive_30 ?_
      obtain ⟨n775, hn775, en775⟩ := q761.1
      refine tp_i (nI n775) en775 ?_
      refine lv_icmp_ge (tgt := 66) hx hb dX9_isLive_31 (by decide) (fun c776 => ?_) (fun c776 => ?_)
      · have c776 : n775 ≤ p := (nI_leI (a := n775) (b := p) (by omega) (by omega)).mp c776
        refine lv_iload_n hx hb dX9_isLive_66 rfl (lv_at hl 1 rfl) ?_
        exact en_i hx hb hr hlocks hL (nb qx) (Nat.zero_le _) (Nat.zero_le _) dX9_isLive_67 (⟨rfl, qx⟩)
      · have c776 : ¬ n775 ≤ p := fun h9 => c776 ((nI_leI (a := n775) (b := p) (by omega) (by omega)).mpr h9)
        refine lv_iload_n hx hb dX9_isLive_34 rfl (lv_at hl 1 rfl) ?_
        refine lv_aload_n hx hb dX9_isLive_35 rfl (lv_at hl 2 rfl) ?_
        refine lv_iload_n hx hb dX9_isLive_36 rfl (lv_at hl 0 rfl) ?_
        refine cv_i (As := [.int (nI p)]) (rest := [.int x]) (b := w) ⟨hx, hb, hml, hown, hts⟩ (c_X9_isUp hT (w := w) hw (n := p) (by first | omega | decide | assumption)) (cwV 1 hts gX9_isLive_X9_isUp rfl rfl rfl hdX9_isUp_v ⟨Nat.le_of_ble_eq_true rfl, Nat.le_of_ble_eq_true rfl⟩) hN hL (rcv10 hN hT hw.1) rfl rfl hl.1 (Nat.le_of_ble_eq_true rfl) dX9_isLive_37 (Nat.zero_le _) (Nat.zero_le _) (fun r777 H1 locs hL hqr777 => ?_)
        obtain ⟨h9, hqr777⟩ := hqr777; replace h9 := h9.symm; subst h9
        rcases hqr777 with rfl | rfl
        · refine lv_if_eq (tgt := 57) hx hb dX9_isLive_40 (by decide) (fun _ => ?_) (fun c9 => absurd (by decide) c9)
          refine lv_iconst (v := 0) hx hb dX9_isLive_57 (by decide) ?_
          refine lv_ior hx hb dX9_isLive_58 ?_
          obtain ⟨z778, hz778, ez778⟩ := or01 (y := 0) (qx) (Or.inl rfl)
          refine tp_i z778 ez778 ?_
          refine lv_istore_n (lv' := [(1, .int z778), (2, .int (nI p)), (0, .ref w)]) hx hb dX9_isLive_59 rfl hl (by decide) rfl (fun ls hl => ?_)
          refine lv_iinc (v := (nI (p + 1))) (lv' := [(2, .int (nI (p + 1))), (1, .int z778), (0, .ref w)]) hx hb dX9_isLive_60 hl (k := 1) rfl (nI_add _ 1) (by decide) rfl (fun ls hl => ?_)
          refine lv_goto (tgt := 24) hx hb dX9_isLive_63 (by decide) ?_
          exact ih774 ((p + 1), z778) _ _ (by show 8 - ((p + 1)) < 8 - p; omega) ⟨(hz778), (by omega)⟩ hL (lv_sub hl [0, 1, 2] rfl)
        · refine lv_if_eq (tgt := 57) hx hb dX9_isLive_40 (by decide) (fun c9 => absurd c9 (by decide)) (fun _ => ?_)
          refine lv_aload_n hx hb dX9_isLive_43 rfl (lv_at hl 2 rfl) ?_
          refine lv_iload_n hx hb dX9_isLive_44 rfl (lv_at hl 0 rfl) ?_
          refine lv_iconst (v := 5) hx hb dX9_isLive_45 (by decide) ?_
          refine cv_i (As := [.int (nI p), .int 5]) (rest := [.int x]) (b := w) ⟨hx, hb, hml, hown, hts⟩ (c_X9_of hT (w := w) hw (n := p) (k := 5) (by first | omega | decide | assumption) (by first | omega | decide | assumption)) (cwV 2 hts gX9_isLive_X9_of rfl rfl rfl hdX9_of_v ⟨Nat.le_of_ble_eq_true rfl, Nat.le_of_ble_eq_true rfl⟩) hN hL (rcv10 hN hT hw.1) rfl rfl hl.1 (Nat.le_of_ble_eq_true rfl) dX9_isLive_46 (Nat.zero_le _) (Nat.zero_le _) (fun r779 H1 locs hL hqr779 => ?_)
          obtain rfl := hqr779.symm
          refine lv_iconst (v := 2) hx hb dX9_isLive_49 (by decide) ?_
          refine lv_icmp_ne (tgt := 57) hx hb dX9_isLive_50 (by decide) (fun c780 => ?_) (fun c780 => ?_)
          · refine lv_iconst (v := 0) hx hb dX9_isLive_57 (by decide) ?_
            refine lv_ior hx hb dX9_isLive_58 ?_
            obtain ⟨z781, hz781, ez781⟩ := or01 (y := 0) (qx) (Or.inl rfl)
            refine tp_i z781 ez781 ?_
            refine lv_istore_n (lv' := [(1, .int z781), (2, .int (nI p)), (0, .ref w)]) hx hb dX9_isLive_59 rfl hl (by decide) rfl (fun ls hl => ?_)
            refine lv_iinc (v := (nI (p + 1))) (lv' := [(2, .int (nI (p + 1))), (1, .int z781), (0, .ref w)]) hx hb dX9_isLive_60 hl (k := 1) rfl (nI_add _ 1) (by decide) rfl (fun ls hl => ?_)
            refine lv_goto (tgt := 24) hx hb dX9_isLive_63 (by decide) ?_
            exact ih774 ((p + 1), z781) _ _ (by show 8 - ((p + 1)) < 8 - p; omega) ⟨(hz781), (by omega)⟩ hL (lv_sub hl [0, 1, 2] rfl)
          · refine lv_iconst (v := 1) hx hb dX9_isLive_53 (by decide) ?_
            refine lv_goto (tgt := 58) hx hb dX9_isLive_54 (by decide) ?_
            refine lv_ior hx hb dX9_isLive_58 ?_
            obtain ⟨z782, hz782, ez782⟩ := or01 (y := 1) (qx) (Or.inr rfl)
            refine tp_i z782 ez782 ?_
            refine lv_istore_n (lv' := [(1, .int z782), (2, .int (nI p)), (0, .ref w)]) hx hb dX9_isLive_59 rfl hl (by decide) rfl (fun ls hl => ?_)
            refine lv_iinc (v := (nI (p + 1))) (lv' := [(2, .int (nI (p + 1))), (1, .int z782), (0, .ref w)]) hx hb dX9_isLive_60 hl (k := 1) rfl (nI_add _ 1) (by decide) rfl (fun ls hl => ?_)
            refine lv_goto (tgt := 24) hx hb dX9_isLive_63 (by decide) ?_
            exact ih774 ((p + 1), z782) _ _ (by show 8 - ((p + 1)) < 8 - p; omega) ⟨(hz782), (by omega)⟩ hL (lv_sub hl [0, 1, 2] rfl)
    · refine lv_if_eq (tgt := 20) hx hb dX9_isLive_13 (by decide) (fun c9 => absurd c9 (by decide)) (fun _ => ?_)
      refine lv_iconst (v := 1) hx hb dX9_isLive_16 (by decide) ?_
      refine lv_goto (tgt := 21) hx hb dX9_isLive_17 (by decide) ?_
      refine lv_istore_n (lv' := [(1, .int 1), (0, .ref w)]) hx hb dX9_isLive_21 rfl hl (by decide) rfl (fun ls hl => ?_)
      refine lv_iconst (v := 0) hx hb dX9_isLive_22 (by decide) ?_
      refine lv_istore_n (lv' := [(2, .int 0), (1, .int 1), (0, .ref w)]) hx hb dX9_isLive_23 rfl hl (by decide) rfl (fun ls hl => ?_)
      refine lp_r (B0 := B0) (α := Nat × Int32) (nL := 3) (fun a9 => 8 - a9.1) (fun a9 => (a9.2 = 0 ∨ a9.2 = 1) ∧ (a9.1 ≤ 8)) (fun a9 => [(2, .int (nI a9.1)), (1, .int a9.2), (0, .ref w)]) ?_ (0, 1) _ _ ⟨(Or.inr rfl), (by omega)⟩ hL (lv_sub hl [0, 1, 2] rfl)
      rintro ⟨p, x⟩ locs ls ih783 ⟨qx, hp⟩ hL hl
      have hl : lv_has ls 3 [(2, .int (nI p)), (1, .int x), (0, .ref w)] := hl
      have qx : x = 0 ∨ x = 1 := qx
      have hp : p ≤ 8 := hp
      refine lv_iload_n hx hb dX9_isLive_24 rfl (lv_at hl 0 rfl) ?_
      refine lv_aload_n hx hb dX9_isLive_25 rfl (lv_at hl 2 rfl) ?_
      refine va_get (D := D) (ci := 9) (v := .ref f760_8) (C := RX9) (T := TX9) (N := 18) hx hb hts iX9_isLive_9 hown hN.1 hP 1 rfl rfl 8 (by decide) (hts _ mX9_isLive_1) (fun _ h9 => h9) rfl dX9_isLive_26 ?_
      refine lv_iconst (v := 0) hx hb dX9_isLive_29 (by decide) ?_
      refine ld_i (v := (g761 0)) hx hb hN hP 0 rfl (vp_in_nI (n := 0) (N := 45783) (by omega) (by omega)) (by rw [(show (0 : Int32).toNatClampNeg = 0 from nI_clamp (n := 0) (by omega))]) dX9_isLive_30 ?_
      obtain ⟨n784, hn784, en784⟩ := q761.1
      refine tp_i (nI n784) en784 ?_
      refine lv_icmp_ge (tgt := 66) hx hb dX9_isLive_31 (by decide) (fun c785 => ?_) (fun c785 => ?_)
      · have c785 : n784 ≤ p := (nI_leI (a := n784) (b := p) (by omega) (by omega)).mp c785
        refine lv_iload_n hx hb dX9_isLive_66 rfl (lv_at hl 1 rfl) ?_
        exact en_i hx hb hr hlocks hL (nb qx) (Nat.zero_le _) (Nat.zero_le _) dX9_isLive_67 (⟨rfl, qx⟩)
      · have c785 : ¬ n784 ≤ p := fun h9 => c785 ((nI_leI (a := n784) (b := p) (by omega) (by omega)).mpr h9)
        refine lv_iload_n hx hb dX9_isLive_34 rfl (lv_at hl 1 rfl) ?_
        refine lv_aload_n hx hb dX9_isLive_35 rfl (lv_at hl 2 rfl) ?_
        refine lv_iload_n hx hb dX9_isLive_36 rfl (lv_at hl 0 rfl) ?_
        refine cv_i (As := [.int (nI p)]) (rest := [.int x]) (b := w) ⟨hx, hb, hml, hown, hts⟩ (c_X9_isUp hT (w := w) hw (n := p) (by first | omega | decide | assumption)) (cwV 1 hts gX9_isLive_X9_isUp rfl rfl rfl hdX9_isUp_v ⟨Nat.le_of_ble_eq_true rfl, Nat.le_of_ble_eq_true rfl⟩) hN hL (rcv10 hN hT hw.1) rfl rfl hl.1 (Nat.le_of_ble_eq_true rfl) dX9_isLive_37 (Nat.zero_le _) (Nat.zero_le _) (fun r786 H1 locs hL hqr786 => ?_)
        obtain ⟨h9, hqr786⟩ := hqr786; replace h9 := h9.symm; subst h9
        rcases hqr786 with rfl | rfl
        · refine lv_if_eq (tgt := 57) hx hb dX9_isLive_40 (by decide) (fun _ => ?_) (fun c9 => absurd (by decide) c9)
          refine lv_iconst (v := 0) hx hb dX9_isLive_57 (by decide) ?_
          refine lv_ior hx hb dX9_isLive_58 ?_
          obtain ⟨z787, hz787, ez787⟩ := or01 (y := 0) (qx) (Or.inl rfl)
          refine tp_i z787 ez787 ?_
          refine lv_istore_n (lv' := [(1, .int z787), (2, .int (nI p)), (0, .ref w)]) hx hb dX9_isLive_59 rfl hl (by decide) rfl (fun ls hl => ?_)
          refine lv_iinc (v := (nI (p + 1))) (lv' := [(2, .int (nI (p + 1))), (1, .int z787), (0, .ref w)]) hx hb dX9_isLive_60 hl (k := 1) rfl (nI_add _ 1) (by decide) rfl (fun ls hl => ?_)
          refine lv_goto (tgt := 24) hx hb dX9_isLive_63 (by decide) ?_
          exact ih783 ((p + 1), z787) _ _ (by show 8 - ((p + 1)) < 8 - p; omega) ⟨(hz787), (by omega)⟩ hL (lv_sub hl [0, 1, 2] rfl)
        · refine lv_if_eq (tgt := 57) hx hb dX9_isLive_40 (by decide) (fun c9 => absurd c9 (by decide)) (fun _ => ?_)
          refine lv_aload_n hx hb dX9_isLive_43 rfl (lv_at hl 2 rfl) ?_
          refine lv_iload_n hx hb dX9_isLive_44 rfl (lv_at hl 0 rfl) ?_
          refine lv_iconst (v := 5) hx hb dX9_isLive_45 (by decide) ?_
          refine cv_i (As := [.int (nI p), .int 5]) (rest := [.int x]) (b := w) ⟨hx, hb, hml, hown, hts⟩ (c_X9_of hT (w := w) hw (n := p) (k := 5) (by first | omega | decide | assumption) (by first | omega | decide | assumption)) (cwV 2 hts gX9_isLive_X9_of rfl rfl rfl hdX9_of_v ⟨Nat.le_of_ble_eq_true rfl, Nat.le_of_ble_eq_true rfl⟩) hN hL (rcv10 hN hT hw.1) rfl rfl hl.1 (Nat.le_of_ble_eq_true rfl) dX9_isLive_46 (Nat.zero_le _) (Nat.zero_le _) (fun r788 H1 locs hL hqr788 => ?_)
          obtain rfl := hqr788.symm
          refine lv_iconst (v := 2) hx hb dX9_isLive_49 (by decide) ?_
          refine lv_icmp_ne (tgt := 57) hx hb dX9_isLive_50 (by decide) (fun c789 => ?_) (fun c789 => ?_)
          · refine lv_iconst (v := 0) hx hb dX9_isLive_57 (by decide) ?_
            refine lv_ior hx hb dX9_isLive_58 ?_
            obtain ⟨z790, hz790, ez790⟩ := or01 (y := 0) (qx) (Or.inl rfl)
            refine tp_i z790 ez790 ?_
            refine lv_istore_n (lv' := [(1, .int z790), (2, .int (nI p)), (0, .ref w)]) hx hb dX9_isLive_59 rfl hl (by decide) rfl (fun ls hl => ?_)
            refine lv_iinc (v := (nI (p + 1))) (lv' := [(2, .int (nI (p + 1))), (1, .int z790), (0, .ref w)]) hx hb dX9_isLive_60 hl (k := 1) rfl (nI_add _ 1) (by decide) rfl (fun ls hl => ?_)
            refine lv_goto (tgt := 24) hx hb dX9_isLive_63 (by decide) ?_
            exact ih783 ((p + 1), z790) _ _ (by show 8 - ((p + 1)) < 8 - p; omega) ⟨(hz790), (by omega)⟩ hL (lv_sub hl [0, 1, 2] rfl)
          · refine lv_iconst (v := 1) hx hb dX9_isLive_53 (by decide) ?_
            refine lv_goto (tgt := 58) hx hb dX9_isLive_54 (by decide) ?_
            refine lv_ior hx hb dX9_isLive_58 ?_
            obtain ⟨z791, hz791, ez791⟩ := or01 (y := 1) (qx) (Or.inr rfl)
            refine tp_i z791 ez791 ?_
            refine lv_istore_n (lv' := [(1, .int z791), (2, .int (nI p)), (0, .ref w)]) hx hb dX9_isLive_59 rfl hl (by decide) rfl (fun ls hl => ?_)
            refine lv_iinc (v := (nI (p + 1))) (lv' := [(2, .int (nI (p + 1))), (1, .int z791), (0, .ref w)]) hx hb dX9_isLive_60 hl (k := 1) rfl (nI_add _ 1) (by decide) rfl (fun ls hl => ?_)
            refine lv_goto (tgt := 24) hx hb dX9_isLive_63 (by decide) ?_
            exact ih783 ((p + 1), z791) _ _ (by show 8 - ((p + 1)) < 8 - p; omega) ⟨(hz791), (by omega)⟩ hL (lv_sub hl [0, 1, 2] rfl)
theorem mX9_noPlayer_1 : (.fieldLink RX9 18 "OneBeatModel" "data" "[I" : Cond) ∈ wsX9_noPlayer := List.mem_of_getElem? (i := 1) (by decide +kernel)
theorem iX9_noPlayer_9 : ∀ w ∈ wsX90, w ∈ wsX9_noPlayer := fun w h => List.mem_of_mem_drop (List.mem_of_mem_take ((show wsX90 = (wsX9_noPlayer.drop 11).take 18 by decide +kernel) ▸ h))
theorem hdX9_in_o : yX9_in.cls ≠ "java/lang/invoke/MethodHandle" ∧ yX9_in.cls ≠ "java/lang/invoke/VarHandle" ∧ (parseMethodDescriptor yX9_in.desc).map (fun d => d.parameters.length) = some 3 := by decide +kernel
theorem hdX9_fails_v : yX9_fails.cls = RX9 ∧ yX9_fails.cls ≠ "java/lang/invoke/MethodHandle" ∧ yX9_fails.cls ≠ "java/lang/invoke/VarHandle" ∧ (parseMethodDescriptor yX9_fails.desc).map (fun d => d.parameters.length) = some 2 := by decide +kernel
set_option maxHeartbeats 4000000 in
set_option maxRecDepth 100000 in
theorem c_X9_noPlayer {l : Launch} {D : va_G} {cs : Nat → ClassId} {B0 T : Nat} {κ : KM} {H0 : Heap} (hT : WT B0 D cs T κ H0) {w : Nat} (hw : T2 κ w 10 12) {x : Int32} : KC l yX9_noPlayer wsX9_noPlayer 1 22 0 0 D cs B0 H0 [.ref w, .int x] (Qi (fun r H => WT B0 D cs T κ H ∧ Fr B0 [12] κ H0 H ∧ (r = 1 ∨ (r = 0 ∧ ∃ n, n < 8 ∧ x = nI n)))) := by
  refine KC.of cX9_noPlayer 2 (some .boolean) (by decide) rfl (Nat.le_of_ble_eq_true rfl) ?_
  intro p e s m below meth c ls hx hb hr hml hown hts hlocks hin hN hH0 hl
  have hown : s.vm.findClass RX9 = some m.cls := hown
  have hl : lv_has ls 2 [(0, .ref w), (1, .int x)] := hl
  have hL : OkL B0 [] := OkL.nil
  have hF : Fr B0 [12] κ H0 H0 := Fr.rf
  refine lv_aload_n hx hb dX9_noPlayer_0 rfl (lv_at hl 0 rfl) ?_
  refine lv_iload_n hx hb dX9_noPlayer_1 rfl (lv_at hl 1 rfl) ?_
  refine lv_iconst (v := 0) hx hb dX9_noPlayer_2 (by decide) ?_
  refine lv_aload_n hx hb dX9_noPlayer_3 rfl (lv_at hl 0 rfl) ?_
  obtain ⟨hb792, e792, hat792, hk792⟩ := hT.o10 hw.1
  obtain ⟨f792_0, f792_1, f792_3, f792_4, f792_5, f792_6, f792_7, f792_8, f792_9, f792_10, f792_11, f792_12, f792_13, f792_14, f792_15, f792_16, f792_17, rfl, c792_2, c792_3, c792_4, c792_12, t792_1, t792_8, t792_9, c792_sd, t792_10, t792_11, t792_17⟩ := hk792
  have hP : va_P D vwCl [(w, .inr (9, [.int f792_0, .ref f792_1, .int (nI ((κ w).2.2.1)), .int (nI f792_3), .int (nI f792_4), .int f792_5, .int f792_6, .int f792_7, .ref f792_8, .ref f792_9, .ref f792_10, .ref f792_11, .int (nI f792_12), .int f792_13, .int f792_14, .int f792_15, .int f792_16, .ref f792_17]))] _ := va_P.cons hat792 va_P.nil
  refine va_get (D := D) (ci := 9) (v := .ref f792_8) (C := RX9) (T := TX9) (N := 18) hx hb hts iX9_noPlayer_9 hown hN.1 hP 0 rfl rfl 8 (by decide) (hts _ mX9_noPlayer_1) (fun _ h9 => h9) rfl dX9_noPlayer_4 ?_
  refine lv_iconst (v := 0) hx hb dX9_noPlayer_7 (by decide) ?_
  obtain ⟨hb793, e793, hat793, hk793⟩ := hT.o24 t792_8.1
  obtain ⟨g793, rfl, q793⟩ := hk793
  have hP : va_P D vwCl [(f792_8, .inl (cs 0, 45783, .inl g793)), (w, .inr (9, [.int f792_0, .ref f792_1, .int (nI ((κ w).2.2.1)), .int (nI f792_3), .int (nI f792_4), .int f792_5, .int f792_6, .int f792_7, .ref f792_8, .ref f792_9, .ref f792_10, .ref f792_11, .int (nI f792_12), .int f792_13, .int f792_14, .int f792_15, .int f792_16, .ref f792_17]))] _ := va_P.cons hat793 hP
  refine ld_i (v := (g793 0)) hx hb hN hP 0 rfl (vp_in_nI (n := 0) (N := 45783) (by omega) (by omega)) (by rw [(show (0 : Int32).toNatClampNeg = 0 from nI_clamp (n := 0) (by omega))]) dX9_noPlayer_8 ?_
  obtain ⟨n794, hn794, en794⟩ := q793.1
  refine tp_i (nI n794) en794 ?_
  refine lv_iconst (v := 1) hx hb dX9_noPlayer_9 (by decide) ?_
  refine lv_isub hx hb dX9_noPlayer_10 ?_
  refine cs_i (As := [.int x, .int 0, .int ((nI n794) - 1)]) (rest := [.ref w]) ⟨hx, hb, hml, hown, hts⟩ (c_X9_in hT (x := x) (y := 0) (z := ((nI n794) - 1))) (va_cwS 3 hts gX9_noPlayer_X9_in rfl rfl rfl hdX9_in_o ⟨Nat.le_of_ble_eq_true rfl, Nat.le_of_ble_eq_true rfl⟩) hN hL rfl rfl hl.1 (Nat.le_of_ble_eq_true rfl) dX9_noPlayer_11 (Nat.zero_le _) (Nat.zero_le _) (fun r795 H1 locs hL hqr795 => ?_)
  obtain ⟨h9, hqr795⟩ := hqr795; replace h9 := h9.symm; subst h9
  rcases hqr795 with ⟨rfl, o796⟩ | ⟨rfl, l797, g798⟩
  · refine lv_if_ne (tgt := 21) hx hb dX9_noPlayer_14 (by decide) (fun c9 => absurd (by decide) c9) (fun _ => ?_)
    refine lv_iconst (v := 1) hx hb dX9_noPlayer_17 (by decide) ?_
    refine lv_goto (tgt := 22) hx hb dX9_noPlayer_18 (by decide) ?_
    refine lv_iconst (v := 1) hx hb dX9_noPlayer_22 (by decide) ?_
    refine cv_i (As := [.int 1, .int 1]) (rest := []) (b := w) ⟨hx, hb, hml, hown, hts⟩ (c_X9_fails hT (w := w) hw (x := 1) (z := 1) ((by decide))) (cwV 2 hts gX9_noPlayer_X9_fails rfl rfl rfl hdX9_fails_v ⟨Nat.le_of_ble_eq_true rfl, Nat.le_of_ble_eq_true rfl⟩) hN hL (rcv10 hN hT hw.1) rfl rfl hl.1 (Nat.le_of_ble_eq_true rfl) dX9_noPlayer_23 (Nat.zero_le _) (Nat.zero_le _) (fun r799 H1 locs hL hqr799 => ?_)
    obtain ⟨hT1, hF1, hqr799⟩ := hqr799
    have hF := hF.tr (hF1.mono (by simp))
    have hT := hT1
    rcases hqr799 with rfl | ⟨rfl, e800⟩
    · exact en_i hx hb hr hlocks hL rfl (Nat.zero_le _) (Nat.zero_le _) dX9_noPlayer_26 (⟨hT, hF, Or.inl rfl⟩)
    · exact absurd e800 (by decide)
  · refine lv_if_ne (tgt := 21) hx hb dX9_noPlayer_14 (by decide) (fun _ => ?_) (fun c9 => absurd c9 (by decide))
    refine lv_iconst (v := 0) hx hb dX9_noPlayer_21 (by decide) ?_
    refine lv_iconst (v := 1) hx hb dX9_noPlayer_22 (by decide) ?_
    refine cv_i (As := [.int 0, .int 1]) (rest := []) (b := w) ⟨hx, hb, hml, hown, hts⟩ (c_X9_fails hT (w := w) hw (x := 0) (z := 1) ((by decide))) (cwV 2 hts gX9_noPlayer_X9_fails rfl rfl rfl hdX9_fails_v ⟨Nat.le_of_ble_eq_true rfl, Nat.le_of_ble_eq_true rfl⟩) hN hL (rcv10 hN hT hw.1) rfl rfl hl.1 (Nat.le_of_ble_eq_true rfl) dX9_noPlayer_23 (Nat.zero_le _) (Nat.zero_le _) (fun r801 H1 locs hL hqr801 => ?_)
    obtain ⟨hT1, hF1, hqr801⟩ := hqr801
    have hF := hF.tr (hF1.mono (by simp))
    have hT := hT1
    rcases hqr801 with rfl | ⟨rfl, e802⟩
    · exact en_i hx hb hr hlocks hL rfl (Nat.zero_le _) (Nat.zero_le _) dX9_noPlayer_26 (⟨hT, hF, Or.inl rfl⟩)
    · exact en_i hx hb hr hlocks hL rfl (Nat.zero_le _) (Nat.zero_le _) dX9_noPlayer_26 (⟨hT, hF, Or.inr ⟨rfl, rngm (by omega) l797 g798⟩⟩)
theorem mX9_songs_1 : (.fieldLink RX9 18 "OneBeatModel" "data" "[I" : Cond) ∈ wsX9_songs := List.mem_of_getElem? (i := 1) (by decide +kernel)
theorem iX9_songs_9 : ∀ w ∈ wsX90, w ∈ wsX9_songs := fun w h => List.mem_of_mem_drop (List.mem_of_mem_take ((show wsX90 = (wsX9_songs.drop 14).take 18 by decide +kernel) ▸ h))
set_option maxHeartbeats 4000000 in
set_option maxRecDepth 100000 in
theorem c_X9_songs {l : Launch} {D : va_G} {cs : Nat → ClassId} {B0 T : Nat} {κ : KM} {H0 : Heap} (hT : WT B0 D cs T κ H0) {w : Nat} (hw : T2 κ w 10 12) : KC l yX9_songs wsX9_songs 3 63 0 0 D cs B0 H0 [.ref w] (Qi (fun _ H => H = H0)) := by
  refine KC.of cX9_songs 5 (some .int) (by decide) rfl (Nat.le_of_ble_eq_true rfl) ?_
  intro p e s m below meth c ls hx hb hr hml hown hts hlocks hin hN hH0 hl
  have hown : s.vm.findClass RX9 = some m.cls := hown
  have hl : lv_has ls 5 [(0, .ref w)] := hl
  have hL : OkL B0 [] := OkL.nil
  refine lv_iconst (v := 0) hx hb dX9_songs_0 (by decide) ?_
  refine lv_istore_n (lv' := [(1, .int 0), (0, .ref w)]) hx hb dX9_songs_1 rfl hl (by decide) rfl (fun ls hl => ?_)
  refine lv_iconst (v := 0) hx hb dX9_songs_2 (by decide) ?_
  refine lv_istore_n (lv' := [(2, .int 0), (1, .int 0), (0, .ref w)]) hx hb dX9_songs_3 rfl hl (by decide) rfl (fun ls hl => ?_)
  refine lp_r (B0 := B0) (α := Nat × Int32) (nL := 5) (fun a9 => 8 - a9.1) (fun a9 => (a9.1 ≤ 8)) (fun a9 => [(2, .int (nI a9.1)), (1, .int a9.2), (0, .ref w)]) ?_ (0, 0) _ _ (by omega) hL (lv_sub hl [0, 1, 2] rfl)
  rintro ⟨p, x⟩ locs ls ih803 hp hL hl
  have hl : lv_has ls 5 [(2, .int (nI p)), (1, .int x), (0, .ref w)] := hl
  have hp : p ≤ 8 := hp
  refine lv_iload_n hx hb dX9_songs_4 rfl (lv_at hl 0 rfl) ?_
  refine lv_aload_n hx hb dX9_songs_5 rfl (lv_at hl 2 rfl) ?_
  obtain ⟨hb804, e804, hat804, hk804⟩ := hT.o10 hw.1
  obtain ⟨f804_0, f804_1, f804_3, f804_4, f804_5, f804_6, f804_7, f804_8, f804_9, f804_10, f804_11, f804_12, f804_13, f804_14, f804_15, f804_16, f804_17, rfl, c804_2, c804_3, c804_4, c804_12, t804_1, t804_8, t804_9, c804_sd, t804_10, t804_11, t804_17⟩ := hk804
  have hP : va_P D vwCl [(w, .inr (9, [.int f804_0, .ref f804_1, .int (nI ((κ w).2.2.1)), .int (nI f804_3), .int (nI f804_4), .int f804_5, .int f804_6, .int f804_7, .ref f804_8, .ref f804_9, .ref f804_10, .ref f804_11, .int (nI f804_12), .int f804_13, .int f804_14, .int f804_15, .int f804_16, .ref f804_17]))] _ := va_P.cons hat804 va_P.nil
  refine va_get (D := D) (ci := 9) (v := .ref f804_8) (C := RX9) (T := TX9) (N := 18) hx hb hts iX9_songs_9 hown hN.1 hP 0 rfl rfl 8 (by decide) (hts _ mX9_songs_1) (fun _ h9 => h9) rfl dX9_songs_6 ?_
  refine lv_iconst (v := 0) hx hb dX9_songs_9 (by decide) ?_
  obtain ⟨hb805, e805, hat805, hk805⟩ := hT.o24 t804_8.1
  obtain ⟨g805, rfl, q805⟩ := hk805
  have hP : va_P D vwCl [(f804_8, .inl (cs 0, 45783, .inl g805)), (w, .inr (9, [.int f804_0, .ref f804_1, .int (nI ((κ w).2.2.1)), .int (nI f804_3), .int (nI f804_4), .int f804_5, .int f804_6, .int f804_7, .ref f804_8, .ref f804_9, .ref f804_10, .ref f804_11, .int (nI f804_12), .int f804_13, .int f804_14, .int f804_15, .int f804_16, .ref f804_17]))] _ := va_P.cons hat805 hP
  refine ld_i (v := (g805 0)) hx hb hN hP 0 rfl (vp_in_nI (n := 0) (N := 45783) (by omega) (by omega)) (by rw [(show (0 : Int32).toNatClampNeg = 0 from nI_clamp (n := 0) (by omega))]) dX9_songs_10 ?_
  obtain ⟨n806, hn806, en806⟩ := q805.1
  refine tp_i (nI n806) en806 ?_
  refine lv_icmp_ge (tgt := 86) hx hb dX9_songs_11 (by decide) (fun c807 => ?_) (fun c807 => ?_)
  · have c807 : n806 ≤ p := (nI_leI (a := n806) (b := p) (by omega) (by omega)).mp c807
    refine lv_iload_n hx hb dX9_songs_86 rfl (lv_at hl 1 rfl) ?_
    exact en_i hx hb hr hlocks hL rfl (Nat.zero_le _) (Nat.zero_le _) dX9_songs_87 (rfl)
  · have c807 : ¬ n806 ≤ p := fun h9 => c807 ((nI_leI (a := n806) (b := p) (by omega) (by omega)).mpr h9)
    refine lv_aload_n hx hb dX9_songs_14 rfl (lv_at hl 2 rfl) ?_
    refine lv_iload_n hx hb dX9_songs_15 rfl (lv_at hl 0 rfl) ?_
    refine cv_i (As := [.int (nI p)]) (rest := []) (b := w) ⟨hx, hb, hml, hown, hts⟩ (c_X9_isUp hT (w := w) hw (n := p) (by first | omega | decide | assumption)) (cwV 1 hts gX9_songs_X9_isUp rfl rfl rfl hdX9_isUp_v ⟨Nat.le_of_ble_eq_true rfl, Nat.le_of_ble_eq_true rfl⟩) hN hL (rcv10 hN hT hw.1) rfl rfl hl.1 (Nat.le_of_ble_eq_true rfl) dX9_songs_16 (Nat.zero_le _) (Nat.zero_le _) (fun r808 H1 locs hL hqr808 => ?_)
    obtain ⟨h9, hqr808⟩ := hqr808; replace h9 := h9.symm; subst h9
    rcases hqr808 with rfl | rfl
    · refine lv_istore_n (lv' := [(3, .int 0), (2, .int (nI p)), (1, .int x), (0, .ref w)]) hx hb dX9_songs_19 rfl hl (by decide) rfl (fun ls hl => ?_)
      refine lv_iconst (v := 0) hx hb dX9_songs_20 (by decide) ?_
      refine lv_istore (lv' := [(4, .int 0), (3, .int 0), (2, .int (nI p)), (1, .int x), (0, .ref w)]) hx hb dX9_songs_21 hl (by decide) rfl (fun ls hl => ?_)
      refine lp_r (B0 := B0) (α := Nat × Int32) (nL := 5) (fun a9 => 8 - a9.1) (fun a9 => (a9.1 ≤ 8)) (fun a9 => [(4, .int (nI a9.1)), (3, .int a9.2), (0, .ref w), (1, .int x), (2, .int (nI p))]) ?_ (0, 0) _ _ (by omega) hL (lv_sub hl [0, 1, 4, 3, 2] rfl)
      rintro ⟨q, z⟩ locs ls ih809 hq hL hl
      have hl : lv_has ls 5 [(4, .int (nI q)), (3, .int z), (0, .ref w), (1, .int x), (2, .int (nI p))] := hl
      have hq : q ≤ 8 := hq
      refine lv_iload hx hb dX9_songs_23 (lv_at hl 0 rfl) ?_
      refine lv_iload_n hx hb dX9_songs_25 rfl (lv_at hl 4 rfl) ?_
      refine lv_icmp_ge (tgt := 68) hx hb dX9_songs_26 (by decide) (fun c810 => ?_) (fun c810 => ?_)
      · have c810 : p ≤ q := (nI_leI (a := p) (b := q) (by omega) (by omega)).mp c810
        refine lv_iload_n hx hb dX9_songs_68 rfl (lv_at hl 3 rfl) ?_
        refine lv_iload_n hx hb dX9_songs_69 rfl (lv_at hl 1 rfl) ?_
        refine lv_if_eq (tgt := 77) hx hb dX9_songs_70 (by decide) (fun c811 => ?_) (fun c811 => ?_)
        · refine lv_iconst (v := 0) hx hb dX9_songs_77 (by decide) ?_
          refine lv_iadd hx hb dX9_songs_78 ?_
          refine gn_i (fun x812 => ?_)
          refine lv_istore_n (lv' := [(1, .int x812), (4, .int (nI q)), (3, .int z), (0, .ref w), (2, .int (nI p))]) hx hb dX9_songs_79 rfl hl (by decide) rfl (fun ls hl => ?_)
          refine lv_iinc (v := (nI (p + 1))) (lv' := [(2, .int (nI (p + 1))), (1, .int x812), (4, .int (nI q)), (3, .int z), (0, .ref w)]) hx hb dX9_songs_80 hl (k := 4) rfl (nI_add _ 1) (by decide) rfl (fun ls hl => ?_)
          refine lv_goto (tgt := 4) hx hb dX9_songs_83 (by decide) ?_
          exact ih803 ((p + 1), x812) _ _ (by show 8 - ((p + 1)) < 8 - p; omega) (by omega) hL (lv_sub hl [0, 1, 4] rfl)
        · refine lv_iconst (v := 1) hx hb dX9_songs_73 (by decide) ?_
          refine lv_goto (tgt := 78) hx hb dX9_songs_74 (by decide) ?_
          refine lv_iadd hx hb dX9_songs_78 ?_
          refine gn_i (fun x813 => ?_)
          refine lv_istore_n (lv' := [(1, .int x813), (4, .int (nI q)), (3, .int z), (0, .ref w), (2, .int (nI p))]) hx hb dX9_songs_79 rfl hl (by decide) rfl (fun ls hl => ?_)
          refine lv_iinc (v := (nI (p + 1))) (lv' := [(2, .int (nI (p + 1))), (1, .int x813), (4, .int (nI q)), (3, .int z), (0, .ref w)]) hx hb dX9_songs_80 hl (k := 4) rfl (nI_add _ 1) (by decide) rfl (fun ls hl => ?_)
          refine lv_goto (tgt := 4) hx hb dX9_songs_83 (by decide) ?_
          exact ih803 ((p + 1), x813) _ _ (by show 8 - ((p + 1)) < 8 - p; omega) (by omega) hL (lv_sub hl [0, 1, 4] rfl)
      · have c810 : ¬ p ≤ q := fun h9 => c810 ((nI_leI (a := p) (b := q) (by omega) (by omega)).mpr h9)
        refine lv_iload_n hx hb dX9_songs_29 rfl (lv_at hl 1 rfl) ?_
        refine lv_aload_n hx hb dX9_songs_30 rfl (lv_at hl 2 rfl) ?_
        refine lv_iload hx hb dX9_songs_31 (lv_at hl 0 rfl) ?_
        refine cv_i (As := [.int (nI q)]) (rest := [.int z]) (b := w) ⟨hx, hb, hml, hown, hts⟩ (c_X9_isUp hT (w := w) hw (n := q) (by first | omega | decide | assumption)) (cwV 1 hts gX9_songs_X9_isUp rfl rfl rfl hdX9_isUp_v ⟨Nat.le_of_ble_eq_true rfl, Nat.le_of_ble_eq_true rfl⟩) hN hL (rcv10 hN hT hw.1) rfl rfl hl.1 (Nat.le_of_ble_eq_true rfl) dX9_songs_33 (Nat.zero_le _) (Nat.zero_le _) (fun r814 H1 locs hL hqr814 => ?_)
        obtain ⟨h9, hqr814⟩ := hqr814; replace h9 := h9.symm; subst h9
        rcases hqr814 with rfl | rfl
        · refine lv_if_eq (tgt := 55) hx hb dX9_songs_36 (by decide) (fun _ => ?_) (fun c9 => absurd (by decide) c9)
          refine lv_iconst (v := 1) hx hb dX9_songs_55 (by decide) ?_
          refine lv_goto (tgt := 60) hx hb dX9_songs_56 (by decide) ?_
          refine lv_iand hx hb dX9_songs_60 ?_
          refine gn_i (fun x815 => ?_)
          refine lv_istore_n (lv' := [(3, .int x815), (4, .int (nI q)), (0, .ref w), (1, .int x), (2, .int (nI p))]) hx hb dX9_songs_61 rfl hl (by decide) rfl (fun ls hl => ?_)
          refine lv_iinc (v := (nI (q + 1))) (lv' := [(4, .int (nI (q + 1))), (3, .int x815), (0, .ref w), (1, .int x), (2, .int (nI p))]) hx hb dX9_songs_62 hl (k := 1) rfl (nI_add _ 1) (by decide) rfl (fun ls hl => ?_)
          refine lv_goto (tgt := 23) hx hb dX9_songs_65 (by decide) ?_
          exact ih809 ((q + 1), x815) _ _ (by show 8 - ((q + 1)) < 8 - q; omega) (by omega) hL (lv_sub hl [0, 1, 2, 3, 4] rfl)
        · refine lv_if_eq (tgt := 55) hx hb dX9_songs_36 (by decide) (fun c9 => absurd c9 (by decide)) (fun _ => ?_)
          refine lv_aload_n hx hb dX9_songs_39 rfl (lv_at hl 2 rfl) ?_
          refine lv_iload hx hb dX9_songs_40 (lv_at hl 0 rfl) ?_
          refine lv_iconst (v := 4) hx hb dX9_songs_42 (by decide) ?_
          refine cv_i (As := [.int (nI q), .int 4]) (rest := [.int z]) (b := w) ⟨hx, hb, hml, hown, hts⟩ (c_X9_of hT (w := w) hw (n := q) (k := 4) (by first | omega | decide | assumption) (by first | omega | decide | assumption)) (cwV 2 hts gX9_songs_X9_of rfl rfl rfl hdX9_of_v ⟨Nat.le_of_ble_eq_true rfl, Nat.le_of_ble_eq_true rfl⟩) hN hL (rcv10 hN hT hw.1) rfl rfl hl.1 (Nat.le_of_ble_eq_true rfl) dX9_songs_43 (Nat.zero_le _) (Nat.zero_le _) (fun r816 H1 locs hL hqr816 => ?_)
          obtain rfl := hqr816.symm
          refine lv_aload_n hx hb dX9_songs_46 rfl (lv_at hl 2 rfl) ?_
          refine lv_iload_n hx hb dX9_songs_47 rfl (lv_at hl 4 rfl) ?_
          refine lv_iconst (v := 4) hx hb dX9_songs_48 (by decide) ?_
          refine cv_i (As := [.int (nI p), .int 4]) (rest := [.int r816, .int z]) (b := w) ⟨hx, hb, hml, hown, hts⟩ (c_X9_of hT (w := w) hw (n := p) (k := 4) (by first | omega | decide | assumption) (by first | omega | decide | assumption)) (cwV 2 hts gX9_songs_X9_of rfl rfl rfl hdX9_of_v ⟨Nat.le_of_ble_eq_true rfl, Nat.le_of_ble_eq_true rfl⟩) hN hL (rcv10 hN hT hw.1) rfl rfl hl.1 (Nat.le_of_ble_eq_true rfl) dX9_songs_49 (Nat.zero_le _) (Nat.zero_le _) (fun r817 H1 locs hL hqr817 => ?_)
          obtain rfl := hqr817.symm
          refine lv_icmp_eq (tgt := 59) hx hb dX9_songs_52 (by decide) (fun c818 => ?_) (fun c818 => ?_)
          · refine lv_iconst (v := 0) hx hb dX9_songs_59 (by decide) ?_
            refine lv_iand hx hb dX9_songs_60 ?_
            refine gn_i (fun x819 => ?_)
            refine lv_istore_n (lv' := [(3, .int x819), (4, .int (nI q)), (0, .ref w), (1, .int x), (2, .int (nI p))]) hx hb dX9_songs_61 rfl hl (by decide) rfl (fun ls hl => ?_)
            refine lv_iinc (v := (nI (q + 1))) (lv' := [(4, .int (nI (q + 1))), (3, .int x819), (0, .ref w), (1, .int x), (2, .int (nI p))]) hx hb dX9_songs_62 hl (k := 1) rfl (nI_add _ 1) (by decide) rfl (fun ls hl => ?_)
            refine lv_goto (tgt := 23) hx hb dX9_songs_65 (by decide) ?_
            exact ih809 ((q + 1), x819) _ _ (by show 8 - ((q + 1)) < 8 - q; omega) (by omega) hL (lv_sub hl [0, 1, 2, 3, 4] rfl)
          · refine lv_iconst (v := 1) hx hb dX9_songs_55 (by decide) ?_
            refine lv_goto (tgt := 60) hx hb dX9_songs_56 (by decide) ?_
            refine lv_iand hx hb dX9_songs_60 ?_
            refine gn_i (fun x820 => ?_)
            refine lv_istore_n (lv' := [(3, .int x820), (4, .int (nI q)), (0, .ref w), (1, .int x), (2, .int (nI p))]) hx hb dX9_songs_61 rfl hl (by decide) rfl (fun ls hl => ?_)
            refine lv_iinc (v := (nI (q + 1))) (lv' := [(4, .int (nI (q + 1))), (3, .int x820), (0, .ref w), (1, .int x), (2, .int (nI p))]) hx hb dX9_songs_62 hl (k := 1) rfl (nI_add _ 1) (by decide) rfl (fun ls hl => ?_)
            refine lv_goto (tgt := 23) hx hb dX9_songs_65 (by decide) ?_
            exact ih809 ((q + 1), x820) _ _ (by show 8 - ((q + 1)) < 8 - q; omega) (by omega) hL (lv_sub hl [0, 1, 2, 3, 4] rfl)
    · refine lv_istore_n (lv' := [(3, .int 1), (2, .int (nI p)), (1, .int x), (0, .ref w)]) hx hb dX9_songs_19 rfl hl (by decide) rfl (fun ls hl => ?_)
      refine lv_iconst (v := 0) hx hb dX9_songs_20 (by decide) ?_
      refine lv_istore (lv' := [(4, .int 0), (3, .int 1), (2, .int (nI p)), (1, .int x), (0, .ref w)]) hx hb dX9_songs_21 hl (by decide) rfl (fun ls hl => ?_)
      refine lp_r (B0 := B0) (α := Nat × Int32) (nL := 5) (fun a9 => 8 - a9.1) (fun a9 => (a9.1 ≤ 8)) (fun a9 => [(4, .int (nI a9.1)), (3, .int a9.2), (0, .ref w), (1, .int x), (2, .int (nI p))]) ?_ (0, 1) _ _ (by omega) hL (lv_sub hl [0, 1, 4, 3, 2] rfl)
      rintro ⟨q, z⟩ locs ls ih821 hq hL hl
      have hl : lv_has ls 5 [(4, .int (nI q)), (3, .int z), (0, .ref w), (1, .int x), (2, .int (nI p))] := hl
      have hq : q ≤ 8 := hq
      refine lv_iload hx hb dX9_songs_23 (lv_at hl 0 rfl) ?_
      refine lv_iload_n hx hb dX9_songs_25 rfl (lv_at hl 4 rfl) ?_
      refine lv_icmp_ge (tgt := 68) hx hb dX9_songs_26 (by decide) (fun c822 => ?_) (fun c822 => ?_)
      · have c822 : p ≤ q := (nI_leI (a := p) (b := q) (by omega) (by omega)).mp c822
        refine lv_iload_n hx hb dX9_songs_68 rfl (lv_at hl 3 rfl) ?_
        refine lv_iload_n hx hb dX9_songs_69 rfl (lv_at hl 1 rfl) ?_
        refine lv_if_eq (tgt := 77) hx hb dX9_songs_70 (by decide) (fun c823 => ?_) (fun c823 => ?_)
        · refine lv_iconst (v := 0) hx hb dX9_songs_77 (by decide) ?_
          refine lv_iadd hx hb dX9_songs_78 ?_
          refine gn_i (fun x824 => ?_)
          refine lv_istore_n (lv' := [(1, .int x824), (4, .int (nI q)), (3, .int z), (0, .ref w), (2, .int (nI p))]) hx hb dX9_songs_79 rfl hl (by decide) rfl (fun ls hl => ?_)
          refine lv_iinc (v := (nI (p + 1))) (lv' := [(2, .int (nI (p + 1))), (1, .int x824), (4, .int (nI q)), (3, .int z), (0, .ref w)]) hx hb dX9_songs_80 hl (k := 4) rfl (nI_add _ 1) (by decide) rfl (fun ls hl => ?_)
          refine lv_goto (tgt := 4) hx hb dX9_songs_83 (by decide) ?_
          exact ih803 ((p + 1), x824) _ _ (by show 8 - ((p + 1)) < 8 - p; omega) (by omega) hL (lv_sub hl [0, 1, 4] rfl)
        · refine lv_iconst (v := 1) hx hb dX9_songs_73 (by decide) ?_
          refine lv_goto (tgt := 78) hx hb dX9_songs_74 (by decide) ?_
          refine lv_iadd hx hb dX9_songs_78 ?_
          refine gn_i (fun x825 => ?_)
          refine lv_istore_n (lv' := [(1, .int x825), (4, .int (nI q)), (3, .int z), (0, .ref w), (2, .int (nI p))]) hx hb dX9_songs_79 rfl hl (by decide) rfl (fun ls hl => ?_)
          refine lv_iinc (v := (nI (p + 1))) (lv' := [(2, .int (nI (p + 1))), (1, .int x825), (4, .int (nI q)), (3, .int z), (0, .ref w)]) hx hb dX9_songs_80 hl (k := 4) rfl (nI_add _ 1) (by decide) rfl (fun ls hl => ?_)
          refine lv_goto (tgt := 4) hx hb dX9_songs_83 (by decide) ?_
          exact ih803 ((p + 1), x825) _ _ (by show 8 - ((p + 1)) < 8 - p; omega) (by omega) hL (lv_sub hl [0, 1, 4] rfl)
      · have c822 : ¬ p ≤ q := fun h9 => c822 ((nI_leI (a := p) (b := q) (by omega) (by omega)).mpr h9)
        refine lv_iload_n hx hb dX9_songs_29 rfl (lv_at hl 1 rfl) ?_
        refine lv_aload_n hx hb dX9_songs_30 rfl (lv_at hl 2 rfl) ?_
        refine lv_iload hx hb dX9_songs_31 (lv_at hl 0 rfl) ?_
        refine cv_i (As := [.int (nI q)]) (rest := [.int z]) (b := w) ⟨hx, hb, hml, hown, hts⟩ (c_X9_isUp hT (w := w) hw (n := q) (by first | omega | decide | assumption)) (cwV 1 hts gX9_songs_X9_isUp rfl rfl rfl hdX9_isUp_v ⟨Nat.le_of_ble_eq_true rfl, Nat.le_of_ble_eq_true rfl⟩) hN hL (rcv10 hN hT hw.1) rfl rfl hl.1 (Nat.le_of_ble_eq_true rfl) dX9_songs_33 (Nat.zero_le _) (Nat.zero_le _) (fun r826 H1 locs hL hqr826 => ?_)
        obtain ⟨h9, hqr826⟩ := hqr826; replace h9 := h9.symm; subst h9
        rcases hqr826 with rfl | rfl
        · refine lv_if_eq (tgt := 55) hx hb dX9_songs_36 (by decide) (fun _ => ?_) (fun c9 => absurd (by decide) c9)
          refine lv_iconst (v := 1) hx hb dX9_songs_55 (by decide) ?_
          refine lv_goto (tgt := 60) hx hb dX9_songs_56 (by decide) ?_
          refine lv_iand hx hb dX9_songs_60 ?_
          refine gn_i (fun x827 => ?_)
          refine lv_istore_n (lv' := [(3, .int x827), (4, .int (nI q)), (0, .ref w), (1, .int x), (2, .int (nI p))]) hx hb dX9_songs_61 rfl hl (by decide) rfl (fun ls hl => ?_)
          refine lv_iinc (v := (nI (q + 1))) (lv' := [(4, .int (nI (q + 1))), (3, .int x827), (0, .ref w), (1, .int x), (2, .int (nI p))]) hx hb dX9_songs_62 hl (k := 1) rfl (nI_add _ 1) (by decide) rfl (fun ls hl => ?_)
          refine lv_goto (tgt := 23) hx hb dX9_songs_65 (by decide) ?_
          exact ih821 ((q + 1), x827) _ _ (by show 8 - ((q + 1)) < 8 - q; omega) (by omega) hL (lv_sub hl [0, 1, 2, 3, 4] rfl)
        · refine lv_if_eq (tgt := 55) hx hb dX9_songs_36 (by decide) (fun c9 => absurd c9 (by decide)) (fun _ => ?_)
          refine lv_aload_n hx hb dX9_songs_39 rfl (lv_at hl 2 rfl) ?_
          refine lv_iload hx hb dX9_songs_40 (lv_at hl 0 rfl) ?_
          refine lv_iconst (v := 4) hx hb dX9_songs_42 (by decide) ?_
          refine cv_i (As := [.int (nI q), .int 4]) (rest := [.int z]) (b := w) ⟨hx, hb, hml, hown, hts⟩ (c_X9_of hT (w := w) hw (n := q) (k := 4) (by first | omega | decide | assumption) (by first | omega | decide | assumption)) (cwV 2 hts gX9_songs_X9_of rfl rfl rfl hdX9_of_v ⟨Nat.le_of_ble_eq_true rfl, Nat.le_of_ble_eq_true rfl⟩) hN hL (rcv10 hN hT hw.1) rfl rfl hl.1 (Nat.le_of_ble_eq_true rfl) dX9_songs_43 (Nat.zero_le _) (Nat.zero_le _) (fun r828 H1 locs hL hqr828 => ?_)
          obtain rfl := hqr828.symm
          refine lv_aload_n hx hb dX9_songs_46 rfl (lv_at hl 2 rfl) ?_
          refine lv_iload_n hx hb dX9_songs_47 rfl (lv_at hl 4 rfl) ?_
          refine lv_iconst (v := 4) hx hb dX9_songs_48 (by decide) ?_
          refine cv_i (As := [.int (nI p), .int 4]) (rest := [.int r828, .int z]) (b := w) ⟨hx, hb, hml, hown, hts⟩ (c_X9_of hT (w := w) hw (n := p) (k := 4) (by first | omega | decide | assumption) (by first | omega | decide | assumption)) (cwV 2 hts gX9_songs_X9_of rfl rfl rfl hdX9_of_v ⟨Nat.le_of_ble_eq_true rfl, Nat.le_of_ble_eq_true rfl⟩) hN hL (rcv10 hN hT hw.1) rfl rfl hl.1 (Nat.le_of_ble_eq_true rfl) dX9_songs_49 (Nat.zero_le _) (Nat.zero_le _) (fun r829 H1 locs hL hqr829 => ?_)
          obtain rfl := hqr829.symm
          refine lv_icmp_eq (tgt := 59) hx hb dX9_songs_52 (by decide) (fun c830 => ?_) (fun c830 => ?_)
          · refine lv_iconst (v := 0) hx hb dX9_songs_59 (by decide) ?_
            refine lv_iand hx hb dX9_songs_60 ?_
            refine gn_i (fun x831 => ?_)
            refine lv_istore_n (lv' := [(3, .int x831), (4, .int (nI q)), (0, .ref w), (1, .int x), (2, .int (nI p))]) hx hb dX9_songs_61 rfl hl (by decide) rfl (fun ls hl => ?_)
            refine lv_iinc (v := (nI (q + 1))) (lv' := [(4, .int (nI (q + 1))), (3, .int x831), (0, .ref w), (1, .int x), (2, .int (nI p))]) hx hb dX9_songs_62 hl (k := 1) rfl (nI_add _ 1) (by decide) rfl (fun ls hl => ?_)
            refine lv_goto (tgt := 23) hx hb dX9_songs_65 (by decide) ?_
            exact ih821 ((q + 1), x831) _ _ (by show 8 - ((q + 1)) < 8 - q; omega) (by omega) hL (lv_sub hl [0, 1, 2, 3, 4] rfl)
          · refine lv_iconst (v := 1) hx hb dX9_songs_55 (by decide) ?_
            refine lv_goto (tgt := 60) hx hb dX9_songs_56 (by decide) ?_
            refine lv_iand hx hb dX9_songs_60 ?_
            refine gn_i (fun x832 => ?_)
            refine lv_istore_n (lv' := [(3, .int x832), (4, .int (nI q)), (0, .ref w), (1, .int x), (2, .int (nI p))]) hx hb dX9_songs_61 rfl hl (by decide) rfl (fun ls hl => ?_)
            refine lv_iinc (v := (nI (q + 1))) (lv' := [(4, .int (nI (q + 1))), (3, .int x832), (0, .ref w), (1, .int x), (2, .int (nI p))]) hx hb dX9_songs_62 hl (k := 1) rfl (nI_add _ 1) (by decide) rfl (fun ls hl => ?_)
            refine lv_goto (tgt := 23) hx hb dX9_songs_65 (by decide) ?_
            exact ih821 ((q + 1), x832) _ _ (by show 8 - ((q + 1)) < 8 - q; omega) (by omega) hL (lv_sub hl [0, 1, 2, 3, 4] rfl)
theorem mX9_spreadNow_1 : (.fieldLink RX9 18 "OneBeatModel" "data" "[I" : Cond) ∈ wsX9_spreadNow := List.mem_of_getElem? (i := 1) (by decide +kernel)
theorem iX9_spreadNow_9 : ∀ w ∈ wsX90, w ∈ wsX9_spreadNow := fun w h => List.mem_of_mem_drop (List.mem_of_mem_take ((show wsX90 = (wsX9_spreadNow.drop 2).take 18 by decide +kernel) ▸ h))
set_option maxHeartbeats 4000000 in
set_option maxRecDepth 100000 in
theorem c_X9_spreadNow {l : Launch} {D : va_G} {cs : Nat → ClassId} {B0 T : Nat} {κ : KM} {H0 : Heap} (hT : WT B0 D cs T κ H0) {w : Nat} (hw : T2 κ w 10 12) : KC l yX9_spreadNow wsX9_spreadNow 0 0 0 0 D cs B0 H0 [.ref w] (Qi (fun _ H => H = H0)) := by
  refine KC.of cX9_spreadNow 1 (some .int) (by decide) rfl (Nat.le_of_ble_eq_true rfl) ?_
  intro p e s m below meth c ls hx hb hr hml hown hts hlocks hin hN hH0 hl
  have hown : s.vm.findClass RX9 = some m.cls := hown
  have hl : lv_has ls 1 [(0, .ref w)] := hl
  have hL : OkL B0 [] := OkL.nil
  refine lv_aload_n hx hb dX9_spreadNow_0 rfl (lv_at hl 0 rfl) ?_
  obtain ⟨hb833, e833, hat833, hk833⟩ := hT.o10 hw.1
  obtain ⟨f833_0, f833_1, f833_3, f833_4, f833_5, f833_6, f833_7, f833_8, f833_9, f833_10, f833_11, f833_12, f833_13, f833_14, f833_15, f833_16, f833_17, rfl, c833_2, c833_3, c833_4, c833_12, t833_1, t833_8, t833_9, c833_sd, t833_10, t833_11, t833_17⟩ := hk833
  have hP : va_P D vwCl [(w, .inr (9, [.int f833_0, .ref f833_1, .int (nI ((κ w).2.2.1)), .int (nI f833_3), .int (nI f833_4), .int f833_5, .int f833_6, .int f833_7, .ref f833_8, .ref f833_9, .ref f833_10, .ref f833_11, .int (nI f833_12), .int f833_13, .int f833_14, .int f833_15, .int f833_16, .ref f833_17]))] _ := va_P.cons hat833 va_P.nil
  refine va_get (D := D) (ci := 9) (v := .ref f833_8) (C := RX9) (T := TX9) (N := 18) hx hb hts iX9_spreadNow_9 hown hN.1 hP 0 rfl rfl 8 (by decide) (hts _ mX9_spreadNow_1) (fun _ h9 => h9) rfl dX9_spreadNow_1 ?_
  refine lv_bipush (v := 21) hx hb dX9_spreadNow_4 (by decide) ?_
  obtain ⟨hb834, e834, hat834, hk834⟩ := hT.o24 t833_8.1
  obtain ⟨g834, rfl, q834⟩ := hk834
  have hP : va_P D vwCl [(f833_8, .inl (cs 0, 45783, .inl g834)), (w, .inr (9, [.int f833_0, .ref f833_1, .int (nI ((κ w).2.2.1)), .int (nI f833_3), .int (nI f833_4), .int f833_5, .int f833_6, .int f833_7, .ref f833_8, .ref f833_9, .ref f833_10, .ref f833_11, .int (nI f833_12), .int f833_13, .int f833_14, .int f833_15, .int f833_16, .ref f833_17]))] _ := va_P.cons hat834 hP
  refine ld_i (v := (g834 21)) hx hb hN hP 0 rfl (vp_in_nI (n := 21) (N := 45783) (by omega) (by omega)) (by rw [(show (21 : Int32).toNatClampNeg = 21 from nI_clamp (n := 21) (by omega))]) dX9_spreadNow_6 ?_
  refine gn_i (fun x835 => ?_)
  refine lv_iconst (v := (-1)) hx hb dX9_spreadNow_7 (by decide) ?_
  refine lv_icmp_ne (tgt := 15) hx hb dX9_spreadNow_8 (by decide) (fun c836 => ?_) (fun c836 => ?_)
  · refine lv_aload_n hx hb dX9_spreadNow_15 rfl (lv_at hl 0 rfl) ?_
    refine va_get (D := D) (ci := 9) (v := .ref f833_8) (C := RX9) (T := TX9) (N := 18) hx hb hts iX9_spreadNow_9 hown hN.1 hP 1 rfl rfl 8 (by decide) (hts _ mX9_spreadNow_1) (fun _ h9 => h9) rfl dX9_spreadNow_16 ?_
    refine lv_bipush (v := 22) hx hb dX9_spreadNow_19 (by decide) ?_
    refine ld_i (v := (g834 22)) hx hb hN hP 0 rfl (vp_in_nI (n := 22) (N := 45783) (by omega) (by omega)) (by rw [(show (22 : Int32).toNatClampNeg = 22 from nI_clamp (n := 22) (by omega))]) dX9_spreadNow_21 ?_
    refine gn_i (fun x837 => ?_)
    refine lv_aload_n hx hb dX9_spreadNow_22 rfl (lv_at hl 0 rfl) ?_
    refine va_get (D := D) (ci := 9) (v := .ref f833_8) (C := RX9) (T := TX9) (N := 18) hx hb hts iX9_spreadNow_9 hown hN.1 hP 1 rfl rfl 8 (by decide) (hts _ mX9_spreadNow_1) (fun _ h9 => h9) rfl dX9_spreadNow_23 ?_
    refine lv_bipush (v := 21) hx hb dX9_spreadNow_26 (by decide) ?_
    refine ld_i (v := (g834 21)) hx hb hN hP 0 rfl (vp_in_nI (n := 21) (N := 45783) (by omega) (by omega)) (by rw [(show (21 : Int32).toNatClampNeg = 21 from nI_clamp (n := 21) (by omega))]) dX9_spreadNow_28 ?_
    refine gn_i (fun x838 => ?_)
    refine lv_isub hx hb dX9_spreadNow_29 ?_
    refine gn_i (fun x839 => ?_)
    exact en_i hx hb hr hlocks hL rfl (Nat.zero_le _) (Nat.zero_le _) dX9_spreadNow_30 (rfl)
  · refine lv_iconst (v := (-1)) hx hb dX9_spreadNow_11 (by decide) ?_
    refine lv_goto (tgt := 30) hx hb dX9_spreadNow_12 (by decide) ?_
    exact en_i hx hb hr hlocks hL rfl (Nat.zero_le _) (Nat.zero_le _) dX9_spreadNow_30 (rfl)
theorem mX9_toldPlayer_1 : (.fieldLink RX9 18 "OneBeatModel" "data" "[I" : Cond) ∈ wsX9_toldPlayer := List.mem_of_getElem? (i := 1) (by decide +kernel)
theorem iX9_toldPlayer_9 : ∀ w ∈ wsX90, w ∈ wsX9_toldPlayer := fun w h => List.mem_of_mem_drop (List.mem_of_mem_take ((show wsX90 = (wsX9_toldPlayer.drop 18).take 18 by decide +kernel) ▸ h))
set_option maxHeartbeats 4000000 in
set_option maxRecDepth 100000 in
theorem c_X9_toldPlayer {l : Launch} {D : va_G} {cs : Nat → ClassId} {B0 T : Nat} {κ : KM} {H0 : Heap} (hT : WT B0 D cs T κ H0) {w : Nat} (hw : T2 κ w 10 12) {n : Nat} (qn : n < 8) {y : Int32} : KC l yX9_toldPlayer wsX9_toldPlayer 4 84 0 0 D cs B0 H0 [.ref w, .int (nI n), .int y] (Qi (fun _ H => H = H0)) := by
  refine KC.of cX9_toldPlayer 3 (some .int) (by decide) rfl (Nat.le_of_ble_eq_true rfl) ?_
  intro p e s m below meth c ls hx hb hr hml hown hts hlocks hin hN hH0 hl
  have hown : s.vm.findClass RX9 = some m.cls := hown
  have hl : lv_has ls 3 [(0, .ref w), (1, .int (nI n)), (2, .int y)] := hl
  have hL : OkL B0 [] := OkL.nil
  refine lv_iload_n hx hb dX9_toldPlayer_0 rfl (lv_at hl 2 rfl) ?_
  by_cases c840 : (y : Int32).toInt < (0 : Int) ∨ (8 : Int) < (y : Int32).toInt
  · refine lv_tableOut (tgt := 118) hx hb dX9_toldPlayer_1 c840 (by decide) ?_
    refine lv_aload_n hx hb dX9_toldPlayer_118 rfl (lv_at hl 0 rfl) ?_
    refine lv_iload_n hx hb dX9_toldPlayer_119 rfl (lv_at hl 1 rfl) ?_
    refine cv_i (As := [.int (nI n)]) (rest := []) (b := w) ⟨hx, hb, hml, hown, hts⟩ (c_X9_estimate hT (w := w) hw (n := n) (by first | omega | decide | assumption)) (cwV 1 hts gX9_toldPlayer_X9_estimate rfl rfl rfl hdX9_estimate_v ⟨Nat.le_of_ble_eq_true rfl, Nat.le_of_ble_eq_true rfl⟩) hN hL (rcv10 hN hT hw.1) rfl rfl hl.1 (Nat.le_of_ble_eq_true rfl) dX9_toldPlayer_120 (Nat.zero_le _) (Nat.zero_le _) (fun r841 H1 locs hL hqr841 => ?_)
    obtain rfl := hqr841.symm
    refine lv_aload_n hx hb dX9_toldPlayer_123 rfl (lv_at hl 0 rfl) ?_
    refine lv_aload_n hx hb dX9_toldPlayer_124 rfl (lv_at hl 0 rfl) ?_
    obtain ⟨hb842, e842, hat842, hk842⟩ := hT.o10 hw.1
    obtain ⟨f842_0, f842_1, f842_3, f842_4, f842_5, f842_6, f842_7, f842_8, f842_9, f842_10, f842_11, f842_12, f842_13, f842_14, f842_15, f842_16, f842_17, rfl, c842_2, c842_3, c842_4, c842_12, t842_1, t842_8, t842_9, c842_sd, t842_10, t842_11, t842_17⟩ := hk842
    have hP : va_P D vwCl [(w, .inr (9, [.int f842_0, .ref f842_1, .int (nI ((κ w).2.2.1)), .int (nI f842_3), .int (nI f842_4), .int f842_5, .int f842_6, .int f842_7, .ref f842_8, .ref f842_9, .ref f842_10, .ref f842_11, .int (nI f842_12), .int f842_13, .int f842_14, .int f842_15, .int f842_16, .ref f842_17]))] _ := va_P.cons hat842 va_P.nil
    refine va_get (D := D) (ci := 9) (v := .ref f842_8) (C := RX9) (T := TX9) (N := 18) hx hb hts iX9_toldPlayer_9 hown hN.1 hP 0 rfl rfl 8 (by decide) (hts _ mX9_toldPlayer_1) (fun _ h9 => h9) rfl dX9_toldPlayer_125 ?_
    refine lv_iconst (v := 2) hx hb dX9_toldPlayer_128 (by decide) ?_
    obtain ⟨hb843, e843, hat843, hk843⟩ := hT.o24 t842_8.1
    obtain ⟨g843, rfl, q843⟩ := hk843
    have hP : va_P D vwCl [(f842_8, .inl (cs 0, 45783, .inl g843)), (w, .inr (9, [.int f842_0, .ref f842_1, .int (nI ((κ w).2.2.1)), .int (nI f842_3), .int (nI f842_4), .int f842_5, .int f842_6, .int f842_7, .ref f842_8, .ref f842_9, .ref f842_10, .ref f842_11, .int (nI f842_12), .int f842_13, .int f842_14, .int f842_15, .int f842_16, .ref f842_17]))] _ := va_P.cons hat843 hP
    refine ld_i (v := (g843 2)) hx hb hN hP 0 rfl (vp_in_nI (n := 2) (N := 45783) (by omega) (by omega)) (by rw [(show (2 : Int32).toNatClampNeg = 2 from nI_clamp (n := 2) (by omega))]) dX9_toldPlayer_129 ?_
    obtain ⟨n844, hn844, en844⟩ := q843.2.2.1
    refine tp_i (nI n844) en844 ?_
    refine cv_i (As := [.int (nI n844)]) (rest := [.int r841]) (b := w) ⟨hx, hb, hml, hown, hts⟩ (c_X9_clock hT (w := w) hw (n := n844) (by first | omega | decide | assumption)) (cwV 1 hts gX9_toldPlayer_X9_clock rfl rfl rfl hdX9_clock_v ⟨Nat.le_of_ble_eq_true rfl, Nat.le_of_ble_eq_true rfl⟩) hN hL (rcv10 hN hT hw.1) rfl rfl hl.1 (Nat.le_of_ble_eq_true rfl) dX9_toldPlayer_130 (Nat.zero_le _) (Nat.zero_le _) (fun r845 H1 locs hL hqr845 => ?_)
    obtain rfl := hqr845.symm
    refine lv_isub hx hb dX9_toldPlayer_133 ?_
    refine gn_i (fun x846 => ?_)
    exact en_i hx hb hr hlocks hL rfl (Nat.zero_le _) (Nat.zero_le _) dX9_toldPlayer_134 (rfl)
  · rcases sw_0_8 c840 with rfl | rfl | rfl | rfl | rfl | rfl | rfl | rfl | rfl
    · refine lv_tableIn (tgt := 52) (off := 51) hx hb dX9_toldPlayer_1 (by decide) (by decide) (by decide) (by decide) ?_
      refine lv_aload_n hx hb dX9_toldPlayer_52 rfl (lv_at hl 0 rfl) ?_
      refine lv_iload_n hx hb dX9_toldPlayer_53 rfl (lv_at hl 1 rfl) ?_
      refine lv_iconst (v := 0) hx hb dX9_toldPlayer_54 (by decide) ?_
      refine cv_i (As := [.int (nI n), .int 0]) (rest := []) (b := w) ⟨hx, hb, hml, hown, hts⟩ (c_X9_of hT (w := w) hw (n := n) (k := 0) (by first | omega | decide | assumption) (by first | omega | decide | assumption)) (cwV 2 hts gX9_toldPlayer_X9_of rfl rfl rfl hdX9_of_v ⟨Nat.le_of_ble_eq_true rfl, Nat.le_of_ble_eq_true rfl⟩) hN hL (rcv10 hN hT hw.1) rfl rfl hl.1 (Nat.le_of_ble_eq_true rfl) dX9_toldPlayer_55 (Nat.zero_le _) (Nat.zero_le _) (fun r847 H1 locs hL hqr847 => ?_)
      obtain rfl := hqr847.symm
      exact en_i hx hb hr hlocks hL rfl (Nat.zero_le _) (Nat.zero_le _) dX9_toldPlayer_58 (rfl)
    · refine lv_tableIn (tgt := 59) (off := 58) hx hb dX9_toldPlayer_1 (by decide) (by decide) (by decide) (by decide) ?_
      refine lv_aload_n hx hb dX9_toldPlayer_59 rfl (lv_at hl 0 rfl) ?_
      refine lv_iload_n hx hb dX9_toldPlayer_60 rfl (lv_at hl 1 rfl) ?_
      refine cv_i (As := [.int (nI n)]) (rest := []) (b := w) ⟨hx, hb, hml, hown, hts⟩ (c_X9_clock hT (w := w) hw (n := n) (by first | omega | decide | assumption)) (cwV 1 hts gX9_toldPlayer_X9_clock rfl rfl rfl hdX9_clock_v ⟨Nat.le_of_ble_eq_true rfl, Nat.le_of_ble_eq_true rfl⟩) hN hL (rcv10 hN hT hw.1) rfl rfl hl.1 (Nat.le_of_ble_eq_true rfl) dX9_toldPlayer_61 (Nat.zero_le _) (Nat.zero_le _) (fun r848 H1 locs hL hqr848 => ?_)
      obtain rfl := hqr848.symm
      exact en_i hx hb hr hlocks hL rfl (Nat.zero_le _) (Nat.zero_le _) dX9_toldPlayer_64 (rfl)
    · refine lv_tableIn (tgt := 65) (off := 64) hx hb dX9_toldPlayer_1 (by decide) (by decide) (by decide) (by decide) ?_
      refine lv_aload_n hx hb dX9_toldPlayer_65 rfl (lv_at hl 0 rfl) ?_
      refine lv_iload_n hx hb dX9_toldPlayer_66 rfl (lv_at hl 1 rfl) ?_
      refine lv_iconst (v := 3) hx hb dX9_toldPlayer_67 (by decide) ?_
      refine cv_i (As := [.int (nI n), .int 3]) (rest := []) (b := w) ⟨hx, hb, hml, hown, hts⟩ (c_X9_of hT (w := w) hw (n := n) (k := 3) (by first | omega | decide | assumption) (by first | omega | decide | assumption)) (cwV 2 hts gX9_toldPlayer_X9_of rfl rfl rfl hdX9_of_v ⟨Nat.le_of_ble_eq_true rfl, Nat.le_of_ble_eq_true rfl⟩) hN hL (rcv10 hN hT hw.1) rfl rfl hl.1 (Nat.le_of_ble_eq_true rfl) dX9_toldPlayer_68 (Nat.zero_le _) (Nat.zero_le _) (fun r849 H1 locs hL hqr849 => ?_)
      obtain rfl := hqr849.symm
      exact en_i hx hb hr hlocks hL rfl (Nat.zero_le _) (Nat.zero_le _) dX9_toldPlayer_71 (rfl)
    · refine lv_tableIn (tgt := 72) (off := 71) hx hb dX9_toldPlayer_1 (by decide) (by decide) (by decide) (by decide) ?_
      refine lv_aload_n hx hb dX9_toldPlayer_72 rfl (lv_at hl 0 rfl) ?_
      refine lv_iload_n hx hb dX9_toldPlayer_73 rfl (lv_at hl 1 rfl) ?_
      refine lv_iconst (v := 4) hx hb dX9_toldPlayer_74 (by decide) ?_
      refine cv_i (As := [.int (nI n), .int 4]) (rest := []) (b := w) ⟨hx, hb, hml, hown, hts⟩ (c_X9_of hT (w := w) hw (n := n) (k := 4) (by first | omega | decide | assumption) (by first | omega | decide | assumption)) (cwV 2 hts gX9_toldPlayer_X9_of rfl rfl rfl hdX9_of_v ⟨Nat.le_of_ble_eq_true rfl, Nat.le_of_ble_eq_true rfl⟩) hN hL (rcv10 hN hT hw.1) rfl rfl hl.1 (Nat.le_of_ble_eq_true rfl) dX9_toldPlayer_75 (Nat.zero_le _) (Nat.zero_le _) (fun r850 H1 locs hL hqr850 => ?_)
      obtain rfl := hqr850.symm
      exact en_i hx hb hr hlocks hL rfl (Nat.zero_le _) (Nat.zero_le _) dX9_toldPlayer_78 (rfl)
    · refine lv_tableIn (tgt := 79) (off := 78) hx hb dX9_toldPlayer_1 (by decide) (by decide) (by decide) (by decide) ?_
      refine lv_aload_n hx hb dX9_toldPlayer_79 rfl (lv_at hl 0 rfl) ?_
      refine lv_iload_n hx hb dX9_toldPlayer_80 rfl (lv_at hl 1 rfl) ?_
      refine lv_iconst (v := 5) hx hb dX9_toldPlayer_81 (by decide) ?_
      refine cv_i (As := [.int (nI n), .int 5]) (rest := []) (b := w) ⟨hx, hb, hml, hown, hts⟩ (c_X9_of hT (w := w) hw (n := n) (k := 5) (by first | omega | decide | assumption) (by first | omega | decide | assumption)) (cwV 2 hts gX9_toldPlayer_X9_of rfl rfl rfl hdX9_of_v ⟨Nat.le_of_ble_eq_true rfl, Nat.le_of_ble_eq_true rfl⟩) hN hL (rcv10 hN hT hw.1) rfl rfl hl.1 (Nat.le_of_ble_eq_true rfl) dX9_toldPlayer_82 (Nat.zero_le _) (Nat.zero_le _) (fun r851 H1 locs hL hqr851 => ?_)
      obtain rfl := hqr851.symm
      exact en_i hx hb hr hlocks hL rfl (Nat.zero_le _) (Nat.zero_le _) dX9_toldPlayer_85 (rfl)
    · refine lv_tableIn (tgt := 86) (off := 85) hx hb dX9_toldPlayer_1 (by decide) (by decide) (by decide) (by decide) ?_
      refine lv_aload_n hx hb dX9_toldPlayer_86 rfl (lv_at hl 0 rfl) ?_
      refine lv_iload_n hx hb dX9_toldPlayer_87 rfl (lv_at hl 1 rfl) ?_
      refine lv_bipush (v := 6) hx hb dX9_toldPlayer_88 (by decide) ?_
      refine cv_i (As := [.int (nI n), .int 6]) (rest := []) (b := w) ⟨hx, hb, hml, hown, hts⟩ (c_X9_of hT (w := w) hw (n := n) (k := 6) (by first | omega | decide | assumption) (by first | omega | decide | assumption)) (cwV 2 hts gX9_toldPlayer_X9_of rfl rfl rfl hdX9_of_v ⟨Nat.le_of_ble_eq_true rfl, Nat.le_of_ble_eq_true rfl⟩) hN hL (rcv10 hN hT hw.1) rfl rfl hl.1 (Nat.le_of_ble_eq_true rfl) dX9_toldPlayer_90 (Nat.zero_le _) (Nat.zero_le _) (fun r852 H1 locs hL hqr852 => ?_)
      obtain rfl := hqr852.symm
      exact en_i hx hb hr hlocks hL rfl (Nat.zero_le _) (Nat.zero_le _) dX9_toldPlayer_93 (rfl)
    · refine lv_tableIn (tgt := 94) (off := 93) hx hb dX9_toldPlayer_1 (by decide) (by decide) (by decide) (by decide) ?_
      refine lv_aload_n hx hb dX9_toldPlayer_94 rfl (lv_at hl 0 rfl) ?_
      refine lv_iload_n hx hb dX9_toldPlayer_95 rfl (lv_at hl 1 rfl) ?_
      refine lv_bipush (v := 9) hx hb dX9_toldPlayer_96 (by decide) ?_
      refine cv_i (As := [.int (nI n), .int 9]) (rest := []) (b := w) ⟨hx, hb, hml, hown, hts⟩ (c_X9_of hT (w := w) hw (n := n) (k := 9) (by first | omega | decide | assumption) (by first | omega | decide | assumption)) (cwV 2 hts gX9_toldPlayer_X9_of rfl rfl rfl hdX9_of_v ⟨Nat.le_of_ble_eq_true rfl, Nat.le_of_ble_eq_true rfl⟩) hN hL (rcv10 hN hT hw.1) rfl rfl hl.1 (Nat.le_of_ble_eq_true rfl) dX9_toldPlayer_98 (Nat.zero_le _) (Nat.zero_le _) (fun r853 H1 locs hL hqr853 => ?_)
      obtain rfl := hqr853.symm
      exact en_i hx hb hr hlocks hL rfl (Nat.zero_le _) (Nat.zero_le _) dX9_toldPlayer_101 (rfl)
    · refine lv_tableIn (tgt := 102) (off := 101) hx hb dX9_toldPlayer_1 (by decide) (by decide) (by decide) (by decide) ?_
      refine lv_aload_n hx hb dX9_toldPlayer_102 rfl (lv_at hl 0 rfl) ?_
      refine lv_iload_n hx hb dX9_toldPlayer_103 rfl (lv_at hl 1 rfl) ?_
      refine lv_bipush (v := 10) hx hb dX9_toldPlayer_104 (by decide) ?_
      refine cv_i (As := [.int (nI n), .int 10]) (rest := []) (b := w) ⟨hx, hb, hml, hown, hts⟩ (c_X9_of hT (w := w) hw (n := n) (k := 10) (by first | omega | decide | assumption) (by first | omega | decide | assumption)) (cwV 2 hts gX9_toldPlayer_X9_of rfl rfl rfl hdX9_of_v ⟨Nat.le_of_ble_eq_true rfl, Nat.le_of_ble_eq_true rfl⟩) hN hL (rcv10 hN hT hw.1) rfl rfl hl.1 (Nat.le_of_ble_eq_true rfl) dX9_toldPlayer_106 (Nat.zero_le _) (Nat.zero_le _) (fun r854 H1 locs hL hqr854 => ?_)
      obtain rfl := hqr854.symm
      exact en_i hx hb hr hlocks hL rfl (Nat.zero_le _) (Nat.zero_le _) dX9_toldPlayer_109 (rfl)
    · refine lv_tableIn (tgt := 110) (off := 109) hx hb dX9_toldPlayer_1 (by decide) (by decide) (by decide) (by decide) ?_
      refine lv_aload_n hx hb dX9_toldPlayer_110 rfl (lv_at hl 0 rfl) ?_
      refine lv_iload_n hx hb dX9_toldPlayer_111 rfl (lv_at hl 1 rfl) ?_
      refine lv_bipush (v := 11) hx hb dX9_toldPlayer_112 (by decide) ?_
      refine cv_i (As := [.int (nI n), .int 11]) (rest := []) (b := w) ⟨hx, hb, hml, hown, hts⟩ (c_X9_of hT (w := w) hw (n := n) (k := 11) (by first | omega | decide | assumption) (by first | omega | decide | assumption)) (cwV 2 hts gX9_toldPlayer_X9_of rfl rfl rfl hdX9_of_v ⟨Nat.le_of_ble_eq_true rfl, Nat.le_of_ble_eq_true rfl⟩) hN hL (rcv10 hN hT hw.1) rfl rfl hl.1 (Nat.le_of_ble_eq_true rfl) dX9_toldPlayer_114 (Nat.zero_le _) (Nat.zero_le _) (fun r855 H1 locs hL hqr855 => ?_)
      obtain rfl := hqr855.symm
      exact en_i hx hb hr hlocks hL rfl (Nat.zero_le _) (Nat.zero_le _) dX9_toldPlayer_117 (rfl)
theorem mX9_toldMessage_1 : (.fieldLink RX9 18 "OneBeatModel" "data" "[I" : Cond) ∈ wsX9_toldMessage := List.mem_of_getElem? (i := 1) (by decide +kernel)
theorem iX9_toldMessage_9 : ∀ w ∈ wsX90, w ∈ wsX9_toldMessage := fun w h => List.mem_of_mem_drop (List.mem_of_mem_take ((show wsX90 = (wsX9_toldMessage.drop 2).take 18 by decide +kernel) ▸ h))
set_option maxHeartbeats 4000000 in
set_option maxRecDepth 100000 in
theorem c_X9_toldMessage {l : Launch} {D : va_G} {cs : Nat → ClassId} {B0 T : Nat} {κ : KM} {H0 : Heap} (hT : WT B0 D cs T κ H0) {w : Nat} (hw : T2 κ w 10 12) {n k : Nat} (hn : n ≤ 7399) (hk : k ≤ 5) : KC l yX9_toldMessage wsX9_toldMessage 0 0 0 0 D cs B0 H0 [.ref w, .int (nI (1383 + 6 * n)), .int (nI k)] (Qi (fun _ H => H = H0)) := by
  refine KC.of cX9_toldMessage 4 (some .int) (by decide) rfl (Nat.le_of_ble_eq_true rfl) ?_
  intro p e s m below meth c ls hx hb hr hml hown hts hlocks hin hN hH0 hl
  have hown : s.vm.findClass RX9 = some m.cls := hown
  have hl : lv_has ls 4 [(0, .ref w), (1, .int (nI (1383 + 6 * n))), (2, .int (nI k))] := hl
  have hL : OkL B0 [] := OkL.nil
  refine lv_aload_n hx hb dX9_toldMessage_0 rfl (lv_at hl 0 rfl) ?_
  obtain ⟨hb856, e856, hat856, hk856⟩ := hT.o10 hw.1
  obtain ⟨f856_0, f856_1, f856_3, f856_4, f856_5, f856_6, f856_7, f856_8, f856_9, f856_10, f856_11, f856_12, f856_13, f856_14, f856_15, f856_16, f856_17, rfl, c856_2, c856_3, c856_4, c856_12, t856_1, t856_8, t856_9, c856_sd, t856_10, t856_11, t856_17⟩ := hk856
  have hP : va_P D vwCl [(w, .inr (9, [.int f856_0, .ref f856_1, .int (nI ((κ w).2.2.1)), .int (nI f856_3), .int (nI f856_4), .int f856_5, .int f856_6, .int f856_7, .ref f856_8, .ref f856_9, .ref f856_10, .ref f856_11, .int (nI f856_12), .int f856_13, .int f856_14, .int f856_15, .int f856_16, .ref f856_17]))] _ := va_P.cons hat856 va_P.nil
  refine va_get (D := D) (ci := 9) (v := .ref f856_8) (C := RX9) (T := TX9) (N := 18) hx hb hts iX9_toldMessage_9 hown hN.1 hP 0 rfl rfl 8 (by decide) (hts _ mX9_toldMessage_1) (fun _ h9 => h9) rfl dX9_toldMessage_1 ?_
  refine lv_iload_n hx hb dX9_toldMessage_4 rfl (lv_at hl 1 rfl) ?_
  refine lv_iconst (v := 0) hx hb dX9_toldMessage_5 (by decide) ?_
  refine lv_iadd hx hb dX9_toldMessage_6 ?_
  refine tp_i (nI ((1383 + 6 * n) + 0)) (nI_add (1383 + 6 * n) 0) ?_
  obtain ⟨hb857, e857, hat857, hk857⟩ := hT.o24 t856_8.1
  obtain ⟨g857, rfl, q857⟩ := hk857
  have hP : va_P D vwCl [(f856_8, .inl (cs 0, 45783, .inl g857)), (w, .inr (9, [.int f856_0, .ref f856_1, .int (nI ((κ w).2.2.1)), .int (nI f856_3), .int (nI f856_4), .int f856_5, .int f856_6, .int f856_7, .ref f856_8, .ref f856_9, .ref f856_10, .ref f856_11, .int (nI f856_12), .int f856_13, .int f856_14, .int f856_15, .int f856_16, .ref f856_17]))] _ := va_P.cons hat857 hP
  refine ld_i (v := (g857 ((1383 + 6 * n) + 0))) hx hb hN hP 0 rfl (vp_in_nI (n := ((1383 + 6 * n) + 0)) (N := 45783) (by omega) (by omega)) (by rw [(show ((nI ((1383 + 6 * n) + 0)) : Int32).toNatClampNeg = ((1383 + 6 * n) + 0) from nI_clamp (n := ((1383 + 6 * n) + 0)) (by omega))]) dX9_toldMessage_7 ?_
  refine gn_i (fun x858 => ?_)
  refine lv_istore_n (lv' := [(3, .int x858), (0, .ref w), (1, .int (nI (1383 + 6 * n))), (2, .int (nI k))]) hx hb dX9_toldMessage_8 rfl hl (by decide) rfl (fun ls hl => ?_)
  refine lv_iload_n hx hb dX9_toldMessage_9 rfl (lv_at hl 3 rfl) ?_
  refine lv_if_ne (tgt := 20) hx hb dX9_toldMessage_10 (by decide) (fun c859 => ?_) (fun c859 => ?_)
  · have c859 : ¬ k = 0 := fun h9 => c859 ((nI_eq (a := k) (b := 0) (by omega) (by omega)).mpr h9)
    refine lv_iload_n hx hb dX9_toldMessage_20 rfl (lv_at hl 3 rfl) ?_
    refine lv_iconst (v := 1) hx hb dX9_toldMessage_21 (by decide) ?_
    refine lv_icmp_ne (tgt := 35) hx hb dX9_toldMessage_22 (by decide) (fun c860 => ?_) (fun c860 => ?_)
    · have c860 : ¬ k = 1 := fun h9 => c860 ((nI_eq (a := k) (b := 1) (by omega) (by omega)).mpr h9)
      refine lv_iload_n hx hb dX9_toldMessage_35 rfl (lv_at hl 3 rfl) ?_
      refine lv_iconst (v := 2) hx hb dX9_toldMessage_36 (by decide) ?_
      refine lv_icmp_ne (tgt := 47) hx hb dX9_toldMessage_37 (by decide) (fun c861 => ?_) (fun c861 => ?_)
      · have c861 : ¬ k = 2 := fun h9 => c861 ((nI_eq (a := k) (b := 2) (by omega) (by omega)).mpr h9)
        refine lv_aload_n hx hb dX9_toldMessage_47 rfl (lv_at hl 1 rfl) ?_
        refine va_get (D := D) (ci := 9) (v := .ref f856_8) (C := RX9) (T := TX9) (N := 18) hx hb hts iX9_toldMessage_9 hown hN.1 hP 1 rfl rfl 8 (by decide) (hts _ mX9_toldMessage_1) (fun _ h9 => h9) rfl dX9_toldMessage_48 ?_
        refine lv_iload_n hx hb dX9_toldMessage_51 rfl (lv_at hl 2 rfl) ?_
        refine lv_iload_n hx hb dX9_toldMessage_52 rfl (lv_at hl 3 rfl) ?_
        refine lv_iadd hx hb dX9_toldMessage_53 ?_
        refine tp_i (nI ((1383 + 6 * n) + k)) (nI_add (1383 + 6 * n) k) ?_
        refine lv_iconst (v := 2) hx hb dX9_toldMessage_54 (by decide) ?_
        refine lv_isub hx hb dX9_toldMessage_55 ?_
        refine tp_i (nI (((1383 + 6 * n) + k) - 2)) (nI_subN (a := ((1383 + 6 * n) + k)) (b := 2) (by omega)) ?_
        refine ld_i (v := (g857 (((1383 + 6 * n) + k) - 2))) hx hb hN hP 0 rfl (vp_in_nI (n := (((1383 + 6 * n) + k) - 2)) (N := 45783) (by omega) (by omega)) (by rw [(show ((nI (((1383 + 6 * n) + k) - 2)) : Int32).toNatClampNeg = (((1383 + 6 * n) + k) - 2) from nI_clamp (n := (((1383 + 6 * n) + k) - 2)) (by omega))]) dX9_toldMessage_56 ?_
        refine gn_i (fun x862 => ?_)
        exact en_i hx hb hr hlocks hL rfl (Nat.zero_le _) (Nat.zero_le _) dX9_toldMessage_57 (rfl)
      · have c861 : k = 2 := (nI_eq (a := k) (b := 2) (by omega) (by omega)).mp c861
        refine lv_iload_n hx hb dX9_toldMessage_40 rfl (lv_at hl 0 rfl) ?_
        refine lv_bipush (v := 64) hx hb dX9_toldMessage_41 (by decide) ?_
        refine lv_idiv hx hb dX9_toldMessage_43 (by decide) ?_
        refine gn_i (fun x863 => ?_)
        refine lv_goto (tgt := 57) hx hb dX9_toldMessage_44 (by decide) ?_
        exact en_i hx hb hr hlocks hL rfl (Nat.zero_le _) (Nat.zero_le _) dX9_toldMessage_57 (rfl)
    · have c860 : k = 1 := (nI_eq (a := k) (b := 1) (by omega) (by omega)).mp c860
      refine lv_iload_n hx hb dX9_toldMessage_25 rfl (lv_at hl 0 rfl) ?_
      refine lv_bipush (v := 8) hx hb dX9_toldMessage_26 (by decide) ?_
      refine lv_idiv hx hb dX9_toldMessage_28 (by decide) ?_
      refine gn_i (fun x864 => ?_)
      refine lv_bipush (v := 8) hx hb dX9_toldMessage_29 (by decide) ?_
      refine lv_irem hx hb dX9_toldMessage_31 (by decide) ?_
      refine gn_i (fun x865 => ?_)
      refine lv_goto (tgt := 57) hx hb dX9_toldMessage_32 (by decide) ?_
      exact en_i hx hb hr hlocks hL rfl (Nat.zero_le _) (Nat.zero_le _) dX9_toldMessage_57 (rfl)
  · have c859 : k = 0 := (nI_eq (a := k) (b := 0) (by omega) (by omega)).mp c859
    refine lv_iload_n hx hb dX9_toldMessage_13 rfl (lv_at hl 0 rfl) ?_
    refine lv_bipush (v := 8) hx hb dX9_toldMessage_14 (by decide) ?_
    refine lv_irem hx hb dX9_toldMessage_16 (by decide) ?_
    refine gn_i (fun x866 => ?_)
    refine lv_goto (tgt := 57) hx hb dX9_toldMessage_17 (by decide) ?_
    exact en_i hx hb hr hlocks hL rfl (Nat.zero_le _) (Nat.zero_le _) dX9_toldMessage_57 (rfl)
theorem mX9_mayPropose_1 : (.fieldLink RX9 18 "OneBeatModel" "data" "[I" : Cond) ∈ wsX9_mayPropose := List.mem_of_getElem? (i := 1) (by decide +kernel)
theorem iX9_mayPropose_9 : ∀ w ∈ wsX90, w ∈ wsX9_mayPropose := fun w h => List.mem_of_mem_drop (List.mem_of_mem_take ((show wsX90 = (wsX9_mayPropose.drop 18).take 18 by decide +kernel) ▸ h))
set_option maxHeartbeats 4000000 in
set_option maxRecDepth 100000 in
theorem c_X9_mayPropose {l : Launch} {D : va_G} {cs : Nat → ClassId} {B0 T : Nat} {κ : KM} {H0 : Heap} (hT : WT B0 D cs T κ H0) {w : Nat} (hw : T2 κ w 10 12) : KC l yX9_mayPropose wsX9_mayPropose 3 63 0 0 D cs B0 H0 [.ref w] (Qi (fun r H => H = H0 ∧ (r = 0 ∨ r = 1))) := by
  refine KC.of cX9_mayPropose 1 (some .boolean) (by decide) rfl (Nat.le_of_ble_eq_true rfl) ?_
  intro p e s m below meth c ls hx hb hr hml hown hts hlocks hin hN hH0 hl
  have hown : s.vm.findClass RX9 = some m.cls := hown
  have hl : lv_has ls 1 [(0, .ref w)] := hl
  have hL : OkL B0 [] := OkL.nil
  refine lv_aload_n hx hb dX9_mayPropose_0 rfl (lv_at hl 0 rfl) ?_
  refine lv_aload_n hx hb dX9_mayPropose_1 rfl (lv_at hl 0 rfl) ?_
  obtain ⟨hb867, e867, hat867, hk867⟩ := hT.o10 hw.1
  obtain ⟨f867_0, f867_1, f867_3, f867_4, f867_5, f867_6, f867_7, f867_8, f867_9, f867_10, f867_11, f867_12, f867_13, f867_14, f867_15, f867_16, f867_17, rfl, c867_2, c867_3, c867_4, c867_12, t867_1, t867_8, t867_9, c867_sd, t867_10, t867_11, t867_17⟩ := hk867
  have hP : va_P D vwCl [(w, .inr (9, [.int f867_0, .ref f867_1, .int (nI ((κ w).2.2.1)), .int (nI f867_3), .int (nI f867_4), .int f867_5, .int f867_6, .int f867_7, .ref f867_8, .ref f867_9, .ref f867_10, .ref f867_11, .int (nI f867_12), .int f867_13, .int f867_14, .int f867_15, .int f867_16, .ref f867_17]))] _ := va_P.cons hat867 va_P.nil
  refine va_get (D := D) (ci := 9) (v := .ref f867_8) (C := RX9) (T := TX9) (N := 18) hx hb hts iX9_mayPropose_9 hown hN.1 hP 0 rfl rfl 8 (by decide) (hts _ mX9_mayPropose_1) (fun _ h9 => h9) rfl dX9_mayPropose_2 ?_
  refine lv_iconst (v := 2) hx hb dX9_mayPropose_5 (by decide) ?_
  obtain ⟨hb868, e868, hat868, hk868⟩ := hT.o24 t867_8.1
  obtain ⟨g868, rfl, q868⟩ := hk868
  have hP : va_P D vwCl [(f867_8, .inl (cs 0, 45783, .inl g868)), (w, .inr (9, [.int f867_0, .ref f867_1, .int (nI ((κ w).2.2.1)), .int (nI f867_3), .int (nI f867_4), .int f867_5, .int f867_6, .int f867_7, .ref f867_8, .ref f867_9, .ref f867_10, .ref f867_11, .int (nI f867_12), .int f867_13, .int f867_14, .int f867_15, .int f867_16, .ref f867_17]))] _ := va_P.cons hat868 hP
  refine ld_i (v := (g868 2)) hx hb hN hP 0 rfl (vp_in_nI (n := 2) (N := 45783) (by omega) (by omega)) (by rw [(show (2 : Int32).toNatClampNeg = 2 from nI_clamp (n := 2) (by omega))]) dX9_mayPropose_6 ?_
  obtain ⟨n869, hn869, en869⟩ := q868.2.2.1
  refine tp_i (nI n869) en869 ?_
  refine cv_i (As := [.int (nI n869)]) (rest := []) (b := w) ⟨hx, hb, hml, hown, hts⟩ (c_X9_isUp hT (w := w) hw (n := n869) (by first | omega | decide | assumption)) (cwV 1 hts gX9_mayPropose_X9_isUp rfl rfl rfl hdX9_isUp_v ⟨Nat.le_of_ble_eq_true rfl, Nat.le_of_ble_eq_true rfl⟩) hN hL (rcv10 hN hT hw.1) rfl rfl hl.1 (Nat.le_of_ble_eq_true rfl) dX9_mayPropose_7 (Nat.zero_le _) (Nat.zero_le _) (fun r870 H1 locs hL hqr870 => ?_)
  obtain ⟨h9, hqr870⟩ := hqr870; replace h9 := h9.symm; subst h9
  rcases hqr870 with rfl | rfl
  · refine lv_if_eq (tgt := 24) hx hb dX9_mayPropose_10 (by decide) (fun _ => ?_) (fun c9 => absurd (by decide) c9)
    refine lv_iconst (v := 0) hx hb dX9_mayPropose_24 (by decide) ?_
    exact en_i hx hb hr hlocks hL rfl (Nat.zero_le _) (Nat.zero_le _) dX9_mayPropose_25 (⟨rfl, Or.inl rfl⟩)
  · refine lv_if_eq (tgt := 24) hx hb dX9_mayPropose_10 (by decide) (fun c9 => absurd c9 (by decide)) (fun _ => ?_)
    refine lv_aload_n hx hb dX9_mayPropose_13 rfl (lv_at hl 0 rfl) ?_
    refine cv_i (As := []) (rest := []) (b := w) ⟨hx, hb, hml, hown, hts⟩ (c_X9_isOpen hT (w := w) hw) (cwV 0 hts gX9_mayPropose_X9_isOpen rfl rfl rfl hdX9_isOpen_v ⟨Nat.le_of_ble_eq_true rfl, Nat.le_of_ble_eq_true rfl⟩) hN hL (rcv10 hN hT hw.1) rfl rfl hl.1 (Nat.le_of_ble_eq_true rfl) dX9_mayPropose_14 (Nat.zero_le _) (Nat.zero_le _) (fun r871 H1 locs hL hqr871 => ?_)
    obtain ⟨h9, hqr871⟩ := hqr871; replace h9 := h9.symm; subst h9
    rcases hqr871 with rfl | rfl
    · refine lv_if_ne (tgt := 24) hx hb dX9_mayPropose_17 (by decide) (fun c9 => absurd (by decide) c9) (fun _ => ?_)
      refine lv_iconst (v := 1) hx hb dX9_mayPropose_20 (by decide) ?_
      refine lv_goto (tgt := 25) hx hb dX9_mayPropose_21 (by decide) ?_
      exact en_i hx hb hr hlocks hL rfl (Nat.zero_le _) (Nat.zero_le _) dX9_mayPropose_25 (⟨rfl, Or.inr rfl⟩)
    · refine lv_if_ne (tgt := 24) hx hb dX9_mayPropose_17 (by decide) (fun _ => ?_) (fun c9 => absurd c9 (by decide))
      refine lv_iconst (v := 0) hx hb dX9_mayPropose_24 (by decide) ?_
      exact en_i hx hb hr hlocks hL rfl (Nat.zero_le _) (Nat.zero_le _) dX9_mayPropose_25 (⟨rfl, Or.inl rfl⟩)
