set_option maxHeartbeats 4000000 in
set_option maxRecDepth 100000 in
theorem c_X9_change {l : Launch} {D : va_G} {cs : Nat → ClassId} {B0 T : Nat} {κ : KM} {H0 : Heap} (hT : WT B0 D cs T κ H0) {w : Nat} (hw : T2 κ w 10 12) {n : Nat} (hn : n < 8) : KC l yX9_change wsX9_change 4 84 0 0 D cs B0 H0 [.ref w, .int (nI n)] (Qv (fun H => WT B0 D cs T κ H ∧ Fr B0 [12] κ H0 H)) := by
  refine KC.of cX9_change 3 none (by decide) rfl (Nat.le_of_ble_eq_true rfl) ?_
  intro p e s m below meth c ls hx hb hr hml hown hts hlocks hin hN hH0 hl
  have hown : s.vm.findClass RX9 = some m.cls := hown
  have hl : lv_has ls 3 [(0, .ref w), (1, .int (nI n))] := hl
  have hL : OkL B0 [] := OkL.nil
  have hF : Fr B0 [12] κ H0 H0 := Fr.rf
  refine lv_aload_n hx hb dX9_change_0 rfl (lv_at hl 0 rfl) ?_
  refine lv_iload_n hx hb dX9_change_1 rfl (lv_at hl 1 rfl) ?_
  refine cv_i (As := [.int (nI n)]) (rest := []) (b := w) ⟨hx, hb, hml, hown, hts⟩ (c_X9_estimate hT (w := w) hw (n := n) (by first | omega | decide | assumption)) (cwV 1 hts gX9_change_X9_estimate rfl rfl rfl hdX9_estimate_v ⟨Nat.le_of_ble_eq_true rfl, Nat.le_of_ble_eq_true rfl⟩) hN hL (rcv10 hN hT hw.1) rfl rfl hl.1 (Nat.le_of_ble_eq_true rfl) dX9_change_2 (Nat.zero_le _) (Nat.zero_le _) (fun r565 H1 locs hL hqr565 => ?_)
  obtain rfl := hqr565
  refine lv_aload_n hx hb dX9_change_5 rfl (lv_at hl 0 rfl) ?_
  refine lv_iload_n hx hb dX9_change_6 rfl (lv_at hl 1 rfl) ?_
  refine lv_bipush (v := 8) hx hb dX9_change_7 (by decide) ?_
  refine cv_i (As := [.int (nI n), .int 8]) (rest := [.int r565]) (b := w) ⟨hx, hb, hml, hown, hts⟩ (c_X9_of hT (w := w) hw (n := n) (k := 8) (by first | omega | decide | assumption) (by first | omega | decide | assumption)) (cwV 2 hts gX9_change_X9_of rfl rfl rfl hdX9_of_v ⟨Nat.le_of_ble_eq_true rfl, Nat.le_of_ble_eq_true rfl⟩) hN hL (rcv10 hN hT hw.1) rfl rfl hl.1 (Nat.le_of_ble_eq_true rfl) dX9_change_9 (Nat.zero_le _) (Nat.zero_le _) (fun r566 H1 locs hL hqr566 => ?_)
  obtain rfl := hqr566
  refine lv_icmp_le (tgt := 19) hx hb dX9_change_12 (by decide) (fun c567 => ?_) (fun c567 => ?_)
  · refine lv_iconst (v := 0) hx hb dX9_change_19 (by decide) ?_
    refine lv_istore_n (lv' := [(2, .int 0), (0, .ref w), (1, .int (nI n))]) hx hb dX9_change_20 rfl hl (by decide) rfl (fun ls hl => ?_)
    refine lv_aload_n hx hb dX9_change_21 rfl (lv_at hl 1 rfl) ?_
    refine lv_iload_n hx hb dX9_change_22 rfl (lv_at hl 2 rfl) ?_
    refine lv_bipush (v := 6) hx hb dX9_change_23 (by decide) ?_
    refine cv_i (As := [.int (nI n), .int 6]) (rest := []) (b := w) ⟨hx, hb, hml, hown, hts⟩ (c_X9_of hT (w := w) hw (n := n) (k := 6) (by first | omega | decide | assumption) (by first | omega | decide | assumption)) (cwV 2 hts gX9_change_X9_of rfl rfl rfl hdX9_of_v ⟨Nat.le_of_ble_eq_true rfl, Nat.le_of_ble_eq_true rfl⟩) hN hL (rcv10 hN hT hw.1) rfl rfl hl.1 (Nat.le_of_ble_eq_true rfl) dX9_change_25 (Nat.zero_le _) (Nat.zero_le _) (fun r568 H1 locs hL hqr568 => ?_)
    obtain rfl := hqr568
    refine lv_aload_n hx hb dX9_change_28 rfl (lv_at hl 1 rfl) ?_
    obtain ⟨hb569, e569, hat569, hk569⟩ := hT.o10 hw.1
    obtain ⟨f569_0, f569_1, f569_3, f569_4, f569_5, f569_6, f569_7, f569_8, f569_9, f569_10, f569_11, f569_12, f569_13, f569_14, f569_15, f569_16, f569_17, rfl, c569_2, c569_3, c569_4, c569_12, t569_1, t569_8, t569_9, c569_sd, t569_10, t569_11, t569_17⟩ := hk569
    have hP : va_P D vwCl [(w, .inr (9, [.int f569_0, .ref f569_1, .int (nI ((κ w).2.2.1)), .int (nI f569_3), .int (nI f569_4), .int f569_5, .int f569_6, .int f569_7, .ref f569_8, .ref f569_9, .ref f569_10, .ref f569_11, .int (nI f569_12), .int f569_13, .int f569_14, .int f569_15, .int f569_16, .ref f569_17]))] _ := va_P.cons hat569 va_P.nil
    refine va_get (D := D) (ci := 9) (v := .ref f569_8) (C := RX9) (T := TX9) (N := 18) hx hb hts iX9_change_9 hown hN.1 hP 0 rfl rfl 8 (by decide) (hts _ mX9_change_1) (fun _ h9 => h9) rfl dX9_change_29 ?_
    refine lv_bipush (v := 6) hx hb dX9_change_32 (by decide) ?_
    obtain ⟨hb570, e570, hat570, hk570⟩ := hT.o24 t569_8.1
    obtain ⟨g570, rfl, q570⟩ := hk570
    have hP : va_P D vwCl [(f569_8, .inl (cs 0, 45783, .inl g570)), (w, .inr (9, [.int f569_0, .ref f569_1, .int (nI ((κ w).2.2.1)), .int (nI f569_3), .int (nI f569_4), .int f569_5, .int f569_6, .int f569_7, .ref f569_8, .ref f569_9, .ref f569_10, .ref f569_11, .int (nI f569_12), .int f569_13, .int f569_14, .int f569_15, .int f569_16, .ref f569_17]))] _ := va_P.cons hat570 hP
    refine ld_i (v := (g570 6)) hx hb hN hP 0 rfl (vp_in_nI (n := 6) (N := 45783) (by omega) (by omega)) (by rw [(show (6 : Int32).toNatClampNeg = 6 from nI_clamp (n := 6) (by omega))]) dX9_change_34 ?_
    refine gn_i (fun x571 => ?_)
    refine lv_iconst (v := 1) hx hb dX9_change_35 (by decide) ?_
    refine lv_isub hx hb dX9_change_36 ?_
    refine gn_i (fun x572 => ?_)
    refine lv_icmp_ne (tgt := 87) hx hb dX9_change_37 (by decide) (fun c573 => ?_) (fun c573 => ?_)
    · refine lv_aload_n hx hb dX9_change_87 rfl (lv_at hl 1 rfl) ?_
      refine lv_iload_n hx hb dX9_change_88 rfl (lv_at hl 2 rfl) ?_
      refine lv_iconst (v := 4) hx hb dX9_change_89 (by decide) ?_
      refine lv_aload_n hx hb dX9_change_90 rfl (lv_at hl 1 rfl) ?_
      refine lv_iload_n hx hb dX9_change_91 rfl (lv_at hl 2 rfl) ?_
      refine lv_bipush (v := 7) hx hb dX9_change_92 (by decide) ?_
      refine cv_i (As := [.int (nI n), .int 7]) (rest := [.int 4, .int (nI n), .ref w]) (b := w) ⟨hx, hb, hml, hown, hts⟩ (c_X9_of hT (w := w) hw (n := n) (k := 7) (by first | omega | decide | assumption) (by first | omega | decide | assumption)) (cwV 2 hts gX9_change_X9_of rfl rfl rfl hdX9_of_v ⟨Nat.le_of_ble_eq_true rfl, Nat.le_of_ble_eq_true rfl⟩) hN hL (rcv10 hN hT hw.1) rfl rfl hl.1 (Nat.le_of_ble_eq_true rfl) dX9_change_94 (Nat.zero_le _) (Nat.zero_le _) (fun r574 H1 locs hL hqr574 => ?_)
      obtain rfl := hqr574
      refine cv_v (As := [.int (nI n), .int 4, .int r574]) (rest := []) (b := w) ⟨hx, hb, hml, hown, hts⟩ (c_X9_set hT (w := w) hw (n := n) (k := 4) (x := r574) (by first | omega | decide | assumption) (by first | omega | decide | assumption)) (cwV 3 hts gX9_change_X9_set rfl rfl rfl hdX9_set_v ⟨Nat.le_of_ble_eq_true rfl, Nat.le_of_ble_eq_true rfl⟩) hN hL (rcv10 hN hT hw.1) rfl rfl hl.1 (Nat.le_of_ble_eq_true rfl) dX9_change_97 (Nat.zero_le _) (Nat.zero_le _) (fun H1 locs hL hqr575 => ?_)
      obtain ⟨hT1, hF1⟩ := hqr575
      have hF := hF.tr (hF1.mono (by simp))
      have hT := hT1
      refine lv_aload_n hx hb dX9_change_100 rfl (lv_at hl 1 rfl) ?_
      refine lv_iload_n hx hb dX9_change_101 rfl (lv_at hl 2 rfl) ?_
      refine lv_bipush (v := 9) hx hb dX9_change_102 (by decide) ?_
      refine lv_aload_n hx hb dX9_change_104 rfl (lv_at hl 1 rfl) ?_
      refine lv_iload_n hx hb dX9_change_105 rfl (lv_at hl 2 rfl) ?_
      refine lv_bipush (v := 9) hx hb dX9_change_106 (by decide) ?_
      refine cv_i (As := [.int (nI n), .int 9]) (rest := [.int 9, .int (nI n), .ref w]) (b := w) ⟨hx, hb, hml, hown, hts⟩ (c_X9_of hT (w := w) hw (n := n) (k := 9) (by first | omega | decide | assumption) (by first | omega | decide | assumption)) (cwV 2 hts gX9_change_X9_of rfl rfl rfl hdX9_of_v ⟨Nat.le_of_ble_eq_true rfl, Nat.le_of_ble_eq_true rfl⟩) hN hL (rcv10 hN hT hw.1) rfl rfl hl.1 (Nat.le_of_ble_eq_true rfl) dX9_change_108 (Nat.zero_le _) (Nat.zero_le _) (fun r576 H1 locs hL hqr576 => ?_)
      obtain rfl := hqr576
      refine lv_iconst (v := 1) hx hb dX9_change_111 (by decide) ?_
      refine lv_iadd hx hb dX9_change_112 ?_
      refine gn_i (fun x577 => ?_)
      refine cv_v (As := [.int (nI n), .int 9, .int x577]) (rest := []) (b := w) ⟨hx, hb, hml, hown, hts⟩ (c_X9_set hT (w := w) hw (n := n) (k := 9) (x := x577) (by first | omega | decide | assumption) (by first | omega | decide | assumption)) (cwV 3 hts gX9_change_X9_set rfl rfl rfl hdX9_set_v ⟨Nat.le_of_ble_eq_true rfl, Nat.le_of_ble_eq_true rfl⟩) hN hL (rcv10 hN hT hw.1) rfl rfl hl.1 (Nat.le_of_ble_eq_true rfl) dX9_change_113 (Nat.zero_le _) (Nat.zero_le _) (fun H1 locs hL hqr578 => ?_)
      obtain ⟨hT1, hF1⟩ := hqr578
      have hF := hF.tr (hF1.mono (by simp))
      have hT := hT1
      refine lv_aload_n hx hb dX9_change_116 rfl (lv_at hl 1 rfl) ?_
      refine lv_iload_n hx hb dX9_change_117 rfl (lv_at hl 2 rfl) ?_
      refine lv_bipush (v := 10) hx hb dX9_change_118 (by decide) ?_
      refine lv_aload_n hx hb dX9_change_120 rfl (lv_at hl 1 rfl) ?_
      refine lv_iload_n hx hb dX9_change_121 rfl (lv_at hl 2 rfl) ?_
      refine lv_bipush (v := 10) hx hb dX9_change_122 (by decide) ?_
      refine cv_i (As := [.int (nI n), .int 10]) (rest := [.int 10, .int (nI n), .ref w]) (b := w) ⟨hx, hb, hml, hown, hts⟩ (c_X9_of hT (w := w) hw (n := n) (k := 10) (by first | omega | decide | assumption) (by first | omega | decide | assumption)) (cwV 2 hts gX9_change_X9_of rfl rfl rfl hdX9_of_v ⟨Nat.le_of_ble_eq_true rfl, Nat.le_of_ble_eq_true rfl⟩) hN hL (rcv10 hN hT hw.1) rfl rfl hl.1 (Nat.le_of_ble_eq_true rfl) dX9_change_124 (Nat.zero_le _) (Nat.zero_le _) (fun r579 H1 locs hL hqr579 => ?_)
      obtain rfl := hqr579
      refine lv_iload_n hx hb dX9_change_127 rfl (lv_at hl 0 rfl) ?_
      refine lv_iadd hx hb dX9_change_128 ?_
      refine gn_i (fun x580 => ?_)
      refine cv_v (As := [.int (nI n), .int 10, .int x580]) (rest := []) (b := w) ⟨hx, hb, hml, hown, hts⟩ (c_X9_set hT (w := w) hw (n := n) (k := 10) (x := x580) (by first | omega | decide | assumption) (by first | omega | decide | assumption)) (cwV 3 hts gX9_change_X9_set rfl rfl rfl hdX9_set_v ⟨Nat.le_of_ble_eq_true rfl, Nat.le_of_ble_eq_true rfl⟩) hN hL (rcv10 hN hT hw.1) rfl rfl hl.1 (Nat.le_of_ble_eq_true rfl) dX9_change_129 (Nat.zero_le _) (Nat.zero_le _) (fun H1 locs hL hqr581 => ?_)
      obtain ⟨hT1, hF1⟩ := hqr581
      have hF := hF.tr (hF1.mono (by simp))
      have hT := hT1
      refine lv_aload_n hx hb dX9_change_132 rfl (lv_at hl 1 rfl) ?_
      refine lv_iload_n hx hb dX9_change_133 rfl (lv_at hl 2 rfl) ?_
      refine lv_bipush (v := 11) hx hb dX9_change_134 (by decide) ?_
      refine lv_aload_n hx hb dX9_change_136 rfl (lv_at hl 1 rfl) ?_
      obtain ⟨hb582, e582, hat582, hk582⟩ := hT.o10 hw.1
      obtain ⟨f582_0, f582_1, f582_3, f582_4, f582_5, f582_6, f582_7, f582_8, f582_9, f582_10, f582_11, f582_12, f582_13, f582_14, f582_15, f582_16, f582_17, rfl, c582_2, c582_3, c582_4, c582_12, t582_1, t582_8, t582_9, c582_sd, t582_10, t582_11, t582_17⟩ := hk582
      have hP : va_P D vwCl [(w, .inr (9, [.int f582_0, .ref f582_1, .int (nI ((κ w).2.2.1)), .int (nI f582_3), .int (nI f582_4), .int f582_5, .int f582_6, .int f582_7, .ref f582_8, .ref f582_9, .ref f582_10, .ref f582_11, .int (nI f582_12), .int f582_13, .int f582_14, .int f582_15, .int f582_16, .ref f582_17]))] _ := va_P.cons hat582 va_P.nil
      refine va_get (D := D) (ci := 9) (v := .ref f582_8) (C := RX9) (T := TX9) (N := 18) hx hb hts iX9_change_9 hown hN.1 hP 0 rfl rfl 8 (by decide) (hts _ mX9_change_1) (fun _ h9 => h9) rfl dX9_change_137 ?_
      refine lv_iconst (v := 1) hx hb dX9_change_140 (by decide) ?_
      obtain ⟨hb583, e583, hat583, hk583⟩ := hT.o24 t582_8.1
      obtain ⟨g583, rfl, q583⟩ := hk583
      have hP : va_P D vwCl [(f582_8, .inl (cs 0, 45783, .inl g583)), (w, .inr (9, [.int f582_0, .ref f582_1, .int (nI ((κ w).2.2.1)), .int (nI f582_3), .int (nI f582_4), .int f582_5, .int f582_6, .int f582_7, .ref f582_8, .ref f582_9, .ref f582_10, .ref f582_11, .int (nI f582_12), .int f582_13, .int f582_14, .int f582_15, .int f582_16, .ref f582_17]))] _ := va_P.cons hat583 hP
      refine ld_i (v := (g583 1)) hx hb hN hP 0 rfl (vp_in_nI (n := 1) (N := 45783) (by omega) (by omega)) (by rw [(show (1 : Int32).toNatClampNeg = 1 from nI_clamp (n := 1) (by omega))]) dX9_change_141 ?_
      refine gn_i (fun x584 => ?_)
      refine cv_v (As := [.int (nI n), .int 11, .int x584]) (rest := []) (b := w) ⟨hx, hb, hml, hown, hts⟩ (c_X9_set hT (w := w) hw (n := n) (k := 11) (x := x584) (by first | omega | decide | assumption) (by first | omega | decide | assumption)) (cwV 3 hts gX9_change_X9_set rfl rfl rfl hdX9_set_v ⟨Nat.le_of_ble_eq_true rfl, Nat.le_of_ble_eq_true rfl⟩) hN hL (rcv10 hN hT hw.1) rfl rfl hl.1 (Nat.le_of_ble_eq_true rfl) dX9_change_142 (Nat.zero_le _) (Nat.zero_le _) (fun H1 locs hL hqr585 => ?_)
      obtain ⟨hT1, hF1⟩ := hqr585
      have hF := hF.tr (hF1.mono (by simp))
      have hT := hT1
      refine lv_aload_n hx hb dX9_change_145 rfl (lv_at hl 1 rfl) ?_
      refine lv_iload_n hx hb dX9_change_146 rfl (lv_at hl 2 rfl) ?_
      refine cv_v (As := [.int (nI n)]) (rest := []) (b := w) ⟨hx, hb, hml, hown, hts⟩ (c_X9_dropPlan hT (w := w) hw (n := n) (by first | omega | decide | assumption)) (cwV 1 hts gX9_change_X9_dropPlan rfl rfl rfl hdX9_dropPlan_v ⟨Nat.le_of_ble_eq_true rfl, Nat.le_of_ble_eq_true rfl⟩) hN hL (rcv10 hN hT hw.1) rfl rfl hl.1 (Nat.le_of_ble_eq_true rfl) dX9_change_147 (Nat.zero_le _) (Nat.zero_le _) (fun H1 locs hL hqr586 => ?_)
      obtain ⟨hT1, hF1⟩ := hqr586
      have hF := hF.tr (hF1.mono (by simp))
      have hT := hT1
      refine lv_aload_n hx hb dX9_change_150 rfl (lv_at hl 1 rfl) ?_
      obtain ⟨hb587, e587, hat587, hk587⟩ := hT.o10 hw.1
      obtain ⟨f587_0, f587_1, f587_3, f587_4, f587_5, f587_6, f587_7, f587_8, f587_9, f587_10, f587_11, f587_12, f587_13, f587_14, f587_15, f587_16, f587_17, rfl, c587_2, c587_3, c587_4, c587_12, t587_1, t587_8, t587_9, c587_sd, t587_10, t587_11, t587_17⟩ := hk587
      have hP : va_P D vwCl [(w, .inr (9, [.int f587_0, .ref f587_1, .int (nI ((κ w).2.2.1)), .int (nI f587_3), .int (nI f587_4), .int f587_5, .int f587_6, .int f587_7, .ref f587_8, .ref f587_9, .ref f587_10, .ref f587_11, .int (nI f587_12), .int f587_13, .int f587_14, .int f587_15, .int f587_16, .ref f587_17]))] _ := va_P.cons hat587 va_P.nil
      refine va_get (D := D) (ci := 9) (v := .ref f587_8) (C := RX9) (T := TX9) (N := 18) hx hb hts iX9_change_9 hown hN.1 hP 0 rfl rfl 8 (by decide) (hts _ mX9_change_1) (fun _ h9 => h9) rfl dX9_change_151 ?_
      refine lv_bipush (v := 9) hx hb dX9_change_154 (by decide) ?_
      refine lv_dup2_11 hx hb dX9_change_156 rfl rfl ?_
      obtain ⟨hb588, e588, hat588, hk588⟩ := hT.o24 t587_8.1
      obtain ⟨g588, rfl, q588⟩ := hk588
      have hP : va_P D vwCl [(f587_8, .inl (cs 0, 45783, .inl g588)), (w, .inr (9, [.int f587_0, .ref f587_1, .int (nI ((κ w).2.2.1)), .int (nI f587_3), .int (nI f587_4), .int f587_5, .int f587_6, .int f587_7, .ref f587_8, .ref f587_9, .ref f587_10, .ref f587_11, .int (nI f587_12), .int f587_13, .int f587_14, .int f587_15, .int f587_16, .ref f587_17]))] _ := va_P.cons hat588 hP
      refine ld_i (v := (g588 9)) hx hb hN hP 0 rfl (vp_in_nI (n := 9) (N := 45783) (by omega) (by omega)) (by rw [(show (9 : Int32).toNatClampNeg = 9 from nI_clamp (n := 9) (by omega))]) dX9_change_157 ?_
      refine gn_i (fun x589 => ?_)
      refine lv_iconst (v := 1) hx hb dX9_change_158 (by decide) ?_
      refine lv_iadd hx hb dX9_change_159 ?_
      refine gn_i (fun x590 => ?_)
      have hB : Bx B0 D _ [(f587_8, .inl (cs 0, 45783, .inl g588)), (w, .inr (9, [.int f587_0, .ref f587_1, .int (nI ((κ w).2.2.1)), .int (nI f587_3), .int (nI f587_4), .int f587_5, .int f587_6, .int f587_7, .ref f587_8, .ref f587_9, .ref f587_10, .ref f587_11, .int (nI f587_12), .int f587_13, .int f587_14, .int f587_15, .int f587_16, .ref f587_17]))] [] _ _ := Bx.of (fun a => (κ a).1) hL hP (fa_c hb588 (fa_c hb587 fa_n)) (by simp only [List.map_cons, List.map_nil, t587_8.1, hw.1]; decide)
      refine b_i hx hb hN hB 0 rfl (vp_in_nI (n := 9) (N := 45783) (by omega) (by omega)) (.inl rfl) dX9_change_160 (fun H locs hB => ?_)
      rw [(show (9 : Int32).toNatClampNeg = 9 from nI_clamp (n := 9) (by omega))] at hB
      have hB : Bx B0 D _ [(f587_8, .inl (cs 0, 45783, .inl (upd g588 9 x590))), (w, .inr (9, [.int f587_0, .ref f587_1, .int (nI ((κ w).2.2.1)), .int (nI f587_3), .int (nI f587_4), .int f587_5, .int f587_6, .int f587_7, .ref f587_8, .ref f587_9, .ref f587_10, .ref f587_11, .int (nI f587_12), .int f587_13, .int f587_14, .int f587_15, .int f587_16, .ref f587_17]))] [f587_8] _ _ := hB
      have z591 := DOK.sf q588 (k := 9) (by omega) (x := x590)
      refine lv_aload_n hx hb dX9_change_161 rfl (lv_at hl 1 rfl) ?_
      refine va_get (D := D) (ci := 9) (v := .ref f587_8) (C := RX9) (T := TX9) (N := 18) hx hb hts iX9_change_9 hown hN.1 hB.1 1 rfl rfl 8 (by decide) (hts _ mX9_change_1) (fun _ h9 => h9) rfl dX9_change_162 ?_
      refine lv_bipush (v := 10) hx hb dX9_change_165 (by decide) ?_
      refine lv_dup2_11 hx hb dX9_change_167 rfl rfl ?_
      refine ld_i (v := ((upd g588 9 x590) 10)) hx hb hN hB.1 0 rfl (vp_in_nI (n := 10) (N := 45783) (by omega) (by omega)) (by rw [(show (10 : Int32).toNatClampNeg = 10 from nI_clamp (n := 10) (by omega))]) dX9_change_168 ?_
      refine gn_i (fun x592 => ?_)
      refine lv_iload_n hx hb dX9_change_169 rfl (lv_at hl 0 rfl) ?_
      refine lv_iadd hx hb dX9_change_170 ?_
      refine gn_i (fun x593 => ?_)
      refine b_i hx hb hN hB 0 rfl (vp_in_nI (n := 10) (N := 45783) (by omega) (by omega)) (.inr ⟨rfl, List.mem_of_getElem? (i := 0) rfl⟩) dX9_change_171 (fun H locs hB => ?_)
      rw [(show (10 : Int32).toNatClampNeg = 10 from nI_clamp (n := 10) (by omega))] at hB
      have hB : Bx B0 D _ [(f587_8, .inl (cs 0, 45783, .inl (upd (upd g588 9 x590) 10 x593))), (w, .inr (9, [.int f587_0, .ref f587_1, .int (nI ((κ w).2.2.1)), .int (nI f587_3), .int (nI f587_4), .int f587_5, .int f587_6, .int f587_7, .ref f587_8, .ref f587_9, .ref f587_10, .ref f587_11, .int (nI f587_12), .int f587_13, .int f587_14, .int f587_15, .int f587_16, .ref f587_17]))] [f587_8] _ _ := hB
      have z594 := DOK.sf z591 (k := 10) (by omega) (x := x593)
      have hT : WT B0 D cs T κ _ := hT.close hB ⟨⟨0, _, rfl, ok_24 t587_8.1 ⟨_, rfl, z594⟩⟩, trivial⟩
      have hF : Fr B0 [12] κ H0 _ := hF.close hB (fa_c (by simp [t587_8.2]) fa_n)
      have hL : OkL B0 _ := hB.2.2.2.2.2
      have hP : va_P D vwCl [(f587_8, .inl (cs 0, 45783, .inl (upd (upd g588 9 x590) 10 x593))), (w, .inr (9, [.int f587_0, .ref f587_1, .int (nI ((κ w).2.2.1)), .int (nI f587_3), .int (nI f587_4), .int f587_5, .int f587_6, .int f587_7, .ref f587_8, .ref f587_9, .ref f587_10, .ref f587_11, .int (nI f587_12), .int f587_13, .int f587_14, .int f587_15, .int f587_16, .ref f587_17]))] _ := hB.1
      exact en_v hx hb hr hlocks hL (Nat.zero_le _) (Nat.zero_le _) dX9_change_172 (⟨hT, hF⟩)
    · refine lv_aload_n hx hb dX9_change_40 rfl (lv_at hl 1 rfl) ?_
      refine va_get (D := D) (ci := 9) (v := .ref f569_8) (C := RX9) (T := TX9) (N := 18) hx hb hts iX9_change_9 hown hN.1 hP 1 rfl rfl 8 (by decide) (hts _ mX9_change_1) (fun _ h9 => h9) rfl dX9_change_41 ?_
      refine lv_bipush (v := 21) hx hb dX9_change_44 (by decide) ?_
      refine lv_aload_n hx hb dX9_change_46 rfl (lv_at hl 1 rfl) ?_
      refine va_get (D := D) (ci := 9) (v := .ref f569_8) (C := RX9) (T := TX9) (N := 18) hx hb hts iX9_change_9 hown hN.1 hP 1 rfl rfl 8 (by decide) (hts _ mX9_change_1) (fun _ h9 => h9) rfl dX9_change_47 ?_
      refine lv_bipush (v := 21) hx hb dX9_change_50 (by decide) ?_
      refine ld_i (v := (g570 21)) hx hb hN hP 0 rfl (vp_in_nI (n := 21) (N := 45783) (by omega) (by omega)) (by rw [(show (21 : Int32).toNatClampNeg = 21 from nI_clamp (n := 21) (by omega))]) dX9_change_52 ?_
      refine gn_i (fun x595 => ?_)
      refine lv_iconst (v := (-1)) hx hb dX9_change_53 (by decide) ?_
      refine lv_icmp_ne (tgt := 66) hx hb dX9_change_54 (by decide) (fun c596 => ?_) (fun c596 => ?_)
      · refine lv_aload_n hx hb dX9_change_66 rfl (lv_at hl 1 rfl) ?_
        refine va_get (D := D) (ci := 9) (v := .ref f569_8) (C := RX9) (T := TX9) (N := 18) hx hb hts iX9_change_9 hown hN.1 hP 1 rfl rfl 8 (by decide) (hts _ mX9_change_1) (fun _ h9 => h9) rfl dX9_change_67 ?_
        refine lv_bipush (v := 21) hx hb dX9_change_70 (by decide) ?_
        refine ld_i (v := (g570 21)) hx hb hN hP 0 rfl (vp_in_nI (n := 21) (N := 45783) (by omega) (by omega)) (by rw [(show (21 : Int32).toNatClampNeg = 21 from nI_clamp (n := 21) (by omega))]) dX9_change_72 ?_
        refine gn_i (fun x597 => ?_)
        have hB : Bx B0 D _ [(f569_8, .inl (cs 0, 45783, .inl g570)), (w, .inr (9, [.int f569_0, .ref f569_1, .int (nI ((κ w).2.2.1)), .int (nI f569_3), .int (nI f569_4), .int f569_5, .int f569_6, .int f569_7, .ref f569_8, .ref f569_9, .ref f569_10, .ref f569_11, .int (nI f569_12), .int f569_13, .int f569_14, .int f569_15, .int f569_16, .ref f569_17]))] [] _ _ := Bx.of (fun a => (κ a).1) hL hP (fa_c hb570 (fa_c hb569 fa_n)) (by simp only [List.map_cons, List.map_nil, t569_8.1, hw.1]; decide)
        refine b_i hx hb hN hB 0 rfl (vp_in_nI (n := 21) (N := 45783) (by omega) (by omega)) (.inl rfl) dX9_change_73 (fun H locs hB => ?_)
        rw [(show (21 : Int32).toNatClampNeg = 21 from nI_clamp (n := 21) (by omega))] at hB
        have hB : Bx B0 D _ [(f569_8, .inl (cs 0, 45783, .inl (upd g570 21 x597))), (w, .inr (9, [.int f569_0, .ref f569_1, .int (nI ((κ w).2.2.1)), .int (nI f569_3), .int (nI f569_4), .int f569_5, .int f569_6, .int f569_7, .ref f569_8, .ref f569_9, .ref f569_10, .ref f569_11, .int (nI f569_12), .int f569_13, .int f569_14, .int f569_15, .int f569_16, .ref f569_17]))] [f569_8] _ _ := hB
        have z598 := DOK.sf q570 (k := 21) (by omega) (x := x597)
        refine lv_aload_n hx hb dX9_change_74 rfl (lv_at hl 1 rfl) ?_
        refine va_get (D := D) (ci := 9) (v := .ref f569_8) (C := RX9) (T := TX9) (N := 18) hx hb hts iX9_change_9 hown hN.1 hB.1 1 rfl rfl 8 (by decide) (hts _ mX9_change_1) (fun _ h9 => h9) rfl dX9_change_75 ?_
        refine lv_bipush (v := 22) hx hb dX9_change_78 (by decide) ?_
        refine lv_aload_n hx hb dX9_change_80 rfl (lv_at hl 1 rfl) ?_
        refine va_get (D := D) (ci := 9) (v := .ref f569_8) (C := RX9) (T := TX9) (N := 18) hx hb hts iX9_change_9 hown hN.1 hB.1 1 rfl rfl 8 (by decide) (hts _ mX9_change_1) (fun _ h9 => h9) rfl dX9_change_81 ?_
        refine lv_iconst (v := 1) hx hb dX9_change_84 (by decide) ?_
        refine ld_i (v := ((upd g570 21 x597) 1)) hx hb hN hB.1 0 rfl (vp_in_nI (n := 1) (N := 45783) (by omega) (by omega)) (by rw [(show (1 : Int32).toNatClampNeg = 1 from nI_clamp (n := 1) (by omega))]) dX9_change_85 ?_
        refine gn_i (fun x599 => ?_)
        refine b_i hx hb hN hB 0 rfl (vp_in_nI (n := 22) (N := 45783) (by omega) (by omega)) (.inr ⟨rfl, List.mem_of_getElem? (i := 0) rfl⟩) dX9_change_86 (fun H locs hB => ?_)
        rw [(show (22 : Int32).toNatClampNeg = 22 from nI_clamp (n := 22) (by omega))] at hB
        have hB : Bx B0 D _ [(f569_8, .inl (cs 0, 45783, .inl (upd (upd g570 21 x597) 22 x599))), (w, .inr (9, [.int f569_0, .ref f569_1, .int (nI ((κ w).2.2.1)), .int (nI f569_3), .int (nI f569_4), .int f569_5, .int f569_6, .int f569_7, .ref f569_8, .ref f569_9, .ref f569_10, .ref f569_11, .int (nI f569_12), .int f569_13, .int f569_14, .int f569_15, .int f569_16, .ref f569_17]))] [f569_8] _ _ := hB
        have z600 := DOK.sf z598 (k := 22) (by omega) (x := x599)
        refine lv_aload_n hx hb dX9_change_87 rfl (lv_at hl 1 rfl) ?_
        refine lv_iload_n hx hb dX9_change_88 rfl (lv_at hl 2 rfl) ?_
        refine lv_iconst (v := 4) hx hb dX9_change_89 (by decide) ?_
        refine lv_aload_n hx hb dX9_change_90 rfl (lv_at hl 1 rfl) ?_
        refine lv_iload_n hx hb dX9_change_91 rfl (lv_at hl 2 rfl) ?_
        refine lv_bipush (v := 7) hx hb dX9_change_92 (by decide) ?_
        have hT : WT B0 D cs T κ _ := hT.close hB ⟨⟨0, _, rfl, ok_24 t569_8.1 ⟨_, rfl, z600⟩⟩, trivial⟩
        have hF : Fr B0 [12] κ H0 _ := hF.close hB (fa_c (by simp [t569_8.2]) fa_n)
        have hL : OkL B0 _ := hB.2.2.2.2.2
        have hP : va_P D vwCl [(f569_8, .inl (cs 0, 45783, .inl (upd (upd g570 21 x597) 22 x599))), (w, .inr (9, [.int f569_0, .ref f569_1, .int (nI ((κ w).2.2.1)), .int (nI f569_3), .int (nI f569_4), .int f569_5, .int f569_6, .int f569_7, .ref f569_8, .ref f569_9, .ref f569_10, .ref f569_11, .int (nI f569_12), .int f569_13, .int f569_14, .int f569_15, .int f569_16, .ref f569_17]))] _ := hB.1
        refine cv_i (As := [.int (nI n), .int 7]) (rest := [.int 4, .int (nI n), .ref w]) (b := w) ⟨hx, hb, hml, hown, hts⟩ (c_X9_of hT (w := w) hw (n := n) (k := 7) (by first | omega | decide | assumption) (by first | omega | decide | assumption)) (cwV 2 hts gX9_change_X9_of rfl rfl rfl hdX9_of_v ⟨Nat.le_of_ble_eq_true rfl, Nat.le_of_ble_eq_true rfl⟩) hN hL (rcv10 hN hT hw.1) rfl rfl hl.1 (Nat.le_of_ble_eq_true rfl) dX9_change_94 (Nat.zero_le _) (Nat.zero_le _) (fun r601 H1 locs hL hqr601 => ?_)
        obtain rfl := hqr601
        refine cv_v (As := [.int (nI n), .int 4, .int r601]) (rest := []) (b := w) ⟨hx, hb, hml, hown, hts⟩ (c_X9_set hT (w := w) hw (n := n) (k := 4) (x := r601) (by first | omega | decide | assumption) (by first | omega | decide | assumption)) (cwV 3 hts gX9_change_X9_set rfl rfl rfl hdX9_set_v ⟨Nat.le_of_ble_eq_true rfl, Nat.le_of_ble_eq_true rfl⟩) hN hL (rcv10 hN hT hw.1) rfl rfl hl.1 (Nat.le_of_ble_eq_true rfl) dX9_change_97 (Nat.zero_le _) (Nat.zero_le _) (fun H1 locs hL hqr602 => ?_)
        obtain ⟨hT1, hF1⟩ := hqr602
        have hF := hF.tr (hF1.mono (by simp))
        have hT := hT1
        refine lv_aload_n hx hb dX9_change_100 rfl (lv_at hl 1 rfl) ?_
        refine lv_iload_n hx hb dX9_change_101 rfl (lv_at hl 2 rfl) ?_
        refine lv_bipush (v := 9) hx hb dX9_change_102 (by decide) ?_
        refine lv_aload_n hx hb dX9_change_104 rfl (lv_at hl 1 rfl) ?_
        refine lv_iload_n hx hb dX9_change_105 rfl (lv_at hl 2 rfl) ?_
        refine lv_bipush (v := 9) hx hb dX9_change_106 (by decide) ?_
        refine cv_i (As := [.int (nI n), .int 9]) (rest := [.int 9, .int (nI n), .ref w]) (b := w) ⟨hx, hb, hml, hown, hts⟩ (c_X9_of hT (w := w) hw (n := n) (k := 9) (by first | omega | decide | assumption) (by first | omega | decide | assumption)) (cwV 2 hts gX9_change_X9_of rfl rfl rfl hdX9_of_v ⟨Nat.le_of_ble_eq_true rfl, Nat.le_of_ble_eq_true rfl⟩) hN hL (rcv10 hN hT hw.1) rfl rfl hl.1 (Nat.le_of_ble_eq_true rfl) dX9_change_108 (Nat.zero_le _) (Nat.zero_le _) (fun r603 H1 locs hL hqr603 => ?_)
        obtain rfl := hqr603
        refine lv_iconst (v := 1) hx hb dX9_change_111 (by decide) ?_
        refine lv_iadd hx hb dX9_change_112 ?_
        refine gn_i (fun x604 => ?_)
        refine cv_v (As := [.int (nI n), .int 9, .int x604]) (rest := []) (b := w) ⟨hx, hb, hml, hown, hts⟩ (c_X9_set hT (w := w) hw (n := n) (k := 9) (x := x604) (by first | omega | decide | assumption) (by first | omega | decide | assumption)) (cwV 3 hts gX9_change_X9_set rfl rfl rfl hdX9_set_v ⟨Nat.le_of_ble_eq_true rfl, Nat.le_of_ble_eq_true rfl⟩) hN hL (rcv10 hN hT hw.1) rfl rfl hl.1 (Nat.le_of_ble_eq_true rfl) dX9_change_113 (Nat.zero_le _) (Nat.zero_le _) (fun H1 locs hL hqr605 => ?_)
        obtain ⟨hT1, hF1⟩ := hqr605
        have hF := hF.tr (hF1.mono (by simp))
        have hT := hT1
        refine lv_aload_n hx hb dX9_change_116 rfl (lv_at hl 1 rfl) ?_
        refine lv_iload_n hx hb dX9_change_117 rfl (lv_at hl 2 rfl) ?_
        refine lv_bipush (v := 10) hx hb dX9_change_118 (by decide) ?_
        refine lv_aload_n hx hb dX9_change_120 rfl (lv_at hl 1 rfl) ?_
        refine lv_iload_n hx hb dX9_change_121 rfl (lv_at hl 2 rfl) ?_
        refine lv_bipush (v := 10) hx hb dX9_change_122 (by decide) ?_
        refine cv_i (As := [.int (nI n), .int 10]) (rest := [.int 10, .int (nI n), .ref w]) (b := w) ⟨hx, hb, hml, hown, hts⟩ (c_X9_of hT (w := w) hw (n := n) (k := 10) (by first | omega | decide | assumption) (by first | omega | decide | assumption)) (cwV 2 hts gX9_change_X9_of rfl rfl rfl hdX9_of_v ⟨Nat.le_of_ble_eq_true rfl, Nat.le_of_ble_eq_true rfl⟩) hN hL (rcv10 hN hT hw.1) rfl rfl hl.1 (Nat.le_of_ble_eq_true rfl) dX9_change_124 (Nat.zero_le _) (Nat.zero_le _) (fun r606 H1 locs hL hqr606 => ?_)
        obtain rfl := hqr606
        refine lv_iload_n hx hb dX9_change_127 rfl (lv_at hl 0 rfl) ?_
        refine lv_iadd hx hb dX9_change_128 ?_
        refine gn_i (fun x607 => ?_)
        refine cv_v (As := [.int (nI n), .int 10, .int x607]) (rest := []) (b := w) ⟨hx, hb, hml, hown, hts⟩ (c_X9_set hT (w := w) hw (n := n) (k := 10) (x := x607) (by first | omega | decide | assumption) (by first | omega | decide | assumption)) (cwV 3 hts gX9_change_X9_set rfl rfl rfl hdX9_set_v ⟨Nat.le_of_ble_eq_true rfl, Nat.le_of_ble_eq_true rfl⟩) hN hL (rcv10 hN hT hw.1) rfl rfl hl.1 (Nat.le_of_ble_eq_true rfl) dX9_change_129 (Nat.zero_le _) (Nat.zero_le _) (fun H1 locs hL hqr608 => ?_)
        obtain ⟨hT1, hF1⟩ := hqr608
        have hF := hF.tr (hF1.mono (by simp))
        have hT := hT1
        refine lv_aload_n hx hb dX9_change_132 rfl (lv_at hl 1 rfl) ?_
        refine lv_iload_n hx hb dX9_change_133 rfl (lv_at hl 2 rfl) ?_
        refine lv_bipush (v := 11) hx hb dX9_change_134 (by decide) ?_
        refine lv_aload_n hx hb dX9_change_136 rfl (lv_at hl 1 rfl) ?_
        obtain ⟨hb609, e609, hat609, hk609⟩ := hT.o10 hw.1
        obtain ⟨f609_0, f609_1, f609_3, f609_4, f609_5, f609_6, f609_7, f609_8, f609_9, f609_10, f609_11, f609_12, f609_13, f609_14, f609_15, f609_16, f609_17, rfl, c609_2, c609_3, c609_4, c609_12, t609_1, t609_8, t609_9, c609_sd, t609_10, t609_11, t609_17⟩ := hk609
        have hP : va_P D vwCl [(w, .inr (9, [.int f609_0, .ref f609_1, .int (nI ((κ w).2.2.1)), .int (nI f609_3), .int (nI f609_4), .int f609_5, .int f609_6, .int f609_7, .ref f609_8, .ref f609_9, .ref f609_10, .ref f609_11, .int (nI f609_12), .int f609_13, .int f609_14, .int f609_15, .int f609_16, .ref f609_17]))] _ := va_P.cons hat609 va_P.nil
        refine va_get (D := D) (ci := 9) (v := .ref f609_8) (C := RX9) (T := TX9) (N := 18) hx hb hts iX9_change_9 hown hN.1 hP 0 rfl rfl 8 (by decide) (hts _ mX9_change_1) (fun _ h9 => h9) rfl dX9_change_137 ?_
        refine lv_iconst (v := 1) hx hb dX9_change_140 (by decide) ?_
        obtain ⟨hb610, e610, hat610, hk610⟩ := hT.o24 t609_8.1
        obtain ⟨g610, rfl, q610⟩ := hk610
        have hP : va_P D vwCl [(f609_8, .inl (cs 0, 45783, .inl g610)), (w, .inr (9, [.int f609_0, .ref f609_1, .int (nI ((κ w).2.2.1)), .int (nI f609_3), .int (nI f609_4), .int f609_5, .int f609_6, .int f609_7, .ref f609_8, .ref f609_9, .ref f609_10, .ref f609_11, .int (nI f609_12), .int f609_13, .int f609_14, .int f609_15, .int f609_16, .ref f609_17]))] _ := va_P.cons hat610 hP
        refine ld_i (v := (g610 1)) hx hb hN hP 0 rfl (vp_in_nI (n := 1) (N := 45783) (by omega) (by omega)) (by rw [(show (1 : Int32).toNatClampNeg = 1 from nI_clamp (n := 1) (by omega))]) dX9_change_141 ?_
        refine gn_i (fun x611 => ?_)
        refine cv_v (As := [.int (nI n), .int 11, .int x611]) (rest := []) (b := w) ⟨hx, hb, hml, hown, hts⟩ (c_X9_set hT (w := w) hw (n := n) (k := 11) (x := x611) (by first | omega | decide | assumption) (by first | omega | decide | assumption)) (cwV 3 hts gX9_change_X9_set rfl rfl rfl hdX9_set_v ⟨Nat.le_of_ble_eq_true rfl, Nat.le_of_ble_eq_true rfl⟩) hN hL (rcv10 hN hT hw.1) rfl rfl hl.1 (Nat.le_of_ble_eq_true rfl) dX9_change_142 (Nat.zero_le _) (Nat.zero_le _) (fun H1 locs hL hqr612 => ?_)
        obtain ⟨hT1, hF1⟩ := hqr612
        have hF := hF.tr (hF1.mono (by simp))
        have hT := hT1
        refine lv_aload_n hx hb dX9_change_145 rfl (lv_at hl 1 rfl) ?_
        refine lv_iload_n hx hb dX9_change_146 rfl (lv_at hl 2 rfl) ?_
        refine cv_v (As := [.int (nI n)]) (rest := []) (b := w) ⟨hx, hb, hml, hown, hts⟩ (c_X9_dropPlan hT (w := w) hw (n := n) (by first | omega | decide | assumption)) (cwV 1 hts gX9_change_X9_dropPlan rfl rfl rfl hdX9_dropPlan_v ⟨Nat.le_of_ble_eq_true rfl, Nat.le_of_ble_eq_true rfl⟩) hN hL (rcv10 hN hT hw.1) rfl rfl hl.1 (Nat.le_of_ble_eq_true rfl) dX9_change_147 (Nat.zero_le _) (Nat.zero_le _) (fun H1 locs hL hqr613 => ?_)
        obtain ⟨hT1, hF1⟩ := hqr613
        have hF := hF.tr (hF1.mono (by simp))
        have hT := hT1
        refine lv_aload_n hx hb dX9_change_150 rfl (lv_at hl 1 rfl) ?_
        obtain ⟨hb614, e614, hat614, hk614⟩ := hT.o10 hw.1
        obtain ⟨f614_0, f614_1, f614_3, f614_4, f614_5, f614_6, f614_7, f614_8, f614_9, f614_10, f614_11, f614_12, f614_13, f614_14, f614_15, f614_16, f614_17, rfl, c614_2, c614_3, c614_4, c614_12, t614_1, t614_8, t614_9, c614_sd, t614_10, t614_11, t614_17⟩ := hk614
        have hP : va_P D vwCl [(w, .inr (9, [.int f614_0, .ref f614_1, .int (nI ((κ w).2.2.1)), .int (nI f614_3), .int (nI f614_4), .int f614_5, .int f614_6, .int f614_7, .ref f614_8, .ref f614_9, .ref f614_10, .ref f614_11, .int (nI f614_12), .int f614_13, .int f614_14, .int f614_15, .int f614_16, .ref f614_17]))] _ := va_P.cons hat614 va_P.nil
        refine va_get (D := D) (ci := 9) (v := .ref f614_8) (C := RX9) (T := TX9) (N := 18) hx hb hts iX9_change_9 hown hN.1 hP 0 rfl rfl 8 (by decide) (hts _ mX9_change_1) (fun _ h9 => h9) rfl dX9_change_151 ?_
        refine lv_bipush (v := 9) hx hb dX9_change_154 (by decide) ?_
        refine lv_dup2_11 hx hb dX9_change_156 rfl rfl ?_
        obtain ⟨hb615, e615, hat615, hk615⟩ := hT.o24 t614_8.1
        obtain ⟨g615, rfl, q615⟩ := hk615
        have hP : va_P D vwCl [(f614_8, .inl (cs 0, 45783, .inl g615)), (w, .inr (9, [.int f614_0, .ref f614_1, .int (nI ((κ w).2.2.1)), .int (nI f614_3), .int (nI f614_4), .int f614_5, .int f614_6, .int f614_7, .ref f614_8, .ref f614_9, .ref f614_10, .ref f614_11, .int (nI f614_12), .int f614_13, .int f614_14, .int f614_15, .int f614_16, .ref f614_17]))] _ := va_P.cons hat615 hP
        refine ld_i (v := (g615 9)) hx hb hN hP 0 rfl (vp_in_nI (n := 9) (N := 45783) (by omega) (by omega)) (by rw [(show (9 : Int32).toNatClampNeg = 9 from nI_clamp (n := 9) (by omega))]) dX9_change_157 ?_
        refine gn_i (fun x616 => ?_)
        refine lv_iconst (v := 1) hx hb dX9_change_158 (by decide) ?_
        refine lv_iadd hx hb dX9_change_159 ?_
        refine gn_i (fun x617 => ?_)
        have hB : Bx B0 D _ [(f614_8, .inl (cs 0, 45783, .inl g615)), (w, .inr (9, [.int f614_0, .ref f614_1, .int (nI ((κ w).2.2.1)), .int (nI f614_3), .int (nI f614_4), .int f614_5, .int f614_6, .int f614_7, .ref f614_8, .ref f614_9, .ref f614_10, .ref f614_11, .int (nI f614_12), .int f614_13, .int f614_14, .int f614_15, .int f614_16, .ref f614_17]))] [] _ _ := Bx.of (fun a => (κ a).1) hL hP (fa_c hb615 (fa_c hb614 fa_n)) (by simp only [List.map_cons, List.map_nil, t614_8.1, hw.1]; decide)
        refine b_i hx hb hN hB 0 rfl (vp_in_nI (n := 9) (N := 45783) (by omega) (by omega)) (.inl rfl) dX9_change_160 (fun H locs hB => ?_)
        rw [(show (9 : Int32).toNatClampNeg = 9 from nI_clamp (n := 9) (by omega))] at hB
        have hB : Bx B0 D _ [(f614_8, .inl (cs 0, 45783, .inl (upd g615 9 x617))), (w, .inr (9, [.int f614_0, .ref f614_1, .int (nI ((κ w).2.2.1)), .int (nI f614_3), .int (nI f614_4), .int f614_5, .int f614_6, .int f614_7, .ref f614_8, .ref f614_9, .ref f614_10, .ref f614_11, .int (nI f614_12), .int f614_13, .int f614_14, .int f614_15, .int f614_16, .ref f614_17]))] [f614_8] _ _ := hB
        have z618 := DOK.sf q615 (k := 9) (by omega) (x := x617)
        refine lv_aload_n hx hb dX9_change_161 rfl (lv_at hl 1 rfl) ?_
        refine va_get (D := D) (ci := 9) (v := .ref f614_8) (C := RX9) (T := TX9) (N := 18) hx hb hts iX9_change_9 hown hN.1 hB.1 1 rfl rfl 8 (by decide) (hts _ mX9_change_1) (fun _ h9 => h9) rfl dX9_change_162 ?_
        refine lv_bipush (v := 10) hx hb dX9_change_165 (by decide) ?_
        refine lv_dup2_11 hx hb dX9_change_167 rfl rfl ?_
        refine ld_i (v := ((upd g615 9 x617) 10)) hx hb hN hB.1 0 rfl (vp_in_nI (n := 10) (N := 45783) (by omega) (by omega)) (by rw [(show (10 : Int32).toNatClampNeg = 10 from nI_clamp (n := 10) (by omega))]) dX9_change_168 ?_
        refine gn_i (fun x619 => ?_)
        refine lv_iload_n hx hb dX9_change_169 rfl (lv_at hl 0 rfl) ?_
        refine lv_iadd hx hb dX9_change_170 ?_
        refine gn_i (fun x620 => ?_)
        refine b_i hx hb hN hB 0 rfl (vp_in_nI (n := 10) (N := 45783) (by omega) (by omega)) (.inr ⟨rfl, List.mem_of_getElem? (i := 0) rfl⟩) dX9_change_171 (fun H locs hB => ?_)
        rw [(show (10 : Int32).toNatClampNeg = 10 from nI_clamp (n := 10) (by omega))] at hB
        have hB : Bx B0 D _ [(f614_8, .inl (cs 0, 45783, .inl (upd (upd g615 9 x617) 10 x620))), (w, .inr (9, [.int f614_0, .ref f614_1, .int (nI ((κ w).2.2.1)), .int (nI f614_3), .int (nI f614_4), .int f614_5, .int f614_6, .int f614_7, .ref f614_8, .ref f614_9, .ref f614_10, .ref f614_11, .int (nI f614_12), .int f614_13, .int f614_14, .int f614_15, .int f614_16, .ref f614_17]))] [f614_8] _ _ := hB
        have z621 := DOK.sf z618 (k := 10) (by omega) (x := x620)
        have hT : WT B0 D cs T κ _ := hT.close hB ⟨⟨0, _, rfl, ok_24 t614_8.1 ⟨_, rfl, z621⟩⟩, trivial⟩
        have hF : Fr B0 [12] κ H0 _ := hF.close hB (fa_c (by simp [t614_8.2]) fa_n)
        have hL : OkL B0 _ := hB.2.2.2.2.2
        have hP : va_P D vwCl [(f614_8, .inl (cs 0, 45783, .inl (upd (upd g615 9 x617) 10 x620))), (w, .inr (9, [.int f614_0, .ref f614_1, .int (nI ((κ w).2.2.1)), .int (nI f614_3), .int (nI f614_4), .int f614_5, .int f614_6, .int f614_7, .ref f614_8, .ref f614_9, .ref f614_10, .ref f614_11, .int (nI f614_12), .int f614_13, .int f614_14, .int f614_15, .int f614_16, .ref f614_17]))] _ := hB.1
        exact en_v hx hb hr hlocks hL (Nat.zero_le _) (Nat.zero_le _) dX9_change_172 (⟨hT, hF⟩)
      · refine lv_aload_n hx hb dX9_change_57 rfl (lv_at hl 1 rfl) ?_
        refine va_get (D := D) (ci := 9) (v := .ref f569_8) (C := RX9) (T := TX9) (N := 18) hx hb hts iX9_change_9 hown hN.1 hP 1 rfl rfl 8 (by decide) (hts _ mX9_change_1) (fun _ h9 => h9) rfl dX9_change_58 ?_
        refine lv_iconst (v := 1) hx hb dX9_change_61 (by decide) ?_
        refine ld_i (v := (g570 1)) hx hb hN hP 0 rfl (vp_in_nI (n := 1) (N := 45783) (by omega) (by omega)) (by rw [(show (1 : Int32).toNatClampNeg = 1 from nI_clamp (n := 1) (by omega))]) dX9_change_62 ?_
        refine gn_i (fun x622 => ?_)
        refine lv_goto (tgt := 73) hx hb dX9_change_63 (by decide) ?_
        have hB : Bx B0 D _ [(f569_8, .inl (cs 0, 45783, .inl g570)), (w, .inr (9, [.int f569_0, .ref f569_1, .int (nI ((κ w).2.2.1)), .int (nI f569_3), .int (nI f569_4), .int f569_5, .int f569_6, .int f569_7, .ref f569_8, .ref f569_9, .ref f569_10, .ref f569_11, .int (nI f569_12), .int f569_13, .int f569_14, .int f569_15, .int f569_16, .ref f569_17]))] [] _ _ := Bx.of (fun a => (κ a).1) hL hP (fa_c hb570 (fa_c hb569 fa_n)) (by simp only [List.map_cons, List.map_nil, t569_8.1, hw.1]; decide)
        refine b_i hx hb hN hB 0 rfl (vp_in_nI (n := 21) (N := 45783) (by omega) (by omega)) (.inl rfl) dX9_change_73 (fun H locs hB => ?_)
        rw [(show (21 : Int32).toNatClampNeg = 21 from nI_clamp (n := 21) (by omega))] at hB
        have hB : Bx B0 D _ [(f569_8, .inl (cs 0, 45783, .inl (upd g570 21 x622))), (w, .inr (9, [.int f569_0, .ref f569_1, .int (nI ((κ w).2.2.1)), .int (nI f569_3), .int (nI f569_4), .int f569_5, .int f569_6, .int f569_7, .ref f569_8, .ref f569_9, .ref f569_10, .ref f569_11, .int (nI f569_12), .int f569_13, .int f569_14, .int f569_15, .int f569_16, .ref f569_17]))] [f569_8] _ _ := hB
        have z623 := DOK.sf q570 (k := 21) (by omega) (x := x622)
        refine lv_aload_n hx hb dX9_change_74 rfl (lv_at hl 1 rfl) ?_
        refine va_get (D := D) (ci := 9) (v := .ref f569_8) (C := RX9) (T := TX9) (N := 18) hx hb hts iX9_change_9 hown hN.1 hB.1 1 rfl rfl 8 (by decide) (hts _ mX9_change_1) (fun _ h9 => h9) rfl dX9_change_75 ?_
        refine lv_bipush (v := 22) hx hb dX9_change_78 (by decide) ?_
        refine lv_aload_n hx hb dX9_change_80 rfl (lv_at hl 1 rfl) ?_
        refine va_get (D := D) (ci := 9) (v := .ref f569_8) (C := RX9) (T := TX9) (N := 18) hx hb hts iX9_change_9 hown hN.1 hB.1 1 rfl rfl 8 (by decide) (hts _ mX9_change_1) (fun _ h9 => h9) rfl dX9_change_81 ?_
        refine lv_iconst (v := 1) hx hb dX9_change_84 (by decide) ?_
        refine ld_i (v := ((upd g570 21 x622) 1)) hx hb hN hB.1 0 rfl (vp_in_nI (n := 1) (N := 45783) (by omega) (by omega)) (by rw [(show (1 : Int32).toNatClampNeg = 1 from nI_clamp (n := 1) (by omega))]) dX9_change_85 ?_
        refine gn_i (fun x624 => ?_)
        refine b_i hx hb hN hB 0 rfl (vp_in_nI (n := 22) (N := 45783) (by omega) (by omega)) (.inr ⟨rfl, List.mem_of_getElem? (i := 0) rfl⟩) dX9_change_86 (fun H locs hB => ?_)
        rw [(show (22 : Int32).toNatClampNeg = 22 from nI_clamp (n := 22) (by omega))] at hB
        have hB : Bx B0 D _ [(f569_8, .inl (cs 0, 45783, .inl (upd (upd g570 21 x622) 22 x624))), (w, .inr (9, [.int f569_0, .ref f569_1, .int (nI ((κ w).2.2.1)), .int (nI f569_3), .int (nI f569_4), .int f569_5, .int f569_6, .int f569_7, .ref f569_8, .ref f569_9, .ref f569_10, .ref f569_11, .int (nI f569_12), .int f569_13, .int f569_14, .int f569_15, .int f569_16, .ref f569_17]))] [f569_8] _ _ := hB
        have z625 := DOK.sf z623 (k := 22) (by omega) (x := x624)
        refine lv_aload_n hx hb dX9_change_87 rfl (lv_at hl 1 rfl) ?_
        refine lv_iload_n hx hb dX9_change_88 rfl (lv_at hl 2 rfl) ?_
        refine lv_iconst (v := 4) hx hb dX9_change_89 (by decide) ?_
        refine lv_aload_n hx hb dX9_change_90 rfl (lv_at hl 1 rfl) ?_
        refine lv_iload_n hx hb dX9_change_91 rfl (lv_at hl 2 rfl) ?_
        refine lv_bipush (v := 7) hx hb dX9_change_92 (by decide) ?_
        have hT : WT B0 D cs T κ _ := hT.close hB ⟨⟨0, _, rfl, ok_24 t569_8.1 ⟨_, rfl, z625⟩⟩, trivial⟩
        have hF : Fr B0 [12] κ H0 _ := hF.close hB (fa_c (by simp [t569_8.2]) fa_n)
        have hL : OkL B0 _ := hB.2.2.2.2.2
        have hP : va_P D vwCl [(f569_8, .inl (cs 0, 45783, .inl (upd (upd g570 21 x622) 22 x624))), (w, .inr (9, [.int f569_0, .ref f569_1, .int (nI ((κ w).2.2.1)), .int (nI f569_3), .int (nI f569_4), .int f569_5, .int f569_6, .int f569_7, .ref f569_8, .ref f569_9, .ref f569_10, .ref f569_11, .int (nI f569_12), .int f569_13, .int f569_14, .int f569_15, .int f569_16, .ref f569_17]))] _ := hB.1
        refine cv_i (As := [.int (nI n), .int 7]) (rest := [.int 4, .int (nI n), .ref w]) (b := w) ⟨hx, hb, hml, hown, hts⟩ (c_X9_of hT (w := w) hw (n := n) (k := 7) (by first | omega | decide | assumption) (by first | omega | decide | assumption)) (cwV 2 hts gX9_change_X9_of rfl rfl rfl hdX9_of_v ⟨Nat.le_of_ble_eq_true rfl, Nat.le_of_ble_eq_true rfl⟩) hN hL (rcv10 hN hT hw.1) rfl rfl hl.1 (Nat.le_of_ble_eq_true rfl) dX9_change_94 (Nat.zero_le _) (Nat.zero_le _) (fun r626 H1 locs hL hqr626 => ?_)
        obtain rfl := hqr626
        refine cv_v (As := [.int (nI n), .int 4, .int r626]) (rest := []) (b := w) ⟨hx, hb, hml, hown, hts⟩ (c_X9_set hT (w := w) hw (n := n) (k := 4) (x := r626) (by first | omega | decide | assumption) (by first | omega | decide | assumption)) (cwV 3 hts gX9_change_X9_set rfl rfl rfl hdX9_set_v ⟨Nat.le_of_ble_eq_true rfl, Nat.le_of_ble_eq_true rfl⟩) hN hL (rcv10 hN hT hw.1) rfl rfl hl.1 (Nat.le_of_ble_eq_true rfl) dX9_change_97 (Nat.zero_le _) (Nat.zero_le _) (fun H1 locs hL hqr627 => ?_)
        obtain ⟨hT1, hF1⟩ := hqr627
        have hF := hF.tr (hF1.mono (by simp))
        have hT := hT1
        refine lv_aload_n hx hb dX9_change_100 rfl (lv_at hl 1 rfl) ?_
        refine lv_iload_n hx hb dX9_change_101 rfl (lv_at hl 2 rfl) ?_
        refine lv_bipush (v := 9) hx hb dX9_change_102 (by decide) ?_
        refine lv_aload_n hx hb dX9_change_104 rfl (lv_at hl 1 rfl) ?_
        refine lv_iload_n hx hb dX9_change_105 rfl (lv_at hl 2 rfl) ?_
        refine lv_bipush (v := 9) hx hb dX9_change_106 (by decide) ?_
        refine cv_i (As := [.int (nI n), .int 9]) (rest := [.int 9, .int (nI n), .ref w]) (b := w) ⟨hx, hb, hml, hown, hts⟩ (c_X9_of hT (w := w) hw (n := n) (k := 9) (by first | omega | decide | assumption) (by first | omega | decide | assumption)) (cwV 2 hts gX9_change_X9_of rfl rfl rfl hdX9_of_v ⟨Nat.le_of_ble_eq_true rfl, Nat.le_of_ble_eq_true rfl⟩) hN hL (rcv10 hN hT hw.1) rfl rfl hl.1 (Nat.le_of_ble_eq_true rfl) dX9_change_108 (Nat.zero_le _) (Nat.zero_le _) (fun r628 H1 locs hL hqr628 => ?_)
        obtain rfl := hqr628
        refine lv_iconst (v := 1) hx hb dX9_change_111 (by decide) ?_
        refine lv_iadd hx hb dX9_change_112 ?_
        refine gn_i (fun x629 => ?_)
        refine cv_v (As := [.int (nI n), .int 9, .int x629]) (rest := []) (b := w) ⟨hx, hb, hml, hown, hts⟩ (c_X9_set hT (w := w) hw (n := n) (k := 9) (x := x629) (by first | omega | decide | assumption) (by first | omega | decide | assumption)) (cwV 3 hts gX9_change_X9_set rfl rfl rfl hdX9_set_v ⟨Nat.le_of_ble_eq_true rfl, Nat.le_of_ble_eq_true rfl⟩) hN hL (rcv10 hN hT hw.1) rfl rfl hl.1 (Nat.le_of_ble_eq_true rfl) dX9_change_113 (Nat.zero_le _) (Nat.zero_le _) (fun H1 locs hL hqr630 => ?_)
        obtain ⟨hT1, hF1⟩ := hqr630
        have hF := hF.tr (hF1.mono (by simp))
        have hT := hT1
        refine lv_aload_n hx hb dX9_change_116 rfl (lv_at hl 1 rfl) ?_
        refine lv_iload_n hx hb dX9_change_117 rfl (lv_at hl 2 rfl) ?_
        refine lv_bipush (v := 10) hx hb dX9_change_118 (by decide) ?_
        refine lv_aload_n hx hb dX9_change_120 rfl (lv_at hl 1 rfl) ?_
        refine lv_iload_n hx hb dX9_change_121 rfl (lv_at hl 2 rfl) ?_
        refine lv_bipush (v := 10) hx hb dX9_change_122 (by decide) ?_
        refine cv_i (As := [.int (nI n), .int 10]) (rest := [.int 10, .int (nI n), .ref w]) (b := w) ⟨hx, hb, hml, hown, hts⟩ (c_X9_of hT (w := w) hw (n := n) (k := 10) (by first | omega | decide | assumption) (by first | omega | decide | assumption)) (cwV 2 hts gX9_change_X9_of rfl rfl rfl hdX9_of_v ⟨Nat.le_of_ble_eq_true rfl, Nat.le_of_ble_eq_true rfl⟩) hN hL (rcv10 hN hT hw.1) rfl rfl hl.1 (Nat.le_of_ble_eq_true rfl) dX9_change_124 (Nat.zero_le _) (Nat.zero_le _) (fun r631 H1 locs hL hqr631 => ?_)
        obtain rfl := hqr631
        refine lv_iload_n hx hb dX9_change_127 rfl (lv_at hl 0 rfl) ?_
        refine lv_iadd hx hb dX9_change_128 ?_
        refine gn_i (fun x632 => ?_)
        refine cv_v (As := [.int (nI n), .int 10, .int x632]) (rest := []) (b := w) ⟨hx, hb, hml, hown, hts⟩ (c_X9_set hT (w := w) hw (n := n) (k := 10) (x := x632) (by first | omega | decide | assumption) (by first | omega | decide | assumption)) (cwV 3 hts gX9_change_X9_set rfl rfl rfl hdX9_set_v ⟨Nat.le_of_ble_eq_true rfl, Nat.le_of_ble_eq_true rfl⟩) hN hL (rcv10 hN hT hw.1) rfl rfl hl.1 (Nat.le_of_ble_eq_true rfl) dX9_change_129 (Nat.zero_le _) (Nat.zero_le _) (fun H1 locs hL hqr633 => ?_)
        obtain ⟨hT1, hF1⟩ := hqr633
        have hF := hF.tr (hF1.mono (by simp))
        have hT := hT1
        refine lv_aload_n hx hb dX9_change_132 rfl (lv_at hl 1 rfl) ?_
        refine lv_iload_n hx hb dX9_change_133 rfl (lv_at hl 2 rfl) ?_
        refine lv_bipush (v := 11) hx hb dX9_change_134 (by decide) ?_
        refine lv_aload_n hx hb dX9_change_136 rfl (lv_at hl 1 rfl) ?_
        obtain ⟨hb634, e634, hat634, hk634⟩ := hT.o10 hw.1
        obtain ⟨f634_0, f634_1, f634_3, f634_4, f634_5, f634_6, f634_7, f634_8, f634_9, f634_10, f634_11, f634_12, f634_13, f634_14, f634_15, f634_16, f634_17, rfl, c634_2, c634_3, c634_4, c634_12, t634_1, t634_8, t634_9, c634_sd, t634_10, t634_11, t634_17⟩ := hk634
        have hP : va_P D vwCl [(w, .inr (9, [.int f634_0, .ref f634_1, .int (nI ((κ w).2.2.1)), .int (nI f634_3), .int (nI f634_4), .int f634_5, .int f634_6, .int f634_7, .ref f634_8, .ref f634_9, .ref f634_10, .ref f634_11, .int (nI f634_12), .int f634_13, .int f634_14, .int f634_15, .int f634_16, .ref f634_17]))] _ := va_P.cons hat634 va_P.nil
        refine va_get (D := D) (ci := 9) (v := .ref f634_8) (C := RX9) (T := TX9) (N := 18) hx hb hts iX9_change_9 hown hN.1 hP 0 rfl rfl 8 (by decide) (hts _ mX9_change_1) (fun _ h9 => h9) rfl dX9_change_137 ?_
        refine lv_iconst (v := 1) hx hb dX9_change_140 (by decide) ?_
        obtain ⟨hb635, e635, hat635, hk635⟩ := hT.o24 t634_8.1
        obtain ⟨g635, rfl, q635⟩ := hk635
        have hP : va_P D vwCl [(f634_8, .inl (cs 0, 45783, .inl g635)), (w, .inr (9, [.int f634_0, .ref f634_1, .int (nI ((κ w).2.2.1)), .int (nI f634_3), .int (nI f634_4), .int f634_5, .int f634_6, .int f634_7, .ref f634_8, .ref f634_9, .ref f634_10, .ref f634_11, .int (nI f634_12), .int f634_13, .int f634_14, .int f634_15, .int f634_16, .ref f634_17]))] _ := va_P.cons hat635 hP
        refine ld_i (v := (g635 1)) hx hb hN hP 0 rfl (vp_in_nI (n := 1) (N := 45783) (by omega) (by omega)) (by rw [(show (1 : Int32).toNatClampNeg = 1 from nI_clamp (n := 1) (by omega))]) dX9_change_141 ?_
        refine gn_i (fun x636 => ?_)
        refine cv_v (As := [.int (nI n), .int 11, .int x636]) (rest := []) (b := w) ⟨hx, hb, hml, hown, hts⟩ (c_X9_set hT (w := w) hw (n := n) (k := 11) (x := x636) (by first | omega | decide | assumption) (by first | omega | decide | assumption)) (cwV 3 hts gX9_change_X9_set rfl rfl rfl hdX9_set_v ⟨Nat.le_of_ble_eq_true rfl, Nat.le_of_ble_eq_true rfl⟩) hN hL (rcv10 hN hT hw.1) rfl rfl hl.1 (Nat.le_of_ble_eq_true rfl) dX9_change_142 (Nat.zero_le _) (Nat.zero_le _) (fun H1 locs hL hqr637 => ?_)
        obtain ⟨hT1, hF1⟩ := hqr637
        have hF := hF.tr (hF1.mono (by simp))
        have hT := hT1
        refine lv_aload_n hx hb dX9_change_145 rfl (lv_at hl 1 rfl) ?_
        refine lv_iload_n hx hb dX9_change_146 rfl (lv_at hl 2 rfl) ?_
        refine cv_v (As := [.int (nI n)]) (rest := []) (b := w) ⟨hx, hb, hml, hown, hts⟩ (c_X9_dropPlan hT (w := w) hw (n := n) (by first | omega | decide | assumption)) (cwV 1 hts gX9_change_X9_dropPlan rfl rfl rfl hdX9_dropPlan_v ⟨Nat.le_of_ble_eq_true rfl, Nat.le_of_ble_eq_true rfl⟩) hN hL (rcv10 hN hT hw.1) rfl rfl hl.1 (Nat.le_of_ble_eq_true rfl) dX9_change_147 (Nat.zero_le _) (Nat.zero_le _) (fun H1 locs hL hqr638 => ?_)
        obtain ⟨hT1, hF1⟩ := hqr638
        have hF := hF.tr (hF1.mono (by simp))
        have hT := hT1
        refine lv_aload_n hx hb dX9_change_150 rfl (lv_at hl 1 rfl) ?_
        obtain ⟨hb639, e639, hat639, hk639⟩ := hT.o10 hw.1
        obtain ⟨f639_0, f639_1, f639_3, f639_4, f639_5, f639_6, f639_7, f639_8, f639_9, f639_10, f639_11, f639_12, f639_13, f639_14, f639_15, f639_16, f639_17, rfl, c639_2, c639_3, c639_4, c639_12, t639_1, t639_8, t639_9, c639_sd, t639_10, t639_11, t639_17⟩ := hk639
        have hP : va_P D vwCl [(w, .inr (9, [.int f639_0, .ref f639_1, .int (nI ((κ w).2.2.1)), .int (nI f639_3), .int (nI f639_4), .int f639_5, .int f639_6, .int f639_7, .ref f639_8, .ref f639_9, .ref f639_10, .ref f639_11, .int (nI f639_12), .int f639_13, .int f639_14, .int f639_15, .int f639_16, .ref f639_17]))] _ := va_P.cons hat639 va_P.nil
        refine va_get (D := D) (ci := 9) (v := .ref f639_8) (C := RX9) (T := TX9) (N := 18) hx hb hts iX9_change_9 hown hN.1 hP 0 rfl rfl 8 (by decide) (hts _ mX9_change_1) (fun _ h9 => h9) rfl dX9_change_151 ?_
        refine lv_bipush (v := 9) hx hb dX9_change_154 (by decide) ?_
        refine lv_dup2_11 hx hb dX9_change_156 rfl rfl ?_
        obtain ⟨hb640, e640, hat640, hk640⟩ := hT.o24 t639_8.1
        obtain ⟨g640, rfl, q640⟩ := hk640
        have hP : va_P D vwCl [(f639_8, .inl (cs 0, 45783, .inl g640)), (w, .inr (9, [.int f639_0, .ref f639_1, .int (nI ((κ w).2.2.1)), .int (nI f639_3), .int (nI f639_4), .int f639_5, .int f639_6, .int f639_7, .ref f639_8, .ref f639_9, .ref f639_10, .ref f639_11, .int (nI f639_12), .int f639_13, .int f639_14, .int f639_15, .int f639_16, .ref f639_17]))] _ := va_P.cons hat640 hP
        refine ld_i (v := (g640 9)) hx hb hN hP 0 rfl (vp_in_nI (n := 9) (N := 45783) (by omega) (by omega)) (by rw [(show (9 : Int32).toNatClampNeg = 9 from nI_clamp (n := 9) (by omega))]) dX9_change_157 ?_
        refine gn_i (fun x641 => ?_)
        refine lv_iconst (v := 1) hx hb dX9_change_158 (by decide) ?_
        refine lv_iadd hx hb dX9_change_159 ?_
        refine gn_i (fun x642 => ?_)
        have hB : Bx B0 D _ [(f639_8, .inl (cs 0, 45783, .inl g640)), (w, .inr (9, [.int f639_0, .ref f639_1, .int (nI ((κ w).2.2.1)), .int (nI f639_3), .int (nI f639_4), .int f639_5, .int f639_6, .int f639_7, .ref f639_8, .ref f639_9, .ref f639_10, .ref f639_11, .int (nI f639_12), .int f639_13, .int f639_14, .int f639_15, .int f639_16, .ref f639_17]))] [] _ _ := Bx.of (fun a => (κ a).1) hL hP (fa_c hb640 (fa_c hb639 fa_n)) (by simp only [List.map_cons, List.map_nil, t639_8.1, hw.1]; decide)
        refine b_i hx hb hN hB 0 rfl (vp_in_nI (n := 9) (N := 45783) (by omega) (by omega)) (.inl rfl) dX9_change_160 (fun H locs hB => ?_)
        rw [(show (9 : Int32).toNatClampNeg = 9 from nI_clamp (n := 9) (by omega))] at hB
        have hB : Bx B0 D _ [(f639_8, .inl (cs 0, 45783, .inl (upd g640 9 x642))), (w, .inr (9, [.int f639_0, .ref f639_1, .int (nI ((κ w).2.2.1)), .int (nI f639_3), .int (nI f639_4), .int f639_5, .int f639_6, .int f639_7, .ref f639_8, .ref f639_9, .ref f639_10, .ref f639_11, .int (nI f639_12), .int f639_13, .int f639_14, .int f639_15, .int f639_16, .ref f639_17]))] [f639_8] _ _ := hB
        have z643 := DOK.sf q640 (k := 9) (by omega) (x := x642)
        refine lv_aload_n hx hb dX9_change_161 rfl (lv_at hl 1 rfl) ?_
        refine va_get (D := D) (ci := 9) (v := .ref f639_8) (C := RX9) (T := TX9) (N := 18) hx hb hts iX9_change_9 hown hN.1 hB.1 1 rfl rfl 8 (by decide) (hts _ mX9_change_1) (fun _ h9 => h9) rfl dX9_change_162 ?_
        refine lv_bipush (v := 10) hx hb dX9_change_165 (by decide) ?_
        refine lv_dup2_11 hx hb dX9_change_167 rfl rfl ?_
        refine ld_i (v := ((upd g640 9 x642) 10)) hx hb hN hB.1 0 rfl (vp_in_nI (n := 10) (N := 45783) (by omega) (by omega)) (by rw [(show (10 : Int32).toNatClampNeg = 10 from nI_clamp (n := 10) (by omega))]) dX9_change_168 ?_
        refine gn_i (fun x644 => ?_)
        refine lv_iload_n hx hb dX9_change_169 rfl (lv_at hl 0 rfl) ?_
        refine lv_iadd hx hb dX9_change_170 ?_
        refine gn_i (fun x645 => ?_)
        refine b_i hx hb hN hB 0 rfl (vp_in_nI (n := 10) (N := 45783) (by omega) (by omega)) (.inr ⟨rfl, List.mem_of_getElem? (i := 0) rfl⟩) dX9_change_171 (fun H locs hB => ?_)
        rw [(show (10 : Int32).toNatClampNeg = 10 from nI_clamp (n := 10) (by omega))] at hB
        have hB : Bx B0 D _ [(f639_8, .inl (cs 0, 45783, .inl (upd (upd g640 9 x642) 10 x645))), (w, .inr (9, [.int f639_0, .ref f639_1, .int (nI ((κ w).2.2.1)), .int (nI f639_3), .int (nI f639_4), .int f639_5, .int f639_6, .int f639_7, .ref f639_8, .ref f639_9, .ref f639_10, .ref f639_11, .int (nI f639_12), .int f639_13, .int f639_14, .int f639_15, .int f639_16, .ref f639_17]))] [f639_8] _ _ := hB
        have z646 := DOK.sf z643 (k := 10) (by omega) (x := x645)
        have hT : WT B0 D cs T κ _ := hT.close hB ⟨⟨0, _, rfl, ok_24 t639_8.1 ⟨_, rfl, z646⟩⟩, trivial⟩
        have hF : Fr B0 [12] κ H0 _ := hF.close hB (fa_c (by simp [t639_8.2]) fa_n)
        have hL : OkL B0 _ := hB.2.2.2.2.2
        have hP : va_P D vwCl [(f639_8, .inl (cs 0, 45783, .inl (upd (upd g640 9 x642) 10 x645))), (w, .inr (9, [.int f639_0, .ref f639_1, .int (nI ((κ w).2.2.1)), .int (nI f639_3), .int (nI f639_4), .int f639_5, .int f639_6, .int f639_7, .ref f639_8, .ref f639_9, .ref f639_10, .ref f639_11, .int (nI f639_12), .int f639_13, .int f639_14, .int f639_15, .int f639_16, .ref f639_17]))] _ := hB.1
        exact en_v hx hb hr hlocks hL (Nat.zero_le _) (Nat.zero_le _) dX9_change_172 (⟨hT, hF⟩)
  · refine lv_iconst (v := 1) hx hb dX9_change_15 (by decide) ?_
    refine lv_goto (tgt := 20) hx hb dX9_change_16 (by decide) ?_
    refine lv_istore_n (lv' := [(2, .int 1), (0, .ref w), (1, .int (nI n))]) hx hb dX9_change_20 rfl hl (by decide) rfl (fun ls hl => ?_)
    refine lv_aload_n hx hb dX9_change_21 rfl (lv_at hl 1 rfl) ?_
    refine lv_iload_n hx hb dX9_change_22 rfl (lv_at hl 2 rfl) ?_
    refine lv_bipush (v := 6) hx hb dX9_change_23 (by decide) ?_
    refine cv_i (As := [.int (nI n), .int 6]) (rest := []) (b := w) ⟨hx, hb, hml, hown, hts⟩ (c_X9_of hT (w := w) hw (n := n) (k := 6) (by first | omega | decide | assumption) (by first | omega | decide | assumption)) (cwV 2 hts gX9_change_X9_of rfl rfl rfl hdX9_of_v ⟨Nat.le_of_ble_eq_true rfl, Nat.le_of_ble_eq_true rfl⟩) hN hL (rcv10 hN hT hw.1) rfl rfl hl.1 (Nat.le_of_ble_eq_true rfl) dX9_change_25 (Nat.zero_le _) (Nat.zero_le _) (fun r647 H1 locs hL hqr647 => ?_)
    obtain rfl := hqr647
    refine lv_aload_n hx hb dX9_change_28 rfl (lv_at hl 1 rfl) ?_
    obtain ⟨hb648, e648, hat648, hk648⟩ := hT.o10 hw.1
    obtain ⟨f648_0, f648_1, f648_3, f648_4, f648_5, f648_6, f648_7, f648_8, f648_9, f648_10, f648_11, f648_12, f648_13, f648_14, f648_15, f648_16, f648_17, rfl, c648_2, c648_3, c648_4, c648_12, t648_1, t648_8, t648_9, c648_sd, t648_10, t648_11, t648_17⟩ := hk648
    have hP : va_P D vwCl [(w, .inr (9, [.int f648_0, .ref f648_1, .int (nI ((κ w).2.2.1)), .int (nI f648_3), .int (nI f648_4), .int f648_5, .int f648_6, .int f648_7, .ref f648_8, .ref f648_9, .ref f648_10, .ref f648_11, .int (nI f648_12), .int f648_13, .int f648_14, .int f648_15, .int f648_16, .ref f648_17]))] _ := va_P.cons hat648 va_P.nil
    refine va_get (D := D) (ci := 9) (v := .ref f648_8) (C := RX9) (T := TX9) (N := 18) hx hb hts iX9_change_9 hown hN.1 hP 0 rfl rfl 8 (by decide) (hts _ mX9_change_1) (fun _ h9 => h9) rfl dX9_change_29 ?_
    refine lv_bipush (v := 6) hx hb dX9_change_32 (by decide) ?_
    obtain ⟨hb649, e649, hat649, hk649⟩ := hT.o24 t648_8.1
    obtain ⟨g649, rfl, q649⟩ := hk649
    have hP : va_P D vwCl [(f648_8, .inl (cs 0, 45783, .inl g649)), (w, .inr (9, [.int f648_0, .ref f648_1, .int (nI ((κ w).2.2.1)), .int (nI f648_3), .int (nI f648_4), .int f648_5, .int f648_6, .int f648_7, .ref f648_8, .ref f648_9, .ref f648_10, .ref f648_11, .int (nI f648_12), .int f648_13, .int f648_14, .int f648_15, .int f648_16, .ref f648_17]))] _ := va_P.cons hat649 hP
    refine ld_i (v := (g649 6)) hx hb hN hP 0 rfl (vp_in_nI (n := 6) (N := 45783) (by omega) (by omega)) (by rw [(show (6 : Int32).toNatClampNeg = 6 from nI_clamp (n := 6) (by omega))]) dX9_change_34 ?_
    refine gn_i (fun x650 => ?_)
    refine lv_iconst (v := 1) hx hb dX9_change_35 (by decide) ?_
    refine lv_isub hx hb dX9_change_36 ?_
    refine gn_i (fun x651 => ?_)
    refine lv_icmp_ne (tgt := 87) hx hb dX9_change_37 (by decide) (fun c652 => ?_) (fun c652 => ?_)
    · refine lv_aload_n hx hb dX9_change_87 rfl (lv_at hl 1 rfl) ?_
      refine lv_iload_n hx hb dX9_change_88 rfl (lv_at hl 2 rfl) ?_
      refine lv_iconst (v := 4) hx hb dX9_change_89 (by decide) ?_
      refine lv_aload_n hx hb dX9_change_90 rfl (lv_at hl 1 rfl) ?_
      refine lv_iload_n hx hb dX9_change_91 rfl (lv_at hl 2 rfl) ?_
      refine lv_bipush (v := 7) hx hb dX9_change_92 (by decide) ?_
      refine cv_i (As := [.int (nI n), .int 7]) (rest := [.int 4, .int (nI n), .ref w]) (b := w) ⟨hx, hb, hml, hown, hts⟩ (c_X9_of hT (w := w) hw (n := n) (k := 7) (by first | omega | decide | assumption) (by first | omega | decide | assumption)) (cwV 2 hts gX9_change_X9_of rfl rfl rfl hdX9_of_v ⟨Nat.le_of_ble_eq_true rfl, Nat.le_of_ble_eq_true rfl⟩) hN hL (rcv10 hN hT hw.1) rfl rfl hl.1 (Nat.le_of_ble_eq_true rfl) dX9_change_94 (Nat.zero_le _) (Nat.zero_le _) (fun r653 H1 locs hL hqr653 => ?_)
      obtain rfl := hqr653
      refine cv_v (As := [.int (nI n), .int 4, .int r653]) (rest := []) (b := w) ⟨hx, hb, hml, hown, hts⟩ (c_X9_set hT (w := w) hw (n := n) (k := 4) (x := r653) (by first | omega | decide | assumption) (by first | omega | decide | assumption)) (cwV 3 hts gX9_change_X9_set rfl rfl rfl hdX9_set_v ⟨Nat.le_of_ble_eq_true rfl, Nat.le_of_ble_eq_true rfl⟩) hN hL (rcv10 hN hT hw.1) rfl rfl hl.1 (Nat.le_of_ble_eq_true rfl) dX9_change_97 (Nat.zero_le _) (Nat.zero_le _) (fun H1 locs hL hqr654 => ?_)
      obtain ⟨hT1, hF1⟩ := hqr654
      have hF := hF.tr (hF1.mono (by simp))
      have hT := hT1
      refine lv_aload_n hx hb dX9_change_100 rfl (lv_at hl 1 rfl) ?_
      refine lv_iload_n hx hb dX9_change_101 rfl (lv_at hl 2 rfl) ?_
      refine lv_bipush (v := 9) hx hb dX9_change_102 (by decide) ?_
      refine lv_aload_n hx hb dX9_change_104 rfl (lv_at hl 1 rfl) ?_
      refine lv_iload_n hx hb dX9_change_105 rfl (lv_at hl 2 rfl) ?_
      refine lv_bipush (v := 9) hx hb dX9_change_106 (by decide) ?_
      refine cv_i (As := [.int (nI n), .int 9]) (rest := [.int 9, .int (nI n), .ref w]) (b := w) ⟨hx, hb, hml, hown, hts⟩ (c_X9_of hT (w := w) hw (n := n) (k := 9) (by first | omega | decide | assumption) (by first | omega | decide | assumption)) (cwV 2 hts gX9_change_X9_of rfl rfl rfl hdX9_of_v ⟨Nat.le_of_ble_eq_true rfl, Nat.le_of_ble_eq_true rfl⟩) hN hL (rcv10 hN hT hw.1) rfl rfl hl.1 (Nat.le_of_ble_eq_true rfl) dX9_change_108 (Nat.zero_le _) (Nat.zero_le _) (fun r655 H1 locs hL hqr655 => ?_)
      obtain rfl := hqr655
      refine lv_iconst (v := 1) hx hb dX9_change_111 (by decide) ?_
      refine lv_iadd hx hb dX9_change_112 ?_
      refine gn_i (fun x656 => ?_)
      refine cv_v (As := [.int (nI n), .int 9, .int x656]) (rest := []) (b := w) ⟨hx, hb, hml, hown, hts⟩ (c_X9_set hT (w := w) hw (n := n) (k := 9) (x := x656) (by first | omega | decide | assumption) (by first | omega | decide | assumption)) (cwV 3 hts gX9_change_X9_set rfl rfl rfl hdX9_set_v ⟨Nat.le_of_ble_eq_true rfl, Nat.le_of_ble_eq_true rfl⟩) hN hL (rcv10 hN hT hw.1) rfl rfl hl.1 (Nat.le_of_ble_eq_true rfl) dX9_change_113 (Nat.zero_le _) (Nat.zero_le _) (fun H1 locs hL hqr657 => ?_)
      obtain ⟨hT1, hF1⟩ := hqr657
      have hF := hF.tr (hF1.mono (by simp))
      have hT := hT1
      refine lv_aload_n hx hb dX9_change_116 rfl (lv_at hl 1 rfl) ?_
      refine lv_iload_n hx hb dX9_change_117 rfl (lv_at hl 2 rfl) ?_
      refine lv_bipush (v := 10) hx hb dX9_change_118 (by decide) ?_
      refine lv_aload_n hx hb dX9_change_120 rfl (lv_at hl 1 rfl) ?_
      refine lv_iload_n hx hb dX9_change_121 rfl (lv_at hl 2 rfl) ?_
      refine lv_bipush (v := 10) hx hb dX9_change_122 (by decide) ?_
      refine cv_i (As := [.int (nI n), .int 10]) (rest := [.int 10, .int (nI n), .ref w]) (b := w) ⟨hx, hb, hml, hown, hts⟩ (c_X9_of hT (w := w) hw (n := n) (k := 10) (by first | omega | decide | assumption) (by first | omega | decide | assumption)) (cwV 2 hts gX9_change_X9_of rfl rfl rfl hdX9_of_v ⟨Nat.le_of_ble_eq_true rfl, Nat.le_of_ble_eq_true rfl⟩) hN hL (rcv10 hN hT hw.1) rfl rfl hl.1 (Nat.le_of_ble_eq_true rfl) dX9_change_124 (Nat.zero_le _) (Nat.zero_le _) (fun r658 H1 locs hL hqr658 => ?_)
      obtain rfl := hqr658
      refine lv_iload_n hx hb dX9_change_127 rfl (lv_at hl 0 rfl) ?_
      refine lv_iadd hx hb dX9_change_128 ?_
      refine gn_i (fun x659 => ?_)
      refine cv_v (As := [.int (nI n), .int 10, .int x659]) (rest := []) (b := w) ⟨hx, hb, hml, hown, hts⟩ (c_X9_set hT (w := w) hw (n := n) (k := 10) (x := x659) (by first | omega | decide | assumption) (by first | omega | decide | assumption)) (cwV 3 hts gX9_change_X9_set rfl rfl rfl hdX9_set_v ⟨Nat.le_of_ble_eq_true rfl, Nat.le_of_ble_eq_true rfl⟩) hN hL (rcv10 hN hT hw.1) rfl rfl hl.1 (Nat.le_of_ble_eq_true rfl) dX9_change_129 (Nat.zero_le _) (Nat.zero_le _) (fun H1 locs hL hqr660 => ?_)
      obtain ⟨hT1, hF1⟩ := hqr660
      have hF := hF.tr (hF1.mono (by simp))
      have hT := hT1
      refine lv_aload_n hx hb dX9_change_132 rfl (lv_at hl 1 rfl) ?_
      refine lv_iload_n hx hb dX9_change_133 rfl (lv_at hl 2 rfl) ?_
      refine lv_bipush (v := 11) hx hb dX9_change_134 (by decide) ?_
      refine lv_aload_n hx hb dX9_change_136 rfl (lv_at hl 1 rfl) ?_
      obtain ⟨hb661, e661, hat661, hk661⟩ := hT.o10 hw.1
      obtain ⟨f661_0, f661_1, f661_3, f661_4, f661_5, f661_6, f661_7, f661_8, f661_9, f661_10, f661_11, f661_12, f661_13, f661_14, f661_15, f661_16, f661_17, rfl, c661_2, c661_3, c661_4, c661_12, t661_1, t661_8, t661_9, c661_sd, t661_10, t661_11, t661_17⟩ := hk661
      have hP : va_P D vwCl [(w, .inr (9, [.int f661_0, .ref f661_1, .int (nI ((κ w).2.2.1)), .int (nI f661_3), .int (nI f661_4), .int f661_5, .int f661_6, .int f661_7, .ref f661_8, .ref f661_9, .ref f661_10, .ref f661_11, .int (nI f661_12), .int f661_13, .int f661_14, .int f661_15, .int f661_16, .ref f661_17]))] _ := va_P.cons hat661 va_P.nil
      refine va_get (D := D) (ci := 9) (v := .ref f661_8) (C := RX9) (T := TX9) (N := 18) hx hb hts iX9_change_9 hown hN.1 hP 0 rfl rfl 8 (by decide) (hts _ mX9_change_1) (fun _ h9 => h9) rfl dX9_change_137 ?_
      refine lv_iconst (v := 1) hx hb dX9_change_140 (by decide) ?_
      obtain ⟨hb662, e662, hat662, hk662⟩ := hT.o24 t661_8.1
      obtain ⟨g662, rfl, q662⟩ := hk662
      have hP : va_P D vwCl [(f661_8, .inl (cs 0, 45783, .inl g662)), (w, .inr (9, [.int f661_0, .ref f661_1, .int (nI ((κ w).2.2.1)), .int (nI f661_3), .int (nI f661_4), .int f661_5, .int f661_6, .int f661_7, .ref f661_8, .ref f661_9, .ref f661_10, .ref f661_11, .int (nI f661_12), .int f661_13, .int f661_14, .int f661_15, .int f661_16, .ref f661_17]))] _ := va_P.cons hat662 hP
      refine ld_i (v := (g662 1)) hx hb hN hP 0 rfl (vp_in_nI (n := 1) (N := 45783) (by omega) (by omega)) (by rw [(show (1 : Int32).toNatClampNeg = 1 from nI_clamp (n := 1) (by omega))]) dX9_change_141 ?_
      refine gn_i (fun x663 => ?_)
      refine cv_v (As := [.int (nI n), .int 11, .int x663]) (rest := []) (b := w) ⟨hx, hb, hml, hown, hts⟩ (c_X9_set hT (w := w) hw (n := n) (k := 11) (x := x663) (by first | omega | decide | assumption) (by first | omega | decide | assumption)) (cwV 3 hts gX9_change_X9_set rfl rfl rfl hdX9_set_v ⟨Nat.le_of_ble_eq_true rfl, Nat.le_of_ble_eq_true rfl⟩) hN hL (rcv10 hN hT hw.1) rfl rfl hl.1 (Nat.le_of_ble_eq_true rfl) dX9_change_142 (Nat.zero_le _) (Nat.zero_le _) (fun H1 locs hL hqr664 => ?_)
      obtain ⟨hT1, hF1⟩ := hqr664
      have hF := hF.tr (hF1.mono (by simp))
      have hT := hT1
      refine lv_aload_n hx hb dX9_change_145 rfl (lv_at hl 1 rfl) ?_
      refine lv_iload_n hx hb dX9_change_146 rfl (lv_at hl 2 rfl) ?_
      refine cv_v (As := [.int (nI n)]) (rest := []) (b := w) ⟨hx, hb, hml, hown, hts⟩ (c_X9_dropPlan hT (w := w) hw (n := n) (by first | omega | decide | assumption)) (cwV 1 hts gX9_change_X9_dropPlan rfl rfl rfl hdX9_dropPlan_v ⟨Nat.le_of_ble_eq_true rfl, Nat.le_of_ble_eq_true rfl⟩) hN hL (rcv10 hN hT hw.1) rfl rfl hl.1 (Nat.le_of_ble_eq_true rfl) dX9_change_147 (Nat.zero_le _) (Nat.zero_le _) (fun H1 locs hL hqr665 => ?_)
      obtain ⟨hT1, hF1⟩ := hqr665
      have hF := hF.tr (hF1.mono (by simp))
      have hT := hT1
      refine lv_aload_n hx hb dX9_change_150 rfl (lv_at hl 1 rfl) ?_
      obtain ⟨hb666, e666, hat666, hk666⟩ := hT.o10 hw.1
      obtain ⟨f666_0, f666_1, f666_3, f666_4, f666_5, f666_6, f666_7, f666_8, f666_9, f666_10, f666_11, f666_12, f666_13, f666_14, f666_15, f666_16, f666_17, rfl, c666_2, c666_3, c666_4, c666_12, t666_1, t666_8, t666_9, c666_sd, t666_10, t666_11, t666_17⟩ := hk666
      have hP : va_P D vwCl [(w, .inr (9, [.int f666_0, .ref f666_1, .int (nI ((κ w).2.2.1)), .int (nI f666_3), .int (nI f666_4), .int f666_5, .int f666_6, .int f666_7, .ref f666_8, .ref f666_9, .ref f666_10, .ref f666_11, .int (nI f666_12), .int f666_13, .int f666_14, .int f666_15, .int f666_16, .ref f666_17]))] _ := va_P.cons hat666 va_P.nil
      refine va_get (D := D) (ci := 9) (v := .ref f666_8) (C := RX9) (T := TX9) (N := 18) hx hb hts iX9_change_9 hown hN.1 hP 0 rfl rfl 8 (by decide) (hts _ mX9_change_1) (fun _ h9 => h9) rfl dX9_change_151 ?_
      refine lv_bipush (v := 9) hx hb dX9_change_154 (by decide) ?_
      refine lv_dup2_11 hx hb dX9_change_156 rfl rfl ?_
      obtain ⟨hb667, e667, hat667, hk667⟩ := hT.o24 t666_8.1
      obtain ⟨g667, rfl, q667⟩ := hk667
      have hP : va_P D vwCl [(f666_8, .inl (cs 0, 45783, .inl g667)), (w, .inr (9, [.int f666_0, .ref f666_1, .int (nI ((κ w).2.2.1)), .int (nI f666_3), .int (nI f666_4), .int f666_5, .int f666_6, .int f666_7, .ref f666_8, .ref f666_9, .ref f666_10, .ref f666_11, .int (nI f666_12), .int f666_13, .int f666_14, .int f666_15, .int f666_16, .ref f666_17]))] _ := va_P.cons hat667 hP
      refine ld_i (v := (g667 9)) hx hb hN hP 0 rfl (vp_in_nI (n := 9) (N := 45783) (by omega) (by omega)) (by rw [(show (9 : Int32).toNatClampNeg = 9 from nI_clamp (n := 9) (by omega))]) dX9_change_157 ?_
      refine gn_i (fun x668 => ?_)
      refine lv_iconst (v := 1) hx hb dX9_change_158 (by decide) ?_
      refine lv_iadd hx hb dX9_change_159 ?_
      refine gn_i (fun x669 => ?_)
      have hB : Bx B0 D _ [(f666_8, .inl (cs 0, 45783, .inl g667)), (w, .inr (9, [.int f666_0, .ref f666_1, .int (nI ((κ w).2.2.1)), .int (nI f666_3), .int (nI f666_4), .int f666_5, .int f666_6, .int f666_7, .ref f666_8, .ref f666_9, .ref f666_10, .ref f666_11, .int (nI f666_12), .int f666_13, .int f666_14, .int f666_15, .int f666_16, .ref f666_17]))] [] _ _ := Bx.of (fun a => (κ a).1) hL hP (fa_c hb667 (fa_c hb666 fa_n)) (by simp only [List.map_cons, List.map_nil, t666_8.1, hw.1]; decide)
      refine b_i hx hb hN hB 0 rfl (vp_in_nI (n := 9) (N := 45783) (by omega) (by omega)) (.inl rfl) dX9_change_160 (fun H locs hB => ?_)
      rw [(show (9 : Int32).toNatClampNeg = 9 from nI_clamp (n := 9) (by omega))] at hB
      have hB : Bx B0 D _ [(f666_8, .inl (cs 0, 45783, .inl (upd g667 9 x669))), (w, .inr (9, [.int f666_0, .ref f666_1, .int (nI ((κ w).2.2.1)), .int (nI f666_3), .int (nI f666_4), .int f666_5, .int f666_6, .int f666_7, .ref f666_8, .ref f666_9, .ref f666_10, .ref f666_11, .int (nI f666_12), .int f666_13, .int f666_14, .int f666_15, .int f666_16, .ref f666_17]))] [f666_8] _ _ := hB
      have z670 := DOK.sf q667 (k := 9) (by omega) (x := x669)
      refine lv_aload_n hx hb dX9_change_161 rfl (lv_at hl 1 rfl) ?_
      refine va_get (D := D) (ci := 9) (v := .ref f666_8) (C := RX9) (T := TX9) (N := 18) hx hb hts iX9_change_9 hown hN.1 hB.1 1 rfl rfl 8 (by decide) (hts _ mX9_change_1) (fun _ h9 => h9) rfl dX9_change_162 ?_
      refine lv_bipush (v := 10) hx hb dX9_change_165 (by decide) ?_
      refine lv_dup2_11 hx hb dX9_change_167 rfl rfl ?_
      refine ld_i (v := ((upd g667 9 x669) 10)) hx hb hN hB.1 0 rfl (vp_in_nI (n := 10) (N := 45783) (by omega) (by omega)) (by rw [(show (10 : Int32).toNatClampNeg = 10 from nI_clamp (n := 10) (by omega))]) dX9_change_168 ?_
      refine gn_i (fun x671 => ?_)
      refine lv_iload_n hx hb dX9_change_169 rfl (lv_at hl 0 rfl) ?_
      refine lv_iadd hx hb dX9_change_170 ?_
      refine gn_i (fun x672 => ?_)
      refine b_i hx hb hN hB 0 rfl (vp_in_nI (n := 10) (N := 45783) (by omega) (by omega)) (.inr ⟨rfl, List.mem_of_getElem? (i := 0) rfl⟩) dX9_change_171 (fun H locs hB => ?_)
      rw [(show (10 : Int32).toNatClampNeg = 10 from nI_clamp (n := 10) (by omega))] at hB
      have hB : Bx B0 D _ [(f666_8, .inl (cs 0, 45783, .inl (upd (upd g667 9 x669) 10 x672))), (w, .inr (9, [.int f666_0, .ref f666_1, .int (nI ((κ w).2.2.1)), .int (nI f666_3), .int (nI f666_4), .int f666_5, .int f666_6, .int f666_7, .ref f666_8, .ref f666_9, .ref f666_10, .ref f666_11, .int (nI f666_12), .int f666_13, .int f666_14, .int f666_15, .int f666_16, .ref f666_17]))] [f666_8] _ _ := hB
      have z673 := DOK.sf z670 (k := 10) (by omega) (x := x672)
      have hT : WT B0 D cs T κ _ := hT.close hB ⟨⟨0, _, rfl, ok_24 t666_8.1 ⟨_, rfl, z673⟩⟩, trivial⟩
      have hF : Fr B0 [12] κ H0 _ := hF.close hB (fa_c (by simp [t666_8.2]) fa_n)
      have hL : OkL B0 _ := hB.2.2.2.2.2
      have hP : va_P D vwCl [(f666_8, .inl (cs 0, 45783, .inl (upd (upd g667 9 x669) 10 x672))), (w, .inr (9, [.int f666_0, .ref f666_1, .int (nI ((κ w).2.2.1)), .int (nI f666_3), .int (nI f666_4), .int f666_5, .int f666_6, .int f666_7, .ref f666_8, .ref f666_9, .ref f666_10, .ref f666_11, .int (nI f666_12), .int f666_13, .int f666_14, .int f666_15, .int f666_16, .ref f666_17]))] _ := hB.1
      exact en_v hx hb hr hlocks hL (Nat.zero_le _) (Nat.zero_le _) dX9_change_172 (⟨hT, hF⟩)
    · refine lv_aload_n hx hb dX9_change_40 rfl (lv_at hl 1 rfl) ?_
      refine va_get (D := D) (ci := 9) (v := .ref f648_8) (C := RX9) (T := TX9) (N := 18) hx hb hts iX9_change_9 hown hN.1 hP 1 rfl rfl 8 (by decide) (hts _ mX9_change_1) (fun _ h9 => h9) rfl dX9_change_41 ?_
      refine lv_bipush (v := 21) hx hb dX9_change_44 (by decide) ?_
      refine lv_aload_n hx hb dX9_change_46 rfl (lv_at hl 1 rfl) ?_
      refine va_get (D := D) (ci := 9) (v := .ref f648_8) (C := RX9) (T := TX9) (N := 18) hx hb hts iX9_change_9 hown hN.1 hP 1 rfl rfl 8 (by decide) (hts _ mX9_change_1) (fun _ h9 => h9) rfl dX9_change_47 ?_
      refine lv_bipush (v := 21) hx hb dX9_change_50 (by decide) ?_
      refine ld_i (v := (g649 21)) hx hb hN hP 0 rfl (vp_in_nI (n := 21) (N := 45783) (by omega) (by omega)) (by rw [(show (21 : Int32).toNatClampNeg = 21 from nI_clamp (n := 21) (by omega))]) dX9_change_52 ?_
      refine gn_i (fun x674 => ?_)
      refine lv_iconst (v := (-1)) hx hb dX9_change_53 (by decide) ?_
      refine lv_icmp_ne (tgt := 66) hx hb dX9_change_54 (by decide) (fun c675 => ?_) (fun c675 => ?_)
      · refine lv_aload_n hx hb dX9_change_66 rfl (lv_at hl 1 rfl) ?_
        refine va_get (D := D) (ci := 9) (v := .ref f648_8) (C := RX9) (T := TX9) (N := 18) hx hb hts iX9_change_9 hown hN.1 hP 1 rfl rfl 8 (by decide) (hts _ mX9_change_1) (fun _ h9 => h9) rfl dX9_change_67 ?_
        refine lv_bipush (v := 21) hx hb dX9_change_70 (by decide) ?_
        refine ld_i (v := (g649 21)) hx hb hN hP 0 rfl (vp_in_nI (n := 21) (N := 45783) (by omega) (by omega)) (by rw [(show (21 : Int32).toNatClampNeg = 21 from nI_clamp (n := 21) (by omega))]) dX9_change_72 ?_
        refine gn_i (fun x676 => ?_)
        have hB : Bx B0 D _ [(f648_8, .inl (cs 0, 45783, .inl g649)), (w, .inr (9, [.int f648_0, .ref f648_1, .int (nI ((κ w).2.2.1)), .int (nI f648_3), .int (nI f648_4), .int f648_5, .int f648_6, .int f648_7, .ref f648_8, .ref f648_9, .ref f648_10, .ref f648_11, .int (nI f648_12), .int f648_13, .int f648_14, .int f648_15, .int f648_16, .ref f648_17]))] [] _ _ := Bx.of (fun a => (κ a).1) hL hP (fa_c hb649 (fa_c hb648 fa_n)) (by simp only [List.map_cons, List.map_nil, t648_8.1, hw.1]; decide)
        refine b_i hx hb hN hB 0 rfl (vp_in_nI (n := 21) (N := 45783) (by omega) (by omega)) (.inl rfl) dX9_change_73 (fun H locs hB => ?_)
        rw [(show (21 : Int32).toNatClampNeg = 21 from nI_clamp (n := 21) (by omega))] at hB
        have hB : Bx B0 D _ [(f648_8, .inl (cs 0, 45783, .inl (upd g649 21 x676))), (w, .inr (9, [.int f648_0, .ref f648_1, .int (nI ((κ w).2.2.1)), .int (nI f648_3), .int (nI f648_4), .int f648_5, .int f648_6, .int f648_7, .ref f648_8, .ref f648_9, .ref f648_10, .ref f648_11, .int (nI f648_12), .int f648_13, .int f648_14, .int f648_15, .int f648_16, .ref f648_17]))] [f648_8] _ _ := hB
        have z677 := DOK.sf q649 (k := 21) (by omega) (x := x676)
        refine lv_aload_n hx hb dX9_change_74 rfl (lv_at hl 1 rfl) ?_
        refine va_get (D := D) (ci := 9) (v := .ref f648_8) (C := RX9) (T := TX9) (N := 18) hx hb hts iX9_change_9 hown hN.1 hB.1 1 rfl rfl 8 (by decide) (hts _ mX9_change_1) (fun _ h9 => h9) rfl dX9_change_75 ?_
        refine lv_bipush (v := 22) hx hb dX9_change_78 (by decide) ?_
        refine lv_aload_n hx hb dX9_change_80 rfl (lv_at hl 1 rfl) ?_
        refine va_get (D := D) (ci := 9) (v := .ref f648_8) (C := RX9) (T := TX9) (N := 18) hx hb hts iX9_change_9 hown hN.1 hB.1 1 rfl rfl 8 (by decide) (hts _ mX9_change_1) (fun _ h9 => h9) rfl dX9_change_81 ?_
        refine lv_iconst (v := 1) hx hb dX9_change_84 (by decide) ?_
        refine ld_i (v := ((upd g649 21 x676) 1)) hx hb hN hB.1 0 rfl (vp_in_nI (n := 1) (N := 45783) (by omega) (by omega)) (by rw [(show (1 : Int32).toNatClampNeg = 1 from nI_clamp (n := 1) (by omega))]) dX9_change_85 ?_
        refine gn_i (fun x678 => ?_)
        refine b_i hx hb hN hB 0 rfl (vp_in_nI (n := 22) (N := 45783) (by omega) (by omega)) (.inr ⟨rfl, List.mem_of_getElem? (i := 0) rfl⟩) dX9_change_86 (fun H locs hB => ?_)
        rw [(show (22 : Int32).toNatClampNeg = 22 from nI_clamp (n := 22) (by omega))] at hB
        have hB : Bx B0 D _ [(f648_8, .inl (cs 0, 45783, .inl (upd (upd g649 21 x676) 22 x678))), (w, .inr (9, [.int f648_0, .ref f648_1, .int (nI ((κ w).2.2.1)), .int (nI f648_3), .int (nI f648_4), .int f648_5, .int f648_6, .int f648_7, .ref f648_8, .ref f648_9, .ref f648_10, .ref f648_11, .int (nI f648_12), .int f648_13, .int f648_14, .int f648_15, .int f648_16, .ref f648_17]))] [f648_8] _ _ := hB
        have z679 := DOK.sf z677 (k := 22) (by omega) (x := x678)
        refine lv_aload_n hx hb dX9_change_87 rfl (lv_at hl 1 rfl) ?_
        refine lv_iload_n hx hb dX9_change_88 rfl (lv_at hl 2 rfl) ?_
        refine lv_iconst (v := 4) hx hb dX9_change_89 (by decide) ?_
        refine lv_aload_n hx hb dX9_change_90 rfl (lv_at hl 1 rfl) ?_
        refine lv_iload_n hx hb dX9_change_91 rfl (lv_at hl 2 rfl) ?_
        refine lv_bipush (v := 7) hx hb dX9_change_92 (by decide) ?_
        have hT : WT B0 D cs T κ _ := hT.close hB ⟨⟨0, _, rfl, ok_24 t648_8.1 ⟨_, rfl, z679⟩⟩, trivial⟩
        have hF : Fr B0 [12] κ H0 _ := hF.close hB (fa_c (by simp [t648_8.2]) fa_n)
        have hL : OkL B0 _ := hB.2.2.2.2.2
        have hP : va_P D vwCl [(f648_8, .inl (cs 0, 45783, .inl (upd (upd g649 21 x676) 22 x678))), (w, .inr (9, [.int f648_0, .ref f648_1, .int (nI ((κ w).2.2.1)), .int (nI f648_3), .int (nI f648_4), .int f648_5, .int f648_6, .int f648_7, .ref f648_8, .ref f648_9, .ref f648_10, .ref f648_11, .int (nI f648_12), .int f648_13, .int f648_14, .int f648_15, .int f648_16, .ref f648_17]))] _ := hB.1
        refine cv_i (As := [.int (nI n), .int 7]) (rest := [.int 4, .int (nI n), .ref w]) (b := w) ⟨hx, hb, hml, hown, hts⟩ (c_X9_of hT (w := w) hw (n := n) (k := 7) (by first | omega | decide | assumption) (by first | omega | decide | assumption)) (cwV 2 hts gX9_change_X9_of rfl rfl rfl hdX9_of_v ⟨Nat.le_of_ble_eq_true rfl, Nat.le_of_ble_eq_true rfl⟩) hN hL (rcv10 hN hT hw.1) rfl rfl hl.1 (Nat.le_of_ble_eq_true rfl) dX9_change_94 (Nat.zero_le _) (Nat.zero_le _) (fun r680 H1 locs hL hqr680 => ?_)
        obtain rfl := hqr680
        refine cv_v (As := [.int (nI n), .int 4, .int r680]) (rest := []) (b := w) ⟨hx, hb, hml, hown, hts⟩ (c_X9_set hT (w := w) hw (n := n) (k := 4) (x := r680) (by first | omega | decide | assumption) (by first | omega | decide | assumption)) (cwV 3 hts gX9_change_X9_set rfl rfl rfl hdX9_set_v ⟨Nat.le_of_ble_eq_true rfl, Nat.le_of_ble_eq_true rfl⟩) hN hL (rcv10 hN hT hw.1) rfl rfl hl.1 (Nat.le_of_ble_eq_true rfl) dX9_change_97 (Nat.zero_le _) (Nat.zero_le _) (fun H1 locs hL hqr681 => ?_)
        obtain ⟨hT1, hF1⟩ := hqr681
        have hF := hF.tr (hF1.mono (by simp))
        have hT := hT1
        refine lv_aload_n hx hb dX9_change_100 rfl (lv_at hl 1 rfl) ?_
        refine lv_iload_n hx hb dX9_change_101 rfl (lv_at hl 2 rfl) ?_
        refine lv_bipush (v := 9) hx hb dX9_change_102 (by decide) ?_
        refine lv_aload_n hx hb dX9_change_104 rfl (lv_at hl 1 rfl) ?_
        refine lv_iload_n hx hb dX9_change_105 rfl (lv_at hl 2 rfl) ?_
        refine lv_bipush (v := 9) hx hb dX9_change_106 (by decide) ?_
        refine cv_i (As := [.int (nI n), .int 9]) (rest := [.int 9, .int (nI n), .ref w]) (b := w) ⟨hx, hb, hml, hown, hts⟩ (c_X9_of hT (w := w) hw (n := n) (k := 9) (by first | omega | decide | assumption) (by first | omega | decide | assumption)) (cwV 2 hts gX9_change_X9_of rfl rfl rfl hdX9_of_v ⟨Nat.le_of_ble_eq_true rfl, Nat.le_of_ble_eq_true rfl⟩) hN hL (rcv10 hN hT hw.1) rfl rfl hl.1 (Nat.le_of_ble_eq_true rfl) dX9_change_108 (Nat.zero_le _) (Nat.zero_le _) (fun r682 H1 locs hL hqr682 => ?_)
        obtain rfl := hqr682
        refine lv_iconst (v := 1) hx hb dX9_change_111 (by decide) ?_
        refine lv_iadd hx hb dX9_change_112 ?_
        refine gn_i (fun x683 => ?_)
        refine cv_v (As := [.int (nI n), .int 9, .int x683]) (rest := []) (b := w) ⟨hx, hb, hml, hown, hts⟩ (c_X9_set hT (w := w) hw (n := n) (k := 9) (x := x683) (by first | omega | decide | assumption) (by first | omega | decide | assumption)) (cwV 3 hts gX9_change_X9_set rfl rfl rfl hdX9_set_v ⟨Nat.le_of_ble_eq_true rfl, Nat.le_of_ble_eq_true rfl⟩) hN hL (rcv10 hN hT hw.1) rfl rfl hl.1 (Nat.le_of_ble_eq_true rfl) dX9_change_113 (Nat.zero_le _) (Nat.zero_le _) (fun H1 locs hL hqr684 => ?_)
        obtain ⟨hT1, hF1⟩ := hqr684
        have hF := hF.tr (hF1.mono (by simp))
        have hT := hT1
        refine lv_aload_n hx hb dX9_change_116 rfl (lv_at hl 1 rfl) ?_
        refine lv_iload_n hx hb dX9_change_117 rfl (lv_at hl 2 rfl) ?_
        refine lv_bipush (v := 10) hx hb dX9_change_118 (by decide) ?_
        refine lv_aload_n hx hb dX9_change_120 rfl (lv_at hl 1 rfl) ?_
        refine lv_iload_n hx hb dX9_change_121 rfl (lv_at hl 2 rfl) ?_
        refine lv_bipush (v := 10) hx hb dX9_change_122 (by decide) ?_
        refine cv_i (As := [.int (nI n), .int 10]) (rest := [.int 10, .int (nI n), .ref w]) (b := w) ⟨hx, hb, hml, hown, hts⟩ (c_X9_of hT (w := w) hw (n := n) (k := 10) (by first | omega | decide | assumption) (by first | omega | decide | assumption)) (cwV 2 hts gX9_change_X9_of rfl rfl rfl hdX9_of_v ⟨Nat.le_of_ble_eq_true rfl, Nat.le_of_ble_eq_true rfl⟩) hN hL (rcv10 hN hT hw.1) rfl rfl hl.1 (Nat.le_of_ble_eq_true rfl) dX9_change_124 (Nat.zero_le _) (Nat.zero_le _) (fun r685 H1 locs hL hqr685 => ?_)
        obtain rfl := hqr685
        refine lv_iload_n hx hb dX9_change_127 rfl (lv_at hl 0 rfl) ?_
        refine lv_iadd hx hb dX9_change_128 ?_
        refine gn_i (fun x686 => ?_)
        refine cv_v (As := [.int (nI n), .int 10, .int x686]) (rest := []) (b := w) ⟨hx, hb, hml, hown, hts⟩ (c_X9_set hT (w := w) hw (n := n) (k := 10) (x := x686) (by first | omega | decide | assumption) (by first | omega | decide | assumption)) (cwV 3 hts gX9_change_X9_set rfl rfl rfl hdX9_set_v ⟨Nat.le_of_ble_eq_true rfl, Nat.le_of_ble_eq_true rfl⟩) hN hL (rcv10 hN hT hw.1) rfl rfl hl.1 (Nat.le_of_ble_eq_true rfl) dX9_change_129 (Nat.zero_le _) (Nat.zero_le _) (fun H1 locs hL hqr687 => ?_)
        obtain ⟨hT1, hF1⟩ := hqr687
        have hF := hF.tr (hF1.mono (by simp))
        have hT := hT1
        refine lv_aload_n hx hb dX9_change_132 rfl (lv_at hl 1 rfl) ?_
        refine lv_iload_n hx hb dX9_change_133 rfl (lv_at hl 2 rfl) ?_
        refine lv_bipush (v := 11) hx hb dX9_change_134 (by decide) ?_
        refine lv_aload_n hx hb dX9_change_136 rfl (lv_at hl 1 rfl) ?_
        obtain ⟨hb688, e688, hat688, hk688⟩ := hT.o10 hw.1
        obtain ⟨f688_0, f688_1, f688_3, f688_4, f688_5, f688_6, f688_7, f688_8, f688_9, f688_10, f688_11, f688_12, f688_13, f688_14, f688_15, f688_16, f688_17, rfl, c688_2, c688_3, c688_4, c688_12, t688_1, t688_8, t688_9, c688_sd, t688_10, t688_11, t688_17⟩ := hk688
        have hP : va_P D vwCl [(w, .inr (9, [.int f688_0, .ref f688_1, .int (nI ((κ w).2.2.1)), .int (nI f688_3), .int (nI f688_4), .int f688_5, .int f688_6, .int f688_7, .ref f688_8, .ref f688_9, .ref f688_10, .ref f688_11, .int (nI f688_12), .int f688_13, .int f688_14, .int f688_15, .int f688_16, .ref f688_17]))] _ := va_P.cons hat688 va_P.nil
        refine va_get (D := D) (ci := 9) (v := .ref f688_8) (C := RX9) (T := TX9) (N := 18) hx hb hts iX9_change_9 hown hN.1 hP 0 rfl rfl 8 (by decide) (hts _ mX9_change_1) (fun _ h9 => h9) rfl dX9_change_137 ?_
        refine lv_iconst (v := 1) hx hb dX9_change_140 (by decide) ?_
        obtain ⟨hb689, e689, hat689, hk689⟩ := hT.o24 t688_8.1
        obtain ⟨g689, rfl, q689⟩ := hk689
        have hP : va_P D vwCl [(f688_8, .inl (cs 0, 45783, .inl g689)), (w, .inr (9, [.int f688_0, .ref f688_1, .int (nI ((κ w).2.2.1)), .int (nI f688_3), .int (nI f688_4), .int f688_5, .int f688_6, .int f688_7, .ref f688_8, .ref f688_9, .ref f688_10, .ref f688_11, .int (nI f688_12), .int f688_13, .int f688_14, .int f688_15, .int f688_16, .ref f688_17]))] _ := va_P.cons hat689 hP
        refine ld_i (v := (g689 1)) hx hb hN hP 0 rfl (vp_in_nI (n := 1) (N := 45783) (by omega) (by omega)) (by rw [(show (1 : Int32).toNatClampNeg = 1 from nI_clamp (n := 1) (by omega))]) dX9_change_141 ?_
        refine gn_i (fun x690 => ?_)
        refine cv_v (As := [.int (nI n), .int 11, .int x690]) (rest := []) (b := w) ⟨hx, hb, hml, hown, hts⟩ (c_X9_set hT (w := w) hw (n := n) (k := 11) (x := x690) (by first | omega | decide | assumption) (by first | omega | decide | assumption)) (cwV 3 hts gX9_change_X9_set rfl rfl rfl hdX9_set_v ⟨Nat.le_of_ble_eq_true rfl, Nat.le_of_ble_eq_true rfl⟩) hN hL (rcv10 hN hT hw.1) rfl rfl hl.1 (Nat.le_of_ble_eq_true rfl) dX9_change_142 (Nat.zero_le _) (Nat.zero_le _) (fun H1 locs hL hqr691 => ?_)
        obtain ⟨hT1, hF1⟩ := hqr691
        have hF := hF.tr (hF1.mono (by simp))
        have hT := hT1
        refine lv_aload_n hx hb dX9_change_145 rfl (lv_at hl 1 rfl) ?_
        refine lv_iload_n hx hb dX9_change_146 rfl (lv_at hl 2 rfl) ?_
        refine cv_v (As := [.int (nI n)]) (rest := []) (b := w) ⟨hx, hb, hml, hown, hts⟩ (c_X9_dropPlan hT (w := w) hw (n := n) (by first | omega | decide | assumption)) (cwV 1 hts gX9_change_X9_dropPlan rfl rfl rfl hdX9_dropPlan_v ⟨Nat.le_of_ble_eq_true rfl, Nat.le_of_ble_eq_true rfl⟩) hN hL (rcv10 hN hT hw.1) rfl rfl hl.1 (Nat.le_of_ble_eq_true rfl) dX9_change_147 (Nat.zero_le _) (Nat.zero_le _) (fun H1 locs hL hqr692 => ?_)
        obtain ⟨hT1, hF1⟩ := hqr692
        have hF := hF.tr (hF1.mono (by simp))
        have hT := hT1
        refine lv_aload_n hx hb dX9_change_150 rfl (lv_at hl 1 rfl) ?_
        obtain ⟨hb693, e693, hat693, hk693⟩ := hT.o10 hw.1
        obtain ⟨f693_0, f693_1, f693_3, f693_4, f693_5, f693_6, f693_7, f693_8, f693_9, f693_10, f693_11, f693_12, f693_13, f693_14, f693_15, f693_16, f693_17, rfl, c693_2, c693_3, c693_4, c693_12, t693_1, t693_8, t693_9, c693_sd, t693_10, t693_11, t693_17⟩ := hk693
        have hP : va_P D vwCl [(w, .inr (9, [.int f693_0, .ref f693_1, .int (nI ((κ w).2.2.1)), .int (nI f693_3), .int (nI f693_4), .int f693_5, .int f693_6, .int f693_7, .ref f693_8, .ref f693_9, .ref f693_10, .ref f693_11, .int (nI f693_12), .int f693_13, .int f693_14, .int f693_15, .int f693_16, .ref f693_17]))] _ := va_P.cons hat693 va_P.nil
        refine va_get (D := D) (ci := 9) (v := .ref f693_8) (C := RX9) (T := TX9) (N := 18) hx hb hts iX9_change_9 hown hN.1 hP 0 rfl rfl 8 (by decide) (hts _ mX9_change_1) (fun _ h9 => h9) rfl dX9_change_151 ?_
        refine lv_bipush (v := 9) hx hb dX9_change_154 (by decide) ?_
        refine lv_dup2_11 hx hb dX9_change_156 rfl rfl ?_
        obtain ⟨hb694, e694, hat694, hk694⟩ := hT.o24 t693_8.1
        obtain ⟨g694, rfl, q694⟩ := hk694
        have hP : va_P D vwCl [(f693_8, .inl (cs 0, 45783, .inl g694)), (w, .inr (9, [.int f693_0, .ref f693_1, .int (nI ((κ w).2.2.1)), .int (nI f693_3), .int (nI f693_4), .int f693_5, .int f693_6, .int f693_7, .ref f693_8, .ref f693_9, .ref f693_10, .ref f693_11, .int (nI f693_12), .int f693_13, .int f693_14, .int f693_15, .int f693_16, .ref f693_17]))] _ := va_P.cons hat694 hP
        refine ld_i (v := (g694 9)) hx hb hN hP 0 rfl (vp_in_nI (n := 9) (N := 45783) (by omega) (by omega)) (by rw [(show (9 : Int32).toNatClampNeg = 9 from nI_clamp (n := 9) (by omega))]) dX9_change_157 ?_
        refine gn_i (fun x695 => ?_)
        refine lv_iconst (v := 1) hx hb dX9_change_158 (by decide) ?_
        refine lv_iadd hx hb dX9_change_159 ?_
        refine gn_i (fun x696 => ?_)
        have hB : Bx B0 D _ [(f693_8, .inl (cs 0, 45783, .inl g694)), (w, .inr (9, [.int f693_0, .ref f693_1, .int (nI ((κ w).2.2.1)), .int (nI f693_3), .int (nI f693_4), .int f693_5, .int f693_6, .int f693_7, .ref f693_8, .ref f693_9, .ref f693_10, .ref f693_11, .int (nI f693_12), .int f693_13, .int f693_14, .int f693_15, .int f693_16, .ref f693_17]))] [] _ _ := Bx.of (fun a => (κ a).1) hL hP (fa_c hb694 (fa_c hb693 fa_n)) (by simp only [List.map_cons, List.map_nil, t693_8.1, hw.1]; decide)
        refine b_i hx hb hN hB 0 rfl (vp_in_nI (n := 9) (N := 45783) (by omega) (by omega)) (.inl rfl) dX9_change_160 (fun H locs hB => ?_)
        rw [(show (9 : Int32).toNatClampNeg = 9 from nI_clamp (n := 9) (by omega))] at hB
        have hB : Bx B0 D _ [(f693_8, .inl (cs 0, 45783, .inl (upd g694 9 x696))), (w, .inr (9, [.int f693_0, .ref f693_1, .int (nI ((κ w).2.2.1)), .int (nI f693_3), .int (nI f693_4), .int f693_5, .int f693_6, .int f693_7, .ref f693_8, .ref f693_9, .ref f693_10, .ref f693_11, .int (nI f693_12), .int f693_13, .int f693_14, .int f693_15, .int f693_16, .ref f693_17]))] [f693_8] _ _ := hB
        have z697 := DOK.sf q694 (k := 9) (by omega) (x := x696)
        refine lv_aload_n hx hb dX9_change_161 rfl (lv_at hl 1 rfl) ?_
        refine va_get (D := D) (ci := 9) (v := .ref f693_8) (C := RX9) (T := TX9) (N := 18) hx hb hts iX9_change_9 hown hN.1 hB.1 1 rfl rfl 8 (by decide) (hts _ mX9_change_1) (fun _ h9 => h9) rfl dX9_change_162 ?_
        refine lv_bipush (v := 10) hx hb dX9_change_165 (by decide) ?_
        refine lv_dup2_11 hx hb dX9_change_167 rfl rfl ?_
        refine ld_i (v := ((upd g694 9 x696) 10)) hx hb hN hB.1 0 rfl (vp_in_nI (n := 10) (N := 45783) (by omega) (by omega)) (by rw [(show (10 : Int32).toNatClampNeg = 10 from nI_clamp (n := 10) (by omega))]) dX9_change_168 ?_
        refine gn_i (fun x698 => ?_)
        refine lv_iload_n hx hb dX9_change_169 rfl (lv_at hl 0 rfl) ?_
        refine lv_iadd hx hb dX9_change_170 ?_
        refine gn_i (fun x699 => ?_)
        refine b_i hx hb hN hB 0 rfl (vp_in_nI (n := 10) (N := 45783) (by omega) (by omega)) (.inr ⟨rfl, List.mem_of_getElem? (i := 0) rfl⟩) dX9_change_171 (fun H locs hB => ?_)
        rw [(show (10 : Int32).toNatClampNeg = 10 from nI_clamp (n := 10) (by omega))] at hB
        have hB : Bx B0 D _ [(f693_8, .inl (cs 0, 45783, .inl (upd (upd g694 9 x696) 10 x699))), (w, .inr (9, [.int f693_0, .ref f693_1, .int (nI ((κ w).2.2.1)), .int (nI f693_3), .int (nI f693_4), .int f693_5, .int f693_6, .int f693_7, .ref f693_8, .ref f693_9, .ref f693_10, .ref f693_11, .int (nI f693_12), .int f693_13, .int f693_14, .int f693_15, .int f693_16, .ref f693_17]))] [f693_8] _ _ := hB
        have z700 := DOK.sf z697 (k := 10) (by omega) (x := x699)
        have hT : WT B0 D cs T κ _ := hT.close hB ⟨⟨0, _, rfl, ok_24 t693_8.1 ⟨_, rfl, z700⟩⟩, trivial⟩
        have hF : Fr B0 [12] κ H0 _ := hF.close hB (fa_c (by simp [t693_8.2]) fa_n)
        have hL : OkL B0 _ := hB.2.2.2.2.2
        have hP : va_P D vwCl [(f693_8, .inl (cs 0, 45783, .inl (upd (upd g694 9 x696) 10 x699))), (w, .inr (9, [.int f693_0, .ref f693_1, .int (nI ((κ w).2.2.1)), .int (nI f693_3), .int (nI f693_4), .int f693_5, .int f693_6, .int f693_7, .ref f693_8, .ref f693_9, .ref f693_10, .ref f693_11, .int (nI f693_12), .int f693_13, .int f693_14, .int f693_15, .int f693_16, .ref f693_17]))] _ := hB.1
        exact en_v hx hb hr hlocks hL (Nat.zero_le _) (Nat.zero_le _) dX9_change_172 (⟨hT, hF⟩)
      · refine lv_aload_n hx hb dX9_change_57 rfl (lv_at hl 1 rfl) ?_
        refine va_get (D := D) (ci := 9) (v := .ref f648_8) (C := RX9) (T := TX9) (N := 18) hx hb hts iX9_change_9 hown hN.1 hP 1 rfl rfl 8 (by decide) (hts _ mX9_change_1) (fun _ h9 => h9) rfl dX9_change_58 ?_
        refine lv_iconst (v := 1) hx hb dX9_change_61 (by decide) ?_
        refine ld_i (v := (g649 1)) hx hb hN hP 0 rfl (vp_in_nI (n := 1) (N := 45783) (by omega) (by omega)) (by rw [(show (1 : Int32).toNatClampNeg = 1 from nI_clamp (n := 1) (by omega))]) dX9_change_62 ?_
        refine gn_i (fun x701 => ?_)
        refine lv_goto (tgt := 73) hx hb dX9_change_63 (by decide) ?_
        have hB : Bx B0 D _ [(f648_8, .inl (cs 0, 45783, .inl g649)), (w, .inr (9, [.int f648_0, .ref f648_1, .int (nI ((κ w).2.2.1)), .int (nI f648_3), .int (nI f648_4), .int f648_5, .int f648_6, .int f648_7, .ref f648_8, .ref f648_9, .ref f648_10, .ref f648_11, .int (nI f648_12), .int f648_13, .int f648_14, .int f648_15, .int f648_16, .ref f648_17]))] [] _ _ := Bx.of (fun a => (κ a).1) hL hP (fa_c hb649 (fa_c hb648 fa_n)) (by simp only [List.map_cons, List.map_nil, t648_8.1, hw.1]; decide)
        refine b_i hx hb hN hB 0 rfl (vp_in_nI (n := 21) (N := 45783) (by omega) (by omega)) (.inl rfl) dX9_change_73 (fun H locs hB => ?_)
        rw [(show (21 : Int32).toNatClampNeg = 21 from nI_clamp (n := 21) (by omega))] at hB
        have hB : Bx B0 D _ [(f648_8, .inl (cs 0, 45783, .inl (upd g649 21 x701))), (w, .inr (9, [.int f648_0, .ref f648_1, .int (nI ((κ w).2.2.1)), .int (nI f648_3), .int (nI f648_4), .int f648_5, .int f648_6, .int f648_7, .ref f648_8, .ref f648_9, .ref f648_10, .ref f648_11, .int (nI f648_12), .int f648_13, .int f648_14, .int f648_15, .int f648_16, .ref f648_17]))] [f648_8] _ _ := hB
        have z702 := DOK.sf q649 (k := 21) (by omega) (x := x701)
        refine lv_aload_n hx hb dX9_change_74 rfl (lv_at hl 1 rfl) ?_
        refine va_get (D := D) (ci := 9) (v := .ref f648_8) (C := RX9) (T := TX9) (N := 18) hx hb hts iX9_change_9 hown hN.1 hB.1 1 rfl rfl 8 (by decide) (hts _ mX9_change_1) (fun _ h9 => h9) rfl dX9_change_75 ?_
        refine lv_bipush (v := 22) hx hb dX9_change_78 (by decide) ?_
        refine lv_aload_n hx hb dX9_change_80 rfl (lv_at hl 1 rfl) ?_
        refine va_get (D := D) (ci := 9) (v := .ref f648_8) (C := RX9) (T := TX9) (N := 18) hx hb hts iX9_change_9 hown hN.1 hB.1 1 rfl rfl 8 (by decide) (hts _ mX9_change_1) (fun _ h9 => h9) rfl dX9_change_81 ?_
        refine lv_iconst (v := 1) hx hb dX9_change_84 (by decide) ?_
        refine ld_i (v := ((upd g649 21 x701) 1)) hx hb hN hB.1 0 rfl (vp_in_nI (n := 1) (N := 45783) (by omega) (by omega)) (by rw [(show (1 : Int32).toNatClampNeg = 1 from nI_clamp (n := 1) (by omega))]) dX9_change_85 ?_
        refine gn_i (fun x703 => ?_)
        refine b_i hx hb hN hB 0 rfl (vp_in_nI (n := 22) (N := 45783) (by omega) (by omega)) (.inr ⟨rfl, List.mem_of_getElem? (i := 0) rfl⟩) dX9_change_86 (fun H locs hB => ?_)
        rw [(show (22 : Int32).toNatClampNeg = 22 from nI_clamp (n := 22) (by omega))] at hB
        have hB : Bx B0 D _ [(f648_8, .inl (cs 0, 45783, .inl (upd (upd g649 21 x701) 22 x703))), (w, .inr (9, [.int f648_0, .ref f648_1, .int (nI ((κ w).2.2.1)), .int (nI f648_3), .int (nI f648_4), .int f648_5, .int f648_6, .int f648_7, .ref f648_8, .ref f648_9, .ref f648_10, .ref f648_11, .int (nI f648_12), .int f648_13, .int f648_14, .int f648_15, .int f648_16, .ref f648_17]))] [f648_8] _ _ := hB
        have z704 := DOK.sf z702 (k := 22) (by omega) (x := x703)
        refine lv_aload_n hx hb dX9_change_87 rfl (lv_at hl 1 rfl) ?_
        refine lv_iload_n hx hb dX9_change_88 rfl (lv_at hl 2 rfl) ?_
        refine lv_iconst (v := 4) hx hb dX9_change_89 (by decide) ?_
        refine lv_aload_n hx hb dX9_change_90 rfl (lv_at hl 1 rfl) ?_
        refine lv_iload_n hx hb dX9_change_91 rfl (lv_at hl 2 rfl) ?_
        refine lv_bipush (v := 7) hx hb dX9_change_92 (by decide) ?_
        have hT : WT B0 D cs T κ _ := hT.close hB ⟨⟨0, _, rfl, ok_24 t648_8.1 ⟨_, rfl, z704⟩⟩, trivial⟩
        have hF : Fr B0 [12] κ H0 _ := hF.close hB (fa_c (by simp [t648_8.2]) fa_n)
        have hL : OkL B0 _ := hB.2.2.2.2.2
        have hP : va_P D vwCl [(f648_8, .inl (cs 0, 45783, .inl (upd (upd g649 21 x701) 22 x703))), (w, .inr (9, [.int f648_0, .ref f648_1, .int (nI ((κ w).2.2.1)), .int (nI f648_3), .int (nI f648_4), .int f648_5, .int f648_6, .int f648_7, .ref f648_8, .ref f648_9, .ref f648_10, .ref f648_11, .int (nI f648_12), .int f648_13, .int f648_14, .int f648_15, .int f648_16, .ref f648_17]))] _ := hB.1
        refine cv_i (As := [.int (nI n), .int 7]) (rest := [.int 4, .int (nI n), .ref w]) (b := w) ⟨hx, hb, hml, hown, hts⟩ (c_X9_of hT (w := w) hw (n := n) (k := 7) (by first | omega | decide | assumption) (by first | omega | decide | assumption)) (cwV 2 hts gX9_change_X9_of rfl rfl rfl hdX9_of_v ⟨Nat.le_of_ble_eq_true rfl, Nat.le_of_ble_eq_true rfl⟩) hN hL (rcv10 hN hT hw.1) rfl rfl hl.1 (Nat.le_of_ble_eq_true rfl) dX9_change_94 (Nat.zero_le _) (Nat.zero_le _) (fun r705 H1 locs hL hqr705 => ?_)
        obtain rfl := hqr705
        refine cv_v (As := [.int (nI n), .int 4, .int r705]) (rest := []) (b := w) ⟨hx, hb, hml, hown, hts⟩ (c_X9_set hT (w := w) hw (n := n) (k := 4) (x := r705) (by first | omega | decide | assumption) (by first | omega | decide | assumption)) (cwV 3 hts gX9_change_X9_set rfl rfl rfl hdX9_set_v ⟨Nat.le_of_ble_eq_true rfl, Nat.le_of_ble_eq_true rfl⟩) hN hL (rcv10 hN hT hw.1) rfl rfl hl.1 (Nat.le_of_ble_eq_true rfl) dX9_change_97 (Nat.zero_le _) (Nat.zero_le _) (fun H1 locs hL hqr706 => ?_)
        obtain ⟨hT1, hF1⟩ := hqr706
        have hF := hF.tr (hF1.mono (by simp))
        have hT := hT1
        refine lv_aload_n hx hb dX9_change_100 rfl (lv_at hl 1 rfl) ?_
        refine lv_iload_n hx hb dX9_change_101 rfl (lv_at hl 2 rfl) ?_
        refine lv_bipush (v := 9) hx hb dX9_change_102 (by decide) ?_
        refine lv_aload_n hx hb dX9_change_104 rfl (lv_at hl 1 rfl) ?_
        refine lv_iload_n hx hb dX9_change_105 rfl (lv_at hl 2 rfl) ?_
        refine lv_bipush (v := 9) hx hb dX9_change_106 (by decide) ?_
        refine cv_i (As := [.int (nI n), .int 9]) (rest := [.int 9, .int (nI n), .ref w]) (b := w) ⟨hx, hb, hml, hown, hts⟩ (c_X9_of hT (w := w) hw (n := n) (k := 9) (by first | omega | decide | assumption) (by first | omega | decide | assumption)) (cwV 2 hts gX9_change_X9_of rfl rfl rfl hdX9_of_v ⟨Nat.le_of_ble_eq_true rfl, Nat.le_of_ble_eq_true rfl⟩) hN hL (rcv10 hN hT hw.1) rfl rfl hl.1 (Nat.le_of_ble_eq_true rfl) dX9_change_108 (Nat.zero_le _) (Nat.zero_le _) (fun r707 H1 locs hL hqr707 => ?_)
        obtain rfl := hqr707
        refine lv_iconst (v := 1) hx hb dX9_change_111 (by decide) ?_
        refine lv_iadd hx hb dX9_change_112 ?_
        refine gn_i (fun x708 => ?_)
        refine cv_v (As := [.int (nI n), .int 9, .int x708]) (rest := []) (b := w) ⟨hx, hb, hml, hown, hts⟩ (c_X9_set hT (w := w) hw (n := n) (k := 9) (x := x708) (by first | omega | decide | assumption) (by first | omega | decide | assumption)) (cwV 3 hts gX9_change_X9_set rfl rfl rfl hdX9_set_v ⟨Nat.le_of_ble_eq_true rfl, Nat.le_of_ble_eq_true rfl⟩) hN hL (rcv10 hN hT hw.1) rfl rfl hl.1 (Nat.le_of_ble_eq_true rfl) dX9_change_113 (Nat.zero_le _) (Nat.zero_le _) (fun H1 locs hL hqr709 => ?_)
        obtain ⟨hT1, hF1⟩ := hqr709
        have hF := hF.tr (hF1.mono (by simp))
        have hT := hT1
        refine lv_aload_n hx hb dX9_change_116 rfl (lv_at hl 1 rfl) ?_
        refine lv_iload_n hx hb dX9_change_117 rfl (lv_at hl 2 rfl) ?_
        refine lv_bipush (v := 10) hx hb dX9_change_118 (by decide) ?_
        refine lv_aload_n hx hb dX9_change_120 rfl (lv_at hl 1 rfl) ?_
        refine lv_iload_n hx hb dX9_change_121 rfl (lv_at hl 2 rfl) ?_
        refine lv_bipush (v := 10) hx hb dX9_change_122 (by decide) ?_
        refine cv_i (As := [.int (nI n), .int 10]) (rest := [.int 10, .int (nI n), .ref w]) (b := w) ⟨hx, hb, hml, hown, hts⟩ (c_X9_of hT (w := w) hw (n := n) (k := 10) (by first | omega | decide | assumption) (by first | omega | decide | assumption)) (cwV 2 hts gX9_change_X9_of rfl rfl rfl hdX9_of_v ⟨Nat.le_of_ble_eq_true rfl, Nat.le_of_ble_eq_true rfl⟩) hN hL (rcv10 hN hT hw.1) rfl rfl hl.1 (Nat.le_of_ble_eq_true rfl) dX9_change_124 (Nat.zero_le _) (Nat.zero_le _) (fun r710 H1 locs hL hqr710 => ?_)
        obtain rfl := hqr710
        refine lv_iload_n hx hb dX9_change_127 rfl (lv_at hl 0 rfl) ?_
        refine lv_iadd hx hb dX9_change_128 ?_
        refine gn_i (fun x711 => ?_)
        refine cv_v (As := [.int (nI n), .int 10, .int x711]) (rest := []) (b := w) ⟨hx, hb, hml, hown, hts⟩ (c_X9_set hT (w := w) hw (n := n) (k := 10) (x := x711) (by first | omega | decide | assumption) (by first | omega | decide | assumption)) (cwV 3 hts gX9_change_X9_set rfl rfl rfl hdX9_set_v ⟨Nat.le_of_ble_eq_true rfl, Nat.le_of_ble_eq_true rfl⟩) hN hL (rcv10 hN hT hw.1) rfl rfl hl.1 (Nat.le_of_ble_eq_true rfl) dX9_change_129 (Nat.zero_le _) (Nat.zero_le _) (fun H1 locs hL hqr712 => ?_)
        obtain ⟨hT1, hF1⟩ := hqr712
        have hF := hF.tr (hF1.mono (by simp))
        have hT := hT1
        refine lv_aload_n hx hb dX9_change_132 rfl (lv_at hl 1 rfl) ?_
        refine lv_iload_n hx hb dX9_change_133 rfl (lv_at hl 2 rfl) ?_
        refine lv_bipush (v := 11) hx hb dX9_change_134 (by decide) ?_
        refine lv_aload_n hx hb dX9_change_136 rfl (lv_at hl 1 rfl) ?_
        obtain ⟨hb713, e713, hat713, hk713⟩ := hT.o10 hw.1
        obtain ⟨f713_0, f713_1, f713_3, f713_4, f713_5, f713_6, f713_7, f713_8, f713_9, f713_10, f713_11, f713_12, f713_13, f713_14, f713_15, f713_16, f713_17, rfl, c713_2, c713_3, c713_4, c713_12, t713_1, t713_8, t713_9, c713_sd, t713_10, t713_11, t713_17⟩ := hk713
        have hP : va_P D vwCl [(w, .inr (9, [.int f713_0, .ref f713_1, .int (nI ((κ w).2.2.1)), .int (nI f713_3), .int (nI f713_4), .int f713_5, .int f713_6, .int f713_7, .ref f713_8, .ref f713_9, .ref f713_10, .ref f713_11, .int (nI f713_12), .int f713_13, .int f713_14, .int f713_15, .int f713_16, .ref f713_17]))] _ := va_P.cons hat713 va_P.nil
        refine va_get (D := D) (ci := 9) (v := .ref f713_8) (C := RX9) (T := TX9) (N := 18) hx hb hts iX9_change_9 hown hN.1 hP 0 rfl rfl 8 (by decide) (hts _ mX9_change_1) (fun _ h9 => h9) rfl dX9_change_137 ?_
        refine lv_iconst (v := 1) hx hb dX9_change_140 (by decide) ?_
        obtain ⟨hb714, e714, hat714, hk714⟩ := hT.o24 t713_8.1
        obtain ⟨g714, rfl, q714⟩ := hk714
        have hP : va_P D vwCl [(f713_8, .inl (cs 0, 45783, .inl g714)), (w, .inr (9, [.int f713_0, .ref f713_1, .int (nI ((κ w).2.2.1)), .int (nI f713_3), .int (nI f713_4), .int f713_5, .int f713_6, .int f713_7, .ref f713_8, .ref f713_9, .ref f713_10, .ref f713_11, .int (nI f713_12), .int f713_13, .int f713_14, .int f713_15, .int f713_16, .ref f713_17]))] _ := va_P.cons hat714 hP
        refine ld_i (v := (g714 1)) hx hb hN hP 0 rfl (vp_in_nI (n := 1) (N := 45783) (by omega) (by omega)) (by rw [(show (1 : Int32).toNatClampNeg = 1 from nI_clamp (n := 1) (by omega))]) dX9_change_141 ?_
        refine gn_i (fun x715 => ?_)
        refine cv_v (As := [.int (nI n), .int 11, .int x715]) (rest := []) (b := w) ⟨hx, hb, hml, hown, hts⟩ (c_X9_set hT (w := w) hw (n := n) (k := 11) (x := x715) (by first | omega | decide | assumption) (by first | omega | decide | assumption)) (cwV 3 hts gX9_change_X9_set rfl rfl rfl hdX9_set_v ⟨Nat.le_of_ble_eq_true rfl, Nat.le_of_ble_eq_true rfl⟩) hN hL (rcv10 hN hT hw.1) rfl rfl hl.1 (Nat.le_of_ble_eq_true rfl) dX9_change_142 (Nat.zero_le _) (Nat.zero_le _) (fun H1 locs hL hqr716 => ?_)
        obtain ⟨hT1, hF1⟩ := hqr716
        have hF := hF.tr (hF1.mono (by simp))
        have hT := hT1
        refine lv_aload_n hx hb dX9_change_145 rfl (lv_at hl 1 rfl) ?_
        refine lv_iload_n hx hb dX9_change_146 rfl (lv_at hl 2 rfl) ?_
        refine cv_v (As := [.int (nI n)]) (rest := []) (b := w) ⟨hx, hb, hml, hown, hts⟩ (c_X9_dropPlan hT (w := w) hw (n := n) (by first | omega | decide | assumption)) (cwV 1 hts gX9_change_X9_dropPlan rfl rfl rfl hdX9_dropPlan_v ⟨Nat.le_of_ble_eq_true rfl, Nat.le_of_ble_eq_true rfl⟩) hN hL (rcv10 hN hT hw.1) rfl rfl hl.1 (Nat.le_of_ble_eq_true rfl) dX9_change_147 (Nat.zero_le _) (Nat.zero_le _) (fun H1 locs hL hqr717 => ?_)
        obtain ⟨hT1, hF1⟩ := hqr717
        have hF := hF.tr (hF1.mono (by simp))
        have hT := hT1
        refine lv_aload_n hx hb dX9_change_150 rfl (lv_at hl 1 rfl) ?_
        obtain ⟨hb718, e718, hat718, hk718⟩ := hT.o10 hw.1
        obtain ⟨f718_0, f718_1, f718_3, f718_4, f718_5, f718_6, f718_7, f718_8, f718_9, f718_10, f718_11, f718_12, f718_13, f718_14, f718_15, f718_16, f718_17, rfl, c718_2, c718_3, c718_4, c718_12, t718_1, t718_8, t718_9, c718_sd, t718_10, t718_11, t718_17⟩ := hk718
        have hP : va_P D vwCl [(w, .inr (9, [.int f718_0, .ref f718_1, .int (nI ((κ w).2.2.1)), .int (nI f718_3), .int (nI f718_4), .int f718_5, .int f718_6, .int f718_7, .ref f718_8, .ref f718_9, .ref f718_10, .ref f718_11, .int (nI f718_12), .int f718_13, .int f718_14, .int f718_15, .int f718_16, .ref f718_17]))] _ := va_P.cons hat718 va_P.nil
        refine va_get (D := D) (ci := 9) (v := .ref f718_8) (C := RX9) (T := TX9) (N := 18) hx hb hts iX9_change_9 hown hN.1 hP 0 rfl rfl 8 (by decide) (hts _ mX9_change_1) (fun _ h9 => h9) rfl dX9_change_151 ?_
        refine lv_bipush (v := 9) hx hb dX9_change_154 (by decide) ?_
        refine lv_dup2_11 hx hb dX9_change_156 rfl rfl ?_
        obtain ⟨hb719, e719, hat719, hk719⟩ := hT.o24 t718_8.1
        obtain ⟨g719, rfl, q719⟩ := hk719
        have hP : va_P D vwCl [(f718_8, .inl (cs 0, 45783, .inl g719)), (w, .inr (9, [.int f718_0, .ref f718_1, .int (nI ((κ w).2.2.1)), .int (nI f718_3), .int (nI f718_4), .int f718_5, .int f718_6, .int f718_7, .ref f718_8, .ref f718_9, .ref f718_10, .ref f718_11, .int (nI f718_12), .int f718_13, .int f718_14, .int f718_15, .int f718_16, .ref f718_17]))] _ := va_P.cons hat719 hP
        refine ld_i (v := (g719 9)) hx hb hN hP 0 rfl (vp_in_nI (n := 9) (N := 45783) (by omega) (by omega)) (by rw [(show (9 : Int32).toNatClampNeg = 9 from nI_clamp (n := 9) (by omega))]) dX9_change_157 ?_
        refine gn_i (fun x720 => ?_)
        refine lv_iconst (v := 1) hx hb dX9_change_158 (by decide) ?_
        refine lv_iadd hx hb dX9_change_159 ?_
        refine gn_i (fun x721 => ?_)
        have hB : Bx B0 D _ [(f718_8, .inl (cs 0, 45783, .inl g719)), (w, .inr (9, [.int f718_0, .ref f718_1, .int (nI ((κ w).2.2.1)), .int (nI f718_3), .int (nI f718_4), .int f718_5, .int f718_6, .int f718_7, .ref f718_8, .ref f718_9, .ref f718_10, .ref f718_11, .int (nI f718_12), .int f718_13, .int f718_14, .int f718_15, .int f718_16, .ref f718_17]))] [] _ _ := Bx.of (fun a => (κ a).1) hL hP (fa_c hb719 (fa_c hb718 fa_n)) (by simp only [List.map_cons, List.map_nil, t718_8.1, hw.1]; decide)
        refine b_i hx hb hN hB 0 rfl (vp_in_nI (n := 9) (N := 45783) (by omega) (by omega)) (.inl rfl) dX9_change_160 (fun H locs hB => ?_)
        rw [(show (9 : Int32).toNatClampNeg = 9 from nI_clamp (n := 9) (by omega))] at hB
        have hB : Bx B0 D _ [(f718_8, .inl (cs 0, 45783, .inl (upd g719 9 x721))), (w, .inr (9, [.int f718_0, .ref f718_1, .int (nI ((κ w).2.2.1)), .int (nI f718_3), .int (nI f718_4), .int f718_5, .int f718_6, .int f718_7, .ref f718_8, .ref f718_9, .ref f718_10, .ref f718_11, .int (nI f718_12), .int f718_13, .int f718_14, .int f718_15, .int f718_16, .ref f718_17]))] [f718_8] _ _ := hB
        have z722 := DOK.sf q719 (k := 9) (by omega) (x := x721)
        refine lv_aload_n hx hb dX9_change_161 rfl (lv_at hl 1 rfl) ?_
        refine va_get (D := D) (ci := 9) (v := .ref f718_8) (C := RX9) (T := TX9) (N := 18) hx hb hts iX9_change_9 hown hN.1 hB.1 1 rfl rfl 8 (by decide) (hts _ mX9_change_1) (fun _ h9 => h9) rfl dX9_change_162 ?_
        refine lv_bipush (v := 10) hx hb dX9_change_165 (by decide) ?_
        refine lv_dup2_11 hx hb dX9_change_167 rfl rfl ?_
        refine ld_i (v := ((upd g719 9 x721) 10)) hx hb hN hB.1 0 rfl (vp_in_nI (n := 10) (N := 45783) (by omega) (by omega)) (by rw [(show (10 : Int32).toNatClampNeg = 10 from nI_clamp (n := 10) (by omega))]) dX9_change_168 ?_
        refine gn_i (fun x723 => ?_)
        refine lv_iload_n hx hb dX9_change_169 rfl (lv_at hl 0 rfl) ?_
        refine lv_iadd hx hb dX9_change_170 ?_
        refine gn_i (fun x724 => ?_)
        refine b_i hx hb hN hB 0 rfl (vp_in_nI (n := 10) (N := 45783) (by omega) (by omega)) (.inr ⟨rfl, List.mem_of_getElem? (i := 0) rfl⟩) dX9_change_171 (fun H locs hB => ?_)
        rw [(show (10 : Int32).toNatClampNeg = 10 from nI_clamp (n := 10) (by omega))] at hB
        have hB : Bx B0 D _ [(f718_8, .inl (cs 0, 45783, .inl (upd (upd g719 9 x721) 10 x724))), (w, .inr (9, [.int f718_0, .ref f718_1, .int (nI ((κ w).2.2.1)), .int (nI f718_3), .int (nI f718_4), .int f718_5, .int f718_6, .int f718_7, .ref f718_8, .ref f718_9, .ref f718_10, .ref f718_11, .int (nI f718_12), .int f718_13, .int f718_14, .int f718_15, .int f718_16, .ref f718_17]))] [f718_8] _ _ := hB
        have z725 := DOK.sf z722 (k := 10) (by omega) (x := x724)
        have hT : WT B0 D cs T κ _ := hT.close hB ⟨⟨0, _, rfl, ok_24 t718_8.1 ⟨_, rfl, z725⟩⟩, trivial⟩
        have hF : Fr B0 [12] κ H0 _ := hF.close hB (fa_c (by simp [t718_8.2]) fa_n)
        have hL : OkL B0 _ := hB.2.2.2.2.2
        have hP : va_P D vwCl [(f718_8, .inl (cs 0, 45783, .inl (upd (upd g719 9 x721) 10 x724))), (w, .inr (9, [.int f718_0, .ref f718_1, .int (nI ((κ w).2.2.1)), .int (nI f718_3), .int (nI f718_4), .int f718_5, .int f718_6, .int f718_7, .ref f718_8, .ref f718_9, .ref f718_10, .ref f718_11, .int (nI f718_12), .int f718_13, .int f718_14, .int f718_15, .int f718_16, .ref f718_17]))] _ := hB.1
        exact en_v hx hb hr hlocks hL (Nat.zero_le _) (Nat.zero_le _) dX9_change_172 (⟨hT, hF⟩)
theorem mX9_proposeNow_1 : (.fieldLink RX9 18 "OneBeatModel" "data" "[I" : Cond) ∈ wsX9_proposeNow := List.mem_of_getElem? (i := 1) (by decide +kernel)
theorem iX9_proposeNow_9 : ∀ w ∈ wsX90, w ∈ wsX9_proposeNow := fun w h => List.mem_of_mem_drop (List.mem_of_mem_take ((show wsX90 = (wsX9_proposeNow.drop 37).take 18 by decide +kernel) ▸ h))
set_option maxHeartbeats 4000000 in
set_option maxRecDepth 100000 in
theorem c_X9_proposeNow {l : Launch} {D : va_G} {cs : Nat → ClassId} {B0 T : Nat} {κ : KM} {H0 : Heap} (hT : WT B0 D cs T κ H0) {w : Nat} (hw : T2 κ w 10 12) {x : Int32} {y : Int32} : KC l yX9_proposeNow wsX9_proposeNow 4 96 0 0 D cs B0 H0 [.ref w, .int x, .int y] (Qi (fun _ H => WT B0 D cs T κ H ∧ Fr B0 [12] κ H0 H)) := by
  refine KC.of cX9_proposeNow 5 (some .int) (by decide) rfl (Nat.le_of_ble_eq_true rfl) ?_
  intro p e s m below meth c ls hx hb hr hml hown hts hlocks hin hN hH0 hl
  have hown : s.vm.findClass RX9 = some m.cls := hown
  have hl : lv_has ls 5 [(0, .ref w), (1, .int x), (2, .int y)] := hl
  have hL : OkL B0 [] := OkL.nil
  have hF : Fr B0 [12] κ H0 H0 := Fr.rf
  refine lv_aload_n hx hb dX9_proposeNow_0 rfl (lv_at hl 0 rfl) ?_
  obtain ⟨hb726, e726, hat726, hk726⟩ := hT.o10 hw.1
  obtain ⟨f726_0, f726_1, f726_3, f726_4, f726_5, f726_6, f726_7, f726_8, f726_9, f726_10, f726_11, f726_12, f726_13, f726_14, f726_15, f726_16, f726_17, rfl, c726_2, c726_3, c726_4, c726_12, t726_1, t726_8, t726_9, c726_sd, t726_10, t726_11, t726_17⟩ := hk726
  have hP : va_P D vwCl [(w, .inr (9, [.int f726_0, .ref f726_1, .int (nI ((κ w).2.2.1)), .int (nI f726_3), .int (nI f726_4), .int f726_5, .int f726_6, .int f726_7, .ref f726_8, .ref f726_9, .ref f726_10, .ref f726_11, .int (nI f726_12), .int f726_13, .int f726_14, .int f726_15, .int f726_16, .ref f726_17]))] _ := va_P.cons hat726 va_P.nil
  refine va_get (D := D) (ci := 9) (v := .ref f726_8) (C := RX9) (T := TX9) (N := 18) hx hb hts iX9_proposeNow_9 hown hN.1 hP 0 rfl rfl 8 (by decide) (hts _ mX9_proposeNow_1) (fun _ h9 => h9) rfl dX9_proposeNow_1 ?_
  refine lv_iconst (v := 2) hx hb dX9_proposeNow_4 (by decide) ?_
  obtain ⟨hb727, e727, hat727, hk727⟩ := hT.o24 t726_8.1
  obtain ⟨g727, rfl, q727⟩ := hk727
  have hP : va_P D vwCl [(f726_8, .inl (cs 0, 45783, .inl g727)), (w, .inr (9, [.int f726_0, .ref f726_1, .int (nI ((κ w).2.2.1)), .int (nI f726_3), .int (nI f726_4), .int f726_5, .int f726_6, .int f726_7, .ref f726_8, .ref f726_9, .ref f726_10, .ref f726_11, .int (nI f726_12), .int f726_13, .int f726_14, .int f726_15, .int f726_16, .ref f726_17]))] _ := va_P.cons hat727 hP
  refine ld_i (v := (g727 2)) hx hb hN hP 0 rfl (vp_in_nI (n := 2) (N := 45783) (by omega) (by omega)) (by rw [(show (2 : Int32).toNatClampNeg = 2 from nI_clamp (n := 2) (by omega))]) dX9_proposeNow_5 ?_
  obtain ⟨n728, hn728, en728⟩ := q727.2.2.1
  refine tp_i (nI n728) en728 ?_
  refine lv_istore_n (lv' := [(3, .int (nI n728)), (0, .ref w), (1, .int x), (2, .int y)]) hx hb dX9_proposeNow_6 rfl hl (by decide) rfl (fun ls hl => ?_)
  refine lv_aload_n hx hb dX9_proposeNow_7 rfl (lv_at hl 1 rfl) ?_
  refine va_get (D := D) (ci := 9) (v := .ref f726_8) (C := RX9) (T := TX9) (N := 18) hx hb hts iX9_proposeNow_9 hown hN.1 hP 1 rfl rfl 8 (by decide) (hts _ mX9_proposeNow_1) (fun _ h9 => h9) rfl dX9_proposeNow_8 ?_
  refine lv_bipush (v := 6) hx hb dX9_proposeNow_11 (by decide) ?_
  refine ld_i (v := (g727 6)) hx hb hN hP 0 rfl (vp_in_nI (n := 6) (N := 45783) (by omega) (by omega)) (by rw [(show (6 : Int32).toNatClampNeg = 6 from nI_clamp (n := 6) (by omega))]) dX9_proposeNow_13 ?_
  refine gn_i (fun x729 => ?_)
  refine lv_istore (lv' := [(4, .int x729), (3, .int (nI n728)), (0, .ref w), (1, .int x), (2, .int y)]) hx hb dX9_proposeNow_14 hl (by decide) rfl (fun ls hl => ?_)
  refine lv_aload_n hx hb dX9_proposeNow_16 rfl (lv_at hl 2 rfl) ?_
  refine va_get (D := D) (ci := 9) (v := .ref f726_8) (C := RX9) (T := TX9) (N := 18) hx hb hts iX9_proposeNow_9 hown hN.1 hP 1 rfl rfl 8 (by decide) (hts _ mX9_proposeNow_1) (fun _ h9 => h9) rfl dX9_proposeNow_17 ?_
  refine lv_bipush (v := 6) hx hb dX9_proposeNow_20 (by decide) ?_
  refine lv_dup2_11 hx hb dX9_proposeNow_22 rfl rfl ?_
  refine ld_i (v := (g727 6)) hx hb hN hP 0 rfl (vp_in_nI (n := 6) (N := 45783) (by omega) (by omega)) (by rw [(show (6 : Int32).toNatClampNeg = 6 from nI_clamp (n := 6) (by omega))]) dX9_proposeNow_23 ?_
  refine gn_i (fun x730 => ?_)
  refine lv_iconst (v := 1) hx hb dX9_proposeNow_24 (by decide) ?_
  refine lv_iadd hx hb dX9_proposeNow_25 ?_
  refine gn_i (fun x731 => ?_)
  have hB : Bx B0 D _ [(f726_8, .inl (cs 0, 45783, .inl g727)), (w, .inr (9, [.int f726_0, .ref f726_1, .int (nI ((κ w).2.2.1)), .int (nI f726_3), .int (nI f726_4), .int f726_5, .int f726_6, .int f726_7, .ref f726_8, .ref f726_9, .ref f726_10, .ref f726_11, .int (nI f726_12), .int f726_13, .int f726_14, .int f726_15, .int f726_16, .ref f726_17]))] [] _ _ := Bx.of (fun a => (κ a).1) hL hP (fa_c hb727 (fa_c hb726 fa_n)) (by simp only [List.map_cons, List.map_nil, t726_8.1, hw.1]; decide)
  refine b_i hx hb hN hB 0 rfl (vp_in_nI (n := 6) (N := 45783) (by omega) (by omega)) (.inl rfl) dX9_proposeNow_26 (fun H locs hB => ?_)
  rw [(show (6 : Int32).toNatClampNeg = 6 from nI_clamp (n := 6) (by omega))] at hB
  have hB : Bx B0 D _ [(f726_8, .inl (cs 0, 45783, .inl (upd g727 6 x731))), (w, .inr (9, [.int f726_0, .ref f726_1, .int (nI ((κ w).2.2.1)), .int (nI f726_3), .int (nI f726_4), .int f726_5, .int f726_6, .int f726_7, .ref f726_8, .ref f726_9, .ref f726_10, .ref f726_11, .int (nI f726_12), .int f726_13, .int f726_14, .int f726_15, .int f726_16, .ref f726_17]))] [f726_8] _ _ := hB
  have z732 := DOK.sf q727 (k := 6) (by omega) (x := x731)
  have e733 := (pk_un (f := g727) (x := x731) (show 2 ≠ 6 by omega)).trans en728
  refine lv_aload_n hx hb dX9_proposeNow_27 rfl (lv_at hl 2 rfl) ?_
  refine va_get (D := D) (ci := 9) (v := .ref f726_8) (C := RX9) (T := TX9) (N := 18) hx hb hts iX9_proposeNow_9 hown hN.1 hB.1 1 rfl rfl 8 (by decide) (hts _ mX9_proposeNow_1) (fun _ h9 => h9) rfl dX9_proposeNow_28 ?_
  refine lv_bipush (v := 15) hx hb dX9_proposeNow_31 (by decide) ?_
  refine lv_iload_n hx hb dX9_proposeNow_33 rfl (lv_at hl 3 rfl) ?_
  refine b_i hx hb hN hB 0 rfl (vp_in_nI (n := 15) (N := 45783) (by omega) (by omega)) (.inr ⟨rfl, List.mem_of_getElem? (i := 0) rfl⟩) dX9_proposeNow_34 (fun H locs hB => ?_)
  rw [(show (15 : Int32).toNatClampNeg = 15 from nI_clamp (n := 15) (by omega))] at hB
  have hB : Bx B0 D _ [(f726_8, .inl (cs 0, 45783, .inl (upd (upd g727 6 x731) 15 x))), (w, .inr (9, [.int f726_0, .ref f726_1, .int (nI ((κ w).2.2.1)), .int (nI f726_3), .int (nI f726_4), .int f726_5, .int f726_6, .int f726_7, .ref f726_8, .ref f726_9, .ref f726_10, .ref f726_11, .int (nI f726_12), .int f726_13, .int f726_14, .int f726_15, .int f726_16, .ref f726_17]))] [f726_8] _ _ := hB
  have z734 := DOK.sf z732 (k := 15) (by omega) (x := x)
  have e735 := (pk_un (f := (upd g727 6 x731)) (x := x) (show 2 ≠ 15 by omega)).trans e733
  refine lv_aload_n hx hb dX9_proposeNow_35 rfl (lv_at hl 2 rfl) ?_
  refine va_get (D := D) (ci := 9) (v := .ref f726_8) (C := RX9) (T := TX9) (N := 18) hx hb hts iX9_proposeNow_9 hown hN.1 hB.1 1 rfl rfl 8 (by decide) (hts _ mX9_proposeNow_1) (fun _ h9 => h9) rfl dX9_proposeNow_36 ?_
  refine lv_bipush (v := 16) hx hb dX9_proposeNow_39 (by decide) ?_
  refine lv_aload_n hx hb dX9_proposeNow_41 rfl (lv_at hl 2 rfl) ?_
  refine lv_iload_n hx hb dX9_proposeNow_42 rfl (lv_at hl 1 rfl) ?_
  have hT : WT B0 D cs T κ _ := hT.close hB ⟨⟨0, _, rfl, ok_24 t726_8.1 ⟨_, rfl, z734⟩⟩, trivial⟩
  have hF : Fr B0 [12] κ H0 _ := hF.close hB (fa_c (by simp [t726_8.2]) fa_n)
  have hL : OkL B0 _ := hB.2.2.2.2.2
  have hP : va_P D vwCl [(f726_8, .inl (cs 0, 45783, .inl (upd (upd g727 6 x731) 15 x))), (w, .inr (9, [.int f726_0, .ref f726_1, .int (nI ((κ w).2.2.1)), .int (nI f726_3), .int (nI f726_4), .int f726_5, .int f726_6, .int f726_7, .ref f726_8, .ref f726_9, .ref f726_10, .ref f726_11, .int (nI f726_12), .int f726_13, .int f726_14, .int f726_15, .int f726_16, .ref f726_17]))] _ := hB.1
  refine cv_i (As := [.int (nI n728)]) (rest := [.int 16, .ref f726_8]) (b := w) ⟨hx, hb, hml, hown, hts⟩ (c_X9_clock hT (w := w) hw (n := n728) (by first | omega | decide | assumption)) (cwV 1 hts gX9_proposeNow_X9_clock rfl rfl rfl hdX9_clock_v ⟨Nat.le_of_ble_eq_true rfl, Nat.le_of_ble_eq_true rfl⟩) hN hL (rcv10 hN hT hw.1) rfl rfl hl.1 (Nat.le_of_ble_eq_true rfl) dX9_proposeNow_43 (Nat.zero_le _) (Nat.zero_le _) (fun r736 H1 locs hL hqr736 => ?_)
  obtain rfl := hqr736
  refine lv_iload_n hx hb dX9_proposeNow_46 rfl (lv_at hl 4 rfl) ?_
  refine lv_iadd hx hb dX9_proposeNow_47 ?_
  refine gn_i (fun x737 => ?_)
  have hB : Bx B0 D _ [(f726_8, .inl (cs 0, 45783, .inl (upd (upd g727 6 x731) 15 x))), (w, .inr (9, [.int f726_0, .ref f726_1, .int (nI ((κ w).2.2.1)), .int (nI f726_3), .int (nI f726_4), .int f726_5, .int f726_6, .int f726_7, .ref f726_8, .ref f726_9, .ref f726_10, .ref f726_11, .int (nI f726_12), .int f726_13, .int f726_14, .int f726_15, .int f726_16, .ref f726_17]))] [] _ _ := Bx.of (fun a => (κ a).1) hL hP (fa_c hb727 (fa_c hb726 fa_n)) (by simp only [List.map_cons, List.map_nil, t726_8.1, hw.1]; decide)
  refine b_i hx hb hN hB 0 rfl (vp_in_nI (n := 16) (N := 45783) (by omega) (by omega)) (.inl rfl) dX9_proposeNow_48 (fun H locs hB => ?_)
  rw [(show (16 : Int32).toNatClampNeg = 16 from nI_clamp (n := 16) (by omega))] at hB
  have hB : Bx B0 D _ [(f726_8, .inl (cs 0, 45783, .inl (upd (upd (upd g727 6 x731) 15 x) 16 x737))), (w, .inr (9, [.int f726_0, .ref f726_1, .int (nI ((κ w).2.2.1)), .int (nI f726_3), .int (nI f726_4), .int f726_5, .int f726_6, .int f726_7, .ref f726_8, .ref f726_9, .ref f726_10, .ref f726_11, .int (nI f726_12), .int f726_13, .int f726_14, .int f726_15, .int f726_16, .ref f726_17]))] [f726_8] _ _ := hB
  have z738 := DOK.sf z734 (k := 16) (by omega) (x := x737)
  have e739 := (pk_un (f := (upd (upd g727 6 x731) 15 x)) (x := x737) (show 2 ≠ 16 by omega)).trans e735
  refine lv_aload_n hx hb dX9_proposeNow_49 rfl (lv_at hl 2 rfl) ?_
  refine va_get (D := D) (ci := 9) (v := .ref f726_8) (C := RX9) (T := TX9) (N := 18) hx hb hts iX9_proposeNow_9 hown hN.1 hB.1 1 rfl rfl 8 (by decide) (hts _ mX9_proposeNow_1) (fun _ h9 => h9) rfl dX9_proposeNow_50 ?_
  refine lv_bipush (v := 17) hx hb dX9_proposeNow_53 (by decide) ?_
  refine lv_aload_n hx hb dX9_proposeNow_55 rfl (lv_at hl 2 rfl) ?_
  refine va_get (D := D) (ci := 9) (v := .ref f726_8) (C := RX9) (T := TX9) (N := 18) hx hb hts iX9_proposeNow_9 hown hN.1 hB.1 1 rfl rfl 8 (by decide) (hts _ mX9_proposeNow_1) (fun _ h9 => h9) rfl dX9_proposeNow_56 ?_
  refine lv_iconst (v := 1) hx hb dX9_proposeNow_59 (by decide) ?_
  refine ld_i (v := ((upd (upd (upd g727 6 x731) 15 x) 16 x737) 1)) hx hb hN hB.1 0 rfl (vp_in_nI (n := 1) (N := 45783) (by omega) (by omega)) (by rw [(show (1 : Int32).toNatClampNeg = 1 from nI_clamp (n := 1) (by omega))]) dX9_proposeNow_60 ?_
  refine gn_i (fun x740 => ?_)
  refine lv_aload_n hx hb dX9_proposeNow_61 rfl (lv_at hl 2 rfl) ?_
  refine va_get (D := D) (ci := 9) (v := .ref f726_8) (C := RX9) (T := TX9) (N := 18) hx hb hts iX9_proposeNow_9 hown hN.1 hB.1 1 rfl rfl 8 (by decide) (hts _ mX9_proposeNow_1) (fun _ h9 => h9) rfl dX9_proposeNow_62 ?_
  refine lv_bipush (v := 12) hx hb dX9_proposeNow_65 (by decide) ?_
  refine ld_i (v := ((upd (upd (upd g727 6 x731) 15 x) 16 x737) 12)) hx hb hN hB.1 0 rfl (vp_in_nI (n := 12) (N := 45783) (by omega) (by omega)) (by rw [(show (12 : Int32).toNatClampNeg = 12 from nI_clamp (n := 12) (by omega))]) dX9_proposeNow_67 ?_
  refine gn_i (fun x741 => ?_)
  refine lv_iadd hx hb dX9_proposeNow_68 ?_
  refine gn_i (fun x742 => ?_)
  refine b_i hx hb hN hB 0 rfl (vp_in_nI (n := 17) (N := 45783) (by omega) (by omega)) (.inr ⟨rfl, List.mem_of_getElem? (i := 0) rfl⟩) dX9_proposeNow_69 (fun H locs hB => ?_)
  rw [(show (17 : Int32).toNatClampNeg = 17 from nI_clamp (n := 17) (by omega))] at hB
  have hB : Bx B0 D _ [(f726_8, .inl (cs 0, 45783, .inl (upd (upd (upd (upd g727 6 x731) 15 x) 16 x737) 17 x742))), (w, .inr (9, [.int f726_0, .ref f726_1, .int (nI ((κ w).2.2.1)), .int (nI f726_3), .int (nI f726_4), .int f726_5, .int f726_6, .int f726_7, .ref f726_8, .ref f726_9, .ref f726_10, .ref f726_11, .int (nI f726_12), .int f726_13, .int f726_14, .int f726_15, .int f726_16, .ref f726_17]))] [f726_8] _ _ := hB
  have z743 := DOK.sf z738 (k := 17) (by omega) (x := x742)
  have e744 := (pk_un (f := (upd (upd (upd g727 6 x731) 15 x) 16 x737)) (x := x742) (show 2 ≠ 17 by omega)).trans e739
  refine lv_aload_n hx hb dX9_proposeNow_70 rfl (lv_at hl 2 rfl) ?_
  refine va_get (D := D) (ci := 9) (v := .ref f726_8) (C := RX9) (T := TX9) (N := 18) hx hb hts iX9_proposeNow_9 hown hN.1 hB.1 1 rfl rfl 8 (by decide) (hts _ mX9_proposeNow_1) (fun _ h9 => h9) rfl dX9_proposeNow_71 ?_
  refine lv_bipush (v := 18) hx hb dX9_proposeNow_74 (by decide) ?_
  refine lv_iload_n hx hb dX9_proposeNow_76 rfl (lv_at hl 1 rfl) ?_
  refine b_i hx hb hN hB 0 rfl (vp_in_nI (n := 18) (N := 45783) (by omega) (by omega)) (.inr ⟨rfl, List.mem_of_getElem? (i := 0) rfl⟩) dX9_proposeNow_77 (fun H locs hB => ?_)
  rw [(show (18 : Int32).toNatClampNeg = 18 from nI_clamp (n := 18) (by omega))] at hB
  have hB : Bx B0 D _ [(f726_8, .inl (cs 0, 45783, .inl (upd (upd (upd (upd (upd g727 6 x731) 15 x) 16 x737) 17 x742) 18 (nI n728)))), (w, .inr (9, [.int f726_0, .ref f726_1, .int (nI ((κ w).2.2.1)), .int (nI f726_3), .int (nI f726_4), .int f726_5, .int f726_6, .int f726_7, .ref f726_8, .ref f726_9, .ref f726_10, .ref f726_11, .int (nI f726_12), .int f726_13, .int f726_14, .int f726_15, .int f726_16, .ref f726_17]))] [f726_8] _ _ := hB
  have z745 := DOK.s18 z743 (n := n728) (by omega)
  have e746 := (pk_un (f := (upd (upd (upd (upd g727 6 x731) 15 x) 16 x737) 17 x742)) (x := (nI n728)) (show 2 ≠ 18 by omega)).trans e744
  refine lv_aload_n hx hb dX9_proposeNow_78 rfl (lv_at hl 2 rfl) ?_
  refine va_get (D := D) (ci := 9) (v := .ref f726_8) (C := RX9) (T := TX9) (N := 18) hx hb hts iX9_proposeNow_9 hown hN.1 hB.1 1 rfl rfl 8 (by decide) (hts _ mX9_proposeNow_1) (fun _ h9 => h9) rfl dX9_proposeNow_79 ?_
  refine lv_bipush (v := 19) hx hb dX9_proposeNow_82 (by decide) ?_
  refine lv_iconst (v := 0) hx hb dX9_proposeNow_84 (by decide) ?_
  refine b_i hx hb hN hB 0 rfl (vp_in_nI (n := 19) (N := 45783) (by omega) (by omega)) (.inr ⟨rfl, List.mem_of_getElem? (i := 0) rfl⟩) dX9_proposeNow_85 (fun H locs hB => ?_)
  rw [(show (19 : Int32).toNatClampNeg = 19 from nI_clamp (n := 19) (by omega))] at hB
  have hB : Bx B0 D _ [(f726_8, .inl (cs 0, 45783, .inl (upd (upd (upd (upd (upd (upd g727 6 x731) 15 x) 16 x737) 17 x742) 18 (nI n728)) 19 0))), (w, .inr (9, [.int f726_0, .ref f726_1, .int (nI ((κ w).2.2.1)), .int (nI f726_3), .int (nI f726_4), .int f726_5, .int f726_6, .int f726_7, .ref f726_8, .ref f726_9, .ref f726_10, .ref f726_11, .int (nI f726_12), .int f726_13, .int f726_14, .int f726_15, .int f726_16, .ref f726_17]))] [f726_8] _ _ := hB
  have z747 := DOK.sf z745 (k := 19) (by omega) (x := 0)
  have e748 := (pk_un (f := (upd (upd (upd (upd (upd g727 6 x731) 15 x) 16 x737) 17 x742) 18 (nI n728))) (x := 0) (show 2 ≠ 19 by omega)).trans e746
  refine lv_aload_n hx hb dX9_proposeNow_86 rfl (lv_at hl 2 rfl) ?_
  refine va_get (D := D) (ci := 9) (v := .ref f726_8) (C := RX9) (T := TX9) (N := 18) hx hb hts iX9_proposeNow_9 hown hN.1 hB.1 1 rfl rfl 8 (by decide) (hts _ mX9_proposeNow_1) (fun _ h9 => h9) rfl dX9_proposeNow_87 ?_
  refine lv_bipush (v := 20) hx hb dX9_proposeNow_90 (by decide) ?_
  refine lv_iconst (v := 0) hx hb dX9_proposeNow_92 (by decide) ?_
  refine b_i hx hb hN hB 0 rfl (vp_in_nI (n := 20) (N := 45783) (by omega) (by omega)) (.inr ⟨rfl, List.mem_of_getElem? (i := 0) rfl⟩) dX9_proposeNow_93 (fun H locs hB => ?_)
  rw [(show (20 : Int32).toNatClampNeg = 20 from nI_clamp (n := 20) (by omega))] at hB
  have hB : Bx B0 D _ [(f726_8, .inl (cs 0, 45783, .inl (upd (upd (upd (upd (upd (upd (upd g727 6 x731) 15 x) 16 x737) 17 x742) 18 (nI n728)) 19 0) 20 0))), (w, .inr (9, [.int f726_0, .ref f726_1, .int (nI ((κ w).2.2.1)), .int (nI f726_3), .int (nI f726_4), .int f726_5, .int f726_6, .int f726_7, .ref f726_8, .ref f726_9, .ref f726_10, .ref f726_11, .int (nI f726_12), .int f726_13, .int f726_14, .int f726_15, .int f726_16, .ref f726_17]))] [f726_8] _ _ := hB
  have z749 := DOK.sf z747 (k := 20) (by omega) (x := 0)
  have e750 := (pk_un (f := (upd (upd (upd (upd (upd (upd g727 6 x731) 15 x) 16 x737) 17 x742) 18 (nI n728)) 19 0)) (x := 0) (show 2 ≠ 20 by omega)).trans e748
  refine lv_aload_n hx hb dX9_proposeNow_94 rfl (lv_at hl 2 rfl) ?_
  refine va_get (D := D) (ci := 9) (v := .ref f726_8) (C := RX9) (T := TX9) (N := 18) hx hb hts iX9_proposeNow_9 hown hN.1 hB.1 1 rfl rfl 8 (by decide) (hts _ mX9_proposeNow_1) (fun _ h9 => h9) rfl dX9_proposeNow_95 ?_
  refine lv_bipush (v := 21) hx hb dX9_proposeNow_98 (by decide) ?_
  refine lv_iconst (v := (-1)) hx hb dX9_proposeNow_100 (by decide) ?_
  refine b_i hx hb hN hB 0 rfl (vp_in_nI (n := 21) (N := 45783) (by omega) (by omega)) (.inr ⟨rfl, List.mem_of_getElem? (i := 0) rfl⟩) dX9_proposeNow_101 (fun H locs hB => ?_)
  rw [(show (21 : Int32).toNatClampNeg = 21 from nI_clamp (n := 21) (by omega))] at hB
  have hB : Bx B0 D _ [(f726_8, .inl (cs 0, 45783, .inl (upd (upd (upd (upd (upd (upd (upd (upd g727 6 x731) 15 x) 16 x737) 17 x742) 18 (nI n728)) 19 0) 20 0) 21 (-1)))), (w, .inr (9, [.int f726_0, .ref f726_1, .int (nI ((κ w).2.2.1)), .int (nI f726_3), .int (nI f726_4), .int f726_5, .int f726_6, .int f726_7, .ref f726_8, .ref f726_9, .ref f726_10, .ref f726_11, .int (nI f726_12), .int f726_13, .int f726_14, .int f726_15, .int f726_16, .ref f726_17]))] [f726_8] _ _ := hB
  have z751 := DOK.sf z749 (k := 21) (by omega) (x := (-1))
  have e752 := (pk_un (f := (upd (upd (upd (upd (upd (upd (upd g727 6 x731) 15 x) 16 x737) 17 x742) 18 (nI n728)) 19 0) 20 0)) (x := (-1)) (show 2 ≠ 21 by omega)).trans e750
  refine lv_aload_n hx hb dX9_proposeNow_102 rfl (lv_at hl 2 rfl) ?_
  refine va_get (D := D) (ci := 9) (v := .ref f726_8) (C := RX9) (T := TX9) (N := 18) hx hb hts iX9_proposeNow_9 hown hN.1 hB.1 1 rfl rfl 8 (by decide) (hts _ mX9_proposeNow_1) (fun _ h9 => h9) rfl dX9_proposeNow_103 ?_
  refine lv_bipush (v := 22) hx hb dX9_proposeNow_106 (by decide) ?_
  refine lv_iconst (v := (-1)) hx hb dX9_proposeNow_108 (by decide) ?_
  refine b_i hx hb hN hB 0 rfl (vp_in_nI (n := 22) (N := 45783) (by omega) (by omega)) (.inr ⟨rfl, List.mem_of_getElem? (i := 0) rfl⟩) dX9_proposeNow_109 (fun H locs hB => ?_)
  rw [(show (22 : Int32).toNatClampNeg = 22 from nI_clamp (n := 22) (by omega))] at hB
  have hB : Bx B0 D _ [(f726_8, .inl (cs 0, 45783, .inl (upd (upd (upd (upd (upd (upd (upd (upd (upd g727 6 x731) 15 x) 16 x737) 17 x742) 18 (nI n728)) 19 0) 20 0) 21 (-1)) 22 (-1)))), (w, .inr (9, [.int f726_0, .ref f726_1, .int (nI ((κ w).2.2.1)), .int (nI f726_3), .int (nI f726_4), .int f726_5, .int f726_6, .int f726_7, .ref f726_8, .ref f726_9, .ref f726_10, .ref f726_11, .int (nI f726_12), .int f726_13, .int f726_14, .int f726_15, .int f726_16, .ref f726_17]))] [f726_8] _ _ := hB
  have z753 := DOK.sf z751 (k := 22) (by omega) (x := (-1))
  have e754 := (pk_un (f := (upd (upd (upd (upd (upd (upd (upd (upd g727 6 x731) 15 x) 16 x737) 17 x742) 18 (nI n728)) 19 0) 20 0) 21 (-1))) (x := (-1)) (show 2 ≠ 22 by omega)).trans e752
  refine lv_aload_n hx hb dX9_proposeNow_110 rfl (lv_at hl 2 rfl) ?_
  refine lv_iload_n hx hb dX9_proposeNow_111 rfl (lv_at hl 1 rfl) ?_
  refine lv_iconst (v := 1) hx hb dX9_proposeNow_112 (by decide) ?_
  refine lv_iload hx hb dX9_proposeNow_113 (lv_at hl 0 rfl) ?_
  refine lv_aload_n hx hb dX9_proposeNow_115 rfl (lv_at hl 2 rfl) ?_
  refine va_get (D := D) (ci := 9) (v := .ref f726_8) (C := RX9) (T := TX9) (N := 18) hx hb hts iX9_proposeNow_9 hown hN.1 hB.1 1 rfl rfl 8 (by decide) (hts _ mX9_proposeNow_1) (fun _ h9 => h9) rfl dX9_proposeNow_116 ?_
  refine lv_bipush (v := 16) hx hb dX9_proposeNow_119 (by decide) ?_
  refine ld_i (v := ((upd (upd (upd (upd (upd (upd (upd (upd (upd g727 6 x731) 15 x) 16 x737) 17 x742) 18 (nI n728)) 19 0) 20 0) 21 (-1)) 22 (-1)) 16)) hx hb hN hB.1 0 rfl (vp_in_nI (n := 16) (N := 45783) (by omega) (by omega)) (by rw [(show (16 : Int32).toNatClampNeg = 16 from nI_clamp (n := 16) (by omega))]) dX9_proposeNow_121 ?_
  refine gn_i (fun x755 => ?_)
  refine lv_iload_n hx hb dX9_proposeNow_122 rfl (lv_at hl 3 rfl) ?_
  have hT : WT B0 D cs T κ _ := hT.close hB ⟨⟨0, _, rfl, ok_24 t726_8.1 ⟨_, rfl, z753⟩⟩, trivial⟩
  have hF : Fr B0 [12] κ H0 _ := hF.close hB (fa_c (by simp [t726_8.2]) fa_n)
  have hL : OkL B0 _ := hB.2.2.2.2.2
  have hP : va_P D vwCl [(f726_8, .inl (cs 0, 45783, .inl (upd (upd (upd (upd (upd (upd (upd (upd (upd g727 6 x731) 15 x) 16 x737) 17 x742) 18 (nI n728)) 19 0) 20 0) 21 (-1)) 22 (-1)))), (w, .inr (9, [.int f726_0, .ref f726_1, .int (nI ((κ w).2.2.1)), .int (nI f726_3), .int (nI f726_4), .int f726_5, .int f726_6, .int f726_7, .ref f726_8, .ref f726_9, .ref f726_10, .ref f726_11, .int (nI f726_12), .int f726_13, .int f726_14, .int f726_15, .int f726_16, .ref f726_17]))] _ := hB.1
  refine cv_v (As := [.int (nI n728), .int 1, .int x729, .int x755, .int x]) (rest := []) (b := w) ⟨hx, hb, hml, hown, hts⟩ (c_X9_plan hT (w := w) hw (n := n728) (x := 1) (y := x729) (z := x755) (u := x) (by first | omega | decide | assumption)) (cwV 5 hts gX9_proposeNow_X9_plan rfl rfl rfl hdX9_plan_v ⟨Nat.le_of_ble_eq_true rfl, Nat.le_of_ble_eq_true rfl⟩) hN hL (rcv10 hN hT hw.1) rfl rfl hl.1 (Nat.le_of_ble_eq_true rfl) dX9_proposeNow_123 (Nat.zero_le _) (Nat.zero_le _) (fun H1 locs hL hqr756 => ?_)
  obtain ⟨hT1, hF1⟩ := hqr756
  have hF := hF.tr (hF1.mono (by simp))
  have hT := hT1
  refine lv_aload_n hx hb dX9_proposeNow_126 rfl (lv_at hl 2 rfl) ?_
  refine lv_iconst (v := 2) hx hb dX9_proposeNow_127 (by decide) ?_
  refine lv_iload_n hx hb dX9_proposeNow_128 rfl (lv_at hl 1 rfl) ?_
  refine lv_iload hx hb dX9_proposeNow_129 (lv_at hl 0 rfl) ?_
  refine lv_aload_n hx hb dX9_proposeNow_131 rfl (lv_at hl 2 rfl) ?_
  obtain ⟨hb757, e757, hat757, hk757⟩ := hT.o10 hw.1
  obtain ⟨f757_0, f757_1, f757_3, f757_4, f757_5, f757_6, f757_7, f757_8, f757_9, f757_10, f757_11, f757_12, f757_13, f757_14, f757_15, f757_16, f757_17, rfl, c757_2, c757_3, c757_4, c757_12, t757_1, t757_8, t757_9, c757_sd, t757_10, t757_11, t757_17⟩ := hk757
  have hP : va_P D vwCl [(w, .inr (9, [.int f757_0, .ref f757_1, .int (nI ((κ w).2.2.1)), .int (nI f757_3), .int (nI f757_4), .int f757_5, .int f757_6, .int f757_7, .ref f757_8, .ref f757_9, .ref f757_10, .ref f757_11, .int (nI f757_12), .int f757_13, .int f757_14, .int f757_15, .int f757_16, .ref f757_17]))] _ := va_P.cons hat757 va_P.nil
  refine va_get (D := D) (ci := 9) (v := .ref f757_8) (C := RX9) (T := TX9) (N := 18) hx hb hts iX9_proposeNow_9 hown hN.1 hP 0 rfl rfl 8 (by decide) (hts _ mX9_proposeNow_1) (fun _ h9 => h9) rfl dX9_proposeNow_132 ?_
  refine lv_bipush (v := 16) hx hb dX9_proposeNow_135 (by decide) ?_
  obtain ⟨hb758, e758, hat758, hk758⟩ := hT.o24 t757_8.1
  obtain ⟨g758, rfl, q758⟩ := hk758
  have hP : va_P D vwCl [(f757_8, .inl (cs 0, 45783, .inl g758)), (w, .inr (9, [.int f757_0, .ref f757_1, .int (nI ((κ w).2.2.1)), .int (nI f757_3), .int (nI f757_4), .int f757_5, .int f757_6, .int f757_7, .ref f757_8, .ref f757_9, .ref f757_10, .ref f757_11, .int (nI f757_12), .int f757_13, .int f757_14, .int f757_15, .int f757_16, .ref f757_17]))] _ := va_P.cons hat758 hP
  refine ld_i (v := (g758 16)) hx hb hN hP 0 rfl (vp_in_nI (n := 16) (N := 45783) (by omega) (by omega)) (by rw [(show (16 : Int32).toNatClampNeg = 16 from nI_clamp (n := 16) (by omega))]) dX9_proposeNow_137 ?_
  refine gn_i (fun x759 => ?_)
  refine lv_iload_n hx hb dX9_proposeNow_138 rfl (lv_at hl 3 rfl) ?_
  refine cv_v (As := [.int 2, .int (nI n728), .int x729, .int x759, .int x]) (rest := []) (b := w) ⟨hx, hb, hml, hown, hts⟩ (c_X9_sendToOthers hT (w := w) hw (x := 2) (n := n728) (y := x729) (z := x759) (u := x) (by first | omega | decide | assumption) (by first | omega | decide | assumption)) (cwV 5 hts gX9_proposeNow_X9_sendToOthers rfl rfl rfl hdX9_sendToOthers_v ⟨Nat.le_of_ble_eq_true rfl, Nat.le_of_ble_eq_true rfl⟩) hN hL (rcv10 hN hT hw.1) rfl rfl hl.1 (Nat.le_of_ble_eq_true rfl) dX9_proposeNow_139 (Nat.zero_le _) (Nat.zero_le _) (fun H1 locs hL hqr760 => ?_)
  obtain ⟨hT1, hF1⟩ := hqr760
  have hF := hF.tr (hF1.mono (by simp))
  have hT := hT1
  refine lv_aload_n hx hb dX9_proposeNow_142 rfl (lv_at hl 2 rfl) ?_
  refine cv_v (As := []) (rest := []) (b := w) ⟨hx, hb, hml, hown, hts⟩ (c_X9_vote hT (w := w) hw) (cwV 0 hts gX9_proposeNow_X9_vote rfl rfl rfl hdX9_vote_v ⟨Nat.le_of_ble_eq_true rfl, Nat.le_of_ble_eq_true rfl⟩) hN hL (rcv10 hN hT hw.1) rfl rfl hl.1 (Nat.le_of_ble_eq_true rfl) dX9_proposeNow_143 (Nat.zero_le _) (Nat.zero_le _) (fun H1 locs hL hqr761 => ?_)
  obtain ⟨hT1, hF1⟩ := hqr761
  have hF := hF.tr (hF1.mono (by simp))
  have hT := hT1
  refine lv_aload_n hx hb dX9_proposeNow_146 rfl (lv_at hl 2 rfl) ?_
  obtain ⟨hb762, e762, hat762, hk762⟩ := hT.o10 hw.1
  obtain ⟨f762_0, f762_1, f762_3, f762_4, f762_5, f762_6, f762_7, f762_8, f762_9, f762_10, f762_11, f762_12, f762_13, f762_14, f762_15, f762_16, f762_17, rfl, c762_2, c762_3, c762_4, c762_12, t762_1, t762_8, t762_9, c762_sd, t762_10, t762_11, t762_17⟩ := hk762
  have hP : va_P D vwCl [(w, .inr (9, [.int f762_0, .ref f762_1, .int (nI ((κ w).2.2.1)), .int (nI f762_3), .int (nI f762_4), .int f762_5, .int f762_6, .int f762_7, .ref f762_8, .ref f762_9, .ref f762_10, .ref f762_11, .int (nI f762_12), .int f762_13, .int f762_14, .int f762_15, .int f762_16, .ref f762_17]))] _ := va_P.cons hat762 va_P.nil
  refine va_get (D := D) (ci := 9) (v := .ref f762_8) (C := RX9) (T := TX9) (N := 18) hx hb hts iX9_proposeNow_9 hown hN.1 hP 0 rfl rfl 8 (by decide) (hts _ mX9_proposeNow_1) (fun _ h9 => h9) rfl dX9_proposeNow_147 ?_
  refine lv_bipush (v := 16) hx hb dX9_proposeNow_150 (by decide) ?_
  obtain ⟨hb763, e763, hat763, hk763⟩ := hT.o24 t762_8.1
  obtain ⟨g763, rfl, q763⟩ := hk763
  have hP : va_P D vwCl [(f762_8, .inl (cs 0, 45783, .inl g763)), (w, .inr (9, [.int f762_0, .ref f762_1, .int (nI ((κ w).2.2.1)), .int (nI f762_3), .int (nI f762_4), .int f762_5, .int f762_6, .int f762_7, .ref f762_8, .ref f762_9, .ref f762_10, .ref f762_11, .int (nI f762_12), .int f762_13, .int f762_14, .int f762_15, .int f762_16, .ref f762_17]))] _ := va_P.cons hat763 hP
  refine ld_i (v := (g763 16)) hx hb hN hP 0 rfl (vp_in_nI (n := 16) (N := 45783) (by omega) (by omega)) (by rw [(show (16 : Int32).toNatClampNeg = 16 from nI_clamp (n := 16) (by omega))]) dX9_proposeNow_152 ?_
  refine gn_i (fun x764 => ?_)
  exact en_i hx hb hr hlocks hL rfl (Nat.zero_le _) (Nat.zero_le _) dX9_proposeNow_153 (⟨hT, hF⟩)
theorem mX9_isLive_1 : (.fieldLink RX9 18 "OneBeatModel" "data" "[I" : Cond) ∈ wsX9_isLive := List.mem_of_getElem? (i := 1) (by decide +kernel)
theorem iX9_isLive_9 : ∀ w ∈ wsX90, w ∈ wsX9_isLive := fun w h => List.mem_of_mem_drop (List.mem_of_mem_take ((show wsX90 = (wsX9_isLive.drop 18).take 18 by decide +kernel) ▸ h))
set_option maxHeartbeats 4000000 in
set_option maxRecDepth 100000 in
theorem c_X9_isLive {l : Launch} {D : va_G} {cs : Nat → ClassId} {B0 T : Nat} {κ : KM} {H0 : Heap} (hT : WT B0 D cs T κ H0) {w : Nat} (hw : T2 κ w 10 12) : KC l yX9_isLive wsX9_isLive 3 63 0 0 D cs B0 H0 [.ref w] (Qi (fun r H => H = H0 ∧ (r = 0 ∨ r = 1))) := by
  refine KC.of cX9_isLive 3 (some .boolean) (by decide) rfl (Nat.le_of_ble_eq_true rfl) ?_
  intro p e s m below meth c ls hx hb hr hml hown hts hlocks hin hN hH0 hl
  have hown : s.vm.findClass RX9 = some m.cls := hown
  have hl : lv_has ls 3 [(0, .ref w)] := hl
  have hL : OkL B0 [] := OkL.nil
  refine lv_aload_n hx hb dX9_isLive_0 rfl (lv_at hl 0 rfl) ?_
  obtain ⟨hb765, e765, hat765, hk765⟩ := hT.o10 hw.1
  obtain ⟨f765_0, f765_1, f765_3, f765_4, f765_5, f765_6, f765_7, f765_8, f765_9, f765_10, f765_11, f765_12, f765_13, f765_14, f765_15, f765_16, f765_17, rfl, c765_2, c765_3, c765_4, c765_12, t765_1, t765_8, t765_9, c765_sd, t765_10, t765_11, t765_17⟩ := hk765
  have hP : va_P D vwCl [(w, .inr (9, [.int f765_0, .ref f765_1, .int (nI ((κ w).2.2.1)), .int (nI f765_3), .int (nI f765_4), .int f765_5, .int f765_6, .int f765_7, .ref f765_8, .ref f765_9, .ref f765_10, .ref f765_11, .int (nI f765_12), .int f765_13, .int f765_14, .int f765_15, .int f765_16, .ref f765_17]))] _ := va_P.cons hat765 va_P.nil
  refine va_get (D := D) (ci := 9) (v := .ref f765_8) (C := RX9) (T := TX9) (N := 18) hx hb hts iX9_isLive_9 hown hN.1 hP 0 rfl rfl 8 (by decide) (hts _ mX9_isLive_1) (fun _ h9 => h9) rfl dX9_isLive_1 ?_
  refine lv_iconst (v := 3) hx hb dX9_isLive_4 (by decide) ?_
  obtain ⟨hb766, e766, hat766, hk766⟩ := hT.o24 t765_8.1
  obtain ⟨g766, rfl, q766⟩ := hk766
  have hP : va_P D vwCl [(f765_8, .inl (cs 0, 45783, .inl g766)), (w, .inr (9, [.int f765_0, .ref f765_1, .int (nI ((κ w).2.2.1)), .int (nI f765_3), .int (nI f765_4), .int f765_5, .int f765_6, .int f765_7, .ref f765_8, .ref f765_9, .ref f765_10, .ref f765_11, .int (nI f765_12), .int f765_13, .int f765_14, .int f765_15, .int f765_16, .ref f765_17]))] _ := va_P.cons hat766 hP
  refine ld_i (v := (g766 3)) hx hb hN hP 0 rfl (vp_in_nI (n := 3) (N := 45783) (by omega) (by omega)) (by rw [(show (3 : Int32).toNatClampNeg = 3 from nI_clamp (n := 3) (by omega))]) dX9_isLive_5 ?_
  obtain ⟨n767, hn767, en767, mn767⟩ := q766.2.2.2.1
  refine tp_i (nI n767) en767 ?_
  refine lv_if_gt (tgt := 16) hx hb dX9_isLive_6 (by decide) (fun c768 => ?_) (fun c768 => ?_)
  · have c768 : 0 < n767 := (nI_ltI (a := 0) (b := n767) (by omega) (by omega)).mp c768
    refine lv_iconst (v := 1) hx hb dX9_isLive_16 (by decide) ?_
    refine lv_goto (tgt := 21) hx hb dX9_isLive_17 (by decide) ?_
    refine lv_istore_n (lv' := [(1, .int 1), (0, .ref w)]) hx hb dX9_isLive_21 rfl hl (by decide) rfl (fun ls hl => ?_)
    refine lv_iconst (v := 0) hx hb dX9_isLive_22 (by decide) ?_
    refine lv_istore_n (lv' := [(2, .int 0), (1, .int 1), (0, .ref w)]) hx hb dX9_isLive_23 rfl hl (by decide) rfl (fun ls hl => ?_)
    refine lp_r (α := Nat × Int32) (nL := 3) (fun a9 => 8 - a9.1) (fun a9 => (a9.2 = 0 ∨ a9.2 = 1) ∧ (a9.1 ≤ 8)) (fun a9 => [(2, .int (nI a9.1)), (1, .int a9.2), (0, .ref w)]) ?_ (0, 1) _ ⟨(Or.inr rfl), (by omega)⟩ (lv_sub hl [0, 1, 2] rfl)
    rintro ⟨p, x⟩ ls ih769 ⟨hx, hp⟩ hl
    have hl : lv_has ls 3 [(2, .int (nI p)), (1, .int x), (0, .ref w)] := hl
    have hx : x = 0 ∨ x = 1 := hx
    have hp : p ≤ 8 := hp
    refine lv_iload_n hx hb dX9_isLive_24 rfl (lv_at hl 0 rfl) ?_
    refine lv_aload_n hx hb dX9_isLive_25 rfl (lv_at hl 2 rfl) ?_
    refine va_get (D := D) (ci := 9) (v := .ref f765_8) (C := RX9) (T := TX9) (N := 18) hx hb hts iX9_isLive_9 hown hN.1 hP 1 rfl rfl 8 (by decide) (hts _ mX9_isLive_1) (fun _ h9 => h9) rfl dX9_isLive_26 ?_
    refine lv_iconst (v := 0) hx hb dX9_isLive_29 (by decide) ?_
    refine ld_i (v := (g766 0)) hx hb hN hP 0 rfl (vp_in_nI (n := 0) (N := 45783) (by omega) (by omega)) (by rw [(show (0 : Int32).toNatClampNeg = 0 from nI_clamp (n := 0) (by omega))]) dX9_isLive_30 ?_
    obtain ⟨n770, hn770, en770⟩ := q766.1
    refine tp_i (nI n770) en770 ?_
    refine lv_icmp_ge (tgt := 66) hx hb dX9_isLive_31 (by decide) (fun c771 => ?_) (fun c771 => ?_)
    · have c771 : n770 ≤ p := (nI_leI (a := n770) (b := p) (by omega) (by omega)).mp c771
      refine lv_iload_n hx hb dX9_isLive_66 rfl (lv_at hl 1 rfl) ?_
      exact en_i hx hb hr hlocks hL (nb hx) (Nat.zero_le _) (Nat.zero_le _) dX9_isLive_67 (⟨rfl, hx⟩)
    · have c771 : ¬ n770 ≤ p := fun h9 => c771 ((nI_leI (a := n770) (b := p) (by omega) (by omega)).mpr h9)
      refine lv_iload_n hx hb dX9_isLive_34 rfl (lv_at hl 1 rfl) ?_
      refine lv_aload_n hx hb dX9_isLive_35 rfl (lv_at hl 2 rfl) ?_
      refine lv_iload_n hx hb dX9_isLive_36 rfl (lv_at hl 0 rfl) ?_
      refine cv_i (As := [.int (nI p)]) (rest := [.int x]) (b := w) ⟨hx, hb, hml, hown, hts⟩ (c_X9_isUp hT (w := w) hw (n := p) (by first | omega | decide | assumption)) (cwV 1 hts gX9_isLive_X9_isUp rfl rfl rfl hdX9_isUp_v ⟨Nat.le_of_ble_eq_true rfl, Nat.le_of_ble_eq_true rfl⟩) hN hL (rcv10 hN hT hw.1) rfl rfl hl.1 (Nat.le_of_ble_eq_true rfl) dX9_isLive_37 (Nat.zero_le _) (Nat.zero_le _) (fun r772 H1 locs hL hqr772 => ?_)
      obtain ⟨rfl, hqr772⟩ := hqr772
      rcases hqr772 with rfl | rfl
      · refine lv_if_eq (tgt := 57) hx hb dX9_isLive_40 (by decide) (fun _ => ?_) (fun c9 => absurd (by decide) c9)
        refine lv_iconst (v := 0) hx hb dX9_isLive_57 (by decide) ?_
        refine lv_ior hx hb dX9_isLive_58 ?_
        obtain ⟨z773, hz773, ez773⟩ := or01 (y := 0) (hx) (Or.inl rfl)
        refine tp_i z773 ez773 ?_
        refine lv_istore_n (lv' := [(1, .int z773), (2, .int (nI p)), (0, .ref w)]) hx hb dX9_isLive_59 rfl hl (by decide) rfl (fun ls hl => ?_)
        refine lv_iinc (v := (nI (p + 1))) (lv' := [(2, .int (nI (p + 1))), (1, .int z773), (0, .ref w)]) hx hb dX9_isLive_60 hl (k := 1) rfl (nI_add _ 1) (by decide) rfl (fun ls hl => ?_)
        refine lv_goto (tgt := 24) hx hb dX9_isLive_63 (by decide) ?_
        exact ih769 ((p + 1), z773) _ (by show 8 - ((p + 1)) < 8 - p; omega) ⟨(hz773), (by omega)⟩ (lv_sub hl [0, 1, 2] rfl)
      · refine lv_if_eq (tgt := 57) hx hb dX9_isLive_40 (by decide) (fun c9 => absurd c9 (by decide)) (fun _ => ?_)
        refine lv_aload_n hx hb dX9_isLive_43 rfl (lv_at hl 2 rfl) ?_
        refine lv_iload_n hx hb dX9_isLive_44 rfl (lv_at hl 0 rfl) ?_
        refine lv_iconst (v := 5) hx hb dX9_isLive_45 (by decide) ?_
        refine cv_i (As := [.int (nI p), .int 5]) (rest := [.int x]) (b := w) ⟨hx, hb, hml, hown, hts⟩ (c_X9_of hT (w := w) hw (n := p) (k := 5) (by first | omega | decide | assumption) (by first | omega | decide | assumption)) (cwV 2 hts gX9_isLive_X9_of rfl rfl rfl hdX9_of_v ⟨Nat.le_of_ble_eq_true rfl, Nat.le_of_ble_eq_true rfl⟩) hN hL (rcv10 hN hT hw.1) rfl rfl hl.1 (Nat.le_of_ble_eq_true rfl) dX9_isLive_46 (Nat.zero_le _) (Nat.zero_le _) (fun r774 H1 locs hL hqr774 => ?_)
        obtain rfl := hqr774
        refine lv_iconst (v := 2) hx hb dX9_isLive_49 (by decide) ?_
        refine lv_icmp_ne (tgt := 57) hx hb dX9_isLive_50 (by decide) (fun c775 => ?_) (fun c775 => ?_)
        · refine lv_iconst (v := 0) hx hb dX9_isLive_57 (by decide) ?_
          refine lv_ior hx hb dX9_isLive_58 ?_
          obtain ⟨z776, hz776, ez776⟩ := or01 (y := 0) (hx) (Or.inl rfl)
          refine tp_i z776 ez776 ?_
          refine lv_istore_n (lv' := [(1, .int z776), (2, .int (nI p)), (0, .ref w)]) hx hb dX9_isLive_59 rfl hl (by decide) rfl (fun ls hl => ?_)
          refine lv_iinc (v := (nI (p + 1))) (lv' := [(2, .int (nI (p + 1))), (1, .int z776), (0, .ref w)]) hx hb dX9_isLive_60 hl (k := 1) rfl (nI_add _ 1) (by decide) rfl (fun ls hl => ?_)
          refine lv_goto (tgt := 24) hx hb dX9_isLive_63 (by decide) ?_
          exact ih769 ((p + 1), z776) _ (by show 8 - ((p + 1)) < 8 - p; omega) ⟨(hz776), (by omega)⟩ (lv_sub hl [0, 1, 2] rfl)
        · refine lv_iconst (v := 1) hx hb dX9_isLive_53 (by decide) ?_
          refine lv_goto (tgt := 58) hx hb dX9_isLive_54 (by decide) ?_
          refine lv_ior hx hb dX9_isLive_58 ?_
          obtain ⟨z777, hz777, ez777⟩ := or01 (y := 1) (hx) (Or.inr rfl)
          refine tp_i z777 ez777 ?_
          refine lv_istore_n (lv' := [(1, .int z777), (2, .int (nI p)), (0, .ref w)]) hx hb dX9_isLive_59 rfl hl (by decide) rfl (fun ls hl => ?_)
          refine lv_iinc (v := (nI (p + 1))) (lv' := [(2, .int (nI (p + 1))), (1, .int z777), (0, .ref w)]) hx hb dX9_isLive_60 hl (k := 1) rfl (nI_add _ 1) (by decide) rfl (fun ls hl => ?_)
          refine lv_goto (tgt := 24) hx hb dX9_isLive_63 (by decide) ?_
          exact ih769 ((p + 1), z777) _ (by show 8 - ((p + 1)) < 8 - p; omega) ⟨(hz777), (by omega)⟩ (lv_sub hl [0, 1, 2] rfl)
  · have c768 : ¬ 0 < n767 := fun h9 => c768 ((nI_ltI (a := 0) (b := n767) (by omega) (by omega)).mpr h9)
    refine lv_aload_n hx hb dX9_isLive_9 rfl (lv_at hl 0 rfl) ?_
    refine cv_i (As := []) (rest := []) (b := w) ⟨hx, hb, hml, hown, hts⟩ (c_X9_isOpen hT (w := w) hw) (cwV 0 hts gX9_isLive_X9_isOpen rfl rfl rfl hdX9_isOpen_v ⟨Nat.le_of_ble_eq_true rfl, Nat.le_of_ble_eq_true rfl⟩) hN hL (rcv10 hN hT hw.1) rfl rfl hl.1 (Nat.le_of_ble_eq_true rfl) dX9_isLive_10 (Nat.zero_le _) (Nat.zero_le _) (fun r778 H1 locs hL hqr778 => ?_)
    obtain ⟨rfl, hqr778⟩ := hqr778
    rcases hqr778 with rfl | rfl
    · refine lv_if_eq (tgt := 20) hx hb dX9_isLive_13 (by decide) (fun _ => ?_) (fun c9 => absurd (by decide) c9)
      refine lv_iconst (v := 0) hx hb dX9_isLive_20 (by decide) ?_
      refine lv_istore_n (lv' := [(1, .int 0), (0, .ref w)]) hx hb dX9_isLive_21 rfl hl (by decide) rfl (fun ls hl => ?_)
      refine lv_iconst (v := 0) hx hb dX9_isLive_22 (by decide) ?_
      refine lv_istore_n (lv' := [(2, .int 0), (1, .int 0), (0, .ref w)]) hx hb dX9_isLive_23 rfl hl (by decide) rfl (fun ls hl => ?_)
      refine lp_r (α := Nat × Int32) (nL := 3) (fun a9 => 8 - a9.1) (fun a9 => (a9.2 = 0 ∨ a9.2 = 1) ∧ (a9.1 ≤ 8)) (fun a9 => [(2, .int (nI a9.1)), (1, .int a9.2), (0, .ref w)]) ?_ (0, 0) _ ⟨(Or.inl rfl), (by omega)⟩ (lv_sub hl [0, 1, 2] rfl)
      rintro ⟨p, x⟩ ls ih779 ⟨hx, hp⟩ hl
      have hl : lv_has ls 3 [(2, .int (nI p)), (1, .int x), (0, .ref w)] := hl
      have hx : x = 0 ∨ x = 1 := hx
      have hp : p ≤ 8 := hp
      refine lv_iload_n hx hb dX9_isLive_24 rfl (lv_at hl 0 rfl) ?_
      refine lv_aload_n hx hb dX9_isLive_25 rfl (lv_at hl 2 rfl) ?_
      refine va_get (D := D) (ci := 9) (v := .ref f765_8) (C := RX9) (T := TX9) (N := 18) hx hb hts iX9_isLive_9 hown hN.1 hP 1 rfl rfl 8 (by decide) (hts _ mX9_isLive_1) (fun _ h9 => h9) rfl dX9_isLive_26 ?_
      refine lv_iconst (v := 0) hx hb dX9_isLive_29 (by decide) ?_
      refine ld_i (v := (g766 0)) hx hb hN hP 0 rfl (vp_in_nI (n := 0) (N := 45783) (by omega) (by omega)) (by rw [(show (0 : Int32).toNatClampNeg = 0 from nI_clamp (n := 0) (by omega))]) dX9_isLive_30 ?_
      obtain ⟨n780, hn780, en780⟩ := q766.1
      refine tp_i (nI n780) en780 ?_
      refine lv_icmp_ge (tgt := 66) hx hb dX9_isLive_31 (by decide) (fun c781 => ?_) (fun c781 => ?_)
      · have c781 : n780 ≤ p := (nI_leI (a := n780) (b := p) (by omega) (by omega)).mp c781
        refine lv_iload_n hx hb dX9_isLive_66 rfl (lv_at hl 1 rfl) ?_
        exact en_i hx hb hr hlocks hL (nb hx) (Nat.zero_le _) (Nat.zero_le _) dX9_isLive_67 (⟨rfl, hx⟩)
      · have c781 : ¬ n780 ≤ p := fun h9 => c781 ((nI_leI (a := n780) (b := p) (by omega) (by omega)).mpr h9)
        refine lv_iload_n hx hb dX9_isLive_34 rfl (lv_at hl 1 rfl) ?_
        refine lv_aload_n hx hb dX9_isLive_35 rfl (lv_at hl 2 rfl) ?_
        refine lv_iload_n hx hb dX9_isLive_36 rfl (lv_at hl 0 rfl) ?_
        refine cv_i (As := [.int (nI p)]) (rest := [.int x]) (b := w) ⟨hx, hb, hml, hown, hts⟩ (c_X9_isUp hT (w := w) hw (n := p) (by first | omega | decide | assumption)) (cwV 1 hts gX9_isLive_X9_isUp rfl rfl rfl hdX9_isUp_v ⟨Nat.le_of_ble_eq_true rfl, Nat.le_of_ble_eq_true rfl⟩) hN hL (rcv10 hN hT hw.1) rfl rfl hl.1 (Nat.le_of_ble_eq_true rfl) dX9_isLive_37 (Nat.zero_le _) (Nat.zero_le _) (fun r782 H1 locs hL hqr782 => ?_)
        obtain ⟨rfl, hqr782⟩ := hqr782
        rcases hqr782 with rfl | rfl
        · refine lv_if_eq (tgt := 57) hx hb dX9_isLive_40 (by decide) (fun _ => ?_) (fun c9 => absurd (by decide) c9)
          refine lv_iconst (v := 0) hx hb dX9_isLive_57 (by decide) ?_
          refine lv_ior hx hb dX9_isLive_58 ?_
          obtain ⟨z783, hz783, ez783⟩ := or01 (y := 0) (hx) (Or.inl rfl)
          refine tp_i z783 ez783 ?_
          refine lv_istore_n (lv' := [(1, .int z783), (2, .int (nI p)), (0, .ref w)]) hx hb dX9_isLive_59 rfl hl (by decide) rfl (fun ls hl => ?_)
          refine lv_iinc (v := (nI (p + 1))) (lv' := [(2, .int (nI (p + 1))), (1, .int z783), (0, .ref w)]) hx hb dX9_isLive_60 hl (k := 1) rfl (nI_add _ 1) (by decide) rfl (fun ls hl => ?_)
          refine lv_goto (tgt := 24) hx hb dX9_isLive_63 (by decide) ?_
          exact ih779 ((p + 1), z783) _ (by show 8 - ((p + 1)) < 8 - p; omega) ⟨(hz783), (by omega)⟩ (lv_sub hl [0, 1, 2] rfl)
        · refine lv_if_eq (tgt := 57) hx hb dX9_isLive_40 (by decide) (fun c9 => absurd c9 (by decide)) (fun _ => ?_)
          refine lv_aload_n hx hb dX9_isLive_43 rfl (lv_at hl 2 rfl) ?_
          refine lv_iload_n hx hb dX9_isLive_44 rfl (lv_at hl 0 rfl) ?_
          refine lv_iconst (v := 5) hx hb dX9_isLive_45 (by decide) ?_
          refine cv_i (As := [.int (nI p), .int 5]) (rest := [.int x]) (b := w) ⟨hx, hb, hml, hown, hts⟩ (c_X9_of hT (w := w) hw (n := p) (k := 5) (by first | omega | decide | assumption) (by first | omega | decide | assumption)) (cwV 2 hts gX9_isLive_X9_of rfl rfl rfl hdX9_of_v ⟨Nat.le_of_ble_eq_true rfl, Nat.le_of_ble_eq_true rfl⟩) hN hL (rcv10 hN hT hw.1) rfl rfl hl.1 (Nat.le_of_ble_eq_true rfl) dX9_isLive_46 (Nat.zero_le _) (Nat.zero_le _) (fun r784 H1 locs hL hqr784 => ?_)
          obtain rfl := hqr784
          refine lv_iconst (v := 2) hx hb dX9_isLive_49 (by decide) ?_
          refine lv_icmp_ne (tgt := 57) hx hb dX9_isLive_50 (by decide) (fun c785 => ?_) (fun c785 => ?_)
          · refine lv_iconst (v := 0) hx hb dX9_isLive_57 (by decide) ?_
            refine lv_ior hx hb dX9_isLive_58 ?_
            obtain ⟨z786, hz786, ez786⟩ := or01 (y := 0) (hx) (Or.inl rfl)
            refine tp_i z786 ez786 ?_
            refine lv_istore_n (lv' := [(1, .int z786), (2, .int (nI p)), (0, .ref w)]) hx hb dX9_isLive_59 rfl hl (by decide) rfl (fun ls hl => ?_)
            refine lv_iinc (v := (nI (p + 1))) (lv' := [(2, .int (nI (p + 1))), (1, .int z786), (0, .ref w)]) hx hb dX9_isLive_60 hl (k := 1) rfl (nI_add _ 1) (by decide) rfl (fun ls hl => ?_)
            refine lv_goto (tgt := 24) hx hb dX9_isLive_63 (by decide) ?_
            exact ih779 ((p + 1), z786) _ (by show 8 - ((p + 1)) < 8 - p; omega) ⟨(hz786), (by omega)⟩ (lv_sub hl [0, 1, 2] rfl)
          · refine lv_iconst (v := 1) hx hb dX9_isLive_53 (by decide) ?_
            refine lv_goto (tgt := 58) hx hb dX9_isLive_54 (by decide) ?_
            refine lv_ior hx hb dX9_isLive_58 ?_
            obtain ⟨z787, hz787, ez787⟩ := or01 (y := 1) (hx) (Or.inr rfl)
            refine tp_i z787 ez787 ?_
            refine lv_istore_n (lv' := [(1, .int z787), (2, .int (nI p)), (0, .ref w)]) hx hb dX9_isLive_59 rfl hl (by decide) rfl (fun ls hl => ?_)
            refine lv_iinc (v := (nI (p + 1))) (lv' := [(2, .int (nI (p + 1))), (1, .int z787), (0, .ref w)]) hx hb dX9_isLive_60 hl (k := 1) rfl (nI_add _ 1) (by decide) rfl (fun ls hl => ?_)
            refine lv_goto (tgt := 24) hx hb dX9_isLive_63 (by decide) ?_
            exact ih779 ((p + 1), z787) _ (by show 8 - ((p + 1)) < 8 - p; omega) ⟨(hz787), (by omega)⟩ (lv_sub hl [0, 1, 2] rfl)
    · refine lv_if_eq (tgt := 20) hx hb dX9_isLive_13 (by decide) (fun c9 => absurd c9 (by decide)) (fun _ => ?_)
      refine lv_iconst (v := 1) hx hb dX9_isLive_16 (by decide) ?_
      refine lv_goto (tgt := 21) hx hb dX9_isLive_17 (by decide) ?_
      refine lv_istore_n (lv' := [(1, .int 1), (0, .ref w)]) hx hb dX9_isLive_21 rfl hl (by decide) rfl (fun ls hl => ?_)
      refine lv_iconst (v := 0) hx hb dX9_isLive_22 (by decide) ?_
      refine lv_istore_n (lv' := [(2, .int 0), (1, .int 1), (0, .ref w)]) hx hb dX9_isLive_23 rfl hl (by decide) rfl (fun ls hl => ?_)
      refine lp_r (α := Nat × Int32) (nL := 3) (fun a9 => 8 - a9.1) (fun a9 => (a9.2 = 0 ∨ a9.2 = 1) ∧ (a9.1 ≤ 8)) (fun a9 => [(2, .int (nI a9.1)), (1, .int a9.2), (0, .ref w)]) ?_ (0, 1) _ ⟨(Or.inr rfl), (by omega)⟩ (lv_sub hl [0, 1, 2] rfl)
      rintro ⟨p, x⟩ ls ih788 ⟨hx, hp⟩ hl
      have hl : lv_has ls 3 [(2, .int (nI p)), (1, .int x), (0, .ref w)] := hl
      have hx : x = 0 ∨ x = 1 := hx
      have hp : p ≤ 8 := hp
      refine lv_iload_n hx hb dX9_isLive_24 rfl (lv_at hl 0 rfl) ?_
      refine lv_aload_n hx hb dX9_isLive_25 rfl (lv_at hl 2 rfl) ?_
      refine va_get (D := D) (ci := 9) (v := .ref f765_8) (C := RX9) (T := TX9) (N := 18) hx hb hts iX9_isLive_9 hown hN.1 hP 1 rfl rfl 8 (by decide) (hts _ mX9_isLive_1) (fun _ h9 => h9) rfl dX9_isLive_26 ?_
      refine lv_iconst (v := 0) hx hb dX9_isLive_29 (by decide) ?_
      refine ld_i (v := (g766 0)) hx hb hN hP 0 rfl (vp_in_nI (n := 0) (N := 45783) (by omega) (by omega)) (by rw [(show (0 : Int32).toNatClampNeg = 0 from nI_clamp (n := 0) (by omega))]) dX9_isLive_30 ?_
      obtain ⟨n789, hn789, en789⟩ := q766.1
      refine tp_i (nI n789) en789 ?_
      refine lv_icmp_ge (tgt := 66) hx hb dX9_isLive_31 (by decide) (fun c790 => ?_) (fun c790 => ?_)
      · have c790 : n789 ≤ p := (nI_leI (a := n789) (b := p) (by omega) (by omega)).mp c790
        refine lv_iload_n hx hb dX9_isLive_66 rfl (lv_at hl 1 rfl) ?_
        exact en_i hx hb hr hlocks hL (nb hx) (Nat.zero_le _) (Nat.zero_le _) dX9_isLive_67 (⟨rfl, hx⟩)
      · have c790 : ¬ n789 ≤ p := fun h9 => c790 ((nI_leI (a := n789) (b := p) (by omega) (by omega)).mpr h9)
        refine lv_iload_n hx hb dX9_isLive_34 rfl (lv_at hl 1 rfl) ?_
        refine lv_aload_n hx hb dX9_isLive_35 rfl (lv_at hl 2 rfl) ?_
        refine lv_iload_n hx hb dX9_isLive_36 rfl (lv_at hl 0 rfl) ?_
        refine cv_i (As := [.int (nI p)]) (rest := [.int x]) (b := w) ⟨hx, hb, hml, hown, hts⟩ (c_X9_isUp hT (w := w) hw (n := p) (by first | omega | decide | assumption)) (cwV 1 hts gX9_isLive_X9_isUp rfl rfl rfl hdX9_isUp_v ⟨Nat.le_of_ble_eq_true rfl, Nat.le_of_ble_eq_true rfl⟩) hN hL (rcv10 hN hT hw.1) rfl rfl hl.1 (Nat.le_of_ble_eq_true rfl) dX9_isLive_37 (Nat.zero_le _) (Nat.zero_le _) (fun r791 H1 locs hL hqr791 => ?_)
        obtain ⟨rfl, hqr791⟩ := hqr791
        rcases hqr791 with rfl | rfl
        · refine lv_if_eq (tgt := 57) hx hb dX9_isLive_40 (by decide) (fun _ => ?_) (fun c9 => absurd (by decide) c9)
          refine lv_iconst (v := 0) hx hb dX9_isLive_57 (by decide) ?_
          refine lv_ior hx hb dX9_isLive_58 ?_
          obtain ⟨z792, hz792, ez792⟩ := or01 (y := 0) (hx) (Or.inl rfl)
          refine tp_i z792 ez792 ?_
          refine lv_istore_n (lv' := [(1, .int z792), (2, .int (nI p)), (0, .ref w)]) hx hb dX9_isLive_59 rfl hl (by decide) rfl (fun ls hl => ?_)
          refine lv_iinc (v := (nI (p + 1))) (lv' := [(2, .int (nI (p + 1))), (1, .int z792), (0, .ref w)]) hx hb dX9_isLive_60 hl (k := 1) rfl (nI_add _ 1) (by decide) rfl (fun ls hl => ?_)
          refine lv_goto (tgt := 24) hx hb dX9_isLive_63 (by decide) ?_
          exact ih788 ((p + 1), z792) _ (by show 8 - ((p + 1)) < 8 - p; omega) ⟨(hz792), (by omega)⟩ (lv_sub hl [0, 1, 2] rfl)
        · refine lv_if_eq (tgt := 57) hx hb dX9_isLive_40 (by decide) (fun c9 => absurd c9 (by decide)) (fun _ => ?_)
          refine lv_aload_n hx hb dX9_isLive_43 rfl (lv_at hl 2 rfl) ?_
          refine lv_iload_n hx hb dX9_isLive_44 rfl (lv_at hl 0 rfl) ?_
          refine lv_iconst (v := 5) hx hb dX9_isLive_45 (by decide) ?_
          refine cv_i (As := [.int (nI p), .int 5]) (rest := [.int x]) (b := w) ⟨hx, hb, hml, hown, hts⟩ (c_X9_of hT (w := w) hw (n := p) (k := 5) (by first | omega | decide | assumption) (by first | omega | decide | assumption)) (cwV 2 hts gX9_isLive_X9_of rfl rfl rfl hdX9_of_v ⟨Nat.le_of_ble_eq_true rfl, Nat.le_of_ble_eq_true rfl⟩) hN hL (rcv10 hN hT hw.1) rfl rfl hl.1 (Nat.le_of_ble_eq_true rfl) dX9_isLive_46 (Nat.zero_le _) (Nat.zero_le _) (fun r793 H1 locs hL hqr793 => ?_)
          obtain rfl := hqr793
          refine lv_iconst (v := 2) hx hb dX9_isLive_49 (by decide) ?_
          refine lv_icmp_ne (tgt := 57) hx hb dX9_isLive_50 (by decide) (fun c794 => ?_) (fun c794 => ?_)
          · refine lv_iconst (v := 0) hx hb dX9_isLive_57 (by decide) ?_
            refine lv_ior hx hb dX9_isLive_58 ?_
            obtain ⟨z795, hz795, ez795⟩ := or01 (y := 0) (hx) (Or.inl rfl)
            refine tp_i z795 ez795 ?_
            refine lv_istore_n (lv' := [(1, .int z795), (2, .int (nI p)), (0, .ref w)]) hx hb dX9_isLive_59 rfl hl (by decide) rfl (fun ls hl => ?_)
            refine lv_iinc (v := (nI (p + 1))) (lv' := [(2, .int (nI (p + 1))), (1, .int z795), (0, .ref w)]) hx hb dX9_isLive_60 hl (k := 1) rfl (nI_add _ 1) (by decide) rfl (fun ls hl => ?_)
            refine lv_goto (tgt := 24) hx hb dX9_isLive_63 (by decide) ?_
            exact ih788 ((p + 1), z795) _ (by show 8 - ((p + 1)) < 8 - p; omega) ⟨(hz795), (by omega)⟩ (lv_sub hl [0, 1, 2] rfl)
          · refine lv_iconst (v := 1) hx hb dX9_isLive_53 (by decide) ?_
            refine lv_goto (tgt := 58) hx hb dX9_isLive_54 (by decide) ?_
            refine lv_ior hx hb dX9_isLive_58 ?_
            obtain ⟨z796, hz796, ez796⟩ := or01 (y := 1) (hx) (Or.inr rfl)
            refine tp_i z796 ez796 ?_
            refine lv_istore_n (lv' := [(1, .int z796), (2, .int (nI p)), (0, .ref w)]) hx hb dX9_isLive_59 rfl hl (by decide) rfl (fun ls hl => ?_)
            refine lv_iinc (v := (nI (p + 1))) (lv' := [(2, .int (nI (p + 1))), (1, .int z796), (0, .ref w)]) hx hb dX9_isLive_60 hl (k := 1) rfl (nI_add _ 1) (by decide) rfl (fun ls hl => ?_)
            refine lv_goto (tgt := 24) hx hb dX9_isLive_63 (by decide) ?_
            exact ih788 ((p + 1), z796) _ (by show 8 - ((p + 1)) < 8 - p; omega) ⟨(hz796), (by omega)⟩ (lv_sub hl [0, 1, 2] rfl)
theorem mX9_noPlayer_1 : (.fieldLink RX9 18 "OneBeatModel" "data" "[I" : Cond) ∈ wsX9_noPlayer := List.mem_of_getElem? (i := 1) (by decide +kernel)
theorem iX9_noPlayer_9 : ∀ w ∈ wsX90, w ∈ wsX9_noPlayer := fun w h => List.mem_of_mem_drop (List.mem_of_mem_take ((show wsX90 = (wsX9_noPlayer.drop 11).take 18 by decide +kernel) ▸ h))
theorem hdX9_in_o : yX9_in.cls ≠ "java/lang/invoke/MethodHandle" ∧ yX9_in.cls ≠ "java/lang/invoke/VarHandle" ∧ (parseMethodDescriptor yX9_in.desc).map (fun d => d.parameters.length) = some 3 := by decide +kernel
theorem hdX9_fails_v : yX9_fails.cls = RX9 ∧ yX9_fails.cls ≠ "java/lang/invoke/MethodHandle" ∧ yX9_fails.cls ≠ "java/lang/invoke/VarHandle" ∧ (parseMethodDescriptor yX9_fails.desc).map (fun d => d.parameters.length) = some 2 := by decide +kernel
set_option maxHeartbeats 4000000 in
set_option maxRecDepth 100000 in
theorem c_X9_noPlayer {l : Launch} {D : va_G} {cs : Nat → ClassId} {B0 T : Nat} {κ : KM} {H0 : Heap} (hT : WT B0 D cs T κ H0) {w : Nat} (hw : T2 κ w 10 12) {x : Int32} : KC l yX9_noPlayer wsX9_noPlayer 1 22 0 0 D cs B0 H0 [.ref w, .int x] (Qi (fun r H => WT B0 D cs T κ H ∧ Fr B0 [12] κ H0 H ∧ (r = 1 ∨ (r = 0 ∧ ∃ n, n < 8 ∧ x = nI n)))) := by
  refine KC.of cX9_noPlayer 2 (some .boolean) (by decide) rfl (Nat.le_of_ble_eq_true rfl) ?_
  intro p e s m below meth c ls hx hb hr hml hown hts hlocks hin hN hH0 hl
  have hown : s.vm.findClass RX9 = some m.cls := hown
  have hl : lv_has ls 2 [(0, .ref w), (1, .int x)] := hl
  have hL : OkL B0 [] := OkL.nil
  have hF : Fr B0 [12] κ H0 H0 := Fr.rf
  refine lv_aload_n hx hb dX9_noPlayer_0 rfl (lv_at hl 0 rfl) ?_
  refine lv_iload_n hx hb dX9_noPlayer_1 rfl (lv_at hl 1 rfl) ?_
  refine lv_iconst (v := 0) hx hb dX9_noPlayer_2 (by decide) ?_
  refine lv_aload_n hx hb dX9_noPlayer_3 rfl (lv_at hl 0 rfl) ?_
  obtain ⟨hb797, e797, hat797, hk797⟩ := hT.o10 hw.1
  obtain ⟨f797_0, f797_1, f797_3, f797_4, f797_5, f797_6, f797_7, f797_8, f797_9, f797_10, f797_11, f797_12, f797_13, f797_14, f797_15, f797_16, f797_17, rfl, c797_2, c797_3, c797_4, c797_12, t797_1, t797_8, t797_9, c797_sd, t797_10, t797_11, t797_17⟩ := hk797
  have hP : va_P D vwCl [(w, .inr (9, [.int f797_0, .ref f797_1, .int (nI ((κ w).2.2.1)), .int (nI f797_3), .int (nI f797_4), .int f797_5, .int f797_6, .int f797_7, .ref f797_8, .ref f797_9, .ref f797_10, .ref f797_11, .int (nI f797_12), .int f797_13, .int f797_14, .int f797_15, .int f797_16, .ref f797_17]))] _ := va_P.cons hat797 va_P.nil
  refine va_get (D := D) (ci := 9) (v := .ref f797_8) (C := RX9) (T := TX9) (N := 18) hx hb hts iX9_noPlayer_9 hown hN.1 hP 0 rfl rfl 8 (by decide) (hts _ mX9_noPlayer_1) (fun _ h9 => h9) rfl dX9_noPlayer_4 ?_
  refine lv_iconst (v := 0) hx hb dX9_noPlayer_7 (by decide) ?_
  obtain ⟨hb798, e798, hat798, hk798⟩ := hT.o24 t797_8.1
  obtain ⟨g798, rfl, q798⟩ := hk798
  have hP : va_P D vwCl [(f797_8, .inl (cs 0, 45783, .inl g798)), (w, .inr (9, [.int f797_0, .ref f797_1, .int (nI ((κ w).2.2.1)), .int (nI f797_3), .int (nI f797_4), .int f797_5, .int f797_6, .int f797_7, .ref f797_8, .ref f797_9, .ref f797_10, .ref f797_11, .int (nI f797_12), .int f797_13, .int f797_14, .int f797_15, .int f797_16, .ref f797_17]))] _ := va_P.cons hat798 hP
  refine ld_i (v := (g798 0)) hx hb hN hP 0 rfl (vp_in_nI (n := 0) (N := 45783) (by omega) (by omega)) (by rw [(show (0 : Int32).toNatClampNeg = 0 from nI_clamp (n := 0) (by omega))]) dX9_noPlayer_8 ?_
  obtain ⟨n799, hn799, en799⟩ := q798.1
  refine tp_i (nI n799) en799 ?_
  refine lv_iconst (v := 1) hx hb dX9_noPlayer_9 (by decide) ?_
  refine lv_isub hx hb dX9_noPlayer_10 ?_
  refine cs_i (As := [.int x, .int 0, .int ((nI n799) - 1)]) (rest := [.ref w]) ⟨hx, hb, hml, hown, hts⟩ (c_X9_in hT (x := x) (y := 0) (z := ((nI n799) - 1))) (va_cwS 3 hts gX9_noPlayer_X9_in rfl rfl rfl hdX9_in_o ⟨Nat.le_of_ble_eq_true rfl, Nat.le_of_ble_eq_true rfl⟩) hN hL rfl rfl hl.1 (Nat.le_of_ble_eq_true rfl) dX9_noPlayer_11 (Nat.zero_le _) (Nat.zero_le _) (fun r800 H1 locs hL hqr800 => ?_)
  obtain ⟨rfl, hqr800⟩ := hqr800
  rcases hqr800 with ⟨rfl, o801⟩ | ⟨rfl, l802, g803⟩
  · refine lv_if_ne (tgt := 21) hx hb dX9_noPlayer_14 (by decide) (fun c9 => absurd (by decide) c9) (fun _ => ?_)
    refine lv_iconst (v := 1) hx hb dX9_noPlayer_17 (by decide) ?_
    refine lv_goto (tgt := 22) hx hb dX9_noPlayer_18 (by decide) ?_
    refine lv_iconst (v := 1) hx hb dX9_noPlayer_22 (by decide) ?_
    refine cv_i (As := [.int 1, .int 1]) (rest := []) (b := w) ⟨hx, hb, hml, hown, hts⟩ (c_X9_fails hT (w := w) hw (x := 1) (z := 1) ((by decide))) (cwV 2 hts gX9_noPlayer_X9_fails rfl rfl rfl hdX9_fails_v ⟨Nat.le_of_ble_eq_true rfl, Nat.le_of_ble_eq_true rfl⟩) hN hL (rcv10 hN hT hw.1) rfl rfl hl.1 (Nat.le_of_ble_eq_true rfl) dX9_noPlayer_23 (Nat.zero_le _) (Nat.zero_le _) (fun r804 H1 locs hL hqr804 => ?_)
    obtain ⟨hT1, hF1, hqr804⟩ := hqr804
    have hF := hF.tr (hF1.mono (by simp))
    have hT := hT1
    rcases hqr804 with rfl | ⟨rfl, e805⟩
    · exact en_i hx hb hr hlocks hL rfl (Nat.zero_le _) (Nat.zero_le _) dX9_noPlayer_26 (⟨hT, hF, Or.inl rfl⟩)
    · exact absurd e805 (by decide)
  · refine lv_if_ne (tgt := 21) hx hb dX9_noPlayer_14 (by decide) (fun _ => ?_) (fun c9 => absurd c9 (by decide))
    refine lv_iconst (v := 0) hx hb dX9_noPlayer_21 (by decide) ?_
    refine lv_iconst (v := 1) hx hb dX9_noPlayer_22 (by decide) ?_
    refine cv_i (As := [.int 0, .int 1]) (rest := []) (b := w) ⟨hx, hb, hml, hown, hts⟩ (c_X9_fails hT (w := w) hw (x := 0) (z := 1) ((by decide))) (cwV 2 hts gX9_noPlayer_X9_fails rfl rfl rfl hdX9_fails_v ⟨Nat.le_of_ble_eq_true rfl, Nat.le_of_ble_eq_true rfl⟩) hN hL (rcv10 hN hT hw.1) rfl rfl hl.1 (Nat.le_of_ble_eq_true rfl) dX9_noPlayer_23 (Nat.zero_le _) (Nat.zero_le _) (fun r806 H1 locs hL hqr806 => ?_)
    obtain ⟨hT1, hF1, hqr806⟩ := hqr806
    have hF := hF.tr (hF1.mono (by simp))
    have hT := hT1
    rcases hqr806 with rfl | ⟨rfl, e807⟩
    · exact en_i hx hb hr hlocks hL rfl (Nat.zero_le _) (Nat.zero_le _) dX9_noPlayer_26 (⟨hT, hF, Or.inl rfl⟩)
    · exact en_i hx hb hr hlocks hL rfl (Nat.zero_le _) (Nat.zero_le _) dX9_noPlayer_26 (⟨hT, hF, Or.inr ⟨rfl, rngm (by omega) l802 g803⟩⟩)
theorem mX9_songs_1 : (.fieldLink RX9 18 "OneBeatModel" "data" "[I" : Cond) ∈ wsX9_songs := List.mem_of_getElem? (i := 1) (by decide +kernel)
theorem iX9_songs_9 : ∀ w ∈ wsX90, w ∈ wsX9_songs := fun w h => List.mem_of_mem_drop (List.mem_of_mem_take ((show wsX90 = (wsX9_songs.drop 14).take 18 by decide +kernel) ▸ h))
set_option maxHeartbeats 4000000 in
set_option maxRecDepth 100000 in
theorem c_X9_songs {l : Launch} {D : va_G} {cs : Nat → ClassId} {B0 T : Nat} {κ : KM} {H0 : Heap} (hT : WT B0 D cs T κ H0) {w : Nat} (hw : T2 κ w 10 12) : KC l yX9_songs wsX9_songs 3 63 0 0 D cs B0 H0 [.ref w] (Qi (fun _ H => H = H0)) := by
  refine KC.of cX9_songs 5 (some .int) (by decide) rfl (Nat.le_of_ble_eq_true rfl) ?_
  intro p e s m below meth c ls hx hb hr hml hown hts hlocks hin hN hH0 hl
  have hown : s.vm.findClass RX9 = some m.cls := hown
  have hl : lv_has ls 5 [(0, .ref w)] := hl
  have hL : OkL B0 [] := OkL.nil
  refine lv_iconst (v := 0) hx hb dX9_songs_0 (by decide) ?_
  refine lv_istore_n (lv' := [(1, .int 0), (0, .ref w)]) hx hb dX9_songs_1 rfl hl (by decide) rfl (fun ls hl => ?_)
  refine lv_iconst (v := 0) hx hb dX9_songs_2 (by decide) ?_
  refine lv_istore_n (lv' := [(2, .int 0), (1, .int 0), (0, .ref w)]) hx hb dX9_songs_3 rfl hl (by decide) rfl (fun ls hl => ?_)
  refine lp_r (α := Nat × Int32) (nL := 5) (fun a9 => 8 - a9.1) (fun a9 => (a9.1 ≤ 8)) (fun a9 => [(2, .int (nI a9.1)), (1, .int a9.2), (0, .ref w)]) ?_ (0, 0) _ (by omega) (lv_sub hl [0, 1, 2] rfl)
  rintro ⟨p, x⟩ ls ih808 hp hl
  have hl : lv_has ls 5 [(2, .int (nI p)), (1, .int x), (0, .ref w)] := hl
  have hp : p ≤ 8 := hp
  refine lv_iload_n hx hb dX9_songs_4 rfl (lv_at hl 0 rfl) ?_
  refine lv_aload_n hx hb dX9_songs_5 rfl (lv_at hl 2 rfl) ?_
  obtain ⟨hb809, e809, hat809, hk809⟩ := hT.o10 hw.1
  obtain ⟨f809_0, f809_1, f809_3, f809_4, f809_5, f809_6, f809_7, f809_8, f809_9, f809_10, f809_11, f809_12, f809_13, f809_14, f809_15, f809_16, f809_17, rfl, c809_2, c809_3, c809_4, c809_12, t809_1, t809_8, t809_9, c809_sd, t809_10, t809_11, t809_17⟩ := hk809
  have hP : va_P D vwCl [(w, .inr (9, [.int f809_0, .ref f809_1, .int (nI ((κ w).2.2.1)), .int (nI f809_3), .int (nI f809_4), .int f809_5, .int f809_6, .int f809_7, .ref f809_8, .ref f809_9, .ref f809_10, .ref f809_11, .int (nI f809_12), .int f809_13, .int f809_14, .int f809_15, .int f809_16, .ref f809_17]))] _ := va_P.cons hat809 va_P.nil
  refine va_get (D := D) (ci := 9) (v := .ref f809_8) (C := RX9) (T := TX9) (N := 18) hx hb hts iX9_songs_9 hown hN.1 hP 0 rfl rfl 8 (by decide) (hts _ mX9_songs_1) (fun _ h9 => h9) rfl dX9_songs_6 ?_
  refine lv_iconst (v := 0) hx hb dX9_songs_9 (by decide) ?_
  obtain ⟨hb810, e810, hat810, hk810⟩ := hT.o24 t809_8.1
  obtain ⟨g810, rfl, q810⟩ := hk810
  have hP : va_P D vwCl [(f809_8, .inl (cs 0, 45783, .inl g810)), (w, .inr (9, [.int f809_0, .ref f809_1, .int (nI ((κ w).2.2.1)), .int (nI f809_3), .int (nI f809_4), .int f809_5, .int f809_6, .int f809_7, .ref f809_8, .ref f809_9, .ref f809_10, .ref f809_11, .int (nI f809_12), .int f809_13, .int f809_14, .int f809_15, .int f809_16, .ref f809_17]))] _ := va_P.cons hat810 hP
  refine ld_i (v := (g810 0)) hx hb hN hP 0 rfl (vp_in_nI (n := 0) (N := 45783) (by omega) (by omega)) (by rw [(show (0 : Int32).toNatClampNeg = 0 from nI_clamp (n := 0) (by omega))]) dX9_songs_10 ?_
  obtain ⟨n811, hn811, en811⟩ := q810.1
  refine tp_i (nI n811) en811 ?_
  refine lv_icmp_ge (tgt := 86) hx hb dX9_songs_11 (by decide) (fun c812 => ?_) (fun c812 => ?_)
  · have c812 : n811 ≤ p := (nI_leI (a := n811) (b := p) (by omega) (by omega)).mp c812
    refine lv_iload_n hx hb dX9_songs_86 rfl (lv_at hl 1 rfl) ?_
    exact en_i hx hb hr hlocks hL rfl (Nat.zero_le _) (Nat.zero_le _) dX9_songs_87 (rfl)
  · have c812 : ¬ n811 ≤ p := fun h9 => c812 ((nI_leI (a := n811) (b := p) (by omega) (by omega)).mpr h9)
    refine lv_aload_n hx hb dX9_songs_14 rfl (lv_at hl 2 rfl) ?_
    refine lv_iload_n hx hb dX9_songs_15 rfl (lv_at hl 0 rfl) ?_
    refine cv_i (As := [.int (nI p)]) (rest := []) (b := w) ⟨hx, hb, hml, hown, hts⟩ (c_X9_isUp hT (w := w) hw (n := p) (by first | omega | decide | assumption)) (cwV 1 hts gX9_songs_X9_isUp rfl rfl rfl hdX9_isUp_v ⟨Nat.le_of_ble_eq_true rfl, Nat.le_of_ble_eq_true rfl⟩) hN hL (rcv10 hN hT hw.1) rfl rfl hl.1 (Nat.le_of_ble_eq_true rfl) dX9_songs_16 (Nat.zero_le _) (Nat.zero_le _) (fun r813 H1 locs hL hqr813 => ?_)
    obtain ⟨rfl, hqr813⟩ := hqr813
    rcases hqr813 with rfl | rfl
    · refine lv_istore_n (lv' := [(3, .int 0), (2, .int (nI p)), (1, .int x), (0, .ref w)]) hx hb dX9_songs_19 rfl hl (by decide) rfl (fun ls hl => ?_)
      refine lv_iconst (v := 0) hx hb dX9_songs_20 (by decide) ?_
      refine lv_istore (lv' := [(4, .int 0), (3, .int 0), (2, .int (nI p)), (1, .int x), (0, .ref w)]) hx hb dX9_songs_21 hl (by decide) rfl (fun ls hl => ?_)
      refine lp_r (α := Nat × Int32) (nL := 5) (fun a9 => 8 - a9.1) (fun a9 => (a9.1 ≤ 8)) (fun a9 => [(4, .int (nI a9.1)), (3, .int a9.2), (0, .ref w), (1, .int x), (2, .int (nI p))]) ?_ (0, 0) _ (by omega) (lv_sub hl [0, 1, 4, 3, 2] rfl)
      rintro ⟨q, z⟩ ls ih814 hq hl
      have hl : lv_has ls 5 [(4, .int (nI q)), (3, .int z), (0, .ref w), (1, .int x), (2, .int (nI p))] := hl
      have hq : q ≤ 8 := hq
      refine lv_iload hx hb dX9_songs_23 (lv_at hl 0 rfl) ?_
      refine lv_iload_n hx hb dX9_songs_25 rfl (lv_at hl 4 rfl) ?_
      refine lv_icmp_ge (tgt := 68) hx hb dX9_songs_26 (by decide) (fun c815 => ?_) (fun c815 => ?_)
      · have c815 : p ≤ q := (nI_leI (a := p) (b := q) (by omega) (by omega)).mp c815
        refine lv_iload_n hx hb dX9_songs_68 rfl (lv_at hl 3 rfl) ?_
        refine lv_iload_n hx hb dX9_songs_69 rfl (lv_at hl 1 rfl) ?_
        refine lv_if_eq (tgt := 77) hx hb dX9_songs_70 (by decide) (fun c816 => ?_) (fun c816 => ?_)
        · refine lv_iconst (v := 0) hx hb dX9_songs_77 (by decide) ?_
          refine lv_iadd hx hb dX9_songs_78 ?_
          refine gn_i (fun x817 => ?_)
          refine lv_istore_n (lv' := [(1, .int x817), (4, .int (nI q)), (3, .int z), (0, .ref w), (2, .int (nI p))]) hx hb dX9_songs_79 rfl hl (by decide) rfl (fun ls hl => ?_)
          refine lv_iinc (v := (nI (p + 1))) (lv' := [(2, .int (nI (p + 1))), (1, .int x817), (4, .int (nI q)), (3, .int z), (0, .ref w)]) hx hb dX9_songs_80 hl (k := 4) rfl (nI_add _ 1) (by decide) rfl (fun ls hl => ?_)
          refine lv_goto (tgt := 4) hx hb dX9_songs_83 (by decide) ?_
          exact ih808 ((p + 1), x817) _ (by show 8 - ((p + 1)) < 8 - p; omega) (by omega) (lv_sub hl [0, 1, 4] rfl)
        · refine lv_iconst (v := 1) hx hb dX9_songs_73 (by decide) ?_
          refine lv_goto (tgt := 78) hx hb dX9_songs_74 (by decide) ?_
          refine lv_iadd hx hb dX9_songs_78 ?_
          refine gn_i (fun x818 => ?_)
          refine lv_istore_n (lv' := [(1, .int x818), (4, .int (nI q)), (3, .int z), (0, .ref w), (2, .int (nI p))]) hx hb dX9_songs_79 rfl hl (by decide) rfl (fun ls hl => ?_)
          refine lv_iinc (v := (nI (p + 1))) (lv' := [(2, .int (nI (p + 1))), (1, .int x818), (4, .int (nI q)), (3, .int z), (0, .ref w)]) hx hb dX9_songs_80 hl (k := 4) rfl (nI_add _ 1) (by decide) rfl (fun ls hl => ?_)
          refine lv_goto (tgt := 4) hx hb dX9_songs_83 (by decide) ?_
          exact ih808 ((p + 1), x818) _ (by show 8 - ((p + 1)) < 8 - p; omega) (by omega) (lv_sub hl [0, 1, 4] rfl)
      · have c815 : ¬ p ≤ q := fun h9 => c815 ((nI_leI (a := p) (b := q) (by omega) (by omega)).mpr h9)
        refine lv_iload_n hx hb dX9_songs_29 rfl (lv_at hl 1 rfl) ?_
        refine lv_aload_n hx hb dX9_songs_30 rfl (lv_at hl 2 rfl) ?_
        refine lv_iload hx hb dX9_songs_31 (lv_at hl 0 rfl) ?_
        refine cv_i (As := [.int (nI q)]) (rest := [.int z]) (b := w) ⟨hx, hb, hml, hown, hts⟩ (c_X9_isUp hT (w := w) hw (n := q) (by first | omega | decide | assumption)) (cwV 1 hts gX9_songs_X9_isUp rfl rfl rfl hdX9_isUp_v ⟨Nat.le_of_ble_eq_true rfl, Nat.le_of_ble_eq_true rfl⟩) hN hL (rcv10 hN hT hw.1) rfl rfl hl.1 (Nat.le_of_ble_eq_true rfl) dX9_songs_33 (Nat.zero_le _) (Nat.zero_le _) (fun r819 H1 locs hL hqr819 => ?_)
        obtain ⟨rfl, hqr819⟩ := hqr819
        rcases hqr819 with rfl | rfl
        · refine lv_if_eq (tgt := 55) hx hb dX9_songs_36 (by decide) (fun _ => ?_) (fun c9 => absurd (by decide) c9)
          refine lv_iconst (v := 1) hx hb dX9_songs_55 (by decide) ?_
          refine lv_goto (tgt := 60) hx hb dX9_songs_56 (by decide) ?_
          refine lv_iand hx hb dX9_songs_60 ?_
          refine gn_i (fun x820 => ?_)
          refine lv_istore_n (lv' := [(3, .int x820), (4, .int (nI q)), (0, .ref w), (1, .int x), (2, .int (nI p))]) hx hb dX9_songs_61 rfl hl (by decide) rfl (fun ls hl => ?_)
          refine lv_iinc (v := (nI (q + 1))) (lv' := [(4, .int (nI (q + 1))), (3, .int x820), (0, .ref w), (1, .int x), (2, .int (nI p))]) hx hb dX9_songs_62 hl (k := 1) rfl (nI_add _ 1) (by decide) rfl (fun ls hl => ?_)
          refine lv_goto (tgt := 23) hx hb dX9_songs_65 (by decide) ?_
          exact ih814 ((q + 1), x820) _ (by show 8 - ((q + 1)) < 8 - q; omega) (by omega) (lv_sub hl [0, 1, 2, 3, 4] rfl)
        · refine lv_if_eq (tgt := 55) hx hb dX9_songs_36 (by decide) (fun c9 => absurd c9 (by decide)) (fun _ => ?_)
          refine lv_aload_n hx hb dX9_songs_39 rfl (lv_at hl 2 rfl) ?_
          refine lv_iload hx hb dX9_songs_40 (lv_at hl 0 rfl) ?_
          refine lv_iconst (v := 4) hx hb dX9_songs_42 (by decide) ?_
          refine cv_i (As := [.int (nI q), .int 4]) (rest := [.int z]) (b := w) ⟨hx, hb, hml, hown, hts⟩ (c_X9_of hT (w := w) hw (n := q) (k := 4) (by first | omega | decide | assumption) (by first | omega | decide | assumption)) (cwV 2 hts gX9_songs_X9_of rfl rfl rfl hdX9_of_v ⟨Nat.le_of_ble_eq_true rfl, Nat.le_of_ble_eq_true rfl⟩) hN hL (rcv10 hN hT hw.1) rfl rfl hl.1 (Nat.le_of_ble_eq_true rfl) dX9_songs_43 (Nat.zero_le _) (Nat.zero_le _) (fun r821 H1 locs hL hqr821 => ?_)
          obtain rfl := hqr821
          refine lv_aload_n hx hb dX9_songs_46 rfl (lv_at hl 2 rfl) ?_
          refine lv_iload_n hx hb dX9_songs_47 rfl (lv_at hl 4 rfl) ?_
          refine lv_iconst (v := 4) hx hb dX9_songs_48 (by decide) ?_
          refine cv_i (As := [.int (nI p), .int 4]) (rest := [.int r821, .int z]) (b := w) ⟨hx, hb, hml, hown, hts⟩ (c_X9_of hT (w := w) hw (n := p) (k := 4) (by first | omega | decide | assumption) (by first | omega | decide | assumption)) (cwV 2 hts gX9_songs_X9_of rfl rfl rfl hdX9_of_v ⟨Nat.le_of_ble_eq_true rfl, Nat.le_of_ble_eq_true rfl⟩) hN hL (rcv10 hN hT hw.1) rfl rfl hl.1 (Nat.le_of_ble_eq_true rfl) dX9_songs_49 (Nat.zero_le _) (Nat.zero_le _) (fun r822 H1 locs hL hqr822 => ?_)
          obtain rfl := hqr822
          refine lv_icmp_eq (tgt := 59) hx hb dX9_songs_52 (by decide) (fun c823 => ?_) (fun c823 => ?_)
          · refine lv_iconst (v := 0) hx hb dX9_songs_59 (by decide) ?_
            refine lv_iand hx hb dX9_songs_60 ?_
            refine gn_i (fun x824 => ?_)
            refine lv_istore_n (lv' := [(3, .int x824), (4, .int (nI q)), (0, .ref w), (1, .int x), (2, .int (nI p))]) hx hb dX9_songs_61 rfl hl (by decide) rfl (fun ls hl => ?_)
            refine lv_iinc (v := (nI (q + 1))) (lv' := [(4, .int (nI (q + 1))), (3, .int x824), (0, .ref w), (1, .int x), (2, .int (nI p))]) hx hb dX9_songs_62 hl (k := 1) rfl (nI_add _ 1) (by decide) rfl (fun ls hl => ?_)
            refine lv_goto (tgt := 23) hx hb dX9_songs_65 (by decide) ?_
            exact ih814 ((q + 1), x824) _ (by show 8 - ((q + 1)) < 8 - q; omega) (by omega) (lv_sub hl [0, 1, 2, 3, 4] rfl)
          · refine lv_iconst (v := 1) hx hb dX9_songs_55 (by decide) ?_
            refine lv_goto (tgt := 60) hx hb dX9_songs_56 (by decide) ?_
            refine lv_iand hx hb dX9_songs_60 ?_
            refine gn_i (fun x825 => ?_)
            refine lv_istore_n (lv' := [(3, .int x825), (4, .int (nI q)), (0, .ref w), (1, .int x), (2, .int (nI p))]) hx hb dX9_songs_61 rfl hl (by decide) rfl (fun ls hl => ?_)
            refine lv_iinc (v := (nI (q + 1))) (lv' := [(4, .int (nI (q + 1))), (3, .int x825), (0, .ref w), (1, .int x), (2, .int (nI p))]) hx hb dX9_songs_62 hl (k := 1) rfl (nI_add _ 1) (by decide) rfl (fun ls hl => ?_)
            refine lv_goto (tgt := 23) hx hb dX9_songs_65 (by decide) ?_
            exact ih814 ((q + 1), x825) _ (by show 8 - ((q + 1)) < 8 - q; omega) (by omega) (lv_sub hl [0, 1, 2, 3, 4] rfl)
    · refine lv_istore_n (lv' := [(3, .int 1), (2, .int (nI p)), (1, .int x), (0, .ref w)]) hx hb dX9_songs_19 rfl hl (by decide) rfl (fun ls hl => ?_)
      refine lv_iconst (v := 0) hx hb dX9_songs_20 (by decide) ?_
      refine lv_istore (lv' := [(4, .int 0), (3, .int 1), (2, .int (nI p)), (1, .int x), (0, .ref w)]) hx hb dX9_songs_21 hl (by decide) rfl (fun ls hl => ?_)
      refine lp_r (α := Nat × Int32) (nL := 5) (fun a9 => 8 - a9.1) (fun a9 => (a9.1 ≤ 8)) (fun a9 => [(4, .int (nI a9.1)), (3, .int a9.2), (0, .ref w), (1, .int x), (2, .int (nI p))]) ?_ (0, 1) _ (by omega) (lv_sub hl [0, 1, 4, 3, 2] rfl)
      rintro ⟨q, z⟩ ls ih826 hq hl
      have hl : lv_has ls 5 [(4, .int (nI q)), (3, .int z), (0, .ref w), (1, .int x), (2, .int (nI p))] := hl
      have hq : q ≤ 8 := hq
      refine lv_iload hx hb dX9_songs_23 (lv_at hl 0 rfl) ?_
      refine lv_iload_n hx hb dX9_songs_25 rfl (lv_at hl 4 rfl) ?_
      refine lv_icmp_ge (tgt := 68) hx hb dX9_songs_26 (by decide) (fun c827 => ?_) (fun c827 => ?_)
      · have c827 : p ≤ q := (nI_leI (a := p) (b := q) (by omega) (by omega)).mp c827
        refine lv_iload_n hx hb dX9_songs_68 rfl (lv_at hl 3 rfl) ?_
        refine lv_iload_n hx hb dX9_songs_69 rfl (lv_at hl 1 rfl) ?_
        refine lv_if_eq (tgt := 77) hx hb dX9_songs_70 (by decide) (fun c828 => ?_) (fun c828 => ?_)
        · refine lv_iconst (v := 0) hx hb dX9_songs_77 (by decide) ?_
          refine lv_iadd hx hb dX9_songs_78 ?_
          refine gn_i (fun x829 => ?_)
          refine lv_istore_n (lv' := [(1, .int x829), (4, .int (nI q)), (3, .int z), (0, .ref w), (2, .int (nI p))]) hx hb dX9_songs_79 rfl hl (by decide) rfl (fun ls hl => ?_)
          refine lv_iinc (v := (nI (p + 1))) (lv' := [(2, .int (nI (p + 1))), (1, .int x829), (4, .int (nI q)), (3, .int z), (0, .ref w)]) hx hb dX9_songs_80 hl (k := 4) rfl (nI_add _ 1) (by decide) rfl (fun ls hl => ?_)
          refine lv_goto (tgt := 4) hx hb dX9_songs_83 (by decide) ?_
          exact ih808 ((p + 1), x829) _ (by show 8 - ((p + 1)) < 8 - p; omega) (by omega) (lv_sub hl [0, 1, 4] rfl)
        · refine lv_iconst (v := 1) hx hb dX9_songs_73 (by decide) ?_
          refine lv_goto (tgt := 78) hx hb dX9_songs_74 (by decide) ?_
          refine lv_iadd hx hb dX9_songs_78 ?_
          refine gn_i (fun x830 => ?_)
          refine lv_istore_n (lv' := [(1, .int x830), (4, .int (nI q)), (3, .int z), (0, .ref w), (2, .int (nI p))]) hx hb dX9_songs_79 rfl hl (by decide) rfl (fun ls hl => ?_)
          refine lv_iinc (v := (nI (p + 1))) (lv' := [(2, .int (nI (p + 1))), (1, .int x830), (4, .int (nI q)), (3, .int z), (0, .ref w)]) hx hb dX9_songs_80 hl (k := 4) rfl (nI_add _ 1) (by decide) rfl (fun ls hl => ?_)
          refine lv_goto (tgt := 4) hx hb dX9_songs_83 (by decide) ?_
          exact ih808 ((p + 1), x830) _ (by show 8 - ((p + 1)) < 8 - p; omega) (by omega) (lv_sub hl [0, 1, 4] rfl)
      · have c827 : ¬ p ≤ q := fun h9 => c827 ((nI_leI (a := p) (b := q) (by omega) (by omega)).mpr h9)
        refine lv_iload_n hx hb dX9_songs_29 rfl (lv_at hl 1 rfl) ?_
        refine lv_aload_n hx hb dX9_songs_30 rfl (lv_at hl 2 rfl) ?_
        refine lv_iload hx hb dX9_songs_31 (lv_at hl 0 rfl) ?_
        refine cv_i (As := [.int (nI q)]) (rest := [.int z]) (b := w) ⟨hx, hb, hml, hown, hts⟩ (c_X9_isUp hT (w := w) hw (n := q) (by first | omega | decide | assumption)) (cwV 1 hts gX9_songs_X9_isUp rfl rfl rfl hdX9_isUp_v ⟨Nat.le_of_ble_eq_true rfl, Nat.le_of_ble_eq_true rfl⟩) hN hL (rcv10 hN hT hw.1) rfl rfl hl.1 (Nat.le_of_ble_eq_true rfl) dX9_songs_33 (Nat.zero_le _) (Nat.zero_le _) (fun r831 H1 locs hL hqr831 => ?_)
        obtain ⟨rfl, hqr831⟩ := hqr831
        rcases hqr831 with rfl | rfl
        · refine lv_if_eq (tgt := 55) hx hb dX9_songs_36 (by decide) (fun _ => ?_) (fun c9 => absurd (by decide) c9)
          refine lv_iconst (v := 1) hx hb dX9_songs_55 (by decide) ?_
          refine lv_goto (tgt := 60) hx hb dX9_songs_56 (by decide) ?_
          refine lv_iand hx hb dX9_songs_60 ?_
          refine gn_i (fun x832 => ?_)
          refine lv_istore_n (lv' := [(3, .int x832), (4, .int (nI q)), (0, .ref w), (1, .int x), (2, .int (nI p))]) hx hb dX9_songs_61 rfl hl (by decide) rfl (fun ls hl => ?_)
          refine lv_iinc (v := (nI (q + 1))) (lv' := [(4, .int (nI (q + 1))), (3, .int x832), (0, .ref w), (1, .int x), (2, .int (nI p))]) hx hb dX9_songs_62 hl (k := 1) rfl (nI_add _ 1) (by decide) rfl (fun ls hl => ?_)
          refine lv_goto (tgt := 23) hx hb dX9_songs_65 (by decide) ?_
          exact ih826 ((q + 1), x832) _ (by show 8 - ((q + 1)) < 8 - q; omega) (by omega) (lv_sub hl [0, 1, 2, 3, 4] rfl)
        · refine lv_if_eq (tgt := 55) hx hb dX9_songs_36 (by decide) (fun c9 => absurd c9 (by decide)) (fun _ => ?_)
          refine lv_aload_n hx hb dX9_songs_39 rfl (lv_at hl 2 rfl) ?_
          refine lv_iload hx hb dX9_songs_40 (lv_at hl 0 rfl) ?_
          refine lv_iconst (v := 4) hx hb dX9_songs_42 (by decide) ?_
          refine cv_i (As := [.int (nI q), .int 4]) (rest := [.int z]) (b := w) ⟨hx, hb, hml, hown, hts⟩ (c_X9_of hT (w := w) hw (n := q) (k := 4) (by first | omega | decide | assumption) (by first | omega | decide | assumption)) (cwV 2 hts gX9_songs_X9_of rfl rfl rfl hdX9_of_v ⟨Nat.le_of_ble_eq_true rfl, Nat.le_of_ble_eq_true rfl⟩) hN hL (rcv10 hN hT hw.1) rfl rfl hl.1 (Nat.le_of_ble_eq_true rfl) dX9_songs_43 (Nat.zero_le _) (Nat.zero_le _) (fun r833 H1 locs hL hqr833 => ?_)
          obtain rfl := hqr833
          refine lv_aload_n hx hb dX9_songs_46 rfl (lv_at hl 2 rfl) ?_
          refine lv_iload_n hx hb dX9_songs_47 rfl (lv_at hl 4 rfl) ?_
          refine lv_iconst (v := 4) hx hb dX9_songs_48 (by decide) ?_
          refine cv_i (As := [.int (nI p), .int 4]) (rest := [.int r833, .int z]) (b := w) ⟨hx, hb, hml, hown, hts⟩ (c_X9_of hT (w := w) hw (n := p) (k := 4) (by first | omega | decide | assumption) (by first | omega | decide | assumption)) (cwV 2 hts gX9_songs_X9_of rfl rfl rfl hdX9_of_v ⟨Nat.le_of_ble_eq_true rfl, Nat.le_of_ble_eq_true rfl⟩) hN hL (rcv10 hN hT hw.1) rfl rfl hl.1 (Nat.le_of_ble_eq_true rfl) dX9_songs_49 (Nat.zero_le _) (Nat.zero_le _) (fun r834 H1 locs hL hqr834 => ?_)
          obtain rfl := hqr834
          refine lv_icmp_eq (tgt := 59) hx hb dX9_songs_52 (by decide) (fun c835 => ?_) (fun c835 => ?_)
          · refine lv_iconst (v := 0) hx hb dX9_songs_59 (by decide) ?_
            refine lv_iand hx hb dX9_songs_60 ?_
            refine gn_i (fun x836 => ?_)
            refine lv_istore_n (lv' := [(3, .int x836), (4, .int (nI q)), (0, .ref w), (1, .int x), (2, .int (nI p))]) hx hb dX9_songs_61 rfl hl (by decide) rfl (fun ls hl => ?_)
            refine lv_iinc (v := (nI (q + 1))) (lv' := [(4, .int (nI (q + 1))), (3, .int x836), (0, .ref w), (1, .int x), (2, .int (nI p))]) hx hb dX9_songs_62 hl (k := 1) rfl (nI_add _ 1) (by decide) rfl (fun ls hl => ?_)
            refine lv_goto (tgt := 23) hx hb dX9_songs_65 (by decide) ?_
            exact ih826 ((q + 1), x836) _ (by show 8 - ((q + 1)) < 8 - q; omega) (by omega) (lv_sub hl [0, 1, 2, 3, 4] rfl)
          · refine lv_iconst (v := 1) hx hb dX9_songs_55 (by decide) ?_
            refine lv_goto (tgt := 60) hx hb dX9_songs_56 (by decide) ?_
            refine lv_iand hx hb dX9_songs_60 ?_
            refine gn_i (fun x837 => ?_)
            refine lv_istore_n (lv' := [(3, .int x837), (4, .int (nI q)), (0, .ref w), (1, .int x), (2, .int (nI p))]) hx hb dX9_songs_61 rfl hl (by decide) rfl (fun ls hl => ?_)
            refine lv_iinc (v := (nI (q + 1))) (lv' := [(4, .int (nI (q + 1))), (3, .int x837), (0, .ref w), (1, .int x), (2, .int (nI p))]) hx hb dX9_songs_62 hl (k := 1) rfl (nI_add _ 1) (by decide) rfl (fun ls hl => ?_)
            refine lv_goto (tgt := 23) hx hb dX9_songs_65 (by decide) ?_
            exact ih826 ((q + 1), x837) _ (by show 8 - ((q + 1)) < 8 - q; omega) (by omega) (lv_sub hl [0, 1, 2, 3, 4] rfl)
theorem mX9_spreadNow_1 : (.fieldLink RX9 18 "OneBeatModel" "data" "[I" : Cond) ∈ wsX9_spreadNow := List.mem_of_getElem? (i := 1) (by decide +kernel)
theorem iX9_spreadNow_9 : ∀ w ∈ wsX90, w ∈ wsX9_spreadNow := fun w h => List.mem_of_mem_drop (List.mem_of_mem_take ((show wsX90 = (wsX9_spreadNow.drop 2).take 18 by decide +kernel) ▸ h))
set_option maxHeartbeats 4000000 in
set_option maxRecDepth 100000 in
theorem c_X9_spreadNow {l : Launch} {D : va_G} {cs : Nat → ClassId} {B0 T : Nat} {κ : KM} {H0 : Heap} (hT : WT B0 D cs T κ H0) {w : Nat} (hw : T2 κ w 10 12) : KC l yX9_spreadNow wsX9_spreadNow 0 0 0 0 D cs B0 H0 [.ref w] (Qi (fun _ H => H = H0)) := by
  refine KC.of cX9_spreadNow 1 (some .int) (by decide) rfl (Nat.le_of_ble_eq_true rfl) ?_
  intro p e s m below meth c ls hx hb hr hml hown hts hlocks hin hN hH0 hl
  have hown : s.vm.findClass RX9 = some m.cls := hown
  have hl : lv_has ls 1 [(0, .ref w)] := hl
  have hL : OkL B0 [] := OkL.nil
  refine lv_aload_n hx hb dX9_spreadNow_0 rfl (lv_at hl 0 rfl) ?_
  obtain ⟨hb838, e838, hat838, hk838⟩ := hT.o10 hw.1
  obtain ⟨f838_0, f838_1, f838_3, f838_4, f838_5, f838_6, f838_7, f838_8, f838_9, f838_10, f838_11, f838_12, f838_13, f838_14, f838_15, f838_16, f838_17, rfl, c838_2, c838_3, c838_4, c838_12, t838_1, t838_8, t838_9, c838_sd, t838_10, t838_11, t838_17⟩ := hk838
  have hP : va_P D vwCl [(w, .inr (9, [.int f838_0, .ref f838_1, .int (nI ((κ w).2.2.1)), .int (nI f838_3), .int (nI f838_4), .int f838_5, .int f838_6, .int f838_7, .ref f838_8, .ref f838_9, .ref f838_10, .ref f838_11, .int (nI f838_12), .int f838_13, .int f838_14, .int f838_15, .int f838_16, .ref f838_17]))] _ := va_P.cons hat838 va_P.nil
  refine va_get (D := D) (ci := 9) (v := .ref f838_8) (C := RX9) (T := TX9) (N := 18) hx hb hts iX9_spreadNow_9 hown hN.1 hP 0 rfl rfl 8 (by decide) (hts _ mX9_spreadNow_1) (fun _ h9 => h9) rfl dX9_spreadNow_1 ?_
  refine lv_bipush (v := 21) hx hb dX9_spreadNow_4 (by decide) ?_
  obtain ⟨hb839, e839, hat839, hk839⟩ := hT.o24 t838_8.1
  obtain ⟨g839, rfl, q839⟩ := hk839
  have hP : va_P D vwCl [(f838_8, .inl (cs 0, 45783, .inl g839)), (w, .inr (9, [.int f838_0, .ref f838_1, .int (nI ((κ w).2.2.1)), .int (nI f838_3), .int (nI f838_4), .int f838_5, .int f838_6, .int f838_7, .ref f838_8, .ref f838_9, .ref f838_10, .ref f838_11, .int (nI f838_12), .int f838_13, .int f838_14, .int f838_15, .int f838_16, .ref f838_17]))] _ := va_P.cons hat839 hP
  refine ld_i (v := (g839 21)) hx hb hN hP 0 rfl (vp_in_nI (n := 21) (N := 45783) (by omega) (by omega)) (by rw [(show (21 : Int32).toNatClampNeg = 21 from nI_clamp (n := 21) (by omega))]) dX9_spreadNow_6 ?_
  refine gn_i (fun x840 => ?_)
  refine lv_iconst (v := (-1)) hx hb dX9_spreadNow_7 (by decide) ?_
  refine lv_icmp_ne (tgt := 15) hx hb dX9_spreadNow_8 (by decide) (fun c841 => ?_) (fun c841 => ?_)
  · refine lv_aload_n hx hb dX9_spreadNow_15 rfl (lv_at hl 0 rfl) ?_
    refine va_get (D := D) (ci := 9) (v := .ref f838_8) (C := RX9) (T := TX9) (N := 18) hx hb hts iX9_spreadNow_9 hown hN.1 hP 1 rfl rfl 8 (by decide) (hts _ mX9_spreadNow_1) (fun _ h9 => h9) rfl dX9_spreadNow_16 ?_
    refine lv_bipush (v := 22) hx hb dX9_spreadNow_19 (by decide) ?_
    refine ld_i (v := (g839 22)) hx hb hN hP 0 rfl (vp_in_nI (n := 22) (N := 45783) (by omega) (by omega)) (by rw [(show (22 : Int32).toNatClampNeg = 22 from nI_clamp (n := 22) (by omega))]) dX9_spreadNow_21 ?_
    refine gn_i (fun x842 => ?_)
    refine lv_aload_n hx hb dX9_spreadNow_22 rfl (lv_at hl 0 rfl) ?_
    refine va_get (D := D) (ci := 9) (v := .ref f838_8) (C := RX9) (T := TX9) (N := 18) hx hb hts iX9_spreadNow_9 hown hN.1 hP 1 rfl rfl 8 (by decide) (hts _ mX9_spreadNow_1) (fun _ h9 => h9) rfl dX9_spreadNow_23 ?_
    refine lv_bipush (v := 21) hx hb dX9_spreadNow_26 (by decide) ?_
    refine ld_i (v := (g839 21)) hx hb hN hP 0 rfl (vp_in_nI (n := 21) (N := 45783) (by omega) (by omega)) (by rw [(show (21 : Int32).toNatClampNeg = 21 from nI_clamp (n := 21) (by omega))]) dX9_spreadNow_28 ?_
    refine gn_i (fun x843 => ?_)
    refine lv_isub hx hb dX9_spreadNow_29 ?_
    refine gn_i (fun x844 => ?_)
    exact en_i hx hb hr hlocks hL rfl (Nat.zero_le _) (Nat.zero_le _) dX9_spreadNow_30 (rfl)
  · refine lv_iconst (v := (-1)) hx hb dX9_spreadNow_11 (by decide) ?_
    refine lv_goto (tgt := 30) hx hb dX9_spreadNow_12 (by decide) ?_
    exact en_i hx hb hr hlocks hL rfl (Nat.zero_le _) (Nat.zero_le _) dX9_spreadNow_30 (rfl)
theorem mX9_toldPlayer_1 : (.fieldLink RX9 18 "OneBeatModel" "data" "[I" : Cond) ∈ wsX9_toldPlayer := List.mem_of_getElem? (i := 1) (by decide +kernel)
theorem iX9_toldPlayer_9 : ∀ w ∈ wsX90, w ∈ wsX9_toldPlayer := fun w h => List.mem_of_mem_drop (List.mem_of_mem_take ((show wsX90 = (wsX9_toldPlayer.drop 18).take 18 by decide +kernel) ▸ h))
set_option maxHeartbeats 4000000 in
set_option maxRecDepth 100000 in
theorem c_X9_toldPlayer {l : Launch} {D : va_G} {cs : Nat → ClassId} {B0 T : Nat} {κ : KM} {H0 : Heap} (hT : WT B0 D cs T κ H0) {w : Nat} (hw : T2 κ w 10 12) {n : Nat} (hn : n < 8) {y : Int32} : KC l yX9_toldPlayer wsX9_toldPlayer 4 84 0 0 D cs B0 H0 [.ref w, .int (nI n), .int y] (Qi (fun _ H => H = H0)) := by
  refine KC.of cX9_toldPlayer 3 (some .int) (by decide) rfl (Nat.le_of_ble_eq_true rfl) ?_
  intro p e s m below meth c ls hx hb hr hml hown hts hlocks hin hN hH0 hl
  have hown : s.vm.findClass RX9 = some m.cls := hown
  have hl : lv_has ls 3 [(0, .ref w), (1, .int (nI n)), (2, .int y)] := hl
  have hL : OkL B0 [] := OkL.nil
  refine lv_iload_n hx hb dX9_toldPlayer_0 rfl (lv_at hl 2 rfl) ?_
  by_cases c845 : (y : Int32).toInt < (0 : Int) ∨ (8 : Int) < (y : Int32).toInt
  · refine lv_tableOut (tgt := 118) hx hb dX9_toldPlayer_1 c845 (by decide) ?_
    refine lv_aload_n hx hb dX9_toldPlayer_118 rfl (lv_at hl 0 rfl) ?_
    refine lv_iload_n hx hb dX9_toldPlayer_119 rfl (lv_at hl 1 rfl) ?_
    refine cv_i (As := [.int (nI n)]) (rest := []) (b := w) ⟨hx, hb, hml, hown, hts⟩ (c_X9_estimate hT (w := w) hw (n := n) (by first | omega | decide | assumption)) (cwV 1 hts gX9_toldPlayer_X9_estimate rfl rfl rfl hdX9_estimate_v ⟨Nat.le_of_ble_eq_true rfl, Nat.le_of_ble_eq_true rfl⟩) hN hL (rcv10 hN hT hw.1) rfl rfl hl.1 (Nat.le_of_ble_eq_true rfl) dX9_toldPlayer_120 (Nat.zero_le _) (Nat.zero_le _) (fun r846 H1 locs hL hqr846 => ?_)
    obtain rfl := hqr846
    refine lv_aload_n hx hb dX9_toldPlayer_123 rfl (lv_at hl 0 rfl) ?_
    refine lv_aload_n hx hb dX9_toldPlayer_124 rfl (lv_at hl 0 rfl) ?_
    obtain ⟨hb847, e847, hat847, hk847⟩ := hT.o10 hw.1
    obtain ⟨f847_0, f847_1, f847_3, f847_4, f847_5, f847_6, f847_7, f847_8, f847_9, f847_10, f847_11, f847_12, f847_13, f847_14, f847_15, f847_16, f847_17, rfl, c847_2, c847_3, c847_4, c847_12, t847_1, t847_8, t847_9, c847_sd, t847_10, t847_11, t847_17⟩ := hk847
    have hP : va_P D vwCl [(w, .inr (9, [.int f847_0, .ref f847_1, .int (nI ((κ w).2.2.1)), .int (nI f847_3), .int (nI f847_4), .int f847_5, .int f847_6, .int f847_7, .ref f847_8, .ref f847_9, .ref f847_10, .ref f847_11, .int (nI f847_12), .int f847_13, .int f847_14, .int f847_15, .int f847_16, .ref f847_17]))] _ := va_P.cons hat847 va_P.nil
    refine va_get (D := D) (ci := 9) (v := .ref f847_8) (C := RX9) (T := TX9) (N := 18) hx hb hts iX9_toldPlayer_9 hown hN.1 hP 0 rfl rfl 8 (by decide) (hts _ mX9_toldPlayer_1) (fun _ h9 => h9) rfl dX9_toldPlayer_125 ?_
    refine lv_iconst (v := 2) hx hb dX9_toldPlayer_128 (by decide) ?_
    obtain ⟨hb848, e848, hat848, hk848⟩ := hT.o24 t847_8.1
    obtain ⟨g848, rfl, q848⟩ := hk848
    have hP : va_P D vwCl [(f847_8, .inl (cs 0, 45783, .inl g848)), (w, .inr (9, [.int f847_0, .ref f847_1, .int (nI ((κ w).2.2.1)), .int (nI f847_3), .int (nI f847_4), .int f847_5, .int f847_6, .int f847_7, .ref f847_8, .ref f847_9, .ref f847_10, .ref f847_11, .int (nI f847_12), .int f847_13, .int f847_14, .int f847_15, .int f847_16, .ref f847_17]))] _ := va_P.cons hat848 hP
    refine ld_i (v := (g848 2)) hx hb hN hP 0 rfl (vp_in_nI (n := 2) (N := 45783) (by omega) (by omega)) (by rw [(show (2 : Int32).toNatClampNeg = 2 from nI_clamp (n := 2) (by omega))]) dX9_toldPlayer_129 ?_
    obtain ⟨n849, hn849, en849⟩ := q848.2.2.1
    refine tp_i (nI n849) en849 ?_
    refine cv_i (As := [.int (nI n849)]) (rest := [.int r846]) (b := w) ⟨hx, hb, hml, hown, hts⟩ (c_X9_clock hT (w := w) hw (n := n849) (by first | omega | decide | assumption)) (cwV 1 hts gX9_toldPlayer_X9_clock rfl rfl rfl hdX9_clock_v ⟨Nat.le_of_ble_eq_true rfl, Nat.le_of_ble_eq_true rfl⟩) hN hL (rcv10 hN hT hw.1) rfl rfl hl.1 (Nat.le_of_ble_eq_true rfl) dX9_toldPlayer_130 (Nat.zero_le _) (Nat.zero_le _) (fun r850 H1 locs hL hqr850 => ?_)
    obtain rfl := hqr850
    refine lv_isub hx hb dX9_toldPlayer_133 ?_
    refine gn_i (fun x851 => ?_)
    exact en_i hx hb hr hlocks hL rfl (Nat.zero_le _) (Nat.zero_le _) dX9_toldPlayer_134 (rfl)
  · rcases sw_0_8 c845 with rfl | rfl | rfl | rfl | rfl | rfl | rfl | rfl | rfl
    · refine lv_tableIn (tgt := 52) (off := 51) hx hb dX9_toldPlayer_1 (by decide) (by decide) (by decide) (by decide) ?_
      refine lv_aload_n hx hb dX9_toldPlayer_52 rfl (lv_at hl 0 rfl) ?_
      refine lv_iload_n hx hb dX9_toldPlayer_53 rfl (lv_at hl 1 rfl) ?_
      refine lv_iconst (v := 0) hx hb dX9_toldPlayer_54 (by decide) ?_
      refine cv_i (As := [.int (nI n), .int 0]) (rest := []) (b := w) ⟨hx, hb, hml, hown, hts⟩ (c_X9_of hT (w := w) hw (n := n) (k := 0) (by first | omega | decide | assumption) (by first | omega | decide | assumption)) (cwV 2 hts gX9_toldPlayer_X9_of rfl rfl rfl hdX9_of_v ⟨Nat.le_of_ble_eq_true rfl, Nat.le_of_ble_eq_true rfl⟩) hN hL (rcv10 hN hT hw.1) rfl rfl hl.1 (Nat.le_of_ble_eq_true rfl) dX9_toldPlayer_55 (Nat.zero_le _) (Nat.zero_le _) (fun r852 H1 locs hL hqr852 => ?_)
      obtain rfl := hqr852
      exact en_i hx hb hr hlocks hL rfl (Nat.zero_le _) (Nat.zero_le _) dX9_toldPlayer_58 (rfl)
    · refine lv_tableIn (tgt := 59) (off := 58) hx hb dX9_toldPlayer_1 (by decide) (by decide) (by decide) (by decide) ?_
      refine lv_aload_n hx hb dX9_toldPlayer_59 rfl (lv_at hl 0 rfl) ?_
      refine lv_iload_n hx hb dX9_toldPlayer_60 rfl (lv_at hl 1 rfl) ?_
      refine cv_i (As := [.int (nI n)]) (rest := []) (b := w) ⟨hx, hb, hml, hown, hts⟩ (c_X9_clock hT (w := w) hw (n := n) (by first | omega | decide | assumption)) (cwV 1 hts gX9_toldPlayer_X9_clock rfl rfl rfl hdX9_clock_v ⟨Nat.le_of_ble_eq_true rfl, Nat.le_of_ble_eq_true rfl⟩) hN hL (rcv10 hN hT hw.1) rfl rfl hl.1 (Nat.le_of_ble_eq_true rfl) dX9_toldPlayer_61 (Nat.zero_le _) (Nat.zero_le _) (fun r853 H1 locs hL hqr853 => ?_)
      obtain rfl := hqr853
      exact en_i hx hb hr hlocks hL rfl (Nat.zero_le _) (Nat.zero_le _) dX9_toldPlayer_64 (rfl)
    · refine lv_tableIn (tgt := 65) (off := 64) hx hb dX9_toldPlayer_1 (by decide) (by decide) (by decide) (by decide) ?_
      refine lv_aload_n hx hb dX9_toldPlayer_65 rfl (lv_at hl 0 rfl) ?_
      refine lv_iload_n hx hb dX9_toldPlayer_66 rfl (lv_at hl 1 rfl) ?_
      refine lv_iconst (v := 3) hx hb dX9_toldPlayer_67 (by decide) ?_
      refine cv_i (As := [.int (nI n), .int 3]) (rest := []) (b := w) ⟨hx, hb, hml, hown, hts⟩ (c_X9_of hT (w := w) hw (n := n) (k := 3) (by first | omega | decide | assumption) (by first | omega | decide | assumption)) (cwV 2 hts gX9_toldPlayer_X9_of rfl rfl rfl hdX9_of_v ⟨Nat.le_of_ble_eq_true rfl, Nat.le_of_ble_eq_true rfl⟩) hN hL (rcv10 hN hT hw.1) rfl rfl hl.1 (Nat.le_of_ble_eq_true rfl) dX9_toldPlayer_68 (Nat.zero_le _) (Nat.zero_le _) (fun r854 H1 locs hL hqr854 => ?_)
      obtain rfl := hqr854
      exact en_i hx hb hr hlocks hL rfl (Nat.zero_le _) (Nat.zero_le _) dX9_toldPlayer_71 (rfl)
    · refine lv_tableIn (tgt := 72) (off := 71) hx hb dX9_toldPlayer_1 (by decide) (by decide) (by decide) (by decide) ?_
      refine lv_aload_n hx hb dX9_toldPlayer_72 rfl (lv_at hl 0 rfl) ?_
      refine lv_iload_n hx hb dX9_toldPlayer_73 rfl (lv_at hl 1 rfl) ?_
      refine lv_iconst (v := 4) hx hb dX9_toldPlayer_74 (by decide) ?_
      refine cv_i (As := [.int (nI n), .int 4]) (rest := []) (b := w) ⟨hx, hb, hml, hown, hts⟩ (c_X9_of hT (w := w) hw (n := n) (k := 4) (by first | omega | decide | assumption) (by first | omega | decide | assumption)) (cwV 2 hts gX9_toldPlayer_X9_of rfl rfl rfl hdX9_of_v ⟨Nat.le_of_ble_eq_true rfl, Nat.le_of_ble_eq_true rfl⟩) hN hL (rcv10 hN hT hw.1) rfl rfl hl.1 (Nat.le_of_ble_eq_true rfl) dX9_toldPlayer_75 (Nat.zero_le _) (Nat.zero_le _) (fun r855 H1 locs hL hqr855 => ?_)
      obtain rfl := hqr855
      exact en_i hx hb hr hlocks hL rfl (Nat.zero_le _) (Nat.zero_le _) dX9_toldPlayer_78 (rfl)
    · refine lv_tableIn (tgt := 79) (off := 78) hx hb dX9_toldPlayer_1 (by decide) (by decide) (by decide) (by decide) ?_
      refine lv_aload_n hx hb dX9_toldPlayer_79 rfl (lv_at hl 0 rfl) ?_
      refine lv_iload_n hx hb dX9_toldPlayer_80 rfl (lv_at hl 1 rfl) ?_
      refine lv_iconst (v := 5) hx hb dX9_toldPlayer_81 (by decide) ?_
      refine cv_i (As := [.int (nI n), .int 5]) (rest := []) (b := w) ⟨hx, hb, hml, hown, hts⟩ (c_X9_of hT (w := w) hw (n := n) (k := 5) (by first | omega | decide | assumption) (by first | omega | decide | assumption)) (cwV 2 hts gX9_toldPlayer_X9_of rfl rfl rfl hdX9_of_v ⟨Nat.le_of_ble_eq_true rfl, Nat.le_of_ble_eq_true rfl⟩) hN hL (rcv10 hN hT hw.1) rfl rfl hl.1 (Nat.le_of_ble_eq_true rfl) dX9_toldPlayer_82 (Nat.zero_le _) (Nat.zero_le _) (fun r856 H1 locs hL hqr856 => ?_)
      obtain rfl := hqr856
      exact en_i hx hb hr hlocks hL rfl (Nat.zero_le _) (Nat.zero_le _) dX9_toldPlayer_85 (rfl)
    · refine lv_tableIn (tgt := 86) (off := 85) hx hb dX9_toldPlayer_1 (by decide) (by decide) (by decide) (by decide) ?_
      refine lv_aload_n hx hb dX9_toldPlayer_86 rfl (lv_at hl 0 rfl) ?_
      refine lv_iload_n hx hb dX9_toldPlayer_87 rfl (lv_at hl 1 rfl) ?_
      refine lv_bipush (v := 6) hx hb dX9_toldPlayer_88 (by decide) ?_
      refine cv_i (As := [.int (nI n), .int 6]) (rest := []) (b := w) ⟨hx, hb, hml, hown, hts⟩ (c_X9_of hT (w := w) hw (n := n) (k := 6) (by first | omega | decide | assumption) (by first | omega | decide | assumption)) (cwV 2 hts gX9_toldPlayer_X9_of rfl rfl rfl hdX9_of_v ⟨Nat.le_of_ble_eq_true rfl, Nat.le_of_ble_eq_true rfl⟩) hN hL (rcv10 hN hT hw.1) rfl rfl hl.1 (Nat.le_of_ble_eq_true rfl) dX9_toldPlayer_90 (Nat.zero_le _) (Nat.zero_le _) (fun r857 H1 locs hL hqr857 => ?_)
      obtain rfl := hqr857
      exact en_i hx hb hr hlocks hL rfl (Nat.zero_le _) (Nat.zero_le _) dX9_toldPlayer_93 (rfl)
    · refine lv_tableIn (tgt := 94) (off := 93) hx hb dX9_toldPlayer_1 (by decide) (by decide) (by decide) (by decide) ?_
      refine lv_aload_n hx hb dX9_toldPlayer_94 rfl (lv_at hl 0 rfl) ?_
      refine lv_iload_n hx hb dX9_toldPlayer_95 rfl (lv_at hl 1 rfl) ?_
      refine lv_bipush (v := 9) hx hb dX9_toldPlayer_96 (by decide) ?_
      refine cv_i (As := [.int (nI n), .int 9]) (rest := []) (b := w) ⟨hx, hb, hml, hown, hts⟩ (c_X9_of hT (w := w) hw (n := n) (k := 9) (by first | omega | decide | assumption) (by first | omega | decide | assumption)) (cwV 2 hts gX9_toldPlayer_X9_of rfl rfl rfl hdX9_of_v ⟨Nat.le_of_ble_eq_true rfl, Nat.le_of_ble_eq_true rfl⟩) hN hL (rcv10 hN hT hw.1) rfl rfl hl.1 (Nat.le_of_ble_eq_true rfl) dX9_toldPlayer_98 (Nat.zero_le _) (Nat.zero_le _) (fun r858 H1 locs hL hqr858 => ?_)
      obtain rfl := hqr858
      exact en_i hx hb hr hlocks hL rfl (Nat.zero_le _) (Nat.zero_le _) dX9_toldPlayer_101 (rfl)
    · refine lv_tableIn (tgt := 102) (off := 101) hx hb dX9_toldPlayer_1 (by decide) (by decide) (by decide) (by decide) ?_
      refine lv_aload_n hx hb dX9_toldPlayer_102 rfl (lv_at hl 0 rfl) ?_
      refine lv_iload_n hx hb dX9_toldPlayer_103 rfl (lv_at hl 1 rfl) ?_
      refine lv_bipush (v := 10) hx hb dX9_toldPlayer_104 (by decide) ?_
      refine cv_i (As := [.int (nI n), .int 10]) (rest := []) (b := w) ⟨hx, hb, hml, hown, hts⟩ (c_X9_of hT (w := w) hw (n := n) (k := 10) (by first | omega | decide | assumption) (by first | omega | decide | assumption)) (cwV 2 hts gX9_toldPlayer_X9_of rfl rfl rfl hdX9_of_v ⟨Nat.le_of_ble_eq_true rfl, Nat.le_of_ble_eq_true rfl⟩) hN hL (rcv10 hN hT hw.1) rfl rfl hl.1 (Nat.le_of_ble_eq_true rfl) dX9_toldPlayer_106 (Nat.zero_le _) (Nat.zero_le _) (fun r859 H1 locs hL hqr859 => ?_)
      obtain rfl := hqr859
      exact en_i hx hb hr hlocks hL rfl (Nat.zero_le _) (Nat.zero_le _) dX9_toldPlayer_109 (rfl)
    · refine lv_tableIn (tgt := 110) (off := 109) hx hb dX9_toldPlayer_1 (by decide) (by decide) (by decide) (by decide) ?_
      refine lv_aload_n hx hb dX9_toldPlayer_110 rfl (lv_at hl 0 rfl) ?_
      refine lv_iload_n hx hb dX9_toldPlayer_111 rfl (lv_at hl 1 rfl) ?_
      refine lv_bipush (v := 11) hx hb dX9_toldPlayer_112 (by decide) ?_
      refine cv_i (As := [.int (nI n), .int 11]) (rest := []) (b := w) ⟨hx, hb, hml, hown, hts⟩ (c_X9_of hT (w := w) hw (n := n) (k := 11) (by first | omega | decide | assumption) (by first | omega | decide | assumption)) (cwV 2 hts gX9_toldPlayer_X9_of rfl rfl rfl hdX9_of_v ⟨Nat.le_of_ble_eq_true rfl, Nat.le_of_ble_eq_true rfl⟩) hN hL (rcv10 hN hT hw.1) rfl rfl hl.1 (Nat.le_of_ble_eq_true rfl) dX9_toldPlayer_114 (Nat.zero_le _) (Nat.zero_le _) (fun r860 H1 locs hL hqr860 => ?_)
      obtain rfl := hqr860
      exact en_i hx hb hr hlocks hL rfl (Nat.zero_le _) (Nat.zero_le _) dX9_toldPlayer_117 (rfl)
theorem mX9_toldMessage_1 : (.fieldLink RX9 18 "OneBeatModel" "data" "[I" : Cond) ∈ wsX9_toldMessage := List.mem_of_getElem? (i := 1) (by decide +kernel)
theorem iX9_toldMessage_9 : ∀ w ∈ wsX90, w ∈ wsX9_toldMessage := fun w h => List.mem_of_mem_drop (List.mem_of_mem_take ((show wsX90 = (wsX9_toldMessage.drop 2).take 18 by decide +kernel) ▸ h))
set_option maxHeartbeats 4000000 in
set_option maxRecDepth 100000 in
theorem c_X9_toldMessage {l : Launch} {D : va_G} {cs : Nat → ClassId} {B0 T : Nat} {κ : KM} {H0 : Heap} (hT : WT B0 D cs T κ H0) {w : Nat} (hw : T2 κ w 10 12) {n k : Nat} (hn : n ≤ 7399) (hk : k ≤ 5) : KC l yX9_toldMessage wsX9_toldMessage 0 0 0 0 D cs B0 H0 [.ref w, .int (nI (1383 + 6 * n)), .int (nI k)] (Qi (fun _ H => H = H0)) := by
  refine KC.of cX9_toldMessage 4 (some .int) (by decide) rfl (Nat.le_of_ble_eq_true rfl) ?_
  intro p e s m below meth c ls hx hb hr hml hown hts hlocks hin hN hH0 hl
  have hown : s.vm.findClass RX9 = some m.cls := hown
  have hl : lv_has ls 4 [(0, .ref w), (1, .int (nI (1383 + 6 * n))), (2, .int (nI k))] := hl
  have hL : OkL B0 [] := OkL.nil
  refine lv_aload_n hx hb dX9_toldMessage_0 rfl (lv_at hl 0 rfl) ?_
  obtain ⟨hb861, e861, hat861, hk861⟩ := hT.o10 hw.1
  obtain ⟨f861_0, f861_1, f861_3, f861_4, f861_5, f861_6, f861_7, f861_8, f861_9, f861_10, f861_11, f861_12, f861_13, f861_14, f861_15, f861_16, f861_17, rfl, c861_2, c861_3, c861_4, c861_12, t861_1, t861_8, t861_9, c861_sd, t861_10, t861_11, t861_17⟩ := hk861
  have hP : va_P D vwCl [(w, .inr (9, [.int f861_0, .ref f861_1, .int (nI ((κ w).2.2.1)), .int (nI f861_3), .int (nI f861_4), .int f861_5, .int f861_6, .int f861_7, .ref f861_8, .ref f861_9, .ref f861_10, .ref f861_11, .int (nI f861_12), .int f861_13, .int f861_14, .int f861_15, .int f861_16, .ref f861_17]))] _ := va_P.cons hat861 va_P.nil
  refine va_get (D := D) (ci := 9) (v := .ref f861_8) (C := RX9) (T := TX9) (N := 18) hx hb hts iX9_toldMessage_9 hown hN.1 hP 0 rfl rfl 8 (by decide) (hts _ mX9_toldMessage_1) (fun _ h9 => h9) rfl dX9_toldMessage_1 ?_
  refine lv_iload_n hx hb dX9_toldMessage_4 rfl (lv_at hl 1 rfl) ?_
  refine lv_iconst (v := 0) hx hb dX9_toldMessage_5 (by decide) ?_
  refine lv_iadd hx hb dX9_toldMessage_6 ?_
  refine tp_i (nI ((1383 + 6 * n) + 0)) (nI_add (1383 + 6 * n) 0) ?_
  obtain ⟨hb862, e862, hat862, hk862⟩ := hT.o24 t861_8.1
  obtain ⟨g862, rfl, q862⟩ := hk862
  have hP : va_P D vwCl [(f861_8, .inl (cs 0, 45783, .inl g862)), (w, .inr (9, [.int f861_0, .ref f861_1, .int (nI ((κ w).2.2.1)), .int (nI f861_3), .int (nI f861_4), .int f861_5, .int f861_6, .int f861_7, .ref f861_8, .ref f861_9, .ref f861_10, .ref f861_11, .int (nI f861_12), .int f861_13, .int f861_14, .int f861_15, .int f861_16, .ref f861_17]))] _ := va_P.cons hat862 hP
  refine ld_i (v := (g862 ((1383 + 6 * n) + 0))) hx hb hN hP 0 rfl (vp_in_nI (n := ((1383 + 6 * n) + 0)) (N := 45783) (by omega) (by omega)) (by rw [(show ((nI ((1383 + 6 * n) + 0)) : Int32).toNatClampNeg = ((1383 + 6 * n) + 0) from nI_clamp (n := ((1383 + 6 * n) + 0)) (by omega))]) dX9_toldMessage_7 ?_
  refine gn_i (fun x863 => ?_)
  refine lv_istore_n (lv' := [(3, .int x863), (0, .ref w), (1, .int (nI (1383 + 6 * n))), (2, .int (nI k))]) hx hb dX9_toldMessage_8 rfl hl (by decide) rfl (fun ls hl => ?_)
  refine lv_iload_n hx hb dX9_toldMessage_9 rfl (lv_at hl 3 rfl) ?_
  refine lv_if_ne (tgt := 20) hx hb dX9_toldMessage_10 (by decide) (fun c864 => ?_) (fun c864 => ?_)
  · have c864 : ¬ k = 0 := fun h9 => c864 ((nI_eq (a := k) (b := 0) (by omega) (by omega)).mpr h9)
    refine lv_iload_n hx hb dX9_toldMessage_20 rfl (lv_at hl 3 rfl) ?_
    refine lv_iconst (v := 1) hx hb dX9_toldMessage_21 (by decide) ?_
    refine lv_icmp_ne (tgt := 35) hx hb dX9_toldMessage_22 (by decide) (fun c865 => ?_) (fun c865 => ?_)
    · have c865 : ¬ k = 1 := fun h9 => c865 ((nI_eq (a := k) (b := 1) (by omega) (by omega)).mpr h9)
      refine lv_iload_n hx hb dX9_toldMessage_35 rfl (lv_at hl 3 rfl) ?_
      refine lv_iconst (v := 2) hx hb dX9_toldMessage_36 (by decide) ?_
      refine lv_icmp_ne (tgt := 47) hx hb dX9_toldMessage_37 (by decide) (fun c866 => ?_) (fun c866 => ?_)
      · have c866 : ¬ k = 2 := fun h9 => c866 ((nI_eq (a := k) (b := 2) (by omega) (by omega)).mpr h9)
        refine lv_aload_n hx hb dX9_toldMessage_47 rfl (lv_at hl 1 rfl) ?_
        refine va_get (D := D) (ci := 9) (v := .ref f861_8) (C := RX9) (T := TX9) (N := 18) hx hb hts iX9_toldMessage_9 hown hN.1 hP 1 rfl rfl 8 (by decide) (hts _ mX9_toldMessage_1) (fun _ h9 => h9) rfl dX9_toldMessage_48 ?_
        refine lv_iload_n hx hb dX9_toldMessage_51 rfl (lv_at hl 2 rfl) ?_
        refine lv_iload_n hx hb dX9_toldMessage_52 rfl (lv_at hl 3 rfl) ?_
        refine lv_iadd hx hb dX9_toldMessage_53 ?_
        refine tp_i (nI ((1383 + 6 * n) + k)) (nI_add (1383 + 6 * n) k) ?_
        refine lv_iconst (v := 2) hx hb dX9_toldMessage_54 (by decide) ?_
        refine lv_isub hx hb dX9_toldMessage_55 ?_
        refine tp_i (nI (((1383 + 6 * n) + k) - 2)) (nI_subN (a := ((1383 + 6 * n) + k)) (b := 2) (by omega)) ?_
        refine ld_i (v := (g862 (((1383 + 6 * n) + k) - 2))) hx hb hN hP 0 rfl (vp_in_nI (n := (((1383 + 6 * n) + k) - 2)) (N := 45783) (by omega) (by omega)) (by rw [(show ((nI (((1383 + 6 * n) + k) - 2)) : Int32).toNatClampNeg = (((1383 + 6 * n) + k) - 2) from nI_clamp (n := (((1383 + 6 * n) + k) - 2)) (by omega))]) dX9_toldMessage_56 ?_
        refine gn_i (fun x867 => ?_)
        exact en_i hx hb hr hlocks hL rfl (Nat.zero_le _) (Nat.zero_le _) dX9_toldMessage_57 (rfl)
      · have c866 : k = 2 := (nI_eq (a := k) (b := 2) (by omega) (by omega)).mp c866
        refine lv_iload_n hx hb dX9_toldMessage_40 rfl (lv_at hl 0 rfl) ?_
        refine lv_bipush (v := 64) hx hb dX9_toldMessage_41 (by decide) ?_
        refine lv_idiv hx hb dX9_toldMessage_43 (by decide) ?_
        refine gn_i (fun x868 => ?_)
        refine lv_goto (tgt := 57) hx hb dX9_toldMessage_44 (by decide) ?_
        exact en_i hx hb hr hlocks hL rfl (Nat.zero_le _) (Nat.zero_le _) dX9_toldMessage_57 (rfl)
    · have c865 : k = 1 := (nI_eq (a := k) (b := 1) (by omega) (by omega)).mp c865
      refine lv_iload_n hx hb dX9_toldMessage_25 rfl (lv_at hl 0 rfl) ?_
      refine lv_bipush (v := 8) hx hb dX9_toldMessage_26 (by decide) ?_
      refine lv_idiv hx hb dX9_toldMessage_28 (by decide) ?_
      refine gn_i (fun x869 => ?_)
      refine lv_bipush (v := 8) hx hb dX9_toldMessage_29 (by decide) ?_
      refine lv_irem hx hb dX9_toldMessage_31 (by decide) ?_
      refine gn_i (fun x870 => ?_)
      refine lv_goto (tgt := 57) hx hb dX9_toldMessage_32 (by decide) ?_
      exact en_i hx hb hr hlocks hL rfl (Nat.zero_le _) (Nat.zero_le _) dX9_toldMessage_57 (rfl)
  · have c864 : k = 0 := (nI_eq (a := k) (b := 0) (by omega) (by omega)).mp c864
    refine lv_iload_n hx hb dX9_toldMessage_13 rfl (lv_at hl 0 rfl) ?_
    refine lv_bipush (v := 8) hx hb dX9_toldMessage_14 (by decide) ?_
    refine lv_irem hx hb dX9_toldMessage_16 (by decide) ?_
    refine gn_i (fun x871 => ?_)
    refine lv_goto (tgt := 57) hx hb dX9_toldMessage_17 (by decide) ?_
    exact en_i hx hb hr hlocks hL rfl (Nat.zero_le _) (Nat.zero_le _) dX9_toldMessage_57 (rfl)
theorem mX9_mayPropose_1 : (.fieldLink RX9 18 "OneBeatModel" "data" "[I" : Cond) ∈ wsX9_mayPropose := List.mem_of_getElem? (i := 1) (by decide +kernel)
theorem iX9_mayPropose_9 : ∀ w ∈ wsX90, w ∈ wsX9_mayPropose := fun w h => List.mem_of_mem_drop (List.mem_of_mem_take ((show wsX90 = (wsX9_mayPropose.drop 18).take 18 by decide +kernel) ▸ h))
set_option maxHeartbeats 4000000 in
set_option maxRecDepth 100000 in
theorem c_X9_mayPropose {l : Launch} {D : va_G} {cs : Nat → ClassId} {B0 T : Nat} {κ : KM} {H0 : Heap} (hT : WT B0 D cs T κ H0) {w : Nat} (hw : T2 κ w 10 12) : KC l yX9_mayPropose wsX9_mayPropose 3 63 0 0 D cs B0 H0 [.ref w] (Qi (fun r H => H = H0 ∧ (r = 0 ∨ r = 1))) := by
  refine KC.of cX9_mayPropose 1 (some .boolean) (by decide) rfl (Nat.le_of_ble_eq_true rfl) ?_
  intro p e s m below meth c ls hx hb hr hml hown hts hlocks hin hN hH0 hl
  have hown : s.vm.findClass RX9 = some m.cls := hown
  have hl : lv_has ls 1 [(0, .ref w)] := hl
  have hL : OkL B0 [] := OkL.nil
  refine lv_aload_n hx hb dX9_mayPropose_0 rfl (lv_at hl 0 rfl) ?_
  refine lv_aload_n hx hb dX9_mayPropose_1 rfl (lv_at hl 0 rfl) ?_
  obtain ⟨hb872, e872, hat872, hk872⟩ := hT.o10 hw.1
  obtain ⟨f872_0, f872_1, f872_3, f872_4, f872_5, f872_6, f872_7, f872_8, f872_9, f872_10, f872_11, f872_12, f872_13, f872_14, f872_15, f872_16, f872_17, rfl, c872_2, c872_3, c872_4, c872_12, t872_1, t872_8, t872_9, c872_sd, t872_10, t872_11, t872_17⟩ := hk872
  have hP : va_P D vwCl [(w, .inr (9, [.int f872_0, .ref f872_1, .int (nI ((κ w).2.2.1)), .int (nI f872_3), .int (nI f872_4), .int f872_5, .int f872_6, .int f872_7, .ref f872_8, .ref f872_9, .ref f872_10, .ref f872_11, .int (nI f872_12), .int f872_13, .int f872_14, .int f872_15, .int f872_16, .ref f872_17]))] _ := va_P.cons hat872 va_P.nil
  refine va_get (D := D) (ci := 9) (v := .ref f872_8) (C := RX9) (T := TX9) (N := 18) hx hb hts iX9_mayPropose_9 hown hN.1 hP 0 rfl rfl 8 (by decide) (hts _ mX9_mayPropose_1) (fun _ h9 => h9) rfl dX9_mayPropose_2 ?_
  refine lv_iconst (v := 2) hx hb dX9_mayPropose_5 (by decide) ?_
  obtain ⟨hb873, e873, hat873, hk873⟩ := hT.o24 t872_8.1
  obtain ⟨g873, rfl, q873⟩ := hk873
  have hP : va_P D vwCl [(f872_8, .inl (cs 0, 45783, .inl g873)), (w, .inr (9, [.int f872_0, .ref f872_1, .int (nI ((κ w).2.2.1)), .int (nI f872_3), .int (nI f872_4), .int f872_5, .int f872_6, .int f872_7, .ref f872_8, .ref f872_9, .ref f872_10, .ref f872_11, .int (nI f872_12), .int f872_13, .int f872_14, .int f872_15, .int f872_16, .ref f872_17]))] _ := va_P.cons hat873 hP
  refine ld_i (v := (g873 2)) hx hb hN hP 0 rfl (vp_in_nI (n := 2) (N := 45783) (by omega) (by omega)) (by rw [(show (2 : Int32).toNatClampNeg = 2 from nI_clamp (n := 2) (by omega))]) dX9_mayPropose_6 ?_
  obtain ⟨n874, hn874, en874⟩ := q873.2.2.1
  refine tp_i (nI n874) en874 ?_
  refine cv_i (As := [.int (nI n874)]) (rest := []) (b := w) ⟨hx, hb, hml, hown, hts⟩ (c_X9_isUp hT (w := w) hw (n := n874) (by first | omega | decide | assumption)) (cwV 1 hts gX9_mayPropose_X9_isUp rfl rfl rfl hdX9_isUp_v ⟨Nat.le_of_ble_eq_true rfl, Nat.le_of_ble_eq_true rfl⟩) hN hL (rcv10 hN hT hw.1) rfl rfl hl.1 (Nat.le_of_ble_eq_true rfl) dX9_mayPropose_7 (Nat.zero_le _) (Nat.zero_le _) (fun r875 H1 locs hL hqr875 => ?_)
  obtain ⟨rfl, hqr875⟩ := hqr875
  rcases hqr875 with rfl | rfl
  · refine lv_if_eq (tgt := 24) hx hb dX9_mayPropose_10 (by decide) (fun _ => ?_) (fun c9 => absurd (by decide) c9)
    refine lv_iconst (v := 0) hx hb dX9_mayPropose_24 (by decide) ?_
    exact en_i hx hb hr hlocks hL rfl (Nat.zero_le _) (Nat.zero_le _) dX9_mayPropose_25 (⟨rfl, Or.inl rfl⟩)
  · refine lv_if_eq (tgt := 24) hx hb dX9_mayPropose_10 (by decide) (fun c9 => absurd c9 (by decide)) (fun _ => ?_)
    refine lv_aload_n hx hb dX9_mayPropose_13 rfl (lv_at hl 0 rfl) ?_
    refine cv_i (As := []) (rest := []) (b := w) ⟨hx, hb, hml, hown, hts⟩ (c_X9_isOpen hT (w := w) hw) (cwV 0 hts gX9_mayPropose_X9_isOpen rfl rfl rfl hdX9_isOpen_v ⟨Nat.le_of_ble_eq_true rfl, Nat.le_of_ble_eq_true rfl⟩) hN hL (rcv10 hN hT hw.1) rfl rfl hl.1 (Nat.le_of_ble_eq_true rfl) dX9_mayPropose_14 (Nat.zero_le _) (Nat.zero_le _) (fun r876 H1 locs hL hqr876 => ?_)
    obtain ⟨rfl, hqr876⟩ := hqr876
    rcases hqr876 with rfl | rfl
    · refine lv_if_ne (tgt := 24) hx hb dX9_mayPropose_17 (by decide) (fun c9 => absurd (by decide) c9) (fun _ => ?_)
      refine lv_iconst (v := 1) hx hb dX9_mayPropose_20 (by decide) ?_
      refine lv_goto (tgt := 25) hx hb dX9_mayPropose_21 (by decide) ?_
      exact en_i hx hb hr hlocks hL rfl (Nat.zero_le _) (Nat.zero_le _) dX9_mayPropose_25 (⟨rfl, Or.inr rfl⟩)
    · refine lv_if_ne (tgt := 24) hx hb dX9_mayPropose_17 (by decide) (fun _ => ?_) (fun c9 => absurd c9 (by decide))
      refine lv_iconst (v := 0) hx hb dX9_mayPropose_24 (by decide) ?_
      exact en_i hx hb hr hlocks hL rfl (Nat.zero_le _) (Nat.zero_le _) dX9_mayPropose_25 (⟨rfl, Or.inl rfl⟩)
